theorem kx_append (a1 : Int32) (x9 : Nat → Int32) : s_X11_append_k a1 x9 = 0 ∨ s_X11_append_k a1 x9 = 1 ∨ s_X11_append_k a1 x9 = 2 := by
  unfold s_X11_append_k
  exact k_ite (Q := (fun x : Int32 => x = 0 ∨ x = 1 ∨ x = 2)) (Or.inr (Or.inl rfl)) (k_ite (Q := (fun x : Int32 => x = 0 ∨ x = 1 ∨ x = 2)) (k_ite (Q := (fun x : Int32 => x = 0 ∨ x = 1 ∨ x = 2)) (Or.inl rfl) (Or.inr (Or.inr rfl))) (Or.inr (Or.inl rfl)))
abbrev rmL_append : Room := ({ frames := 7, cells := 1, slots := 6, locals := 111 } : Room)
set_option maxHeartbeats 400000 in
set_option maxRecDepth 100000 in
theorem c_L_append_y (l : Launch) (G : va_G) (y : Nat → ClassId) (h : Nat) (a1 : Int32) (qt : Nat) (fh : Nat) (kh : Nat) (ch : Nat) (qh : Nat) (qs : Nat) (q : Nat) (x9 : Nat → Int32) (ft : Nat → Int32) (jq : Nat) (jo : Nat → Int64) (sz : Nat) (hk0 : (s_X11_append_k a1 x9) = 0) (hfl : l.stackTraces = false) : vx_Met l yL_append wsL_append rmL_append (PHL G y [.ref h, .int a1, .ref jq] ([aJ y jq 1 jo] ++ [kX11 h qt fh kh ch qh qs Z0, kX9 qt q x9, aC y q 60 ft]) sz) (QHi G 0 (fun _ : Unit => ([aJ y jq 1 (vp_updL jo 0 ((s_X11_append_r x9)).toInt64)] ++ [kX11 h qt fh kh ch qh qs Z0, kX9 qt q (s_X11_append_w1 x9), aC y q 60 (s_X11_append_w2 a1 x9 ft)])) (va_A ([aJ y jq 1 jo] ++ [kX11 h qt fh kh ch qh qs Z0, kX9 qt q x9, aC y q 60 ft]) sz)) XN 1 6 (va_A ([aJ y jq 1 jo] ++ [kX11 h qt fh kh ch qh qs Z0, kX9 qt q x9, aC y q 60 ft]) sz) := by
  refine vx_ofWH (cc := cL_append) (maxL := 4) (ret := (some .int)) (hh := [(0, 9, 12, 13), (0, 9, 15, 15)]) (by decide) rfl ?_
  intro p e s m args below meth c s₁ B hml hv
  obtain ⟨rfl, hsz, hP, ⟨hK, hN⟩, hD0, hTY⟩ := hv
  have hx := B.exec
  have hb := B.bytes
  have hr := B.returns
  have hts := atoms_spec (ws := wsL_append) B.pre
  have hown : s.vm.findClass RL = some m.cls := findClass_of_methodNamed B.named
  have hlocks := B.notSynchronized
  have htb : c.exceptionTable.toList = tableOf [(0, 9, 12, 13), (0, 9, 15, 15)] := vx_table (x := yL_append) B (hts (.codeWith yL_append cL_append 4 (some .int) [(0, 9, 12, 13), (0, 9, 15, 15)]) (List.mem_cons_self))
  subst hsz
  have hD := hD0.self (sz := s.heap.size)
  generalize hAe : va_A ([aJ y jq 1 jo] ++ [kX11 h qt fh kh ch qh qs Z0, kX9 qt q x9, aC y q 60 ft]) s.heap.size = A at hD hTY ⊢
  have hA : ∀ q : Nat, s.heap.size ≤ q → A q := fun q h => by rw [← hAe]; exact Or.inr h
  have hS : va_S A s.heap s.heap [] := va_S.rf
  have hP : va_P G vwCl ([aJ y jq 1 jo] ++ [kX11 h qt fh kh ch qh qs Z0, kX9 qt q x9, aC y q 60 ft]) s.heap := hP
  have hK4 : va_K G vwCl (tyG y) s := hK.sub (tys' := tyG y) [0, 1, 2, 3] rfl
  have hl := lv_entry ([.ref h, .int a1, .ref jq]) (n := 4) (Nat.le_of_ble_eq_true rfl)
  rw [lg_entry_eq]
  generalize (lg_sl ([.ref h, .int a1, .ref jq]) ++ List.replicate (4 - (lg_sl ([.ref h, .int a1, .ref jq])).length) Slot.unset).toArray = ls at hl ⊢
  have hl : lv_has ls 4 [(0, .ref h), (1, .int a1), (2, .ref jq)] := hl
  obtain ⟨QQ, hQQ⟩ : ∃ zq9, zq9 = vx_MQ below (QHi G 0 (fun _ : Unit => ([aJ y jq 1 (vp_updL jo 0 ((s_X11_append_r x9)).toInt64)] ++ [kX11 h qt fh kh ch qh qs Z0, kX9 qt q (s_X11_append_w1 x9), aC y q 60 (s_X11_append_w2 a1 x9 ft)])) A) XN ([.ref h, .int a1, .ref jq] : List Value).toArray s 1 6 A := ⟨_, rfl⟩
  rw [← hQQ]
  refine lv_aload_n hx hb dL_append_0 rfl (lv_at hl 2 rfl) ?_
  refine lv_iconst (v := 0) hx hb dL_append_1 (by decide) ?_
  refine lv_aload_n hx hb dL_append_2 rfl (lv_at hl 0 rfl) ?_
  refine lv_iload_n hx hb dL_append_3 rfl (lv_at hl 1 rfl) ?_
  refine cl_X (wr := [aJ y jq 1 jo]) (wc := [kX11 h qt fh kh ch qh qs Z0, kX9 qt q x9, aC y q 60 ft]) (vx_runV (As := [.int a1]) (rest := [.int 0, .ref jq]) ⟨hx, hb, hml, hown, hts⟩ (c_X11_append l G y h a1 qt fh kh ch qh qs q x9 ft s.heap.size hfl) (cwV 1 hts gL_append_X11_append rfl rfl rfl (by decide +kernel) ⟨Nat.le_of_ble_eq_true rfl, Nat.le_of_ble_eq_true rfl⟩) (PHX_V (A0 := A) (P_r hP) hK4 hN (D_r hD) hTY.1 hS (F_r hD hS hA) (ci := 9) (q0 := 0) rfl rfl) rfl rfl hl.1 rfl (lv_room (Nat.le_of_ble_eq_true rfl)) dL_append_4 ⟨Nat.le_of_ble_eq_true rfl, Nat.le_of_ble_eq_true rfl⟩) hP hD hS hA (fun E ce q9 u H locs hE hP hD hS hce hcv hcl => ?_) (fun u H locs hP hD hS => ?_)
  · exact (exC_0 hk0 hE).elim
  · refine lv_i2l (v := ((s_X11_append_r x9)).toInt64) hx hb dL_append_7 rfl ?_
    refine as_o hx hb hK hP hD hS dL_append_8 (fun H locs hP hD hS => ?_)
    refine lv_goto (tgt := 18) hx hb dL_append_9 (by decide) ?_
    refine lv_iconst (v := 0) hx hb dL_append_18 (by decide) ?_
    rw [hQQ]
    refine vx_ret ?_
    exact W.iret hx hb hr (end_Hi u.1 hP hD hS rfl rfl) hS.2.2 dL_append_19
set_option maxHeartbeats 400000 in
set_option maxRecDepth 100000 in
theorem c_L_append_n (l : Launch) (G : va_G) (y : Nat → ClassId) (h : Nat) (a1 : Int32) (qt : Nat) (fh : Nat) (kh : Nat) (ch : Nat) (qh : Nat) (qs : Nat) (q : Nat) (x9 : Nat → Int32) (ft : Nat → Int32) (jq : Nat) (jo : Nat → Int64) (sz : Nat) (hk0 : ¬ (s_X11_append_k a1 x9) = 0) (hfl : l.stackTraces = false) : vx_Met l yL_append wsL_append rmL_append (PHL G y [.ref h, .int a1, .ref jq] ([aJ y jq 1 jo] ++ [kX11 h qt fh kh ch qh qs Z0, kX9 qt q x9, aC y q 60 ft]) sz) (QHi G (cdK 1 (s_X11_append_k a1 x9)) (fun _ : Unit => ([aJ y jq 1 jo] ++ [kX11 h qt fh kh ch qh qs Z0, kX9 qt q x9, aC y q 60 ft])) (va_A ([aJ y jq 1 jo] ++ [kX11 h qt fh kh ch qh qs Z0, kX9 qt q x9, aC y q 60 ft]) sz)) XN 1 6 (va_A ([aJ y jq 1 jo] ++ [kX11 h qt fh kh ch qh qs Z0, kX9 qt q x9, aC y q 60 ft]) sz) := by
  refine vx_ofWH (cc := cL_append) (maxL := 4) (ret := (some .int)) (hh := [(0, 9, 12, 13), (0, 9, 15, 15)]) (by decide) rfl ?_
  intro p e s m args below meth c s₁ B hml hv
  obtain ⟨rfl, hsz, hP, ⟨hK, hN⟩, hD0, hTY⟩ := hv
  have hx := B.exec
  have hb := B.bytes
  have hr := B.returns
  have hts := atoms_spec (ws := wsL_append) B.pre
  have hown : s.vm.findClass RL = some m.cls := findClass_of_methodNamed B.named
  have hlocks := B.notSynchronized
  have htb : c.exceptionTable.toList = tableOf [(0, 9, 12, 13), (0, 9, 15, 15)] := vx_table (x := yL_append) B (hts (.codeWith yL_append cL_append 4 (some .int) [(0, 9, 12, 13), (0, 9, 15, 15)]) (List.mem_cons_self))
  subst hsz
  have hD := hD0.self (sz := s.heap.size)
  generalize hAe : va_A ([aJ y jq 1 jo] ++ [kX11 h qt fh kh ch qh qs Z0, kX9 qt q x9, aC y q 60 ft]) s.heap.size = A at hD hTY ⊢
  have hA : ∀ q : Nat, s.heap.size ≤ q → A q := fun q h => by rw [← hAe]; exact Or.inr h
  have hS : va_S A s.heap s.heap [] := va_S.rf
  have hP : va_P G vwCl ([aJ y jq 1 jo] ++ [kX11 h qt fh kh ch qh qs Z0, kX9 qt q x9, aC y q 60 ft]) s.heap := hP
  have hK4 : va_K G vwCl (tyG y) s := hK.sub (tys' := tyG y) [0, 1, 2, 3] rfl
  have hl := lv_entry ([.ref h, .int a1, .ref jq]) (n := 4) (Nat.le_of_ble_eq_true rfl)
  rw [lg_entry_eq]
  generalize (lg_sl ([.ref h, .int a1, .ref jq]) ++ List.replicate (4 - (lg_sl ([.ref h, .int a1, .ref jq])).length) Slot.unset).toArray = ls at hl ⊢
  have hl : lv_has ls 4 [(0, .ref h), (1, .int a1), (2, .ref jq)] := hl
  obtain ⟨QQ, hQQ⟩ : ∃ zq9, zq9 = vx_MQ below (QHi G (cdK 1 (s_X11_append_k a1 x9)) (fun _ : Unit => ([aJ y jq 1 jo] ++ [kX11 h qt fh kh ch qh qs Z0, kX9 qt q x9, aC y q 60 ft])) A) XN ([.ref h, .int a1, .ref jq] : List Value).toArray s 1 6 A := ⟨_, rfl⟩
  rw [← hQQ]
  refine lv_aload_n hx hb dL_append_0 rfl (lv_at hl 2 rfl) ?_
  refine lv_iconst (v := 0) hx hb dL_append_1 (by decide) ?_
  refine lv_aload_n hx hb dL_append_2 rfl (lv_at hl 0 rfl) ?_
  refine lv_iload_n hx hb dL_append_3 rfl (lv_at hl 1 rfl) ?_
  refine cl_X (wr := [aJ y jq 1 jo]) (wc := [kX11 h qt fh kh ch qh qs Z0, kX9 qt q x9, aC y q 60 ft]) (vx_runV (As := [.int a1]) (rest := [.int 0, .ref jq]) ⟨hx, hb, hml, hown, hts⟩ (c_X11_append l G y h a1 qt fh kh ch qh qs q x9 ft s.heap.size hfl) (cwV 1 hts gL_append_X11_append rfl rfl rfl (by decide +kernel) ⟨Nat.le_of_ble_eq_true rfl, Nat.le_of_ble_eq_true rfl⟩) (PHX_V (A0 := A) (P_r hP) hK4 hN (D_r hD) hTY.1 hS (F_r hD hS hA) (ci := 9) (q0 := 0) rfl rfl) rfl rfl hl.1 rfl (lv_room (Nat.le_of_ble_eq_true rfl)) dL_append_4 ⟨Nat.le_of_ble_eq_true rfl, Nat.le_of_ble_eq_true rfl⟩) hP hD hS hA (fun E ce q9 u H locs hE hP hD hS hce hcv hcl => ?_) (fun u H locs hP hD hS => ?_)
  · rcases hE with ⟨rfl, hE⟩ | ⟨rfl, hE⟩ | ⟨rfl, hE⟩
    · refine vx_catch hown [] ⟨0, 9, 12, 13⟩ [⟨0, 9, 15, 15⟩] (htb.trans rfl) (fun z hz => by cases hz) (by decide) (by decide) (hts (.classLink RL 13 "java/lang/IllegalArgumentException") (by decide +kernel)) (va_Nw.use rfl (hTY.1.2.1 _ mIA)) hce hcv hcl ?_
      refine lv_astore_n (lv' := [(3, .ref q9), (0, .ref h), (1, .int a1), (2, .ref jq)]) hx hb dL_append_12 rfl hl (by decide) rfl (fun ls hl => ?_)
      refine lv_iconst (v := 1) hx hb dL_append_13 (by decide) ?_
      rw [hQQ]
      refine vx_ret ?_
      exact W.iret hx hb hr (end_Hi u hP hD hS (cd_1 hE (by decide)) rfl) hS.2.2 dL_append_14
    · refine vx_catch hown [⟨0, 9, 12, 13⟩] ⟨0, 9, 15, 15⟩ [] (htb.trans rfl) (fun z hz => by rcases List.mem_singleton.mp hz with rfl; exact Or.inr ⟨by decide, "java/lang/IllegalArgumentException", hts (.classLink RL 13 "java/lang/IllegalArgumentException") (by decide +kernel), hTY.2 _ mSA⟩) (by decide) (by decide) (hts (.classLink RL 15 "java/lang/IllegalStateException") (by decide +kernel)) (va_Nw.use rfl (hTY.1.2.1 _ mIS)) hce hcv hcl ?_
      refine lv_astore_n (lv' := [(3, .ref q9), (0, .ref h), (1, .int a1), (2, .ref jq)]) hx hb dL_append_15 rfl hl (by decide) rfl (fun ls hl => ?_)
      refine lv_iconst (v := 2) hx hb dL_append_16 (by decide) ?_
      rw [hQQ]
      refine vx_ret ?_
      exact W.iret hx hb hr (end_Hi u hP hD hS (cd_2 hE (by decide) (by decide)) rfl) hS.2.2 dL_append_17
    · rcases kx_append a1 x9 with k9 | k9 | k9
      · exact absurd (hE.trans k9) (by decide)
      · exact absurd (hE.trans k9) (by decide)
      · exact absurd (hE.trans k9) (by decide)
  · exact absurd u.2 hk0
theorem kx_load (x9 : Nat → Int32) (ft : Nat → Int32) : s_X11_load_k x9 ft = 0 ∨ s_X11_load_k x9 ft = 2 := by
  unfold s_X11_load_k
  exact k_ite (Q := (fun x : Int32 => x = 0 ∨ x = 2)) (Or.inl rfl) (Or.inr rfl)
abbrev rmL_load : Room := ({ frames := 7, cells := 1, slots := 6, locals := 134 } : Room)
set_option maxHeartbeats 400000 in
set_option maxRecDepth 100000 in
theorem c_L_load_y (l : Launch) (G : va_G) (y : Nat → ClassId) (h : Nat) (qt : Nat) (fh : Nat) (kh : Nat) (ch : Nat) (qh : Nat) (qs : Nat) (q : Nat) (x9 : Nat → Int32) (ft : Nat → Int32) (fua : Nat) (fub : Nat) (fuc : Nat) (fud : Nat) (fue : Nat) (zf : Nat → Nat → Int32) (fva : Nat) (fvc1 : Nat) (fvc2 : Nat) (fvc3 : Nat) (fvc4 : Nat) (fvc5 : Nat) (of : Nat → Int32) (fvd : Nat) (fve : Nat) (kua : Nat) (kub : Nat) (kuc : Nat) (kud : Nat) (kue : Nat) (z : Nat → Nat → Int32) (kva : Nat) (kvc1 : Nat) (kvc2 : Nat) (kvc3 : Nat) (kvc4 : Nat) (kvc5 : Nat) (o : Nat → Int32) (kvd : Nat) (kve : Nat) (a : Nat) (x : Nat → Int32) (sa : Nat) (sb : Nat) (x6 : Nat → Int32) (fl : Nat → Int32) (jq : Nat) (jo : Nat → Int64) (sz : Nat) (hrf : zf 3 7 = 0 ∨ zf 3 7 = 1) (hef : zf 3 10 = 0 ∨ zf 3 10 = 1) (hgof : zf 4 6 = 0 ∨ zf 4 6 = 1) (hk0 : (s_X11_load_k x9 ft) = 0) (hfl : l.stackTraces = false) : vx_Met l yL_load wsL_load rmL_load (PHL G y [.ref h, .ref jq] ([aJ y jq 1 jo] ++ [kX11 h qt fh kh ch qh qs Z0, kX9 qt q x9, aC y q 60 ft, kX7 fh fua fub fuc fud fue (zf 0), kX3 fua fva (zf 1), aI y fva 10 (zf 2), kX1 fub (zf 3), kX8 fuc fvc1 fvc2 fvc3 fvc4 fvc5 (zf 4), aI y fvc1 20 (zf 5), aI y fvc2 20 (zf 6), aI y fvc3 20 (zf 7), aI y fvc4 20 (zf 8), aI y fvc5 20 of, kX10 fud fvd (zf 9), aI y fvd 32 (zf 10), kX0 fue fve (zf 11), aI y fve 3 (zf 12), kX7 kh kua kub kuc kud kue (z 0), kX3 kua kva (z 1), aI y kva 10 (z 2), kX1 kub (z 3), kX8 kuc kvc1 kvc2 kvc3 kvc4 kvc5 (z 4), aI y kvc1 20 (z 5), aI y kvc2 20 (z 6), aI y kvc3 20 (z 7), aI y kvc4 20 (z 8), aI y kvc5 20 o, kX10 kud kvd (z 9), aI y kvd 32 (z 10), kX0 kue kve (z 11), aI y kve 3 (z 12), kX2 qh a x, kX6 qs sa sb x6, aZ y sb 2 fl]) sz) (QHi G 0 (fun _ : Unit => ([aJ y jq 1 (vp_updL jo 0 ((s_X11_load_r x9 ft zf)).toInt64)] ++ [kX11 h qt fh kh ch qh qs Z0, kX9 qt q (s_X11_load_w1 x9 ft), aC y q 60 ft, kX7 fh fua fub fuc fud fue (zf 0), kX3 fua fva (zf 1), aI y fva 10 (zf 2), kX1 fub (zf 3), kX8 fuc fvc1 fvc2 fvc3 fvc4 fvc5 (zf 4), aI y fvc1 20 (zf 5), aI y fvc2 20 (zf 6), aI y fvc3 20 (zf 7), aI y fvc4 20 (zf 8), aI y fvc5 20 of, kX10 fud fvd (zf 9), aI y fvd 32 (zf 10), kX0 fue fve (zf 11), aI y fve 3 (zf 12), kX7 kh kua kub kuc kud kue (s_X11_load_z x9 ft zf z 0), kX3 kua kva (s_X11_load_z x9 ft zf z 1), aI y kva 10 (s_X11_load_z x9 ft zf z 2), kX1 kub (s_X11_load_z x9 ft zf z 3), kX8 kuc kvc1 kvc2 kvc3 kvc4 kvc5 (s_X11_load_z x9 ft zf z 4), aI y kvc1 20 (s_X11_load_z x9 ft zf z 5), aI y kvc2 20 (s_X11_load_z x9 ft zf z 6), aI y kvc3 20 (s_X11_load_z x9 ft zf z 7), aI y kvc4 20 (s_X11_load_z x9 ft zf z 8), aI y kvc5 20 o, kX10 kud kvd (s_X11_load_z x9 ft zf z 9), aI y kvd 32 (s_X11_load_z x9 ft zf z 10), kX0 kue kve (s_X11_load_z x9 ft zf z 11), aI y kve 3 (s_X11_load_z x9 ft zf z 12), kX2 qh a (s_X11_load_w31 x), kX6 qs sa sb x6, aZ y sb 2 (s_X11_load_w33 fl)])) (va_A ([aJ y jq 1 jo] ++ [kX11 h qt fh kh ch qh qs Z0, kX9 qt q x9, aC y q 60 ft, kX7 fh fua fub fuc fud fue (zf 0), kX3 fua fva (zf 1), aI y fva 10 (zf 2), kX1 fub (zf 3), kX8 fuc fvc1 fvc2 fvc3 fvc4 fvc5 (zf 4), aI y fvc1 20 (zf 5), aI y fvc2 20 (zf 6), aI y fvc3 20 (zf 7), aI y fvc4 20 (zf 8), aI y fvc5 20 of, kX10 fud fvd (zf 9), aI y fvd 32 (zf 10), kX0 fue fve (zf 11), aI y fve 3 (zf 12), kX7 kh kua kub kuc kud kue (z 0), kX3 kua kva (z 1), aI y kva 10 (z 2), kX1 kub (z 3), kX8 kuc kvc1 kvc2 kvc3 kvc4 kvc5 (z 4), aI y kvc1 20 (z 5), aI y kvc2 20 (z 6), aI y kvc3 20 (z 7), aI y kvc4 20 (z 8), aI y kvc5 20 o, kX10 kud kvd (z 9), aI y kvd 32 (z 10), kX0 kue kve (z 11), aI y kve 3 (z 12), kX2 qh a x, kX6 qs sa sb x6, aZ y sb 2 fl]) sz)) XN 1 6 (va_A ([aJ y jq 1 jo] ++ [kX11 h qt fh kh ch qh qs Z0, kX9 qt q x9, aC y q 60 ft, kX7 fh fua fub fuc fud fue (zf 0), kX3 fua fva (zf 1), aI y fva 10 (zf 2), kX1 fub (zf 3), kX8 fuc fvc1 fvc2 fvc3 fvc4 fvc5 (zf 4), aI y fvc1 20 (zf 5), aI y fvc2 20 (zf 6), aI y fvc3 20 (zf 7), aI y fvc4 20 (zf 8), aI y fvc5 20 of, kX10 fud fvd (zf 9), aI y fvd 32 (zf 10), kX0 fue fve (zf 11), aI y fve 3 (zf 12), kX7 kh kua kub kuc kud kue (z 0), kX3 kua kva (z 1), aI y kva 10 (z 2), kX1 kub (z 3), kX8 kuc kvc1 kvc2 kvc3 kvc4 kvc5 (z 4), aI y kvc1 20 (z 5), aI y kvc2 20 (z 6), aI y kvc3 20 (z 7), aI y kvc4 20 (z 8), aI y kvc5 20 o, kX10 kud kvd (z 9), aI y kvd 32 (z 10), kX0 kue kve (z 11), aI y kve 3 (z 12), kX2 qh a x, kX6 qs sa sb x6, aZ y sb 2 fl]) sz) := by
  refine vx_ofWH (cc := cL_load) (maxL := 3) (ret := (some .int)) (hh := [(0, 8, 11, 15)]) (by decide) rfl ?_
  intro p e s m args below meth c s₁ B hml hv
  obtain ⟨rfl, hsz, hP, ⟨hK, hN⟩, hD0, hTY⟩ := hv
  have hx := B.exec
  have hb := B.bytes
  have hr := B.returns
  have hts := atoms_spec (ws := wsL_load) B.pre
  have hown : s.vm.findClass RL = some m.cls := findClass_of_methodNamed B.named
  have hlocks := B.notSynchronized
  have htb : c.exceptionTable.toList = tableOf [(0, 8, 11, 15)] := vx_table (x := yL_load) B (hts (.codeWith yL_load cL_load 3 (some .int) [(0, 8, 11, 15)]) (List.mem_cons_self))
  subst hsz
  have hD := hD0.self (sz := s.heap.size)
  generalize hAe : va_A ([aJ y jq 1 jo] ++ [kX11 h qt fh kh ch qh qs Z0, kX9 qt q x9, aC y q 60 ft, kX7 fh fua fub fuc fud fue (zf 0), kX3 fua fva (zf 1), aI y fva 10 (zf 2), kX1 fub (zf 3), kX8 fuc fvc1 fvc2 fvc3 fvc4 fvc5 (zf 4), aI y fvc1 20 (zf 5), aI y fvc2 20 (zf 6), aI y fvc3 20 (zf 7), aI y fvc4 20 (zf 8), aI y fvc5 20 of, kX10 fud fvd (zf 9), aI y fvd 32 (zf 10), kX0 fue fve (zf 11), aI y fve 3 (zf 12), kX7 kh kua kub kuc kud kue (z 0), kX3 kua kva (z 1), aI y kva 10 (z 2), kX1 kub (z 3), kX8 kuc kvc1 kvc2 kvc3 kvc4 kvc5 (z 4), aI y kvc1 20 (z 5), aI y kvc2 20 (z 6), aI y kvc3 20 (z 7), aI y kvc4 20 (z 8), aI y kvc5 20 o, kX10 kud kvd (z 9), aI y kvd 32 (z 10), kX0 kue kve (z 11), aI y kve 3 (z 12), kX2 qh a x, kX6 qs sa sb x6, aZ y sb 2 fl]) s.heap.size = A at hD hTY ⊢
  have hA : ∀ q : Nat, s.heap.size ≤ q → A q := fun q h => by rw [← hAe]; exact Or.inr h
  have hS : va_S A s.heap s.heap [] := va_S.rf
  have hP : va_P G vwCl ([aJ y jq 1 jo] ++ [kX11 h qt fh kh ch qh qs Z0, kX9 qt q x9, aC y q 60 ft, kX7 fh fua fub fuc fud fue (zf 0), kX3 fua fva (zf 1), aI y fva 10 (zf 2), kX1 fub (zf 3), kX8 fuc fvc1 fvc2 fvc3 fvc4 fvc5 (zf 4), aI y fvc1 20 (zf 5), aI y fvc2 20 (zf 6), aI y fvc3 20 (zf 7), aI y fvc4 20 (zf 8), aI y fvc5 20 of, kX10 fud fvd (zf 9), aI y fvd 32 (zf 10), kX0 fue fve (zf 11), aI y fve 3 (zf 12), kX7 kh kua kub kuc kud kue (z 0), kX3 kua kva (z 1), aI y kva 10 (z 2), kX1 kub (z 3), kX8 kuc kvc1 kvc2 kvc3 kvc4 kvc5 (z 4), aI y kvc1 20 (z 5), aI y kvc2 20 (z 6), aI y kvc3 20 (z 7), aI y kvc4 20 (z 8), aI y kvc5 20 o, kX10 kud kvd (z 9), aI y kvd 32 (z 10), kX0 kue kve (z 11), aI y kve 3 (z 12), kX2 qh a x, kX6 qs sa sb x6, aZ y sb 2 fl]) s.heap := hP
  have hK4 : va_K G vwCl (tyG y) s := hK.sub (tys' := tyG y) [0, 1, 2, 3] rfl
  have hl := lv_entry ([.ref h, .ref jq]) (n := 3) (Nat.le_of_ble_eq_true rfl)
  rw [lg_entry_eq]
  generalize (lg_sl ([.ref h, .ref jq]) ++ List.replicate (3 - (lg_sl ([.ref h, .ref jq])).length) Slot.unset).toArray = ls at hl ⊢
  have hl : lv_has ls 3 [(0, .ref h), (1, .ref jq)] := hl
  obtain ⟨QQ, hQQ⟩ : ∃ zq9, zq9 = vx_MQ below (QHi G 0 (fun _ : Unit => ([aJ y jq 1 (vp_updL jo 0 ((s_X11_load_r x9 ft zf)).toInt64)] ++ [kX11 h qt fh kh ch qh qs Z0, kX9 qt q (s_X11_load_w1 x9 ft), aC y q 60 ft, kX7 fh fua fub fuc fud fue (zf 0), kX3 fua fva (zf 1), aI y fva 10 (zf 2), kX1 fub (zf 3), kX8 fuc fvc1 fvc2 fvc3 fvc4 fvc5 (zf 4), aI y fvc1 20 (zf 5), aI y fvc2 20 (zf 6), aI y fvc3 20 (zf 7), aI y fvc4 20 (zf 8), aI y fvc5 20 of, kX10 fud fvd (zf 9), aI y fvd 32 (zf 10), kX0 fue fve (zf 11), aI y fve 3 (zf 12), kX7 kh kua kub kuc kud kue (s_X11_load_z x9 ft zf z 0), kX3 kua kva (s_X11_load_z x9 ft zf z 1), aI y kva 10 (s_X11_load_z x9 ft zf z 2), kX1 kub (s_X11_load_z x9 ft zf z 3), kX8 kuc kvc1 kvc2 kvc3 kvc4 kvc5 (s_X11_load_z x9 ft zf z 4), aI y kvc1 20 (s_X11_load_z x9 ft zf z 5), aI y kvc2 20 (s_X11_load_z x9 ft zf z 6), aI y kvc3 20 (s_X11_load_z x9 ft zf z 7), aI y kvc4 20 (s_X11_load_z x9 ft zf z 8), aI y kvc5 20 o, kX10 kud kvd (s_X11_load_z x9 ft zf z 9), aI y kvd 32 (s_X11_load_z x9 ft zf z 10), kX0 kue kve (s_X11_load_z x9 ft zf z 11), aI y kve 3 (s_X11_load_z x9 ft zf z 12), kX2 qh a (s_X11_load_w31 x), kX6 qs sa sb x6, aZ y sb 2 (s_X11_load_w33 fl)])) A) XN ([.ref h, .ref jq] : List Value).toArray s 1 6 A := ⟨_, rfl⟩
  rw [← hQQ]
  refine lv_aload_n hx hb dL_load_0 rfl (lv_at hl 1 rfl) ?_
  refine lv_iconst (v := 0) hx hb dL_load_1 (by decide) ?_
  refine lv_aload_n hx hb dL_load_2 rfl (lv_at hl 0 rfl) ?_
  refine cl_X (wr := [aJ y jq 1 jo]) (wc := [kX11 h qt fh kh ch qh qs Z0, kX9 qt q x9, aC y q 60 ft, kX7 fh fua fub fuc fud fue (zf 0), kX3 fua fva (zf 1), aI y fva 10 (zf 2), kX1 fub (zf 3), kX8 fuc fvc1 fvc2 fvc3 fvc4 fvc5 (zf 4), aI y fvc1 20 (zf 5), aI y fvc2 20 (zf 6), aI y fvc3 20 (zf 7), aI y fvc4 20 (zf 8), aI y fvc5 20 of, kX10 fud fvd (zf 9), aI y fvd 32 (zf 10), kX0 fue fve (zf 11), aI y fve 3 (zf 12), kX7 kh kua kub kuc kud kue (z 0), kX3 kua kva (z 1), aI y kva 10 (z 2), kX1 kub (z 3), kX8 kuc kvc1 kvc2 kvc3 kvc4 kvc5 (z 4), aI y kvc1 20 (z 5), aI y kvc2 20 (z 6), aI y kvc3 20 (z 7), aI y kvc4 20 (z 8), aI y kvc5 20 o, kX10 kud kvd (z 9), aI y kvd 32 (z 10), kX0 kue kve (z 11), aI y kve 3 (z 12), kX2 qh a x, kX6 qs sa sb x6, aZ y sb 2 fl]) (vx_runV (As := []) (rest := [.int 0, .ref jq]) ⟨hx, hb, hml, hown, hts⟩ (c_X11_load l G y h qt fh kh ch qh qs q x9 ft fua fub fuc fud fue zf fva fvc1 fvc2 fvc3 fvc4 fvc5 of fvd fve kua kub kuc kud kue z kva kvc1 kvc2 kvc3 kvc4 kvc5 o kvd kve a x sa sb x6 fl s.heap.size hrf hef hgof hfl) (cwV 0 hts gL_load_X11_load rfl rfl rfl (by decide +kernel) ⟨Nat.le_of_ble_eq_true rfl, Nat.le_of_ble_eq_true rfl⟩) (PHX_V (A0 := A) (P_r hP) hK4 hN (D_r hD) hTY.1 hS (F_r hD hS hA) (ci := 9) (q0 := 0) rfl rfl) rfl rfl hl.1 rfl (lv_room (Nat.le_of_ble_eq_true rfl)) dL_load_3 ⟨Nat.le_of_ble_eq_true rfl, Nat.le_of_ble_eq_true rfl⟩) hP hD hS hA (fun E ce q9 u H locs hE hP hD hS hce hcv hcl => ?_) (fun u H locs hP hD hS => ?_)
  · exact (exC_0 hk0 hE).elim
  · refine lv_i2l (v := ((s_X11_load_r x9 ft zf)).toInt64) hx hb dL_load_6 rfl ?_
    refine as_o hx hb hK hP hD hS dL_load_7 (fun H locs hP hD hS => ?_)
    refine lv_goto (tgt := 14) hx hb dL_load_8 (by decide) ?_
    refine lv_iconst (v := 0) hx hb dL_load_14 (by decide) ?_
    rw [hQQ]
    refine vx_ret ?_
    exact W.iret hx hb hr (end_Hi u.1 hP hD hS rfl rfl) hS.2.2 dL_load_15
set_option maxHeartbeats 400000 in
set_option maxRecDepth 100000 in
theorem c_L_load_n (l : Launch) (G : va_G) (y : Nat → ClassId) (h : Nat) (qt : Nat) (fh : Nat) (kh : Nat) (ch : Nat) (qh : Nat) (qs : Nat) (q : Nat) (x9 : Nat → Int32) (ft : Nat → Int32) (fua : Nat) (fub : Nat) (fuc : Nat) (fud : Nat) (fue : Nat) (zf : Nat → Nat → Int32) (fva : Nat) (fvc1 : Nat) (fvc2 : Nat) (fvc3 : Nat) (fvc4 : Nat) (fvc5 : Nat) (of : Nat → Int32) (fvd : Nat) (fve : Nat) (kua : Nat) (kub : Nat) (kuc : Nat) (kud : Nat) (kue : Nat) (z : Nat → Nat → Int32) (kva : Nat) (kvc1 : Nat) (kvc2 : Nat) (kvc3 : Nat) (kvc4 : Nat) (kvc5 : Nat) (o : Nat → Int32) (kvd : Nat) (kve : Nat) (a : Nat) (x : Nat → Int32) (sa : Nat) (sb : Nat) (x6 : Nat → Int32) (fl : Nat → Int32) (jq : Nat) (jo : Nat → Int64) (sz : Nat) (hrf : zf 3 7 = 0 ∨ zf 3 7 = 1) (hef : zf 3 10 = 0 ∨ zf 3 10 = 1) (hgof : zf 4 6 = 0 ∨ zf 4 6 = 1) (hk0 : ¬ (s_X11_load_k x9 ft) = 0) (hfl : l.stackTraces = false) : vx_Met l yL_load wsL_load rmL_load (PHL G y [.ref h, .ref jq] ([aJ y jq 1 jo] ++ [kX11 h qt fh kh ch qh qs Z0, kX9 qt q x9, aC y q 60 ft, kX7 fh fua fub fuc fud fue (zf 0), kX3 fua fva (zf 1), aI y fva 10 (zf 2), kX1 fub (zf 3), kX8 fuc fvc1 fvc2 fvc3 fvc4 fvc5 (zf 4), aI y fvc1 20 (zf 5), aI y fvc2 20 (zf 6), aI y fvc3 20 (zf 7), aI y fvc4 20 (zf 8), aI y fvc5 20 of, kX10 fud fvd (zf 9), aI y fvd 32 (zf 10), kX0 fue fve (zf 11), aI y fve 3 (zf 12), kX7 kh kua kub kuc kud kue (z 0), kX3 kua kva (z 1), aI y kva 10 (z 2), kX1 kub (z 3), kX8 kuc kvc1 kvc2 kvc3 kvc4 kvc5 (z 4), aI y kvc1 20 (z 5), aI y kvc2 20 (z 6), aI y kvc3 20 (z 7), aI y kvc4 20 (z 8), aI y kvc5 20 o, kX10 kud kvd (z 9), aI y kvd 32 (z 10), kX0 kue kve (z 11), aI y kve 3 (z 12), kX2 qh a x, kX6 qs sa sb x6, aZ y sb 2 fl]) sz) (QHi G (cdK 2 (s_X11_load_k x9 ft)) (fun _ : Unit => ([aJ y jq 1 jo] ++ [kX11 h qt fh kh ch qh qs Z0, kX9 qt q (s_X11_load_x1 x9 ft), aC y q 60 ft, kX7 fh fua fub fuc fud fue (zf 0), kX3 fua fva (zf 1), aI y fva 10 (zf 2), kX1 fub (zf 3), kX8 fuc fvc1 fvc2 fvc3 fvc4 fvc5 (zf 4), aI y fvc1 20 (zf 5), aI y fvc2 20 (zf 6), aI y fvc3 20 (zf 7), aI y fvc4 20 (zf 8), aI y fvc5 20 of, kX10 fud fvd (zf 9), aI y fvd 32 (zf 10), kX0 fue fve (zf 11), aI y fve 3 (zf 12), kX7 kh kua kub kuc kud kue (z 0), kX3 kua kva (z 1), aI y kva 10 (z 2), kX1 kub (z 3), kX8 kuc kvc1 kvc2 kvc3 kvc4 kvc5 (z 4), aI y kvc1 20 (z 5), aI y kvc2 20 (z 6), aI y kvc3 20 (z 7), aI y kvc4 20 (z 8), aI y kvc5 20 o, kX10 kud kvd (z 9), aI y kvd 32 (z 10), kX0 kue kve (z 11), aI y kve 3 (z 12), kX2 qh a x, kX6 qs sa sb x6, aZ y sb 2 fl])) (va_A ([aJ y jq 1 jo] ++ [kX11 h qt fh kh ch qh qs Z0, kX9 qt q x9, aC y q 60 ft, kX7 fh fua fub fuc fud fue (zf 0), kX3 fua fva (zf 1), aI y fva 10 (zf 2), kX1 fub (zf 3), kX8 fuc fvc1 fvc2 fvc3 fvc4 fvc5 (zf 4), aI y fvc1 20 (zf 5), aI y fvc2 20 (zf 6), aI y fvc3 20 (zf 7), aI y fvc4 20 (zf 8), aI y fvc5 20 of, kX10 fud fvd (zf 9), aI y fvd 32 (zf 10), kX0 fue fve (zf 11), aI y fve 3 (zf 12), kX7 kh kua kub kuc kud kue (z 0), kX3 kua kva (z 1), aI y kva 10 (z 2), kX1 kub (z 3), kX8 kuc kvc1 kvc2 kvc3 kvc4 kvc5 (z 4), aI y kvc1 20 (z 5), aI y kvc2 20 (z 6), aI y kvc3 20 (z 7), aI y kvc4 20 (z 8), aI y kvc5 20 o, kX10 kud kvd (z 9), aI y kvd 32 (z 10), kX0 kue kve (z 11), aI y kve 3 (z 12), kX2 qh a x, kX6 qs sa sb x6, aZ y sb 2 fl]) sz)) XN 1 6 (va_A ([aJ y jq 1 jo] ++ [kX11 h qt fh kh ch qh qs Z0, kX9 qt q x9, aC y q 60 ft, kX7 fh fua fub fuc fud fue (zf 0), kX3 fua fva (zf 1), aI y fva 10 (zf 2), kX1 fub (zf 3), kX8 fuc fvc1 fvc2 fvc3 fvc4 fvc5 (zf 4), aI y fvc1 20 (zf 5), aI y fvc2 20 (zf 6), aI y fvc3 20 (zf 7), aI y fvc4 20 (zf 8), aI y fvc5 20 of, kX10 fud fvd (zf 9), aI y fvd 32 (zf 10), kX0 fue fve (zf 11), aI y fve 3 (zf 12), kX7 kh kua kub kuc kud kue (z 0), kX3 kua kva (z 1), aI y kva 10 (z 2), kX1 kub (z 3), kX8 kuc kvc1 kvc2 kvc3 kvc4 kvc5 (z 4), aI y kvc1 20 (z 5), aI y kvc2 20 (z 6), aI y kvc3 20 (z 7), aI y kvc4 20 (z 8), aI y kvc5 20 o, kX10 kud kvd (z 9), aI y kvd 32 (z 10), kX0 kue kve (z 11), aI y kve 3 (z 12), kX2 qh a x, kX6 qs sa sb x6, aZ y sb 2 fl]) sz) := by
  refine vx_ofWH (cc := cL_load) (maxL := 3) (ret := (some .int)) (hh := [(0, 8, 11, 15)]) (by decide) rfl ?_
  intro p e s m args below meth c s₁ B hml hv
  obtain ⟨rfl, hsz, hP, ⟨hK, hN⟩, hD0, hTY⟩ := hv
  have hx := B.exec
  have hb := B.bytes
  have hr := B.returns
  have hts := atoms_spec (ws := wsL_load) B.pre
  have hown : s.vm.findClass RL = some m.cls := findClass_of_methodNamed B.named
  have hlocks := B.notSynchronized
  have htb : c.exceptionTable.toList = tableOf [(0, 8, 11, 15)] := vx_table (x := yL_load) B (hts (.codeWith yL_load cL_load 3 (some .int) [(0, 8, 11, 15)]) (List.mem_cons_self))
  subst hsz
  have hD := hD0.self (sz := s.heap.size)
  generalize hAe : va_A ([aJ y jq 1 jo] ++ [kX11 h qt fh kh ch qh qs Z0, kX9 qt q x9, aC y q 60 ft, kX7 fh fua fub fuc fud fue (zf 0), kX3 fua fva (zf 1), aI y fva 10 (zf 2), kX1 fub (zf 3), kX8 fuc fvc1 fvc2 fvc3 fvc4 fvc5 (zf 4), aI y fvc1 20 (zf 5), aI y fvc2 20 (zf 6), aI y fvc3 20 (zf 7), aI y fvc4 20 (zf 8), aI y fvc5 20 of, kX10 fud fvd (zf 9), aI y fvd 32 (zf 10), kX0 fue fve (zf 11), aI y fve 3 (zf 12), kX7 kh kua kub kuc kud kue (z 0), kX3 kua kva (z 1), aI y kva 10 (z 2), kX1 kub (z 3), kX8 kuc kvc1 kvc2 kvc3 kvc4 kvc5 (z 4), aI y kvc1 20 (z 5), aI y kvc2 20 (z 6), aI y kvc3 20 (z 7), aI y kvc4 20 (z 8), aI y kvc5 20 o, kX10 kud kvd (z 9), aI y kvd 32 (z 10), kX0 kue kve (z 11), aI y kve 3 (z 12), kX2 qh a x, kX6 qs sa sb x6, aZ y sb 2 fl]) s.heap.size = A at hD hTY ⊢
  have hA : ∀ q : Nat, s.heap.size ≤ q → A q := fun q h => by rw [← hAe]; exact Or.inr h
  have hS : va_S A s.heap s.heap [] := va_S.rf
  have hP : va_P G vwCl ([aJ y jq 1 jo] ++ [kX11 h qt fh kh ch qh qs Z0, kX9 qt q x9, aC y q 60 ft, kX7 fh fua fub fuc fud fue (zf 0), kX3 fua fva (zf 1), aI y fva 10 (zf 2), kX1 fub (zf 3), kX8 fuc fvc1 fvc2 fvc3 fvc4 fvc5 (zf 4), aI y fvc1 20 (zf 5), aI y fvc2 20 (zf 6), aI y fvc3 20 (zf 7), aI y fvc4 20 (zf 8), aI y fvc5 20 of, kX10 fud fvd (zf 9), aI y fvd 32 (zf 10), kX0 fue fve (zf 11), aI y fve 3 (zf 12), kX7 kh kua kub kuc kud kue (z 0), kX3 kua kva (z 1), aI y kva 10 (z 2), kX1 kub (z 3), kX8 kuc kvc1 kvc2 kvc3 kvc4 kvc5 (z 4), aI y kvc1 20 (z 5), aI y kvc2 20 (z 6), aI y kvc3 20 (z 7), aI y kvc4 20 (z 8), aI y kvc5 20 o, kX10 kud kvd (z 9), aI y kvd 32 (z 10), kX0 kue kve (z 11), aI y kve 3 (z 12), kX2 qh a x, kX6 qs sa sb x6, aZ y sb 2 fl]) s.heap := hP
  have hK4 : va_K G vwCl (tyG y) s := hK.sub (tys' := tyG y) [0, 1, 2, 3] rfl
  have hl := lv_entry ([.ref h, .ref jq]) (n := 3) (Nat.le_of_ble_eq_true rfl)
  rw [lg_entry_eq]
  generalize (lg_sl ([.ref h, .ref jq]) ++ List.replicate (3 - (lg_sl ([.ref h, .ref jq])).length) Slot.unset).toArray = ls at hl ⊢
  have hl : lv_has ls 3 [(0, .ref h), (1, .ref jq)] := hl
  obtain ⟨QQ, hQQ⟩ : ∃ zq9, zq9 = vx_MQ below (QHi G (cdK 2 (s_X11_load_k x9 ft)) (fun _ : Unit => ([aJ y jq 1 jo] ++ [kX11 h qt fh kh ch qh qs Z0, kX9 qt q (s_X11_load_x1 x9 ft), aC y q 60 ft, kX7 fh fua fub fuc fud fue (zf 0), kX3 fua fva (zf 1), aI y fva 10 (zf 2), kX1 fub (zf 3), kX8 fuc fvc1 fvc2 fvc3 fvc4 fvc5 (zf 4), aI y fvc1 20 (zf 5), aI y fvc2 20 (zf 6), aI y fvc3 20 (zf 7), aI y fvc4 20 (zf 8), aI y fvc5 20 of, kX10 fud fvd (zf 9), aI y fvd 32 (zf 10), kX0 fue fve (zf 11), aI y fve 3 (zf 12), kX7 kh kua kub kuc kud kue (z 0), kX3 kua kva (z 1), aI y kva 10 (z 2), kX1 kub (z 3), kX8 kuc kvc1 kvc2 kvc3 kvc4 kvc5 (z 4), aI y kvc1 20 (z 5), aI y kvc2 20 (z 6), aI y kvc3 20 (z 7), aI y kvc4 20 (z 8), aI y kvc5 20 o, kX10 kud kvd (z 9), aI y kvd 32 (z 10), kX0 kue kve (z 11), aI y kve 3 (z 12), kX2 qh a x, kX6 qs sa sb x6, aZ y sb 2 fl])) A) XN ([.ref h, .ref jq] : List Value).toArray s 1 6 A := ⟨_, rfl⟩
  rw [← hQQ]
  refine lv_aload_n hx hb dL_load_0 rfl (lv_at hl 1 rfl) ?_
  refine lv_iconst (v := 0) hx hb dL_load_1 (by decide) ?_
  refine lv_aload_n hx hb dL_load_2 rfl (lv_at hl 0 rfl) ?_
  refine cl_X (wr := [aJ y jq 1 jo]) (wc := [kX11 h qt fh kh ch qh qs Z0, kX9 qt q x9, aC y q 60 ft, kX7 fh fua fub fuc fud fue (zf 0), kX3 fua fva (zf 1), aI y fva 10 (zf 2), kX1 fub (zf 3), kX8 fuc fvc1 fvc2 fvc3 fvc4 fvc5 (zf 4), aI y fvc1 20 (zf 5), aI y fvc2 20 (zf 6), aI y fvc3 20 (zf 7), aI y fvc4 20 (zf 8), aI y fvc5 20 of, kX10 fud fvd (zf 9), aI y fvd 32 (zf 10), kX0 fue fve (zf 11), aI y fve 3 (zf 12), kX7 kh kua kub kuc kud kue (z 0), kX3 kua kva (z 1), aI y kva 10 (z 2), kX1 kub (z 3), kX8 kuc kvc1 kvc2 kvc3 kvc4 kvc5 (z 4), aI y kvc1 20 (z 5), aI y kvc2 20 (z 6), aI y kvc3 20 (z 7), aI y kvc4 20 (z 8), aI y kvc5 20 o, kX10 kud kvd (z 9), aI y kvd 32 (z 10), kX0 kue kve (z 11), aI y kve 3 (z 12), kX2 qh a x, kX6 qs sa sb x6, aZ y sb 2 fl]) (vx_runV (As := []) (rest := [.int 0, .ref jq]) ⟨hx, hb, hml, hown, hts⟩ (c_X11_load l G y h qt fh kh ch qh qs q x9 ft fua fub fuc fud fue zf fva fvc1 fvc2 fvc3 fvc4 fvc5 of fvd fve kua kub kuc kud kue z kva kvc1 kvc2 kvc3 kvc4 kvc5 o kvd kve a x sa sb x6 fl s.heap.size hrf hef hgof hfl) (cwV 0 hts gL_load_X11_load rfl rfl rfl (by decide +kernel) ⟨Nat.le_of_ble_eq_true rfl, Nat.le_of_ble_eq_true rfl⟩) (PHX_V (A0 := A) (P_r hP) hK4 hN (D_r hD) hTY.1 hS (F_r hD hS hA) (ci := 9) (q0 := 0) rfl rfl) rfl rfl hl.1 rfl (lv_room (Nat.le_of_ble_eq_true rfl)) dL_load_3 ⟨Nat.le_of_ble_eq_true rfl, Nat.le_of_ble_eq_true rfl⟩) hP hD hS hA (fun E ce q9 u H locs hE hP hD hS hce hcv hcl => ?_) (fun u H locs hP hD hS => ?_)
  · rcases hE with ⟨rfl, hE⟩ | ⟨rfl, hE⟩ | ⟨rfl, hE⟩
    · rcases kx_load x9 ft with k9 | k9
      · exact absurd (hE.trans k9) (by decide)
      · exact absurd (hE.trans k9) (by decide)
    · refine vx_catch hown [] ⟨0, 8, 11, 15⟩ [] (htb.trans rfl) (fun z hz => by cases hz) (by decide) (by decide) (hts (.classLink RL 15 "java/lang/IllegalStateException") (by decide +kernel)) (va_Nw.use rfl (hTY.1.2.1 _ mIS)) hce hcv hcl ?_
      refine lv_astore_n (lv' := [(2, .ref q9), (0, .ref h), (1, .ref jq)]) hx hb dL_load_11 rfl hl (by decide) rfl (fun ls hl => ?_)
      refine lv_iconst (v := 1) hx hb dL_load_12 (by decide) ?_
      rw [hQQ]
      refine vx_ret ?_
      exact W.iret hx hb hr (end_Hi u hP hD hS (cd_1 hE (by decide)) rfl) hS.2.2 dL_load_13
    · rcases kx_load x9 ft with k9 | k9
      · exact absurd (hE.trans k9) (by decide)
      · exact absurd (hE.trans k9) (by decide)
  · exact absurd u.2 hk0
theorem kx_about (a1 : Int32) : s_X11_about_k a1 = 0 ∨ s_X11_about_k a1 = 1 := by
  unfold s_X11_about_k
  exact k_ite (Q := (fun x : Int32 => x = 0 ∨ x = 1)) (Or.inr rfl) (k_ite (Q := (fun x : Int32 => x = 0 ∨ x = 1)) (Or.inl rfl) (Or.inr rfl))
abbrev rmL_about : Room := ({ frames := 7, cells := 1, slots := 6, locals := 154 } : Room)
set_option maxHeartbeats 400000 in
set_option maxRecDepth 100000 in
theorem c_L_about_y (l : Launch) (G : va_G) (y : Nat → ClassId) (h : Nat) (a1 : Int32) (qt : Nat) (fh : Nat) (kh : Nat) (ch : Nat) (qh : Nat) (qs : Nat) (kua : Nat) (kub : Nat) (kuc : Nat) (kud : Nat) (kue : Nat) (z : Nat → Nat → Int32) (kva : Nat) (kvc1 : Nat) (kvc2 : Nat) (kvc3 : Nat) (kvc4 : Nat) (kvc5 : Nat) (o : Nat → Int32) (kvd : Nat) (kve : Nat) (jq : Nat) (jo : Nat → Int64) (sz : Nat) (hw : vp_in (z 4 0) 21) (hk0 : (s_X11_about_k a1) = 0) (hfl : l.stackTraces = false) : vx_Met l yL_about wsL_about rmL_about (PHL G y [.ref h, .int a1, .ref jq] ([aJ y jq 1 jo] ++ [kX11 h qt fh kh ch qh qs Z0, kX7 kh kua kub kuc kud kue (z 0), kX3 kua kva (z 1), kX1 kub (z 3), kX8 kuc kvc1 kvc2 kvc3 kvc4 kvc5 (z 4), aI y kvc1 20 (z 5), aI y kvc2 20 (z 6), aI y kvc3 20 (z 7), aI y kvc4 20 (z 8), aI y kvc5 20 o, kX10 kud kvd (z 9), kX0 kue kve (z 11)]) sz) (QHi G 0 (fun u : (Nat → Int32) => ([aJ y jq 1 (vp_updL jo 0 ((s_X11_about_r a1 z)).toInt64)] ++ [kX11 h qt fh kh ch qh qs Z0, kX7 kh kua kub kuc kud kue (z 0), kX3 kua kva (z 1), kX1 kub (z 3), kX8 kuc kvc1 kvc2 kvc3 kvc4 kvc5 (z 4), aI y kvc1 20 (z 5), aI y kvc2 20 (z 6), aI y kvc3 20 (z 7), aI y kvc4 20 (z 8), aI y kvc5 20 u, kX10 kud kvd (z 9), kX0 kue kve (z 11)])) (va_A ([aJ y jq 1 jo] ++ [kX11 h qt fh kh ch qh qs Z0, kX7 kh kua kub kuc kud kue (z 0), kX3 kua kva (z 1), kX1 kub (z 3), kX8 kuc kvc1 kvc2 kvc3 kvc4 kvc5 (z 4), aI y kvc1 20 (z 5), aI y kvc2 20 (z 6), aI y kvc3 20 (z 7), aI y kvc4 20 (z 8), aI y kvc5 20 o, kX10 kud kvd (z 9), kX0 kue kve (z 11)]) sz)) XN 1 6 (va_A ([aJ y jq 1 jo] ++ [kX11 h qt fh kh ch qh qs Z0, kX7 kh kua kub kuc kud kue (z 0), kX3 kua kva (z 1), kX1 kub (z 3), kX8 kuc kvc1 kvc2 kvc3 kvc4 kvc5 (z 4), aI y kvc1 20 (z 5), aI y kvc2 20 (z 6), aI y kvc3 20 (z 7), aI y kvc4 20 (z 8), aI y kvc5 20 o, kX10 kud kvd (z 9), kX0 kue kve (z 11)]) sz) := by
  refine vx_ofWH (cc := cL_about) (maxL := 4) (ret := (some .int)) (hh := [(0, 9, 12, 13)]) (by decide) rfl ?_
  intro p e s m args below meth c s₁ B hml hv
  obtain ⟨rfl, hsz, hP, ⟨hK, hN⟩, hD0, hTY⟩ := hv
  have hx := B.exec
  have hb := B.bytes
  have hr := B.returns
  have hts := atoms_spec (ws := wsL_about) B.pre
  have hown : s.vm.findClass RL = some m.cls := findClass_of_methodNamed B.named
  have hlocks := B.notSynchronized
  have htb : c.exceptionTable.toList = tableOf [(0, 9, 12, 13)] := vx_table (x := yL_about) B (hts (.codeWith yL_about cL_about 4 (some .int) [(0, 9, 12, 13)]) (List.mem_cons_self))
  subst hsz
  have hD := hD0.self (sz := s.heap.size)
  generalize hAe : va_A ([aJ y jq 1 jo] ++ [kX11 h qt fh kh ch qh qs Z0, kX7 kh kua kub kuc kud kue (z 0), kX3 kua kva (z 1), kX1 kub (z 3), kX8 kuc kvc1 kvc2 kvc3 kvc4 kvc5 (z 4), aI y kvc1 20 (z 5), aI y kvc2 20 (z 6), aI y kvc3 20 (z 7), aI y kvc4 20 (z 8), aI y kvc5 20 o, kX10 kud kvd (z 9), kX0 kue kve (z 11)]) s.heap.size = A at hD hTY ⊢
  have hA : ∀ q : Nat, s.heap.size ≤ q → A q := fun q h => by rw [← hAe]; exact Or.inr h
  have hS : va_S A s.heap s.heap [] := va_S.rf
  have hP : va_P G vwCl ([aJ y jq 1 jo] ++ [kX11 h qt fh kh ch qh qs Z0, kX7 kh kua kub kuc kud kue (z 0), kX3 kua kva (z 1), kX1 kub (z 3), kX8 kuc kvc1 kvc2 kvc3 kvc4 kvc5 (z 4), aI y kvc1 20 (z 5), aI y kvc2 20 (z 6), aI y kvc3 20 (z 7), aI y kvc4 20 (z 8), aI y kvc5 20 o, kX10 kud kvd (z 9), kX0 kue kve (z 11)]) s.heap := hP
  have hK4 : va_K G vwCl (tyG y) s := hK.sub (tys' := tyG y) [0, 1, 2, 3] rfl
  have hl := lv_entry ([.ref h, .int a1, .ref jq]) (n := 4) (Nat.le_of_ble_eq_true rfl)
  rw [lg_entry_eq]
  generalize (lg_sl ([.ref h, .int a1, .ref jq]) ++ List.replicate (4 - (lg_sl ([.ref h, .int a1, .ref jq])).length) Slot.unset).toArray = ls at hl ⊢
  have hl : lv_has ls 4 [(0, .ref h), (1, .int a1), (2, .ref jq)] := hl
  obtain ⟨QQ, hQQ⟩ : ∃ zq9, zq9 = vx_MQ below (QHi G 0 (fun u : (Nat → Int32) => ([aJ y jq 1 (vp_updL jo 0 ((s_X11_about_r a1 z)).toInt64)] ++ [kX11 h qt fh kh ch qh qs Z0, kX7 kh kua kub kuc kud kue (z 0), kX3 kua kva (z 1), kX1 kub (z 3), kX8 kuc kvc1 kvc2 kvc3 kvc4 kvc5 (z 4), aI y kvc1 20 (z 5), aI y kvc2 20 (z 6), aI y kvc3 20 (z 7), aI y kvc4 20 (z 8), aI y kvc5 20 u, kX10 kud kvd (z 9), kX0 kue kve (z 11)])) A) XN ([.ref h, .int a1, .ref jq] : List Value).toArray s 1 6 A := ⟨_, rfl⟩
  rw [← hQQ]
  refine lv_aload_n hx hb dL_about_0 rfl (lv_at hl 2 rfl) ?_
  refine lv_iconst (v := 0) hx hb dL_about_1 (by decide) ?_
  refine lv_aload_n hx hb dL_about_2 rfl (lv_at hl 0 rfl) ?_
  refine lv_iload_n hx hb dL_about_3 rfl (lv_at hl 1 rfl) ?_
  refine cl_X (wr := [aJ y jq 1 jo]) (wc := [kX11 h qt fh kh ch qh qs Z0, kX7 kh kua kub kuc kud kue (z 0), kX3 kua kva (z 1), kX1 kub (z 3), kX8 kuc kvc1 kvc2 kvc3 kvc4 kvc5 (z 4), aI y kvc1 20 (z 5), aI y kvc2 20 (z 6), aI y kvc3 20 (z 7), aI y kvc4 20 (z 8), aI y kvc5 20 o, kX10 kud kvd (z 9), kX0 kue kve (z 11)]) (vx_runV (As := [.int a1]) (rest := [.int 0, .ref jq]) ⟨hx, hb, hml, hown, hts⟩ (c_X11_about l G y h a1 qt fh kh ch qh qs kua kub kuc kud kue z kva kvc1 kvc2 kvc3 kvc4 kvc5 o kvd kve s.heap.size hw hfl) (cwV 1 hts gL_about_X11_about rfl rfl rfl (by decide +kernel) ⟨Nat.le_of_ble_eq_true rfl, Nat.le_of_ble_eq_true rfl⟩) (PHX_V (A0 := A) (P_r hP) hK4 hN (D_r hD) hTY.1 hS (F_r hD hS hA) (ci := 9) (q0 := 0) rfl rfl) rfl rfl hl.1 rfl (lv_room (Nat.le_of_ble_eq_true rfl)) dL_about_4 ⟨Nat.le_of_ble_eq_true rfl, Nat.le_of_ble_eq_true rfl⟩) hP hD hS hA (fun E ce q9 u H locs hE hP hD hS hce hcv hcl => ?_) (fun u H locs hP hD hS => ?_)
  · exact (exC_0 hk0 hE).elim
  · refine lv_i2l (v := ((s_X11_about_r a1 z)).toInt64) hx hb dL_about_7 rfl ?_
    refine as_o hx hb hK hP hD hS dL_about_8 (fun H locs hP hD hS => ?_)
    refine lv_goto (tgt := 15) hx hb dL_about_9 (by decide) ?_
    refine lv_iconst (v := 0) hx hb dL_about_15 (by decide) ?_
    rw [hQQ]
    refine vx_ret ?_
    exact W.iret hx hb hr (end_Hi u.1 hP hD hS rfl rfl) hS.2.2 dL_about_16
set_option maxHeartbeats 400000 in
set_option maxRecDepth 100000 in
theorem c_L_about_n (l : Launch) (G : va_G) (y : Nat → ClassId) (h : Nat) (a1 : Int32) (qt : Nat) (fh : Nat) (kh : Nat) (ch : Nat) (qh : Nat) (qs : Nat) (kua : Nat) (kub : Nat) (kuc : Nat) (kud : Nat) (kue : Nat) (z : Nat → Nat → Int32) (kva : Nat) (kvc1 : Nat) (kvc2 : Nat) (kvc3 : Nat) (kvc4 : Nat) (kvc5 : Nat) (o : Nat → Int32) (kvd : Nat) (kve : Nat) (jq : Nat) (jo : Nat → Int64) (sz : Nat) (hw : vp_in (z 4 0) 21) (hk0 : ¬ (s_X11_about_k a1) = 0) (hfl : l.stackTraces = false) : vx_Met l yL_about wsL_about rmL_about (PHL G y [.ref h, .int a1, .ref jq] ([aJ y jq 1 jo] ++ [kX11 h qt fh kh ch qh qs Z0, kX7 kh kua kub kuc kud kue (z 0), kX3 kua kva (z 1), kX1 kub (z 3), kX8 kuc kvc1 kvc2 kvc3 kvc4 kvc5 (z 4), aI y kvc1 20 (z 5), aI y kvc2 20 (z 6), aI y kvc3 20 (z 7), aI y kvc4 20 (z 8), aI y kvc5 20 o, kX10 kud kvd (z 9), kX0 kue kve (z 11)]) sz) (QHi G (cdK 1 (s_X11_about_k a1)) (fun u : (Nat → Int32) => ([aJ y jq 1 jo] ++ [kX11 h qt fh kh ch qh qs Z0, kX7 kh kua kub kuc kud kue (z 0), kX3 kua kva (z 1), kX1 kub (z 3), kX8 kuc kvc1 kvc2 kvc3 kvc4 kvc5 (z 4), aI y kvc1 20 (z 5), aI y kvc2 20 (z 6), aI y kvc3 20 (z 7), aI y kvc4 20 (z 8), aI y kvc5 20 u, kX10 kud kvd (z 9), kX0 kue kve (z 11)])) (va_A ([aJ y jq 1 jo] ++ [kX11 h qt fh kh ch qh qs Z0, kX7 kh kua kub kuc kud kue (z 0), kX3 kua kva (z 1), kX1 kub (z 3), kX8 kuc kvc1 kvc2 kvc3 kvc4 kvc5 (z 4), aI y kvc1 20 (z 5), aI y kvc2 20 (z 6), aI y kvc3 20 (z 7), aI y kvc4 20 (z 8), aI y kvc5 20 o, kX10 kud kvd (z 9), kX0 kue kve (z 11)]) sz)) XN 1 6 (va_A ([aJ y jq 1 jo] ++ [kX11 h qt fh kh ch qh qs Z0, kX7 kh kua kub kuc kud kue (z 0), kX3 kua kva (z 1), kX1 kub (z 3), kX8 kuc kvc1 kvc2 kvc3 kvc4 kvc5 (z 4), aI y kvc1 20 (z 5), aI y kvc2 20 (z 6), aI y kvc3 20 (z 7), aI y kvc4 20 (z 8), aI y kvc5 20 o, kX10 kud kvd (z 9), kX0 kue kve (z 11)]) sz) := by
  refine vx_ofWH (cc := cL_about) (maxL := 4) (ret := (some .int)) (hh := [(0, 9, 12, 13)]) (by decide) rfl ?_
  intro p e s m args below meth c s₁ B hml hv
  obtain ⟨rfl, hsz, hP, ⟨hK, hN⟩, hD0, hTY⟩ := hv
  have hx := B.exec
  have hb := B.bytes
  have hr := B.returns
  have hts := atoms_spec (ws := wsL_about) B.pre
  have hown : s.vm.findClass RL = some m.cls := findClass_of_methodNamed B.named
  have hlocks := B.notSynchronized
  have htb : c.exceptionTable.toList = tableOf [(0, 9, 12, 13)] := vx_table (x := yL_about) B (hts (.codeWith yL_about cL_about 4 (some .int) [(0, 9, 12, 13)]) (List.mem_cons_self))
  subst hsz
  have hD := hD0.self (sz := s.heap.size)
  generalize hAe : va_A ([aJ y jq 1 jo] ++ [kX11 h qt fh kh ch qh qs Z0, kX7 kh kua kub kuc kud kue (z 0), kX3 kua kva (z 1), kX1 kub (z 3), kX8 kuc kvc1 kvc2 kvc3 kvc4 kvc5 (z 4), aI y kvc1 20 (z 5), aI y kvc2 20 (z 6), aI y kvc3 20 (z 7), aI y kvc4 20 (z 8), aI y kvc5 20 o, kX10 kud kvd (z 9), kX0 kue kve (z 11)]) s.heap.size = A at hD hTY ⊢
  have hA : ∀ q : Nat, s.heap.size ≤ q → A q := fun q h => by rw [← hAe]; exact Or.inr h
  have hS : va_S A s.heap s.heap [] := va_S.rf
  have hP : va_P G vwCl ([aJ y jq 1 jo] ++ [kX11 h qt fh kh ch qh qs Z0, kX7 kh kua kub kuc kud kue (z 0), kX3 kua kva (z 1), kX1 kub (z 3), kX8 kuc kvc1 kvc2 kvc3 kvc4 kvc5 (z 4), aI y kvc1 20 (z 5), aI y kvc2 20 (z 6), aI y kvc3 20 (z 7), aI y kvc4 20 (z 8), aI y kvc5 20 o, kX10 kud kvd (z 9), kX0 kue kve (z 11)]) s.heap := hP
  have hK4 : va_K G vwCl (tyG y) s := hK.sub (tys' := tyG y) [0, 1, 2, 3] rfl
  have hl := lv_entry ([.ref h, .int a1, .ref jq]) (n := 4) (Nat.le_of_ble_eq_true rfl)
  rw [lg_entry_eq]
  generalize (lg_sl ([.ref h, .int a1, .ref jq]) ++ List.replicate (4 - (lg_sl ([.ref h, .int a1, .ref jq])).length) Slot.unset).toArray = ls at hl ⊢
  have hl : lv_has ls 4 [(0, .ref h), (1, .int a1), (2, .ref jq)] := hl
  obtain ⟨QQ, hQQ⟩ : ∃ zq9, zq9 = vx_MQ below (QHi G (cdK 1 (s_X11_about_k a1)) (fun u : (Nat → Int32) => ([aJ y jq 1 jo] ++ [kX11 h qt fh kh ch qh qs Z0, kX7 kh kua kub kuc kud kue (z 0), kX3 kua kva (z 1), kX1 kub (z 3), kX8 kuc kvc1 kvc2 kvc3 kvc4 kvc5 (z 4), aI y kvc1 20 (z 5), aI y kvc2 20 (z 6), aI y kvc3 20 (z 7), aI y kvc4 20 (z 8), aI y kvc5 20 u, kX10 kud kvd (z 9), kX0 kue kve (z 11)])) A) XN ([.ref h, .int a1, .ref jq] : List Value).toArray s 1 6 A := ⟨_, rfl⟩
  rw [← hQQ]
  refine lv_aload_n hx hb dL_about_0 rfl (lv_at hl 2 rfl) ?_
  refine lv_iconst (v := 0) hx hb dL_about_1 (by decide) ?_
  refine lv_aload_n hx hb dL_about_2 rfl (lv_at hl 0 rfl) ?_
  refine lv_iload_n hx hb dL_about_3 rfl (lv_at hl 1 rfl) ?_
  refine cl_X (wr := [aJ y jq 1 jo]) (wc := [kX11 h qt fh kh ch qh qs Z0, kX7 kh kua kub kuc kud kue (z 0), kX3 kua kva (z 1), kX1 kub (z 3), kX8 kuc kvc1 kvc2 kvc3 kvc4 kvc5 (z 4), aI y kvc1 20 (z 5), aI y kvc2 20 (z 6), aI y kvc3 20 (z 7), aI y kvc4 20 (z 8), aI y kvc5 20 o, kX10 kud kvd (z 9), kX0 kue kve (z 11)]) (vx_runV (As := [.int a1]) (rest := [.int 0, .ref jq]) ⟨hx, hb, hml, hown, hts⟩ (c_X11_about l G y h a1 qt fh kh ch qh qs kua kub kuc kud kue z kva kvc1 kvc2 kvc3 kvc4 kvc5 o kvd kve s.heap.size hw hfl) (cwV 1 hts gL_about_X11_about rfl rfl rfl (by decide +kernel) ⟨Nat.le_of_ble_eq_true rfl, Nat.le_of_ble_eq_true rfl⟩) (PHX_V (A0 := A) (P_r hP) hK4 hN (D_r hD) hTY.1 hS (F_r hD hS hA) (ci := 9) (q0 := 0) rfl rfl) rfl rfl hl.1 rfl (lv_room (Nat.le_of_ble_eq_true rfl)) dL_about_4 ⟨Nat.le_of_ble_eq_true rfl, Nat.le_of_ble_eq_true rfl⟩) hP hD hS hA (fun E ce q9 u H locs hE hP hD hS hce hcv hcl => ?_) (fun u H locs hP hD hS => ?_)
  · rcases hE with ⟨rfl, hE⟩ | ⟨rfl, hE⟩ | ⟨rfl, hE⟩
    · refine vx_catch hown [] ⟨0, 9, 12, 13⟩ [] (htb.trans rfl) (fun z hz => by cases hz) (by decide) (by decide) (hts (.classLink RL 13 "java/lang/IllegalArgumentException") (by decide +kernel)) (va_Nw.use rfl (hTY.1.2.1 _ mIA)) hce hcv hcl ?_
      refine lv_astore_n (lv' := [(3, .ref q9), (0, .ref h), (1, .int a1), (2, .ref jq)]) hx hb dL_about_12 rfl hl (by decide) rfl (fun ls hl => ?_)
      refine lv_iconst (v := 1) hx hb dL_about_13 (by decide) ?_
      rw [hQQ]
      refine vx_ret ?_
      exact W.iret hx hb hr (end_Hi u hP hD hS (cd_1 hE (by decide)) rfl) hS.2.2 dL_about_14
    · rcases kx_about a1 with k9 | k9
      · exact absurd (hE.trans k9) (by decide)
      · exact absurd (hE.trans k9) (by decide)
    · rcases kx_about a1 with k9 | k9
      · exact absurd (hE.trans k9) (by decide)
      · exact absurd (hE.trans k9) (by decide)
  · exact absurd u.2 hk0
theorem kx_swing (a1 : Int32) (a2 : Int32) (z : Nat → Nat → Int32) : s_X11_swing_k a1 a2 z = 0 ∨ s_X11_swing_k a1 a2 z = 1 ∨ s_X11_swing_k a1 a2 z = 3 := by
  unfold s_X11_swing_k
  exact k_ite (Q := (fun x : Int32 => x = 0 ∨ x = 1 ∨ x = 3)) (Or.inr (Or.inr rfl)) (k_ite (Q := (fun x : Int32 => x = 0 ∨ x = 1 ∨ x = 3)) (Or.inr (Or.inl rfl)) (k_ite (Q := (fun x : Int32 => x = 0 ∨ x = 1 ∨ x = 3)) (Or.inl rfl) (Or.inr (Or.inl rfl))))
abbrev rmL_swing : Room := ({ frames := 7, cells := 1, slots := 6, locals := 112 } : Room)
set_option maxHeartbeats 400000 in
set_option maxRecDepth 100000 in
theorem c_L_swing_y (l : Launch) (G : va_G) (y : Nat → ClassId) (h : Nat) (a1 : Int32) (a2 : Int32) (qt : Nat) (fh : Nat) (kh : Nat) (ch : Nat) (qh : Nat) (qs : Nat) (kua : Nat) (kub : Nat) (kuc : Nat) (kud : Nat) (kue : Nat) (z : Nat → Nat → Int32) (kvc1 : Nat) (kvc2 : Nat) (kvc3 : Nat) (kvc4 : Nat) (kvc5 : Nat) (o : Nat → Int32) (jq : Nat) (jo : Nat → Int64) (sz : Nat) (hw : vp_in (z 4 0) 21) (hk0 : (s_X11_swing_k a1 a2 z) = 0) (hfl : l.stackTraces = false) : vx_Met l yL_swing wsL_swing rmL_swing (PHL G y [.ref h, .int a1, .int a2, .ref jq] ([aJ y jq 1 jo] ++ [kX11 h qt fh kh ch qh qs Z0, kX7 kh kua kub kuc kud kue (z 0), kX1 kub (z 3), kX8 kuc kvc1 kvc2 kvc3 kvc4 kvc5 (z 4), aI y kvc1 20 (z 5), aI y kvc2 20 (z 6), aI y kvc3 20 (z 7), aI y kvc4 20 (z 8), aI y kvc5 20 o]) sz) (QHi G 0 (fun u : (Nat → Int32) => ([aJ y jq 1 (vp_updL jo 0 ((s_X11_swing_r a1 a2 z)).toInt64)] ++ [kX11 h qt fh kh ch qh qs Z0, kX7 kh kua kub kuc kud kue (z 0), kX1 kub (z 3), kX8 kuc kvc1 kvc2 kvc3 kvc4 kvc5 (z 4), aI y kvc1 20 (z 5), aI y kvc2 20 (z 6), aI y kvc3 20 (z 7), aI y kvc4 20 (z 8), aI y kvc5 20 u])) (va_A ([aJ y jq 1 jo] ++ [kX11 h qt fh kh ch qh qs Z0, kX7 kh kua kub kuc kud kue (z 0), kX1 kub (z 3), kX8 kuc kvc1 kvc2 kvc3 kvc4 kvc5 (z 4), aI y kvc1 20 (z 5), aI y kvc2 20 (z 6), aI y kvc3 20 (z 7), aI y kvc4 20 (z 8), aI y kvc5 20 o]) sz)) XN 1 6 (va_A ([aJ y jq 1 jo] ++ [kX11 h qt fh kh ch qh qs Z0, kX7 kh kua kub kuc kud kue (z 0), kX1 kub (z 3), kX8 kuc kvc1 kvc2 kvc3 kvc4 kvc5 (z 4), aI y kvc1 20 (z 5), aI y kvc2 20 (z 6), aI y kvc3 20 (z 7), aI y kvc4 20 (z 8), aI y kvc5 20 o]) sz) := by
  refine vx_ofWH (cc := cL_swing) (maxL := 5) (ret := (some .int)) (hh := [(0, 10, 13, 28), (0, 10, 17, 13)]) (by decide) rfl ?_
  intro p e s m args below meth c s₁ B hml hv
  obtain ⟨rfl, hsz, hP, ⟨hK, hN⟩, hD0, hTY⟩ := hv
  have hx := B.exec
  have hb := B.bytes
  have hr := B.returns
  have hts := atoms_spec (ws := wsL_swing) B.pre
  have hown : s.vm.findClass RL = some m.cls := findClass_of_methodNamed B.named
  have hlocks := B.notSynchronized
  have htb : c.exceptionTable.toList = tableOf [(0, 10, 13, 28), (0, 10, 17, 13)] := vx_table (x := yL_swing) B (hts (.codeWith yL_swing cL_swing 5 (some .int) [(0, 10, 13, 28), (0, 10, 17, 13)]) (List.mem_cons_self))
  subst hsz
  have hD := hD0.self (sz := s.heap.size)
  generalize hAe : va_A ([aJ y jq 1 jo] ++ [kX11 h qt fh kh ch qh qs Z0, kX7 kh kua kub kuc kud kue (z 0), kX1 kub (z 3), kX8 kuc kvc1 kvc2 kvc3 kvc4 kvc5 (z 4), aI y kvc1 20 (z 5), aI y kvc2 20 (z 6), aI y kvc3 20 (z 7), aI y kvc4 20 (z 8), aI y kvc5 20 o]) s.heap.size = A at hD hTY ⊢
  have hA : ∀ q : Nat, s.heap.size ≤ q → A q := fun q h => by rw [← hAe]; exact Or.inr h
  have hS : va_S A s.heap s.heap [] := va_S.rf
  have hP : va_P G vwCl ([aJ y jq 1 jo] ++ [kX11 h qt fh kh ch qh qs Z0, kX7 kh kua kub kuc kud kue (z 0), kX1 kub (z 3), kX8 kuc kvc1 kvc2 kvc3 kvc4 kvc5 (z 4), aI y kvc1 20 (z 5), aI y kvc2 20 (z 6), aI y kvc3 20 (z 7), aI y kvc4 20 (z 8), aI y kvc5 20 o]) s.heap := hP
  have hK4 : va_K G vwCl (tyG y) s := hK.sub (tys' := tyG y) [0, 1, 2, 3] rfl
  have hl := lv_entry ([.ref h, .int a1, .int a2, .ref jq]) (n := 5) (Nat.le_of_ble_eq_true rfl)
  rw [lg_entry_eq]
  generalize (lg_sl ([.ref h, .int a1, .int a2, .ref jq]) ++ List.replicate (5 - (lg_sl ([.ref h, .int a1, .int a2, .ref jq])).length) Slot.unset).toArray = ls at hl ⊢
  have hl : lv_has ls 5 [(0, .ref h), (1, .int a1), (2, .int a2), (3, .ref jq)] := hl
  obtain ⟨QQ, hQQ⟩ : ∃ zq9, zq9 = vx_MQ below (QHi G 0 (fun u : (Nat → Int32) => ([aJ y jq 1 (vp_updL jo 0 ((s_X11_swing_r a1 a2 z)).toInt64)] ++ [kX11 h qt fh kh ch qh qs Z0, kX7 kh kua kub kuc kud kue (z 0), kX1 kub (z 3), kX8 kuc kvc1 kvc2 kvc3 kvc4 kvc5 (z 4), aI y kvc1 20 (z 5), aI y kvc2 20 (z 6), aI y kvc3 20 (z 7), aI y kvc4 20 (z 8), aI y kvc5 20 u])) A) XN ([.ref h, .int a1, .int a2, .ref jq] : List Value).toArray s 1 6 A := ⟨_, rfl⟩
  rw [← hQQ]
  refine lv_aload_n hx hb dL_swing_0 rfl (lv_at hl 3 rfl) ?_
  refine lv_iconst (v := 0) hx hb dL_swing_1 (by decide) ?_
  refine lv_aload_n hx hb dL_swing_2 rfl (lv_at hl 0 rfl) ?_
  refine lv_iload_n hx hb dL_swing_3 rfl (lv_at hl 1 rfl) ?_
  refine lv_iload_n hx hb dL_swing_4 rfl (lv_at hl 2 rfl) ?_
  refine cl_X (wr := [aJ y jq 1 jo]) (wc := [kX11 h qt fh kh ch qh qs Z0, kX7 kh kua kub kuc kud kue (z 0), kX1 kub (z 3), kX8 kuc kvc1 kvc2 kvc3 kvc4 kvc5 (z 4), aI y kvc1 20 (z 5), aI y kvc2 20 (z 6), aI y kvc3 20 (z 7), aI y kvc4 20 (z 8), aI y kvc5 20 o]) (vx_runV (As := [.int a1, .int a2]) (rest := [.int 0, .ref jq]) ⟨hx, hb, hml, hown, hts⟩ (c_X11_swing l G y h a1 a2 qt fh kh ch qh qs kua kub kuc kud kue z kvc1 kvc2 kvc3 kvc4 kvc5 o s.heap.size hw hfl) (cwV 2 hts gL_swing_X11_swing rfl rfl rfl (by decide +kernel) ⟨Nat.le_of_ble_eq_true rfl, Nat.le_of_ble_eq_true rfl⟩) (PHX_V (A0 := A) (P_r hP) hK4 hN (D_r hD) hTY.1 hS (F_r hD hS hA) (ci := 9) (q0 := 0) rfl rfl) rfl rfl hl.1 rfl (lv_room (Nat.le_of_ble_eq_true rfl)) dL_swing_5 ⟨Nat.le_of_ble_eq_true rfl, Nat.le_of_ble_eq_true rfl⟩) hP hD hS hA (fun E ce q9 u H locs hE hP hD hS hce hcv hcl => ?_) (fun u H locs hP hD hS => ?_)
  · exact (exC_0 hk0 hE).elim
  · refine lv_i2l (v := ((s_X11_swing_r a1 a2 z)).toInt64) hx hb dL_swing_8 rfl ?_
    refine as_o hx hb hK hP hD hS dL_swing_9 (fun H locs hP hD hS => ?_)
    refine lv_goto (tgt := 21) hx hb dL_swing_10 (by decide) ?_
    refine lv_iconst (v := 0) hx hb dL_swing_21 (by decide) ?_
    rw [hQQ]
    refine vx_ret ?_
    exact W.iret hx hb hr (end_Hi u.1 hP hD hS rfl rfl) hS.2.2 dL_swing_22
set_option maxHeartbeats 400000 in
set_option maxRecDepth 100000 in
theorem c_L_swing_n (l : Launch) (G : va_G) (y : Nat → ClassId) (h : Nat) (a1 : Int32) (a2 : Int32) (qt : Nat) (fh : Nat) (kh : Nat) (ch : Nat) (qh : Nat) (qs : Nat) (kua : Nat) (kub : Nat) (kuc : Nat) (kud : Nat) (kue : Nat) (z : Nat → Nat → Int32) (kvc1 : Nat) (kvc2 : Nat) (kvc3 : Nat) (kvc4 : Nat) (kvc5 : Nat) (o : Nat → Int32) (jq : Nat) (jo : Nat → Int64) (sz : Nat) (hw : vp_in (z 4 0) 21) (hk0 : ¬ (s_X11_swing_k a1 a2 z) = 0) (hfl : l.stackTraces = false) : vx_Met l yL_swing wsL_swing rmL_swing (PHL G y [.ref h, .int a1, .int a2, .ref jq] ([aJ y jq 1 jo] ++ [kX11 h qt fh kh ch qh qs Z0, kX7 kh kua kub kuc kud kue (z 0), kX1 kub (z 3), kX8 kuc kvc1 kvc2 kvc3 kvc4 kvc5 (z 4), aI y kvc1 20 (z 5), aI y kvc2 20 (z 6), aI y kvc3 20 (z 7), aI y kvc4 20 (z 8), aI y kvc5 20 o]) sz) (QHi G (cdK 3 (s_X11_swing_k a1 a2 z)) (fun u : (Nat → Int32) => ([aJ y jq 1 jo] ++ [kX11 h qt fh kh ch qh qs Z0, kX7 kh kua kub kuc kud kue (z 0), kX1 kub (z 3), kX8 kuc kvc1 kvc2 kvc3 kvc4 kvc5 (z 4), aI y kvc1 20 (z 5), aI y kvc2 20 (z 6), aI y kvc3 20 (z 7), aI y kvc4 20 (z 8), aI y kvc5 20 u])) (va_A ([aJ y jq 1 jo] ++ [kX11 h qt fh kh ch qh qs Z0, kX7 kh kua kub kuc kud kue (z 0), kX1 kub (z 3), kX8 kuc kvc1 kvc2 kvc3 kvc4 kvc5 (z 4), aI y kvc1 20 (z 5), aI y kvc2 20 (z 6), aI y kvc3 20 (z 7), aI y kvc4 20 (z 8), aI y kvc5 20 o]) sz)) XN 1 6 (va_A ([aJ y jq 1 jo] ++ [kX11 h qt fh kh ch qh qs Z0, kX7 kh kua kub kuc kud kue (z 0), kX1 kub (z 3), kX8 kuc kvc1 kvc2 kvc3 kvc4 kvc5 (z 4), aI y kvc1 20 (z 5), aI y kvc2 20 (z 6), aI y kvc3 20 (z 7), aI y kvc4 20 (z 8), aI y kvc5 20 o]) sz) := by
  refine vx_ofWH (cc := cL_swing) (maxL := 5) (ret := (some .int)) (hh := [(0, 10, 13, 28), (0, 10, 17, 13)]) (by decide) rfl ?_
  intro p e s m args below meth c s₁ B hml hv
  obtain ⟨rfl, hsz, hP, ⟨hK, hN⟩, hD0, hTY⟩ := hv
  have hx := B.exec
  have hb := B.bytes
  have hr := B.returns
  have hts := atoms_spec (ws := wsL_swing) B.pre
  have hown : s.vm.findClass RL = some m.cls := findClass_of_methodNamed B.named
  have hlocks := B.notSynchronized
  have htb : c.exceptionTable.toList = tableOf [(0, 10, 13, 28), (0, 10, 17, 13)] := vx_table (x := yL_swing) B (hts (.codeWith yL_swing cL_swing 5 (some .int) [(0, 10, 13, 28), (0, 10, 17, 13)]) (List.mem_cons_self))
  subst hsz
  have hD := hD0.self (sz := s.heap.size)
  generalize hAe : va_A ([aJ y jq 1 jo] ++ [kX11 h qt fh kh ch qh qs Z0, kX7 kh kua kub kuc kud kue (z 0), kX1 kub (z 3), kX8 kuc kvc1 kvc2 kvc3 kvc4 kvc5 (z 4), aI y kvc1 20 (z 5), aI y kvc2 20 (z 6), aI y kvc3 20 (z 7), aI y kvc4 20 (z 8), aI y kvc5 20 o]) s.heap.size = A at hD hTY ⊢
  have hA : ∀ q : Nat, s.heap.size ≤ q → A q := fun q h => by rw [← hAe]; exact Or.inr h
  have hS : va_S A s.heap s.heap [] := va_S.rf
  have hP : va_P G vwCl ([aJ y jq 1 jo] ++ [kX11 h qt fh kh ch qh qs Z0, kX7 kh kua kub kuc kud kue (z 0), kX1 kub (z 3), kX8 kuc kvc1 kvc2 kvc3 kvc4 kvc5 (z 4), aI y kvc1 20 (z 5), aI y kvc2 20 (z 6), aI y kvc3 20 (z 7), aI y kvc4 20 (z 8), aI y kvc5 20 o]) s.heap := hP
  have hK4 : va_K G vwCl (tyG y) s := hK.sub (tys' := tyG y) [0, 1, 2, 3] rfl
  have hl := lv_entry ([.ref h, .int a1, .int a2, .ref jq]) (n := 5) (Nat.le_of_ble_eq_true rfl)
  rw [lg_entry_eq]
  generalize (lg_sl ([.ref h, .int a1, .int a2, .ref jq]) ++ List.replicate (5 - (lg_sl ([.ref h, .int a1, .int a2, .ref jq])).length) Slot.unset).toArray = ls at hl ⊢
  have hl : lv_has ls 5 [(0, .ref h), (1, .int a1), (2, .int a2), (3, .ref jq)] := hl
  obtain ⟨QQ, hQQ⟩ : ∃ zq9, zq9 = vx_MQ below (QHi G (cdK 3 (s_X11_swing_k a1 a2 z)) (fun u : (Nat → Int32) => ([aJ y jq 1 jo] ++ [kX11 h qt fh kh ch qh qs Z0, kX7 kh kua kub kuc kud kue (z 0), kX1 kub (z 3), kX8 kuc kvc1 kvc2 kvc3 kvc4 kvc5 (z 4), aI y kvc1 20 (z 5), aI y kvc2 20 (z 6), aI y kvc3 20 (z 7), aI y kvc4 20 (z 8), aI y kvc5 20 u])) A) XN ([.ref h, .int a1, .int a2, .ref jq] : List Value).toArray s 1 6 A := ⟨_, rfl⟩
  rw [← hQQ]
  refine lv_aload_n hx hb dL_swing_0 rfl (lv_at hl 3 rfl) ?_
  refine lv_iconst (v := 0) hx hb dL_swing_1 (by decide) ?_
  refine lv_aload_n hx hb dL_swing_2 rfl (lv_at hl 0 rfl) ?_
  refine lv_iload_n hx hb dL_swing_3 rfl (lv_at hl 1 rfl) ?_
  refine lv_iload_n hx hb dL_swing_4 rfl (lv_at hl 2 rfl) ?_
  refine cl_X (wr := [aJ y jq 1 jo]) (wc := [kX11 h qt fh kh ch qh qs Z0, kX7 kh kua kub kuc kud kue (z 0), kX1 kub (z 3), kX8 kuc kvc1 kvc2 kvc3 kvc4 kvc5 (z 4), aI y kvc1 20 (z 5), aI y kvc2 20 (z 6), aI y kvc3 20 (z 7), aI y kvc4 20 (z 8), aI y kvc5 20 o]) (vx_runV (As := [.int a1, .int a2]) (rest := [.int 0, .ref jq]) ⟨hx, hb, hml, hown, hts⟩ (c_X11_swing l G y h a1 a2 qt fh kh ch qh qs kua kub kuc kud kue z kvc1 kvc2 kvc3 kvc4 kvc5 o s.heap.size hw hfl) (cwV 2 hts gL_swing_X11_swing rfl rfl rfl (by decide +kernel) ⟨Nat.le_of_ble_eq_true rfl, Nat.le_of_ble_eq_true rfl⟩) (PHX_V (A0 := A) (P_r hP) hK4 hN (D_r hD) hTY.1 hS (F_r hD hS hA) (ci := 9) (q0 := 0) rfl rfl) rfl rfl hl.1 rfl (lv_room (Nat.le_of_ble_eq_true rfl)) dL_swing_5 ⟨Nat.le_of_ble_eq_true rfl, Nat.le_of_ble_eq_true rfl⟩) hP hD hS hA (fun E ce q9 u H locs hE hP hD hS hce hcv hcl => ?_) (fun u H locs hP hD hS => ?_)
  · rcases hE with ⟨rfl, hE⟩ | ⟨rfl, hE⟩ | ⟨rfl, hE⟩
    · refine vx_catch hown [⟨0, 10, 13, 28⟩] ⟨0, 10, 17, 13⟩ [] (htb.trans rfl) (fun z hz => by rcases List.mem_singleton.mp hz with rfl; exact Or.inr ⟨by decide, "java/lang/IndexOutOfBoundsException", hts (.classLink RL 28 "java/lang/IndexOutOfBoundsException") (by decide +kernel), hTY.2 _ mAO⟩) (by decide) (by decide) (hts (.classLink RL 13 "java/lang/IllegalArgumentException") (by decide +kernel)) (va_Nw.use rfl (hTY.1.2.1 _ mIA)) hce hcv hcl ?_
      refine lv_astore (lv' := [(4, .ref q9), (0, .ref h), (1, .int a1), (2, .int a2), (3, .ref jq)]) hx hb dL_swing_17 hl (by decide) rfl (fun ls hl => ?_)
      refine lv_iconst (v := 2) hx hb dL_swing_19 (by decide) ?_
      rw [hQQ]
      refine vx_ret ?_
      exact W.iret hx hb hr (end_Hi u hP hD hS (cd_2 hE (by decide) (by decide)) rfl) hS.2.2 dL_swing_20
    · rcases kx_swing a1 a2 z with k9 | k9 | k9
      · exact absurd (hE.trans k9) (by decide)
      · exact absurd (hE.trans k9) (by decide)
      · exact absurd (hE.trans k9) (by decide)
    · refine vx_catch hown [] ⟨0, 10, 13, 28⟩ [⟨0, 10, 17, 13⟩] (htb.trans rfl) (fun z hz => by cases hz) (by decide) (by decide) (hts (.classLink RL 28 "java/lang/IndexOutOfBoundsException") (by decide +kernel)) (va_Nw.use rfl (hTY.1.2.1 _ mIO)) hce hcv hcl ?_
      refine lv_astore (lv' := [(4, .ref q9), (0, .ref h), (1, .int a1), (2, .int a2), (3, .ref jq)]) hx hb dL_swing_13 hl (by decide) rfl (fun ls hl => ?_)
      refine lv_iconst (v := 1) hx hb dL_swing_15 (by decide) ?_
      rw [hQQ]
      refine vx_ret ?_
      exact W.iret hx hb hr (end_Hi u hP hD hS (cd_1 hE (by decide)) rfl) hS.2.2 dL_swing_16
  · exact absurd u.2 hk0
theorem kx_account (a1 : Int32) : s_X11_account_k a1 = 0 ∨ s_X11_account_k a1 = 1 := by
  unfold s_X11_account_k
  exact k_ite (Q := (fun x : Int32 => x = 0 ∨ x = 1)) (Or.inr rfl) (k_ite (Q := (fun x : Int32 => x = 0 ∨ x = 1)) (Or.inl rfl) (Or.inr rfl))
abbrev rmL_account : Room := ({ frames := 7, cells := 1, slots := 6, locals := 111 } : Room)
set_option maxHeartbeats 400000 in
set_option maxRecDepth 100000 in
theorem c_L_account_y (l : Launch) (G : va_G) (y : Nat → ClassId) (h : Nat) (a1 : Int32) (qt : Nat) (fh : Nat) (kh : Nat) (ch : Nat) (qh : Nat) (qs : Nat) (kua : Nat) (kub : Nat) (kuc : Nat) (kud : Nat) (kue : Nat) (z : Nat → Nat → Int32) (kve : Nat) (jq : Nat) (jo : Nat → Int64) (sz : Nat) (hk0 : (s_X11_account_k a1) = 0) (hfl : l.stackTraces = false) : vx_Met l yL_account wsL_account rmL_account (PHL G y [.ref h, .int a1, .ref jq] ([aJ y jq 1 jo] ++ [kX11 h qt fh kh ch qh qs Z0, kX7 kh kua kub kuc kud kue (z 0), kX0 kue kve (z 11), aI y kve 3 (z 12)]) sz) (QHi G 0 (fun _ : Unit => ([aJ y jq 1 (vp_updL jo 0 ((s_X11_account_r a1 z)).toInt64)] ++ [kX11 h qt fh kh ch qh qs Z0, kX7 kh kua kub kuc kud kue (z 0), kX0 kue kve (z 11), aI y kve 3 (z 12)])) (va_A ([aJ y jq 1 jo] ++ [kX11 h qt fh kh ch qh qs Z0, kX7 kh kua kub kuc kud kue (z 0), kX0 kue kve (z 11), aI y kve 3 (z 12)]) sz)) XN 1 6 (va_A ([aJ y jq 1 jo] ++ [kX11 h qt fh kh ch qh qs Z0, kX7 kh kua kub kuc kud kue (z 0), kX0 kue kve (z 11), aI y kve 3 (z 12)]) sz) := by
  refine vx_ofWH (cc := cL_account) (maxL := 4) (ret := (some .int)) (hh := [(0, 9, 12, 13)]) (by decide) rfl ?_
  intro p e s m args below meth c s₁ B hml hv
  obtain ⟨rfl, hsz, hP, ⟨hK, hN⟩, hD0, hTY⟩ := hv
  have hx := B.exec
  have hb := B.bytes
  have hr := B.returns
  have hts := atoms_spec (ws := wsL_account) B.pre
  have hown : s.vm.findClass RL = some m.cls := findClass_of_methodNamed B.named
  have hlocks := B.notSynchronized
  have htb : c.exceptionTable.toList = tableOf [(0, 9, 12, 13)] := vx_table (x := yL_account) B (hts (.codeWith yL_account cL_account 4 (some .int) [(0, 9, 12, 13)]) (List.mem_cons_self))
  subst hsz
  have hD := hD0.self (sz := s.heap.size)
  generalize hAe : va_A ([aJ y jq 1 jo] ++ [kX11 h qt fh kh ch qh qs Z0, kX7 kh kua kub kuc kud kue (z 0), kX0 kue kve (z 11), aI y kve 3 (z 12)]) s.heap.size = A at hD hTY ⊢
  have hA : ∀ q : Nat, s.heap.size ≤ q → A q := fun q h => by rw [← hAe]; exact Or.inr h
  have hS : va_S A s.heap s.heap [] := va_S.rf
  have hP : va_P G vwCl ([aJ y jq 1 jo] ++ [kX11 h qt fh kh ch qh qs Z0, kX7 kh kua kub kuc kud kue (z 0), kX0 kue kve (z 11), aI y kve 3 (z 12)]) s.heap := hP
  have hK4 : va_K G vwCl (tyG y) s := hK.sub (tys' := tyG y) [0, 1, 2, 3] rfl
  have hl := lv_entry ([.ref h, .int a1, .ref jq]) (n := 4) (Nat.le_of_ble_eq_true rfl)
  rw [lg_entry_eq]
  generalize (lg_sl ([.ref h, .int a1, .ref jq]) ++ List.replicate (4 - (lg_sl ([.ref h, .int a1, .ref jq])).length) Slot.unset).toArray = ls at hl ⊢
  have hl : lv_has ls 4 [(0, .ref h), (1, .int a1), (2, .ref jq)] := hl
  obtain ⟨QQ, hQQ⟩ : ∃ zq9, zq9 = vx_MQ below (QHi G 0 (fun _ : Unit => ([aJ y jq 1 (vp_updL jo 0 ((s_X11_account_r a1 z)).toInt64)] ++ [kX11 h qt fh kh ch qh qs Z0, kX7 kh kua kub kuc kud kue (z 0), kX0 kue kve (z 11), aI y kve 3 (z 12)])) A) XN ([.ref h, .int a1, .ref jq] : List Value).toArray s 1 6 A := ⟨_, rfl⟩
  rw [← hQQ]
  refine lv_aload_n hx hb dL_account_0 rfl (lv_at hl 2 rfl) ?_
  refine lv_iconst (v := 0) hx hb dL_account_1 (by decide) ?_
  refine lv_aload_n hx hb dL_account_2 rfl (lv_at hl 0 rfl) ?_
  refine lv_iload_n hx hb dL_account_3 rfl (lv_at hl 1 rfl) ?_
  refine cl_X (wr := [aJ y jq 1 jo]) (wc := [kX11 h qt fh kh ch qh qs Z0, kX7 kh kua kub kuc kud kue (z 0), kX0 kue kve (z 11), aI y kve 3 (z 12)]) (vx_runV (As := [.int a1]) (rest := [.int 0, .ref jq]) ⟨hx, hb, hml, hown, hts⟩ (c_X11_account l G y h a1 qt fh kh ch qh qs kua kub kuc kud kue z kve s.heap.size hfl) (cwV 1 hts gL_account_X11_account rfl rfl rfl (by decide +kernel) ⟨Nat.le_of_ble_eq_true rfl, Nat.le_of_ble_eq_true rfl⟩) (PHX_V (A0 := A) (P_r hP) hK4 hN (D_r hD) hTY.1 hS (F_r hD hS hA) (ci := 9) (q0 := 0) rfl rfl) rfl rfl hl.1 rfl (lv_room (Nat.le_of_ble_eq_true rfl)) dL_account_4 ⟨Nat.le_of_ble_eq_true rfl, Nat.le_of_ble_eq_true rfl⟩) hP hD hS hA (fun E ce q9 u H locs hE hP hD hS hce hcv hcl => ?_) (fun u H locs hP hD hS => ?_)
  · exact (exC_0 hk0 hE).elim
  · refine lv_i2l (v := ((s_X11_account_r a1 z)).toInt64) hx hb dL_account_7 rfl ?_
    refine as_o hx hb hK hP hD hS dL_account_8 (fun H locs hP hD hS => ?_)
    refine lv_goto (tgt := 15) hx hb dL_account_9 (by decide) ?_
    refine lv_iconst (v := 0) hx hb dL_account_15 (by decide) ?_
    rw [hQQ]
    refine vx_ret ?_
    exact W.iret hx hb hr (end_Hi u.1 hP hD hS rfl rfl) hS.2.2 dL_account_16
set_option maxHeartbeats 400000 in
set_option maxRecDepth 100000 in
theorem c_L_account_n (l : Launch) (G : va_G) (y : Nat → ClassId) (h : Nat) (a1 : Int32) (qt : Nat) (fh : Nat) (kh : Nat) (ch : Nat) (qh : Nat) (qs : Nat) (kua : Nat) (kub : Nat) (kuc : Nat) (kud : Nat) (kue : Nat) (z : Nat → Nat → Int32) (kve : Nat) (jq : Nat) (jo : Nat → Int64) (sz : Nat) (hk0 : ¬ (s_X11_account_k a1) = 0) (hfl : l.stackTraces = false) : vx_Met l yL_account wsL_account rmL_account (PHL G y [.ref h, .int a1, .ref jq] ([aJ y jq 1 jo] ++ [kX11 h qt fh kh ch qh qs Z0, kX7 kh kua kub kuc kud kue (z 0), kX0 kue kve (z 11), aI y kve 3 (z 12)]) sz) (QHi G (cdK 1 (s_X11_account_k a1)) (fun _ : Unit => ([aJ y jq 1 jo] ++ [kX11 h qt fh kh ch qh qs Z0, kX7 kh kua kub kuc kud kue (z 0), kX0 kue kve (z 11), aI y kve 3 (z 12)])) (va_A ([aJ y jq 1 jo] ++ [kX11 h qt fh kh ch qh qs Z0, kX7 kh kua kub kuc kud kue (z 0), kX0 kue kve (z 11), aI y kve 3 (z 12)]) sz)) XN 1 6 (va_A ([aJ y jq 1 jo] ++ [kX11 h qt fh kh ch qh qs Z0, kX7 kh kua kub kuc kud kue (z 0), kX0 kue kve (z 11), aI y kve 3 (z 12)]) sz) := by
  refine vx_ofWH (cc := cL_account) (maxL := 4) (ret := (some .int)) (hh := [(0, 9, 12, 13)]) (by decide) rfl ?_
  intro p e s m args below meth c s₁ B hml hv
  obtain ⟨rfl, hsz, hP, ⟨hK, hN⟩, hD0, hTY⟩ := hv
  have hx := B.exec
  have hb := B.bytes
  have hr := B.returns
  have hts := atoms_spec (ws := wsL_account) B.pre
  have hown : s.vm.findClass RL = some m.cls := findClass_of_methodNamed B.named
  have hlocks := B.notSynchronized
  have htb : c.exceptionTable.toList = tableOf [(0, 9, 12, 13)] := vx_table (x := yL_account) B (hts (.codeWith yL_account cL_account 4 (some .int) [(0, 9, 12, 13)]) (List.mem_cons_self))
  subst hsz
  have hD := hD0.self (sz := s.heap.size)
  generalize hAe : va_A ([aJ y jq 1 jo] ++ [kX11 h qt fh kh ch qh qs Z0, kX7 kh kua kub kuc kud kue (z 0), kX0 kue kve (z 11), aI y kve 3 (z 12)]) s.heap.size = A at hD hTY ⊢
  have hA : ∀ q : Nat, s.heap.size ≤ q → A q := fun q h => by rw [← hAe]; exact Or.inr h
  have hS : va_S A s.heap s.heap [] := va_S.rf
  have hP : va_P G vwCl ([aJ y jq 1 jo] ++ [kX11 h qt fh kh ch qh qs Z0, kX7 kh kua kub kuc kud kue (z 0), kX0 kue kve (z 11), aI y kve 3 (z 12)]) s.heap := hP
  have hK4 : va_K G vwCl (tyG y) s := hK.sub (tys' := tyG y) [0, 1, 2, 3] rfl
  have hl := lv_entry ([.ref h, .int a1, .ref jq]) (n := 4) (Nat.le_of_ble_eq_true rfl)
  rw [lg_entry_eq]
  generalize (lg_sl ([.ref h, .int a1, .ref jq]) ++ List.replicate (4 - (lg_sl ([.ref h, .int a1, .ref jq])).length) Slot.unset).toArray = ls at hl ⊢
  have hl : lv_has ls 4 [(0, .ref h), (1, .int a1), (2, .ref jq)] := hl
  obtain ⟨QQ, hQQ⟩ : ∃ zq9, zq9 = vx_MQ below (QHi G (cdK 1 (s_X11_account_k a1)) (fun _ : Unit => ([aJ y jq 1 jo] ++ [kX11 h qt fh kh ch qh qs Z0, kX7 kh kua kub kuc kud kue (z 0), kX0 kue kve (z 11), aI y kve 3 (z 12)])) A) XN ([.ref h, .int a1, .ref jq] : List Value).toArray s 1 6 A := ⟨_, rfl⟩
  rw [← hQQ]
  refine lv_aload_n hx hb dL_account_0 rfl (lv_at hl 2 rfl) ?_
  refine lv_iconst (v := 0) hx hb dL_account_1 (by decide) ?_
  refine lv_aload_n hx hb dL_account_2 rfl (lv_at hl 0 rfl) ?_
  refine lv_iload_n hx hb dL_account_3 rfl (lv_at hl 1 rfl) ?_
  refine cl_X (wr := [aJ y jq 1 jo]) (wc := [kX11 h qt fh kh ch qh qs Z0, kX7 kh kua kub kuc kud kue (z 0), kX0 kue kve (z 11), aI y kve 3 (z 12)]) (vx_runV (As := [.int a1]) (rest := [.int 0, .ref jq]) ⟨hx, hb, hml, hown, hts⟩ (c_X11_account l G y h a1 qt fh kh ch qh qs kua kub kuc kud kue z kve s.heap.size hfl) (cwV 1 hts gL_account_X11_account rfl rfl rfl (by decide +kernel) ⟨Nat.le_of_ble_eq_true rfl, Nat.le_of_ble_eq_true rfl⟩) (PHX_V (A0 := A) (P_r hP) hK4 hN (D_r hD) hTY.1 hS (F_r hD hS hA) (ci := 9) (q0 := 0) rfl rfl) rfl rfl hl.1 rfl (lv_room (Nat.le_of_ble_eq_true rfl)) dL_account_4 ⟨Nat.le_of_ble_eq_true rfl, Nat.le_of_ble_eq_true rfl⟩) hP hD hS hA (fun E ce q9 u H locs hE hP hD hS hce hcv hcl => ?_) (fun u H locs hP hD hS => ?_)
  · rcases hE with ⟨rfl, hE⟩ | ⟨rfl, hE⟩ | ⟨rfl, hE⟩
    · refine vx_catch hown [] ⟨0, 9, 12, 13⟩ [] (htb.trans rfl) (fun z hz => by cases hz) (by decide) (by decide) (hts (.classLink RL 13 "java/lang/IllegalArgumentException") (by decide +kernel)) (va_Nw.use rfl (hTY.1.2.1 _ mIA)) hce hcv hcl ?_
      refine lv_astore_n (lv' := [(3, .ref q9), (0, .ref h), (1, .int a1), (2, .ref jq)]) hx hb dL_account_12 rfl hl (by decide) rfl (fun ls hl => ?_)
      refine lv_iconst (v := 1) hx hb dL_account_13 (by decide) ?_
      rw [hQQ]
      refine vx_ret ?_
      exact W.iret hx hb hr (end_Hi u hP hD hS (cd_1 hE (by decide)) rfl) hS.2.2 dL_account_14
    · rcases kx_account a1 with k9 | k9
      · exact absurd (hE.trans k9) (by decide)
      · exact absurd (hE.trans k9) (by decide)
    · rcases kx_account a1 with k9 | k9
      · exact absurd (hE.trans k9) (by decide)
      · exact absurd (hE.trans k9) (by decide)
  · exact absurd u.2 hk0
theorem kx_tick (a1 : Int32) : s_X11_tick_k a1 = 0 ∨ s_X11_tick_k a1 = 1 := by
  unfold s_X11_tick_k
  exact k_ite (Q := (fun x : Int32 => x = 0 ∨ x = 1)) (Or.inr rfl) (Or.inl rfl)
abbrev rmL_tick : Room := ({ frames := 7, cells := 1, slots := 6, locals := 144 } : Room)
set_option maxHeartbeats 400000 in
set_option maxRecDepth 100000 in
theorem c_L_tick_y (l : Launch) (G : va_G) (y : Nat → ClassId) (h : Nat) (a1 : Int32) (qt : Nat) (fh : Nat) (kh : Nat) (ch : Nat) (qh : Nat) (qs : Nat) (a : Nat) (x : Nat → Int32) (kua : Nat) (kub : Nat) (kuc : Nat) (kud : Nat) (kue : Nat) (z : Nat → Nat → Int32) (kva : Nat) (kvc1 : Nat) (kvc2 : Nat) (kvc3 : Nat) (kvc4 : Nat) (kvc5 : Nat) (o : Nat → Int32) (kvd : Nat) (kve : Nat) (ad : Nat → Nat → Nat) (zk : Nat → Nat → Nat → Int32) (ok : Nat → Nat → Int32) (jq : Nat) (jo : Nat → Int64) (sz : Nat) (hc : vp_in (x 1) 15) (hrz : z 3 7 = 0 ∨ z 3 7 = 1) (hez : z 3 10 = 0 ∨ z 3 10 = 1) (hgz : z 4 6 = 0 ∨ z 4 6 = 1) (hTC : TC z) (hk0 : (s_X11_tick_k a1) = 0) (hfl : l.stackTraces = false) : vx_Met l yL_tick wsL_tick rmL_tick (PHL G y [.ref h, .int a1, .ref jq] ([aJ y jq 1 jo] ++ ([kX11 h qt fh kh ch qh qs Z0, kX2 qh a x, aQ y a 14 (fun i => some (ad i 0)), kX7 kh kua kub kuc kud kue (z 0), kX3 kua kva (z 1), aI y kva 10 (z 2), kX1 kub (z 3), kX8 kuc kvc1 kvc2 kvc3 kvc4 kvc5 (z 4), aI y kvc1 20 (z 5), aI y kvc2 20 (z 6), aI y kvc3 20 (z 7), aI y kvc4 20 (z 8), aI y kvc5 20 o, kX10 kud kvd (z 9), aI y kvd 32 (z 10), kX0 kue kve (z 11), aI y kve 3 (z 12)] ++ kW y ad zk ok 14)) sz) (QHi G 0 (fun u : (Nat → Int32) => ([aJ y jq 1 (vp_updL jo 0 ((s_X11_tick_r a1 z)).toInt64)] ++ ([kX11 h qt fh kh ch qh qs Z0, kX2 qh a (upd x 1 (nI (rmC (tn (x 1)) + 1))), aQ y a 14 (fun i => some (rmT (tn (x 1)) ad i 0)), kX7 kh kua kub kuc kud kue (s_X11_tick_z a1 z 0), kX3 kua kva (s_X11_tick_z a1 z 1), aI y kva 10 (s_X11_tick_z a1 z 2), kX1 kub (s_X11_tick_z a1 z 3), kX8 kuc kvc1 kvc2 kvc3 kvc4 kvc5 (s_X11_tick_z a1 z 4), aI y kvc1 20 (s_X11_tick_z a1 z 5), aI y kvc2 20 (s_X11_tick_z a1 z 6), aI y kvc3 20 (s_X11_tick_z a1 z 7), aI y kvc4 20 (s_X11_tick_z a1 z 8), aI y kvc5 20 u, kX10 kud kvd (s_X11_tick_z a1 z 9), aI y kvd 32 (s_X11_tick_z a1 z 10), kX0 kue kve (s_X11_tick_z a1 z 11), aI y kve 3 (s_X11_tick_z a1 z 12)] ++ kW y (rmT (tn (x 1)) ad) (uK (rmT (tn (x 1)) zk) (rmC (tn (x 1))) z) (rmT (tn (x 1)) ok) 14))) (va_A ([aJ y jq 1 jo] ++ ([kX11 h qt fh kh ch qh qs Z0, kX2 qh a x, aQ y a 14 (fun i => some (ad i 0)), kX7 kh kua kub kuc kud kue (z 0), kX3 kua kva (z 1), aI y kva 10 (z 2), kX1 kub (z 3), kX8 kuc kvc1 kvc2 kvc3 kvc4 kvc5 (z 4), aI y kvc1 20 (z 5), aI y kvc2 20 (z 6), aI y kvc3 20 (z 7), aI y kvc4 20 (z 8), aI y kvc5 20 o, kX10 kud kvd (z 9), aI y kvd 32 (z 10), kX0 kue kve (z 11), aI y kve 3 (z 12)] ++ kW y ad zk ok 14)) sz)) XN 1 6 (va_A ([aJ y jq 1 jo] ++ ([kX11 h qt fh kh ch qh qs Z0, kX2 qh a x, aQ y a 14 (fun i => some (ad i 0)), kX7 kh kua kub kuc kud kue (z 0), kX3 kua kva (z 1), aI y kva 10 (z 2), kX1 kub (z 3), kX8 kuc kvc1 kvc2 kvc3 kvc4 kvc5 (z 4), aI y kvc1 20 (z 5), aI y kvc2 20 (z 6), aI y kvc3 20 (z 7), aI y kvc4 20 (z 8), aI y kvc5 20 o, kX10 kud kvd (z 9), aI y kvd 32 (z 10), kX0 kue kve (z 11), aI y kve 3 (z 12)] ++ kW y ad zk ok 14)) sz) := by
  refine vx_ofWH (cc := cL_tick) (maxL := 4) (ret := (some .int)) (hh := [(0, 9, 12, 13)]) (by decide) rfl ?_
  intro p e s m args below meth c s₁ B hml hv
  obtain ⟨rfl, hsz, hP, ⟨hK, hN⟩, hD0, hTY⟩ := hv
  have hx := B.exec
  have hb := B.bytes
  have hr := B.returns
  have hts := atoms_spec (ws := wsL_tick) B.pre
  have hown : s.vm.findClass RL = some m.cls := findClass_of_methodNamed B.named
  have hlocks := B.notSynchronized
  have htb : c.exceptionTable.toList = tableOf [(0, 9, 12, 13)] := vx_table (x := yL_tick) B (hts (.codeWith yL_tick cL_tick 4 (some .int) [(0, 9, 12, 13)]) (List.mem_cons_self))
  subst hsz
  have hD := hD0.self (sz := s.heap.size)
  generalize hAe : va_A ([aJ y jq 1 jo] ++ ([kX11 h qt fh kh ch qh qs Z0, kX2 qh a x, aQ y a 14 (fun i => some (ad i 0)), kX7 kh kua kub kuc kud kue (z 0), kX3 kua kva (z 1), aI y kva 10 (z 2), kX1 kub (z 3), kX8 kuc kvc1 kvc2 kvc3 kvc4 kvc5 (z 4), aI y kvc1 20 (z 5), aI y kvc2 20 (z 6), aI y kvc3 20 (z 7), aI y kvc4 20 (z 8), aI y kvc5 20 o, kX10 kud kvd (z 9), aI y kvd 32 (z 10), kX0 kue kve (z 11), aI y kve 3 (z 12)] ++ kW y ad zk ok 14)) s.heap.size = A at hD hTY ⊢
  have hA : ∀ q : Nat, s.heap.size ≤ q → A q := fun q h => by rw [← hAe]; exact Or.inr h
  have hS : va_S A s.heap s.heap [] := va_S.rf
  have hP : va_P G vwCl ([aJ y jq 1 jo] ++ ([kX11 h qt fh kh ch qh qs Z0, kX2 qh a x, aQ y a 14 (fun i => some (ad i 0)), kX7 kh kua kub kuc kud kue (z 0), kX3 kua kva (z 1), aI y kva 10 (z 2), kX1 kub (z 3), kX8 kuc kvc1 kvc2 kvc3 kvc4 kvc5 (z 4), aI y kvc1 20 (z 5), aI y kvc2 20 (z 6), aI y kvc3 20 (z 7), aI y kvc4 20 (z 8), aI y kvc5 20 o, kX10 kud kvd (z 9), aI y kvd 32 (z 10), kX0 kue kve (z 11), aI y kve 3 (z 12)] ++ kW y ad zk ok 14)) s.heap := hP
  have hK4 : va_K G vwCl (tyG y) s := hK.sub (tys' := tyG y) [0, 1, 2, 3] rfl
  have hl := lv_entry ([.ref h, .int a1, .ref jq]) (n := 4) (Nat.le_of_ble_eq_true rfl)
  rw [lg_entry_eq]
  generalize (lg_sl ([.ref h, .int a1, .ref jq]) ++ List.replicate (4 - (lg_sl ([.ref h, .int a1, .ref jq])).length) Slot.unset).toArray = ls at hl ⊢
  have hl : lv_has ls 4 [(0, .ref h), (1, .int a1), (2, .ref jq)] := hl
  obtain ⟨QQ, hQQ⟩ : ∃ zq9, zq9 = vx_MQ below (QHi G 0 (fun u : (Nat → Int32) => ([aJ y jq 1 (vp_updL jo 0 ((s_X11_tick_r a1 z)).toInt64)] ++ ([kX11 h qt fh kh ch qh qs Z0, kX2 qh a (upd x 1 (nI (rmC (tn (x 1)) + 1))), aQ y a 14 (fun i => some (rmT (tn (x 1)) ad i 0)), kX7 kh kua kub kuc kud kue (s_X11_tick_z a1 z 0), kX3 kua kva (s_X11_tick_z a1 z 1), aI y kva 10 (s_X11_tick_z a1 z 2), kX1 kub (s_X11_tick_z a1 z 3), kX8 kuc kvc1 kvc2 kvc3 kvc4 kvc5 (s_X11_tick_z a1 z 4), aI y kvc1 20 (s_X11_tick_z a1 z 5), aI y kvc2 20 (s_X11_tick_z a1 z 6), aI y kvc3 20 (s_X11_tick_z a1 z 7), aI y kvc4 20 (s_X11_tick_z a1 z 8), aI y kvc5 20 u, kX10 kud kvd (s_X11_tick_z a1 z 9), aI y kvd 32 (s_X11_tick_z a1 z 10), kX0 kue kve (s_X11_tick_z a1 z 11), aI y kve 3 (s_X11_tick_z a1 z 12)] ++ kW y (rmT (tn (x 1)) ad) (uK (rmT (tn (x 1)) zk) (rmC (tn (x 1))) z) (rmT (tn (x 1)) ok) 14))) A) XN ([.ref h, .int a1, .ref jq] : List Value).toArray s 1 6 A := ⟨_, rfl⟩
  rw [← hQQ]
  refine lv_aload_n hx hb dL_tick_0 rfl (lv_at hl 2 rfl) ?_
  refine lv_iconst (v := 0) hx hb dL_tick_1 (by decide) ?_
  refine lv_aload_n hx hb dL_tick_2 rfl (lv_at hl 0 rfl) ?_
  refine lv_iload_n hx hb dL_tick_3 rfl (lv_at hl 1 rfl) ?_
  refine cl_X (wr := [aJ y jq 1 jo]) (wc := ([kX11 h qt fh kh ch qh qs Z0, kX2 qh a x, aQ y a 14 (fun i => some (ad i 0)), kX7 kh kua kub kuc kud kue (z 0), kX3 kua kva (z 1), aI y kva 10 (z 2), kX1 kub (z 3), kX8 kuc kvc1 kvc2 kvc3 kvc4 kvc5 (z 4), aI y kvc1 20 (z 5), aI y kvc2 20 (z 6), aI y kvc3 20 (z 7), aI y kvc4 20 (z 8), aI y kvc5 20 o, kX10 kud kvd (z 9), aI y kvd 32 (z 10), kX0 kue kve (z 11), aI y kve 3 (z 12)] ++ kW y ad zk ok 14)) (vx_runV (As := [.int a1]) (rest := [.int 0, .ref jq]) ⟨hx, hb, hml, hown, hts⟩ (c_X11_tick l G y h a1 qt fh kh ch qh qs a x kua kub kuc kud kue z kva kvc1 kvc2 kvc3 kvc4 kvc5 o kvd kve ad zk ok s.heap.size hc hrz hez hgz hTC hfl) (cwV 1 hts gL_tick_X11_tick rfl rfl rfl (by decide +kernel) ⟨Nat.le_of_ble_eq_true rfl, Nat.le_of_ble_eq_true rfl⟩) (PHX_V (A0 := A) (P_r hP) hK4 hN (D_r hD) hTY.1 hS (F_r hD hS hA) (ci := 9) (q0 := 0) rfl rfl) rfl rfl hl.1 rfl (lv_room (Nat.le_of_ble_eq_true rfl)) dL_tick_4 ⟨Nat.le_of_ble_eq_true rfl, Nat.le_of_ble_eq_true rfl⟩) hP hD hS hA (fun E ce q9 u H locs hE hP hD hS hce hcv hcl => ?_) (fun u H locs hP hD hS => ?_)
  · exact (exC_0 hk0 hE).elim
  · refine lv_i2l (v := ((s_X11_tick_r a1 z)).toInt64) hx hb dL_tick_7 rfl ?_
    refine as_o hx hb hK hP hD hS dL_tick_8 (fun H locs hP hD hS => ?_)
    refine lv_goto (tgt := 15) hx hb dL_tick_9 (by decide) ?_
    refine lv_iconst (v := 0) hx hb dL_tick_15 (by decide) ?_
    rw [hQQ]
    refine vx_ret ?_
    exact W.iret hx hb hr (end_Hi u.1 hP hD hS rfl rfl) hS.2.2 dL_tick_16
set_option maxHeartbeats 400000 in
set_option maxRecDepth 100000 in
theorem c_L_tick_n (l : Launch) (G : va_G) (y : Nat → ClassId) (h : Nat) (a1 : Int32) (qt : Nat) (fh : Nat) (kh : Nat) (ch : Nat) (qh : Nat) (qs : Nat) (a : Nat) (x : Nat → Int32) (kua : Nat) (kub : Nat) (kuc : Nat) (kud : Nat) (kue : Nat) (z : Nat → Nat → Int32) (kva : Nat) (kvc1 : Nat) (kvc2 : Nat) (kvc3 : Nat) (kvc4 : Nat) (kvc5 : Nat) (o : Nat → Int32) (kvd : Nat) (kve : Nat) (ad : Nat → Nat → Nat) (zk : Nat → Nat → Nat → Int32) (ok : Nat → Nat → Int32) (jq : Nat) (jo : Nat → Int64) (sz : Nat) (hc : vp_in (x 1) 15) (hrz : z 3 7 = 0 ∨ z 3 7 = 1) (hez : z 3 10 = 0 ∨ z 3 10 = 1) (hgz : z 4 6 = 0 ∨ z 4 6 = 1) (hTC : TC z) (hk0 : ¬ (s_X11_tick_k a1) = 0) (hfl : l.stackTraces = false) : vx_Met l yL_tick wsL_tick rmL_tick (PHL G y [.ref h, .int a1, .ref jq] ([aJ y jq 1 jo] ++ ([kX11 h qt fh kh ch qh qs Z0, kX2 qh a x, aQ y a 14 (fun i => some (ad i 0)), kX7 kh kua kub kuc kud kue (z 0), kX3 kua kva (z 1), aI y kva 10 (z 2), kX1 kub (z 3), kX8 kuc kvc1 kvc2 kvc3 kvc4 kvc5 (z 4), aI y kvc1 20 (z 5), aI y kvc2 20 (z 6), aI y kvc3 20 (z 7), aI y kvc4 20 (z 8), aI y kvc5 20 o, kX10 kud kvd (z 9), aI y kvd 32 (z 10), kX0 kue kve (z 11), aI y kve 3 (z 12)] ++ kW y ad zk ok 14)) sz) (QHi G (cdK 1 (s_X11_tick_k a1)) (fun u : (Nat → Int32) => ([aJ y jq 1 jo] ++ ([kX11 h qt fh kh ch qh qs Z0, kX2 qh a x, aQ y a 14 (fun i => some (ad i 0)), kX7 kh kua kub kuc kud kue (z 0), kX3 kua kva (z 1), aI y kva 10 (z 2), kX1 kub (z 3), kX8 kuc kvc1 kvc2 kvc3 kvc4 kvc5 (z 4), aI y kvc1 20 (z 5), aI y kvc2 20 (z 6), aI y kvc3 20 (z 7), aI y kvc4 20 (z 8), aI y kvc5 20 u, kX10 kud kvd (z 9), aI y kvd 32 (z 10), kX0 kue kve (z 11), aI y kve 3 (z 12)] ++ kW y ad zk ok 14))) (va_A ([aJ y jq 1 jo] ++ ([kX11 h qt fh kh ch qh qs Z0, kX2 qh a x, aQ y a 14 (fun i => some (ad i 0)), kX7 kh kua kub kuc kud kue (z 0), kX3 kua kva (z 1), aI y kva 10 (z 2), kX1 kub (z 3), kX8 kuc kvc1 kvc2 kvc3 kvc4 kvc5 (z 4), aI y kvc1 20 (z 5), aI y kvc2 20 (z 6), aI y kvc3 20 (z 7), aI y kvc4 20 (z 8), aI y kvc5 20 o, kX10 kud kvd (z 9), aI y kvd 32 (z 10), kX0 kue kve (z 11), aI y kve 3 (z 12)] ++ kW y ad zk ok 14)) sz)) XN 1 6 (va_A ([aJ y jq 1 jo] ++ ([kX11 h qt fh kh ch qh qs Z0, kX2 qh a x, aQ y a 14 (fun i => some (ad i 0)), kX7 kh kua kub kuc kud kue (z 0), kX3 kua kva (z 1), aI y kva 10 (z 2), kX1 kub (z 3), kX8 kuc kvc1 kvc2 kvc3 kvc4 kvc5 (z 4), aI y kvc1 20 (z 5), aI y kvc2 20 (z 6), aI y kvc3 20 (z 7), aI y kvc4 20 (z 8), aI y kvc5 20 o, kX10 kud kvd (z 9), aI y kvd 32 (z 10), kX0 kue kve (z 11), aI y kve 3 (z 12)] ++ kW y ad zk ok 14)) sz) := by
  refine vx_ofWH (cc := cL_tick) (maxL := 4) (ret := (some .int)) (hh := [(0, 9, 12, 13)]) (by decide) rfl ?_
  intro p e s m args below meth c s₁ B hml hv
  obtain ⟨rfl, hsz, hP, ⟨hK, hN⟩, hD0, hTY⟩ := hv
  have hx := B.exec
  have hb := B.bytes
  have hr := B.returns
  have hts := atoms_spec (ws := wsL_tick) B.pre
  have hown : s.vm.findClass RL = some m.cls := findClass_of_methodNamed B.named
  have hlocks := B.notSynchronized
  have htb : c.exceptionTable.toList = tableOf [(0, 9, 12, 13)] := vx_table (x := yL_tick) B (hts (.codeWith yL_tick cL_tick 4 (some .int) [(0, 9, 12, 13)]) (List.mem_cons_self))
  subst hsz
  have hD := hD0.self (sz := s.heap.size)
  generalize hAe : va_A ([aJ y jq 1 jo] ++ ([kX11 h qt fh kh ch qh qs Z0, kX2 qh a x, aQ y a 14 (fun i => some (ad i 0)), kX7 kh kua kub kuc kud kue (z 0), kX3 kua kva (z 1), aI y kva 10 (z 2), kX1 kub (z 3), kX8 kuc kvc1 kvc2 kvc3 kvc4 kvc5 (z 4), aI y kvc1 20 (z 5), aI y kvc2 20 (z 6), aI y kvc3 20 (z 7), aI y kvc4 20 (z 8), aI y kvc5 20 o, kX10 kud kvd (z 9), aI y kvd 32 (z 10), kX0 kue kve (z 11), aI y kve 3 (z 12)] ++ kW y ad zk ok 14)) s.heap.size = A at hD hTY ⊢
  have hA : ∀ q : Nat, s.heap.size ≤ q → A q := fun q h => by rw [← hAe]; exact Or.inr h
  have hS : va_S A s.heap s.heap [] := va_S.rf
  have hP : va_P G vwCl ([aJ y jq 1 jo] ++ ([kX11 h qt fh kh ch qh qs Z0, kX2 qh a x, aQ y a 14 (fun i => some (ad i 0)), kX7 kh kua kub kuc kud kue (z 0), kX3 kua kva (z 1), aI y kva 10 (z 2), kX1 kub (z 3), kX8 kuc kvc1 kvc2 kvc3 kvc4 kvc5 (z 4), aI y kvc1 20 (z 5), aI y kvc2 20 (z 6), aI y kvc3 20 (z 7), aI y kvc4 20 (z 8), aI y kvc5 20 o, kX10 kud kvd (z 9), aI y kvd 32 (z 10), kX0 kue kve (z 11), aI y kve 3 (z 12)] ++ kW y ad zk ok 14)) s.heap := hP
  have hK4 : va_K G vwCl (tyG y) s := hK.sub (tys' := tyG y) [0, 1, 2, 3] rfl
  have hl := lv_entry ([.ref h, .int a1, .ref jq]) (n := 4) (Nat.le_of_ble_eq_true rfl)
  rw [lg_entry_eq]
  generalize (lg_sl ([.ref h, .int a1, .ref jq]) ++ List.replicate (4 - (lg_sl ([.ref h, .int a1, .ref jq])).length) Slot.unset).toArray = ls at hl ⊢
  have hl : lv_has ls 4 [(0, .ref h), (1, .int a1), (2, .ref jq)] := hl
  obtain ⟨QQ, hQQ⟩ : ∃ zq9, zq9 = vx_MQ below (QHi G (cdK 1 (s_X11_tick_k a1)) (fun u : (Nat → Int32) => ([aJ y jq 1 jo] ++ ([kX11 h qt fh kh ch qh qs Z0, kX2 qh a x, aQ y a 14 (fun i => some (ad i 0)), kX7 kh kua kub kuc kud kue (z 0), kX3 kua kva (z 1), aI y kva 10 (z 2), kX1 kub (z 3), kX8 kuc kvc1 kvc2 kvc3 kvc4 kvc5 (z 4), aI y kvc1 20 (z 5), aI y kvc2 20 (z 6), aI y kvc3 20 (z 7), aI y kvc4 20 (z 8), aI y kvc5 20 u, kX10 kud kvd (z 9), aI y kvd 32 (z 10), kX0 kue kve (z 11), aI y kve 3 (z 12)] ++ kW y ad zk ok 14))) A) XN ([.ref h, .int a1, .ref jq] : List Value).toArray s 1 6 A := ⟨_, rfl⟩
  rw [← hQQ]
  refine lv_aload_n hx hb dL_tick_0 rfl (lv_at hl 2 rfl) ?_
  refine lv_iconst (v := 0) hx hb dL_tick_1 (by decide) ?_
  refine lv_aload_n hx hb dL_tick_2 rfl (lv_at hl 0 rfl) ?_
  refine lv_iload_n hx hb dL_tick_3 rfl (lv_at hl 1 rfl) ?_
  refine cl_X (wr := [aJ y jq 1 jo]) (wc := ([kX11 h qt fh kh ch qh qs Z0, kX2 qh a x, aQ y a 14 (fun i => some (ad i 0)), kX7 kh kua kub kuc kud kue (z 0), kX3 kua kva (z 1), aI y kva 10 (z 2), kX1 kub (z 3), kX8 kuc kvc1 kvc2 kvc3 kvc4 kvc5 (z 4), aI y kvc1 20 (z 5), aI y kvc2 20 (z 6), aI y kvc3 20 (z 7), aI y kvc4 20 (z 8), aI y kvc5 20 o, kX10 kud kvd (z 9), aI y kvd 32 (z 10), kX0 kue kve (z 11), aI y kve 3 (z 12)] ++ kW y ad zk ok 14)) (vx_runV (As := [.int a1]) (rest := [.int 0, .ref jq]) ⟨hx, hb, hml, hown, hts⟩ (c_X11_tick l G y h a1 qt fh kh ch qh qs a x kua kub kuc kud kue z kva kvc1 kvc2 kvc3 kvc4 kvc5 o kvd kve ad zk ok s.heap.size hc hrz hez hgz hTC hfl) (cwV 1 hts gL_tick_X11_tick rfl rfl rfl (by decide +kernel) ⟨Nat.le_of_ble_eq_true rfl, Nat.le_of_ble_eq_true rfl⟩) (PHX_V (A0 := A) (P_r hP) hK4 hN (D_r hD) hTY.1 hS (F_r hD hS hA) (ci := 9) (q0 := 0) rfl rfl) rfl rfl hl.1 rfl (lv_room (Nat.le_of_ble_eq_true rfl)) dL_tick_4 ⟨Nat.le_of_ble_eq_true rfl, Nat.le_of_ble_eq_true rfl⟩) hP hD hS hA (fun E ce q9 u H locs hE hP hD hS hce hcv hcl => ?_) (fun u H locs hP hD hS => ?_)
  · rcases hE with ⟨rfl, hE⟩ | ⟨rfl, hE⟩ | ⟨rfl, hE⟩
    · refine vx_catch hown [] ⟨0, 9, 12, 13⟩ [] (htb.trans rfl) (fun z hz => by cases hz) (by decide) (by decide) (hts (.classLink RL 13 "java/lang/IllegalArgumentException") (by decide +kernel)) (va_Nw.use rfl (hTY.1.2.1 _ mIA)) hce hcv hcl ?_
      refine lv_astore_n (lv' := [(3, .ref q9), (0, .ref h), (1, .int a1), (2, .ref jq)]) hx hb dL_tick_12 rfl hl (by decide) rfl (fun ls hl => ?_)
      refine lv_iconst (v := 1) hx hb dL_tick_13 (by decide) ?_
      rw [hQQ]
      refine vx_ret ?_
      exact W.iret hx hb hr (end_Hi u hP hD hS (cd_1 hE (by decide)) rfl) hS.2.2 dL_tick_14
    · rcases kx_tick a1 with k9 | k9
      · exact absurd (hE.trans k9) (by decide)
      · exact absurd (hE.trans k9) (by decide)
    · rcases kx_tick a1 with k9 | k9
      · exact absurd (hE.trans k9) (by decide)
      · exact absurd (hE.trans k9) (by decide)
  · exact absurd u.2 hk0
theorem kx_mode (a1 : Int32) : s_X11_mode_k a1 = 0 ∨ s_X11_mode_k a1 = 1 := by
  unfold s_X11_mode_k
  exact k_ite (Q := (fun x : Int32 => x = 0 ∨ x = 1)) (Or.inr rfl) (Or.inl rfl)
abbrev rmL_mode : Room := ({ frames := 7, cells := 1, slots := 6, locals := 145 } : Room)
set_option maxHeartbeats 400000 in
set_option maxRecDepth 100000 in
theorem c_L_mode_y (l : Launch) (G : va_G) (y : Nat → ClassId) (h : Nat) (a1 : Int32) (qt : Nat) (fh : Nat) (kh : Nat) (ch : Nat) (qh : Nat) (qs : Nat) (a : Nat) (x : Nat → Int32) (kua : Nat) (kub : Nat) (kuc : Nat) (kud : Nat) (kue : Nat) (z : Nat → Nat → Int32) (kva : Nat) (kvc1 : Nat) (kvc2 : Nat) (kvc3 : Nat) (kvc4 : Nat) (kvc5 : Nat) (o : Nat → Int32) (kvd : Nat) (kve : Nat) (ad : Nat → Nat → Nat) (zk : Nat → Nat → Nat → Int32) (ok : Nat → Nat → Int32) (jq : Nat) (jo : Nat → Int64) (sz : Nat) (hc : vp_in (x 1) 15) (hrz : z 3 7 = 0 ∨ z 3 7 = 1) (hez : z 3 10 = 0 ∨ z 3 10 = 1) (hgz : z 4 6 = 0 ∨ z 4 6 = 1) (hk0 : (s_X11_mode_k a1) = 0) (hfl : l.stackTraces = false) : vx_Met l yL_mode wsL_mode rmL_mode (PHL G y [.ref h, .int a1, .ref jq] ([aJ y jq 1 jo] ++ ([kX11 h qt fh kh ch qh qs Z0, kX2 qh a x, aQ y a 14 (fun i => some (ad i 0)), kX7 kh kua kub kuc kud kue (z 0), kX3 kua kva (z 1), aI y kva 10 (z 2), kX1 kub (z 3), kX8 kuc kvc1 kvc2 kvc3 kvc4 kvc5 (z 4), aI y kvc1 20 (z 5), aI y kvc2 20 (z 6), aI y kvc3 20 (z 7), aI y kvc4 20 (z 8), aI y kvc5 20 o, kX10 kud kvd (z 9), aI y kvd 32 (z 10), kX0 kue kve (z 11), aI y kve 3 (z 12)] ++ kW y ad zk ok 14)) sz) (QHi G 0 (fun _ : Unit => ([aJ y jq 1 (vp_updL jo 0 ((s_X11_mode_r z)).toInt64)] ++ ([kX11 h qt fh kh ch qh qs Z0, kX2 qh a (upd x 1 (nI (rmC (tn (x 1)) + 1))), aQ y a 14 (fun i => some (rmT (tn (x 1)) ad i 0)), kX7 kh kua kub kuc kud kue (s_X11_mode_z a1 z 0), kX3 kua kva (s_X11_mode_z a1 z 1), aI y kva 10 (s_X11_mode_z a1 z 2), kX1 kub (s_X11_mode_z a1 z 3), kX8 kuc kvc1 kvc2 kvc3 kvc4 kvc5 (s_X11_mode_z a1 z 4), aI y kvc1 20 (s_X11_mode_z a1 z 5), aI y kvc2 20 (s_X11_mode_z a1 z 6), aI y kvc3 20 (s_X11_mode_z a1 z 7), aI y kvc4 20 (s_X11_mode_z a1 z 8), aI y kvc5 20 o, kX10 kud kvd (s_X11_mode_z a1 z 9), aI y kvd 32 (s_X11_mode_z a1 z 10), kX0 kue kve (s_X11_mode_z a1 z 11), aI y kve 3 (s_X11_mode_z a1 z 12)] ++ kW y (rmT (tn (x 1)) ad) (uK (rmT (tn (x 1)) zk) (rmC (tn (x 1))) z) (rmT (tn (x 1)) ok) 14))) (va_A ([aJ y jq 1 jo] ++ ([kX11 h qt fh kh ch qh qs Z0, kX2 qh a x, aQ y a 14 (fun i => some (ad i 0)), kX7 kh kua kub kuc kud kue (z 0), kX3 kua kva (z 1), aI y kva 10 (z 2), kX1 kub (z 3), kX8 kuc kvc1 kvc2 kvc3 kvc4 kvc5 (z 4), aI y kvc1 20 (z 5), aI y kvc2 20 (z 6), aI y kvc3 20 (z 7), aI y kvc4 20 (z 8), aI y kvc5 20 o, kX10 kud kvd (z 9), aI y kvd 32 (z 10), kX0 kue kve (z 11), aI y kve 3 (z 12)] ++ kW y ad zk ok 14)) sz)) XN 1 6 (va_A ([aJ y jq 1 jo] ++ ([kX11 h qt fh kh ch qh qs Z0, kX2 qh a x, aQ y a 14 (fun i => some (ad i 0)), kX7 kh kua kub kuc kud kue (z 0), kX3 kua kva (z 1), aI y kva 10 (z 2), kX1 kub (z 3), kX8 kuc kvc1 kvc2 kvc3 kvc4 kvc5 (z 4), aI y kvc1 20 (z 5), aI y kvc2 20 (z 6), aI y kvc3 20 (z 7), aI y kvc4 20 (z 8), aI y kvc5 20 o, kX10 kud kvd (z 9), aI y kvd 32 (z 10), kX0 kue kve (z 11), aI y kve 3 (z 12)] ++ kW y ad zk ok 14)) sz) := by
  refine vx_ofWH (cc := cL_mode) (maxL := 4) (ret := (some .int)) (hh := [(0, 9, 12, 13)]) (by decide) rfl ?_
  intro p e s m args below meth c s₁ B hml hv
  obtain ⟨rfl, hsz, hP, ⟨hK, hN⟩, hD0, hTY⟩ := hv
  have hx := B.exec
  have hb := B.bytes
  have hr := B.returns
  have hts := atoms_spec (ws := wsL_mode) B.pre
  have hown : s.vm.findClass RL = some m.cls := findClass_of_methodNamed B.named
  have hlocks := B.notSynchronized
  have htb : c.exceptionTable.toList = tableOf [(0, 9, 12, 13)] := vx_table (x := yL_mode) B (hts (.codeWith yL_mode cL_mode 4 (some .int) [(0, 9, 12, 13)]) (List.mem_cons_self))
  subst hsz
  have hD := hD0.self (sz := s.heap.size)
  generalize hAe : va_A ([aJ y jq 1 jo] ++ ([kX11 h qt fh kh ch qh qs Z0, kX2 qh a x, aQ y a 14 (fun i => some (ad i 0)), kX7 kh kua kub kuc kud kue (z 0), kX3 kua kva (z 1), aI y kva 10 (z 2), kX1 kub (z 3), kX8 kuc kvc1 kvc2 kvc3 kvc4 kvc5 (z 4), aI y kvc1 20 (z 5), aI y kvc2 20 (z 6), aI y kvc3 20 (z 7), aI y kvc4 20 (z 8), aI y kvc5 20 o, kX10 kud kvd (z 9), aI y kvd 32 (z 10), kX0 kue kve (z 11), aI y kve 3 (z 12)] ++ kW y ad zk ok 14)) s.heap.size = A at hD hTY ⊢
  have hA : ∀ q : Nat, s.heap.size ≤ q → A q := fun q h => by rw [← hAe]; exact Or.inr h
  have hS : va_S A s.heap s.heap [] := va_S.rf
  have hP : va_P G vwCl ([aJ y jq 1 jo] ++ ([kX11 h qt fh kh ch qh qs Z0, kX2 qh a x, aQ y a 14 (fun i => some (ad i 0)), kX7 kh kua kub kuc kud kue (z 0), kX3 kua kva (z 1), aI y kva 10 (z 2), kX1 kub (z 3), kX8 kuc kvc1 kvc2 kvc3 kvc4 kvc5 (z 4), aI y kvc1 20 (z 5), aI y kvc2 20 (z 6), aI y kvc3 20 (z 7), aI y kvc4 20 (z 8), aI y kvc5 20 o, kX10 kud kvd (z 9), aI y kvd 32 (z 10), kX0 kue kve (z 11), aI y kve 3 (z 12)] ++ kW y ad zk ok 14)) s.heap := hP
  have hK4 : va_K G vwCl (tyG y) s := hK.sub (tys' := tyG y) [0, 1, 2, 3] rfl
  have hl := lv_entry ([.ref h, .int a1, .ref jq]) (n := 4) (Nat.le_of_ble_eq_true rfl)
  rw [lg_entry_eq]
  generalize (lg_sl ([.ref h, .int a1, .ref jq]) ++ List.replicate (4 - (lg_sl ([.ref h, .int a1, .ref jq])).length) Slot.unset).toArray = ls at hl ⊢
  have hl : lv_has ls 4 [(0, .ref h), (1, .int a1), (2, .ref jq)] := hl
  obtain ⟨QQ, hQQ⟩ : ∃ zq9, zq9 = vx_MQ below (QHi G 0 (fun _ : Unit => ([aJ y jq 1 (vp_updL jo 0 ((s_X11_mode_r z)).toInt64)] ++ ([kX11 h qt fh kh ch qh qs Z0, kX2 qh a (upd x 1 (nI (rmC (tn (x 1)) + 1))), aQ y a 14 (fun i => some (rmT (tn (x 1)) ad i 0)), kX7 kh kua kub kuc kud kue (s_X11_mode_z a1 z 0), kX3 kua kva (s_X11_mode_z a1 z 1), aI y kva 10 (s_X11_mode_z a1 z 2), kX1 kub (s_X11_mode_z a1 z 3), kX8 kuc kvc1 kvc2 kvc3 kvc4 kvc5 (s_X11_mode_z a1 z 4), aI y kvc1 20 (s_X11_mode_z a1 z 5), aI y kvc2 20 (s_X11_mode_z a1 z 6), aI y kvc3 20 (s_X11_mode_z a1 z 7), aI y kvc4 20 (s_X11_mode_z a1 z 8), aI y kvc5 20 o, kX10 kud kvd (s_X11_mode_z a1 z 9), aI y kvd 32 (s_X11_mode_z a1 z 10), kX0 kue kve (s_X11_mode_z a1 z 11), aI y kve 3 (s_X11_mode_z a1 z 12)] ++ kW y (rmT (tn (x 1)) ad) (uK (rmT (tn (x 1)) zk) (rmC (tn (x 1))) z) (rmT (tn (x 1)) ok) 14))) A) XN ([.ref h, .int a1, .ref jq] : List Value).toArray s 1 6 A := ⟨_, rfl⟩
  rw [← hQQ]
  refine lv_aload_n hx hb dL_mode_0 rfl (lv_at hl 2 rfl) ?_
  refine lv_iconst (v := 0) hx hb dL_mode_1 (by decide) ?_
  refine lv_aload_n hx hb dL_mode_2 rfl (lv_at hl 0 rfl) ?_
  refine lv_iload_n hx hb dL_mode_3 rfl (lv_at hl 1 rfl) ?_
  refine cl_X (wr := [aJ y jq 1 jo]) (wc := ([kX11 h qt fh kh ch qh qs Z0, kX2 qh a x, aQ y a 14 (fun i => some (ad i 0)), kX7 kh kua kub kuc kud kue (z 0), kX3 kua kva (z 1), aI y kva 10 (z 2), kX1 kub (z 3), kX8 kuc kvc1 kvc2 kvc3 kvc4 kvc5 (z 4), aI y kvc1 20 (z 5), aI y kvc2 20 (z 6), aI y kvc3 20 (z 7), aI y kvc4 20 (z 8), aI y kvc5 20 o, kX10 kud kvd (z 9), aI y kvd 32 (z 10), kX0 kue kve (z 11), aI y kve 3 (z 12)] ++ kW y ad zk ok 14)) (vx_runV (As := [.int a1]) (rest := [.int 0, .ref jq]) ⟨hx, hb, hml, hown, hts⟩ (c_X11_mode l G y h a1 qt fh kh ch qh qs a x kua kub kuc kud kue z kva kvc1 kvc2 kvc3 kvc4 kvc5 o kvd kve ad zk ok s.heap.size hc hrz hez hgz hfl) (cwV 1 hts gL_mode_X11_mode rfl rfl rfl (by decide +kernel) ⟨Nat.le_of_ble_eq_true rfl, Nat.le_of_ble_eq_true rfl⟩) (PHX_V (A0 := A) (P_r hP) hK4 hN (D_r hD) hTY.1 hS (F_r hD hS hA) (ci := 9) (q0 := 0) rfl rfl) rfl rfl hl.1 rfl (lv_room (Nat.le_of_ble_eq_true rfl)) dL_mode_4 ⟨Nat.le_of_ble_eq_true rfl, Nat.le_of_ble_eq_true rfl⟩) hP hD hS hA (fun E ce q9 u H locs hE hP hD hS hce hcv hcl => ?_) (fun u H locs hP hD hS => ?_)
  · exact (exC_0 hk0 hE).elim
  · refine lv_i2l (v := ((s_X11_mode_r z)).toInt64) hx hb dL_mode_7 rfl ?_
    refine as_o hx hb hK hP hD hS dL_mode_8 (fun H locs hP hD hS => ?_)
    refine lv_goto (tgt := 15) hx hb dL_mode_9 (by decide) ?_
    refine lv_iconst (v := 0) hx hb dL_mode_15 (by decide) ?_
    rw [hQQ]
    refine vx_ret ?_
    exact W.iret hx hb hr (end_Hi u.1 hP hD hS rfl rfl) hS.2.2 dL_mode_16
set_option maxHeartbeats 400000 in
set_option maxRecDepth 100000 in
theorem c_L_mode_n (l : Launch) (G : va_G) (y : Nat → ClassId) (h : Nat) (a1 : Int32) (qt : Nat) (fh : Nat) (kh : Nat) (ch : Nat) (qh : Nat) (qs : Nat) (a : Nat) (x : Nat → Int32) (kua : Nat) (kub : Nat) (kuc : Nat) (kud : Nat) (kue : Nat) (z : Nat → Nat → Int32) (kva : Nat) (kvc1 : Nat) (kvc2 : Nat) (kvc3 : Nat) (kvc4 : Nat) (kvc5 : Nat) (o : Nat → Int32) (kvd : Nat) (kve : Nat) (ad : Nat → Nat → Nat) (zk : Nat → Nat → Nat → Int32) (ok : Nat → Nat → Int32) (jq : Nat) (jo : Nat → Int64) (sz : Nat) (hc : vp_in (x 1) 15) (hrz : z 3 7 = 0 ∨ z 3 7 = 1) (hez : z 3 10 = 0 ∨ z 3 10 = 1) (hgz : z 4 6 = 0 ∨ z 4 6 = 1) (hk0 : ¬ (s_X11_mode_k a1) = 0) (hfl : l.stackTraces = false) : vx_Met l yL_mode wsL_mode rmL_mode (PHL G y [.ref h, .int a1, .ref jq] ([aJ y jq 1 jo] ++ ([kX11 h qt fh kh ch qh qs Z0, kX2 qh a x, aQ y a 14 (fun i => some (ad i 0)), kX7 kh kua kub kuc kud kue (z 0), kX3 kua kva (z 1), aI y kva 10 (z 2), kX1 kub (z 3), kX8 kuc kvc1 kvc2 kvc3 kvc4 kvc5 (z 4), aI y kvc1 20 (z 5), aI y kvc2 20 (z 6), aI y kvc3 20 (z 7), aI y kvc4 20 (z 8), aI y kvc5 20 o, kX10 kud kvd (z 9), aI y kvd 32 (z 10), kX0 kue kve (z 11), aI y kve 3 (z 12)] ++ kW y ad zk ok 14)) sz) (QHi G (cdK 1 (s_X11_mode_k a1)) (fun _ : Unit => ([aJ y jq 1 jo] ++ ([kX11 h qt fh kh ch qh qs Z0, kX2 qh a x, aQ y a 14 (fun i => some (ad i 0)), kX7 kh kua kub kuc kud kue (z 0), kX3 kua kva (z 1), aI y kva 10 (z 2), kX1 kub (z 3), kX8 kuc kvc1 kvc2 kvc3 kvc4 kvc5 (z 4), aI y kvc1 20 (z 5), aI y kvc2 20 (z 6), aI y kvc3 20 (z 7), aI y kvc4 20 (z 8), aI y kvc5 20 o, kX10 kud kvd (z 9), aI y kvd 32 (z 10), kX0 kue kve (z 11), aI y kve 3 (z 12)] ++ kW y ad zk ok 14))) (va_A ([aJ y jq 1 jo] ++ ([kX11 h qt fh kh ch qh qs Z0, kX2 qh a x, aQ y a 14 (fun i => some (ad i 0)), kX7 kh kua kub kuc kud kue (z 0), kX3 kua kva (z 1), aI y kva 10 (z 2), kX1 kub (z 3), kX8 kuc kvc1 kvc2 kvc3 kvc4 kvc5 (z 4), aI y kvc1 20 (z 5), aI y kvc2 20 (z 6), aI y kvc3 20 (z 7), aI y kvc4 20 (z 8), aI y kvc5 20 o, kX10 kud kvd (z 9), aI y kvd 32 (z 10), kX0 kue kve (z 11), aI y kve 3 (z 12)] ++ kW y ad zk ok 14)) sz)) XN 1 6 (va_A ([aJ y jq 1 jo] ++ ([kX11 h qt fh kh ch qh qs Z0, kX2 qh a x, aQ y a 14 (fun i => some (ad i 0)), kX7 kh kua kub kuc kud kue (z 0), kX3 kua kva (z 1), aI y kva 10 (z 2), kX1 kub (z 3), kX8 kuc kvc1 kvc2 kvc3 kvc4 kvc5 (z 4), aI y kvc1 20 (z 5), aI y kvc2 20 (z 6), aI y kvc3 20 (z 7), aI y kvc4 20 (z 8), aI y kvc5 20 o, kX10 kud kvd (z 9), aI y kvd 32 (z 10), kX0 kue kve (z 11), aI y kve 3 (z 12)] ++ kW y ad zk ok 14)) sz) := by
  refine vx_ofWH (cc := cL_mode) (maxL := 4) (ret := (some .int)) (hh := [(0, 9, 12, 13)]) (by decide) rfl ?_
  intro p e s m args below meth c s₁ B hml hv
  obtain ⟨rfl, hsz, hP, ⟨hK, hN⟩, hD0, hTY⟩ := hv
  have hx := B.exec
  have hb := B.bytes
  have hr := B.returns
  have hts := atoms_spec (ws := wsL_mode) B.pre
  have hown : s.vm.findClass RL = some m.cls := findClass_of_methodNamed B.named
  have hlocks := B.notSynchronized
  have htb : c.exceptionTable.toList = tableOf [(0, 9, 12, 13)] := vx_table (x := yL_mode) B (hts (.codeWith yL_mode cL_mode 4 (some .int) [(0, 9, 12, 13)]) (List.mem_cons_self))
  subst hsz
  have hD := hD0.self (sz := s.heap.size)
  generalize hAe : va_A ([aJ y jq 1 jo] ++ ([kX11 h qt fh kh ch qh qs Z0, kX2 qh a x, aQ y a 14 (fun i => some (ad i 0)), kX7 kh kua kub kuc kud kue (z 0), kX3 kua kva (z 1), aI y kva 10 (z 2), kX1 kub (z 3), kX8 kuc kvc1 kvc2 kvc3 kvc4 kvc5 (z 4), aI y kvc1 20 (z 5), aI y kvc2 20 (z 6), aI y kvc3 20 (z 7), aI y kvc4 20 (z 8), aI y kvc5 20 o, kX10 kud kvd (z 9), aI y kvd 32 (z 10), kX0 kue kve (z 11), aI y kve 3 (z 12)] ++ kW y ad zk ok 14)) s.heap.size = A at hD hTY ⊢
  have hA : ∀ q : Nat, s.heap.size ≤ q → A q := fun q h => by rw [← hAe]; exact Or.inr h
  have hS : va_S A s.heap s.heap [] := va_S.rf
  have hP : va_P G vwCl ([aJ y jq 1 jo] ++ ([kX11 h qt fh kh ch qh qs Z0, kX2 qh a x, aQ y a 14 (fun i => some (ad i 0)), kX7 kh kua kub kuc kud kue (z 0), kX3 kua kva (z 1), aI y kva 10 (z 2), kX1 kub (z 3), kX8 kuc kvc1 kvc2 kvc3 kvc4 kvc5 (z 4), aI y kvc1 20 (z 5), aI y kvc2 20 (z 6), aI y kvc3 20 (z 7), aI y kvc4 20 (z 8), aI y kvc5 20 o, kX10 kud kvd (z 9), aI y kvd 32 (z 10), kX0 kue kve (z 11), aI y kve 3 (z 12)] ++ kW y ad zk ok 14)) s.heap := hP
  have hK4 : va_K G vwCl (tyG y) s := hK.sub (tys' := tyG y) [0, 1, 2, 3] rfl
  have hl := lv_entry ([.ref h, .int a1, .ref jq]) (n := 4) (Nat.le_of_ble_eq_true rfl)
  rw [lg_entry_eq]
  generalize (lg_sl ([.ref h, .int a1, .ref jq]) ++ List.replicate (4 - (lg_sl ([.ref h, .int a1, .ref jq])).length) Slot.unset).toArray = ls at hl ⊢
  have hl : lv_has ls 4 [(0, .ref h), (1, .int a1), (2, .ref jq)] := hl
  obtain ⟨QQ, hQQ⟩ : ∃ zq9, zq9 = vx_MQ below (QHi G (cdK 1 (s_X11_mode_k a1)) (fun _ : Unit => ([aJ y jq 1 jo] ++ ([kX11 h qt fh kh ch qh qs Z0, kX2 qh a x, aQ y a 14 (fun i => some (ad i 0)), kX7 kh kua kub kuc kud kue (z 0), kX3 kua kva (z 1), aI y kva 10 (z 2), kX1 kub (z 3), kX8 kuc kvc1 kvc2 kvc3 kvc4 kvc5 (z 4), aI y kvc1 20 (z 5), aI y kvc2 20 (z 6), aI y kvc3 20 (z 7), aI y kvc4 20 (z 8), aI y kvc5 20 o, kX10 kud kvd (z 9), aI y kvd 32 (z 10), kX0 kue kve (z 11), aI y kve 3 (z 12)] ++ kW y ad zk ok 14))) A) XN ([.ref h, .int a1, .ref jq] : List Value).toArray s 1 6 A := ⟨_, rfl⟩
  rw [← hQQ]
  refine lv_aload_n hx hb dL_mode_0 rfl (lv_at hl 2 rfl) ?_
  refine lv_iconst (v := 0) hx hb dL_mode_1 (by decide) ?_
  refine lv_aload_n hx hb dL_mode_2 rfl (lv_at hl 0 rfl) ?_
  refine lv_iload_n hx hb dL_mode_3 rfl (lv_at hl 1 rfl) ?_
  refine cl_X (wr := [aJ y jq 1 jo]) (wc := ([kX11 h qt fh kh ch qh qs Z0, kX2 qh a x, aQ y a 14 (fun i => some (ad i 0)), kX7 kh kua kub kuc kud kue (z 0), kX3 kua kva (z 1), aI y kva 10 (z 2), kX1 kub (z 3), kX8 kuc kvc1 kvc2 kvc3 kvc4 kvc5 (z 4), aI y kvc1 20 (z 5), aI y kvc2 20 (z 6), aI y kvc3 20 (z 7), aI y kvc4 20 (z 8), aI y kvc5 20 o, kX10 kud kvd (z 9), aI y kvd 32 (z 10), kX0 kue kve (z 11), aI y kve 3 (z 12)] ++ kW y ad zk ok 14)) (vx_runV (As := [.int a1]) (rest := [.int 0, .ref jq]) ⟨hx, hb, hml, hown, hts⟩ (c_X11_mode l G y h a1 qt fh kh ch qh qs a x kua kub kuc kud kue z kva kvc1 kvc2 kvc3 kvc4 kvc5 o kvd kve ad zk ok s.heap.size hc hrz hez hgz hfl) (cwV 1 hts gL_mode_X11_mode rfl rfl rfl (by decide +kernel) ⟨Nat.le_of_ble_eq_true rfl, Nat.le_of_ble_eq_true rfl⟩) (PHX_V (A0 := A) (P_r hP) hK4 hN (D_r hD) hTY.1 hS (F_r hD hS hA) (ci := 9) (q0 := 0) rfl rfl) rfl rfl hl.1 rfl (lv_room (Nat.le_of_ble_eq_true rfl)) dL_mode_4 ⟨Nat.le_of_ble_eq_true rfl, Nat.le_of_ble_eq_true rfl⟩) hP hD hS hA (fun E ce q9 u H locs hE hP hD hS hce hcv hcl => ?_) (fun u H locs hP hD hS => ?_)
  · rcases hE with ⟨rfl, hE⟩ | ⟨rfl, hE⟩ | ⟨rfl, hE⟩
    · refine vx_catch hown [] ⟨0, 9, 12, 13⟩ [] (htb.trans rfl) (fun z hz => by cases hz) (by decide) (by decide) (hts (.classLink RL 13 "java/lang/IllegalArgumentException") (by decide +kernel)) (va_Nw.use rfl (hTY.1.2.1 _ mIA)) hce hcv hcl ?_
      refine lv_astore_n (lv' := [(3, .ref q9), (0, .ref h), (1, .int a1), (2, .ref jq)]) hx hb dL_mode_12 rfl hl (by decide) rfl (fun ls hl => ?_)
      refine lv_iconst (v := 1) hx hb dL_mode_13 (by decide) ?_
      rw [hQQ]
      refine vx_ret ?_
      exact W.iret hx hb hr (end_Hi u hP hD hS (cd_1 hE (by decide)) rfl) hS.2.2 dL_mode_14
    · rcases kx_mode a1 with k9 | k9
      · exact absurd (hE.trans k9) (by decide)
      · exact absurd (hE.trans k9) (by decide)
    · rcases kx_mode a1 with k9 | k9
      · exact absurd (hE.trans k9) (by decide)
      · exact absurd (hE.trans k9) (by decide)
  · exact absurd u.2 hk0
theorem kx_set (a1 : Int32) (a2 : Int32) : s_X11_set_k a1 a2 = 0 ∨ s_X11_set_k a1 a2 = 1 := by
  unfold s_X11_set_k
  exact k_ite (Q := (fun x : Int32 => x = 0 ∨ x = 1)) (Or.inr rfl) (Or.inl rfl)
abbrev rmL_set : Room := ({ frames := 7, cells := 1, slots := 6, locals := 146 } : Room)
set_option maxHeartbeats 400000 in
set_option maxRecDepth 100000 in
theorem c_L_set_y (l : Launch) (G : va_G) (y : Nat → ClassId) (h : Nat) (a1 : Int32) (a2 : Int32) (qt : Nat) (fh : Nat) (kh : Nat) (ch : Nat) (qh : Nat) (qs : Nat) (a : Nat) (x : Nat → Int32) (kua : Nat) (kub : Nat) (kuc : Nat) (kud : Nat) (kue : Nat) (z : Nat → Nat → Int32) (kva : Nat) (kvc1 : Nat) (kvc2 : Nat) (kvc3 : Nat) (kvc4 : Nat) (kvc5 : Nat) (o : Nat → Int32) (kvd : Nat) (kve : Nat) (ad : Nat → Nat → Nat) (zk : Nat → Nat → Nat → Int32) (ok : Nat → Nat → Int32) (jq : Nat) (jo : Nat → Int64) (sz : Nat) (hc : vp_in (x 1) 15) (hrz : z 3 7 = 0 ∨ z 3 7 = 1) (hez : z 3 10 = 0 ∨ z 3 10 = 1) (hgz : z 4 6 = 0 ∨ z 4 6 = 1) (hk0 : (s_X11_set_k a1 a2) = 0) (hfl : l.stackTraces = false) : vx_Met l yL_set wsL_set rmL_set (PHL G y [.ref h, .int a1, .int a2, .ref jq] ([aJ y jq 1 jo] ++ ([kX11 h qt fh kh ch qh qs Z0, kX2 qh a x, aQ y a 14 (fun i => some (ad i 0)), kX7 kh kua kub kuc kud kue (z 0), kX3 kua kva (z 1), aI y kva 10 (z 2), kX1 kub (z 3), kX8 kuc kvc1 kvc2 kvc3 kvc4 kvc5 (z 4), aI y kvc1 20 (z 5), aI y kvc2 20 (z 6), aI y kvc3 20 (z 7), aI y kvc4 20 (z 8), aI y kvc5 20 o, kX10 kud kvd (z 9), aI y kvd 32 (z 10), kX0 kue kve (z 11), aI y kve 3 (z 12)] ++ kW y ad zk ok 14)) sz) (QHi G 0 (fun _ : Unit => ([aJ y jq 1 (vp_updL jo 0 ((s_X11_set_r a1 z)).toInt64)] ++ ([kX11 h qt fh kh ch qh qs Z0, kX2 qh a (upd x 1 (nI (rmC (tn (x 1)) + 1))), aQ y a 14 (fun i => some (rmT (tn (x 1)) ad i 0)), kX7 kh kua kub kuc kud kue (s_X11_set_z a1 a2 z 0), kX3 kua kva (s_X11_set_z a1 a2 z 1), aI y kva 10 (s_X11_set_z a1 a2 z 2), kX1 kub (s_X11_set_z a1 a2 z 3), kX8 kuc kvc1 kvc2 kvc3 kvc4 kvc5 (s_X11_set_z a1 a2 z 4), aI y kvc1 20 (s_X11_set_z a1 a2 z 5), aI y kvc2 20 (s_X11_set_z a1 a2 z 6), aI y kvc3 20 (s_X11_set_z a1 a2 z 7), aI y kvc4 20 (s_X11_set_z a1 a2 z 8), aI y kvc5 20 o, kX10 kud kvd (s_X11_set_z a1 a2 z 9), aI y kvd 32 (s_X11_set_z a1 a2 z 10), kX0 kue kve (s_X11_set_z a1 a2 z 11), aI y kve 3 (s_X11_set_z a1 a2 z 12)] ++ kW y (rmT (tn (x 1)) ad) (uK (rmT (tn (x 1)) zk) (rmC (tn (x 1))) z) (rmT (tn (x 1)) ok) 14))) (va_A ([aJ y jq 1 jo] ++ ([kX11 h qt fh kh ch qh qs Z0, kX2 qh a x, aQ y a 14 (fun i => some (ad i 0)), kX7 kh kua kub kuc kud kue (z 0), kX3 kua kva (z 1), aI y kva 10 (z 2), kX1 kub (z 3), kX8 kuc kvc1 kvc2 kvc3 kvc4 kvc5 (z 4), aI y kvc1 20 (z 5), aI y kvc2 20 (z 6), aI y kvc3 20 (z 7), aI y kvc4 20 (z 8), aI y kvc5 20 o, kX10 kud kvd (z 9), aI y kvd 32 (z 10), kX0 kue kve (z 11), aI y kve 3 (z 12)] ++ kW y ad zk ok 14)) sz)) XN 1 6 (va_A ([aJ y jq 1 jo] ++ ([kX11 h qt fh kh ch qh qs Z0, kX2 qh a x, aQ y a 14 (fun i => some (ad i 0)), kX7 kh kua kub kuc kud kue (z 0), kX3 kua kva (z 1), aI y kva 10 (z 2), kX1 kub (z 3), kX8 kuc kvc1 kvc2 kvc3 kvc4 kvc5 (z 4), aI y kvc1 20 (z 5), aI y kvc2 20 (z 6), aI y kvc3 20 (z 7), aI y kvc4 20 (z 8), aI y kvc5 20 o, kX10 kud kvd (z 9), aI y kvd 32 (z 10), kX0 kue kve (z 11), aI y kve 3 (z 12)] ++ kW y ad zk ok 14)) sz) := by
  refine vx_ofWH (cc := cL_set) (maxL := 5) (ret := (some .int)) (hh := [(0, 10, 13, 13)]) (by decide) rfl ?_
  intro p e s m args below meth c s₁ B hml hv
  obtain ⟨rfl, hsz, hP, ⟨hK, hN⟩, hD0, hTY⟩ := hv
  have hx := B.exec
  have hb := B.bytes
  have hr := B.returns
  have hts := atoms_spec (ws := wsL_set) B.pre
  have hown : s.vm.findClass RL = some m.cls := findClass_of_methodNamed B.named
  have hlocks := B.notSynchronized
  have htb : c.exceptionTable.toList = tableOf [(0, 10, 13, 13)] := vx_table (x := yL_set) B (hts (.codeWith yL_set cL_set 5 (some .int) [(0, 10, 13, 13)]) (List.mem_cons_self))
  subst hsz
  have hD := hD0.self (sz := s.heap.size)
  generalize hAe : va_A ([aJ y jq 1 jo] ++ ([kX11 h qt fh kh ch qh qs Z0, kX2 qh a x, aQ y a 14 (fun i => some (ad i 0)), kX7 kh kua kub kuc kud kue (z 0), kX3 kua kva (z 1), aI y kva 10 (z 2), kX1 kub (z 3), kX8 kuc kvc1 kvc2 kvc3 kvc4 kvc5 (z 4), aI y kvc1 20 (z 5), aI y kvc2 20 (z 6), aI y kvc3 20 (z 7), aI y kvc4 20 (z 8), aI y kvc5 20 o, kX10 kud kvd (z 9), aI y kvd 32 (z 10), kX0 kue kve (z 11), aI y kve 3 (z 12)] ++ kW y ad zk ok 14)) s.heap.size = A at hD hTY ⊢
  have hA : ∀ q : Nat, s.heap.size ≤ q → A q := fun q h => by rw [← hAe]; exact Or.inr h
  have hS : va_S A s.heap s.heap [] := va_S.rf
  have hP : va_P G vwCl ([aJ y jq 1 jo] ++ ([kX11 h qt fh kh ch qh qs Z0, kX2 qh a x, aQ y a 14 (fun i => some (ad i 0)), kX7 kh kua kub kuc kud kue (z 0), kX3 kua kva (z 1), aI y kva 10 (z 2), kX1 kub (z 3), kX8 kuc kvc1 kvc2 kvc3 kvc4 kvc5 (z 4), aI y kvc1 20 (z 5), aI y kvc2 20 (z 6), aI y kvc3 20 (z 7), aI y kvc4 20 (z 8), aI y kvc5 20 o, kX10 kud kvd (z 9), aI y kvd 32 (z 10), kX0 kue kve (z 11), aI y kve 3 (z 12)] ++ kW y ad zk ok 14)) s.heap := hP
  have hK4 : va_K G vwCl (tyG y) s := hK.sub (tys' := tyG y) [0, 1, 2, 3] rfl
  have hl := lv_entry ([.ref h, .int a1, .int a2, .ref jq]) (n := 5) (Nat.le_of_ble_eq_true rfl)
  rw [lg_entry_eq]
  generalize (lg_sl ([.ref h, .int a1, .int a2, .ref jq]) ++ List.replicate (5 - (lg_sl ([.ref h, .int a1, .int a2, .ref jq])).length) Slot.unset).toArray = ls at hl ⊢
  have hl : lv_has ls 5 [(0, .ref h), (1, .int a1), (2, .int a2), (3, .ref jq)] := hl
  obtain ⟨QQ, hQQ⟩ : ∃ zq9, zq9 = vx_MQ below (QHi G 0 (fun _ : Unit => ([aJ y jq 1 (vp_updL jo 0 ((s_X11_set_r a1 z)).toInt64)] ++ ([kX11 h qt fh kh ch qh qs Z0, kX2 qh a (upd x 1 (nI (rmC (tn (x 1)) + 1))), aQ y a 14 (fun i => some (rmT (tn (x 1)) ad i 0)), kX7 kh kua kub kuc kud kue (s_X11_set_z a1 a2 z 0), kX3 kua kva (s_X11_set_z a1 a2 z 1), aI y kva 10 (s_X11_set_z a1 a2 z 2), kX1 kub (s_X11_set_z a1 a2 z 3), kX8 kuc kvc1 kvc2 kvc3 kvc4 kvc5 (s_X11_set_z a1 a2 z 4), aI y kvc1 20 (s_X11_set_z a1 a2 z 5), aI y kvc2 20 (s_X11_set_z a1 a2 z 6), aI y kvc3 20 (s_X11_set_z a1 a2 z 7), aI y kvc4 20 (s_X11_set_z a1 a2 z 8), aI y kvc5 20 o, kX10 kud kvd (s_X11_set_z a1 a2 z 9), aI y kvd 32 (s_X11_set_z a1 a2 z 10), kX0 kue kve (s_X11_set_z a1 a2 z 11), aI y kve 3 (s_X11_set_z a1 a2 z 12)] ++ kW y (rmT (tn (x 1)) ad) (uK (rmT (tn (x 1)) zk) (rmC (tn (x 1))) z) (rmT (tn (x 1)) ok) 14))) A) XN ([.ref h, .int a1, .int a2, .ref jq] : List Value).toArray s 1 6 A := ⟨_, rfl⟩
  rw [← hQQ]
  refine lv_aload_n hx hb dL_set_0 rfl (lv_at hl 3 rfl) ?_
  refine lv_iconst (v := 0) hx hb dL_set_1 (by decide) ?_
  refine lv_aload_n hx hb dL_set_2 rfl (lv_at hl 0 rfl) ?_
  refine lv_iload_n hx hb dL_set_3 rfl (lv_at hl 1 rfl) ?_
  refine lv_iload_n hx hb dL_set_4 rfl (lv_at hl 2 rfl) ?_
  refine cl_X (wr := [aJ y jq 1 jo]) (wc := ([kX11 h qt fh kh ch qh qs Z0, kX2 qh a x, aQ y a 14 (fun i => some (ad i 0)), kX7 kh kua kub kuc kud kue (z 0), kX3 kua kva (z 1), aI y kva 10 (z 2), kX1 kub (z 3), kX8 kuc kvc1 kvc2 kvc3 kvc4 kvc5 (z 4), aI y kvc1 20 (z 5), aI y kvc2 20 (z 6), aI y kvc3 20 (z 7), aI y kvc4 20 (z 8), aI y kvc5 20 o, kX10 kud kvd (z 9), aI y kvd 32 (z 10), kX0 kue kve (z 11), aI y kve 3 (z 12)] ++ kW y ad zk ok 14)) (vx_runV (As := [.int a1, .int a2]) (rest := [.int 0, .ref jq]) ⟨hx, hb, hml, hown, hts⟩ (c_X11_set l G y h a1 a2 qt fh kh ch qh qs a x kua kub kuc kud kue z kva kvc1 kvc2 kvc3 kvc4 kvc5 o kvd kve ad zk ok s.heap.size hc hrz hez hgz hfl) (cwV 2 hts gL_set_X11_set rfl rfl rfl (by decide +kernel) ⟨Nat.le_of_ble_eq_true rfl, Nat.le_of_ble_eq_true rfl⟩) (PHX_V (A0 := A) (P_r hP) hK4 hN (D_r hD) hTY.1 hS (F_r hD hS hA) (ci := 9) (q0 := 0) rfl rfl) rfl rfl hl.1 rfl (lv_room (Nat.le_of_ble_eq_true rfl)) dL_set_5 ⟨Nat.le_of_ble_eq_true rfl, Nat.le_of_ble_eq_true rfl⟩) hP hD hS hA (fun E ce q9 u H locs hE hP hD hS hce hcv hcl => ?_) (fun u H locs hP hD hS => ?_)
  · exact (exC_0 hk0 hE).elim
  · refine lv_i2l (v := ((s_X11_set_r a1 z)).toInt64) hx hb dL_set_8 rfl ?_
    refine as_o hx hb hK hP hD hS dL_set_9 (fun H locs hP hD hS => ?_)
    refine lv_goto (tgt := 17) hx hb dL_set_10 (by decide) ?_
    refine lv_iconst (v := 0) hx hb dL_set_17 (by decide) ?_
    rw [hQQ]
    refine vx_ret ?_
    exact W.iret hx hb hr (end_Hi u.1 hP hD hS rfl rfl) hS.2.2 dL_set_18
set_option maxHeartbeats 400000 in
set_option maxRecDepth 100000 in
theorem c_L_set_n (l : Launch) (G : va_G) (y : Nat → ClassId) (h : Nat) (a1 : Int32) (a2 : Int32) (qt : Nat) (fh : Nat) (kh : Nat) (ch : Nat) (qh : Nat) (qs : Nat) (a : Nat) (x : Nat → Int32) (kua : Nat) (kub : Nat) (kuc : Nat) (kud : Nat) (kue : Nat) (z : Nat → Nat → Int32) (kva : Nat) (kvc1 : Nat) (kvc2 : Nat) (kvc3 : Nat) (kvc4 : Nat) (kvc5 : Nat) (o : Nat → Int32) (kvd : Nat) (kve : Nat) (ad : Nat → Nat → Nat) (zk : Nat → Nat → Nat → Int32) (ok : Nat → Nat → Int32) (jq : Nat) (jo : Nat → Int64) (sz : Nat) (hc : vp_in (x 1) 15) (hrz : z 3 7 = 0 ∨ z 3 7 = 1) (hez : z 3 10 = 0 ∨ z 3 10 = 1) (hgz : z 4 6 = 0 ∨ z 4 6 = 1) (hk0 : ¬ (s_X11_set_k a1 a2) = 0) (hfl : l.stackTraces = false) : vx_Met l yL_set wsL_set rmL_set (PHL G y [.ref h, .int a1, .int a2, .ref jq] ([aJ y jq 1 jo] ++ ([kX11 h qt fh kh ch qh qs Z0, kX2 qh a x, aQ y a 14 (fun i => some (ad i 0)), kX7 kh kua kub kuc kud kue (z 0), kX3 kua kva (z 1), aI y kva 10 (z 2), kX1 kub (z 3), kX8 kuc kvc1 kvc2 kvc3 kvc4 kvc5 (z 4), aI y kvc1 20 (z 5), aI y kvc2 20 (z 6), aI y kvc3 20 (z 7), aI y kvc4 20 (z 8), aI y kvc5 20 o, kX10 kud kvd (z 9), aI y kvd 32 (z 10), kX0 kue kve (z 11), aI y kve 3 (z 12)] ++ kW y ad zk ok 14)) sz) (QHi G (cdK 1 (s_X11_set_k a1 a2)) (fun _ : Unit => ([aJ y jq 1 jo] ++ ([kX11 h qt fh kh ch qh qs Z0, kX2 qh a x, aQ y a 14 (fun i => some (ad i 0)), kX7 kh kua kub kuc kud kue (z 0), kX3 kua kva (z 1), aI y kva 10 (z 2), kX1 kub (z 3), kX8 kuc kvc1 kvc2 kvc3 kvc4 kvc5 (z 4), aI y kvc1 20 (z 5), aI y kvc2 20 (z 6), aI y kvc3 20 (z 7), aI y kvc4 20 (z 8), aI y kvc5 20 o, kX10 kud kvd (z 9), aI y kvd 32 (z 10), kX0 kue kve (z 11), aI y kve 3 (z 12)] ++ kW y ad zk ok 14))) (va_A ([aJ y jq 1 jo] ++ ([kX11 h qt fh kh ch qh qs Z0, kX2 qh a x, aQ y a 14 (fun i => some (ad i 0)), kX7 kh kua kub kuc kud kue (z 0), kX3 kua kva (z 1), aI y kva 10 (z 2), kX1 kub (z 3), kX8 kuc kvc1 kvc2 kvc3 kvc4 kvc5 (z 4), aI y kvc1 20 (z 5), aI y kvc2 20 (z 6), aI y kvc3 20 (z 7), aI y kvc4 20 (z 8), aI y kvc5 20 o, kX10 kud kvd (z 9), aI y kvd 32 (z 10), kX0 kue kve (z 11), aI y kve 3 (z 12)] ++ kW y ad zk ok 14)) sz)) XN 1 6 (va_A ([aJ y jq 1 jo] ++ ([kX11 h qt fh kh ch qh qs Z0, kX2 qh a x, aQ y a 14 (fun i => some (ad i 0)), kX7 kh kua kub kuc kud kue (z 0), kX3 kua kva (z 1), aI y kva 10 (z 2), kX1 kub (z 3), kX8 kuc kvc1 kvc2 kvc3 kvc4 kvc5 (z 4), aI y kvc1 20 (z 5), aI y kvc2 20 (z 6), aI y kvc3 20 (z 7), aI y kvc4 20 (z 8), aI y kvc5 20 o, kX10 kud kvd (z 9), aI y kvd 32 (z 10), kX0 kue kve (z 11), aI y kve 3 (z 12)] ++ kW y ad zk ok 14)) sz) := by
  refine vx_ofWH (cc := cL_set) (maxL := 5) (ret := (some .int)) (hh := [(0, 10, 13, 13)]) (by decide) rfl ?_
  intro p e s m args below meth c s₁ B hml hv
  obtain ⟨rfl, hsz, hP, ⟨hK, hN⟩, hD0, hTY⟩ := hv
  have hx := B.exec
  have hb := B.bytes
  have hr := B.returns
  have hts := atoms_spec (ws := wsL_set) B.pre
  have hown : s.vm.findClass RL = some m.cls := findClass_of_methodNamed B.named
  have hlocks := B.notSynchronized
  have htb : c.exceptionTable.toList = tableOf [(0, 10, 13, 13)] := vx_table (x := yL_set) B (hts (.codeWith yL_set cL_set 5 (some .int) [(0, 10, 13, 13)]) (List.mem_cons_self))
  subst hsz
  have hD := hD0.self (sz := s.heap.size)
  generalize hAe : va_A ([aJ y jq 1 jo] ++ ([kX11 h qt fh kh ch qh qs Z0, kX2 qh a x, aQ y a 14 (fun i => some (ad i 0)), kX7 kh kua kub kuc kud kue (z 0), kX3 kua kva (z 1), aI y kva 10 (z 2), kX1 kub (z 3), kX8 kuc kvc1 kvc2 kvc3 kvc4 kvc5 (z 4), aI y kvc1 20 (z 5), aI y kvc2 20 (z 6), aI y kvc3 20 (z 7), aI y kvc4 20 (z 8), aI y kvc5 20 o, kX10 kud kvd (z 9), aI y kvd 32 (z 10), kX0 kue kve (z 11), aI y kve 3 (z 12)] ++ kW y ad zk ok 14)) s.heap.size = A at hD hTY ⊢
  have hA : ∀ q : Nat, s.heap.size ≤ q → A q := fun q h => by rw [← hAe]; exact Or.inr h
  have hS : va_S A s.heap s.heap [] := va_S.rf
  have hP : va_P G vwCl ([aJ y jq 1 jo] ++ ([kX11 h qt fh kh ch qh qs Z0, kX2 qh a x, aQ y a 14 (fun i => some (ad i 0)), kX7 kh kua kub kuc kud kue (z 0), kX3 kua kva (z 1), aI y kva 10 (z 2), kX1 kub (z 3), kX8 kuc kvc1 kvc2 kvc3 kvc4 kvc5 (z 4), aI y kvc1 20 (z 5), aI y kvc2 20 (z 6), aI y kvc3 20 (z 7), aI y kvc4 20 (z 8), aI y kvc5 20 o, kX10 kud kvd (z 9), aI y kvd 32 (z 10), kX0 kue kve (z 11), aI y kve 3 (z 12)] ++ kW y ad zk ok 14)) s.heap := hP
  have hK4 : va_K G vwCl (tyG y) s := hK.sub (tys' := tyG y) [0, 1, 2, 3] rfl
  have hl := lv_entry ([.ref h, .int a1, .int a2, .ref jq]) (n := 5) (Nat.le_of_ble_eq_true rfl)
  rw [lg_entry_eq]
  generalize (lg_sl ([.ref h, .int a1, .int a2, .ref jq]) ++ List.replicate (5 - (lg_sl ([.ref h, .int a1, .int a2, .ref jq])).length) Slot.unset).toArray = ls at hl ⊢
  have hl : lv_has ls 5 [(0, .ref h), (1, .int a1), (2, .int a2), (3, .ref jq)] := hl
  obtain ⟨QQ, hQQ⟩ : ∃ zq9, zq9 = vx_MQ below (QHi G (cdK 1 (s_X11_set_k a1 a2)) (fun _ : Unit => ([aJ y jq 1 jo] ++ ([kX11 h qt fh kh ch qh qs Z0, kX2 qh a x, aQ y a 14 (fun i => some (ad i 0)), kX7 kh kua kub kuc kud kue (z 0), kX3 kua kva (z 1), aI y kva 10 (z 2), kX1 kub (z 3), kX8 kuc kvc1 kvc2 kvc3 kvc4 kvc5 (z 4), aI y kvc1 20 (z 5), aI y kvc2 20 (z 6), aI y kvc3 20 (z 7), aI y kvc4 20 (z 8), aI y kvc5 20 o, kX10 kud kvd (z 9), aI y kvd 32 (z 10), kX0 kue kve (z 11), aI y kve 3 (z 12)] ++ kW y ad zk ok 14))) A) XN ([.ref h, .int a1, .int a2, .ref jq] : List Value).toArray s 1 6 A := ⟨_, rfl⟩
  rw [← hQQ]
  refine lv_aload_n hx hb dL_set_0 rfl (lv_at hl 3 rfl) ?_
  refine lv_iconst (v := 0) hx hb dL_set_1 (by decide) ?_
  refine lv_aload_n hx hb dL_set_2 rfl (lv_at hl 0 rfl) ?_
  refine lv_iload_n hx hb dL_set_3 rfl (lv_at hl 1 rfl) ?_
  refine lv_iload_n hx hb dL_set_4 rfl (lv_at hl 2 rfl) ?_
  refine cl_X (wr := [aJ y jq 1 jo]) (wc := ([kX11 h qt fh kh ch qh qs Z0, kX2 qh a x, aQ y a 14 (fun i => some (ad i 0)), kX7 kh kua kub kuc kud kue (z 0), kX3 kua kva (z 1), aI y kva 10 (z 2), kX1 kub (z 3), kX8 kuc kvc1 kvc2 kvc3 kvc4 kvc5 (z 4), aI y kvc1 20 (z 5), aI y kvc2 20 (z 6), aI y kvc3 20 (z 7), aI y kvc4 20 (z 8), aI y kvc5 20 o, kX10 kud kvd (z 9), aI y kvd 32 (z 10), kX0 kue kve (z 11), aI y kve 3 (z 12)] ++ kW y ad zk ok 14)) (vx_runV (As := [.int a1, .int a2]) (rest := [.int 0, .ref jq]) ⟨hx, hb, hml, hown, hts⟩ (c_X11_set l G y h a1 a2 qt fh kh ch qh qs a x kua kub kuc kud kue z kva kvc1 kvc2 kvc3 kvc4 kvc5 o kvd kve ad zk ok s.heap.size hc hrz hez hgz hfl) (cwV 2 hts gL_set_X11_set rfl rfl rfl (by decide +kernel) ⟨Nat.le_of_ble_eq_true rfl, Nat.le_of_ble_eq_true rfl⟩) (PHX_V (A0 := A) (P_r hP) hK4 hN (D_r hD) hTY.1 hS (F_r hD hS hA) (ci := 9) (q0 := 0) rfl rfl) rfl rfl hl.1 rfl (lv_room (Nat.le_of_ble_eq_true rfl)) dL_set_5 ⟨Nat.le_of_ble_eq_true rfl, Nat.le_of_ble_eq_true rfl⟩) hP hD hS hA (fun E ce q9 u H locs hE hP hD hS hce hcv hcl => ?_) (fun u H locs hP hD hS => ?_)
  · rcases hE with ⟨rfl, hE⟩ | ⟨rfl, hE⟩ | ⟨rfl, hE⟩
    · refine vx_catch hown [] ⟨0, 10, 13, 13⟩ [] (htb.trans rfl) (fun z hz => by cases hz) (by decide) (by decide) (hts (.classLink RL 13 "java/lang/IllegalArgumentException") (by decide +kernel)) (va_Nw.use rfl (hTY.1.2.1 _ mIA)) hce hcv hcl ?_
      refine lv_astore (lv' := [(4, .ref q9), (0, .ref h), (1, .int a1), (2, .int a2), (3, .ref jq)]) hx hb dL_set_13 hl (by decide) rfl (fun ls hl => ?_)
      refine lv_iconst (v := 1) hx hb dL_set_15 (by decide) ?_
      rw [hQQ]
      refine vx_ret ?_
      exact W.iret hx hb hr (end_Hi u hP hD hS (cd_1 hE (by decide)) rfl) hS.2.2 dL_set_16
    · rcases kx_set a1 a2 with k9 | k9
      · exact absurd (hE.trans k9) (by decide)
      · exact absurd (hE.trans k9) (by decide)
    · rcases kx_set a1 a2 with k9 | k9
      · exact absurd (hE.trans k9) (by decide)
      · exact absurd (hE.trans k9) (by decide)
  · exact absurd u.2 hk0
theorem kx_disturb (a1 : Int32) : s_X11_disturb_k a1 = 0 ∨ s_X11_disturb_k a1 = 1 := by
  unfold s_X11_disturb_k
  exact k_ite (Q := (fun x : Int32 => x = 0 ∨ x = 1)) (Or.inr rfl) (Or.inl rfl)
abbrev rmL_disturb : Room := ({ frames := 7, cells := 1, slots := 6, locals := 144 } : Room)
set_option maxHeartbeats 400000 in
set_option maxRecDepth 100000 in
theorem c_L_disturb_y (l : Launch) (G : va_G) (y : Nat → ClassId) (h : Nat) (a1 : Int32) (qt : Nat) (fh : Nat) (kh : Nat) (ch : Nat) (qh : Nat) (qs : Nat) (a : Nat) (x : Nat → Int32) (kua : Nat) (kub : Nat) (kuc : Nat) (kud : Nat) (kue : Nat) (z : Nat → Nat → Int32) (kva : Nat) (kvc1 : Nat) (kvc2 : Nat) (kvc3 : Nat) (kvc4 : Nat) (kvc5 : Nat) (o : Nat → Int32) (kvd : Nat) (kve : Nat) (ad : Nat → Nat → Nat) (zk : Nat → Nat → Nat → Int32) (ok : Nat → Nat → Int32) (jq : Nat) (jo : Nat → Int64) (sz : Nat) (hc : vp_in (x 1) 15) (hrz : z 3 7 = 0 ∨ z 3 7 = 1) (hez : z 3 10 = 0 ∨ z 3 10 = 1) (hgz : z 4 6 = 0 ∨ z 4 6 = 1) (hk0 : (s_X11_disturb_k a1) = 0) (hfl : l.stackTraces = false) : vx_Met l yL_disturb wsL_disturb rmL_disturb (PHL G y [.ref h, .int a1, .ref jq] ([aJ y jq 1 jo] ++ ([kX11 h qt fh kh ch qh qs Z0, kX2 qh a x, aQ y a 14 (fun i => some (ad i 0)), kX7 kh kua kub kuc kud kue (z 0), kX3 kua kva (z 1), aI y kva 10 (z 2), kX1 kub (z 3), kX8 kuc kvc1 kvc2 kvc3 kvc4 kvc5 (z 4), aI y kvc1 20 (z 5), aI y kvc2 20 (z 6), aI y kvc3 20 (z 7), aI y kvc4 20 (z 8), aI y kvc5 20 o, kX10 kud kvd (z 9), aI y kvd 32 (z 10), kX0 kue kve (z 11), aI y kve 3 (z 12)] ++ kW y ad zk ok 14)) sz) (QHi G 0 (fun _ : Unit => ([aJ y jq 1 (vp_updL jo 0 ((s_X11_disturb_r a1 z)).toInt64)] ++ ([kX11 h qt fh kh ch qh qs Z0, kX2 qh a (upd x 1 (nI (rmC (tn (x 1)) + 1))), aQ y a 14 (fun i => some (rmT (tn (x 1)) ad i 0)), kX7 kh kua kub kuc kud kue (s_X11_disturb_z a1 z 0), kX3 kua kva (s_X11_disturb_z a1 z 1), aI y kva 10 (s_X11_disturb_z a1 z 2), kX1 kub (s_X11_disturb_z a1 z 3), kX8 kuc kvc1 kvc2 kvc3 kvc4 kvc5 (s_X11_disturb_z a1 z 4), aI y kvc1 20 (s_X11_disturb_z a1 z 5), aI y kvc2 20 (s_X11_disturb_z a1 z 6), aI y kvc3 20 (s_X11_disturb_z a1 z 7), aI y kvc4 20 (s_X11_disturb_z a1 z 8), aI y kvc5 20 o, kX10 kud kvd (s_X11_disturb_z a1 z 9), aI y kvd 32 (s_X11_disturb_z a1 z 10), kX0 kue kve (s_X11_disturb_z a1 z 11), aI y kve 3 (s_X11_disturb_z a1 z 12)] ++ kW y (rmT (tn (x 1)) ad) (uK (rmT (tn (x 1)) zk) (rmC (tn (x 1))) z) (rmT (tn (x 1)) ok) 14))) (va_A ([aJ y jq 1 jo] ++ ([kX11 h qt fh kh ch qh qs Z0, kX2 qh a x, aQ y a 14 (fun i => some (ad i 0)), kX7 kh kua kub kuc kud kue (z 0), kX3 kua kva (z 1), aI y kva 10 (z 2), kX1 kub (z 3), kX8 kuc kvc1 kvc2 kvc3 kvc4 kvc5 (z 4), aI y kvc1 20 (z 5), aI y kvc2 20 (z 6), aI y kvc3 20 (z 7), aI y kvc4 20 (z 8), aI y kvc5 20 o, kX10 kud kvd (z 9), aI y kvd 32 (z 10), kX0 kue kve (z 11), aI y kve 3 (z 12)] ++ kW y ad zk ok 14)) sz)) XN 1 6 (va_A ([aJ y jq 1 jo] ++ ([kX11 h qt fh kh ch qh qs Z0, kX2 qh a x, aQ y a 14 (fun i => some (ad i 0)), kX7 kh kua kub kuc kud kue (z 0), kX3 kua kva (z 1), aI y kva 10 (z 2), kX1 kub (z 3), kX8 kuc kvc1 kvc2 kvc3 kvc4 kvc5 (z 4), aI y kvc1 20 (z 5), aI y kvc2 20 (z 6), aI y kvc3 20 (z 7), aI y kvc4 20 (z 8), aI y kvc5 20 o, kX10 kud kvd (z 9), aI y kvd 32 (z 10), kX0 kue kve (z 11), aI y kve 3 (z 12)] ++ kW y ad zk ok 14)) sz) := by
  refine vx_ofWH (cc := cL_disturb) (maxL := 4) (ret := (some .int)) (hh := [(0, 9, 12, 13)]) (by decide) rfl ?_
  intro p e s m args below meth c s₁ B hml hv
  obtain ⟨rfl, hsz, hP, ⟨hK, hN⟩, hD0, hTY⟩ := hv
  have hx := B.exec
  have hb := B.bytes
  have hr := B.returns
  have hts := atoms_spec (ws := wsL_disturb) B.pre
  have hown : s.vm.findClass RL = some m.cls := findClass_of_methodNamed B.named
  have hlocks := B.notSynchronized
  have htb : c.exceptionTable.toList = tableOf [(0, 9, 12, 13)] := vx_table (x := yL_disturb) B (hts (.codeWith yL_disturb cL_disturb 4 (some .int) [(0, 9, 12, 13)]) (List.mem_cons_self))
  subst hsz
  have hD := hD0.self (sz := s.heap.size)
  generalize hAe : va_A ([aJ y jq 1 jo] ++ ([kX11 h qt fh kh ch qh qs Z0, kX2 qh a x, aQ y a 14 (fun i => some (ad i 0)), kX7 kh kua kub kuc kud kue (z 0), kX3 kua kva (z 1), aI y kva 10 (z 2), kX1 kub (z 3), kX8 kuc kvc1 kvc2 kvc3 kvc4 kvc5 (z 4), aI y kvc1 20 (z 5), aI y kvc2 20 (z 6), aI y kvc3 20 (z 7), aI y kvc4 20 (z 8), aI y kvc5 20 o, kX10 kud kvd (z 9), aI y kvd 32 (z 10), kX0 kue kve (z 11), aI y kve 3 (z 12)] ++ kW y ad zk ok 14)) s.heap.size = A at hD hTY ⊢
  have hA : ∀ q : Nat, s.heap.size ≤ q → A q := fun q h => by rw [← hAe]; exact Or.inr h
  have hS : va_S A s.heap s.heap [] := va_S.rf
  have hP : va_P G vwCl ([aJ y jq 1 jo] ++ ([kX11 h qt fh kh ch qh qs Z0, kX2 qh a x, aQ y a 14 (fun i => some (ad i 0)), kX7 kh kua kub kuc kud kue (z 0), kX3 kua kva (z 1), aI y kva 10 (z 2), kX1 kub (z 3), kX8 kuc kvc1 kvc2 kvc3 kvc4 kvc5 (z 4), aI y kvc1 20 (z 5), aI y kvc2 20 (z 6), aI y kvc3 20 (z 7), aI y kvc4 20 (z 8), aI y kvc5 20 o, kX10 kud kvd (z 9), aI y kvd 32 (z 10), kX0 kue kve (z 11), aI y kve 3 (z 12)] ++ kW y ad zk ok 14)) s.heap := hP
  have hK4 : va_K G vwCl (tyG y) s := hK.sub (tys' := tyG y) [0, 1, 2, 3] rfl
  have hl := lv_entry ([.ref h, .int a1, .ref jq]) (n := 4) (Nat.le_of_ble_eq_true rfl)
  rw [lg_entry_eq]
  generalize (lg_sl ([.ref h, .int a1, .ref jq]) ++ List.replicate (4 - (lg_sl ([.ref h, .int a1, .ref jq])).length) Slot.unset).toArray = ls at hl ⊢
  have hl : lv_has ls 4 [(0, .ref h), (1, .int a1), (2, .ref jq)] := hl
  obtain ⟨QQ, hQQ⟩ : ∃ zq9, zq9 = vx_MQ below (QHi G 0 (fun _ : Unit => ([aJ y jq 1 (vp_updL jo 0 ((s_X11_disturb_r a1 z)).toInt64)] ++ ([kX11 h qt fh kh ch qh qs Z0, kX2 qh a (upd x 1 (nI (rmC (tn (x 1)) + 1))), aQ y a 14 (fun i => some (rmT (tn (x 1)) ad i 0)), kX7 kh kua kub kuc kud kue (s_X11_disturb_z a1 z 0), kX3 kua kva (s_X11_disturb_z a1 z 1), aI y kva 10 (s_X11_disturb_z a1 z 2), kX1 kub (s_X11_disturb_z a1 z 3), kX8 kuc kvc1 kvc2 kvc3 kvc4 kvc5 (s_X11_disturb_z a1 z 4), aI y kvc1 20 (s_X11_disturb_z a1 z 5), aI y kvc2 20 (s_X11_disturb_z a1 z 6), aI y kvc3 20 (s_X11_disturb_z a1 z 7), aI y kvc4 20 (s_X11_disturb_z a1 z 8), aI y kvc5 20 o, kX10 kud kvd (s_X11_disturb_z a1 z 9), aI y kvd 32 (s_X11_disturb_z a1 z 10), kX0 kue kve (s_X11_disturb_z a1 z 11), aI y kve 3 (s_X11_disturb_z a1 z 12)] ++ kW y (rmT (tn (x 1)) ad) (uK (rmT (tn (x 1)) zk) (rmC (tn (x 1))) z) (rmT (tn (x 1)) ok) 14))) A) XN ([.ref h, .int a1, .ref jq] : List Value).toArray s 1 6 A := ⟨_, rfl⟩
  rw [← hQQ]
  refine lv_aload_n hx hb dL_disturb_0 rfl (lv_at hl 2 rfl) ?_
  refine lv_iconst (v := 0) hx hb dL_disturb_1 (by decide) ?_
  refine lv_aload_n hx hb dL_disturb_2 rfl (lv_at hl 0 rfl) ?_
  refine lv_iload_n hx hb dL_disturb_3 rfl (lv_at hl 1 rfl) ?_
  refine cl_X (wr := [aJ y jq 1 jo]) (wc := ([kX11 h qt fh kh ch qh qs Z0, kX2 qh a x, aQ y a 14 (fun i => some (ad i 0)), kX7 kh kua kub kuc kud kue (z 0), kX3 kua kva (z 1), aI y kva 10 (z 2), kX1 kub (z 3), kX8 kuc kvc1 kvc2 kvc3 kvc4 kvc5 (z 4), aI y kvc1 20 (z 5), aI y kvc2 20 (z 6), aI y kvc3 20 (z 7), aI y kvc4 20 (z 8), aI y kvc5 20 o, kX10 kud kvd (z 9), aI y kvd 32 (z 10), kX0 kue kve (z 11), aI y kve 3 (z 12)] ++ kW y ad zk ok 14)) (vx_runV (As := [.int a1]) (rest := [.int 0, .ref jq]) ⟨hx, hb, hml, hown, hts⟩ (c_X11_disturb l G y h a1 qt fh kh ch qh qs a x kua kub kuc kud kue z kva kvc1 kvc2 kvc3 kvc4 kvc5 o kvd kve ad zk ok s.heap.size hc hrz hez hgz hfl) (cwV 1 hts gL_disturb_X11_disturb rfl rfl rfl (by decide +kernel) ⟨Nat.le_of_ble_eq_true rfl, Nat.le_of_ble_eq_true rfl⟩) (PHX_V (A0 := A) (P_r hP) hK4 hN (D_r hD) hTY.1 hS (F_r hD hS hA) (ci := 9) (q0 := 0) rfl rfl) rfl rfl hl.1 rfl (lv_room (Nat.le_of_ble_eq_true rfl)) dL_disturb_4 ⟨Nat.le_of_ble_eq_true rfl, Nat.le_of_ble_eq_true rfl⟩) hP hD hS hA (fun E ce q9 u H locs hE hP hD hS hce hcv hcl => ?_) (fun u H locs hP hD hS => ?_)
  · exact (exC_0 hk0 hE).elim
  · refine lv_i2l (v := ((s_X11_disturb_r a1 z)).toInt64) hx hb dL_disturb_7 rfl ?_
    refine as_o hx hb hK hP hD hS dL_disturb_8 (fun H locs hP hD hS => ?_)
    refine lv_goto (tgt := 15) hx hb dL_disturb_9 (by decide) ?_
    refine lv_iconst (v := 0) hx hb dL_disturb_15 (by decide) ?_
    rw [hQQ]
    refine vx_ret ?_
    exact W.iret hx hb hr (end_Hi u.1 hP hD hS rfl rfl) hS.2.2 dL_disturb_16
set_option maxHeartbeats 400000 in
set_option maxRecDepth 100000 in
theorem c_L_disturb_n (l : Launch) (G : va_G) (y : Nat → ClassId) (h : Nat) (a1 : Int32) (qt : Nat) (fh : Nat) (kh : Nat) (ch : Nat) (qh : Nat) (qs : Nat) (a : Nat) (x : Nat → Int32) (kua : Nat) (kub : Nat) (kuc : Nat) (kud : Nat) (kue : Nat) (z : Nat → Nat → Int32) (kva : Nat) (kvc1 : Nat) (kvc2 : Nat) (kvc3 : Nat) (kvc4 : Nat) (kvc5 : Nat) (o : Nat → Int32) (kvd : Nat) (kve : Nat) (ad : Nat → Nat → Nat) (zk : Nat → Nat → Nat → Int32) (ok : Nat → Nat → Int32) (jq : Nat) (jo : Nat → Int64) (sz : Nat) (hc : vp_in (x 1) 15) (hrz : z 3 7 = 0 ∨ z 3 7 = 1) (hez : z 3 10 = 0 ∨ z 3 10 = 1) (hgz : z 4 6 = 0 ∨ z 4 6 = 1) (hk0 : ¬ (s_X11_disturb_k a1) = 0) (hfl : l.stackTraces = false) : vx_Met l yL_disturb wsL_disturb rmL_disturb (PHL G y [.ref h, .int a1, .ref jq] ([aJ y jq 1 jo] ++ ([kX11 h qt fh kh ch qh qs Z0, kX2 qh a x, aQ y a 14 (fun i => some (ad i 0)), kX7 kh kua kub kuc kud kue (z 0), kX3 kua kva (z 1), aI y kva 10 (z 2), kX1 kub (z 3), kX8 kuc kvc1 kvc2 kvc3 kvc4 kvc5 (z 4), aI y kvc1 20 (z 5), aI y kvc2 20 (z 6), aI y kvc3 20 (z 7), aI y kvc4 20 (z 8), aI y kvc5 20 o, kX10 kud kvd (z 9), aI y kvd 32 (z 10), kX0 kue kve (z 11), aI y kve 3 (z 12)] ++ kW y ad zk ok 14)) sz) (QHi G (cdK 1 (s_X11_disturb_k a1)) (fun _ : Unit => ([aJ y jq 1 jo] ++ ([kX11 h qt fh kh ch qh qs Z0, kX2 qh a x, aQ y a 14 (fun i => some (ad i 0)), kX7 kh kua kub kuc kud kue (z 0), kX3 kua kva (z 1), aI y kva 10 (z 2), kX1 kub (z 3), kX8 kuc kvc1 kvc2 kvc3 kvc4 kvc5 (z 4), aI y kvc1 20 (z 5), aI y kvc2 20 (z 6), aI y kvc3 20 (z 7), aI y kvc4 20 (z 8), aI y kvc5 20 o, kX10 kud kvd (z 9), aI y kvd 32 (z 10), kX0 kue kve (z 11), aI y kve 3 (z 12)] ++ kW y ad zk ok 14))) (va_A ([aJ y jq 1 jo] ++ ([kX11 h qt fh kh ch qh qs Z0, kX2 qh a x, aQ y a 14 (fun i => some (ad i 0)), kX7 kh kua kub kuc kud kue (z 0), kX3 kua kva (z 1), aI y kva 10 (z 2), kX1 kub (z 3), kX8 kuc kvc1 kvc2 kvc3 kvc4 kvc5 (z 4), aI y kvc1 20 (z 5), aI y kvc2 20 (z 6), aI y kvc3 20 (z 7), aI y kvc4 20 (z 8), aI y kvc5 20 o, kX10 kud kvd (z 9), aI y kvd 32 (z 10), kX0 kue kve (z 11), aI y kve 3 (z 12)] ++ kW y ad zk ok 14)) sz)) XN 1 6 (va_A ([aJ y jq 1 jo] ++ ([kX11 h qt fh kh ch qh qs Z0, kX2 qh a x, aQ y a 14 (fun i => some (ad i 0)), kX7 kh kua kub kuc kud kue (z 0), kX3 kua kva (z 1), aI y kva 10 (z 2), kX1 kub (z 3), kX8 kuc kvc1 kvc2 kvc3 kvc4 kvc5 (z 4), aI y kvc1 20 (z 5), aI y kvc2 20 (z 6), aI y kvc3 20 (z 7), aI y kvc4 20 (z 8), aI y kvc5 20 o, kX10 kud kvd (z 9), aI y kvd 32 (z 10), kX0 kue kve (z 11), aI y kve 3 (z 12)] ++ kW y ad zk ok 14)) sz) := by
  refine vx_ofWH (cc := cL_disturb) (maxL := 4) (ret := (some .int)) (hh := [(0, 9, 12, 13)]) (by decide) rfl ?_
  intro p e s m args below meth c s₁ B hml hv
  obtain ⟨rfl, hsz, hP, ⟨hK, hN⟩, hD0, hTY⟩ := hv
  have hx := B.exec
  have hb := B.bytes
  have hr := B.returns
  have hts := atoms_spec (ws := wsL_disturb) B.pre
  have hown : s.vm.findClass RL = some m.cls := findClass_of_methodNamed B.named
  have hlocks := B.notSynchronized
  have htb : c.exceptionTable.toList = tableOf [(0, 9, 12, 13)] := vx_table (x := yL_disturb) B (hts (.codeWith yL_disturb cL_disturb 4 (some .int) [(0, 9, 12, 13)]) (List.mem_cons_self))
  subst hsz
  have hD := hD0.self (sz := s.heap.size)
  generalize hAe : va_A ([aJ y jq 1 jo] ++ ([kX11 h qt fh kh ch qh qs Z0, kX2 qh a x, aQ y a 14 (fun i => some (ad i 0)), kX7 kh kua kub kuc kud kue (z 0), kX3 kua kva (z 1), aI y kva 10 (z 2), kX1 kub (z 3), kX8 kuc kvc1 kvc2 kvc3 kvc4 kvc5 (z 4), aI y kvc1 20 (z 5), aI y kvc2 20 (z 6), aI y kvc3 20 (z 7), aI y kvc4 20 (z 8), aI y kvc5 20 o, kX10 kud kvd (z 9), aI y kvd 32 (z 10), kX0 kue kve (z 11), aI y kve 3 (z 12)] ++ kW y ad zk ok 14)) s.heap.size = A at hD hTY ⊢
  have hA : ∀ q : Nat, s.heap.size ≤ q → A q := fun q h => by rw [← hAe]; exact Or.inr h
  have hS : va_S A s.heap s.heap [] := va_S.rf
  have hP : va_P G vwCl ([aJ y jq 1 jo] ++ ([kX11 h qt fh kh ch qh qs Z0, kX2 qh a x, aQ y a 14 (fun i => some (ad i 0)), kX7 kh kua kub kuc kud kue (z 0), kX3 kua kva (z 1), aI y kva 10 (z 2), kX1 kub (z 3), kX8 kuc kvc1 kvc2 kvc3 kvc4 kvc5 (z 4), aI y kvc1 20 (z 5), aI y kvc2 20 (z 6), aI y kvc3 20 (z 7), aI y kvc4 20 (z 8), aI y kvc5 20 o, kX10 kud kvd (z 9), aI y kvd 32 (z 10), kX0 kue kve (z 11), aI y kve 3 (z 12)] ++ kW y ad zk ok 14)) s.heap := hP
  have hK4 : va_K G vwCl (tyG y) s := hK.sub (tys' := tyG y) [0, 1, 2, 3] rfl
  have hl := lv_entry ([.ref h, .int a1, .ref jq]) (n := 4) (Nat.le_of_ble_eq_true rfl)
  rw [lg_entry_eq]
  generalize (lg_sl ([.ref h, .int a1, .ref jq]) ++ List.replicate (4 - (lg_sl ([.ref h, .int a1, .ref jq])).length) Slot.unset).toArray = ls at hl ⊢
  have hl : lv_has ls 4 [(0, .ref h), (1, .int a1), (2, .ref jq)] := hl
  obtain ⟨QQ, hQQ⟩ : ∃ zq9, zq9 = vx_MQ below (QHi G (cdK 1 (s_X11_disturb_k a1)) (fun _ : Unit => ([aJ y jq 1 jo] ++ ([kX11 h qt fh kh ch qh qs Z0, kX2 qh a x, aQ y a 14 (fun i => some (ad i 0)), kX7 kh kua kub kuc kud kue (z 0), kX3 kua kva (z 1), aI y kva 10 (z 2), kX1 kub (z 3), kX8 kuc kvc1 kvc2 kvc3 kvc4 kvc5 (z 4), aI y kvc1 20 (z 5), aI y kvc2 20 (z 6), aI y kvc3 20 (z 7), aI y kvc4 20 (z 8), aI y kvc5 20 o, kX10 kud kvd (z 9), aI y kvd 32 (z 10), kX0 kue kve (z 11), aI y kve 3 (z 12)] ++ kW y ad zk ok 14))) A) XN ([.ref h, .int a1, .ref jq] : List Value).toArray s 1 6 A := ⟨_, rfl⟩
  rw [← hQQ]
  refine lv_aload_n hx hb dL_disturb_0 rfl (lv_at hl 2 rfl) ?_
  refine lv_iconst (v := 0) hx hb dL_disturb_1 (by decide) ?_
  refine lv_aload_n hx hb dL_disturb_2 rfl (lv_at hl 0 rfl) ?_
  refine lv_iload_n hx hb dL_disturb_3 rfl (lv_at hl 1 rfl) ?_
  refine cl_X (wr := [aJ y jq 1 jo]) (wc := ([kX11 h qt fh kh ch qh qs Z0, kX2 qh a x, aQ y a 14 (fun i => some (ad i 0)), kX7 kh kua kub kuc kud kue (z 0), kX3 kua kva (z 1), aI y kva 10 (z 2), kX1 kub (z 3), kX8 kuc kvc1 kvc2 kvc3 kvc4 kvc5 (z 4), aI y kvc1 20 (z 5), aI y kvc2 20 (z 6), aI y kvc3 20 (z 7), aI y kvc4 20 (z 8), aI y kvc5 20 o, kX10 kud kvd (z 9), aI y kvd 32 (z 10), kX0 kue kve (z 11), aI y kve 3 (z 12)] ++ kW y ad zk ok 14)) (vx_runV (As := [.int a1]) (rest := [.int 0, .ref jq]) ⟨hx, hb, hml, hown, hts⟩ (c_X11_disturb l G y h a1 qt fh kh ch qh qs a x kua kub kuc kud kue z kva kvc1 kvc2 kvc3 kvc4 kvc5 o kvd kve ad zk ok s.heap.size hc hrz hez hgz hfl) (cwV 1 hts gL_disturb_X11_disturb rfl rfl rfl (by decide +kernel) ⟨Nat.le_of_ble_eq_true rfl, Nat.le_of_ble_eq_true rfl⟩) (PHX_V (A0 := A) (P_r hP) hK4 hN (D_r hD) hTY.1 hS (F_r hD hS hA) (ci := 9) (q0 := 0) rfl rfl) rfl rfl hl.1 rfl (lv_room (Nat.le_of_ble_eq_true rfl)) dL_disturb_4 ⟨Nat.le_of_ble_eq_true rfl, Nat.le_of_ble_eq_true rfl⟩) hP hD hS hA (fun E ce q9 u H locs hE hP hD hS hce hcv hcl => ?_) (fun u H locs hP hD hS => ?_)
  · rcases hE with ⟨rfl, hE⟩ | ⟨rfl, hE⟩ | ⟨rfl, hE⟩
    · refine vx_catch hown [] ⟨0, 9, 12, 13⟩ [] (htb.trans rfl) (fun z hz => by cases hz) (by decide) (by decide) (hts (.classLink RL 13 "java/lang/IllegalArgumentException") (by decide +kernel)) (va_Nw.use rfl (hTY.1.2.1 _ mIA)) hce hcv hcl ?_
      refine lv_astore_n (lv' := [(3, .ref q9), (0, .ref h), (1, .int a1), (2, .ref jq)]) hx hb dL_disturb_12 rfl hl (by decide) rfl (fun ls hl => ?_)
      refine lv_iconst (v := 1) hx hb dL_disturb_13 (by decide) ?_
      rw [hQQ]
      refine vx_ret ?_
      exact W.iret hx hb hr (end_Hi u hP hD hS (cd_1 hE (by decide)) rfl) hS.2.2 dL_disturb_14
    · rcases kx_disturb a1 with k9 | k9
      · exact absurd (hE.trans k9) (by decide)
      · exact absurd (hE.trans k9) (by decide)
    · rcases kx_disturb a1 with k9 | k9
      · exact absurd (hE.trans k9) (by decide)
      · exact absurd (hE.trans k9) (by decide)
  · exact absurd u.2 hk0
theorem kx_discard (a1 : Int32) (z : Nat → Nat → Int32) : s_X11_discard_k a1 z = 0 ∨ s_X11_discard_k a1 z = 3 := by
  unfold s_X11_discard_k
  exact k_ite (Q := (fun x : Int32 => x = 0 ∨ x = 3)) (Or.inr rfl) (Or.inl rfl)
abbrev rmL_discard : Room := ({ frames := 7, cells := 1, slots := 6, locals := 145 } : Room)
set_option maxHeartbeats 400000 in
set_option maxRecDepth 100000 in
theorem c_L_discard_y (l : Launch) (G : va_G) (y : Nat → ClassId) (h : Nat) (a1 : Int32) (qt : Nat) (fh : Nat) (kh : Nat) (ch : Nat) (qh : Nat) (qs : Nat) (a : Nat) (x : Nat → Int32) (kua : Nat) (kub : Nat) (kuc : Nat) (kud : Nat) (kue : Nat) (z : Nat → Nat → Int32) (kva : Nat) (kvc1 : Nat) (kvc2 : Nat) (kvc3 : Nat) (kvc4 : Nat) (kvc5 : Nat) (o : Nat → Int32) (kvd : Nat) (kve : Nat) (ad : Nat → Nat → Nat) (zk : Nat → Nat → Nat → Int32) (ok : Nat → Nat → Int32) (jq : Nat) (jo : Nat → Int64) (sz : Nat) (hc : vp_in (x 1) 15) (hrz : z 3 7 = 0 ∨ z 3 7 = 1) (hez : z 3 10 = 0 ∨ z 3 10 = 1) (hgz : z 4 6 = 0 ∨ z 4 6 = 1) (hw : vp_in (z 4 0) 21) (hk0 : (s_X11_discard_k a1 z) = 0) (hfl : l.stackTraces = false) : vx_Met l yL_discard wsL_discard rmL_discard (PHL G y [.ref h, .int a1, .ref jq] ([aJ y jq 1 jo] ++ ([kX11 h qt fh kh ch qh qs Z0, kX2 qh a x, aQ y a 14 (fun i => some (ad i 0)), kX7 kh kua kub kuc kud kue (z 0), kX3 kua kva (z 1), aI y kva 10 (z 2), kX1 kub (z 3), kX8 kuc kvc1 kvc2 kvc3 kvc4 kvc5 (z 4), aI y kvc1 20 (z 5), aI y kvc2 20 (z 6), aI y kvc3 20 (z 7), aI y kvc4 20 (z 8), aI y kvc5 20 o, kX10 kud kvd (z 9), aI y kvd 32 (z 10), kX0 kue kve (z 11), aI y kve 3 (z 12)] ++ kW y ad zk ok 14)) sz) (QHi G 0 (fun _ : Unit => ([aJ y jq 1 (vp_updL jo 0 ((s_X11_discard_r a1 z)).toInt64)] ++ ([kX11 h qt fh kh ch qh qs Z0, kX2 qh a (upd x 1 (nI (rmC (tn (x 1)) + 1))), aQ y a 14 (fun i => some (rmT (tn (x 1)) ad i 0)), kX7 kh kua kub kuc kud kue (s_X11_discard_z a1 z 0), kX3 kua kva (s_X11_discard_z a1 z 1), aI y kva 10 (s_X11_discard_z a1 z 2), kX1 kub (s_X11_discard_z a1 z 3), kX8 kuc kvc1 kvc2 kvc3 kvc4 kvc5 (s_X11_discard_z a1 z 4), aI y kvc1 20 (s_X11_discard_z a1 z 5), aI y kvc2 20 (s_X11_discard_z a1 z 6), aI y kvc3 20 (s_X11_discard_z a1 z 7), aI y kvc4 20 (s_X11_discard_z a1 z 8), aI y kvc5 20 o, kX10 kud kvd (s_X11_discard_z a1 z 9), aI y kvd 32 (s_X11_discard_z a1 z 10), kX0 kue kve (s_X11_discard_z a1 z 11), aI y kve 3 (s_X11_discard_z a1 z 12)] ++ kW y (rmT (tn (x 1)) ad) (uK (rmT (tn (x 1)) zk) (rmC (tn (x 1))) z) (rmT (tn (x 1)) ok) 14))) (va_A ([aJ y jq 1 jo] ++ ([kX11 h qt fh kh ch qh qs Z0, kX2 qh a x, aQ y a 14 (fun i => some (ad i 0)), kX7 kh kua kub kuc kud kue (z 0), kX3 kua kva (z 1), aI y kva 10 (z 2), kX1 kub (z 3), kX8 kuc kvc1 kvc2 kvc3 kvc4 kvc5 (z 4), aI y kvc1 20 (z 5), aI y kvc2 20 (z 6), aI y kvc3 20 (z 7), aI y kvc4 20 (z 8), aI y kvc5 20 o, kX10 kud kvd (z 9), aI y kvd 32 (z 10), kX0 kue kve (z 11), aI y kve 3 (z 12)] ++ kW y ad zk ok 14)) sz)) XN 1 6 (va_A ([aJ y jq 1 jo] ++ ([kX11 h qt fh kh ch qh qs Z0, kX2 qh a x, aQ y a 14 (fun i => some (ad i 0)), kX7 kh kua kub kuc kud kue (z 0), kX3 kua kva (z 1), aI y kva 10 (z 2), kX1 kub (z 3), kX8 kuc kvc1 kvc2 kvc3 kvc4 kvc5 (z 4), aI y kvc1 20 (z 5), aI y kvc2 20 (z 6), aI y kvc3 20 (z 7), aI y kvc4 20 (z 8), aI y kvc5 20 o, kX10 kud kvd (z 9), aI y kvd 32 (z 10), kX0 kue kve (z 11), aI y kve 3 (z 12)] ++ kW y ad zk ok 14)) sz) := by
  refine vx_ofWH (cc := cL_discard) (maxL := 4) (ret := (some .int)) (hh := [(0, 9, 12, 28)]) (by decide) rfl ?_
  intro p e s m args below meth c s₁ B hml hv
  obtain ⟨rfl, hsz, hP, ⟨hK, hN⟩, hD0, hTY⟩ := hv
  have hx := B.exec
  have hb := B.bytes
  have hr := B.returns
  have hts := atoms_spec (ws := wsL_discard) B.pre
  have hown : s.vm.findClass RL = some m.cls := findClass_of_methodNamed B.named
  have hlocks := B.notSynchronized
  have htb : c.exceptionTable.toList = tableOf [(0, 9, 12, 28)] := vx_table (x := yL_discard) B (hts (.codeWith yL_discard cL_discard 4 (some .int) [(0, 9, 12, 28)]) (List.mem_cons_self))
  subst hsz
  have hD := hD0.self (sz := s.heap.size)
  generalize hAe : va_A ([aJ y jq 1 jo] ++ ([kX11 h qt fh kh ch qh qs Z0, kX2 qh a x, aQ y a 14 (fun i => some (ad i 0)), kX7 kh kua kub kuc kud kue (z 0), kX3 kua kva (z 1), aI y kva 10 (z 2), kX1 kub (z 3), kX8 kuc kvc1 kvc2 kvc3 kvc4 kvc5 (z 4), aI y kvc1 20 (z 5), aI y kvc2 20 (z 6), aI y kvc3 20 (z 7), aI y kvc4 20 (z 8), aI y kvc5 20 o, kX10 kud kvd (z 9), aI y kvd 32 (z 10), kX0 kue kve (z 11), aI y kve 3 (z 12)] ++ kW y ad zk ok 14)) s.heap.size = A at hD hTY ⊢
  have hA : ∀ q : Nat, s.heap.size ≤ q → A q := fun q h => by rw [← hAe]; exact Or.inr h
  have hS : va_S A s.heap s.heap [] := va_S.rf
  have hP : va_P G vwCl ([aJ y jq 1 jo] ++ ([kX11 h qt fh kh ch qh qs Z0, kX2 qh a x, aQ y a 14 (fun i => some (ad i 0)), kX7 kh kua kub kuc kud kue (z 0), kX3 kua kva (z 1), aI y kva 10 (z 2), kX1 kub (z 3), kX8 kuc kvc1 kvc2 kvc3 kvc4 kvc5 (z 4), aI y kvc1 20 (z 5), aI y kvc2 20 (z 6), aI y kvc3 20 (z 7), aI y kvc4 20 (z 8), aI y kvc5 20 o, kX10 kud kvd (z 9), aI y kvd 32 (z 10), kX0 kue kve (z 11), aI y kve 3 (z 12)] ++ kW y ad zk ok 14)) s.heap := hP
  have hK4 : va_K G vwCl (tyG y) s := hK.sub (tys' := tyG y) [0, 1, 2, 3] rfl
  have hl := lv_entry ([.ref h, .int a1, .ref jq]) (n := 4) (Nat.le_of_ble_eq_true rfl)
  rw [lg_entry_eq]
  generalize (lg_sl ([.ref h, .int a1, .ref jq]) ++ List.replicate (4 - (lg_sl ([.ref h, .int a1, .ref jq])).length) Slot.unset).toArray = ls at hl ⊢
  have hl : lv_has ls 4 [(0, .ref h), (1, .int a1), (2, .ref jq)] := hl
  obtain ⟨QQ, hQQ⟩ : ∃ zq9, zq9 = vx_MQ below (QHi G 0 (fun _ : Unit => ([aJ y jq 1 (vp_updL jo 0 ((s_X11_discard_r a1 z)).toInt64)] ++ ([kX11 h qt fh kh ch qh qs Z0, kX2 qh a (upd x 1 (nI (rmC (tn (x 1)) + 1))), aQ y a 14 (fun i => some (rmT (tn (x 1)) ad i 0)), kX7 kh kua kub kuc kud kue (s_X11_discard_z a1 z 0), kX3 kua kva (s_X11_discard_z a1 z 1), aI y kva 10 (s_X11_discard_z a1 z 2), kX1 kub (s_X11_discard_z a1 z 3), kX8 kuc kvc1 kvc2 kvc3 kvc4 kvc5 (s_X11_discard_z a1 z 4), aI y kvc1 20 (s_X11_discard_z a1 z 5), aI y kvc2 20 (s_X11_discard_z a1 z 6), aI y kvc3 20 (s_X11_discard_z a1 z 7), aI y kvc4 20 (s_X11_discard_z a1 z 8), aI y kvc5 20 o, kX10 kud kvd (s_X11_discard_z a1 z 9), aI y kvd 32 (s_X11_discard_z a1 z 10), kX0 kue kve (s_X11_discard_z a1 z 11), aI y kve 3 (s_X11_discard_z a1 z 12)] ++ kW y (rmT (tn (x 1)) ad) (uK (rmT (tn (x 1)) zk) (rmC (tn (x 1))) z) (rmT (tn (x 1)) ok) 14))) A) XN ([.ref h, .int a1, .ref jq] : List Value).toArray s 1 6 A := ⟨_, rfl⟩
  rw [← hQQ]
  refine lv_aload_n hx hb dL_discard_0 rfl (lv_at hl 2 rfl) ?_
  refine lv_iconst (v := 0) hx hb dL_discard_1 (by decide) ?_
  refine lv_aload_n hx hb dL_discard_2 rfl (lv_at hl 0 rfl) ?_
  refine lv_iload_n hx hb dL_discard_3 rfl (lv_at hl 1 rfl) ?_
  refine cl_X (wr := [aJ y jq 1 jo]) (wc := ([kX11 h qt fh kh ch qh qs Z0, kX2 qh a x, aQ y a 14 (fun i => some (ad i 0)), kX7 kh kua kub kuc kud kue (z 0), kX3 kua kva (z 1), aI y kva 10 (z 2), kX1 kub (z 3), kX8 kuc kvc1 kvc2 kvc3 kvc4 kvc5 (z 4), aI y kvc1 20 (z 5), aI y kvc2 20 (z 6), aI y kvc3 20 (z 7), aI y kvc4 20 (z 8), aI y kvc5 20 o, kX10 kud kvd (z 9), aI y kvd 32 (z 10), kX0 kue kve (z 11), aI y kve 3 (z 12)] ++ kW y ad zk ok 14)) (vx_runV (As := [.int a1]) (rest := [.int 0, .ref jq]) ⟨hx, hb, hml, hown, hts⟩ (c_X11_discard l G y h a1 qt fh kh ch qh qs a x kua kub kuc kud kue z kva kvc1 kvc2 kvc3 kvc4 kvc5 o kvd kve ad zk ok s.heap.size hc hrz hez hgz hw hfl) (cwV 1 hts gL_discard_X11_discard rfl rfl rfl (by decide +kernel) ⟨Nat.le_of_ble_eq_true rfl, Nat.le_of_ble_eq_true rfl⟩) (PHX_V (A0 := A) (P_r hP) hK4 hN (D_r hD) hTY.1 hS (F_r hD hS hA) (ci := 9) (q0 := 0) rfl rfl) rfl rfl hl.1 rfl (lv_room (Nat.le_of_ble_eq_true rfl)) dL_discard_4 ⟨Nat.le_of_ble_eq_true rfl, Nat.le_of_ble_eq_true rfl⟩) hP hD hS hA (fun E ce q9 u H locs hE hP hD hS hce hcv hcl => ?_) (fun u H locs hP hD hS => ?_)
  · exact (exC_0 hk0 hE).elim
  · refine lv_i2l (v := ((s_X11_discard_r a1 z)).toInt64) hx hb dL_discard_7 rfl ?_
    refine as_o hx hb hK hP hD hS dL_discard_8 (fun H locs hP hD hS => ?_)
    refine lv_goto (tgt := 15) hx hb dL_discard_9 (by decide) ?_
    refine lv_iconst (v := 0) hx hb dL_discard_15 (by decide) ?_
    rw [hQQ]
    refine vx_ret ?_
    exact W.iret hx hb hr (end_Hi u.1 hP hD hS rfl rfl) hS.2.2 dL_discard_16
set_option maxHeartbeats 400000 in
set_option maxRecDepth 100000 in
theorem c_L_discard_n (l : Launch) (G : va_G) (y : Nat → ClassId) (h : Nat) (a1 : Int32) (qt : Nat) (fh : Nat) (kh : Nat) (ch : Nat) (qh : Nat) (qs : Nat) (a : Nat) (x : Nat → Int32) (kua : Nat) (kub : Nat) (kuc : Nat) (kud : Nat) (kue : Nat) (z : Nat → Nat → Int32) (kva : Nat) (kvc1 : Nat) (kvc2 : Nat) (kvc3 : Nat) (kvc4 : Nat) (kvc5 : Nat) (o : Nat → Int32) (kvd : Nat) (kve : Nat) (ad : Nat → Nat → Nat) (zk : Nat → Nat → Nat → Int32) (ok : Nat → Nat → Int32) (jq : Nat) (jo : Nat → Int64) (sz : Nat) (hc : vp_in (x 1) 15) (hrz : z 3 7 = 0 ∨ z 3 7 = 1) (hez : z 3 10 = 0 ∨ z 3 10 = 1) (hgz : z 4 6 = 0 ∨ z 4 6 = 1) (hw : vp_in (z 4 0) 21) (hk0 : ¬ (s_X11_discard_k a1 z) = 0) (hfl : l.stackTraces = false) : vx_Met l yL_discard wsL_discard rmL_discard (PHL G y [.ref h, .int a1, .ref jq] ([aJ y jq 1 jo] ++ ([kX11 h qt fh kh ch qh qs Z0, kX2 qh a x, aQ y a 14 (fun i => some (ad i 0)), kX7 kh kua kub kuc kud kue (z 0), kX3 kua kva (z 1), aI y kva 10 (z 2), kX1 kub (z 3), kX8 kuc kvc1 kvc2 kvc3 kvc4 kvc5 (z 4), aI y kvc1 20 (z 5), aI y kvc2 20 (z 6), aI y kvc3 20 (z 7), aI y kvc4 20 (z 8), aI y kvc5 20 o, kX10 kud kvd (z 9), aI y kvd 32 (z 10), kX0 kue kve (z 11), aI y kve 3 (z 12)] ++ kW y ad zk ok 14)) sz) (QHi G (cdK 3 (s_X11_discard_k a1 z)) (fun _ : Unit => ([aJ y jq 1 jo] ++ ([kX11 h qt fh kh ch qh qs Z0, kX2 qh a x, aQ y a 14 (fun i => some (ad i 0)), kX7 kh kua kub kuc kud kue (z 0), kX3 kua kva (z 1), aI y kva 10 (z 2), kX1 kub (z 3), kX8 kuc kvc1 kvc2 kvc3 kvc4 kvc5 (z 4), aI y kvc1 20 (z 5), aI y kvc2 20 (z 6), aI y kvc3 20 (z 7), aI y kvc4 20 (z 8), aI y kvc5 20 o, kX10 kud kvd (z 9), aI y kvd 32 (z 10), kX0 kue kve (z 11), aI y kve 3 (z 12)] ++ kW y ad zk ok 14))) (va_A ([aJ y jq 1 jo] ++ ([kX11 h qt fh kh ch qh qs Z0, kX2 qh a x, aQ y a 14 (fun i => some (ad i 0)), kX7 kh kua kub kuc kud kue (z 0), kX3 kua kva (z 1), aI y kva 10 (z 2), kX1 kub (z 3), kX8 kuc kvc1 kvc2 kvc3 kvc4 kvc5 (z 4), aI y kvc1 20 (z 5), aI y kvc2 20 (z 6), aI y kvc3 20 (z 7), aI y kvc4 20 (z 8), aI y kvc5 20 o, kX10 kud kvd (z 9), aI y kvd 32 (z 10), kX0 kue kve (z 11), aI y kve 3 (z 12)] ++ kW y ad zk ok 14)) sz)) XN 1 6 (va_A ([aJ y jq 1 jo] ++ ([kX11 h qt fh kh ch qh qs Z0, kX2 qh a x, aQ y a 14 (fun i => some (ad i 0)), kX7 kh kua kub kuc kud kue (z 0), kX3 kua kva (z 1), aI y kva 10 (z 2), kX1 kub (z 3), kX8 kuc kvc1 kvc2 kvc3 kvc4 kvc5 (z 4), aI y kvc1 20 (z 5), aI y kvc2 20 (z 6), aI y kvc3 20 (z 7), aI y kvc4 20 (z 8), aI y kvc5 20 o, kX10 kud kvd (z 9), aI y kvd 32 (z 10), kX0 kue kve (z 11), aI y kve 3 (z 12)] ++ kW y ad zk ok 14)) sz) := by
  refine vx_ofWH (cc := cL_discard) (maxL := 4) (ret := (some .int)) (hh := [(0, 9, 12, 28)]) (by decide) rfl ?_
  intro p e s m args below meth c s₁ B hml hv
  obtain ⟨rfl, hsz, hP, ⟨hK, hN⟩, hD0, hTY⟩ := hv
  have hx := B.exec
  have hb := B.bytes
  have hr := B.returns
  have hts := atoms_spec (ws := wsL_discard) B.pre
  have hown : s.vm.findClass RL = some m.cls := findClass_of_methodNamed B.named
  have hlocks := B.notSynchronized
  have htb : c.exceptionTable.toList = tableOf [(0, 9, 12, 28)] := vx_table (x := yL_discard) B (hts (.codeWith yL_discard cL_discard 4 (some .int) [(0, 9, 12, 28)]) (List.mem_cons_self))
  subst hsz
  have hD := hD0.self (sz := s.heap.size)
  generalize hAe : va_A ([aJ y jq 1 jo] ++ ([kX11 h qt fh kh ch qh qs Z0, kX2 qh a x, aQ y a 14 (fun i => some (ad i 0)), kX7 kh kua kub kuc kud kue (z 0), kX3 kua kva (z 1), aI y kva 10 (z 2), kX1 kub (z 3), kX8 kuc kvc1 kvc2 kvc3 kvc4 kvc5 (z 4), aI y kvc1 20 (z 5), aI y kvc2 20 (z 6), aI y kvc3 20 (z 7), aI y kvc4 20 (z 8), aI y kvc5 20 o, kX10 kud kvd (z 9), aI y kvd 32 (z 10), kX0 kue kve (z 11), aI y kve 3 (z 12)] ++ kW y ad zk ok 14)) s.heap.size = A at hD hTY ⊢
  have hA : ∀ q : Nat, s.heap.size ≤ q → A q := fun q h => by rw [← hAe]; exact Or.inr h
  have hS : va_S A s.heap s.heap [] := va_S.rf
  have hP : va_P G vwCl ([aJ y jq 1 jo] ++ ([kX11 h qt fh kh ch qh qs Z0, kX2 qh a x, aQ y a 14 (fun i => some (ad i 0)), kX7 kh kua kub kuc kud kue (z 0), kX3 kua kva (z 1), aI y kva 10 (z 2), kX1 kub (z 3), kX8 kuc kvc1 kvc2 kvc3 kvc4 kvc5 (z 4), aI y kvc1 20 (z 5), aI y kvc2 20 (z 6), aI y kvc3 20 (z 7), aI y kvc4 20 (z 8), aI y kvc5 20 o, kX10 kud kvd (z 9), aI y kvd 32 (z 10), kX0 kue kve (z 11), aI y kve 3 (z 12)] ++ kW y ad zk ok 14)) s.heap := hP
  have hK4 : va_K G vwCl (tyG y) s := hK.sub (tys' := tyG y) [0, 1, 2, 3] rfl
  have hl := lv_entry ([.ref h, .int a1, .ref jq]) (n := 4) (Nat.le_of_ble_eq_true rfl)
  rw [lg_entry_eq]
  generalize (lg_sl ([.ref h, .int a1, .ref jq]) ++ List.replicate (4 - (lg_sl ([.ref h, .int a1, .ref jq])).length) Slot.unset).toArray = ls at hl ⊢
  have hl : lv_has ls 4 [(0, .ref h), (1, .int a1), (2, .ref jq)] := hl
  obtain ⟨QQ, hQQ⟩ : ∃ zq9, zq9 = vx_MQ below (QHi G (cdK 3 (s_X11_discard_k a1 z)) (fun _ : Unit => ([aJ y jq 1 jo] ++ ([kX11 h qt fh kh ch qh qs Z0, kX2 qh a x, aQ y a 14 (fun i => some (ad i 0)), kX7 kh kua kub kuc kud kue (z 0), kX3 kua kva (z 1), aI y kva 10 (z 2), kX1 kub (z 3), kX8 kuc kvc1 kvc2 kvc3 kvc4 kvc5 (z 4), aI y kvc1 20 (z 5), aI y kvc2 20 (z 6), aI y kvc3 20 (z 7), aI y kvc4 20 (z 8), aI y kvc5 20 o, kX10 kud kvd (z 9), aI y kvd 32 (z 10), kX0 kue kve (z 11), aI y kve 3 (z 12)] ++ kW y ad zk ok 14))) A) XN ([.ref h, .int a1, .ref jq] : List Value).toArray s 1 6 A := ⟨_, rfl⟩
  rw [← hQQ]
  refine lv_aload_n hx hb dL_discard_0 rfl (lv_at hl 2 rfl) ?_
  refine lv_iconst (v := 0) hx hb dL_discard_1 (by decide) ?_
  refine lv_aload_n hx hb dL_discard_2 rfl (lv_at hl 0 rfl) ?_
  refine lv_iload_n hx hb dL_discard_3 rfl (lv_at hl 1 rfl) ?_
  refine cl_X (wr := [aJ y jq 1 jo]) (wc := ([kX11 h qt fh kh ch qh qs Z0, kX2 qh a x, aQ y a 14 (fun i => some (ad i 0)), kX7 kh kua kub kuc kud kue (z 0), kX3 kua kva (z 1), aI y kva 10 (z 2), kX1 kub (z 3), kX8 kuc kvc1 kvc2 kvc3 kvc4 kvc5 (z 4), aI y kvc1 20 (z 5), aI y kvc2 20 (z 6), aI y kvc3 20 (z 7), aI y kvc4 20 (z 8), aI y kvc5 20 o, kX10 kud kvd (z 9), aI y kvd 32 (z 10), kX0 kue kve (z 11), aI y kve 3 (z 12)] ++ kW y ad zk ok 14)) (vx_runV (As := [.int a1]) (rest := [.int 0, .ref jq]) ⟨hx, hb, hml, hown, hts⟩ (c_X11_discard l G y h a1 qt fh kh ch qh qs a x kua kub kuc kud kue z kva kvc1 kvc2 kvc3 kvc4 kvc5 o kvd kve ad zk ok s.heap.size hc hrz hez hgz hw hfl) (cwV 1 hts gL_discard_X11_discard rfl rfl rfl (by decide +kernel) ⟨Nat.le_of_ble_eq_true rfl, Nat.le_of_ble_eq_true rfl⟩) (PHX_V (A0 := A) (P_r hP) hK4 hN (D_r hD) hTY.1 hS (F_r hD hS hA) (ci := 9) (q0 := 0) rfl rfl) rfl rfl hl.1 rfl (lv_room (Nat.le_of_ble_eq_true rfl)) dL_discard_4 ⟨Nat.le_of_ble_eq_true rfl, Nat.le_of_ble_eq_true rfl⟩) hP hD hS hA (fun E ce q9 u H locs hE hP hD hS hce hcv hcl => ?_) (fun u H locs hP hD hS => ?_)
  · rcases hE with ⟨rfl, hE⟩ | ⟨rfl, hE⟩ | ⟨rfl, hE⟩
    · rcases kx_discard a1 z with k9 | k9
      · exact absurd (hE.trans k9) (by decide)
      · exact absurd (hE.trans k9) (by decide)
    · rcases kx_discard a1 z with k9 | k9
      · exact absurd (hE.trans k9) (by decide)
      · exact absurd (hE.trans k9) (by decide)
    · refine vx_catch hown [] ⟨0, 9, 12, 28⟩ [] (htb.trans rfl) (fun z hz => by cases hz) (by decide) (by decide) (hts (.classLink RL 28 "java/lang/IndexOutOfBoundsException") (by decide +kernel)) (va_Nw.use rfl (hTY.1.2.1 _ mIO)) hce hcv hcl ?_
      refine lv_astore_n (lv' := [(3, .ref q9), (0, .ref h), (1, .int a1), (2, .ref jq)]) hx hb dL_discard_12 rfl hl (by decide) rfl (fun ls hl => ?_)
      refine lv_iconst (v := 1) hx hb dL_discard_13 (by decide) ?_
      rw [hQQ]
      refine vx_ret ?_
      exact W.iret hx hb hr (end_Hi u hP hD hS (cd_1 hE (by decide)) rfl) hS.2.2 dL_discard_14
  · exact absurd u.2 hk0
theorem kx_tryRule (a1 : Int32) (z : Nat → Nat → Int32) : s_X11_tryRule_k a1 z = 0 ∨ s_X11_tryRule_k a1 z = 2 ∨ s_X11_tryRule_k a1 z = 3 := by
  unfold s_X11_tryRule_k
  exact k_ite (Q := (fun x : Int32 => x = 0 ∨ x = 2 ∨ x = 3)) (Or.inr (Or.inr rfl)) (k_ite (Q := (fun x : Int32 => x = 0 ∨ x = 2 ∨ x = 3)) (Or.inr (Or.inl rfl)) (Or.inl rfl))
abbrev rmL_tryRule : Room := ({ frames := 7, cells := 1, slots := 6, locals := 164 } : Room)
set_option maxHeartbeats 400000 in
set_option maxRecDepth 100000 in
theorem c_L_tryRule_y (l : Launch) (G : va_G) (y : Nat → ClassId) (h : Nat) (a1 : Int32) (qt : Nat) (fh : Nat) (kh : Nat) (ch : Nat) (qh : Nat) (qs : Nat) (a : Nat) (x : Nat → Int32) (kua : Nat) (kub : Nat) (kuc : Nat) (kud : Nat) (kue : Nat) (z : Nat → Nat → Int32) (kva : Nat) (kvc1 : Nat) (kvc2 : Nat) (kvc3 : Nat) (kvc4 : Nat) (kvc5 : Nat) (o : Nat → Int32) (kvd : Nat) (kve : Nat) (ad : Nat → Nat → Nat) (zk : Nat → Nat → Nat → Int32) (ok : Nat → Nat → Int32) (jq : Nat) (jo : Nat → Int64) (sz : Nat) (hc : vp_in (x 1) 15) (hrz : z 3 7 = 0 ∨ z 3 7 = 1) (hez : z 3 10 = 0 ∨ z 3 10 = 1) (hgz : z 4 6 = 0 ∨ z 4 6 = 1) (hw : vp_in (z 4 0) 21) (hk0 : (s_X11_tryRule_k a1 z) = 0) (hfl : l.stackTraces = false) : vx_Met l yL_tryRule wsL_tryRule rmL_tryRule (PHL G y [.ref h, .int a1, .ref jq] ([aJ y jq 1 jo] ++ ([kX11 h qt fh kh ch qh qs Z0, kX2 qh a x, aQ y a 14 (fun i => some (ad i 0)), kX7 kh kua kub kuc kud kue (z 0), kX3 kua kva (z 1), aI y kva 10 (z 2), kX1 kub (z 3), kX8 kuc kvc1 kvc2 kvc3 kvc4 kvc5 (z 4), aI y kvc1 20 (z 5), aI y kvc2 20 (z 6), aI y kvc3 20 (z 7), aI y kvc4 20 (z 8), aI y kvc5 20 o, kX10 kud kvd (z 9), aI y kvd 32 (z 10), kX0 kue kve (z 11), aI y kve 3 (z 12)] ++ kW y ad zk ok 14)) sz) (QHi G 0 (fun u : (Nat → Int32) => ([aJ y jq 1 (vp_updL jo 0 ((s_X11_tryRule_r a1 z)).toInt64)] ++ ([kX11 h qt fh kh ch qh qs Z0, kX2 qh a (upd x 1 (nI (rmC (tn (x 1)) + 1))), aQ y a 14 (fun i => some (rmT (tn (x 1)) ad i 0)), kX7 kh kua kub kuc kud kue (s_X11_tryRule_z a1 z 0), kX3 kua kva (s_X11_tryRule_z a1 z 1), aI y kva 10 (s_X11_tryRule_z a1 z 2), kX1 kub (s_X11_tryRule_z a1 z 3), kX8 kuc kvc1 kvc2 kvc3 kvc4 kvc5 (s_X11_tryRule_z a1 z 4), aI y kvc1 20 (s_X11_tryRule_z a1 z 5), aI y kvc2 20 (s_X11_tryRule_z a1 z 6), aI y kvc3 20 (s_X11_tryRule_z a1 z 7), aI y kvc4 20 (s_X11_tryRule_z a1 z 8), aI y kvc5 20 u, kX10 kud kvd (s_X11_tryRule_z a1 z 9), aI y kvd 32 (s_X11_tryRule_z a1 z 10), kX0 kue kve (s_X11_tryRule_z a1 z 11), aI y kve 3 (s_X11_tryRule_z a1 z 12)] ++ kW y (rmT (tn (x 1)) ad) (uK (rmT (tn (x 1)) zk) (rmC (tn (x 1))) z) (rmT (tn (x 1)) ok) 14))) (va_A ([aJ y jq 1 jo] ++ ([kX11 h qt fh kh ch qh qs Z0, kX2 qh a x, aQ y a 14 (fun i => some (ad i 0)), kX7 kh kua kub kuc kud kue (z 0), kX3 kua kva (z 1), aI y kva 10 (z 2), kX1 kub (z 3), kX8 kuc kvc1 kvc2 kvc3 kvc4 kvc5 (z 4), aI y kvc1 20 (z 5), aI y kvc2 20 (z 6), aI y kvc3 20 (z 7), aI y kvc4 20 (z 8), aI y kvc5 20 o, kX10 kud kvd (z 9), aI y kvd 32 (z 10), kX0 kue kve (z 11), aI y kve 3 (z 12)] ++ kW y ad zk ok 14)) sz)) XN 1 6 (va_A ([aJ y jq 1 jo] ++ ([kX11 h qt fh kh ch qh qs Z0, kX2 qh a x, aQ y a 14 (fun i => some (ad i 0)), kX7 kh kua kub kuc kud kue (z 0), kX3 kua kva (z 1), aI y kva 10 (z 2), kX1 kub (z 3), kX8 kuc kvc1 kvc2 kvc3 kvc4 kvc5 (z 4), aI y kvc1 20 (z 5), aI y kvc2 20 (z 6), aI y kvc3 20 (z 7), aI y kvc4 20 (z 8), aI y kvc5 20 o, kX10 kud kvd (z 9), aI y kvd 32 (z 10), kX0 kue kve (z 11), aI y kve 3 (z 12)] ++ kW y ad zk ok 14)) sz) := by
  refine vx_ofWH (cc := cL_tryRule) (maxL := 4) (ret := (some .int)) (hh := [(0, 9, 12, 28), (0, 9, 15, 15)]) (by decide) rfl ?_
  intro p e s m args below meth c s₁ B hml hv
  obtain ⟨rfl, hsz, hP, ⟨hK, hN⟩, hD0, hTY⟩ := hv
  have hx := B.exec
  have hb := B.bytes
  have hr := B.returns
  have hts := atoms_spec (ws := wsL_tryRule) B.pre
  have hown : s.vm.findClass RL = some m.cls := findClass_of_methodNamed B.named
  have hlocks := B.notSynchronized
  have htb : c.exceptionTable.toList = tableOf [(0, 9, 12, 28), (0, 9, 15, 15)] := vx_table (x := yL_tryRule) B (hts (.codeWith yL_tryRule cL_tryRule 4 (some .int) [(0, 9, 12, 28), (0, 9, 15, 15)]) (List.mem_cons_self))
  subst hsz
  have hD := hD0.self (sz := s.heap.size)
  generalize hAe : va_A ([aJ y jq 1 jo] ++ ([kX11 h qt fh kh ch qh qs Z0, kX2 qh a x, aQ y a 14 (fun i => some (ad i 0)), kX7 kh kua kub kuc kud kue (z 0), kX3 kua kva (z 1), aI y kva 10 (z 2), kX1 kub (z 3), kX8 kuc kvc1 kvc2 kvc3 kvc4 kvc5 (z 4), aI y kvc1 20 (z 5), aI y kvc2 20 (z 6), aI y kvc3 20 (z 7), aI y kvc4 20 (z 8), aI y kvc5 20 o, kX10 kud kvd (z 9), aI y kvd 32 (z 10), kX0 kue kve (z 11), aI y kve 3 (z 12)] ++ kW y ad zk ok 14)) s.heap.size = A at hD hTY ⊢
  have hA : ∀ q : Nat, s.heap.size ≤ q → A q := fun q h => by rw [← hAe]; exact Or.inr h
  have hS : va_S A s.heap s.heap [] := va_S.rf
  have hP : va_P G vwCl ([aJ y jq 1 jo] ++ ([kX11 h qt fh kh ch qh qs Z0, kX2 qh a x, aQ y a 14 (fun i => some (ad i 0)), kX7 kh kua kub kuc kud kue (z 0), kX3 kua kva (z 1), aI y kva 10 (z 2), kX1 kub (z 3), kX8 kuc kvc1 kvc2 kvc3 kvc4 kvc5 (z 4), aI y kvc1 20 (z 5), aI y kvc2 20 (z 6), aI y kvc3 20 (z 7), aI y kvc4 20 (z 8), aI y kvc5 20 o, kX10 kud kvd (z 9), aI y kvd 32 (z 10), kX0 kue kve (z 11), aI y kve 3 (z 12)] ++ kW y ad zk ok 14)) s.heap := hP
  have hK4 : va_K G vwCl (tyG y) s := hK.sub (tys' := tyG y) [0, 1, 2, 3] rfl
  have hl := lv_entry ([.ref h, .int a1, .ref jq]) (n := 4) (Nat.le_of_ble_eq_true rfl)
  rw [lg_entry_eq]
  generalize (lg_sl ([.ref h, .int a1, .ref jq]) ++ List.replicate (4 - (lg_sl ([.ref h, .int a1, .ref jq])).length) Slot.unset).toArray = ls at hl ⊢
  have hl : lv_has ls 4 [(0, .ref h), (1, .int a1), (2, .ref jq)] := hl
  obtain ⟨QQ, hQQ⟩ : ∃ zq9, zq9 = vx_MQ below (QHi G 0 (fun u : (Nat → Int32) => ([aJ y jq 1 (vp_updL jo 0 ((s_X11_tryRule_r a1 z)).toInt64)] ++ ([kX11 h qt fh kh ch qh qs Z0, kX2 qh a (upd x 1 (nI (rmC (tn (x 1)) + 1))), aQ y a 14 (fun i => some (rmT (tn (x 1)) ad i 0)), kX7 kh kua kub kuc kud kue (s_X11_tryRule_z a1 z 0), kX3 kua kva (s_X11_tryRule_z a1 z 1), aI y kva 10 (s_X11_tryRule_z a1 z 2), kX1 kub (s_X11_tryRule_z a1 z 3), kX8 kuc kvc1 kvc2 kvc3 kvc4 kvc5 (s_X11_tryRule_z a1 z 4), aI y kvc1 20 (s_X11_tryRule_z a1 z 5), aI y kvc2 20 (s_X11_tryRule_z a1 z 6), aI y kvc3 20 (s_X11_tryRule_z a1 z 7), aI y kvc4 20 (s_X11_tryRule_z a1 z 8), aI y kvc5 20 u, kX10 kud kvd (s_X11_tryRule_z a1 z 9), aI y kvd 32 (s_X11_tryRule_z a1 z 10), kX0 kue kve (s_X11_tryRule_z a1 z 11), aI y kve 3 (s_X11_tryRule_z a1 z 12)] ++ kW y (rmT (tn (x 1)) ad) (uK (rmT (tn (x 1)) zk) (rmC (tn (x 1))) z) (rmT (tn (x 1)) ok) 14))) A) XN ([.ref h, .int a1, .ref jq] : List Value).toArray s 1 6 A := ⟨_, rfl⟩
  rw [← hQQ]
  refine lv_aload_n hx hb dL_tryRule_0 rfl (lv_at hl 2 rfl) ?_
  refine lv_iconst (v := 0) hx hb dL_tryRule_1 (by decide) ?_
  refine lv_aload_n hx hb dL_tryRule_2 rfl (lv_at hl 0 rfl) ?_
  refine lv_iload_n hx hb dL_tryRule_3 rfl (lv_at hl 1 rfl) ?_
  refine cl_X (wr := [aJ y jq 1 jo]) (wc := ([kX11 h qt fh kh ch qh qs Z0, kX2 qh a x, aQ y a 14 (fun i => some (ad i 0)), kX7 kh kua kub kuc kud kue (z 0), kX3 kua kva (z 1), aI y kva 10 (z 2), kX1 kub (z 3), kX8 kuc kvc1 kvc2 kvc3 kvc4 kvc5 (z 4), aI y kvc1 20 (z 5), aI y kvc2 20 (z 6), aI y kvc3 20 (z 7), aI y kvc4 20 (z 8), aI y kvc5 20 o, kX10 kud kvd (z 9), aI y kvd 32 (z 10), kX0 kue kve (z 11), aI y kve 3 (z 12)] ++ kW y ad zk ok 14)) (vx_runV (As := [.int a1]) (rest := [.int 0, .ref jq]) ⟨hx, hb, hml, hown, hts⟩ (c_X11_tryRule l G y h a1 qt fh kh ch qh qs a x kua kub kuc kud kue z kva kvc1 kvc2 kvc3 kvc4 kvc5 o kvd kve ad zk ok s.heap.size hc hrz hez hgz hw hfl) (cwV 1 hts gL_tryRule_X11_tryRule rfl rfl rfl (by decide +kernel) ⟨Nat.le_of_ble_eq_true rfl, Nat.le_of_ble_eq_true rfl⟩) (PHX_V (A0 := A) (P_r hP) hK4 hN (D_r hD) hTY.1 hS (F_r hD hS hA) (ci := 9) (q0 := 0) rfl rfl) rfl rfl hl.1 rfl (lv_room (Nat.le_of_ble_eq_true rfl)) dL_tryRule_4 ⟨Nat.le_of_ble_eq_true rfl, Nat.le_of_ble_eq_true rfl⟩) hP hD hS hA (fun E ce q9 u H locs hE hP hD hS hce hcv hcl => ?_) (fun u H locs hP hD hS => ?_)
  · exact (exC_0 hk0 hE).elim
  · refine lv_i2l (v := ((s_X11_tryRule_r a1 z)).toInt64) hx hb dL_tryRule_7 rfl ?_
    refine as_o hx hb hK hP hD hS dL_tryRule_8 (fun H locs hP hD hS => ?_)
    refine lv_goto (tgt := 18) hx hb dL_tryRule_9 (by decide) ?_
    refine lv_iconst (v := 0) hx hb dL_tryRule_18 (by decide) ?_
    rw [hQQ]
    refine vx_ret ?_
    exact W.iret hx hb hr (end_Hi u.1 hP hD hS rfl rfl) hS.2.2 dL_tryRule_19
set_option maxHeartbeats 400000 in
set_option maxRecDepth 100000 in
theorem c_L_tryRule_n (l : Launch) (G : va_G) (y : Nat → ClassId) (h : Nat) (a1 : Int32) (qt : Nat) (fh : Nat) (kh : Nat) (ch : Nat) (qh : Nat) (qs : Nat) (a : Nat) (x : Nat → Int32) (kua : Nat) (kub : Nat) (kuc : Nat) (kud : Nat) (kue : Nat) (z : Nat → Nat → Int32) (kva : Nat) (kvc1 : Nat) (kvc2 : Nat) (kvc3 : Nat) (kvc4 : Nat) (kvc5 : Nat) (o : Nat → Int32) (kvd : Nat) (kve : Nat) (ad : Nat → Nat → Nat) (zk : Nat → Nat → Nat → Int32) (ok : Nat → Nat → Int32) (jq : Nat) (jo : Nat → Int64) (sz : Nat) (hc : vp_in (x 1) 15) (hrz : z 3 7 = 0 ∨ z 3 7 = 1) (hez : z 3 10 = 0 ∨ z 3 10 = 1) (hgz : z 4 6 = 0 ∨ z 4 6 = 1) (hw : vp_in (z 4 0) 21) (hk0 : ¬ (s_X11_tryRule_k a1 z) = 0) (hfl : l.stackTraces = false) : vx_Met l yL_tryRule wsL_tryRule rmL_tryRule (PHL G y [.ref h, .int a1, .ref jq] ([aJ y jq 1 jo] ++ ([kX11 h qt fh kh ch qh qs Z0, kX2 qh a x, aQ y a 14 (fun i => some (ad i 0)), kX7 kh kua kub kuc kud kue (z 0), kX3 kua kva (z 1), aI y kva 10 (z 2), kX1 kub (z 3), kX8 kuc kvc1 kvc2 kvc3 kvc4 kvc5 (z 4), aI y kvc1 20 (z 5), aI y kvc2 20 (z 6), aI y kvc3 20 (z 7), aI y kvc4 20 (z 8), aI y kvc5 20 o, kX10 kud kvd (z 9), aI y kvd 32 (z 10), kX0 kue kve (z 11), aI y kve 3 (z 12)] ++ kW y ad zk ok 14)) sz) (QHi G (cdK 3 (s_X11_tryRule_k a1 z)) (fun u : (Nat → Int32) => ([aJ y jq 1 jo] ++ ([kX11 h qt fh kh ch qh qs Z0, kX2 qh a x, aQ y a 14 (fun i => some (ad i 0)), kX7 kh kua kub kuc kud kue (z 0), kX3 kua kva (z 1), aI y kva 10 (z 2), kX1 kub (z 3), kX8 kuc kvc1 kvc2 kvc3 kvc4 kvc5 (z 4), aI y kvc1 20 (z 5), aI y kvc2 20 (z 6), aI y kvc3 20 (z 7), aI y kvc4 20 (z 8), aI y kvc5 20 u, kX10 kud kvd (z 9), aI y kvd 32 (z 10), kX0 kue kve (z 11), aI y kve 3 (z 12)] ++ kW y ad zk ok 14))) (va_A ([aJ y jq 1 jo] ++ ([kX11 h qt fh kh ch qh qs Z0, kX2 qh a x, aQ y a 14 (fun i => some (ad i 0)), kX7 kh kua kub kuc kud kue (z 0), kX3 kua kva (z 1), aI y kva 10 (z 2), kX1 kub (z 3), kX8 kuc kvc1 kvc2 kvc3 kvc4 kvc5 (z 4), aI y kvc1 20 (z 5), aI y kvc2 20 (z 6), aI y kvc3 20 (z 7), aI y kvc4 20 (z 8), aI y kvc5 20 o, kX10 kud kvd (z 9), aI y kvd 32 (z 10), kX0 kue kve (z 11), aI y kve 3 (z 12)] ++ kW y ad zk ok 14)) sz)) XN 1 6 (va_A ([aJ y jq 1 jo] ++ ([kX11 h qt fh kh ch qh qs Z0, kX2 qh a x, aQ y a 14 (fun i => some (ad i 0)), kX7 kh kua kub kuc kud kue (z 0), kX3 kua kva (z 1), aI y kva 10 (z 2), kX1 kub (z 3), kX8 kuc kvc1 kvc2 kvc3 kvc4 kvc5 (z 4), aI y kvc1 20 (z 5), aI y kvc2 20 (z 6), aI y kvc3 20 (z 7), aI y kvc4 20 (z 8), aI y kvc5 20 o, kX10 kud kvd (z 9), aI y kvd 32 (z 10), kX0 kue kve (z 11), aI y kve 3 (z 12)] ++ kW y ad zk ok 14)) sz) := by
  refine vx_ofWH (cc := cL_tryRule) (maxL := 4) (ret := (some .int)) (hh := [(0, 9, 12, 28), (0, 9, 15, 15)]) (by decide) rfl ?_
  intro p e s m args below meth c s₁ B hml hv
  obtain ⟨rfl, hsz, hP, ⟨hK, hN⟩, hD0, hTY⟩ := hv
  have hx := B.exec
  have hb := B.bytes
  have hr := B.returns
  have hts := atoms_spec (ws := wsL_tryRule) B.pre
  have hown : s.vm.findClass RL = some m.cls := findClass_of_methodNamed B.named
  have hlocks := B.notSynchronized
  have htb : c.exceptionTable.toList = tableOf [(0, 9, 12, 28), (0, 9, 15, 15)] := vx_table (x := yL_tryRule) B (hts (.codeWith yL_tryRule cL_tryRule 4 (some .int) [(0, 9, 12, 28), (0, 9, 15, 15)]) (List.mem_cons_self))
  subst hsz
  have hD := hD0.self (sz := s.heap.size)
  generalize hAe : va_A ([aJ y jq 1 jo] ++ ([kX11 h qt fh kh ch qh qs Z0, kX2 qh a x, aQ y a 14 (fun i => some (ad i 0)), kX7 kh kua kub kuc kud kue (z 0), kX3 kua kva (z 1), aI y kva 10 (z 2), kX1 kub (z 3), kX8 kuc kvc1 kvc2 kvc3 kvc4 kvc5 (z 4), aI y kvc1 20 (z 5), aI y kvc2 20 (z 6), aI y kvc3 20 (z 7), aI y kvc4 20 (z 8), aI y kvc5 20 o, kX10 kud kvd (z 9), aI y kvd 32 (z 10), kX0 kue kve (z 11), aI y kve 3 (z 12)] ++ kW y ad zk ok 14)) s.heap.size = A at hD hTY ⊢
  have hA : ∀ q : Nat, s.heap.size ≤ q → A q := fun q h => by rw [← hAe]; exact Or.inr h
  have hS : va_S A s.heap s.heap [] := va_S.rf
  have hP : va_P G vwCl ([aJ y jq 1 jo] ++ ([kX11 h qt fh kh ch qh qs Z0, kX2 qh a x, aQ y a 14 (fun i => some (ad i 0)), kX7 kh kua kub kuc kud kue (z 0), kX3 kua kva (z 1), aI y kva 10 (z 2), kX1 kub (z 3), kX8 kuc kvc1 kvc2 kvc3 kvc4 kvc5 (z 4), aI y kvc1 20 (z 5), aI y kvc2 20 (z 6), aI y kvc3 20 (z 7), aI y kvc4 20 (z 8), aI y kvc5 20 o, kX10 kud kvd (z 9), aI y kvd 32 (z 10), kX0 kue kve (z 11), aI y kve 3 (z 12)] ++ kW y ad zk ok 14)) s.heap := hP
  have hK4 : va_K G vwCl (tyG y) s := hK.sub (tys' := tyG y) [0, 1, 2, 3] rfl
  have hl := lv_entry ([.ref h, .int a1, .ref jq]) (n := 4) (Nat.le_of_ble_eq_true rfl)
  rw [lg_entry_eq]
  generalize (lg_sl ([.ref h, .int a1, .ref jq]) ++ List.replicate (4 - (lg_sl ([.ref h, .int a1, .ref jq])).length) Slot.unset).toArray = ls at hl ⊢
  have hl : lv_has ls 4 [(0, .ref h), (1, .int a1), (2, .ref jq)] := hl
  obtain ⟨QQ, hQQ⟩ : ∃ zq9, zq9 = vx_MQ below (QHi G (cdK 3 (s_X11_tryRule_k a1 z)) (fun u : (Nat → Int32) => ([aJ y jq 1 jo] ++ ([kX11 h qt fh kh ch qh qs Z0, kX2 qh a x, aQ y a 14 (fun i => some (ad i 0)), kX7 kh kua kub kuc kud kue (z 0), kX3 kua kva (z 1), aI y kva 10 (z 2), kX1 kub (z 3), kX8 kuc kvc1 kvc2 kvc3 kvc4 kvc5 (z 4), aI y kvc1 20 (z 5), aI y kvc2 20 (z 6), aI y kvc3 20 (z 7), aI y kvc4 20 (z 8), aI y kvc5 20 u, kX10 kud kvd (z 9), aI y kvd 32 (z 10), kX0 kue kve (z 11), aI y kve 3 (z 12)] ++ kW y ad zk ok 14))) A) XN ([.ref h, .int a1, .ref jq] : List Value).toArray s 1 6 A := ⟨_, rfl⟩
  rw [← hQQ]
  refine lv_aload_n hx hb dL_tryRule_0 rfl (lv_at hl 2 rfl) ?_
  refine lv_iconst (v := 0) hx hb dL_tryRule_1 (by decide) ?_
  refine lv_aload_n hx hb dL_tryRule_2 rfl (lv_at hl 0 rfl) ?_
  refine lv_iload_n hx hb dL_tryRule_3 rfl (lv_at hl 1 rfl) ?_
  refine cl_X (wr := [aJ y jq 1 jo]) (wc := ([kX11 h qt fh kh ch qh qs Z0, kX2 qh a x, aQ y a 14 (fun i => some (ad i 0)), kX7 kh kua kub kuc kud kue (z 0), kX3 kua kva (z 1), aI y kva 10 (z 2), kX1 kub (z 3), kX8 kuc kvc1 kvc2 kvc3 kvc4 kvc5 (z 4), aI y kvc1 20 (z 5), aI y kvc2 20 (z 6), aI y kvc3 20 (z 7), aI y kvc4 20 (z 8), aI y kvc5 20 o, kX10 kud kvd (z 9), aI y kvd 32 (z 10), kX0 kue kve (z 11), aI y kve 3 (z 12)] ++ kW y ad zk ok 14)) (vx_runV (As := [.int a1]) (rest := [.int 0, .ref jq]) ⟨hx, hb, hml, hown, hts⟩ (c_X11_tryRule l G y h a1 qt fh kh ch qh qs a x kua kub kuc kud kue z kva kvc1 kvc2 kvc3 kvc4 kvc5 o kvd kve ad zk ok s.heap.size hc hrz hez hgz hw hfl) (cwV 1 hts gL_tryRule_X11_tryRule rfl rfl rfl (by decide +kernel) ⟨Nat.le_of_ble_eq_true rfl, Nat.le_of_ble_eq_true rfl⟩) (PHX_V (A0 := A) (P_r hP) hK4 hN (D_r hD) hTY.1 hS (F_r hD hS hA) (ci := 9) (q0 := 0) rfl rfl) rfl rfl hl.1 rfl (lv_room (Nat.le_of_ble_eq_true rfl)) dL_tryRule_4 ⟨Nat.le_of_ble_eq_true rfl, Nat.le_of_ble_eq_true rfl⟩) hP hD hS hA (fun E ce q9 u H locs hE hP hD hS hce hcv hcl => ?_) (fun u H locs hP hD hS => ?_)
  · rcases hE with ⟨rfl, hE⟩ | ⟨rfl, hE⟩ | ⟨rfl, hE⟩
    · rcases kx_tryRule a1 z with k9 | k9 | k9
      · exact absurd (hE.trans k9) (by decide)
      · exact absurd (hE.trans k9) (by decide)
      · exact absurd (hE.trans k9) (by decide)
    · refine vx_catch hown [⟨0, 9, 12, 28⟩] ⟨0, 9, 15, 15⟩ [] (htb.trans rfl) (fun z hz => by rcases List.mem_singleton.mp hz with rfl; exact Or.inr ⟨by decide, "java/lang/IndexOutOfBoundsException", hts (.classLink RL 28 "java/lang/IndexOutOfBoundsException") (by decide +kernel), hTY.2 _ mSO⟩) (by decide) (by decide) (hts (.classLink RL 15 "java/lang/IllegalStateException") (by decide +kernel)) (va_Nw.use rfl (hTY.1.2.1 _ mIS)) hce hcv hcl ?_
      refine lv_astore_n (lv' := [(3, .ref q9), (0, .ref h), (1, .int a1), (2, .ref jq)]) hx hb dL_tryRule_15 rfl hl (by decide) rfl (fun ls hl => ?_)
      refine lv_iconst (v := 2) hx hb dL_tryRule_16 (by decide) ?_
      rw [hQQ]
      refine vx_ret ?_
      exact W.iret hx hb hr (end_Hi u hP hD hS (cd_2 hE (by decide) (by decide)) rfl) hS.2.2 dL_tryRule_17
    · refine vx_catch hown [] ⟨0, 9, 12, 28⟩ [⟨0, 9, 15, 15⟩] (htb.trans rfl) (fun z hz => by cases hz) (by decide) (by decide) (hts (.classLink RL 28 "java/lang/IndexOutOfBoundsException") (by decide +kernel)) (va_Nw.use rfl (hTY.1.2.1 _ mIO)) hce hcv hcl ?_
      refine lv_astore_n (lv' := [(3, .ref q9), (0, .ref h), (1, .int a1), (2, .ref jq)]) hx hb dL_tryRule_12 rfl hl (by decide) rfl (fun ls hl => ?_)
      refine lv_iconst (v := 1) hx hb dL_tryRule_13 (by decide) ?_
      rw [hQQ]
      refine vx_ret ?_
      exact W.iret hx hb hr (end_Hi u hP hD hS (cd_1 hE (by decide)) rfl) hS.2.2 dL_tryRule_14
  · exact absurd u.2 hk0
theorem kx_takeBack (z : Nat → Nat → Int32) : s_X11_takeBack_k z = 0 ∨ s_X11_takeBack_k z = 2 := by
  unfold s_X11_takeBack_k
  exact k_ite (Q := (fun x : Int32 => x = 0 ∨ x = 2)) (Or.inr rfl) (Or.inl rfl)
abbrev rmL_takeBack : Room := ({ frames := 7, cells := 1, slots := 6, locals := 143 } : Room)
set_option maxHeartbeats 400000 in
set_option maxRecDepth 100000 in
theorem c_L_takeBack_y (l : Launch) (G : va_G) (y : Nat → ClassId) (h : Nat) (qt : Nat) (fh : Nat) (kh : Nat) (ch : Nat) (qh : Nat) (qs : Nat) (a : Nat) (x : Nat → Int32) (kua : Nat) (kub : Nat) (kuc : Nat) (kud : Nat) (kue : Nat) (z : Nat → Nat → Int32) (kva : Nat) (kvc1 : Nat) (kvc2 : Nat) (kvc3 : Nat) (kvc4 : Nat) (kvc5 : Nat) (o : Nat → Int32) (kvd : Nat) (kve : Nat) (ad : Nat → Nat → Nat) (zk : Nat → Nat → Nat → Int32) (ok : Nat → Nat → Int32) (jq : Nat) (jo : Nat → Int64) (sz : Nat) (hc : vp_in (x 1) 15) (hrz : z 3 7 = 0 ∨ z 3 7 = 1) (hez : z 3 10 = 0 ∨ z 3 10 = 1) (hgz : z 4 6 = 0 ∨ z 4 6 = 1) (hk0 : (s_X11_takeBack_k z) = 0) (hfl : l.stackTraces = false) : vx_Met l yL_takeBack wsL_takeBack rmL_takeBack (PHL G y [.ref h, .ref jq] ([aJ y jq 1 jo] ++ ([kX11 h qt fh kh ch qh qs Z0, kX2 qh a x, aQ y a 14 (fun i => some (ad i 0)), kX7 kh kua kub kuc kud kue (z 0), kX3 kua kva (z 1), aI y kva 10 (z 2), kX1 kub (z 3), kX8 kuc kvc1 kvc2 kvc3 kvc4 kvc5 (z 4), aI y kvc1 20 (z 5), aI y kvc2 20 (z 6), aI y kvc3 20 (z 7), aI y kvc4 20 (z 8), aI y kvc5 20 o, kX10 kud kvd (z 9), aI y kvd 32 (z 10), kX0 kue kve (z 11), aI y kve 3 (z 12)] ++ kW y ad zk ok 14)) sz) (QHi G 0 (fun _ : Unit => ([aJ y jq 1 (vp_updL jo 0 ((s_X11_takeBack_r z)).toInt64)] ++ ([kX11 h qt fh kh ch qh qs Z0, kX2 qh a (upd x 1 (nI (rmC (tn (x 1)) + 1))), aQ y a 14 (fun i => some (rmT (tn (x 1)) ad i 0)), kX7 kh kua kub kuc kud kue (s_X11_takeBack_z z 0), kX3 kua kva (s_X11_takeBack_z z 1), aI y kva 10 (s_X11_takeBack_z z 2), kX1 kub (s_X11_takeBack_z z 3), kX8 kuc kvc1 kvc2 kvc3 kvc4 kvc5 (s_X11_takeBack_z z 4), aI y kvc1 20 (s_X11_takeBack_z z 5), aI y kvc2 20 (s_X11_takeBack_z z 6), aI y kvc3 20 (s_X11_takeBack_z z 7), aI y kvc4 20 (s_X11_takeBack_z z 8), aI y kvc5 20 o, kX10 kud kvd (s_X11_takeBack_z z 9), aI y kvd 32 (s_X11_takeBack_z z 10), kX0 kue kve (s_X11_takeBack_z z 11), aI y kve 3 (s_X11_takeBack_z z 12)] ++ kW y (rmT (tn (x 1)) ad) (uK (rmT (tn (x 1)) zk) (rmC (tn (x 1))) z) (rmT (tn (x 1)) ok) 14))) (va_A ([aJ y jq 1 jo] ++ ([kX11 h qt fh kh ch qh qs Z0, kX2 qh a x, aQ y a 14 (fun i => some (ad i 0)), kX7 kh kua kub kuc kud kue (z 0), kX3 kua kva (z 1), aI y kva 10 (z 2), kX1 kub (z 3), kX8 kuc kvc1 kvc2 kvc3 kvc4 kvc5 (z 4), aI y kvc1 20 (z 5), aI y kvc2 20 (z 6), aI y kvc3 20 (z 7), aI y kvc4 20 (z 8), aI y kvc5 20 o, kX10 kud kvd (z 9), aI y kvd 32 (z 10), kX0 kue kve (z 11), aI y kve 3 (z 12)] ++ kW y ad zk ok 14)) sz)) XN 1 6 (va_A ([aJ y jq 1 jo] ++ ([kX11 h qt fh kh ch qh qs Z0, kX2 qh a x, aQ y a 14 (fun i => some (ad i 0)), kX7 kh kua kub kuc kud kue (z 0), kX3 kua kva (z 1), aI y kva 10 (z 2), kX1 kub (z 3), kX8 kuc kvc1 kvc2 kvc3 kvc4 kvc5 (z 4), aI y kvc1 20 (z 5), aI y kvc2 20 (z 6), aI y kvc3 20 (z 7), aI y kvc4 20 (z 8), aI y kvc5 20 o, kX10 kud kvd (z 9), aI y kvd 32 (z 10), kX0 kue kve (z 11), aI y kve 3 (z 12)] ++ kW y ad zk ok 14)) sz) := by
  refine vx_ofWH (cc := cL_takeBack) (maxL := 3) (ret := (some .int)) (hh := [(0, 8, 11, 15)]) (by decide) rfl ?_
  intro p e s m args below meth c s₁ B hml hv
  obtain ⟨rfl, hsz, hP, ⟨hK, hN⟩, hD0, hTY⟩ := hv
  have hx := B.exec
  have hb := B.bytes
  have hr := B.returns
  have hts := atoms_spec (ws := wsL_takeBack) B.pre
  have hown : s.vm.findClass RL = some m.cls := findClass_of_methodNamed B.named
  have hlocks := B.notSynchronized
  have htb : c.exceptionTable.toList = tableOf [(0, 8, 11, 15)] := vx_table (x := yL_takeBack) B (hts (.codeWith yL_takeBack cL_takeBack 3 (some .int) [(0, 8, 11, 15)]) (List.mem_cons_self))
  subst hsz
  have hD := hD0.self (sz := s.heap.size)
  generalize hAe : va_A ([aJ y jq 1 jo] ++ ([kX11 h qt fh kh ch qh qs Z0, kX2 qh a x, aQ y a 14 (fun i => some (ad i 0)), kX7 kh kua kub kuc kud kue (z 0), kX3 kua kva (z 1), aI y kva 10 (z 2), kX1 kub (z 3), kX8 kuc kvc1 kvc2 kvc3 kvc4 kvc5 (z 4), aI y kvc1 20 (z 5), aI y kvc2 20 (z 6), aI y kvc3 20 (z 7), aI y kvc4 20 (z 8), aI y kvc5 20 o, kX10 kud kvd (z 9), aI y kvd 32 (z 10), kX0 kue kve (z 11), aI y kve 3 (z 12)] ++ kW y ad zk ok 14)) s.heap.size = A at hD hTY ⊢
  have hA : ∀ q : Nat, s.heap.size ≤ q → A q := fun q h => by rw [← hAe]; exact Or.inr h
  have hS : va_S A s.heap s.heap [] := va_S.rf
  have hP : va_P G vwCl ([aJ y jq 1 jo] ++ ([kX11 h qt fh kh ch qh qs Z0, kX2 qh a x, aQ y a 14 (fun i => some (ad i 0)), kX7 kh kua kub kuc kud kue (z 0), kX3 kua kva (z 1), aI y kva 10 (z 2), kX1 kub (z 3), kX8 kuc kvc1 kvc2 kvc3 kvc4 kvc5 (z 4), aI y kvc1 20 (z 5), aI y kvc2 20 (z 6), aI y kvc3 20 (z 7), aI y kvc4 20 (z 8), aI y kvc5 20 o, kX10 kud kvd (z 9), aI y kvd 32 (z 10), kX0 kue kve (z 11), aI y kve 3 (z 12)] ++ kW y ad zk ok 14)) s.heap := hP
  have hK4 : va_K G vwCl (tyG y) s := hK.sub (tys' := tyG y) [0, 1, 2, 3] rfl
  have hl := lv_entry ([.ref h, .ref jq]) (n := 3) (Nat.le_of_ble_eq_true rfl)
  rw [lg_entry_eq]
  generalize (lg_sl ([.ref h, .ref jq]) ++ List.replicate (3 - (lg_sl ([.ref h, .ref jq])).length) Slot.unset).toArray = ls at hl ⊢
  have hl : lv_has ls 3 [(0, .ref h), (1, .ref jq)] := hl
  obtain ⟨QQ, hQQ⟩ : ∃ zq9, zq9 = vx_MQ below (QHi G 0 (fun _ : Unit => ([aJ y jq 1 (vp_updL jo 0 ((s_X11_takeBack_r z)).toInt64)] ++ ([kX11 h qt fh kh ch qh qs Z0, kX2 qh a (upd x 1 (nI (rmC (tn (x 1)) + 1))), aQ y a 14 (fun i => some (rmT (tn (x 1)) ad i 0)), kX7 kh kua kub kuc kud kue (s_X11_takeBack_z z 0), kX3 kua kva (s_X11_takeBack_z z 1), aI y kva 10 (s_X11_takeBack_z z 2), kX1 kub (s_X11_takeBack_z z 3), kX8 kuc kvc1 kvc2 kvc3 kvc4 kvc5 (s_X11_takeBack_z z 4), aI y kvc1 20 (s_X11_takeBack_z z 5), aI y kvc2 20 (s_X11_takeBack_z z 6), aI y kvc3 20 (s_X11_takeBack_z z 7), aI y kvc4 20 (s_X11_takeBack_z z 8), aI y kvc5 20 o, kX10 kud kvd (s_X11_takeBack_z z 9), aI y kvd 32 (s_X11_takeBack_z z 10), kX0 kue kve (s_X11_takeBack_z z 11), aI y kve 3 (s_X11_takeBack_z z 12)] ++ kW y (rmT (tn (x 1)) ad) (uK (rmT (tn (x 1)) zk) (rmC (tn (x 1))) z) (rmT (tn (x 1)) ok) 14))) A) XN ([.ref h, .ref jq] : List Value).toArray s 1 6 A := ⟨_, rfl⟩
  rw [← hQQ]
  refine lv_aload_n hx hb dL_takeBack_0 rfl (lv_at hl 1 rfl) ?_
  refine lv_iconst (v := 0) hx hb dL_takeBack_1 (by decide) ?_
  refine lv_aload_n hx hb dL_takeBack_2 rfl (lv_at hl 0 rfl) ?_
  refine cl_X (wr := [aJ y jq 1 jo]) (wc := ([kX11 h qt fh kh ch qh qs Z0, kX2 qh a x, aQ y a 14 (fun i => some (ad i 0)), kX7 kh kua kub kuc kud kue (z 0), kX3 kua kva (z 1), aI y kva 10 (z 2), kX1 kub (z 3), kX8 kuc kvc1 kvc2 kvc3 kvc4 kvc5 (z 4), aI y kvc1 20 (z 5), aI y kvc2 20 (z 6), aI y kvc3 20 (z 7), aI y kvc4 20 (z 8), aI y kvc5 20 o, kX10 kud kvd (z 9), aI y kvd 32 (z 10), kX0 kue kve (z 11), aI y kve 3 (z 12)] ++ kW y ad zk ok 14)) (vx_runV (As := []) (rest := [.int 0, .ref jq]) ⟨hx, hb, hml, hown, hts⟩ (c_X11_takeBack l G y h qt fh kh ch qh qs a x kua kub kuc kud kue z kva kvc1 kvc2 kvc3 kvc4 kvc5 o kvd kve ad zk ok s.heap.size hc hrz hez hgz hfl) (cwV 0 hts gL_takeBack_X11_takeBack rfl rfl rfl (by decide +kernel) ⟨Nat.le_of_ble_eq_true rfl, Nat.le_of_ble_eq_true rfl⟩) (PHX_V (A0 := A) (P_r hP) hK4 hN (D_r hD) hTY.1 hS (F_r hD hS hA) (ci := 9) (q0 := 0) rfl rfl) rfl rfl hl.1 rfl (lv_room (Nat.le_of_ble_eq_true rfl)) dL_takeBack_3 ⟨Nat.le_of_ble_eq_true rfl, Nat.le_of_ble_eq_true rfl⟩) hP hD hS hA (fun E ce q9 u H locs hE hP hD hS hce hcv hcl => ?_) (fun u H locs hP hD hS => ?_)
  · exact (exC_0 hk0 hE).elim
  · refine lv_i2l (v := ((s_X11_takeBack_r z)).toInt64) hx hb dL_takeBack_6 rfl ?_
    refine as_o hx hb hK hP hD hS dL_takeBack_7 (fun H locs hP hD hS => ?_)
    refine lv_goto (tgt := 14) hx hb dL_takeBack_8 (by decide) ?_
    refine lv_iconst (v := 0) hx hb dL_takeBack_14 (by decide) ?_
    rw [hQQ]
    refine vx_ret ?_
    exact W.iret hx hb hr (end_Hi u.1 hP hD hS rfl rfl) hS.2.2 dL_takeBack_15
set_option maxHeartbeats 400000 in
set_option maxRecDepth 100000 in
theorem c_L_takeBack_n (l : Launch) (G : va_G) (y : Nat → ClassId) (h : Nat) (qt : Nat) (fh : Nat) (kh : Nat) (ch : Nat) (qh : Nat) (qs : Nat) (a : Nat) (x : Nat → Int32) (kua : Nat) (kub : Nat) (kuc : Nat) (kud : Nat) (kue : Nat) (z : Nat → Nat → Int32) (kva : Nat) (kvc1 : Nat) (kvc2 : Nat) (kvc3 : Nat) (kvc4 : Nat) (kvc5 : Nat) (o : Nat → Int32) (kvd : Nat) (kve : Nat) (ad : Nat → Nat → Nat) (zk : Nat → Nat → Nat → Int32) (ok : Nat → Nat → Int32) (jq : Nat) (jo : Nat → Int64) (sz : Nat) (hc : vp_in (x 1) 15) (hrz : z 3 7 = 0 ∨ z 3 7 = 1) (hez : z 3 10 = 0 ∨ z 3 10 = 1) (hgz : z 4 6 = 0 ∨ z 4 6 = 1) (hk0 : ¬ (s_X11_takeBack_k z) = 0) (hfl : l.stackTraces = false) : vx_Met l yL_takeBack wsL_takeBack rmL_takeBack (PHL G y [.ref h, .ref jq] ([aJ y jq 1 jo] ++ ([kX11 h qt fh kh ch qh qs Z0, kX2 qh a x, aQ y a 14 (fun i => some (ad i 0)), kX7 kh kua kub kuc kud kue (z 0), kX3 kua kva (z 1), aI y kva 10 (z 2), kX1 kub (z 3), kX8 kuc kvc1 kvc2 kvc3 kvc4 kvc5 (z 4), aI y kvc1 20 (z 5), aI y kvc2 20 (z 6), aI y kvc3 20 (z 7), aI y kvc4 20 (z 8), aI y kvc5 20 o, kX10 kud kvd (z 9), aI y kvd 32 (z 10), kX0 kue kve (z 11), aI y kve 3 (z 12)] ++ kW y ad zk ok 14)) sz) (QHi G (cdK 2 (s_X11_takeBack_k z)) (fun _ : Unit => ([aJ y jq 1 jo] ++ ([kX11 h qt fh kh ch qh qs Z0, kX2 qh a x, aQ y a 14 (fun i => some (ad i 0)), kX7 kh kua kub kuc kud kue (z 0), kX3 kua kva (z 1), aI y kva 10 (z 2), kX1 kub (z 3), kX8 kuc kvc1 kvc2 kvc3 kvc4 kvc5 (z 4), aI y kvc1 20 (z 5), aI y kvc2 20 (z 6), aI y kvc3 20 (z 7), aI y kvc4 20 (z 8), aI y kvc5 20 o, kX10 kud kvd (z 9), aI y kvd 32 (z 10), kX0 kue kve (z 11), aI y kve 3 (z 12)] ++ kW y ad zk ok 14))) (va_A ([aJ y jq 1 jo] ++ ([kX11 h qt fh kh ch qh qs Z0, kX2 qh a x, aQ y a 14 (fun i => some (ad i 0)), kX7 kh kua kub kuc kud kue (z 0), kX3 kua kva (z 1), aI y kva 10 (z 2), kX1 kub (z 3), kX8 kuc kvc1 kvc2 kvc3 kvc4 kvc5 (z 4), aI y kvc1 20 (z 5), aI y kvc2 20 (z 6), aI y kvc3 20 (z 7), aI y kvc4 20 (z 8), aI y kvc5 20 o, kX10 kud kvd (z 9), aI y kvd 32 (z 10), kX0 kue kve (z 11), aI y kve 3 (z 12)] ++ kW y ad zk ok 14)) sz)) XN 1 6 (va_A ([aJ y jq 1 jo] ++ ([kX11 h qt fh kh ch qh qs Z0, kX2 qh a x, aQ y a 14 (fun i => some (ad i 0)), kX7 kh kua kub kuc kud kue (z 0), kX3 kua kva (z 1), aI y kva 10 (z 2), kX1 kub (z 3), kX8 kuc kvc1 kvc2 kvc3 kvc4 kvc5 (z 4), aI y kvc1 20 (z 5), aI y kvc2 20 (z 6), aI y kvc3 20 (z 7), aI y kvc4 20 (z 8), aI y kvc5 20 o, kX10 kud kvd (z 9), aI y kvd 32 (z 10), kX0 kue kve (z 11), aI y kve 3 (z 12)] ++ kW y ad zk ok 14)) sz) := by
  refine vx_ofWH (cc := cL_takeBack) (maxL := 3) (ret := (some .int)) (hh := [(0, 8, 11, 15)]) (by decide) rfl ?_
  intro p e s m args below meth c s₁ B hml hv
  obtain ⟨rfl, hsz, hP, ⟨hK, hN⟩, hD0, hTY⟩ := hv
  have hx := B.exec
  have hb := B.bytes
  have hr := B.returns
  have hts := atoms_spec (ws := wsL_takeBack) B.pre
  have hown : s.vm.findClass RL = some m.cls := findClass_of_methodNamed B.named
  have hlocks := B.notSynchronized
  have htb : c.exceptionTable.toList = tableOf [(0, 8, 11, 15)] := vx_table (x := yL_takeBack) B (hts (.codeWith yL_takeBack cL_takeBack 3 (some .int) [(0, 8, 11, 15)]) (List.mem_cons_self))
  subst hsz
  have hD := hD0.self (sz := s.heap.size)
  generalize hAe : va_A ([aJ y jq 1 jo] ++ ([kX11 h qt fh kh ch qh qs Z0, kX2 qh a x, aQ y a 14 (fun i => some (ad i 0)), kX7 kh kua kub kuc kud kue (z 0), kX3 kua kva (z 1), aI y kva 10 (z 2), kX1 kub (z 3), kX8 kuc kvc1 kvc2 kvc3 kvc4 kvc5 (z 4), aI y kvc1 20 (z 5), aI y kvc2 20 (z 6), aI y kvc3 20 (z 7), aI y kvc4 20 (z 8), aI y kvc5 20 o, kX10 kud kvd (z 9), aI y kvd 32 (z 10), kX0 kue kve (z 11), aI y kve 3 (z 12)] ++ kW y ad zk ok 14)) s.heap.size = A at hD hTY ⊢
  have hA : ∀ q : Nat, s.heap.size ≤ q → A q := fun q h => by rw [← hAe]; exact Or.inr h
  have hS : va_S A s.heap s.heap [] := va_S.rf
  have hP : va_P G vwCl ([aJ y jq 1 jo] ++ ([kX11 h qt fh kh ch qh qs Z0, kX2 qh a x, aQ y a 14 (fun i => some (ad i 0)), kX7 kh kua kub kuc kud kue (z 0), kX3 kua kva (z 1), aI y kva 10 (z 2), kX1 kub (z 3), kX8 kuc kvc1 kvc2 kvc3 kvc4 kvc5 (z 4), aI y kvc1 20 (z 5), aI y kvc2 20 (z 6), aI y kvc3 20 (z 7), aI y kvc4 20 (z 8), aI y kvc5 20 o, kX10 kud kvd (z 9), aI y kvd 32 (z 10), kX0 kue kve (z 11), aI y kve 3 (z 12)] ++ kW y ad zk ok 14)) s.heap := hP
  have hK4 : va_K G vwCl (tyG y) s := hK.sub (tys' := tyG y) [0, 1, 2, 3] rfl
  have hl := lv_entry ([.ref h, .ref jq]) (n := 3) (Nat.le_of_ble_eq_true rfl)
  rw [lg_entry_eq]
  generalize (lg_sl ([.ref h, .ref jq]) ++ List.replicate (3 - (lg_sl ([.ref h, .ref jq])).length) Slot.unset).toArray = ls at hl ⊢
  have hl : lv_has ls 3 [(0, .ref h), (1, .ref jq)] := hl
  obtain ⟨QQ, hQQ⟩ : ∃ zq9, zq9 = vx_MQ below (QHi G (cdK 2 (s_X11_takeBack_k z)) (fun _ : Unit => ([aJ y jq 1 jo] ++ ([kX11 h qt fh kh ch qh qs Z0, kX2 qh a x, aQ y a 14 (fun i => some (ad i 0)), kX7 kh kua kub kuc kud kue (z 0), kX3 kua kva (z 1), aI y kva 10 (z 2), kX1 kub (z 3), kX8 kuc kvc1 kvc2 kvc3 kvc4 kvc5 (z 4), aI y kvc1 20 (z 5), aI y kvc2 20 (z 6), aI y kvc3 20 (z 7), aI y kvc4 20 (z 8), aI y kvc5 20 o, kX10 kud kvd (z 9), aI y kvd 32 (z 10), kX0 kue kve (z 11), aI y kve 3 (z 12)] ++ kW y ad zk ok 14))) A) XN ([.ref h, .ref jq] : List Value).toArray s 1 6 A := ⟨_, rfl⟩
  rw [← hQQ]
  refine lv_aload_n hx hb dL_takeBack_0 rfl (lv_at hl 1 rfl) ?_
  refine lv_iconst (v := 0) hx hb dL_takeBack_1 (by decide) ?_
  refine lv_aload_n hx hb dL_takeBack_2 rfl (lv_at hl 0 rfl) ?_
  refine cl_X (wr := [aJ y jq 1 jo]) (wc := ([kX11 h qt fh kh ch qh qs Z0, kX2 qh a x, aQ y a 14 (fun i => some (ad i 0)), kX7 kh kua kub kuc kud kue (z 0), kX3 kua kva (z 1), aI y kva 10 (z 2), kX1 kub (z 3), kX8 kuc kvc1 kvc2 kvc3 kvc4 kvc5 (z 4), aI y kvc1 20 (z 5), aI y kvc2 20 (z 6), aI y kvc3 20 (z 7), aI y kvc4 20 (z 8), aI y kvc5 20 o, kX10 kud kvd (z 9), aI y kvd 32 (z 10), kX0 kue kve (z 11), aI y kve 3 (z 12)] ++ kW y ad zk ok 14)) (vx_runV (As := []) (rest := [.int 0, .ref jq]) ⟨hx, hb, hml, hown, hts⟩ (c_X11_takeBack l G y h qt fh kh ch qh qs a x kua kub kuc kud kue z kva kvc1 kvc2 kvc3 kvc4 kvc5 o kvd kve ad zk ok s.heap.size hc hrz hez hgz hfl) (cwV 0 hts gL_takeBack_X11_takeBack rfl rfl rfl (by decide +kernel) ⟨Nat.le_of_ble_eq_true rfl, Nat.le_of_ble_eq_true rfl⟩) (PHX_V (A0 := A) (P_r hP) hK4 hN (D_r hD) hTY.1 hS (F_r hD hS hA) (ci := 9) (q0 := 0) rfl rfl) rfl rfl hl.1 rfl (lv_room (Nat.le_of_ble_eq_true rfl)) dL_takeBack_3 ⟨Nat.le_of_ble_eq_true rfl, Nat.le_of_ble_eq_true rfl⟩) hP hD hS hA (fun E ce q9 u H locs hE hP hD hS hce hcv hcl => ?_) (fun u H locs hP hD hS => ?_)
  · rcases hE with ⟨rfl, hE⟩ | ⟨rfl, hE⟩ | ⟨rfl, hE⟩
    · rcases kx_takeBack z with k9 | k9
      · exact absurd (hE.trans k9) (by decide)
      · exact absurd (hE.trans k9) (by decide)
    · refine vx_catch hown [] ⟨0, 8, 11, 15⟩ [] (htb.trans rfl) (fun z hz => by cases hz) (by decide) (by decide) (hts (.classLink RL 15 "java/lang/IllegalStateException") (by decide +kernel)) (va_Nw.use rfl (hTY.1.2.1 _ mIS)) hce hcv hcl ?_
      refine lv_astore_n (lv' := [(2, .ref q9), (0, .ref h), (1, .ref jq)]) hx hb dL_takeBack_11 rfl hl (by decide) rfl (fun ls hl => ?_)
      refine lv_iconst (v := 1) hx hb dL_takeBack_12 (by decide) ?_
      rw [hQQ]
      refine vx_ret ?_
      exact W.iret hx hb hr (end_Hi u hP hD hS (cd_1 hE (by decide)) rfl) hS.2.2 dL_takeBack_13
    · rcases kx_takeBack z with k9 | k9
      · exact absurd (hE.trans k9) (by decide)
      · exact absurd (hE.trans k9) (by decide)
  · exact absurd u.2 hk0
theorem kx_undo (x : Nat → Int32) : s_X11_undo_k x = 0 ∨ s_X11_undo_k x = 2 := by
  unfold s_X11_undo_k
  exact k_ite (Q := (fun x : Int32 => x = 0 ∨ x = 2)) (Or.inr rfl) (Or.inl rfl)
abbrev rmL_undo : Room := ({ frames := 7, cells := 1, slots := 6, locals := 143 } : Room)
set_option maxHeartbeats 400000 in
set_option maxRecDepth 100000 in
theorem c_L_undo_y (l : Launch) (G : va_G) (y : Nat → ClassId) (h : Nat) (qt : Nat) (fh : Nat) (kh : Nat) (ch : Nat) (qh : Nat) (qs : Nat) (a : Nat) (x : Nat → Int32) (kua : Nat) (kub : Nat) (kuc : Nat) (kud : Nat) (kue : Nat) (z : Nat → Nat → Int32) (kva : Nat) (kvc1 : Nat) (kvc2 : Nat) (kvc3 : Nat) (kvc4 : Nat) (kvc5 : Nat) (o : Nat → Int32) (kvd : Nat) (kve : Nat) (ad : Nat → Nat → Nat) (zk : Nat → Nat → Nat → Int32) (ok : Nat → Nat → Int32) (jq : Nat) (jo : Nat → Int64) (sz : Nat) (hc : vp_in (x 1) 15) (hrzk : (zk (tn (x 1) - 1)) 3 7 = 0 ∨ (zk (tn (x 1) - 1)) 3 7 = 1) (hezk : (zk (tn (x 1) - 1)) 3 10 = 0 ∨ (zk (tn (x 1) - 1)) 3 10 = 1) (hgzk : (zk (tn (x 1) - 1)) 4 6 = 0 ∨ (zk (tn (x 1) - 1)) 4 6 = 1) (hk0 : (s_X11_undo_k x) = 0) (hfl : l.stackTraces = false) : vx_Met l yL_undo wsL_undo rmL_undo (PHL G y [.ref h, .ref jq] ([aJ y jq 1 jo] ++ ([kX11 h qt fh kh ch qh qs Z0, kX2 qh a x, aQ y a 14 (fun i => some (ad i 0)), kX7 kh kua kub kuc kud kue (z 0), kX3 kua kva (z 1), aI y kva 10 (z 2), kX1 kub (z 3), kX8 kuc kvc1 kvc2 kvc3 kvc4 kvc5 (z 4), aI y kvc1 20 (z 5), aI y kvc2 20 (z 6), aI y kvc3 20 (z 7), aI y kvc4 20 (z 8), aI y kvc5 20 o, kX10 kud kvd (z 9), aI y kvd 32 (z 10), kX0 kue kve (z 11), aI y kve 3 (z 12)] ++ kW y ad zk ok 14)) sz) (QHi G 0 (fun _ : Unit => ([aJ y jq 1 (vp_updL jo 0 ((s_X11_undo_r x)).toInt64)] ++ ([kX11 h qt fh kh ch qh qs Z0, kX2 qh a (s_X11_undo_w1 x), aQ y a 14 (fun i => some (ad i 0)), kX7 kh kua kub kuc kud kue (zk (tn (x 1) - 1) 0), kX3 kua kva (zk (tn (x 1) - 1) 1), aI y kva 10 (zk (tn (x 1) - 1) 2), kX1 kub (zk (tn (x 1) - 1) 3), kX8 kuc kvc1 kvc2 kvc3 kvc4 kvc5 (zk (tn (x 1) - 1) 4), aI y kvc1 20 (zk (tn (x 1) - 1) 5), aI y kvc2 20 (zk (tn (x 1) - 1) 6), aI y kvc3 20 (zk (tn (x 1) - 1) 7), aI y kvc4 20 (zk (tn (x 1) - 1) 8), aI y kvc5 20 o, kX10 kud kvd (zk (tn (x 1) - 1) 9), aI y kvd 32 (zk (tn (x 1) - 1) 10), kX0 kue kve (zk (tn (x 1) - 1) 11), aI y kve 3 (zk (tn (x 1) - 1) 12)] ++ kW y ad zk ok 14))) (va_A ([aJ y jq 1 jo] ++ ([kX11 h qt fh kh ch qh qs Z0, kX2 qh a x, aQ y a 14 (fun i => some (ad i 0)), kX7 kh kua kub kuc kud kue (z 0), kX3 kua kva (z 1), aI y kva 10 (z 2), kX1 kub (z 3), kX8 kuc kvc1 kvc2 kvc3 kvc4 kvc5 (z 4), aI y kvc1 20 (z 5), aI y kvc2 20 (z 6), aI y kvc3 20 (z 7), aI y kvc4 20 (z 8), aI y kvc5 20 o, kX10 kud kvd (z 9), aI y kvd 32 (z 10), kX0 kue kve (z 11), aI y kve 3 (z 12)] ++ kW y ad zk ok 14)) sz)) XN 1 6 (va_A ([aJ y jq 1 jo] ++ ([kX11 h qt fh kh ch qh qs Z0, kX2 qh a x, aQ y a 14 (fun i => some (ad i 0)), kX7 kh kua kub kuc kud kue (z 0), kX3 kua kva (z 1), aI y kva 10 (z 2), kX1 kub (z 3), kX8 kuc kvc1 kvc2 kvc3 kvc4 kvc5 (z 4), aI y kvc1 20 (z 5), aI y kvc2 20 (z 6), aI y kvc3 20 (z 7), aI y kvc4 20 (z 8), aI y kvc5 20 o, kX10 kud kvd (z 9), aI y kvd 32 (z 10), kX0 kue kve (z 11), aI y kve 3 (z 12)] ++ kW y ad zk ok 14)) sz) := by
  refine vx_ofWH (cc := cL_undo) (maxL := 3) (ret := (some .int)) (hh := [(0, 8, 11, 15)]) (by decide) rfl ?_
  intro p e s m args below meth c s₁ B hml hv
  obtain ⟨rfl, hsz, hP, ⟨hK, hN⟩, hD0, hTY⟩ := hv
  have hx := B.exec
  have hb := B.bytes
  have hr := B.returns
  have hts := atoms_spec (ws := wsL_undo) B.pre
  have hown : s.vm.findClass RL = some m.cls := findClass_of_methodNamed B.named
  have hlocks := B.notSynchronized
  have htb : c.exceptionTable.toList = tableOf [(0, 8, 11, 15)] := vx_table (x := yL_undo) B (hts (.codeWith yL_undo cL_undo 3 (some .int) [(0, 8, 11, 15)]) (List.mem_cons_self))
  subst hsz
  have hD := hD0.self (sz := s.heap.size)
  generalize hAe : va_A ([aJ y jq 1 jo] ++ ([kX11 h qt fh kh ch qh qs Z0, kX2 qh a x, aQ y a 14 (fun i => some (ad i 0)), kX7 kh kua kub kuc kud kue (z 0), kX3 kua kva (z 1), aI y kva 10 (z 2), kX1 kub (z 3), kX8 kuc kvc1 kvc2 kvc3 kvc4 kvc5 (z 4), aI y kvc1 20 (z 5), aI y kvc2 20 (z 6), aI y kvc3 20 (z 7), aI y kvc4 20 (z 8), aI y kvc5 20 o, kX10 kud kvd (z 9), aI y kvd 32 (z 10), kX0 kue kve (z 11), aI y kve 3 (z 12)] ++ kW y ad zk ok 14)) s.heap.size = A at hD hTY ⊢
  have hA : ∀ q : Nat, s.heap.size ≤ q → A q := fun q h => by rw [← hAe]; exact Or.inr h
  have hS : va_S A s.heap s.heap [] := va_S.rf
  have hP : va_P G vwCl ([aJ y jq 1 jo] ++ ([kX11 h qt fh kh ch qh qs Z0, kX2 qh a x, aQ y a 14 (fun i => some (ad i 0)), kX7 kh kua kub kuc kud kue (z 0), kX3 kua kva (z 1), aI y kva 10 (z 2), kX1 kub (z 3), kX8 kuc kvc1 kvc2 kvc3 kvc4 kvc5 (z 4), aI y kvc1 20 (z 5), aI y kvc2 20 (z 6), aI y kvc3 20 (z 7), aI y kvc4 20 (z 8), aI y kvc5 20 o, kX10 kud kvd (z 9), aI y kvd 32 (z 10), kX0 kue kve (z 11), aI y kve 3 (z 12)] ++ kW y ad zk ok 14)) s.heap := hP
  have hK4 : va_K G vwCl (tyG y) s := hK.sub (tys' := tyG y) [0, 1, 2, 3] rfl
  have hl := lv_entry ([.ref h, .ref jq]) (n := 3) (Nat.le_of_ble_eq_true rfl)
  rw [lg_entry_eq]
  generalize (lg_sl ([.ref h, .ref jq]) ++ List.replicate (3 - (lg_sl ([.ref h, .ref jq])).length) Slot.unset).toArray = ls at hl ⊢
  have hl : lv_has ls 3 [(0, .ref h), (1, .ref jq)] := hl
  obtain ⟨QQ, hQQ⟩ : ∃ zq9, zq9 = vx_MQ below (QHi G 0 (fun _ : Unit => ([aJ y jq 1 (vp_updL jo 0 ((s_X11_undo_r x)).toInt64)] ++ ([kX11 h qt fh kh ch qh qs Z0, kX2 qh a (s_X11_undo_w1 x), aQ y a 14 (fun i => some (ad i 0)), kX7 kh kua kub kuc kud kue (zk (tn (x 1) - 1) 0), kX3 kua kva (zk (tn (x 1) - 1) 1), aI y kva 10 (zk (tn (x 1) - 1) 2), kX1 kub (zk (tn (x 1) - 1) 3), kX8 kuc kvc1 kvc2 kvc3 kvc4 kvc5 (zk (tn (x 1) - 1) 4), aI y kvc1 20 (zk (tn (x 1) - 1) 5), aI y kvc2 20 (zk (tn (x 1) - 1) 6), aI y kvc3 20 (zk (tn (x 1) - 1) 7), aI y kvc4 20 (zk (tn (x 1) - 1) 8), aI y kvc5 20 o, kX10 kud kvd (zk (tn (x 1) - 1) 9), aI y kvd 32 (zk (tn (x 1) - 1) 10), kX0 kue kve (zk (tn (x 1) - 1) 11), aI y kve 3 (zk (tn (x 1) - 1) 12)] ++ kW y ad zk ok 14))) A) XN ([.ref h, .ref jq] : List Value).toArray s 1 6 A := ⟨_, rfl⟩
  rw [← hQQ]
  refine lv_aload_n hx hb dL_undo_0 rfl (lv_at hl 1 rfl) ?_
  refine lv_iconst (v := 0) hx hb dL_undo_1 (by decide) ?_
  refine lv_aload_n hx hb dL_undo_2 rfl (lv_at hl 0 rfl) ?_
  refine cl_X (wr := [aJ y jq 1 jo]) (wc := ([kX11 h qt fh kh ch qh qs Z0, kX2 qh a x, aQ y a 14 (fun i => some (ad i 0)), kX7 kh kua kub kuc kud kue (z 0), kX3 kua kva (z 1), aI y kva 10 (z 2), kX1 kub (z 3), kX8 kuc kvc1 kvc2 kvc3 kvc4 kvc5 (z 4), aI y kvc1 20 (z 5), aI y kvc2 20 (z 6), aI y kvc3 20 (z 7), aI y kvc4 20 (z 8), aI y kvc5 20 o, kX10 kud kvd (z 9), aI y kvd 32 (z 10), kX0 kue kve (z 11), aI y kve 3 (z 12)] ++ kW y ad zk ok 14)) (vx_runV (As := []) (rest := [.int 0, .ref jq]) ⟨hx, hb, hml, hown, hts⟩ (c_X11_undo l G y h qt fh kh ch qh qs a x kua kub kuc kud kue z kva kvc1 kvc2 kvc3 kvc4 kvc5 o kvd kve ad zk ok s.heap.size hc hrzk hezk hgzk hfl) (cwV 0 hts gL_undo_X11_undo rfl rfl rfl (by decide +kernel) ⟨Nat.le_of_ble_eq_true rfl, Nat.le_of_ble_eq_true rfl⟩) (PHX_V (A0 := A) (P_r hP) hK4 hN (D_r hD) hTY.1 hS (F_r hD hS hA) (ci := 9) (q0 := 0) rfl rfl) rfl rfl hl.1 rfl (lv_room (Nat.le_of_ble_eq_true rfl)) dL_undo_3 ⟨Nat.le_of_ble_eq_true rfl, Nat.le_of_ble_eq_true rfl⟩) hP hD hS hA (fun E ce q9 u H locs hE hP hD hS hce hcv hcl => ?_) (fun u H locs hP hD hS => ?_)
  · exact (exC_0 hk0 hE).elim
  · refine lv_i2l (v := ((s_X11_undo_r x)).toInt64) hx hb dL_undo_6 rfl ?_
    refine as_o hx hb hK hP hD hS dL_undo_7 (fun H locs hP hD hS => ?_)
    refine lv_goto (tgt := 14) hx hb dL_undo_8 (by decide) ?_
    refine lv_iconst (v := 0) hx hb dL_undo_14 (by decide) ?_
    rw [hQQ]
    refine vx_ret ?_
    exact W.iret hx hb hr (end_Hi u.1 hP hD hS rfl rfl) hS.2.2 dL_undo_15
set_option maxHeartbeats 400000 in
set_option maxRecDepth 100000 in
theorem c_L_undo_n (l : Launch) (G : va_G) (y : Nat → ClassId) (h : Nat) (qt : Nat) (fh : Nat) (kh : Nat) (ch : Nat) (qh : Nat) (qs : Nat) (a : Nat) (x : Nat → Int32) (kua : Nat) (kub : Nat) (kuc : Nat) (kud : Nat) (kue : Nat) (z : Nat → Nat → Int32) (kva : Nat) (kvc1 : Nat) (kvc2 : Nat) (kvc3 : Nat) (kvc4 : Nat) (kvc5 : Nat) (o : Nat → Int32) (kvd : Nat) (kve : Nat) (ad : Nat → Nat → Nat) (zk : Nat → Nat → Nat → Int32) (ok : Nat → Nat → Int32) (jq : Nat) (jo : Nat → Int64) (sz : Nat) (hc : vp_in (x 1) 15) (hrzk : (zk (tn (x 1) - 1)) 3 7 = 0 ∨ (zk (tn (x 1) - 1)) 3 7 = 1) (hezk : (zk (tn (x 1) - 1)) 3 10 = 0 ∨ (zk (tn (x 1) - 1)) 3 10 = 1) (hgzk : (zk (tn (x 1) - 1)) 4 6 = 0 ∨ (zk (tn (x 1) - 1)) 4 6 = 1) (hk0 : ¬ (s_X11_undo_k x) = 0) (hfl : l.stackTraces = false) : vx_Met l yL_undo wsL_undo rmL_undo (PHL G y [.ref h, .ref jq] ([aJ y jq 1 jo] ++ ([kX11 h qt fh kh ch qh qs Z0, kX2 qh a x, aQ y a 14 (fun i => some (ad i 0)), kX7 kh kua kub kuc kud kue (z 0), kX3 kua kva (z 1), aI y kva 10 (z 2), kX1 kub (z 3), kX8 kuc kvc1 kvc2 kvc3 kvc4 kvc5 (z 4), aI y kvc1 20 (z 5), aI y kvc2 20 (z 6), aI y kvc3 20 (z 7), aI y kvc4 20 (z 8), aI y kvc5 20 o, kX10 kud kvd (z 9), aI y kvd 32 (z 10), kX0 kue kve (z 11), aI y kve 3 (z 12)] ++ kW y ad zk ok 14)) sz) (QHi G (cdK 2 (s_X11_undo_k x)) (fun _ : Unit => ([aJ y jq 1 jo] ++ ([kX11 h qt fh kh ch qh qs Z0, kX2 qh a x, aQ y a 14 (fun i => some (ad i 0)), kX7 kh kua kub kuc kud kue (z 0), kX3 kua kva (z 1), aI y kva 10 (z 2), kX1 kub (z 3), kX8 kuc kvc1 kvc2 kvc3 kvc4 kvc5 (z 4), aI y kvc1 20 (z 5), aI y kvc2 20 (z 6), aI y kvc3 20 (z 7), aI y kvc4 20 (z 8), aI y kvc5 20 o, kX10 kud kvd (z 9), aI y kvd 32 (z 10), kX0 kue kve (z 11), aI y kve 3 (z 12)] ++ kW y ad zk ok 14))) (va_A ([aJ y jq 1 jo] ++ ([kX11 h qt fh kh ch qh qs Z0, kX2 qh a x, aQ y a 14 (fun i => some (ad i 0)), kX7 kh kua kub kuc kud kue (z 0), kX3 kua kva (z 1), aI y kva 10 (z 2), kX1 kub (z 3), kX8 kuc kvc1 kvc2 kvc3 kvc4 kvc5 (z 4), aI y kvc1 20 (z 5), aI y kvc2 20 (z 6), aI y kvc3 20 (z 7), aI y kvc4 20 (z 8), aI y kvc5 20 o, kX10 kud kvd (z 9), aI y kvd 32 (z 10), kX0 kue kve (z 11), aI y kve 3 (z 12)] ++ kW y ad zk ok 14)) sz)) XN 1 6 (va_A ([aJ y jq 1 jo] ++ ([kX11 h qt fh kh ch qh qs Z0, kX2 qh a x, aQ y a 14 (fun i => some (ad i 0)), kX7 kh kua kub kuc kud kue (z 0), kX3 kua kva (z 1), aI y kva 10 (z 2), kX1 kub (z 3), kX8 kuc kvc1 kvc2 kvc3 kvc4 kvc5 (z 4), aI y kvc1 20 (z 5), aI y kvc2 20 (z 6), aI y kvc3 20 (z 7), aI y kvc4 20 (z 8), aI y kvc5 20 o, kX10 kud kvd (z 9), aI y kvd 32 (z 10), kX0 kue kve (z 11), aI y kve 3 (z 12)] ++ kW y ad zk ok 14)) sz) := by
  refine vx_ofWH (cc := cL_undo) (maxL := 3) (ret := (some .int)) (hh := [(0, 8, 11, 15)]) (by decide) rfl ?_
  intro p e s m args below meth c s₁ B hml hv
  obtain ⟨rfl, hsz, hP, ⟨hK, hN⟩, hD0, hTY⟩ := hv
  have hx := B.exec
  have hb := B.bytes
  have hr := B.returns
  have hts := atoms_spec (ws := wsL_undo) B.pre
  have hown : s.vm.findClass RL = some m.cls := findClass_of_methodNamed B.named
  have hlocks := B.notSynchronized
  have htb : c.exceptionTable.toList = tableOf [(0, 8, 11, 15)] := vx_table (x := yL_undo) B (hts (.codeWith yL_undo cL_undo 3 (some .int) [(0, 8, 11, 15)]) (List.mem_cons_self))
  subst hsz
  have hD := hD0.self (sz := s.heap.size)
  generalize hAe : va_A ([aJ y jq 1 jo] ++ ([kX11 h qt fh kh ch qh qs Z0, kX2 qh a x, aQ y a 14 (fun i => some (ad i 0)), kX7 kh kua kub kuc kud kue (z 0), kX3 kua kva (z 1), aI y kva 10 (z 2), kX1 kub (z 3), kX8 kuc kvc1 kvc2 kvc3 kvc4 kvc5 (z 4), aI y kvc1 20 (z 5), aI y kvc2 20 (z 6), aI y kvc3 20 (z 7), aI y kvc4 20 (z 8), aI y kvc5 20 o, kX10 kud kvd (z 9), aI y kvd 32 (z 10), kX0 kue kve (z 11), aI y kve 3 (z 12)] ++ kW y ad zk ok 14)) s.heap.size = A at hD hTY ⊢
  have hA : ∀ q : Nat, s.heap.size ≤ q → A q := fun q h => by rw [← hAe]; exact Or.inr h
  have hS : va_S A s.heap s.heap [] := va_S.rf
  have hP : va_P G vwCl ([aJ y jq 1 jo] ++ ([kX11 h qt fh kh ch qh qs Z0, kX2 qh a x, aQ y a 14 (fun i => some (ad i 0)), kX7 kh kua kub kuc kud kue (z 0), kX3 kua kva (z 1), aI y kva 10 (z 2), kX1 kub (z 3), kX8 kuc kvc1 kvc2 kvc3 kvc4 kvc5 (z 4), aI y kvc1 20 (z 5), aI y kvc2 20 (z 6), aI y kvc3 20 (z 7), aI y kvc4 20 (z 8), aI y kvc5 20 o, kX10 kud kvd (z 9), aI y kvd 32 (z 10), kX0 kue kve (z 11), aI y kve 3 (z 12)] ++ kW y ad zk ok 14)) s.heap := hP
  have hK4 : va_K G vwCl (tyG y) s := hK.sub (tys' := tyG y) [0, 1, 2, 3] rfl
  have hl := lv_entry ([.ref h, .ref jq]) (n := 3) (Nat.le_of_ble_eq_true rfl)
  rw [lg_entry_eq]
  generalize (lg_sl ([.ref h, .ref jq]) ++ List.replicate (3 - (lg_sl ([.ref h, .ref jq])).length) Slot.unset).toArray = ls at hl ⊢
  have hl : lv_has ls 3 [(0, .ref h), (1, .ref jq)] := hl
  obtain ⟨QQ, hQQ⟩ : ∃ zq9, zq9 = vx_MQ below (QHi G (cdK 2 (s_X11_undo_k x)) (fun _ : Unit => ([aJ y jq 1 jo] ++ ([kX11 h qt fh kh ch qh qs Z0, kX2 qh a x, aQ y a 14 (fun i => some (ad i 0)), kX7 kh kua kub kuc kud kue (z 0), kX3 kua kva (z 1), aI y kva 10 (z 2), kX1 kub (z 3), kX8 kuc kvc1 kvc2 kvc3 kvc4 kvc5 (z 4), aI y kvc1 20 (z 5), aI y kvc2 20 (z 6), aI y kvc3 20 (z 7), aI y kvc4 20 (z 8), aI y kvc5 20 o, kX10 kud kvd (z 9), aI y kvd 32 (z 10), kX0 kue kve (z 11), aI y kve 3 (z 12)] ++ kW y ad zk ok 14))) A) XN ([.ref h, .ref jq] : List Value).toArray s 1 6 A := ⟨_, rfl⟩
  rw [← hQQ]
  refine lv_aload_n hx hb dL_undo_0 rfl (lv_at hl 1 rfl) ?_
  refine lv_iconst (v := 0) hx hb dL_undo_1 (by decide) ?_
  refine lv_aload_n hx hb dL_undo_2 rfl (lv_at hl 0 rfl) ?_
  refine cl_X (wr := [aJ y jq 1 jo]) (wc := ([kX11 h qt fh kh ch qh qs Z0, kX2 qh a x, aQ y a 14 (fun i => some (ad i 0)), kX7 kh kua kub kuc kud kue (z 0), kX3 kua kva (z 1), aI y kva 10 (z 2), kX1 kub (z 3), kX8 kuc kvc1 kvc2 kvc3 kvc4 kvc5 (z 4), aI y kvc1 20 (z 5), aI y kvc2 20 (z 6), aI y kvc3 20 (z 7), aI y kvc4 20 (z 8), aI y kvc5 20 o, kX10 kud kvd (z 9), aI y kvd 32 (z 10), kX0 kue kve (z 11), aI y kve 3 (z 12)] ++ kW y ad zk ok 14)) (vx_runV (As := []) (rest := [.int 0, .ref jq]) ⟨hx, hb, hml, hown, hts⟩ (c_X11_undo l G y h qt fh kh ch qh qs a x kua kub kuc kud kue z kva kvc1 kvc2 kvc3 kvc4 kvc5 o kvd kve ad zk ok s.heap.size hc hrzk hezk hgzk hfl) (cwV 0 hts gL_undo_X11_undo rfl rfl rfl (by decide +kernel) ⟨Nat.le_of_ble_eq_true rfl, Nat.le_of_ble_eq_true rfl⟩) (PHX_V (A0 := A) (P_r hP) hK4 hN (D_r hD) hTY.1 hS (F_r hD hS hA) (ci := 9) (q0 := 0) rfl rfl) rfl rfl hl.1 rfl (lv_room (Nat.le_of_ble_eq_true rfl)) dL_undo_3 ⟨Nat.le_of_ble_eq_true rfl, Nat.le_of_ble_eq_true rfl⟩) hP hD hS hA (fun E ce q9 u H locs hE hP hD hS hce hcv hcl => ?_) (fun u H locs hP hD hS => ?_)
  · rcases hE with ⟨rfl, hE⟩ | ⟨rfl, hE⟩ | ⟨rfl, hE⟩
    · rcases kx_undo x with k9 | k9
      · exact absurd (hE.trans k9) (by decide)
      · exact absurd (hE.trans k9) (by decide)
    · refine vx_catch hown [] ⟨0, 8, 11, 15⟩ [] (htb.trans rfl) (fun z hz => by cases hz) (by decide) (by decide) (hts (.classLink RL 15 "java/lang/IllegalStateException") (by decide +kernel)) (va_Nw.use rfl (hTY.1.2.1 _ mIS)) hce hcv hcl ?_
      refine lv_astore_n (lv' := [(2, .ref q9), (0, .ref h), (1, .ref jq)]) hx hb dL_undo_11 rfl hl (by decide) rfl (fun ls hl => ?_)
      refine lv_iconst (v := 1) hx hb dL_undo_12 (by decide) ?_
      rw [hQQ]
      refine vx_ret ?_
      exact W.iret hx hb hr (end_Hi u hP hD hS (cd_1 hE (by decide)) rfl) hS.2.2 dL_undo_13
    · rcases kx_undo x with k9 | k9
      · exact absurd (hE.trans k9) (by decide)
      · exact absurd (hE.trans k9) (by decide)
  · exact absurd u.2 hk0
theorem kx_proposal (a1 : Int32) (a2 : Int32) : s_X11_proposal_k a1 a2 = 0 ∨ s_X11_proposal_k a1 a2 = 1 ∨ s_X11_proposal_k a1 a2 = 3 := by
  unfold s_X11_proposal_k
  exact k_ite (Q := (fun x : Int32 => x = 0 ∨ x = 1 ∨ x = 3)) (Or.inr (Or.inr rfl)) (k_ite (Q := (fun x : Int32 => x = 0 ∨ x = 1 ∨ x = 3)) (Or.inr (Or.inl rfl)) (k_ite (Q := (fun x : Int32 => x = 0 ∨ x = 1 ∨ x = 3)) (Or.inl rfl) (Or.inr (Or.inl rfl))))
abbrev rmL_proposal : Room := ({ frames := 7, cells := 1, slots := 6, locals := 120 } : Room)
set_option maxHeartbeats 400000 in
set_option maxRecDepth 100000 in
theorem c_L_proposal_y (l : Launch) (G : va_G) (y : Nat → ClassId) (h : Nat) (a1 : Int32) (a2 : Int32) (qt : Nat) (fh : Nat) (kh : Nat) (ch : Nat) (qh : Nat) (qs : Nat) (kua : Nat) (kub : Nat) (kuc : Nat) (kud : Nat) (kue : Nat) (z : Nat → Nat → Int32) (kva : Nat) (kvc1 : Nat) (kvc2 : Nat) (kvc3 : Nat) (kvc4 : Nat) (kvc5 : Nat) (o : Nat → Int32) (jq : Nat) (jo : Nat → Int64) (sz : Nat) (hw : vp_in (z 4 0) 21) (hk0 : (s_X11_proposal_k a1 a2) = 0) (hfl : l.stackTraces = false) : vx_Met l yL_proposal wsL_proposal rmL_proposal (PHL G y [.ref h, .int a1, .int a2, .ref jq] ([aJ y jq 1 jo] ++ [kX11 h qt fh kh ch qh qs Z0, kX7 kh kua kub kuc kud kue (z 0), kX3 kua kva (z 1), kX1 kub (z 3), kX8 kuc kvc1 kvc2 kvc3 kvc4 kvc5 (z 4), aI y kvc1 20 (z 5), aI y kvc2 20 (z 6), aI y kvc3 20 (z 7), aI y kvc4 20 (z 8), aI y kvc5 20 o]) sz) (QHi G 0 (fun u : (Nat → Int32) => ([aJ y jq 1 (vp_updL jo 0 ((s_X11_proposal_r a1 a2 z)).toInt64)] ++ [kX11 h qt fh kh ch qh qs Z0, kX7 kh kua kub kuc kud kue (z 0), kX3 kua kva (z 1), kX1 kub (z 3), kX8 kuc kvc1 kvc2 kvc3 kvc4 kvc5 (z 4), aI y kvc1 20 (z 5), aI y kvc2 20 (z 6), aI y kvc3 20 (z 7), aI y kvc4 20 (z 8), aI y kvc5 20 u])) (va_A ([aJ y jq 1 jo] ++ [kX11 h qt fh kh ch qh qs Z0, kX7 kh kua kub kuc kud kue (z 0), kX3 kua kva (z 1), kX1 kub (z 3), kX8 kuc kvc1 kvc2 kvc3 kvc4 kvc5 (z 4), aI y kvc1 20 (z 5), aI y kvc2 20 (z 6), aI y kvc3 20 (z 7), aI y kvc4 20 (z 8), aI y kvc5 20 o]) sz)) XN 1 6 (va_A ([aJ y jq 1 jo] ++ [kX11 h qt fh kh ch qh qs Z0, kX7 kh kua kub kuc kud kue (z 0), kX3 kua kva (z 1), kX1 kub (z 3), kX8 kuc kvc1 kvc2 kvc3 kvc4 kvc5 (z 4), aI y kvc1 20 (z 5), aI y kvc2 20 (z 6), aI y kvc3 20 (z 7), aI y kvc4 20 (z 8), aI y kvc5 20 o]) sz) := by
  refine vx_ofWH (cc := cL_proposal) (maxL := 5) (ret := (some .int)) (hh := [(0, 10, 13, 28), (0, 10, 17, 13)]) (by decide) rfl ?_
  intro p e s m args below meth c s₁ B hml hv
  obtain ⟨rfl, hsz, hP, ⟨hK, hN⟩, hD0, hTY⟩ := hv
  have hx := B.exec
  have hb := B.bytes
  have hr := B.returns
  have hts := atoms_spec (ws := wsL_proposal) B.pre
  have hown : s.vm.findClass RL = some m.cls := findClass_of_methodNamed B.named
  have hlocks := B.notSynchronized
  have htb : c.exceptionTable.toList = tableOf [(0, 10, 13, 28), (0, 10, 17, 13)] := vx_table (x := yL_proposal) B (hts (.codeWith yL_proposal cL_proposal 5 (some .int) [(0, 10, 13, 28), (0, 10, 17, 13)]) (List.mem_cons_self))
  subst hsz
  have hD := hD0.self (sz := s.heap.size)
  generalize hAe : va_A ([aJ y jq 1 jo] ++ [kX11 h qt fh kh ch qh qs Z0, kX7 kh kua kub kuc kud kue (z 0), kX3 kua kva (z 1), kX1 kub (z 3), kX8 kuc kvc1 kvc2 kvc3 kvc4 kvc5 (z 4), aI y kvc1 20 (z 5), aI y kvc2 20 (z 6), aI y kvc3 20 (z 7), aI y kvc4 20 (z 8), aI y kvc5 20 o]) s.heap.size = A at hD hTY ⊢
  have hA : ∀ q : Nat, s.heap.size ≤ q → A q := fun q h => by rw [← hAe]; exact Or.inr h
  have hS : va_S A s.heap s.heap [] := va_S.rf
  have hP : va_P G vwCl ([aJ y jq 1 jo] ++ [kX11 h qt fh kh ch qh qs Z0, kX7 kh kua kub kuc kud kue (z 0), kX3 kua kva (z 1), kX1 kub (z 3), kX8 kuc kvc1 kvc2 kvc3 kvc4 kvc5 (z 4), aI y kvc1 20 (z 5), aI y kvc2 20 (z 6), aI y kvc3 20 (z 7), aI y kvc4 20 (z 8), aI y kvc5 20 o]) s.heap := hP
  have hK4 : va_K G vwCl (tyG y) s := hK.sub (tys' := tyG y) [0, 1, 2, 3] rfl
  have hl := lv_entry ([.ref h, .int a1, .int a2, .ref jq]) (n := 5) (Nat.le_of_ble_eq_true rfl)
  rw [lg_entry_eq]
  generalize (lg_sl ([.ref h, .int a1, .int a2, .ref jq]) ++ List.replicate (5 - (lg_sl ([.ref h, .int a1, .int a2, .ref jq])).length) Slot.unset).toArray = ls at hl ⊢
  have hl : lv_has ls 5 [(0, .ref h), (1, .int a1), (2, .int a2), (3, .ref jq)] := hl
  obtain ⟨QQ, hQQ⟩ : ∃ zq9, zq9 = vx_MQ below (QHi G 0 (fun u : (Nat → Int32) => ([aJ y jq 1 (vp_updL jo 0 ((s_X11_proposal_r a1 a2 z)).toInt64)] ++ [kX11 h qt fh kh ch qh qs Z0, kX7 kh kua kub kuc kud kue (z 0), kX3 kua kva (z 1), kX1 kub (z 3), kX8 kuc kvc1 kvc2 kvc3 kvc4 kvc5 (z 4), aI y kvc1 20 (z 5), aI y kvc2 20 (z 6), aI y kvc3 20 (z 7), aI y kvc4 20 (z 8), aI y kvc5 20 u])) A) XN ([.ref h, .int a1, .int a2, .ref jq] : List Value).toArray s 1 6 A := ⟨_, rfl⟩
  rw [← hQQ]
  refine lv_aload_n hx hb dL_proposal_0 rfl (lv_at hl 3 rfl) ?_
  refine lv_iconst (v := 0) hx hb dL_proposal_1 (by decide) ?_
  refine lv_aload_n hx hb dL_proposal_2 rfl (lv_at hl 0 rfl) ?_
  refine lv_iload_n hx hb dL_proposal_3 rfl (lv_at hl 1 rfl) ?_
  refine lv_iload_n hx hb dL_proposal_4 rfl (lv_at hl 2 rfl) ?_
  refine cl_X (wr := [aJ y jq 1 jo]) (wc := [kX11 h qt fh kh ch qh qs Z0, kX7 kh kua kub kuc kud kue (z 0), kX3 kua kva (z 1), kX1 kub (z 3), kX8 kuc kvc1 kvc2 kvc3 kvc4 kvc5 (z 4), aI y kvc1 20 (z 5), aI y kvc2 20 (z 6), aI y kvc3 20 (z 7), aI y kvc4 20 (z 8), aI y kvc5 20 o]) (vx_runV (As := [.int a1, .int a2]) (rest := [.int 0, .ref jq]) ⟨hx, hb, hml, hown, hts⟩ (c_X11_proposal l G y h a1 a2 qt fh kh ch qh qs kua kub kuc kud kue z kva kvc1 kvc2 kvc3 kvc4 kvc5 o s.heap.size hw hfl) (cwV 2 hts gL_proposal_X11_proposal rfl rfl rfl (by decide +kernel) ⟨Nat.le_of_ble_eq_true rfl, Nat.le_of_ble_eq_true rfl⟩) (PHX_V (A0 := A) (P_r hP) hK4 hN (D_r hD) hTY.1 hS (F_r hD hS hA) (ci := 9) (q0 := 0) rfl rfl) rfl rfl hl.1 rfl (lv_room (Nat.le_of_ble_eq_true rfl)) dL_proposal_5 ⟨Nat.le_of_ble_eq_true rfl, Nat.le_of_ble_eq_true rfl⟩) hP hD hS hA (fun E ce q9 u H locs hE hP hD hS hce hcv hcl => ?_) (fun u H locs hP hD hS => ?_)
  · exact (exC_0 hk0 hE).elim
  · refine lv_i2l (v := ((s_X11_proposal_r a1 a2 z)).toInt64) hx hb dL_proposal_8 rfl ?_
    refine as_o hx hb hK hP hD hS dL_proposal_9 (fun H locs hP hD hS => ?_)
    refine lv_goto (tgt := 21) hx hb dL_proposal_10 (by decide) ?_
    refine lv_iconst (v := 0) hx hb dL_proposal_21 (by decide) ?_
    rw [hQQ]
    refine vx_ret ?_
    exact W.iret hx hb hr (end_Hi u.1 hP hD hS rfl rfl) hS.2.2 dL_proposal_22
set_option maxHeartbeats 400000 in
set_option maxRecDepth 100000 in
theorem c_L_proposal_n (l : Launch) (G : va_G) (y : Nat → ClassId) (h : Nat) (a1 : Int32) (a2 : Int32) (qt : Nat) (fh : Nat) (kh : Nat) (ch : Nat) (qh : Nat) (qs : Nat) (kua : Nat) (kub : Nat) (kuc : Nat) (kud : Nat) (kue : Nat) (z : Nat → Nat → Int32) (kva : Nat) (kvc1 : Nat) (kvc2 : Nat) (kvc3 : Nat) (kvc4 : Nat) (kvc5 : Nat) (o : Nat → Int32) (jq : Nat) (jo : Nat → Int64) (sz : Nat) (hw : vp_in (z 4 0) 21) (hk0 : ¬ (s_X11_proposal_k a1 a2) = 0) (hfl : l.stackTraces = false) : vx_Met l yL_proposal wsL_proposal rmL_proposal (PHL G y [.ref h, .int a1, .int a2, .ref jq] ([aJ y jq 1 jo] ++ [kX11 h qt fh kh ch qh qs Z0, kX7 kh kua kub kuc kud kue (z 0), kX3 kua kva (z 1), kX1 kub (z 3), kX8 kuc kvc1 kvc2 kvc3 kvc4 kvc5 (z 4), aI y kvc1 20 (z 5), aI y kvc2 20 (z 6), aI y kvc3 20 (z 7), aI y kvc4 20 (z 8), aI y kvc5 20 o]) sz) (QHi G (cdK 3 (s_X11_proposal_k a1 a2)) (fun u : (Nat → Int32) => ([aJ y jq 1 jo] ++ [kX11 h qt fh kh ch qh qs Z0, kX7 kh kua kub kuc kud kue (z 0), kX3 kua kva (z 1), kX1 kub (z 3), kX8 kuc kvc1 kvc2 kvc3 kvc4 kvc5 (z 4), aI y kvc1 20 (z 5), aI y kvc2 20 (z 6), aI y kvc3 20 (z 7), aI y kvc4 20 (z 8), aI y kvc5 20 u])) (va_A ([aJ y jq 1 jo] ++ [kX11 h qt fh kh ch qh qs Z0, kX7 kh kua kub kuc kud kue (z 0), kX3 kua kva (z 1), kX1 kub (z 3), kX8 kuc kvc1 kvc2 kvc3 kvc4 kvc5 (z 4), aI y kvc1 20 (z 5), aI y kvc2 20 (z 6), aI y kvc3 20 (z 7), aI y kvc4 20 (z 8), aI y kvc5 20 o]) sz)) XN 1 6 (va_A ([aJ y jq 1 jo] ++ [kX11 h qt fh kh ch qh qs Z0, kX7 kh kua kub kuc kud kue (z 0), kX3 kua kva (z 1), kX1 kub (z 3), kX8 kuc kvc1 kvc2 kvc3 kvc4 kvc5 (z 4), aI y kvc1 20 (z 5), aI y kvc2 20 (z 6), aI y kvc3 20 (z 7), aI y kvc4 20 (z 8), aI y kvc5 20 o]) sz) := by
  refine vx_ofWH (cc := cL_proposal) (maxL := 5) (ret := (some .int)) (hh := [(0, 10, 13, 28), (0, 10, 17, 13)]) (by decide) rfl ?_
  intro p e s m args below meth c s₁ B hml hv
  obtain ⟨rfl, hsz, hP, ⟨hK, hN⟩, hD0, hTY⟩ := hv
  have hx := B.exec
  have hb := B.bytes
  have hr := B.returns
  have hts := atoms_spec (ws := wsL_proposal) B.pre
  have hown : s.vm.findClass RL = some m.cls := findClass_of_methodNamed B.named
  have hlocks := B.notSynchronized
  have htb : c.exceptionTable.toList = tableOf [(0, 10, 13, 28), (0, 10, 17, 13)] := vx_table (x := yL_proposal) B (hts (.codeWith yL_proposal cL_proposal 5 (some .int) [(0, 10, 13, 28), (0, 10, 17, 13)]) (List.mem_cons_self))
  subst hsz
  have hD := hD0.self (sz := s.heap.size)
  generalize hAe : va_A ([aJ y jq 1 jo] ++ [kX11 h qt fh kh ch qh qs Z0, kX7 kh kua kub kuc kud kue (z 0), kX3 kua kva (z 1), kX1 kub (z 3), kX8 kuc kvc1 kvc2 kvc3 kvc4 kvc5 (z 4), aI y kvc1 20 (z 5), aI y kvc2 20 (z 6), aI y kvc3 20 (z 7), aI y kvc4 20 (z 8), aI y kvc5 20 o]) s.heap.size = A at hD hTY ⊢
  have hA : ∀ q : Nat, s.heap.size ≤ q → A q := fun q h => by rw [← hAe]; exact Or.inr h
  have hS : va_S A s.heap s.heap [] := va_S.rf
  have hP : va_P G vwCl ([aJ y jq 1 jo] ++ [kX11 h qt fh kh ch qh qs Z0, kX7 kh kua kub kuc kud kue (z 0), kX3 kua kva (z 1), kX1 kub (z 3), kX8 kuc kvc1 kvc2 kvc3 kvc4 kvc5 (z 4), aI y kvc1 20 (z 5), aI y kvc2 20 (z 6), aI y kvc3 20 (z 7), aI y kvc4 20 (z 8), aI y kvc5 20 o]) s.heap := hP
  have hK4 : va_K G vwCl (tyG y) s := hK.sub (tys' := tyG y) [0, 1, 2, 3] rfl
  have hl := lv_entry ([.ref h, .int a1, .int a2, .ref jq]) (n := 5) (Nat.le_of_ble_eq_true rfl)
  rw [lg_entry_eq]
  generalize (lg_sl ([.ref h, .int a1, .int a2, .ref jq]) ++ List.replicate (5 - (lg_sl ([.ref h, .int a1, .int a2, .ref jq])).length) Slot.unset).toArray = ls at hl ⊢
  have hl : lv_has ls 5 [(0, .ref h), (1, .int a1), (2, .int a2), (3, .ref jq)] := hl
  obtain ⟨QQ, hQQ⟩ : ∃ zq9, zq9 = vx_MQ below (QHi G (cdK 3 (s_X11_proposal_k a1 a2)) (fun u : (Nat → Int32) => ([aJ y jq 1 jo] ++ [kX11 h qt fh kh ch qh qs Z0, kX7 kh kua kub kuc kud kue (z 0), kX3 kua kva (z 1), kX1 kub (z 3), kX8 kuc kvc1 kvc2 kvc3 kvc4 kvc5 (z 4), aI y kvc1 20 (z 5), aI y kvc2 20 (z 6), aI y kvc3 20 (z 7), aI y kvc4 20 (z 8), aI y kvc5 20 u])) A) XN ([.ref h, .int a1, .int a2, .ref jq] : List Value).toArray s 1 6 A := ⟨_, rfl⟩
  rw [← hQQ]
  refine lv_aload_n hx hb dL_proposal_0 rfl (lv_at hl 3 rfl) ?_
  refine lv_iconst (v := 0) hx hb dL_proposal_1 (by decide) ?_
  refine lv_aload_n hx hb dL_proposal_2 rfl (lv_at hl 0 rfl) ?_
  refine lv_iload_n hx hb dL_proposal_3 rfl (lv_at hl 1 rfl) ?_
  refine lv_iload_n hx hb dL_proposal_4 rfl (lv_at hl 2 rfl) ?_
  refine cl_X (wr := [aJ y jq 1 jo]) (wc := [kX11 h qt fh kh ch qh qs Z0, kX7 kh kua kub kuc kud kue (z 0), kX3 kua kva (z 1), kX1 kub (z 3), kX8 kuc kvc1 kvc2 kvc3 kvc4 kvc5 (z 4), aI y kvc1 20 (z 5), aI y kvc2 20 (z 6), aI y kvc3 20 (z 7), aI y kvc4 20 (z 8), aI y kvc5 20 o]) (vx_runV (As := [.int a1, .int a2]) (rest := [.int 0, .ref jq]) ⟨hx, hb, hml, hown, hts⟩ (c_X11_proposal l G y h a1 a2 qt fh kh ch qh qs kua kub kuc kud kue z kva kvc1 kvc2 kvc3 kvc4 kvc5 o s.heap.size hw hfl) (cwV 2 hts gL_proposal_X11_proposal rfl rfl rfl (by decide +kernel) ⟨Nat.le_of_ble_eq_true rfl, Nat.le_of_ble_eq_true rfl⟩) (PHX_V (A0 := A) (P_r hP) hK4 hN (D_r hD) hTY.1 hS (F_r hD hS hA) (ci := 9) (q0 := 0) rfl rfl) rfl rfl hl.1 rfl (lv_room (Nat.le_of_ble_eq_true rfl)) dL_proposal_5 ⟨Nat.le_of_ble_eq_true rfl, Nat.le_of_ble_eq_true rfl⟩) hP hD hS hA (fun E ce q9 u H locs hE hP hD hS hce hcv hcl => ?_) (fun u H locs hP hD hS => ?_)
  · rcases hE with ⟨rfl, hE⟩ | ⟨rfl, hE⟩ | ⟨rfl, hE⟩
    · refine vx_catch hown [⟨0, 10, 13, 28⟩] ⟨0, 10, 17, 13⟩ [] (htb.trans rfl) (fun z hz => by rcases List.mem_singleton.mp hz with rfl; exact Or.inr ⟨by decide, "java/lang/IndexOutOfBoundsException", hts (.classLink RL 28 "java/lang/IndexOutOfBoundsException") (by decide +kernel), hTY.2 _ mAO⟩) (by decide) (by decide) (hts (.classLink RL 13 "java/lang/IllegalArgumentException") (by decide +kernel)) (va_Nw.use rfl (hTY.1.2.1 _ mIA)) hce hcv hcl ?_
      refine lv_astore (lv' := [(4, .ref q9), (0, .ref h), (1, .int a1), (2, .int a2), (3, .ref jq)]) hx hb dL_proposal_17 hl (by decide) rfl (fun ls hl => ?_)
      refine lv_iconst (v := 2) hx hb dL_proposal_19 (by decide) ?_
      rw [hQQ]
      refine vx_ret ?_
      exact W.iret hx hb hr (end_Hi u hP hD hS (cd_2 hE (by decide) (by decide)) rfl) hS.2.2 dL_proposal_20
    · rcases kx_proposal a1 a2 with k9 | k9 | k9
      · exact absurd (hE.trans k9) (by decide)
      · exact absurd (hE.trans k9) (by decide)
      · exact absurd (hE.trans k9) (by decide)
    · refine vx_catch hown [] ⟨0, 10, 13, 28⟩ [⟨0, 10, 17, 13⟩] (htb.trans rfl) (fun z hz => by cases hz) (by decide) (by decide) (hts (.classLink RL 28 "java/lang/IndexOutOfBoundsException") (by decide +kernel)) (va_Nw.use rfl (hTY.1.2.1 _ mIO)) hce hcv hcl ?_
      refine lv_astore (lv' := [(4, .ref q9), (0, .ref h), (1, .int a1), (2, .int a2), (3, .ref jq)]) hx hb dL_proposal_13 hl (by decide) rfl (fun ls hl => ?_)
      refine lv_iconst (v := 1) hx hb dL_proposal_15 (by decide) ?_
      rw [hQQ]
      refine vx_ret ?_
      exact W.iret hx hb hr (end_Hi u hP hD hS (cd_1 hE (by decide)) rfl) hS.2.2 dL_proposal_16
  · exact absurd u.2 hk0
theorem kx_toleranceFor (a1 : Int32) : s_X11_toleranceFor_k a1 = 0 ∨ s_X11_toleranceFor_k a1 = 1 := by
  unfold s_X11_toleranceFor_k
  exact k_ite (Q := (fun x : Int32 => x = 0 ∨ x = 1)) (Or.inr rfl) (k_ite (Q := (fun x : Int32 => x = 0 ∨ x = 1)) (Or.inl rfl) (Or.inr rfl))
abbrev rmL_toleranceFor : Room := ({ frames := 7, cells := 1, slots := 6, locals := 116 } : Room)
set_option maxHeartbeats 400000 in
set_option maxRecDepth 100000 in
theorem c_L_toleranceFor_y (l : Launch) (G : va_G) (y : Nat → ClassId) (h : Nat) (a1 : Int32) (qt : Nat) (fh : Nat) (kh : Nat) (ch : Nat) (qh : Nat) (qs : Nat) (kua : Nat) (kub : Nat) (kuc : Nat) (kud : Nat) (kue : Nat) (z : Nat → Nat → Int32) (kvc1 : Nat) (kvc2 : Nat) (kvc3 : Nat) (kvc4 : Nat) (kvc5 : Nat) (o : Nat → Int32) (jq : Nat) (jo : Nat → Int64) (sz : Nat) (hw : vp_in (z 4 0) 21) (hk0 : (s_X11_toleranceFor_k a1) = 0) (hfl : l.stackTraces = false) : vx_Met l yL_toleranceFor wsL_toleranceFor rmL_toleranceFor (PHL G y [.ref h, .int a1, .ref jq] ([aJ y jq 1 jo] ++ [kX11 h qt fh kh ch qh qs Z0, kX7 kh kua kub kuc kud kue (z 0), kX8 kuc kvc1 kvc2 kvc3 kvc4 kvc5 (z 4), aI y kvc1 20 (z 5), aI y kvc2 20 (z 6), aI y kvc3 20 (z 7), aI y kvc4 20 (z 8), aI y kvc5 20 o]) sz) (QHi G 0 (fun u : (Nat → Int32) => ([aJ y jq 1 (vp_updL jo 0 ((s_X11_toleranceFor_r a1 z)).toInt64)] ++ [kX11 h qt fh kh ch qh qs Z0, kX7 kh kua kub kuc kud kue (z 0), kX8 kuc kvc1 kvc2 kvc3 kvc4 kvc5 (z 4), aI y kvc1 20 (z 5), aI y kvc2 20 (z 6), aI y kvc3 20 (z 7), aI y kvc4 20 (z 8), aI y kvc5 20 u])) (va_A ([aJ y jq 1 jo] ++ [kX11 h qt fh kh ch qh qs Z0, kX7 kh kua kub kuc kud kue (z 0), kX8 kuc kvc1 kvc2 kvc3 kvc4 kvc5 (z 4), aI y kvc1 20 (z 5), aI y kvc2 20 (z 6), aI y kvc3 20 (z 7), aI y kvc4 20 (z 8), aI y kvc5 20 o]) sz)) XN 1 6 (va_A ([aJ y jq 1 jo] ++ [kX11 h qt fh kh ch qh qs Z0, kX7 kh kua kub kuc kud kue (z 0), kX8 kuc kvc1 kvc2 kvc3 kvc4 kvc5 (z 4), aI y kvc1 20 (z 5), aI y kvc2 20 (z 6), aI y kvc3 20 (z 7), aI y kvc4 20 (z 8), aI y kvc5 20 o]) sz) := by
  refine vx_ofWH (cc := cL_toleranceFor) (maxL := 4) (ret := (some .int)) (hh := [(0, 9, 12, 13)]) (by decide) rfl ?_
  intro p e s m args below meth c s₁ B hml hv
  obtain ⟨rfl, hsz, hP, ⟨hK, hN⟩, hD0, hTY⟩ := hv
  have hx := B.exec
  have hb := B.bytes
  have hr := B.returns
  have hts := atoms_spec (ws := wsL_toleranceFor) B.pre
  have hown : s.vm.findClass RL = some m.cls := findClass_of_methodNamed B.named
  have hlocks := B.notSynchronized
  have htb : c.exceptionTable.toList = tableOf [(0, 9, 12, 13)] := vx_table (x := yL_toleranceFor) B (hts (.codeWith yL_toleranceFor cL_toleranceFor 4 (some .int) [(0, 9, 12, 13)]) (List.mem_cons_self))
  subst hsz
  have hD := hD0.self (sz := s.heap.size)
  generalize hAe : va_A ([aJ y jq 1 jo] ++ [kX11 h qt fh kh ch qh qs Z0, kX7 kh kua kub kuc kud kue (z 0), kX8 kuc kvc1 kvc2 kvc3 kvc4 kvc5 (z 4), aI y kvc1 20 (z 5), aI y kvc2 20 (z 6), aI y kvc3 20 (z 7), aI y kvc4 20 (z 8), aI y kvc5 20 o]) s.heap.size = A at hD hTY ⊢
  have hA : ∀ q : Nat, s.heap.size ≤ q → A q := fun q h => by rw [← hAe]; exact Or.inr h
  have hS : va_S A s.heap s.heap [] := va_S.rf
  have hP : va_P G vwCl ([aJ y jq 1 jo] ++ [kX11 h qt fh kh ch qh qs Z0, kX7 kh kua kub kuc kud kue (z 0), kX8 kuc kvc1 kvc2 kvc3 kvc4 kvc5 (z 4), aI y kvc1 20 (z 5), aI y kvc2 20 (z 6), aI y kvc3 20 (z 7), aI y kvc4 20 (z 8), aI y kvc5 20 o]) s.heap := hP
  have hK4 : va_K G vwCl (tyG y) s := hK.sub (tys' := tyG y) [0, 1, 2, 3] rfl
  have hl := lv_entry ([.ref h, .int a1, .ref jq]) (n := 4) (Nat.le_of_ble_eq_true rfl)
  rw [lg_entry_eq]
  generalize (lg_sl ([.ref h, .int a1, .ref jq]) ++ List.replicate (4 - (lg_sl ([.ref h, .int a1, .ref jq])).length) Slot.unset).toArray = ls at hl ⊢
  have hl : lv_has ls 4 [(0, .ref h), (1, .int a1), (2, .ref jq)] := hl
  obtain ⟨QQ, hQQ⟩ : ∃ zq9, zq9 = vx_MQ below (QHi G 0 (fun u : (Nat → Int32) => ([aJ y jq 1 (vp_updL jo 0 ((s_X11_toleranceFor_r a1 z)).toInt64)] ++ [kX11 h qt fh kh ch qh qs Z0, kX7 kh kua kub kuc kud kue (z 0), kX8 kuc kvc1 kvc2 kvc3 kvc4 kvc5 (z 4), aI y kvc1 20 (z 5), aI y kvc2 20 (z 6), aI y kvc3 20 (z 7), aI y kvc4 20 (z 8), aI y kvc5 20 u])) A) XN ([.ref h, .int a1, .ref jq] : List Value).toArray s 1 6 A := ⟨_, rfl⟩
  rw [← hQQ]
  refine lv_aload_n hx hb dL_toleranceFor_0 rfl (lv_at hl 2 rfl) ?_
  refine lv_iconst (v := 0) hx hb dL_toleranceFor_1 (by decide) ?_
  refine lv_aload_n hx hb dL_toleranceFor_2 rfl (lv_at hl 0 rfl) ?_
  refine lv_iload_n hx hb dL_toleranceFor_3 rfl (lv_at hl 1 rfl) ?_
  refine cl_X (wr := [aJ y jq 1 jo]) (wc := [kX11 h qt fh kh ch qh qs Z0, kX7 kh kua kub kuc kud kue (z 0), kX8 kuc kvc1 kvc2 kvc3 kvc4 kvc5 (z 4), aI y kvc1 20 (z 5), aI y kvc2 20 (z 6), aI y kvc3 20 (z 7), aI y kvc4 20 (z 8), aI y kvc5 20 o]) (vx_runV (As := [.int a1]) (rest := [.int 0, .ref jq]) ⟨hx, hb, hml, hown, hts⟩ (c_X11_toleranceFor l G y h a1 qt fh kh ch qh qs kua kub kuc kud kue z kvc1 kvc2 kvc3 kvc4 kvc5 o s.heap.size hw hfl) (cwV 1 hts gL_toleranceFor_X11_toleranceFor rfl rfl rfl (by decide +kernel) ⟨Nat.le_of_ble_eq_true rfl, Nat.le_of_ble_eq_true rfl⟩) (PHX_V (A0 := A) (P_r hP) hK4 hN (D_r hD) hTY.1 hS (F_r hD hS hA) (ci := 9) (q0 := 0) rfl rfl) rfl rfl hl.1 rfl (lv_room (Nat.le_of_ble_eq_true rfl)) dL_toleranceFor_4 ⟨Nat.le_of_ble_eq_true rfl, Nat.le_of_ble_eq_true rfl⟩) hP hD hS hA (fun E ce q9 u H locs hE hP hD hS hce hcv hcl => ?_) (fun u H locs hP hD hS => ?_)
  · exact (exC_0 hk0 hE).elim
  · refine lv_i2l (v := ((s_X11_toleranceFor_r a1 z)).toInt64) hx hb dL_toleranceFor_7 rfl ?_
    refine as_o hx hb hK hP hD hS dL_toleranceFor_8 (fun H locs hP hD hS => ?_)
    refine lv_goto (tgt := 15) hx hb dL_toleranceFor_9 (by decide) ?_
    refine lv_iconst (v := 0) hx hb dL_toleranceFor_15 (by decide) ?_
    rw [hQQ]
    refine vx_ret ?_
    exact W.iret hx hb hr (end_Hi u.1 hP hD hS rfl rfl) hS.2.2 dL_toleranceFor_16
set_option maxHeartbeats 400000 in
set_option maxRecDepth 100000 in
theorem c_L_toleranceFor_n (l : Launch) (G : va_G) (y : Nat → ClassId) (h : Nat) (a1 : Int32) (qt : Nat) (fh : Nat) (kh : Nat) (ch : Nat) (qh : Nat) (qs : Nat) (kua : Nat) (kub : Nat) (kuc : Nat) (kud : Nat) (kue : Nat) (z : Nat → Nat → Int32) (kvc1 : Nat) (kvc2 : Nat) (kvc3 : Nat) (kvc4 : Nat) (kvc5 : Nat) (o : Nat → Int32) (jq : Nat) (jo : Nat → Int64) (sz : Nat) (hw : vp_in (z 4 0) 21) (hk0 : ¬ (s_X11_toleranceFor_k a1) = 0) (hfl : l.stackTraces = false) : vx_Met l yL_toleranceFor wsL_toleranceFor rmL_toleranceFor (PHL G y [.ref h, .int a1, .ref jq] ([aJ y jq 1 jo] ++ [kX11 h qt fh kh ch qh qs Z0, kX7 kh kua kub kuc kud kue (z 0), kX8 kuc kvc1 kvc2 kvc3 kvc4 kvc5 (z 4), aI y kvc1 20 (z 5), aI y kvc2 20 (z 6), aI y kvc3 20 (z 7), aI y kvc4 20 (z 8), aI y kvc5 20 o]) sz) (QHi G (cdK 1 (s_X11_toleranceFor_k a1)) (fun u : (Nat → Int32) => ([aJ y jq 1 jo] ++ [kX11 h qt fh kh ch qh qs Z0, kX7 kh kua kub kuc kud kue (z 0), kX8 kuc kvc1 kvc2 kvc3 kvc4 kvc5 (z 4), aI y kvc1 20 (z 5), aI y kvc2 20 (z 6), aI y kvc3 20 (z 7), aI y kvc4 20 (z 8), aI y kvc5 20 u])) (va_A ([aJ y jq 1 jo] ++ [kX11 h qt fh kh ch qh qs Z0, kX7 kh kua kub kuc kud kue (z 0), kX8 kuc kvc1 kvc2 kvc3 kvc4 kvc5 (z 4), aI y kvc1 20 (z 5), aI y kvc2 20 (z 6), aI y kvc3 20 (z 7), aI y kvc4 20 (z 8), aI y kvc5 20 o]) sz)) XN 1 6 (va_A ([aJ y jq 1 jo] ++ [kX11 h qt fh kh ch qh qs Z0, kX7 kh kua kub kuc kud kue (z 0), kX8 kuc kvc1 kvc2 kvc3 kvc4 kvc5 (z 4), aI y kvc1 20 (z 5), aI y kvc2 20 (z 6), aI y kvc3 20 (z 7), aI y kvc4 20 (z 8), aI y kvc5 20 o]) sz) := by
  refine vx_ofWH (cc := cL_toleranceFor) (maxL := 4) (ret := (some .int)) (hh := [(0, 9, 12, 13)]) (by decide) rfl ?_
  intro p e s m args below meth c s₁ B hml hv
  obtain ⟨rfl, hsz, hP, ⟨hK, hN⟩, hD0, hTY⟩ := hv
  have hx := B.exec
  have hb := B.bytes
  have hr := B.returns
  have hts := atoms_spec (ws := wsL_toleranceFor) B.pre
  have hown : s.vm.findClass RL = some m.cls := findClass_of_methodNamed B.named
  have hlocks := B.notSynchronized
  have htb : c.exceptionTable.toList = tableOf [(0, 9, 12, 13)] := vx_table (x := yL_toleranceFor) B (hts (.codeWith yL_toleranceFor cL_toleranceFor 4 (some .int) [(0, 9, 12, 13)]) (List.mem_cons_self))
  subst hsz
  have hD := hD0.self (sz := s.heap.size)
  generalize hAe : va_A ([aJ y jq 1 jo] ++ [kX11 h qt fh kh ch qh qs Z0, kX7 kh kua kub kuc kud kue (z 0), kX8 kuc kvc1 kvc2 kvc3 kvc4 kvc5 (z 4), aI y kvc1 20 (z 5), aI y kvc2 20 (z 6), aI y kvc3 20 (z 7), aI y kvc4 20 (z 8), aI y kvc5 20 o]) s.heap.size = A at hD hTY ⊢
  have hA : ∀ q : Nat, s.heap.size ≤ q → A q := fun q h => by rw [← hAe]; exact Or.inr h
  have hS : va_S A s.heap s.heap [] := va_S.rf
  have hP : va_P G vwCl ([aJ y jq 1 jo] ++ [kX11 h qt fh kh ch qh qs Z0, kX7 kh kua kub kuc kud kue (z 0), kX8 kuc kvc1 kvc2 kvc3 kvc4 kvc5 (z 4), aI y kvc1 20 (z 5), aI y kvc2 20 (z 6), aI y kvc3 20 (z 7), aI y kvc4 20 (z 8), aI y kvc5 20 o]) s.heap := hP
  have hK4 : va_K G vwCl (tyG y) s := hK.sub (tys' := tyG y) [0, 1, 2, 3] rfl
  have hl := lv_entry ([.ref h, .int a1, .ref jq]) (n := 4) (Nat.le_of_ble_eq_true rfl)
  rw [lg_entry_eq]
  generalize (lg_sl ([.ref h, .int a1, .ref jq]) ++ List.replicate (4 - (lg_sl ([.ref h, .int a1, .ref jq])).length) Slot.unset).toArray = ls at hl ⊢
  have hl : lv_has ls 4 [(0, .ref h), (1, .int a1), (2, .ref jq)] := hl
  obtain ⟨QQ, hQQ⟩ : ∃ zq9, zq9 = vx_MQ below (QHi G (cdK 1 (s_X11_toleranceFor_k a1)) (fun u : (Nat → Int32) => ([aJ y jq 1 jo] ++ [kX11 h qt fh kh ch qh qs Z0, kX7 kh kua kub kuc kud kue (z 0), kX8 kuc kvc1 kvc2 kvc3 kvc4 kvc5 (z 4), aI y kvc1 20 (z 5), aI y kvc2 20 (z 6), aI y kvc3 20 (z 7), aI y kvc4 20 (z 8), aI y kvc5 20 u])) A) XN ([.ref h, .int a1, .ref jq] : List Value).toArray s 1 6 A := ⟨_, rfl⟩
  rw [← hQQ]
  refine lv_aload_n hx hb dL_toleranceFor_0 rfl (lv_at hl 2 rfl) ?_
  refine lv_iconst (v := 0) hx hb dL_toleranceFor_1 (by decide) ?_
  refine lv_aload_n hx hb dL_toleranceFor_2 rfl (lv_at hl 0 rfl) ?_
  refine lv_iload_n hx hb dL_toleranceFor_3 rfl (lv_at hl 1 rfl) ?_
  refine cl_X (wr := [aJ y jq 1 jo]) (wc := [kX11 h qt fh kh ch qh qs Z0, kX7 kh kua kub kuc kud kue (z 0), kX8 kuc kvc1 kvc2 kvc3 kvc4 kvc5 (z 4), aI y kvc1 20 (z 5), aI y kvc2 20 (z 6), aI y kvc3 20 (z 7), aI y kvc4 20 (z 8), aI y kvc5 20 o]) (vx_runV (As := [.int a1]) (rest := [.int 0, .ref jq]) ⟨hx, hb, hml, hown, hts⟩ (c_X11_toleranceFor l G y h a1 qt fh kh ch qh qs kua kub kuc kud kue z kvc1 kvc2 kvc3 kvc4 kvc5 o s.heap.size hw hfl) (cwV 1 hts gL_toleranceFor_X11_toleranceFor rfl rfl rfl (by decide +kernel) ⟨Nat.le_of_ble_eq_true rfl, Nat.le_of_ble_eq_true rfl⟩) (PHX_V (A0 := A) (P_r hP) hK4 hN (D_r hD) hTY.1 hS (F_r hD hS hA) (ci := 9) (q0 := 0) rfl rfl) rfl rfl hl.1 rfl (lv_room (Nat.le_of_ble_eq_true rfl)) dL_toleranceFor_4 ⟨Nat.le_of_ble_eq_true rfl, Nat.le_of_ble_eq_true rfl⟩) hP hD hS hA (fun E ce q9 u H locs hE hP hD hS hce hcv hcl => ?_) (fun u H locs hP hD hS => ?_)
  · rcases hE with ⟨rfl, hE⟩ | ⟨rfl, hE⟩ | ⟨rfl, hE⟩
    · refine vx_catch hown [] ⟨0, 9, 12, 13⟩ [] (htb.trans rfl) (fun z hz => by cases hz) (by decide) (by decide) (hts (.classLink RL 13 "java/lang/IllegalArgumentException") (by decide +kernel)) (va_Nw.use rfl (hTY.1.2.1 _ mIA)) hce hcv hcl ?_
      refine lv_astore_n (lv' := [(3, .ref q9), (0, .ref h), (1, .int a1), (2, .ref jq)]) hx hb dL_toleranceFor_12 rfl hl (by decide) rfl (fun ls hl => ?_)
      refine lv_iconst (v := 1) hx hb dL_toleranceFor_13 (by decide) ?_
      rw [hQQ]
      refine vx_ret ?_
      exact W.iret hx hb hr (end_Hi u hP hD hS (cd_1 hE (by decide)) rfl) hS.2.2 dL_toleranceFor_14
    · rcases kx_toleranceFor a1 with k9 | k9
      · exact absurd (hE.trans k9) (by decide)
      · exact absurd (hE.trans k9) (by decide)
    · rcases kx_toleranceFor a1 with k9 | k9
      · exact absurd (hE.trans k9) (by decide)
      · exact absurd (hE.trans k9) (by decide)
  · exact absurd u.2 hk0
theorem kx_ahead (a1 : Int32) (a2 : Int32) : s_X11_ahead_k a1 a2 = 0 ∨ s_X11_ahead_k a1 a2 = 1 := by
  unfold s_X11_ahead_k
  exact k_ite (Q := (fun x : Int32 => x = 0 ∨ x = 1)) (Or.inr rfl) (k_ite (Q := (fun x : Int32 => x = 0 ∨ x = 1)) (Or.inr rfl) (k_ite (Q := (fun x : Int32 => x = 0 ∨ x = 1)) (Or.inr rfl) (Or.inl rfl)))
abbrev rmL_ahead : Room := ({ frames := 7, cells := 1, slots := 6, locals := 140 } : Room)
set_option maxHeartbeats 400000 in
set_option maxRecDepth 100000 in
theorem c_L_ahead_y (l : Launch) (G : va_G) (y : Nat → ClassId) (h : Nat) (a1 : Int32) (a2 : Int32) (qt : Nat) (fh : Nat) (kh : Nat) (ch : Nat) (qh : Nat) (qs : Nat) (kua : Nat) (kub : Nat) (kuc : Nat) (kud : Nat) (kue : Nat) (z : Nat → Nat → Int32) (kva : Nat) (kvc1 : Nat) (kvc2 : Nat) (kvc3 : Nat) (kvc4 : Nat) (kvc5 : Nat) (o : Nat → Int32) (kvd : Nat) (kve : Nat) (cua : Nat) (cub : Nat) (cuc : Nat) (cud : Nat) (cue : Nat) (zc : Nat → Nat → Int32) (cva : Nat) (cvc1 : Nat) (cvc2 : Nat) (cvc3 : Nat) (cvc4 : Nat) (cvc5 : Nat) (oc : Nat → Int32) (cvd : Nat) (cve : Nat) (jq : Nat) (jo : Nat → Int64) (sz : Nat) (hrz : z 3 7 = 0 ∨ z 3 7 = 1) (hez : z 3 10 = 0 ∨ z 3 10 = 1) (hgz : z 4 6 = 0 ∨ z 4 6 = 1) (hTC : TC z) (hk0 : (s_X11_ahead_k a1 a2) = 0) (hfl : l.stackTraces = false) : vx_Met l yL_ahead wsL_ahead rmL_ahead (PHL G y [.ref h, .int a1, .int a2, .ref jq] ([aJ y jq 1 jo] ++ [kX11 h qt fh kh ch qh qs Z0, kX7 kh kua kub kuc kud kue (z 0), kX3 kua kva (z 1), aI y kva 10 (z 2), kX1 kub (z 3), kX8 kuc kvc1 kvc2 kvc3 kvc4 kvc5 (z 4), aI y kvc1 20 (z 5), aI y kvc2 20 (z 6), aI y kvc3 20 (z 7), aI y kvc4 20 (z 8), aI y kvc5 20 o, kX10 kud kvd (z 9), aI y kvd 32 (z 10), kX0 kue kve (z 11), aI y kve 3 (z 12), kX7 ch cua cub cuc cud cue (zc 0), kX3 cua cva (zc 1), aI y cva 10 (zc 2), kX1 cub (zc 3), kX8 cuc cvc1 cvc2 cvc3 cvc4 cvc5 (zc 4), aI y cvc1 20 (zc 5), aI y cvc2 20 (zc 6), aI y cvc3 20 (zc 7), aI y cvc4 20 (zc 8), aI y cvc5 20 oc, kX10 cud cvd (zc 9), aI y cvd 32 (zc 10), kX0 cue cve (zc 11), aI y cve 3 (zc 12)]) sz) (QHi G 0 (fun u : (Nat → Nat → Int32) => ([aJ y jq 1 (vp_updL jo 0 ((s_X11_ahead_r a1 a2 z)).toInt64)] ++ [kX11 h qt fh kh ch qh qs Z0, kX7 kh kua kub kuc kud kue (z 0), kX3 kua kva (z 1), aI y kva 10 (z 2), kX1 kub (z 3), kX8 kuc kvc1 kvc2 kvc3 kvc4 kvc5 (z 4), aI y kvc1 20 (z 5), aI y kvc2 20 (z 6), aI y kvc3 20 (z 7), aI y kvc4 20 (z 8), aI y kvc5 20 o, kX10 kud kvd (z 9), aI y kvd 32 (z 10), kX0 kue kve (z 11), aI y kve 3 (z 12), kX7 ch cua cub cuc cud cue (u 0), kX3 cua cva (u 1), aI y cva 10 (u 2), kX1 cub (u 3), kX8 cuc cvc1 cvc2 cvc3 cvc4 cvc5 (u 4), aI y cvc1 20 (u 5), aI y cvc2 20 (u 6), aI y cvc3 20 (u 7), aI y cvc4 20 (u 8), aI y cvc5 20 oc, kX10 cud cvd (u 9), aI y cvd 32 (u 10), kX0 cue cve (u 11), aI y cve 3 (u 12)])) (va_A ([aJ y jq 1 jo] ++ [kX11 h qt fh kh ch qh qs Z0, kX7 kh kua kub kuc kud kue (z 0), kX3 kua kva (z 1), aI y kva 10 (z 2), kX1 kub (z 3), kX8 kuc kvc1 kvc2 kvc3 kvc4 kvc5 (z 4), aI y kvc1 20 (z 5), aI y kvc2 20 (z 6), aI y kvc3 20 (z 7), aI y kvc4 20 (z 8), aI y kvc5 20 o, kX10 kud kvd (z 9), aI y kvd 32 (z 10), kX0 kue kve (z 11), aI y kve 3 (z 12), kX7 ch cua cub cuc cud cue (zc 0), kX3 cua cva (zc 1), aI y cva 10 (zc 2), kX1 cub (zc 3), kX8 cuc cvc1 cvc2 cvc3 cvc4 cvc5 (zc 4), aI y cvc1 20 (zc 5), aI y cvc2 20 (zc 6), aI y cvc3 20 (zc 7), aI y cvc4 20 (zc 8), aI y cvc5 20 oc, kX10 cud cvd (zc 9), aI y cvd 32 (zc 10), kX0 cue cve (zc 11), aI y cve 3 (zc 12)]) sz)) XN 1 6 (va_A ([aJ y jq 1 jo] ++ [kX11 h qt fh kh ch qh qs Z0, kX7 kh kua kub kuc kud kue (z 0), kX3 kua kva (z 1), aI y kva 10 (z 2), kX1 kub (z 3), kX8 kuc kvc1 kvc2 kvc3 kvc4 kvc5 (z 4), aI y kvc1 20 (z 5), aI y kvc2 20 (z 6), aI y kvc3 20 (z 7), aI y kvc4 20 (z 8), aI y kvc5 20 o, kX10 kud kvd (z 9), aI y kvd 32 (z 10), kX0 kue kve (z 11), aI y kve 3 (z 12), kX7 ch cua cub cuc cud cue (zc 0), kX3 cua cva (zc 1), aI y cva 10 (zc 2), kX1 cub (zc 3), kX8 cuc cvc1 cvc2 cvc3 cvc4 cvc5 (zc 4), aI y cvc1 20 (zc 5), aI y cvc2 20 (zc 6), aI y cvc3 20 (zc 7), aI y cvc4 20 (zc 8), aI y cvc5 20 oc, kX10 cud cvd (zc 9), aI y cvd 32 (zc 10), kX0 cue cve (zc 11), aI y cve 3 (zc 12)]) sz) := by
  refine vx_ofWH (cc := cL_ahead) (maxL := 5) (ret := (some .int)) (hh := [(0, 10, 13, 13)]) (by decide) rfl ?_
  intro p e s m args below meth c s₁ B hml hv
  obtain ⟨rfl, hsz, hP, ⟨hK, hN⟩, hD0, hTY⟩ := hv
  have hx := B.exec
  have hb := B.bytes
  have hr := B.returns
  have hts := atoms_spec (ws := wsL_ahead) B.pre
  have hown : s.vm.findClass RL = some m.cls := findClass_of_methodNamed B.named
  have hlocks := B.notSynchronized
  have htb : c.exceptionTable.toList = tableOf [(0, 10, 13, 13)] := vx_table (x := yL_ahead) B (hts (.codeWith yL_ahead cL_ahead 5 (some .int) [(0, 10, 13, 13)]) (List.mem_cons_self))
  subst hsz
  have hD := hD0.self (sz := s.heap.size)
  generalize hAe : va_A ([aJ y jq 1 jo] ++ [kX11 h qt fh kh ch qh qs Z0, kX7 kh kua kub kuc kud kue (z 0), kX3 kua kva (z 1), aI y kva 10 (z 2), kX1 kub (z 3), kX8 kuc kvc1 kvc2 kvc3 kvc4 kvc5 (z 4), aI y kvc1 20 (z 5), aI y kvc2 20 (z 6), aI y kvc3 20 (z 7), aI y kvc4 20 (z 8), aI y kvc5 20 o, kX10 kud kvd (z 9), aI y kvd 32 (z 10), kX0 kue kve (z 11), aI y kve 3 (z 12), kX7 ch cua cub cuc cud cue (zc 0), kX3 cua cva (zc 1), aI y cva 10 (zc 2), kX1 cub (zc 3), kX8 cuc cvc1 cvc2 cvc3 cvc4 cvc5 (zc 4), aI y cvc1 20 (zc 5), aI y cvc2 20 (zc 6), aI y cvc3 20 (zc 7), aI y cvc4 20 (zc 8), aI y cvc5 20 oc, kX10 cud cvd (zc 9), aI y cvd 32 (zc 10), kX0 cue cve (zc 11), aI y cve 3 (zc 12)]) s.heap.size = A at hD hTY ⊢
  have hA : ∀ q : Nat, s.heap.size ≤ q → A q := fun q h => by rw [← hAe]; exact Or.inr h
  have hS : va_S A s.heap s.heap [] := va_S.rf
  have hP : va_P G vwCl ([aJ y jq 1 jo] ++ [kX11 h qt fh kh ch qh qs Z0, kX7 kh kua kub kuc kud kue (z 0), kX3 kua kva (z 1), aI y kva 10 (z 2), kX1 kub (z 3), kX8 kuc kvc1 kvc2 kvc3 kvc4 kvc5 (z 4), aI y kvc1 20 (z 5), aI y kvc2 20 (z 6), aI y kvc3 20 (z 7), aI y kvc4 20 (z 8), aI y kvc5 20 o, kX10 kud kvd (z 9), aI y kvd 32 (z 10), kX0 kue kve (z 11), aI y kve 3 (z 12), kX7 ch cua cub cuc cud cue (zc 0), kX3 cua cva (zc 1), aI y cva 10 (zc 2), kX1 cub (zc 3), kX8 cuc cvc1 cvc2 cvc3 cvc4 cvc5 (zc 4), aI y cvc1 20 (zc 5), aI y cvc2 20 (zc 6), aI y cvc3 20 (zc 7), aI y cvc4 20 (zc 8), aI y cvc5 20 oc, kX10 cud cvd (zc 9), aI y cvd 32 (zc 10), kX0 cue cve (zc 11), aI y cve 3 (zc 12)]) s.heap := hP
  have hK4 : va_K G vwCl (tyG y) s := hK.sub (tys' := tyG y) [0, 1, 2, 3] rfl
  have hl := lv_entry ([.ref h, .int a1, .int a2, .ref jq]) (n := 5) (Nat.le_of_ble_eq_true rfl)
  rw [lg_entry_eq]
  generalize (lg_sl ([.ref h, .int a1, .int a2, .ref jq]) ++ List.replicate (5 - (lg_sl ([.ref h, .int a1, .int a2, .ref jq])).length) Slot.unset).toArray = ls at hl ⊢
  have hl : lv_has ls 5 [(0, .ref h), (1, .int a1), (2, .int a2), (3, .ref jq)] := hl
  obtain ⟨QQ, hQQ⟩ : ∃ zq9, zq9 = vx_MQ below (QHi G 0 (fun u : (Nat → Nat → Int32) => ([aJ y jq 1 (vp_updL jo 0 ((s_X11_ahead_r a1 a2 z)).toInt64)] ++ [kX11 h qt fh kh ch qh qs Z0, kX7 kh kua kub kuc kud kue (z 0), kX3 kua kva (z 1), aI y kva 10 (z 2), kX1 kub (z 3), kX8 kuc kvc1 kvc2 kvc3 kvc4 kvc5 (z 4), aI y kvc1 20 (z 5), aI y kvc2 20 (z 6), aI y kvc3 20 (z 7), aI y kvc4 20 (z 8), aI y kvc5 20 o, kX10 kud kvd (z 9), aI y kvd 32 (z 10), kX0 kue kve (z 11), aI y kve 3 (z 12), kX7 ch cua cub cuc cud cue (u 0), kX3 cua cva (u 1), aI y cva 10 (u 2), kX1 cub (u 3), kX8 cuc cvc1 cvc2 cvc3 cvc4 cvc5 (u 4), aI y cvc1 20 (u 5), aI y cvc2 20 (u 6), aI y cvc3 20 (u 7), aI y cvc4 20 (u 8), aI y cvc5 20 oc, kX10 cud cvd (u 9), aI y cvd 32 (u 10), kX0 cue cve (u 11), aI y cve 3 (u 12)])) A) XN ([.ref h, .int a1, .int a2, .ref jq] : List Value).toArray s 1 6 A := ⟨_, rfl⟩
  rw [← hQQ]
  refine lv_aload_n hx hb dL_ahead_0 rfl (lv_at hl 3 rfl) ?_
  refine lv_iconst (v := 0) hx hb dL_ahead_1 (by decide) ?_
  refine lv_aload_n hx hb dL_ahead_2 rfl (lv_at hl 0 rfl) ?_
  refine lv_iload_n hx hb dL_ahead_3 rfl (lv_at hl 1 rfl) ?_
  refine lv_iload_n hx hb dL_ahead_4 rfl (lv_at hl 2 rfl) ?_
  refine cl_X (wr := [aJ y jq 1 jo]) (wc := [kX11 h qt fh kh ch qh qs Z0, kX7 kh kua kub kuc kud kue (z 0), kX3 kua kva (z 1), aI y kva 10 (z 2), kX1 kub (z 3), kX8 kuc kvc1 kvc2 kvc3 kvc4 kvc5 (z 4), aI y kvc1 20 (z 5), aI y kvc2 20 (z 6), aI y kvc3 20 (z 7), aI y kvc4 20 (z 8), aI y kvc5 20 o, kX10 kud kvd (z 9), aI y kvd 32 (z 10), kX0 kue kve (z 11), aI y kve 3 (z 12), kX7 ch cua cub cuc cud cue (zc 0), kX3 cua cva (zc 1), aI y cva 10 (zc 2), kX1 cub (zc 3), kX8 cuc cvc1 cvc2 cvc3 cvc4 cvc5 (zc 4), aI y cvc1 20 (zc 5), aI y cvc2 20 (zc 6), aI y cvc3 20 (zc 7), aI y cvc4 20 (zc 8), aI y cvc5 20 oc, kX10 cud cvd (zc 9), aI y cvd 32 (zc 10), kX0 cue cve (zc 11), aI y cve 3 (zc 12)]) (vx_runV (As := [.int a1, .int a2]) (rest := [.int 0, .ref jq]) ⟨hx, hb, hml, hown, hts⟩ (c_X11_ahead l G y h a1 a2 qt fh kh ch qh qs kua kub kuc kud kue z kva kvc1 kvc2 kvc3 kvc4 kvc5 o kvd kve cua cub cuc cud cue zc cva cvc1 cvc2 cvc3 cvc4 cvc5 oc cvd cve s.heap.size hrz hez hgz hTC hfl) (cwV 2 hts gL_ahead_X11_ahead rfl rfl rfl (by decide +kernel) ⟨Nat.le_of_ble_eq_true rfl, Nat.le_of_ble_eq_true rfl⟩) (PHX_V (A0 := A) (P_r hP) hK4 hN (D_r hD) hTY.1 hS (F_r hD hS hA) (ci := 9) (q0 := 0) rfl rfl) rfl rfl hl.1 rfl (lv_room (Nat.le_of_ble_eq_true rfl)) dL_ahead_5 ⟨Nat.le_of_ble_eq_true rfl, Nat.le_of_ble_eq_true rfl⟩) hP hD hS hA (fun E ce q9 u H locs hE hP hD hS hce hcv hcl => ?_) (fun u H locs hP hD hS => ?_)
  · exact (exC_0 hk0 hE).elim
  · refine lv_i2l (v := ((s_X11_ahead_r a1 a2 z)).toInt64) hx hb dL_ahead_8 rfl ?_
    refine as_o hx hb hK hP hD hS dL_ahead_9 (fun H locs hP hD hS => ?_)
    refine lv_goto (tgt := 17) hx hb dL_ahead_10 (by decide) ?_
    refine lv_iconst (v := 0) hx hb dL_ahead_17 (by decide) ?_
    rw [hQQ]
    refine vx_ret ?_
    exact W.iret hx hb hr (end_Hi u.1 hP hD hS rfl rfl) hS.2.2 dL_ahead_18
set_option maxHeartbeats 400000 in
set_option maxRecDepth 100000 in
theorem c_L_ahead_n (l : Launch) (G : va_G) (y : Nat → ClassId) (h : Nat) (a1 : Int32) (a2 : Int32) (qt : Nat) (fh : Nat) (kh : Nat) (ch : Nat) (qh : Nat) (qs : Nat) (kua : Nat) (kub : Nat) (kuc : Nat) (kud : Nat) (kue : Nat) (z : Nat → Nat → Int32) (kva : Nat) (kvc1 : Nat) (kvc2 : Nat) (kvc3 : Nat) (kvc4 : Nat) (kvc5 : Nat) (o : Nat → Int32) (kvd : Nat) (kve : Nat) (cua : Nat) (cub : Nat) (cuc : Nat) (cud : Nat) (cue : Nat) (zc : Nat → Nat → Int32) (cva : Nat) (cvc1 : Nat) (cvc2 : Nat) (cvc3 : Nat) (cvc4 : Nat) (cvc5 : Nat) (oc : Nat → Int32) (cvd : Nat) (cve : Nat) (jq : Nat) (jo : Nat → Int64) (sz : Nat) (hrz : z 3 7 = 0 ∨ z 3 7 = 1) (hez : z 3 10 = 0 ∨ z 3 10 = 1) (hgz : z 4 6 = 0 ∨ z 4 6 = 1) (hTC : TC z) (hk0 : ¬ (s_X11_ahead_k a1 a2) = 0) (hfl : l.stackTraces = false) : vx_Met l yL_ahead wsL_ahead rmL_ahead (PHL G y [.ref h, .int a1, .int a2, .ref jq] ([aJ y jq 1 jo] ++ [kX11 h qt fh kh ch qh qs Z0, kX7 kh kua kub kuc kud kue (z 0), kX3 kua kva (z 1), aI y kva 10 (z 2), kX1 kub (z 3), kX8 kuc kvc1 kvc2 kvc3 kvc4 kvc5 (z 4), aI y kvc1 20 (z 5), aI y kvc2 20 (z 6), aI y kvc3 20 (z 7), aI y kvc4 20 (z 8), aI y kvc5 20 o, kX10 kud kvd (z 9), aI y kvd 32 (z 10), kX0 kue kve (z 11), aI y kve 3 (z 12), kX7 ch cua cub cuc cud cue (zc 0), kX3 cua cva (zc 1), aI y cva 10 (zc 2), kX1 cub (zc 3), kX8 cuc cvc1 cvc2 cvc3 cvc4 cvc5 (zc 4), aI y cvc1 20 (zc 5), aI y cvc2 20 (zc 6), aI y cvc3 20 (zc 7), aI y cvc4 20 (zc 8), aI y cvc5 20 oc, kX10 cud cvd (zc 9), aI y cvd 32 (zc 10), kX0 cue cve (zc 11), aI y cve 3 (zc 12)]) sz) (QHi G (cdK 1 (s_X11_ahead_k a1 a2)) (fun u : (Nat → Nat → Int32) => ([aJ y jq 1 jo] ++ [kX11 h qt fh kh ch qh qs Z0, kX7 kh kua kub kuc kud kue (z 0), kX3 kua kva (z 1), aI y kva 10 (z 2), kX1 kub (z 3), kX8 kuc kvc1 kvc2 kvc3 kvc4 kvc5 (z 4), aI y kvc1 20 (z 5), aI y kvc2 20 (z 6), aI y kvc3 20 (z 7), aI y kvc4 20 (z 8), aI y kvc5 20 o, kX10 kud kvd (z 9), aI y kvd 32 (z 10), kX0 kue kve (z 11), aI y kve 3 (z 12), kX7 ch cua cub cuc cud cue (u 0), kX3 cua cva (u 1), aI y cva 10 (u 2), kX1 cub (u 3), kX8 cuc cvc1 cvc2 cvc3 cvc4 cvc5 (u 4), aI y cvc1 20 (u 5), aI y cvc2 20 (u 6), aI y cvc3 20 (u 7), aI y cvc4 20 (u 8), aI y cvc5 20 oc, kX10 cud cvd (u 9), aI y cvd 32 (u 10), kX0 cue cve (u 11), aI y cve 3 (u 12)])) (va_A ([aJ y jq 1 jo] ++ [kX11 h qt fh kh ch qh qs Z0, kX7 kh kua kub kuc kud kue (z 0), kX3 kua kva (z 1), aI y kva 10 (z 2), kX1 kub (z 3), kX8 kuc kvc1 kvc2 kvc3 kvc4 kvc5 (z 4), aI y kvc1 20 (z 5), aI y kvc2 20 (z 6), aI y kvc3 20 (z 7), aI y kvc4 20 (z 8), aI y kvc5 20 o, kX10 kud kvd (z 9), aI y kvd 32 (z 10), kX0 kue kve (z 11), aI y kve 3 (z 12), kX7 ch cua cub cuc cud cue (zc 0), kX3 cua cva (zc 1), aI y cva 10 (zc 2), kX1 cub (zc 3), kX8 cuc cvc1 cvc2 cvc3 cvc4 cvc5 (zc 4), aI y cvc1 20 (zc 5), aI y cvc2 20 (zc 6), aI y cvc3 20 (zc 7), aI y cvc4 20 (zc 8), aI y cvc5 20 oc, kX10 cud cvd (zc 9), aI y cvd 32 (zc 10), kX0 cue cve (zc 11), aI y cve 3 (zc 12)]) sz)) XN 1 6 (va_A ([aJ y jq 1 jo] ++ [kX11 h qt fh kh ch qh qs Z0, kX7 kh kua kub kuc kud kue (z 0), kX3 kua kva (z 1), aI y kva 10 (z 2), kX1 kub (z 3), kX8 kuc kvc1 kvc2 kvc3 kvc4 kvc5 (z 4), aI y kvc1 20 (z 5), aI y kvc2 20 (z 6), aI y kvc3 20 (z 7), aI y kvc4 20 (z 8), aI y kvc5 20 o, kX10 kud kvd (z 9), aI y kvd 32 (z 10), kX0 kue kve (z 11), aI y kve 3 (z 12), kX7 ch cua cub cuc cud cue (zc 0), kX3 cua cva (zc 1), aI y cva 10 (zc 2), kX1 cub (zc 3), kX8 cuc cvc1 cvc2 cvc3 cvc4 cvc5 (zc 4), aI y cvc1 20 (zc 5), aI y cvc2 20 (zc 6), aI y cvc3 20 (zc 7), aI y cvc4 20 (zc 8), aI y cvc5 20 oc, kX10 cud cvd (zc 9), aI y cvd 32 (zc 10), kX0 cue cve (zc 11), aI y cve 3 (zc 12)]) sz) := by
  refine vx_ofWH (cc := cL_ahead) (maxL := 5) (ret := (some .int)) (hh := [(0, 10, 13, 13)]) (by decide) rfl ?_
  intro p e s m args below meth c s₁ B hml hv
  obtain ⟨rfl, hsz, hP, ⟨hK, hN⟩, hD0, hTY⟩ := hv
  have hx := B.exec
  have hb := B.bytes
  have hr := B.returns
  have hts := atoms_spec (ws := wsL_ahead) B.pre
  have hown : s.vm.findClass RL = some m.cls := findClass_of_methodNamed B.named
  have hlocks := B.notSynchronized
  have htb : c.exceptionTable.toList = tableOf [(0, 10, 13, 13)] := vx_table (x := yL_ahead) B (hts (.codeWith yL_ahead cL_ahead 5 (some .int) [(0, 10, 13, 13)]) (List.mem_cons_self))
  subst hsz
  have hD := hD0.self (sz := s.heap.size)
  generalize hAe : va_A ([aJ y jq 1 jo] ++ [kX11 h qt fh kh ch qh qs Z0, kX7 kh kua kub kuc kud kue (z 0), kX3 kua kva (z 1), aI y kva 10 (z 2), kX1 kub (z 3), kX8 kuc kvc1 kvc2 kvc3 kvc4 kvc5 (z 4), aI y kvc1 20 (z 5), aI y kvc2 20 (z 6), aI y kvc3 20 (z 7), aI y kvc4 20 (z 8), aI y kvc5 20 o, kX10 kud kvd (z 9), aI y kvd 32 (z 10), kX0 kue kve (z 11), aI y kve 3 (z 12), kX7 ch cua cub cuc cud cue (zc 0), kX3 cua cva (zc 1), aI y cva 10 (zc 2), kX1 cub (zc 3), kX8 cuc cvc1 cvc2 cvc3 cvc4 cvc5 (zc 4), aI y cvc1 20 (zc 5), aI y cvc2 20 (zc 6), aI y cvc3 20 (zc 7), aI y cvc4 20 (zc 8), aI y cvc5 20 oc, kX10 cud cvd (zc 9), aI y cvd 32 (zc 10), kX0 cue cve (zc 11), aI y cve 3 (zc 12)]) s.heap.size = A at hD hTY ⊢
  have hA : ∀ q : Nat, s.heap.size ≤ q → A q := fun q h => by rw [← hAe]; exact Or.inr h
  have hS : va_S A s.heap s.heap [] := va_S.rf
  have hP : va_P G vwCl ([aJ y jq 1 jo] ++ [kX11 h qt fh kh ch qh qs Z0, kX7 kh kua kub kuc kud kue (z 0), kX3 kua kva (z 1), aI y kva 10 (z 2), kX1 kub (z 3), kX8 kuc kvc1 kvc2 kvc3 kvc4 kvc5 (z 4), aI y kvc1 20 (z 5), aI y kvc2 20 (z 6), aI y kvc3 20 (z 7), aI y kvc4 20 (z 8), aI y kvc5 20 o, kX10 kud kvd (z 9), aI y kvd 32 (z 10), kX0 kue kve (z 11), aI y kve 3 (z 12), kX7 ch cua cub cuc cud cue (zc 0), kX3 cua cva (zc 1), aI y cva 10 (zc 2), kX1 cub (zc 3), kX8 cuc cvc1 cvc2 cvc3 cvc4 cvc5 (zc 4), aI y cvc1 20 (zc 5), aI y cvc2 20 (zc 6), aI y cvc3 20 (zc 7), aI y cvc4 20 (zc 8), aI y cvc5 20 oc, kX10 cud cvd (zc 9), aI y cvd 32 (zc 10), kX0 cue cve (zc 11), aI y cve 3 (zc 12)]) s.heap := hP
  have hK4 : va_K G vwCl (tyG y) s := hK.sub (tys' := tyG y) [0, 1, 2, 3] rfl
  have hl := lv_entry ([.ref h, .int a1, .int a2, .ref jq]) (n := 5) (Nat.le_of_ble_eq_true rfl)
  rw [lg_entry_eq]
  generalize (lg_sl ([.ref h, .int a1, .int a2, .ref jq]) ++ List.replicate (5 - (lg_sl ([.ref h, .int a1, .int a2, .ref jq])).length) Slot.unset).toArray = ls at hl ⊢
  have hl : lv_has ls 5 [(0, .ref h), (1, .int a1), (2, .int a2), (3, .ref jq)] := hl
  obtain ⟨QQ, hQQ⟩ : ∃ zq9, zq9 = vx_MQ below (QHi G (cdK 1 (s_X11_ahead_k a1 a2)) (fun u : (Nat → Nat → Int32) => ([aJ y jq 1 jo] ++ [kX11 h qt fh kh ch qh qs Z0, kX7 kh kua kub kuc kud kue (z 0), kX3 kua kva (z 1), aI y kva 10 (z 2), kX1 kub (z 3), kX8 kuc kvc1 kvc2 kvc3 kvc4 kvc5 (z 4), aI y kvc1 20 (z 5), aI y kvc2 20 (z 6), aI y kvc3 20 (z 7), aI y kvc4 20 (z 8), aI y kvc5 20 o, kX10 kud kvd (z 9), aI y kvd 32 (z 10), kX0 kue kve (z 11), aI y kve 3 (z 12), kX7 ch cua cub cuc cud cue (u 0), kX3 cua cva (u 1), aI y cva 10 (u 2), kX1 cub (u 3), kX8 cuc cvc1 cvc2 cvc3 cvc4 cvc5 (u 4), aI y cvc1 20 (u 5), aI y cvc2 20 (u 6), aI y cvc3 20 (u 7), aI y cvc4 20 (u 8), aI y cvc5 20 oc, kX10 cud cvd (u 9), aI y cvd 32 (u 10), kX0 cue cve (u 11), aI y cve 3 (u 12)])) A) XN ([.ref h, .int a1, .int a2, .ref jq] : List Value).toArray s 1 6 A := ⟨_, rfl⟩
  rw [← hQQ]
  refine lv_aload_n hx hb dL_ahead_0 rfl (lv_at hl 3 rfl) ?_
  refine lv_iconst (v := 0) hx hb dL_ahead_1 (by decide) ?_
  refine lv_aload_n hx hb dL_ahead_2 rfl (lv_at hl 0 rfl) ?_
  refine lv_iload_n hx hb dL_ahead_3 rfl (lv_at hl 1 rfl) ?_
  refine lv_iload_n hx hb dL_ahead_4 rfl (lv_at hl 2 rfl) ?_
  refine cl_X (wr := [aJ y jq 1 jo]) (wc := [kX11 h qt fh kh ch qh qs Z0, kX7 kh kua kub kuc kud kue (z 0), kX3 kua kva (z 1), aI y kva 10 (z 2), kX1 kub (z 3), kX8 kuc kvc1 kvc2 kvc3 kvc4 kvc5 (z 4), aI y kvc1 20 (z 5), aI y kvc2 20 (z 6), aI y kvc3 20 (z 7), aI y kvc4 20 (z 8), aI y kvc5 20 o, kX10 kud kvd (z 9), aI y kvd 32 (z 10), kX0 kue kve (z 11), aI y kve 3 (z 12), kX7 ch cua cub cuc cud cue (zc 0), kX3 cua cva (zc 1), aI y cva 10 (zc 2), kX1 cub (zc 3), kX8 cuc cvc1 cvc2 cvc3 cvc4 cvc5 (zc 4), aI y cvc1 20 (zc 5), aI y cvc2 20 (zc 6), aI y cvc3 20 (zc 7), aI y cvc4 20 (zc 8), aI y cvc5 20 oc, kX10 cud cvd (zc 9), aI y cvd 32 (zc 10), kX0 cue cve (zc 11), aI y cve 3 (zc 12)]) (vx_runV (As := [.int a1, .int a2]) (rest := [.int 0, .ref jq]) ⟨hx, hb, hml, hown, hts⟩ (c_X11_ahead l G y h a1 a2 qt fh kh ch qh qs kua kub kuc kud kue z kva kvc1 kvc2 kvc3 kvc4 kvc5 o kvd kve cua cub cuc cud cue zc cva cvc1 cvc2 cvc3 cvc4 cvc5 oc cvd cve s.heap.size hrz hez hgz hTC hfl) (cwV 2 hts gL_ahead_X11_ahead rfl rfl rfl (by decide +kernel) ⟨Nat.le_of_ble_eq_true rfl, Nat.le_of_ble_eq_true rfl⟩) (PHX_V (A0 := A) (P_r hP) hK4 hN (D_r hD) hTY.1 hS (F_r hD hS hA) (ci := 9) (q0 := 0) rfl rfl) rfl rfl hl.1 rfl (lv_room (Nat.le_of_ble_eq_true rfl)) dL_ahead_5 ⟨Nat.le_of_ble_eq_true rfl, Nat.le_of_ble_eq_true rfl⟩) hP hD hS hA (fun E ce q9 u H locs hE hP hD hS hce hcv hcl => ?_) (fun u H locs hP hD hS => ?_)
  · rcases hE with ⟨rfl, hE⟩ | ⟨rfl, hE⟩ | ⟨rfl, hE⟩
    · refine vx_catch hown [] ⟨0, 10, 13, 13⟩ [] (htb.trans rfl) (fun z hz => by cases hz) (by decide) (by decide) (hts (.classLink RL 13 "java/lang/IllegalArgumentException") (by decide +kernel)) (va_Nw.use rfl (hTY.1.2.1 _ mIA)) hce hcv hcl ?_
      refine lv_astore (lv' := [(4, .ref q9), (0, .ref h), (1, .int a1), (2, .int a2), (3, .ref jq)]) hx hb dL_ahead_13 hl (by decide) rfl (fun ls hl => ?_)
      refine lv_iconst (v := 1) hx hb dL_ahead_15 (by decide) ?_
      rw [hQQ]
      refine vx_ret ?_
      exact W.iret hx hb hr (end_Hi u hP hD hS (cd_1 hE (by decide)) rfl) hS.2.2 dL_ahead_16
    · rcases kx_ahead a1 a2 with k9 | k9
      · exact absurd (hE.trans k9) (by decide)
      · exact absurd (hE.trans k9) (by decide)
    · rcases kx_ahead a1 a2 with k9 | k9
      · exact absurd (hE.trans k9) (by decide)
      · exact absurd (hE.trans k9) (by decide)
  · exact absurd u.2 hk0
theorem kx_outcome (a1 : Int32) (a2 : Int32) (a3 : Int32) : s_X11_outcome_k a1 a2 a3 = 0 ∨ s_X11_outcome_k a1 a2 a3 = 1 ∨ s_X11_outcome_k a1 a2 a3 = 3 := by
  unfold s_X11_outcome_k
  exact k_ite (Q := (fun x : Int32 => x = 0 ∨ x = 1 ∨ x = 3)) (Or.inr (Or.inr rfl)) (k_ite (Q := (fun x : Int32 => x = 0 ∨ x = 1 ∨ x = 3)) (Or.inr (Or.inl rfl)) (k_ite (Q := (fun x : Int32 => x = 0 ∨ x = 1 ∨ x = 3)) (Or.inr (Or.inl rfl)) (Or.inl rfl)))
abbrev rmL_outcome : Room := ({ frames := 7, cells := 1, slots := 6, locals := 168 } : Room)
set_option maxHeartbeats 400000 in
set_option maxRecDepth 100000 in
theorem c_L_outcome_y (l : Launch) (G : va_G) (y : Nat → ClassId) (h : Nat) (a1 : Int32) (a2 : Int32) (a3 : Int32) (qt : Nat) (fh : Nat) (kh : Nat) (ch : Nat) (qh : Nat) (qs : Nat) (kua : Nat) (kub : Nat) (kuc : Nat) (kud : Nat) (kue : Nat) (z : Nat → Nat → Int32) (kva : Nat) (kvc1 : Nat) (kvc2 : Nat) (kvc3 : Nat) (kvc4 : Nat) (kvc5 : Nat) (o : Nat → Int32) (kvd : Nat) (kve : Nat) (cua : Nat) (cub : Nat) (cuc : Nat) (cud : Nat) (cue : Nat) (zc : Nat → Nat → Int32) (cva : Nat) (cvc1 : Nat) (cvc2 : Nat) (cvc3 : Nat) (cvc4 : Nat) (cvc5 : Nat) (oc : Nat → Int32) (cvd : Nat) (cve : Nat) (jq : Nat) (jo : Nat → Int64) (sz : Nat) (hrz : z 3 7 = 0 ∨ z 3 7 = 1) (hez : z 3 10 = 0 ∨ z 3 10 = 1) (hgz : z 4 6 = 0 ∨ z 4 6 = 1) (hTC : TC z) (hk0 : (s_X11_outcome_k a1 a2 a3) = 0) (hfl : l.stackTraces = false) : vx_Met l yL_outcome wsL_outcome rmL_outcome (PHL G y [.ref h, .int a1, .int a2, .int a3, .ref jq] ([aJ y jq 1 jo] ++ [kX11 h qt fh kh ch qh qs Z0, kX7 kh kua kub kuc kud kue (z 0), kX3 kua kva (z 1), aI y kva 10 (z 2), kX1 kub (z 3), kX8 kuc kvc1 kvc2 kvc3 kvc4 kvc5 (z 4), aI y kvc1 20 (z 5), aI y kvc2 20 (z 6), aI y kvc3 20 (z 7), aI y kvc4 20 (z 8), aI y kvc5 20 o, kX10 kud kvd (z 9), aI y kvd 32 (z 10), kX0 kue kve (z 11), aI y kve 3 (z 12), kX7 ch cua cub cuc cud cue (zc 0), kX3 cua cva (zc 1), aI y cva 10 (zc 2), kX1 cub (zc 3), kX8 cuc cvc1 cvc2 cvc3 cvc4 cvc5 (zc 4), aI y cvc1 20 (zc 5), aI y cvc2 20 (zc 6), aI y cvc3 20 (zc 7), aI y cvc4 20 (zc 8), aI y cvc5 20 oc, kX10 cud cvd (zc 9), aI y cvd 32 (zc 10), kX0 cue cve (zc 11), aI y cve 3 (zc 12)]) sz) (QHi G 0 (fun u : (Nat → Int32) × (Nat → Int32) × (Nat → Nat → Int32) => ([aJ y jq 1 (vp_updL jo 0 ((s_X11_outcome_r a1 a2 a3 z)).toInt64)] ++ [kX11 h qt fh kh ch qh qs Z0, kX7 kh kua kub kuc kud kue (z 0), kX3 kua kva (z 1), aI y kva 10 (z 2), kX1 kub (z 3), kX8 kuc kvc1 kvc2 kvc3 kvc4 kvc5 (z 4), aI y kvc1 20 (z 5), aI y kvc2 20 (z 6), aI y kvc3 20 (z 7), aI y kvc4 20 (z 8), aI y kvc5 20 u.1, kX10 kud kvd (z 9), aI y kvd 32 (z 10), kX0 kue kve (z 11), aI y kve 3 (z 12), kX7 ch cua cub cuc cud cue (u.2.2 0), kX3 cua cva (u.2.2 1), aI y cva 10 (u.2.2 2), kX1 cub (u.2.2 3), kX8 cuc cvc1 cvc2 cvc3 cvc4 cvc5 (u.2.2 4), aI y cvc1 20 (u.2.2 5), aI y cvc2 20 (u.2.2 6), aI y cvc3 20 (u.2.2 7), aI y cvc4 20 (u.2.2 8), aI y cvc5 20 u.2.1, kX10 cud cvd (u.2.2 9), aI y cvd 32 (u.2.2 10), kX0 cue cve (u.2.2 11), aI y cve 3 (u.2.2 12)])) (va_A ([aJ y jq 1 jo] ++ [kX11 h qt fh kh ch qh qs Z0, kX7 kh kua kub kuc kud kue (z 0), kX3 kua kva (z 1), aI y kva 10 (z 2), kX1 kub (z 3), kX8 kuc kvc1 kvc2 kvc3 kvc4 kvc5 (z 4), aI y kvc1 20 (z 5), aI y kvc2 20 (z 6), aI y kvc3 20 (z 7), aI y kvc4 20 (z 8), aI y kvc5 20 o, kX10 kud kvd (z 9), aI y kvd 32 (z 10), kX0 kue kve (z 11), aI y kve 3 (z 12), kX7 ch cua cub cuc cud cue (zc 0), kX3 cua cva (zc 1), aI y cva 10 (zc 2), kX1 cub (zc 3), kX8 cuc cvc1 cvc2 cvc3 cvc4 cvc5 (zc 4), aI y cvc1 20 (zc 5), aI y cvc2 20 (zc 6), aI y cvc3 20 (zc 7), aI y cvc4 20 (zc 8), aI y cvc5 20 oc, kX10 cud cvd (zc 9), aI y cvd 32 (zc 10), kX0 cue cve (zc 11), aI y cve 3 (zc 12)]) sz)) XN 1 6 (va_A ([aJ y jq 1 jo] ++ [kX11 h qt fh kh ch qh qs Z0, kX7 kh kua kub kuc kud kue (z 0), kX3 kua kva (z 1), aI y kva 10 (z 2), kX1 kub (z 3), kX8 kuc kvc1 kvc2 kvc3 kvc4 kvc5 (z 4), aI y kvc1 20 (z 5), aI y kvc2 20 (z 6), aI y kvc3 20 (z 7), aI y kvc4 20 (z 8), aI y kvc5 20 o, kX10 kud kvd (z 9), aI y kvd 32 (z 10), kX0 kue kve (z 11), aI y kve 3 (z 12), kX7 ch cua cub cuc cud cue (zc 0), kX3 cua cva (zc 1), aI y cva 10 (zc 2), kX1 cub (zc 3), kX8 cuc cvc1 cvc2 cvc3 cvc4 cvc5 (zc 4), aI y cvc1 20 (zc 5), aI y cvc2 20 (zc 6), aI y cvc3 20 (zc 7), aI y cvc4 20 (zc 8), aI y cvc5 20 oc, kX10 cud cvd (zc 9), aI y cvd 32 (zc 10), kX0 cue cve (zc 11), aI y cve 3 (zc 12)]) sz) := by
  refine vx_ofWH (cc := cL_outcome) (maxL := 6) (ret := (some .int)) (hh := [(0, 12, 15, 28), (0, 12, 19, 13)]) (by decide) rfl ?_
  intro p e s m args below meth c s₁ B hml hv
  obtain ⟨rfl, hsz, hP, ⟨hK, hN⟩, hD0, hTY⟩ := hv
  have hx := B.exec
  have hb := B.bytes
  have hr := B.returns
  have hts := atoms_spec (ws := wsL_outcome) B.pre
  have hown : s.vm.findClass RL = some m.cls := findClass_of_methodNamed B.named
  have hlocks := B.notSynchronized
  have htb : c.exceptionTable.toList = tableOf [(0, 12, 15, 28), (0, 12, 19, 13)] := vx_table (x := yL_outcome) B (hts (.codeWith yL_outcome cL_outcome 6 (some .int) [(0, 12, 15, 28), (0, 12, 19, 13)]) (List.mem_cons_self))
  subst hsz
  have hD := hD0.self (sz := s.heap.size)
  generalize hAe : va_A ([aJ y jq 1 jo] ++ [kX11 h qt fh kh ch qh qs Z0, kX7 kh kua kub kuc kud kue (z 0), kX3 kua kva (z 1), aI y kva 10 (z 2), kX1 kub (z 3), kX8 kuc kvc1 kvc2 kvc3 kvc4 kvc5 (z 4), aI y kvc1 20 (z 5), aI y kvc2 20 (z 6), aI y kvc3 20 (z 7), aI y kvc4 20 (z 8), aI y kvc5 20 o, kX10 kud kvd (z 9), aI y kvd 32 (z 10), kX0 kue kve (z 11), aI y kve 3 (z 12), kX7 ch cua cub cuc cud cue (zc 0), kX3 cua cva (zc 1), aI y cva 10 (zc 2), kX1 cub (zc 3), kX8 cuc cvc1 cvc2 cvc3 cvc4 cvc5 (zc 4), aI y cvc1 20 (zc 5), aI y cvc2 20 (zc 6), aI y cvc3 20 (zc 7), aI y cvc4 20 (zc 8), aI y cvc5 20 oc, kX10 cud cvd (zc 9), aI y cvd 32 (zc 10), kX0 cue cve (zc 11), aI y cve 3 (zc 12)]) s.heap.size = A at hD hTY ⊢
  have hA : ∀ q : Nat, s.heap.size ≤ q → A q := fun q h => by rw [← hAe]; exact Or.inr h
  have hS : va_S A s.heap s.heap [] := va_S.rf
  have hP : va_P G vwCl ([aJ y jq 1 jo] ++ [kX11 h qt fh kh ch qh qs Z0, kX7 kh kua kub kuc kud kue (z 0), kX3 kua kva (z 1), aI y kva 10 (z 2), kX1 kub (z 3), kX8 kuc kvc1 kvc2 kvc3 kvc4 kvc5 (z 4), aI y kvc1 20 (z 5), aI y kvc2 20 (z 6), aI y kvc3 20 (z 7), aI y kvc4 20 (z 8), aI y kvc5 20 o, kX10 kud kvd (z 9), aI y kvd 32 (z 10), kX0 kue kve (z 11), aI y kve 3 (z 12), kX7 ch cua cub cuc cud cue (zc 0), kX3 cua cva (zc 1), aI y cva 10 (zc 2), kX1 cub (zc 3), kX8 cuc cvc1 cvc2 cvc3 cvc4 cvc5 (zc 4), aI y cvc1 20 (zc 5), aI y cvc2 20 (zc 6), aI y cvc3 20 (zc 7), aI y cvc4 20 (zc 8), aI y cvc5 20 oc, kX10 cud cvd (zc 9), aI y cvd 32 (zc 10), kX0 cue cve (zc 11), aI y cve 3 (zc 12)]) s.heap := hP
  have hK4 : va_K G vwCl (tyG y) s := hK.sub (tys' := tyG y) [0, 1, 2, 3] rfl
  have hl := lv_entry ([.ref h, .int a1, .int a2, .int a3, .ref jq]) (n := 6) (Nat.le_of_ble_eq_true rfl)
  rw [lg_entry_eq]
  generalize (lg_sl ([.ref h, .int a1, .int a2, .int a3, .ref jq]) ++ List.replicate (6 - (lg_sl ([.ref h, .int a1, .int a2, .int a3, .ref jq])).length) Slot.unset).toArray = ls at hl ⊢
  have hl : lv_has ls 6 [(0, .ref h), (1, .int a1), (2, .int a2), (3, .int a3), (4, .ref jq)] := hl
  obtain ⟨QQ, hQQ⟩ : ∃ zq9, zq9 = vx_MQ below (QHi G 0 (fun u : (Nat → Int32) × (Nat → Int32) × (Nat → Nat → Int32) => ([aJ y jq 1 (vp_updL jo 0 ((s_X11_outcome_r a1 a2 a3 z)).toInt64)] ++ [kX11 h qt fh kh ch qh qs Z0, kX7 kh kua kub kuc kud kue (z 0), kX3 kua kva (z 1), aI y kva 10 (z 2), kX1 kub (z 3), kX8 kuc kvc1 kvc2 kvc3 kvc4 kvc5 (z 4), aI y kvc1 20 (z 5), aI y kvc2 20 (z 6), aI y kvc3 20 (z 7), aI y kvc4 20 (z 8), aI y kvc5 20 u.1, kX10 kud kvd (z 9), aI y kvd 32 (z 10), kX0 kue kve (z 11), aI y kve 3 (z 12), kX7 ch cua cub cuc cud cue (u.2.2 0), kX3 cua cva (u.2.2 1), aI y cva 10 (u.2.2 2), kX1 cub (u.2.2 3), kX8 cuc cvc1 cvc2 cvc3 cvc4 cvc5 (u.2.2 4), aI y cvc1 20 (u.2.2 5), aI y cvc2 20 (u.2.2 6), aI y cvc3 20 (u.2.2 7), aI y cvc4 20 (u.2.2 8), aI y cvc5 20 u.2.1, kX10 cud cvd (u.2.2 9), aI y cvd 32 (u.2.2 10), kX0 cue cve (u.2.2 11), aI y cve 3 (u.2.2 12)])) A) XN ([.ref h, .int a1, .int a2, .int a3, .ref jq] : List Value).toArray s 1 6 A := ⟨_, rfl⟩
  rw [← hQQ]
  refine lv_aload hx hb dL_outcome_0 (lv_at hl 4 rfl) ?_
  refine lv_iconst (v := 0) hx hb dL_outcome_2 (by decide) ?_
  refine lv_aload_n hx hb dL_outcome_3 rfl (lv_at hl 0 rfl) ?_
  refine lv_iload_n hx hb dL_outcome_4 rfl (lv_at hl 1 rfl) ?_
  refine lv_iload_n hx hb dL_outcome_5 rfl (lv_at hl 2 rfl) ?_
  refine lv_iload_n hx hb dL_outcome_6 rfl (lv_at hl 3 rfl) ?_
  refine cl_X (wr := [aJ y jq 1 jo]) (wc := [kX11 h qt fh kh ch qh qs Z0, kX7 kh kua kub kuc kud kue (z 0), kX3 kua kva (z 1), aI y kva 10 (z 2), kX1 kub (z 3), kX8 kuc kvc1 kvc2 kvc3 kvc4 kvc5 (z 4), aI y kvc1 20 (z 5), aI y kvc2 20 (z 6), aI y kvc3 20 (z 7), aI y kvc4 20 (z 8), aI y kvc5 20 o, kX10 kud kvd (z 9), aI y kvd 32 (z 10), kX0 kue kve (z 11), aI y kve 3 (z 12), kX7 ch cua cub cuc cud cue (zc 0), kX3 cua cva (zc 1), aI y cva 10 (zc 2), kX1 cub (zc 3), kX8 cuc cvc1 cvc2 cvc3 cvc4 cvc5 (zc 4), aI y cvc1 20 (zc 5), aI y cvc2 20 (zc 6), aI y cvc3 20 (zc 7), aI y cvc4 20 (zc 8), aI y cvc5 20 oc, kX10 cud cvd (zc 9), aI y cvd 32 (zc 10), kX0 cue cve (zc 11), aI y cve 3 (zc 12)]) (vx_runV (As := [.int a1, .int a2, .int a3]) (rest := [.int 0, .ref jq]) ⟨hx, hb, hml, hown, hts⟩ (c_X11_outcome l G y h a1 a2 a3 qt fh kh ch qh qs kua kub kuc kud kue z kva kvc1 kvc2 kvc3 kvc4 kvc5 o kvd kve cua cub cuc cud cue zc cva cvc1 cvc2 cvc3 cvc4 cvc5 oc cvd cve s.heap.size hrz hez hgz hTC hfl) (cwV 3 hts gL_outcome_X11_outcome rfl rfl rfl (by decide +kernel) ⟨Nat.le_of_ble_eq_true rfl, Nat.le_of_ble_eq_true rfl⟩) (PHX_V (A0 := A) (P_r hP) hK4 hN (D_r hD) hTY.1 hS (F_r hD hS hA) (ci := 9) (q0 := 0) rfl rfl) rfl rfl hl.1 rfl (lv_room (Nat.le_of_ble_eq_true rfl)) dL_outcome_7 ⟨Nat.le_of_ble_eq_true rfl, Nat.le_of_ble_eq_true rfl⟩) hP hD hS hA (fun E ce q9 u H locs hE hP hD hS hce hcv hcl => ?_) (fun u H locs hP hD hS => ?_)
  · exact (exC_0 hk0 hE).elim
  · refine lv_i2l (v := ((s_X11_outcome_r a1 a2 a3 z)).toInt64) hx hb dL_outcome_10 rfl ?_
    refine as_o hx hb hK hP hD hS dL_outcome_11 (fun H locs hP hD hS => ?_)
    refine lv_goto (tgt := 23) hx hb dL_outcome_12 (by decide) ?_
    refine lv_iconst (v := 0) hx hb dL_outcome_23 (by decide) ?_
    rw [hQQ]
    refine vx_ret ?_
    exact W.iret hx hb hr (end_Hi u.1 hP hD hS rfl rfl) hS.2.2 dL_outcome_24
set_option maxHeartbeats 400000 in
set_option maxRecDepth 100000 in
theorem c_L_outcome_n (l : Launch) (G : va_G) (y : Nat → ClassId) (h : Nat) (a1 : Int32) (a2 : Int32) (a3 : Int32) (qt : Nat) (fh : Nat) (kh : Nat) (ch : Nat) (qh : Nat) (qs : Nat) (kua : Nat) (kub : Nat) (kuc : Nat) (kud : Nat) (kue : Nat) (z : Nat → Nat → Int32) (kva : Nat) (kvc1 : Nat) (kvc2 : Nat) (kvc3 : Nat) (kvc4 : Nat) (kvc5 : Nat) (o : Nat → Int32) (kvd : Nat) (kve : Nat) (cua : Nat) (cub : Nat) (cuc : Nat) (cud : Nat) (cue : Nat) (zc : Nat → Nat → Int32) (cva : Nat) (cvc1 : Nat) (cvc2 : Nat) (cvc3 : Nat) (cvc4 : Nat) (cvc5 : Nat) (oc : Nat → Int32) (cvd : Nat) (cve : Nat) (jq : Nat) (jo : Nat → Int64) (sz : Nat) (hrz : z 3 7 = 0 ∨ z 3 7 = 1) (hez : z 3 10 = 0 ∨ z 3 10 = 1) (hgz : z 4 6 = 0 ∨ z 4 6 = 1) (hTC : TC z) (hk0 : ¬ (s_X11_outcome_k a1 a2 a3) = 0) (hfl : l.stackTraces = false) : vx_Met l yL_outcome wsL_outcome rmL_outcome (PHL G y [.ref h, .int a1, .int a2, .int a3, .ref jq] ([aJ y jq 1 jo] ++ [kX11 h qt fh kh ch qh qs Z0, kX7 kh kua kub kuc kud kue (z 0), kX3 kua kva (z 1), aI y kva 10 (z 2), kX1 kub (z 3), kX8 kuc kvc1 kvc2 kvc3 kvc4 kvc5 (z 4), aI y kvc1 20 (z 5), aI y kvc2 20 (z 6), aI y kvc3 20 (z 7), aI y kvc4 20 (z 8), aI y kvc5 20 o, kX10 kud kvd (z 9), aI y kvd 32 (z 10), kX0 kue kve (z 11), aI y kve 3 (z 12), kX7 ch cua cub cuc cud cue (zc 0), kX3 cua cva (zc 1), aI y cva 10 (zc 2), kX1 cub (zc 3), kX8 cuc cvc1 cvc2 cvc3 cvc4 cvc5 (zc 4), aI y cvc1 20 (zc 5), aI y cvc2 20 (zc 6), aI y cvc3 20 (zc 7), aI y cvc4 20 (zc 8), aI y cvc5 20 oc, kX10 cud cvd (zc 9), aI y cvd 32 (zc 10), kX0 cue cve (zc 11), aI y cve 3 (zc 12)]) sz) (QHi G (cdK 3 (s_X11_outcome_k a1 a2 a3)) (fun u : (Nat → Int32) × (Nat → Int32) × (Nat → Nat → Int32) => ([aJ y jq 1 jo] ++ [kX11 h qt fh kh ch qh qs Z0, kX7 kh kua kub kuc kud kue (z 0), kX3 kua kva (z 1), aI y kva 10 (z 2), kX1 kub (z 3), kX8 kuc kvc1 kvc2 kvc3 kvc4 kvc5 (z 4), aI y kvc1 20 (z 5), aI y kvc2 20 (z 6), aI y kvc3 20 (z 7), aI y kvc4 20 (z 8), aI y kvc5 20 u.1, kX10 kud kvd (z 9), aI y kvd 32 (z 10), kX0 kue kve (z 11), aI y kve 3 (z 12), kX7 ch cua cub cuc cud cue (u.2.2 0), kX3 cua cva (u.2.2 1), aI y cva 10 (u.2.2 2), kX1 cub (u.2.2 3), kX8 cuc cvc1 cvc2 cvc3 cvc4 cvc5 (u.2.2 4), aI y cvc1 20 (u.2.2 5), aI y cvc2 20 (u.2.2 6), aI y cvc3 20 (u.2.2 7), aI y cvc4 20 (u.2.2 8), aI y cvc5 20 u.2.1, kX10 cud cvd (u.2.2 9), aI y cvd 32 (u.2.2 10), kX0 cue cve (u.2.2 11), aI y cve 3 (u.2.2 12)])) (va_A ([aJ y jq 1 jo] ++ [kX11 h qt fh kh ch qh qs Z0, kX7 kh kua kub kuc kud kue (z 0), kX3 kua kva (z 1), aI y kva 10 (z 2), kX1 kub (z 3), kX8 kuc kvc1 kvc2 kvc3 kvc4 kvc5 (z 4), aI y kvc1 20 (z 5), aI y kvc2 20 (z 6), aI y kvc3 20 (z 7), aI y kvc4 20 (z 8), aI y kvc5 20 o, kX10 kud kvd (z 9), aI y kvd 32 (z 10), kX0 kue kve (z 11), aI y kve 3 (z 12), kX7 ch cua cub cuc cud cue (zc 0), kX3 cua cva (zc 1), aI y cva 10 (zc 2), kX1 cub (zc 3), kX8 cuc cvc1 cvc2 cvc3 cvc4 cvc5 (zc 4), aI y cvc1 20 (zc 5), aI y cvc2 20 (zc 6), aI y cvc3 20 (zc 7), aI y cvc4 20 (zc 8), aI y cvc5 20 oc, kX10 cud cvd (zc 9), aI y cvd 32 (zc 10), kX0 cue cve (zc 11), aI y cve 3 (zc 12)]) sz)) XN 1 6 (va_A ([aJ y jq 1 jo] ++ [kX11 h qt fh kh ch qh qs Z0, kX7 kh kua kub kuc kud kue (z 0), kX3 kua kva (z 1), aI y kva 10 (z 2), kX1 kub (z 3), kX8 kuc kvc1 kvc2 kvc3 kvc4 kvc5 (z 4), aI y kvc1 20 (z 5), aI y kvc2 20 (z 6), aI y kvc3 20 (z 7), aI y kvc4 20 (z 8), aI y kvc5 20 o, kX10 kud kvd (z 9), aI y kvd 32 (z 10), kX0 kue kve (z 11), aI y kve 3 (z 12), kX7 ch cua cub cuc cud cue (zc 0), kX3 cua cva (zc 1), aI y cva 10 (zc 2), kX1 cub (zc 3), kX8 cuc cvc1 cvc2 cvc3 cvc4 cvc5 (zc 4), aI y cvc1 20 (zc 5), aI y cvc2 20 (zc 6), aI y cvc3 20 (zc 7), aI y cvc4 20 (zc 8), aI y cvc5 20 oc, kX10 cud cvd (zc 9), aI y cvd 32 (zc 10), kX0 cue cve (zc 11), aI y cve 3 (zc 12)]) sz) := by
  refine vx_ofWH (cc := cL_outcome) (maxL := 6) (ret := (some .int)) (hh := [(0, 12, 15, 28), (0, 12, 19, 13)]) (by decide) rfl ?_
  intro p e s m args below meth c s₁ B hml hv
  obtain ⟨rfl, hsz, hP, ⟨hK, hN⟩, hD0, hTY⟩ := hv
  have hx := B.exec
  have hb := B.bytes
  have hr := B.returns
  have hts := atoms_spec (ws := wsL_outcome) B.pre
  have hown : s.vm.findClass RL = some m.cls := findClass_of_methodNamed B.named
  have hlocks := B.notSynchronized
  have htb : c.exceptionTable.toList = tableOf [(0, 12, 15, 28), (0, 12, 19, 13)] := vx_table (x := yL_outcome) B (hts (.codeWith yL_outcome cL_outcome 6 (some .int) [(0, 12, 15, 28), (0, 12, 19, 13)]) (List.mem_cons_self))
  subst hsz
  have hD := hD0.self (sz := s.heap.size)
  generalize hAe : va_A ([aJ y jq 1 jo] ++ [kX11 h qt fh kh ch qh qs Z0, kX7 kh kua kub kuc kud kue (z 0), kX3 kua kva (z 1), aI y kva 10 (z 2), kX1 kub (z 3), kX8 kuc kvc1 kvc2 kvc3 kvc4 kvc5 (z 4), aI y kvc1 20 (z 5), aI y kvc2 20 (z 6), aI y kvc3 20 (z 7), aI y kvc4 20 (z 8), aI y kvc5 20 o, kX10 kud kvd (z 9), aI y kvd 32 (z 10), kX0 kue kve (z 11), aI y kve 3 (z 12), kX7 ch cua cub cuc cud cue (zc 0), kX3 cua cva (zc 1), aI y cva 10 (zc 2), kX1 cub (zc 3), kX8 cuc cvc1 cvc2 cvc3 cvc4 cvc5 (zc 4), aI y cvc1 20 (zc 5), aI y cvc2 20 (zc 6), aI y cvc3 20 (zc 7), aI y cvc4 20 (zc 8), aI y cvc5 20 oc, kX10 cud cvd (zc 9), aI y cvd 32 (zc 10), kX0 cue cve (zc 11), aI y cve 3 (zc 12)]) s.heap.size = A at hD hTY ⊢
  have hA : ∀ q : Nat, s.heap.size ≤ q → A q := fun q h => by rw [← hAe]; exact Or.inr h
  have hS : va_S A s.heap s.heap [] := va_S.rf
  have hP : va_P G vwCl ([aJ y jq 1 jo] ++ [kX11 h qt fh kh ch qh qs Z0, kX7 kh kua kub kuc kud kue (z 0), kX3 kua kva (z 1), aI y kva 10 (z 2), kX1 kub (z 3), kX8 kuc kvc1 kvc2 kvc3 kvc4 kvc5 (z 4), aI y kvc1 20 (z 5), aI y kvc2 20 (z 6), aI y kvc3 20 (z 7), aI y kvc4 20 (z 8), aI y kvc5 20 o, kX10 kud kvd (z 9), aI y kvd 32 (z 10), kX0 kue kve (z 11), aI y kve 3 (z 12), kX7 ch cua cub cuc cud cue (zc 0), kX3 cua cva (zc 1), aI y cva 10 (zc 2), kX1 cub (zc 3), kX8 cuc cvc1 cvc2 cvc3 cvc4 cvc5 (zc 4), aI y cvc1 20 (zc 5), aI y cvc2 20 (zc 6), aI y cvc3 20 (zc 7), aI y cvc4 20 (zc 8), aI y cvc5 20 oc, kX10 cud cvd (zc 9), aI y cvd 32 (zc 10), kX0 cue cve (zc 11), aI y cve 3 (zc 12)]) s.heap := hP
  have hK4 : va_K G vwCl (tyG y) s := hK.sub (tys' := tyG y) [0, 1, 2, 3] rfl
  have hl := lv_entry ([.ref h, .int a1, .int a2, .int a3, .ref jq]) (n := 6) (Nat.le_of_ble_eq_true rfl)
  rw [lg_entry_eq]
  generalize (lg_sl ([.ref h, .int a1, .int a2, .int a3, .ref jq]) ++ List.replicate (6 - (lg_sl ([.ref h, .int a1, .int a2, .int a3, .ref jq])).length) Slot.unset).toArray = ls at hl ⊢
  have hl : lv_has ls 6 [(0, .ref h), (1, .int a1), (2, .int a2), (3, .int a3), (4, .ref jq)] := hl
  obtain ⟨QQ, hQQ⟩ : ∃ zq9, zq9 = vx_MQ below (QHi G (cdK 3 (s_X11_outcome_k a1 a2 a3)) (fun u : (Nat → Int32) × (Nat → Int32) × (Nat → Nat → Int32) => ([aJ y jq 1 jo] ++ [kX11 h qt fh kh ch qh qs Z0, kX7 kh kua kub kuc kud kue (z 0), kX3 kua kva (z 1), aI y kva 10 (z 2), kX1 kub (z 3), kX8 kuc kvc1 kvc2 kvc3 kvc4 kvc5 (z 4), aI y kvc1 20 (z 5), aI y kvc2 20 (z 6), aI y kvc3 20 (z 7), aI y kvc4 20 (z 8), aI y kvc5 20 u.1, kX10 kud kvd (z 9), aI y kvd 32 (z 10), kX0 kue kve (z 11), aI y kve 3 (z 12), kX7 ch cua cub cuc cud cue (u.2.2 0), kX3 cua cva (u.2.2 1), aI y cva 10 (u.2.2 2), kX1 cub (u.2.2 3), kX8 cuc cvc1 cvc2 cvc3 cvc4 cvc5 (u.2.2 4), aI y cvc1 20 (u.2.2 5), aI y cvc2 20 (u.2.2 6), aI y cvc3 20 (u.2.2 7), aI y cvc4 20 (u.2.2 8), aI y cvc5 20 u.2.1, kX10 cud cvd (u.2.2 9), aI y cvd 32 (u.2.2 10), kX0 cue cve (u.2.2 11), aI y cve 3 (u.2.2 12)])) A) XN ([.ref h, .int a1, .int a2, .int a3, .ref jq] : List Value).toArray s 1 6 A := ⟨_, rfl⟩
  rw [← hQQ]
  refine lv_aload hx hb dL_outcome_0 (lv_at hl 4 rfl) ?_
  refine lv_iconst (v := 0) hx hb dL_outcome_2 (by decide) ?_
  refine lv_aload_n hx hb dL_outcome_3 rfl (lv_at hl 0 rfl) ?_
  refine lv_iload_n hx hb dL_outcome_4 rfl (lv_at hl 1 rfl) ?_
  refine lv_iload_n hx hb dL_outcome_5 rfl (lv_at hl 2 rfl) ?_
  refine lv_iload_n hx hb dL_outcome_6 rfl (lv_at hl 3 rfl) ?_
  refine cl_X (wr := [aJ y jq 1 jo]) (wc := [kX11 h qt fh kh ch qh qs Z0, kX7 kh kua kub kuc kud kue (z 0), kX3 kua kva (z 1), aI y kva 10 (z 2), kX1 kub (z 3), kX8 kuc kvc1 kvc2 kvc3 kvc4 kvc5 (z 4), aI y kvc1 20 (z 5), aI y kvc2 20 (z 6), aI y kvc3 20 (z 7), aI y kvc4 20 (z 8), aI y kvc5 20 o, kX10 kud kvd (z 9), aI y kvd 32 (z 10), kX0 kue kve (z 11), aI y kve 3 (z 12), kX7 ch cua cub cuc cud cue (zc 0), kX3 cua cva (zc 1), aI y cva 10 (zc 2), kX1 cub (zc 3), kX8 cuc cvc1 cvc2 cvc3 cvc4 cvc5 (zc 4), aI y cvc1 20 (zc 5), aI y cvc2 20 (zc 6), aI y cvc3 20 (zc 7), aI y cvc4 20 (zc 8), aI y cvc5 20 oc, kX10 cud cvd (zc 9), aI y cvd 32 (zc 10), kX0 cue cve (zc 11), aI y cve 3 (zc 12)]) (vx_runV (As := [.int a1, .int a2, .int a3]) (rest := [.int 0, .ref jq]) ⟨hx, hb, hml, hown, hts⟩ (c_X11_outcome l G y h a1 a2 a3 qt fh kh ch qh qs kua kub kuc kud kue z kva kvc1 kvc2 kvc3 kvc4 kvc5 o kvd kve cua cub cuc cud cue zc cva cvc1 cvc2 cvc3 cvc4 cvc5 oc cvd cve s.heap.size hrz hez hgz hTC hfl) (cwV 3 hts gL_outcome_X11_outcome rfl rfl rfl (by decide +kernel) ⟨Nat.le_of_ble_eq_true rfl, Nat.le_of_ble_eq_true rfl⟩) (PHX_V (A0 := A) (P_r hP) hK4 hN (D_r hD) hTY.1 hS (F_r hD hS hA) (ci := 9) (q0 := 0) rfl rfl) rfl rfl hl.1 rfl (lv_room (Nat.le_of_ble_eq_true rfl)) dL_outcome_7 ⟨Nat.le_of_ble_eq_true rfl, Nat.le_of_ble_eq_true rfl⟩) hP hD hS hA (fun E ce q9 u H locs hE hP hD hS hce hcv hcl => ?_) (fun u H locs hP hD hS => ?_)
  · rcases hE with ⟨rfl, hE⟩ | ⟨rfl, hE⟩ | ⟨rfl, hE⟩
    · refine vx_catch hown [⟨0, 12, 15, 28⟩] ⟨0, 12, 19, 13⟩ [] (htb.trans rfl) (fun z hz => by rcases List.mem_singleton.mp hz with rfl; exact Or.inr ⟨by decide, "java/lang/IndexOutOfBoundsException", hts (.classLink RL 28 "java/lang/IndexOutOfBoundsException") (by decide +kernel), hTY.2 _ mAO⟩) (by decide) (by decide) (hts (.classLink RL 13 "java/lang/IllegalArgumentException") (by decide +kernel)) (va_Nw.use rfl (hTY.1.2.1 _ mIA)) hce hcv hcl ?_
      refine lv_astore (lv' := [(5, .ref q9), (0, .ref h), (1, .int a1), (2, .int a2), (3, .int a3), (4, .ref jq)]) hx hb dL_outcome_19 hl (by decide) rfl (fun ls hl => ?_)
      refine lv_iconst (v := 2) hx hb dL_outcome_21 (by decide) ?_
      rw [hQQ]
      refine vx_ret ?_
      exact W.iret hx hb hr (end_Hi u hP hD hS (cd_2 hE (by decide) (by decide)) rfl) hS.2.2 dL_outcome_22
    · rcases kx_outcome a1 a2 a3 with k9 | k9 | k9
      · exact absurd (hE.trans k9) (by decide)
      · exact absurd (hE.trans k9) (by decide)
      · exact absurd (hE.trans k9) (by decide)
    · refine vx_catch hown [] ⟨0, 12, 15, 28⟩ [⟨0, 12, 19, 13⟩] (htb.trans rfl) (fun z hz => by cases hz) (by decide) (by decide) (hts (.classLink RL 28 "java/lang/IndexOutOfBoundsException") (by decide +kernel)) (va_Nw.use rfl (hTY.1.2.1 _ mIO)) hce hcv hcl ?_
      refine lv_astore (lv' := [(5, .ref q9), (0, .ref h), (1, .int a1), (2, .int a2), (3, .int a3), (4, .ref jq)]) hx hb dL_outcome_15 hl (by decide) rfl (fun ls hl => ?_)
      refine lv_iconst (v := 1) hx hb dL_outcome_17 (by decide) ?_
      rw [hQQ]
      refine vx_ret ?_
      exact W.iret hx hb hr (end_Hi u hP hD hS (cd_1 hE (by decide)) rfl) hS.2.2 dL_outcome_18
  · exact absurd u.2 hk0
theorem kx_bestRule (a1 : Int32) (z : Nat → Nat → Int32) : s_X11_bestRule_k a1 z = 0 ∨ s_X11_bestRule_k a1 z = 1 := by
  unfold s_X11_bestRule_k
  exact k_ite (Q := (fun x : Int32 => x = 0 ∨ x = 1)) (Or.inr rfl) (k_ite (Q := (fun x : Int32 => x = 0 ∨ x = 1)) (Or.inl rfl) (Or.inl rfl))
abbrev rmL_bestRule : Room := ({ frames := 7, cells := 1, slots := 6, locals := 170 } : Room)
set_option maxHeartbeats 400000 in
set_option maxRecDepth 100000 in
theorem c_L_bestRule_y (l : Launch) (G : va_G) (y : Nat → ClassId) (h : Nat) (a1 : Int32) (qt : Nat) (fh : Nat) (kh : Nat) (ch : Nat) (qh : Nat) (qs : Nat) (kua : Nat) (kub : Nat) (kuc : Nat) (kud : Nat) (kue : Nat) (z : Nat → Nat → Int32) (kva : Nat) (kvc1 : Nat) (kvc2 : Nat) (kvc3 : Nat) (kvc4 : Nat) (kvc5 : Nat) (o : Nat → Int32) (kvd : Nat) (kve : Nat) (cua : Nat) (cub : Nat) (cuc : Nat) (cud : Nat) (cue : Nat) (zc : Nat → Nat → Int32) (cva : Nat) (cvc1 : Nat) (cvc2 : Nat) (cvc3 : Nat) (cvc4 : Nat) (cvc5 : Nat) (oc : Nat → Int32) (cvd : Nat) (cve : Nat) (jq : Nat) (jo : Nat → Int64) (sz : Nat) (hrz : z 3 7 = 0 ∨ z 3 7 = 1) (hez : z 3 10 = 0 ∨ z 3 10 = 1) (hgz : z 4 6 = 0 ∨ z 4 6 = 1) (hTC : TC z) (hk0 : (s_X11_bestRule_k a1 z) = 0) (hfl : l.stackTraces = false) : vx_Met l yL_bestRule wsL_bestRule rmL_bestRule (PHL G y [.ref h, .int a1, .ref jq] ([aJ y jq 1 jo] ++ [kX11 h qt fh kh ch qh qs Z0, kX7 kh kua kub kuc kud kue (z 0), kX3 kua kva (z 1), aI y kva 10 (z 2), kX1 kub (z 3), kX8 kuc kvc1 kvc2 kvc3 kvc4 kvc5 (z 4), aI y kvc1 20 (z 5), aI y kvc2 20 (z 6), aI y kvc3 20 (z 7), aI y kvc4 20 (z 8), aI y kvc5 20 o, kX10 kud kvd (z 9), aI y kvd 32 (z 10), kX0 kue kve (z 11), aI y kve 3 (z 12), kX7 ch cua cub cuc cud cue (zc 0), kX3 cua cva (zc 1), aI y cva 10 (zc 2), kX1 cub (zc 3), kX8 cuc cvc1 cvc2 cvc3 cvc4 cvc5 (zc 4), aI y cvc1 20 (zc 5), aI y cvc2 20 (zc 6), aI y cvc3 20 (zc 7), aI y cvc4 20 (zc 8), aI y cvc5 20 oc, kX10 cud cvd (zc 9), aI y cvd 32 (zc 10), kX0 cue cve (zc 11), aI y cve 3 (zc 12)]) sz) (QHi G 0 (fun u : (Nat → Int32) × (Nat → Int32) × (Nat → Nat → Int32) => ([aJ y jq 1 (vp_updL jo 0 ((s_X11_bestRule_r a1 z)).toInt64)] ++ [kX11 h qt fh kh ch qh qs Z0, kX7 kh kua kub kuc kud kue (z 0), kX3 kua kva (z 1), aI y kva 10 (z 2), kX1 kub (z 3), kX8 kuc kvc1 kvc2 kvc3 kvc4 kvc5 (z 4), aI y kvc1 20 (z 5), aI y kvc2 20 (z 6), aI y kvc3 20 (z 7), aI y kvc4 20 (z 8), aI y kvc5 20 u.1, kX10 kud kvd (z 9), aI y kvd 32 (z 10), kX0 kue kve (z 11), aI y kve 3 (z 12), kX7 ch cua cub cuc cud cue (u.2.2 0), kX3 cua cva (u.2.2 1), aI y cva 10 (u.2.2 2), kX1 cub (u.2.2 3), kX8 cuc cvc1 cvc2 cvc3 cvc4 cvc5 (u.2.2 4), aI y cvc1 20 (u.2.2 5), aI y cvc2 20 (u.2.2 6), aI y cvc3 20 (u.2.2 7), aI y cvc4 20 (u.2.2 8), aI y cvc5 20 u.2.1, kX10 cud cvd (u.2.2 9), aI y cvd 32 (u.2.2 10), kX0 cue cve (u.2.2 11), aI y cve 3 (u.2.2 12)])) (va_A ([aJ y jq 1 jo] ++ [kX11 h qt fh kh ch qh qs Z0, kX7 kh kua kub kuc kud kue (z 0), kX3 kua kva (z 1), aI y kva 10 (z 2), kX1 kub (z 3), kX8 kuc kvc1 kvc2 kvc3 kvc4 kvc5 (z 4), aI y kvc1 20 (z 5), aI y kvc2 20 (z 6), aI y kvc3 20 (z 7), aI y kvc4 20 (z 8), aI y kvc5 20 o, kX10 kud kvd (z 9), aI y kvd 32 (z 10), kX0 kue kve (z 11), aI y kve 3 (z 12), kX7 ch cua cub cuc cud cue (zc 0), kX3 cua cva (zc 1), aI y cva 10 (zc 2), kX1 cub (zc 3), kX8 cuc cvc1 cvc2 cvc3 cvc4 cvc5 (zc 4), aI y cvc1 20 (zc 5), aI y cvc2 20 (zc 6), aI y cvc3 20 (zc 7), aI y cvc4 20 (zc 8), aI y cvc5 20 oc, kX10 cud cvd (zc 9), aI y cvd 32 (zc 10), kX0 cue cve (zc 11), aI y cve 3 (zc 12)]) sz)) XN 1 6 (va_A ([aJ y jq 1 jo] ++ [kX11 h qt fh kh ch qh qs Z0, kX7 kh kua kub kuc kud kue (z 0), kX3 kua kva (z 1), aI y kva 10 (z 2), kX1 kub (z 3), kX8 kuc kvc1 kvc2 kvc3 kvc4 kvc5 (z 4), aI y kvc1 20 (z 5), aI y kvc2 20 (z 6), aI y kvc3 20 (z 7), aI y kvc4 20 (z 8), aI y kvc5 20 o, kX10 kud kvd (z 9), aI y kvd 32 (z 10), kX0 kue kve (z 11), aI y kve 3 (z 12), kX7 ch cua cub cuc cud cue (zc 0), kX3 cua cva (zc 1), aI y cva 10 (zc 2), kX1 cub (zc 3), kX8 cuc cvc1 cvc2 cvc3 cvc4 cvc5 (zc 4), aI y cvc1 20 (zc 5), aI y cvc2 20 (zc 6), aI y cvc3 20 (zc 7), aI y cvc4 20 (zc 8), aI y cvc5 20 oc, kX10 cud cvd (zc 9), aI y cvd 32 (zc 10), kX0 cue cve (zc 11), aI y cve 3 (zc 12)]) sz) := by
  refine vx_ofWH (cc := cL_bestRule) (maxL := 4) (ret := (some .int)) (hh := [(0, 9, 12, 13)]) (by decide) rfl ?_
  intro p e s m args below meth c s₁ B hml hv
  obtain ⟨rfl, hsz, hP, ⟨hK, hN⟩, hD0, hTY⟩ := hv
  have hx := B.exec
  have hb := B.bytes
  have hr := B.returns
  have hts := atoms_spec (ws := wsL_bestRule) B.pre
  have hown : s.vm.findClass RL = some m.cls := findClass_of_methodNamed B.named
  have hlocks := B.notSynchronized
  have htb : c.exceptionTable.toList = tableOf [(0, 9, 12, 13)] := vx_table (x := yL_bestRule) B (hts (.codeWith yL_bestRule cL_bestRule 4 (some .int) [(0, 9, 12, 13)]) (List.mem_cons_self))
  subst hsz
  have hD := hD0.self (sz := s.heap.size)
  generalize hAe : va_A ([aJ y jq 1 jo] ++ [kX11 h qt fh kh ch qh qs Z0, kX7 kh kua kub kuc kud kue (z 0), kX3 kua kva (z 1), aI y kva 10 (z 2), kX1 kub (z 3), kX8 kuc kvc1 kvc2 kvc3 kvc4 kvc5 (z 4), aI y kvc1 20 (z 5), aI y kvc2 20 (z 6), aI y kvc3 20 (z 7), aI y kvc4 20 (z 8), aI y kvc5 20 o, kX10 kud kvd (z 9), aI y kvd 32 (z 10), kX0 kue kve (z 11), aI y kve 3 (z 12), kX7 ch cua cub cuc cud cue (zc 0), kX3 cua cva (zc 1), aI y cva 10 (zc 2), kX1 cub (zc 3), kX8 cuc cvc1 cvc2 cvc3 cvc4 cvc5 (zc 4), aI y cvc1 20 (zc 5), aI y cvc2 20 (zc 6), aI y cvc3 20 (zc 7), aI y cvc4 20 (zc 8), aI y cvc5 20 oc, kX10 cud cvd (zc 9), aI y cvd 32 (zc 10), kX0 cue cve (zc 11), aI y cve 3 (zc 12)]) s.heap.size = A at hD hTY ⊢
  have hA : ∀ q : Nat, s.heap.size ≤ q → A q := fun q h => by rw [← hAe]; exact Or.inr h
  have hS : va_S A s.heap s.heap [] := va_S.rf
  have hP : va_P G vwCl ([aJ y jq 1 jo] ++ [kX11 h qt fh kh ch qh qs Z0, kX7 kh kua kub kuc kud kue (z 0), kX3 kua kva (z 1), aI y kva 10 (z 2), kX1 kub (z 3), kX8 kuc kvc1 kvc2 kvc3 kvc4 kvc5 (z 4), aI y kvc1 20 (z 5), aI y kvc2 20 (z 6), aI y kvc3 20 (z 7), aI y kvc4 20 (z 8), aI y kvc5 20 o, kX10 kud kvd (z 9), aI y kvd 32 (z 10), kX0 kue kve (z 11), aI y kve 3 (z 12), kX7 ch cua cub cuc cud cue (zc 0), kX3 cua cva (zc 1), aI y cva 10 (zc 2), kX1 cub (zc 3), kX8 cuc cvc1 cvc2 cvc3 cvc4 cvc5 (zc 4), aI y cvc1 20 (zc 5), aI y cvc2 20 (zc 6), aI y cvc3 20 (zc 7), aI y cvc4 20 (zc 8), aI y cvc5 20 oc, kX10 cud cvd (zc 9), aI y cvd 32 (zc 10), kX0 cue cve (zc 11), aI y cve 3 (zc 12)]) s.heap := hP
  have hK4 : va_K G vwCl (tyG y) s := hK.sub (tys' := tyG y) [0, 1, 2, 3] rfl
  have hl := lv_entry ([.ref h, .int a1, .ref jq]) (n := 4) (Nat.le_of_ble_eq_true rfl)
  rw [lg_entry_eq]
  generalize (lg_sl ([.ref h, .int a1, .ref jq]) ++ List.replicate (4 - (lg_sl ([.ref h, .int a1, .ref jq])).length) Slot.unset).toArray = ls at hl ⊢
  have hl : lv_has ls 4 [(0, .ref h), (1, .int a1), (2, .ref jq)] := hl
  obtain ⟨QQ, hQQ⟩ : ∃ zq9, zq9 = vx_MQ below (QHi G 0 (fun u : (Nat → Int32) × (Nat → Int32) × (Nat → Nat → Int32) => ([aJ y jq 1 (vp_updL jo 0 ((s_X11_bestRule_r a1 z)).toInt64)] ++ [kX11 h qt fh kh ch qh qs Z0, kX7 kh kua kub kuc kud kue (z 0), kX3 kua kva (z 1), aI y kva 10 (z 2), kX1 kub (z 3), kX8 kuc kvc1 kvc2 kvc3 kvc4 kvc5 (z 4), aI y kvc1 20 (z 5), aI y kvc2 20 (z 6), aI y kvc3 20 (z 7), aI y kvc4 20 (z 8), aI y kvc5 20 u.1, kX10 kud kvd (z 9), aI y kvd 32 (z 10), kX0 kue kve (z 11), aI y kve 3 (z 12), kX7 ch cua cub cuc cud cue (u.2.2 0), kX3 cua cva (u.2.2 1), aI y cva 10 (u.2.2 2), kX1 cub (u.2.2 3), kX8 cuc cvc1 cvc2 cvc3 cvc4 cvc5 (u.2.2 4), aI y cvc1 20 (u.2.2 5), aI y cvc2 20 (u.2.2 6), aI y cvc3 20 (u.2.2 7), aI y cvc4 20 (u.2.2 8), aI y cvc5 20 u.2.1, kX10 cud cvd (u.2.2 9), aI y cvd 32 (u.2.2 10), kX0 cue cve (u.2.2 11), aI y cve 3 (u.2.2 12)])) A) XN ([.ref h, .int a1, .ref jq] : List Value).toArray s 1 6 A := ⟨_, rfl⟩
  rw [← hQQ]
  refine lv_aload_n hx hb dL_bestRule_0 rfl (lv_at hl 2 rfl) ?_
  refine lv_iconst (v := 0) hx hb dL_bestRule_1 (by decide) ?_
  refine lv_aload_n hx hb dL_bestRule_2 rfl (lv_at hl 0 rfl) ?_
  refine lv_iload_n hx hb dL_bestRule_3 rfl (lv_at hl 1 rfl) ?_
  refine cl_X (wr := [aJ y jq 1 jo]) (wc := [kX11 h qt fh kh ch qh qs Z0, kX7 kh kua kub kuc kud kue (z 0), kX3 kua kva (z 1), aI y kva 10 (z 2), kX1 kub (z 3), kX8 kuc kvc1 kvc2 kvc3 kvc4 kvc5 (z 4), aI y kvc1 20 (z 5), aI y kvc2 20 (z 6), aI y kvc3 20 (z 7), aI y kvc4 20 (z 8), aI y kvc5 20 o, kX10 kud kvd (z 9), aI y kvd 32 (z 10), kX0 kue kve (z 11), aI y kve 3 (z 12), kX7 ch cua cub cuc cud cue (zc 0), kX3 cua cva (zc 1), aI y cva 10 (zc 2), kX1 cub (zc 3), kX8 cuc cvc1 cvc2 cvc3 cvc4 cvc5 (zc 4), aI y cvc1 20 (zc 5), aI y cvc2 20 (zc 6), aI y cvc3 20 (zc 7), aI y cvc4 20 (zc 8), aI y cvc5 20 oc, kX10 cud cvd (zc 9), aI y cvd 32 (zc 10), kX0 cue cve (zc 11), aI y cve 3 (zc 12)]) (vx_runV (As := [.int a1]) (rest := [.int 0, .ref jq]) ⟨hx, hb, hml, hown, hts⟩ (c_X11_bestRule l G y h a1 qt fh kh ch qh qs kua kub kuc kud kue z kva kvc1 kvc2 kvc3 kvc4 kvc5 o kvd kve cua cub cuc cud cue zc cva cvc1 cvc2 cvc3 cvc4 cvc5 oc cvd cve s.heap.size hrz hez hgz hTC hfl) (cwV 1 hts gL_bestRule_X11_bestRule rfl rfl rfl (by decide +kernel) ⟨Nat.le_of_ble_eq_true rfl, Nat.le_of_ble_eq_true rfl⟩) (PHX_V (A0 := A) (P_r hP) hK4 hN (D_r hD) hTY.1 hS (F_r hD hS hA) (ci := 9) (q0 := 0) rfl rfl) rfl rfl hl.1 rfl (lv_room (Nat.le_of_ble_eq_true rfl)) dL_bestRule_4 ⟨Nat.le_of_ble_eq_true rfl, Nat.le_of_ble_eq_true rfl⟩) hP hD hS hA (fun E ce q9 u H locs hE hP hD hS hce hcv hcl => ?_) (fun u H locs hP hD hS => ?_)
  · exact (exC_0 hk0 hE).elim
  · refine lv_i2l (v := ((s_X11_bestRule_r a1 z)).toInt64) hx hb dL_bestRule_7 rfl ?_
    refine as_o hx hb hK hP hD hS dL_bestRule_8 (fun H locs hP hD hS => ?_)
    refine lv_goto (tgt := 15) hx hb dL_bestRule_9 (by decide) ?_
    refine lv_iconst (v := 0) hx hb dL_bestRule_15 (by decide) ?_
    rw [hQQ]
    refine vx_ret ?_
    exact W.iret hx hb hr (end_Hi u.1 hP hD hS rfl rfl) hS.2.2 dL_bestRule_16
set_option maxHeartbeats 400000 in
set_option maxRecDepth 100000 in
theorem c_L_bestRule_n (l : Launch) (G : va_G) (y : Nat → ClassId) (h : Nat) (a1 : Int32) (qt : Nat) (fh : Nat) (kh : Nat) (ch : Nat) (qh : Nat) (qs : Nat) (kua : Nat) (kub : Nat) (kuc : Nat) (kud : Nat) (kue : Nat) (z : Nat → Nat → Int32) (kva : Nat) (kvc1 : Nat) (kvc2 : Nat) (kvc3 : Nat) (kvc4 : Nat) (kvc5 : Nat) (o : Nat → Int32) (kvd : Nat) (kve : Nat) (cua : Nat) (cub : Nat) (cuc : Nat) (cud : Nat) (cue : Nat) (zc : Nat → Nat → Int32) (cva : Nat) (cvc1 : Nat) (cvc2 : Nat) (cvc3 : Nat) (cvc4 : Nat) (cvc5 : Nat) (oc : Nat → Int32) (cvd : Nat) (cve : Nat) (jq : Nat) (jo : Nat → Int64) (sz : Nat) (hrz : z 3 7 = 0 ∨ z 3 7 = 1) (hez : z 3 10 = 0 ∨ z 3 10 = 1) (hgz : z 4 6 = 0 ∨ z 4 6 = 1) (hTC : TC z) (hk0 : ¬ (s_X11_bestRule_k a1 z) = 0) (hfl : l.stackTraces = false) : vx_Met l yL_bestRule wsL_bestRule rmL_bestRule (PHL G y [.ref h, .int a1, .ref jq] ([aJ y jq 1 jo] ++ [kX11 h qt fh kh ch qh qs Z0, kX7 kh kua kub kuc kud kue (z 0), kX3 kua kva (z 1), aI y kva 10 (z 2), kX1 kub (z 3), kX8 kuc kvc1 kvc2 kvc3 kvc4 kvc5 (z 4), aI y kvc1 20 (z 5), aI y kvc2 20 (z 6), aI y kvc3 20 (z 7), aI y kvc4 20 (z 8), aI y kvc5 20 o, kX10 kud kvd (z 9), aI y kvd 32 (z 10), kX0 kue kve (z 11), aI y kve 3 (z 12), kX7 ch cua cub cuc cud cue (zc 0), kX3 cua cva (zc 1), aI y cva 10 (zc 2), kX1 cub (zc 3), kX8 cuc cvc1 cvc2 cvc3 cvc4 cvc5 (zc 4), aI y cvc1 20 (zc 5), aI y cvc2 20 (zc 6), aI y cvc3 20 (zc 7), aI y cvc4 20 (zc 8), aI y cvc5 20 oc, kX10 cud cvd (zc 9), aI y cvd 32 (zc 10), kX0 cue cve (zc 11), aI y cve 3 (zc 12)]) sz) (QHi G (cdK 1 (s_X11_bestRule_k a1 z)) (fun u : (Nat → Int32) × (Nat → Int32) × (Nat → Nat → Int32) => ([aJ y jq 1 jo] ++ [kX11 h qt fh kh ch qh qs Z0, kX7 kh kua kub kuc kud kue (z 0), kX3 kua kva (z 1), aI y kva 10 (z 2), kX1 kub (z 3), kX8 kuc kvc1 kvc2 kvc3 kvc4 kvc5 (z 4), aI y kvc1 20 (z 5), aI y kvc2 20 (z 6), aI y kvc3 20 (z 7), aI y kvc4 20 (z 8), aI y kvc5 20 u.1, kX10 kud kvd (z 9), aI y kvd 32 (z 10), kX0 kue kve (z 11), aI y kve 3 (z 12), kX7 ch cua cub cuc cud cue (u.2.2 0), kX3 cua cva (u.2.2 1), aI y cva 10 (u.2.2 2), kX1 cub (u.2.2 3), kX8 cuc cvc1 cvc2 cvc3 cvc4 cvc5 (u.2.2 4), aI y cvc1 20 (u.2.2 5), aI y cvc2 20 (u.2.2 6), aI y cvc3 20 (u.2.2 7), aI y cvc4 20 (u.2.2 8), aI y cvc5 20 u.2.1, kX10 cud cvd (u.2.2 9), aI y cvd 32 (u.2.2 10), kX0 cue cve (u.2.2 11), aI y cve 3 (u.2.2 12)])) (va_A ([aJ y jq 1 jo] ++ [kX11 h qt fh kh ch qh qs Z0, kX7 kh kua kub kuc kud kue (z 0), kX3 kua kva (z 1), aI y kva 10 (z 2), kX1 kub (z 3), kX8 kuc kvc1 kvc2 kvc3 kvc4 kvc5 (z 4), aI y kvc1 20 (z 5), aI y kvc2 20 (z 6), aI y kvc3 20 (z 7), aI y kvc4 20 (z 8), aI y kvc5 20 o, kX10 kud kvd (z 9), aI y kvd 32 (z 10), kX0 kue kve (z 11), aI y kve 3 (z 12), kX7 ch cua cub cuc cud cue (zc 0), kX3 cua cva (zc 1), aI y cva 10 (zc 2), kX1 cub (zc 3), kX8 cuc cvc1 cvc2 cvc3 cvc4 cvc5 (zc 4), aI y cvc1 20 (zc 5), aI y cvc2 20 (zc 6), aI y cvc3 20 (zc 7), aI y cvc4 20 (zc 8), aI y cvc5 20 oc, kX10 cud cvd (zc 9), aI y cvd 32 (zc 10), kX0 cue cve (zc 11), aI y cve 3 (zc 12)]) sz)) XN 1 6 (va_A ([aJ y jq 1 jo] ++ [kX11 h qt fh kh ch qh qs Z0, kX7 kh kua kub kuc kud kue (z 0), kX3 kua kva (z 1), aI y kva 10 (z 2), kX1 kub (z 3), kX8 kuc kvc1 kvc2 kvc3 kvc4 kvc5 (z 4), aI y kvc1 20 (z 5), aI y kvc2 20 (z 6), aI y kvc3 20 (z 7), aI y kvc4 20 (z 8), aI y kvc5 20 o, kX10 kud kvd (z 9), aI y kvd 32 (z 10), kX0 kue kve (z 11), aI y kve 3 (z 12), kX7 ch cua cub cuc cud cue (zc 0), kX3 cua cva (zc 1), aI y cva 10 (zc 2), kX1 cub (zc 3), kX8 cuc cvc1 cvc2 cvc3 cvc4 cvc5 (zc 4), aI y cvc1 20 (zc 5), aI y cvc2 20 (zc 6), aI y cvc3 20 (zc 7), aI y cvc4 20 (zc 8), aI y cvc5 20 oc, kX10 cud cvd (zc 9), aI y cvd 32 (zc 10), kX0 cue cve (zc 11), aI y cve 3 (zc 12)]) sz) := by
  refine vx_ofWH (cc := cL_bestRule) (maxL := 4) (ret := (some .int)) (hh := [(0, 9, 12, 13)]) (by decide) rfl ?_
  intro p e s m args below meth c s₁ B hml hv
  obtain ⟨rfl, hsz, hP, ⟨hK, hN⟩, hD0, hTY⟩ := hv
  have hx := B.exec
  have hb := B.bytes
  have hr := B.returns
  have hts := atoms_spec (ws := wsL_bestRule) B.pre
  have hown : s.vm.findClass RL = some m.cls := findClass_of_methodNamed B.named
  have hlocks := B.notSynchronized
  have htb : c.exceptionTable.toList = tableOf [(0, 9, 12, 13)] := vx_table (x := yL_bestRule) B (hts (.codeWith yL_bestRule cL_bestRule 4 (some .int) [(0, 9, 12, 13)]) (List.mem_cons_self))
  subst hsz
  have hD := hD0.self (sz := s.heap.size)
  generalize hAe : va_A ([aJ y jq 1 jo] ++ [kX11 h qt fh kh ch qh qs Z0, kX7 kh kua kub kuc kud kue (z 0), kX3 kua kva (z 1), aI y kva 10 (z 2), kX1 kub (z 3), kX8 kuc kvc1 kvc2 kvc3 kvc4 kvc5 (z 4), aI y kvc1 20 (z 5), aI y kvc2 20 (z 6), aI y kvc3 20 (z 7), aI y kvc4 20 (z 8), aI y kvc5 20 o, kX10 kud kvd (z 9), aI y kvd 32 (z 10), kX0 kue kve (z 11), aI y kve 3 (z 12), kX7 ch cua cub cuc cud cue (zc 0), kX3 cua cva (zc 1), aI y cva 10 (zc 2), kX1 cub (zc 3), kX8 cuc cvc1 cvc2 cvc3 cvc4 cvc5 (zc 4), aI y cvc1 20 (zc 5), aI y cvc2 20 (zc 6), aI y cvc3 20 (zc 7), aI y cvc4 20 (zc 8), aI y cvc5 20 oc, kX10 cud cvd (zc 9), aI y cvd 32 (zc 10), kX0 cue cve (zc 11), aI y cve 3 (zc 12)]) s.heap.size = A at hD hTY ⊢
  have hA : ∀ q : Nat, s.heap.size ≤ q → A q := fun q h => by rw [← hAe]; exact Or.inr h
  have hS : va_S A s.heap s.heap [] := va_S.rf
  have hP : va_P G vwCl ([aJ y jq 1 jo] ++ [kX11 h qt fh kh ch qh qs Z0, kX7 kh kua kub kuc kud kue (z 0), kX3 kua kva (z 1), aI y kva 10 (z 2), kX1 kub (z 3), kX8 kuc kvc1 kvc2 kvc3 kvc4 kvc5 (z 4), aI y kvc1 20 (z 5), aI y kvc2 20 (z 6), aI y kvc3 20 (z 7), aI y kvc4 20 (z 8), aI y kvc5 20 o, kX10 kud kvd (z 9), aI y kvd 32 (z 10), kX0 kue kve (z 11), aI y kve 3 (z 12), kX7 ch cua cub cuc cud cue (zc 0), kX3 cua cva (zc 1), aI y cva 10 (zc 2), kX1 cub (zc 3), kX8 cuc cvc1 cvc2 cvc3 cvc4 cvc5 (zc 4), aI y cvc1 20 (zc 5), aI y cvc2 20 (zc 6), aI y cvc3 20 (zc 7), aI y cvc4 20 (zc 8), aI y cvc5 20 oc, kX10 cud cvd (zc 9), aI y cvd 32 (zc 10), kX0 cue cve (zc 11), aI y cve 3 (zc 12)]) s.heap := hP
  have hK4 : va_K G vwCl (tyG y) s := hK.sub (tys' := tyG y) [0, 1, 2, 3] rfl
  have hl := lv_entry ([.ref h, .int a1, .ref jq]) (n := 4) (Nat.le_of_ble_eq_true rfl)
  rw [lg_entry_eq]
  generalize (lg_sl ([.ref h, .int a1, .ref jq]) ++ List.replicate (4 - (lg_sl ([.ref h, .int a1, .ref jq])).length) Slot.unset).toArray = ls at hl ⊢
  have hl : lv_has ls 4 [(0, .ref h), (1, .int a1), (2, .ref jq)] := hl
  obtain ⟨QQ, hQQ⟩ : ∃ zq9, zq9 = vx_MQ below (QHi G (cdK 1 (s_X11_bestRule_k a1 z)) (fun u : (Nat → Int32) × (Nat → Int32) × (Nat → Nat → Int32) => ([aJ y jq 1 jo] ++ [kX11 h qt fh kh ch qh qs Z0, kX7 kh kua kub kuc kud kue (z 0), kX3 kua kva (z 1), aI y kva 10 (z 2), kX1 kub (z 3), kX8 kuc kvc1 kvc2 kvc3 kvc4 kvc5 (z 4), aI y kvc1 20 (z 5), aI y kvc2 20 (z 6), aI y kvc3 20 (z 7), aI y kvc4 20 (z 8), aI y kvc5 20 u.1, kX10 kud kvd (z 9), aI y kvd 32 (z 10), kX0 kue kve (z 11), aI y kve 3 (z 12), kX7 ch cua cub cuc cud cue (u.2.2 0), kX3 cua cva (u.2.2 1), aI y cva 10 (u.2.2 2), kX1 cub (u.2.2 3), kX8 cuc cvc1 cvc2 cvc3 cvc4 cvc5 (u.2.2 4), aI y cvc1 20 (u.2.2 5), aI y cvc2 20 (u.2.2 6), aI y cvc3 20 (u.2.2 7), aI y cvc4 20 (u.2.2 8), aI y cvc5 20 u.2.1, kX10 cud cvd (u.2.2 9), aI y cvd 32 (u.2.2 10), kX0 cue cve (u.2.2 11), aI y cve 3 (u.2.2 12)])) A) XN ([.ref h, .int a1, .ref jq] : List Value).toArray s 1 6 A := ⟨_, rfl⟩
  rw [← hQQ]
  refine lv_aload_n hx hb dL_bestRule_0 rfl (lv_at hl 2 rfl) ?_
  refine lv_iconst (v := 0) hx hb dL_bestRule_1 (by decide) ?_
  refine lv_aload_n hx hb dL_bestRule_2 rfl (lv_at hl 0 rfl) ?_
  refine lv_iload_n hx hb dL_bestRule_3 rfl (lv_at hl 1 rfl) ?_
  refine cl_X (wr := [aJ y jq 1 jo]) (wc := [kX11 h qt fh kh ch qh qs Z0, kX7 kh kua kub kuc kud kue (z 0), kX3 kua kva (z 1), aI y kva 10 (z 2), kX1 kub (z 3), kX8 kuc kvc1 kvc2 kvc3 kvc4 kvc5 (z 4), aI y kvc1 20 (z 5), aI y kvc2 20 (z 6), aI y kvc3 20 (z 7), aI y kvc4 20 (z 8), aI y kvc5 20 o, kX10 kud kvd (z 9), aI y kvd 32 (z 10), kX0 kue kve (z 11), aI y kve 3 (z 12), kX7 ch cua cub cuc cud cue (zc 0), kX3 cua cva (zc 1), aI y cva 10 (zc 2), kX1 cub (zc 3), kX8 cuc cvc1 cvc2 cvc3 cvc4 cvc5 (zc 4), aI y cvc1 20 (zc 5), aI y cvc2 20 (zc 6), aI y cvc3 20 (zc 7), aI y cvc4 20 (zc 8), aI y cvc5 20 oc, kX10 cud cvd (zc 9), aI y cvd 32 (zc 10), kX0 cue cve (zc 11), aI y cve 3 (zc 12)]) (vx_runV (As := [.int a1]) (rest := [.int 0, .ref jq]) ⟨hx, hb, hml, hown, hts⟩ (c_X11_bestRule l G y h a1 qt fh kh ch qh qs kua kub kuc kud kue z kva kvc1 kvc2 kvc3 kvc4 kvc5 o kvd kve cua cub cuc cud cue zc cva cvc1 cvc2 cvc3 cvc4 cvc5 oc cvd cve s.heap.size hrz hez hgz hTC hfl) (cwV 1 hts gL_bestRule_X11_bestRule rfl rfl rfl (by decide +kernel) ⟨Nat.le_of_ble_eq_true rfl, Nat.le_of_ble_eq_true rfl⟩) (PHX_V (A0 := A) (P_r hP) hK4 hN (D_r hD) hTY.1 hS (F_r hD hS hA) (ci := 9) (q0 := 0) rfl rfl) rfl rfl hl.1 rfl (lv_room (Nat.le_of_ble_eq_true rfl)) dL_bestRule_4 ⟨Nat.le_of_ble_eq_true rfl, Nat.le_of_ble_eq_true rfl⟩) hP hD hS hA (fun E ce q9 u H locs hE hP hD hS hce hcv hcl => ?_) (fun u H locs hP hD hS => ?_)
  · rcases hE with ⟨rfl, hE⟩ | ⟨rfl, hE⟩ | ⟨rfl, hE⟩
    · refine vx_catch hown [] ⟨0, 9, 12, 13⟩ [] (htb.trans rfl) (fun z hz => by cases hz) (by decide) (by decide) (hts (.classLink RL 13 "java/lang/IllegalArgumentException") (by decide +kernel)) (va_Nw.use rfl (hTY.1.2.1 _ mIA)) hce hcv hcl ?_
      refine lv_astore_n (lv' := [(3, .ref q9), (0, .ref h), (1, .int a1), (2, .ref jq)]) hx hb dL_bestRule_12 rfl hl (by decide) rfl (fun ls hl => ?_)
      refine lv_iconst (v := 1) hx hb dL_bestRule_13 (by decide) ?_
      rw [hQQ]
      refine vx_ret ?_
      exact W.iret hx hb hr (end_Hi u hP hD hS (cd_1 hE (by decide)) rfl) hS.2.2 dL_bestRule_14
    · rcases kx_bestRule a1 z with k9 | k9
      · exact absurd (hE.trans k9) (by decide)
      · exact absurd (hE.trans k9) (by decide)
    · rcases kx_bestRule a1 z with k9 | k9
      · exact absurd (hE.trans k9) (by decide)
      · exact absurd (hE.trans k9) (by decide)
  · exact absurd u.2 hk0
theorem kx_settlesAfter (a1 : Int32) : s_X11_settlesAfter_k a1 = 0 ∨ s_X11_settlesAfter_k a1 = 1 := by
  unfold s_X11_settlesAfter_k
  exact k_ite (Q := (fun x : Int32 => x = 0 ∨ x = 1)) (Or.inr rfl) (k_ite (Q := (fun x : Int32 => x = 0 ∨ x = 1)) (Or.inl rfl) (Or.inr rfl))
abbrev rmL_settlesAfter : Room := ({ frames := 7, cells := 1, slots := 6, locals := 125 } : Room)
set_option maxHeartbeats 400000 in
set_option maxRecDepth 100000 in
theorem c_L_settlesAfter_y (l : Launch) (G : va_G) (y : Nat → ClassId) (h : Nat) (a1 : Int32) (qt : Nat) (fh : Nat) (kh : Nat) (ch : Nat) (qh : Nat) (qs : Nat) (kua : Nat) (kub : Nat) (kuc : Nat) (kud : Nat) (kue : Nat) (z : Nat → Nat → Int32) (kva : Nat) (kvc1 : Nat) (kvc2 : Nat) (kvc3 : Nat) (kvc4 : Nat) (kvc5 : Nat) (o : Nat → Int32) (kvd : Nat) (kve : Nat) (cua : Nat) (cub : Nat) (cuc : Nat) (cud : Nat) (cue : Nat) (zc : Nat → Nat → Int32) (cva : Nat) (cvc1 : Nat) (cvc2 : Nat) (cvc3 : Nat) (cvc4 : Nat) (cvc5 : Nat) (oc : Nat → Int32) (cvd : Nat) (cve : Nat) (n2 : Nat) (jq : Nat) (jo : Nat → Int64) (sz : Nat) (hrz : z 3 7 = 0 ∨ z 3 7 = 1) (hez : z 3 10 = 0 ∨ z 3 10 = 1) (hgz : z 4 6 = 0 ∨ z 4 6 = 1) (hTC : TC z) (hn2 : n2 = 200) (hk0 : (s_X11_settlesAfter_k a1) = 0) (hfl : l.stackTraces = false) : vx_Met l yL_settlesAfter wsL_settlesAfter rmL_settlesAfter (PHL G y [.ref h, .int a1, .ref jq] ([aJ y jq 1 jo] ++ [kX11 h qt fh kh ch qh qs Z0, kX7 kh kua kub kuc kud kue (z 0), kX3 kua kva (z 1), aI y kva 10 (z 2), kX1 kub (z 3), kX8 kuc kvc1 kvc2 kvc3 kvc4 kvc5 (z 4), aI y kvc1 20 (z 5), aI y kvc2 20 (z 6), aI y kvc3 20 (z 7), aI y kvc4 20 (z 8), aI y kvc5 20 o, kX10 kud kvd (z 9), aI y kvd 32 (z 10), kX0 kue kve (z 11), aI y kve 3 (z 12), kX7 ch cua cub cuc cud cue (zc 0), kX3 cua cva (zc 1), aI y cva 10 (zc 2), kX1 cub (zc 3), kX8 cuc cvc1 cvc2 cvc3 cvc4 cvc5 (zc 4), aI y cvc1 20 (zc 5), aI y cvc2 20 (zc 6), aI y cvc3 20 (zc 7), aI y cvc4 20 (zc 8), aI y cvc5 20 oc, kX10 cud cvd (zc 9), aI y cvd 32 (zc 10), kX0 cue cve (zc 11), aI y cve 3 (zc 12)]) sz) (QHi G 0 (fun u : (Nat → Nat → Int32) => ([aJ y jq 1 (vp_updL jo 0 ((s_X11_settlesAfter_r a1 z n2)).toInt64)] ++ [kX11 h qt fh kh ch qh qs Z0, kX7 kh kua kub kuc kud kue (z 0), kX3 kua kva (z 1), aI y kva 10 (z 2), kX1 kub (z 3), kX8 kuc kvc1 kvc2 kvc3 kvc4 kvc5 (z 4), aI y kvc1 20 (z 5), aI y kvc2 20 (z 6), aI y kvc3 20 (z 7), aI y kvc4 20 (z 8), aI y kvc5 20 o, kX10 kud kvd (z 9), aI y kvd 32 (z 10), kX0 kue kve (z 11), aI y kve 3 (z 12), kX7 ch cua cub cuc cud cue (u 0), kX3 cua cva (u 1), aI y cva 10 (u 2), kX1 cub (u 3), kX8 cuc cvc1 cvc2 cvc3 cvc4 cvc5 (u 4), aI y cvc1 20 (u 5), aI y cvc2 20 (u 6), aI y cvc3 20 (u 7), aI y cvc4 20 (u 8), aI y cvc5 20 oc, kX10 cud cvd (u 9), aI y cvd 32 (u 10), kX0 cue cve (u 11), aI y cve 3 (u 12)])) (va_A ([aJ y jq 1 jo] ++ [kX11 h qt fh kh ch qh qs Z0, kX7 kh kua kub kuc kud kue (z 0), kX3 kua kva (z 1), aI y kva 10 (z 2), kX1 kub (z 3), kX8 kuc kvc1 kvc2 kvc3 kvc4 kvc5 (z 4), aI y kvc1 20 (z 5), aI y kvc2 20 (z 6), aI y kvc3 20 (z 7), aI y kvc4 20 (z 8), aI y kvc5 20 o, kX10 kud kvd (z 9), aI y kvd 32 (z 10), kX0 kue kve (z 11), aI y kve 3 (z 12), kX7 ch cua cub cuc cud cue (zc 0), kX3 cua cva (zc 1), aI y cva 10 (zc 2), kX1 cub (zc 3), kX8 cuc cvc1 cvc2 cvc3 cvc4 cvc5 (zc 4), aI y cvc1 20 (zc 5), aI y cvc2 20 (zc 6), aI y cvc3 20 (zc 7), aI y cvc4 20 (zc 8), aI y cvc5 20 oc, kX10 cud cvd (zc 9), aI y cvd 32 (zc 10), kX0 cue cve (zc 11), aI y cve 3 (zc 12)]) sz)) XN 1 6 (va_A ([aJ y jq 1 jo] ++ [kX11 h qt fh kh ch qh qs Z0, kX7 kh kua kub kuc kud kue (z 0), kX3 kua kva (z 1), aI y kva 10 (z 2), kX1 kub (z 3), kX8 kuc kvc1 kvc2 kvc3 kvc4 kvc5 (z 4), aI y kvc1 20 (z 5), aI y kvc2 20 (z 6), aI y kvc3 20 (z 7), aI y kvc4 20 (z 8), aI y kvc5 20 o, kX10 kud kvd (z 9), aI y kvd 32 (z 10), kX0 kue kve (z 11), aI y kve 3 (z 12), kX7 ch cua cub cuc cud cue (zc 0), kX3 cua cva (zc 1), aI y cva 10 (zc 2), kX1 cub (zc 3), kX8 cuc cvc1 cvc2 cvc3 cvc4 cvc5 (zc 4), aI y cvc1 20 (zc 5), aI y cvc2 20 (zc 6), aI y cvc3 20 (zc 7), aI y cvc4 20 (zc 8), aI y cvc5 20 oc, kX10 cud cvd (zc 9), aI y cvd 32 (zc 10), kX0 cue cve (zc 11), aI y cve 3 (zc 12)]) sz) := by
  refine vx_ofWH (cc := cL_settlesAfter) (maxL := 4) (ret := (some .int)) (hh := [(0, 9, 12, 13)]) (by decide) rfl ?_
  intro p e s m args below meth c s₁ B hml hv
  obtain ⟨rfl, hsz, hP, ⟨hK, hN⟩, hD0, hTY⟩ := hv
  have hx := B.exec
  have hb := B.bytes
  have hr := B.returns
  have hts := atoms_spec (ws := wsL_settlesAfter) B.pre
  have hown : s.vm.findClass RL = some m.cls := findClass_of_methodNamed B.named
  have hlocks := B.notSynchronized
  have htb : c.exceptionTable.toList = tableOf [(0, 9, 12, 13)] := vx_table (x := yL_settlesAfter) B (hts (.codeWith yL_settlesAfter cL_settlesAfter 4 (some .int) [(0, 9, 12, 13)]) (List.mem_cons_self))
  subst hsz
  have hD := hD0.self (sz := s.heap.size)
  generalize hAe : va_A ([aJ y jq 1 jo] ++ [kX11 h qt fh kh ch qh qs Z0, kX7 kh kua kub kuc kud kue (z 0), kX3 kua kva (z 1), aI y kva 10 (z 2), kX1 kub (z 3), kX8 kuc kvc1 kvc2 kvc3 kvc4 kvc5 (z 4), aI y kvc1 20 (z 5), aI y kvc2 20 (z 6), aI y kvc3 20 (z 7), aI y kvc4 20 (z 8), aI y kvc5 20 o, kX10 kud kvd (z 9), aI y kvd 32 (z 10), kX0 kue kve (z 11), aI y kve 3 (z 12), kX7 ch cua cub cuc cud cue (zc 0), kX3 cua cva (zc 1), aI y cva 10 (zc 2), kX1 cub (zc 3), kX8 cuc cvc1 cvc2 cvc3 cvc4 cvc5 (zc 4), aI y cvc1 20 (zc 5), aI y cvc2 20 (zc 6), aI y cvc3 20 (zc 7), aI y cvc4 20 (zc 8), aI y cvc5 20 oc, kX10 cud cvd (zc 9), aI y cvd 32 (zc 10), kX0 cue cve (zc 11), aI y cve 3 (zc 12)]) s.heap.size = A at hD hTY ⊢
  have hA : ∀ q : Nat, s.heap.size ≤ q → A q := fun q h => by rw [← hAe]; exact Or.inr h
  have hS : va_S A s.heap s.heap [] := va_S.rf
  have hP : va_P G vwCl ([aJ y jq 1 jo] ++ [kX11 h qt fh kh ch qh qs Z0, kX7 kh kua kub kuc kud kue (z 0), kX3 kua kva (z 1), aI y kva 10 (z 2), kX1 kub (z 3), kX8 kuc kvc1 kvc2 kvc3 kvc4 kvc5 (z 4), aI y kvc1 20 (z 5), aI y kvc2 20 (z 6), aI y kvc3 20 (z 7), aI y kvc4 20 (z 8), aI y kvc5 20 o, kX10 kud kvd (z 9), aI y kvd 32 (z 10), kX0 kue kve (z 11), aI y kve 3 (z 12), kX7 ch cua cub cuc cud cue (zc 0), kX3 cua cva (zc 1), aI y cva 10 (zc 2), kX1 cub (zc 3), kX8 cuc cvc1 cvc2 cvc3 cvc4 cvc5 (zc 4), aI y cvc1 20 (zc 5), aI y cvc2 20 (zc 6), aI y cvc3 20 (zc 7), aI y cvc4 20 (zc 8), aI y cvc5 20 oc, kX10 cud cvd (zc 9), aI y cvd 32 (zc 10), kX0 cue cve (zc 11), aI y cve 3 (zc 12)]) s.heap := hP
  have hK4 : va_K G vwCl (tyG y) s := hK.sub (tys' := tyG y) [0, 1, 2, 3] rfl
  have hl := lv_entry ([.ref h, .int a1, .ref jq]) (n := 4) (Nat.le_of_ble_eq_true rfl)
  rw [lg_entry_eq]
  generalize (lg_sl ([.ref h, .int a1, .ref jq]) ++ List.replicate (4 - (lg_sl ([.ref h, .int a1, .ref jq])).length) Slot.unset).toArray = ls at hl ⊢
  have hl : lv_has ls 4 [(0, .ref h), (1, .int a1), (2, .ref jq)] := hl
  obtain ⟨QQ, hQQ⟩ : ∃ zq9, zq9 = vx_MQ below (QHi G 0 (fun u : (Nat → Nat → Int32) => ([aJ y jq 1 (vp_updL jo 0 ((s_X11_settlesAfter_r a1 z n2)).toInt64)] ++ [kX11 h qt fh kh ch qh qs Z0, kX7 kh kua kub kuc kud kue (z 0), kX3 kua kva (z 1), aI y kva 10 (z 2), kX1 kub (z 3), kX8 kuc kvc1 kvc2 kvc3 kvc4 kvc5 (z 4), aI y kvc1 20 (z 5), aI y kvc2 20 (z 6), aI y kvc3 20 (z 7), aI y kvc4 20 (z 8), aI y kvc5 20 o, kX10 kud kvd (z 9), aI y kvd 32 (z 10), kX0 kue kve (z 11), aI y kve 3 (z 12), kX7 ch cua cub cuc cud cue (u 0), kX3 cua cva (u 1), aI y cva 10 (u 2), kX1 cub (u 3), kX8 cuc cvc1 cvc2 cvc3 cvc4 cvc5 (u 4), aI y cvc1 20 (u 5), aI y cvc2 20 (u 6), aI y cvc3 20 (u 7), aI y cvc4 20 (u 8), aI y cvc5 20 oc, kX10 cud cvd (u 9), aI y cvd 32 (u 10), kX0 cue cve (u 11), aI y cve 3 (u 12)])) A) XN ([.ref h, .int a1, .ref jq] : List Value).toArray s 1 6 A := ⟨_, rfl⟩
  rw [← hQQ]
  refine lv_aload_n hx hb dL_settlesAfter_0 rfl (lv_at hl 2 rfl) ?_
  refine lv_iconst (v := 0) hx hb dL_settlesAfter_1 (by decide) ?_
  refine lv_aload_n hx hb dL_settlesAfter_2 rfl (lv_at hl 0 rfl) ?_
  refine lv_iload_n hx hb dL_settlesAfter_3 rfl (lv_at hl 1 rfl) ?_
  refine cl_X (wr := [aJ y jq 1 jo]) (wc := [kX11 h qt fh kh ch qh qs Z0, kX7 kh kua kub kuc kud kue (z 0), kX3 kua kva (z 1), aI y kva 10 (z 2), kX1 kub (z 3), kX8 kuc kvc1 kvc2 kvc3 kvc4 kvc5 (z 4), aI y kvc1 20 (z 5), aI y kvc2 20 (z 6), aI y kvc3 20 (z 7), aI y kvc4 20 (z 8), aI y kvc5 20 o, kX10 kud kvd (z 9), aI y kvd 32 (z 10), kX0 kue kve (z 11), aI y kve 3 (z 12), kX7 ch cua cub cuc cud cue (zc 0), kX3 cua cva (zc 1), aI y cva 10 (zc 2), kX1 cub (zc 3), kX8 cuc cvc1 cvc2 cvc3 cvc4 cvc5 (zc 4), aI y cvc1 20 (zc 5), aI y cvc2 20 (zc 6), aI y cvc3 20 (zc 7), aI y cvc4 20 (zc 8), aI y cvc5 20 oc, kX10 cud cvd (zc 9), aI y cvd 32 (zc 10), kX0 cue cve (zc 11), aI y cve 3 (zc 12)]) (vx_runV (As := [.int a1]) (rest := [.int 0, .ref jq]) ⟨hx, hb, hml, hown, hts⟩ (c_X11_settlesAfter l G y h a1 qt fh kh ch qh qs kua kub kuc kud kue z kva kvc1 kvc2 kvc3 kvc4 kvc5 o kvd kve cua cub cuc cud cue zc cva cvc1 cvc2 cvc3 cvc4 cvc5 oc cvd cve n2 s.heap.size hrz hez hgz hTC hn2 hfl) (cwV 1 hts gL_settlesAfter_X11_settlesAfter rfl rfl rfl (by decide +kernel) ⟨Nat.le_of_ble_eq_true rfl, Nat.le_of_ble_eq_true rfl⟩) (PHX_V (A0 := A) (P_r hP) hK4 hN (D_r hD) hTY.1 hS (F_r hD hS hA) (ci := 9) (q0 := 0) rfl rfl) rfl rfl hl.1 rfl (lv_room (Nat.le_of_ble_eq_true rfl)) dL_settlesAfter_4 ⟨Nat.le_of_ble_eq_true rfl, Nat.le_of_ble_eq_true rfl⟩) hP hD hS hA (fun E ce q9 u H locs hE hP hD hS hce hcv hcl => ?_) (fun u H locs hP hD hS => ?_)
  · exact (exC_0 hk0 hE).elim
  · refine lv_i2l (v := ((s_X11_settlesAfter_r a1 z n2)).toInt64) hx hb dL_settlesAfter_7 rfl ?_
    refine as_o hx hb hK hP hD hS dL_settlesAfter_8 (fun H locs hP hD hS => ?_)
    refine lv_goto (tgt := 15) hx hb dL_settlesAfter_9 (by decide) ?_
    refine lv_iconst (v := 0) hx hb dL_settlesAfter_15 (by decide) ?_
    rw [hQQ]
    refine vx_ret ?_
    exact W.iret hx hb hr (end_Hi u.1 hP hD hS rfl rfl) hS.2.2 dL_settlesAfter_16
set_option maxHeartbeats 400000 in
set_option maxRecDepth 100000 in
theorem c_L_settlesAfter_n (l : Launch) (G : va_G) (y : Nat → ClassId) (h : Nat) (a1 : Int32) (qt : Nat) (fh : Nat) (kh : Nat) (ch : Nat) (qh : Nat) (qs : Nat) (kua : Nat) (kub : Nat) (kuc : Nat) (kud : Nat) (kue : Nat) (z : Nat → Nat → Int32) (kva : Nat) (kvc1 : Nat) (kvc2 : Nat) (kvc3 : Nat) (kvc4 : Nat) (kvc5 : Nat) (o : Nat → Int32) (kvd : Nat) (kve : Nat) (cua : Nat) (cub : Nat) (cuc : Nat) (cud : Nat) (cue : Nat) (zc : Nat → Nat → Int32) (cva : Nat) (cvc1 : Nat) (cvc2 : Nat) (cvc3 : Nat) (cvc4 : Nat) (cvc5 : Nat) (oc : Nat → Int32) (cvd : Nat) (cve : Nat) (n2 : Nat) (jq : Nat) (jo : Nat → Int64) (sz : Nat) (hrz : z 3 7 = 0 ∨ z 3 7 = 1) (hez : z 3 10 = 0 ∨ z 3 10 = 1) (hgz : z 4 6 = 0 ∨ z 4 6 = 1) (hTC : TC z) (hn2 : n2 = 200) (hk0 : ¬ (s_X11_settlesAfter_k a1) = 0) (hfl : l.stackTraces = false) : vx_Met l yL_settlesAfter wsL_settlesAfter rmL_settlesAfter (PHL G y [.ref h, .int a1, .ref jq] ([aJ y jq 1 jo] ++ [kX11 h qt fh kh ch qh qs Z0, kX7 kh kua kub kuc kud kue (z 0), kX3 kua kva (z 1), aI y kva 10 (z 2), kX1 kub (z 3), kX8 kuc kvc1 kvc2 kvc3 kvc4 kvc5 (z 4), aI y kvc1 20 (z 5), aI y kvc2 20 (z 6), aI y kvc3 20 (z 7), aI y kvc4 20 (z 8), aI y kvc5 20 o, kX10 kud kvd (z 9), aI y kvd 32 (z 10), kX0 kue kve (z 11), aI y kve 3 (z 12), kX7 ch cua cub cuc cud cue (zc 0), kX3 cua cva (zc 1), aI y cva 10 (zc 2), kX1 cub (zc 3), kX8 cuc cvc1 cvc2 cvc3 cvc4 cvc5 (zc 4), aI y cvc1 20 (zc 5), aI y cvc2 20 (zc 6), aI y cvc3 20 (zc 7), aI y cvc4 20 (zc 8), aI y cvc5 20 oc, kX10 cud cvd (zc 9), aI y cvd 32 (zc 10), kX0 cue cve (zc 11), aI y cve 3 (zc 12)]) sz) (QHi G (cdK 1 (s_X11_settlesAfter_k a1)) (fun u : (Nat → Nat → Int32) => ([aJ y jq 1 jo] ++ [kX11 h qt fh kh ch qh qs Z0, kX7 kh kua kub kuc kud kue (z 0), kX3 kua kva (z 1), aI y kva 10 (z 2), kX1 kub (z 3), kX8 kuc kvc1 kvc2 kvc3 kvc4 kvc5 (z 4), aI y kvc1 20 (z 5), aI y kvc2 20 (z 6), aI y kvc3 20 (z 7), aI y kvc4 20 (z 8), aI y kvc5 20 o, kX10 kud kvd (z 9), aI y kvd 32 (z 10), kX0 kue kve (z 11), aI y kve 3 (z 12), kX7 ch cua cub cuc cud cue (u 0), kX3 cua cva (u 1), aI y cva 10 (u 2), kX1 cub (u 3), kX8 cuc cvc1 cvc2 cvc3 cvc4 cvc5 (u 4), aI y cvc1 20 (u 5), aI y cvc2 20 (u 6), aI y cvc3 20 (u 7), aI y cvc4 20 (u 8), aI y cvc5 20 oc, kX10 cud cvd (u 9), aI y cvd 32 (u 10), kX0 cue cve (u 11), aI y cve 3 (u 12)])) (va_A ([aJ y jq 1 jo] ++ [kX11 h qt fh kh ch qh qs Z0, kX7 kh kua kub kuc kud kue (z 0), kX3 kua kva (z 1), aI y kva 10 (z 2), kX1 kub (z 3), kX8 kuc kvc1 kvc2 kvc3 kvc4 kvc5 (z 4), aI y kvc1 20 (z 5), aI y kvc2 20 (z 6), aI y kvc3 20 (z 7), aI y kvc4 20 (z 8), aI y kvc5 20 o, kX10 kud kvd (z 9), aI y kvd 32 (z 10), kX0 kue kve (z 11), aI y kve 3 (z 12), kX7 ch cua cub cuc cud cue (zc 0), kX3 cua cva (zc 1), aI y cva 10 (zc 2), kX1 cub (zc 3), kX8 cuc cvc1 cvc2 cvc3 cvc4 cvc5 (zc 4), aI y cvc1 20 (zc 5), aI y cvc2 20 (zc 6), aI y cvc3 20 (zc 7), aI y cvc4 20 (zc 8), aI y cvc5 20 oc, kX10 cud cvd (zc 9), aI y cvd 32 (zc 10), kX0 cue cve (zc 11), aI y cve 3 (zc 12)]) sz)) XN 1 6 (va_A ([aJ y jq 1 jo] ++ [kX11 h qt fh kh ch qh qs Z0, kX7 kh kua kub kuc kud kue (z 0), kX3 kua kva (z 1), aI y kva 10 (z 2), kX1 kub (z 3), kX8 kuc kvc1 kvc2 kvc3 kvc4 kvc5 (z 4), aI y kvc1 20 (z 5), aI y kvc2 20 (z 6), aI y kvc3 20 (z 7), aI y kvc4 20 (z 8), aI y kvc5 20 o, kX10 kud kvd (z 9), aI y kvd 32 (z 10), kX0 kue kve (z 11), aI y kve 3 (z 12), kX7 ch cua cub cuc cud cue (zc 0), kX3 cua cva (zc 1), aI y cva 10 (zc 2), kX1 cub (zc 3), kX8 cuc cvc1 cvc2 cvc3 cvc4 cvc5 (zc 4), aI y cvc1 20 (zc 5), aI y cvc2 20 (zc 6), aI y cvc3 20 (zc 7), aI y cvc4 20 (zc 8), aI y cvc5 20 oc, kX10 cud cvd (zc 9), aI y cvd 32 (zc 10), kX0 cue cve (zc 11), aI y cve 3 (zc 12)]) sz) := by
  refine vx_ofWH (cc := cL_settlesAfter) (maxL := 4) (ret := (some .int)) (hh := [(0, 9, 12, 13)]) (by decide) rfl ?_
  intro p e s m args below meth c s₁ B hml hv
  obtain ⟨rfl, hsz, hP, ⟨hK, hN⟩, hD0, hTY⟩ := hv
  have hx := B.exec
  have hb := B.bytes
  have hr := B.returns
  have hts := atoms_spec (ws := wsL_settlesAfter) B.pre
  have hown : s.vm.findClass RL = some m.cls := findClass_of_methodNamed B.named
  have hlocks := B.notSynchronized
  have htb : c.exceptionTable.toList = tableOf [(0, 9, 12, 13)] := vx_table (x := yL_settlesAfter) B (hts (.codeWith yL_settlesAfter cL_settlesAfter 4 (some .int) [(0, 9, 12, 13)]) (List.mem_cons_self))
  subst hsz
  have hD := hD0.self (sz := s.heap.size)
  generalize hAe : va_A ([aJ y jq 1 jo] ++ [kX11 h qt fh kh ch qh qs Z0, kX7 kh kua kub kuc kud kue (z 0), kX3 kua kva (z 1), aI y kva 10 (z 2), kX1 kub (z 3), kX8 kuc kvc1 kvc2 kvc3 kvc4 kvc5 (z 4), aI y kvc1 20 (z 5), aI y kvc2 20 (z 6), aI y kvc3 20 (z 7), aI y kvc4 20 (z 8), aI y kvc5 20 o, kX10 kud kvd (z 9), aI y kvd 32 (z 10), kX0 kue kve (z 11), aI y kve 3 (z 12), kX7 ch cua cub cuc cud cue (zc 0), kX3 cua cva (zc 1), aI y cva 10 (zc 2), kX1 cub (zc 3), kX8 cuc cvc1 cvc2 cvc3 cvc4 cvc5 (zc 4), aI y cvc1 20 (zc 5), aI y cvc2 20 (zc 6), aI y cvc3 20 (zc 7), aI y cvc4 20 (zc 8), aI y cvc5 20 oc, kX10 cud cvd (zc 9), aI y cvd 32 (zc 10), kX0 cue cve (zc 11), aI y cve 3 (zc 12)]) s.heap.size = A at hD hTY ⊢
  have hA : ∀ q : Nat, s.heap.size ≤ q → A q := fun q h => by rw [← hAe]; exact Or.inr h
  have hS : va_S A s.heap s.heap [] := va_S.rf
  have hP : va_P G vwCl ([aJ y jq 1 jo] ++ [kX11 h qt fh kh ch qh qs Z0, kX7 kh kua kub kuc kud kue (z 0), kX3 kua kva (z 1), aI y kva 10 (z 2), kX1 kub (z 3), kX8 kuc kvc1 kvc2 kvc3 kvc4 kvc5 (z 4), aI y kvc1 20 (z 5), aI y kvc2 20 (z 6), aI y kvc3 20 (z 7), aI y kvc4 20 (z 8), aI y kvc5 20 o, kX10 kud kvd (z 9), aI y kvd 32 (z 10), kX0 kue kve (z 11), aI y kve 3 (z 12), kX7 ch cua cub cuc cud cue (zc 0), kX3 cua cva (zc 1), aI y cva 10 (zc 2), kX1 cub (zc 3), kX8 cuc cvc1 cvc2 cvc3 cvc4 cvc5 (zc 4), aI y cvc1 20 (zc 5), aI y cvc2 20 (zc 6), aI y cvc3 20 (zc 7), aI y cvc4 20 (zc 8), aI y cvc5 20 oc, kX10 cud cvd (zc 9), aI y cvd 32 (zc 10), kX0 cue cve (zc 11), aI y cve 3 (zc 12)]) s.heap := hP
  have hK4 : va_K G vwCl (tyG y) s := hK.sub (tys' := tyG y) [0, 1, 2, 3] rfl
  have hl := lv_entry ([.ref h, .int a1, .ref jq]) (n := 4) (Nat.le_of_ble_eq_true rfl)
  rw [lg_entry_eq]
  generalize (lg_sl ([.ref h, .int a1, .ref jq]) ++ List.replicate (4 - (lg_sl ([.ref h, .int a1, .ref jq])).length) Slot.unset).toArray = ls at hl ⊢
  have hl : lv_has ls 4 [(0, .ref h), (1, .int a1), (2, .ref jq)] := hl
  obtain ⟨QQ, hQQ⟩ : ∃ zq9, zq9 = vx_MQ below (QHi G (cdK 1 (s_X11_settlesAfter_k a1)) (fun u : (Nat → Nat → Int32) => ([aJ y jq 1 jo] ++ [kX11 h qt fh kh ch qh qs Z0, kX7 kh kua kub kuc kud kue (z 0), kX3 kua kva (z 1), aI y kva 10 (z 2), kX1 kub (z 3), kX8 kuc kvc1 kvc2 kvc3 kvc4 kvc5 (z 4), aI y kvc1 20 (z 5), aI y kvc2 20 (z 6), aI y kvc3 20 (z 7), aI y kvc4 20 (z 8), aI y kvc5 20 o, kX10 kud kvd (z 9), aI y kvd 32 (z 10), kX0 kue kve (z 11), aI y kve 3 (z 12), kX7 ch cua cub cuc cud cue (u 0), kX3 cua cva (u 1), aI y cva 10 (u 2), kX1 cub (u 3), kX8 cuc cvc1 cvc2 cvc3 cvc4 cvc5 (u 4), aI y cvc1 20 (u 5), aI y cvc2 20 (u 6), aI y cvc3 20 (u 7), aI y cvc4 20 (u 8), aI y cvc5 20 oc, kX10 cud cvd (u 9), aI y cvd 32 (u 10), kX0 cue cve (u 11), aI y cve 3 (u 12)])) A) XN ([.ref h, .int a1, .ref jq] : List Value).toArray s 1 6 A := ⟨_, rfl⟩
  rw [← hQQ]
  refine lv_aload_n hx hb dL_settlesAfter_0 rfl (lv_at hl 2 rfl) ?_
  refine lv_iconst (v := 0) hx hb dL_settlesAfter_1 (by decide) ?_
  refine lv_aload_n hx hb dL_settlesAfter_2 rfl (lv_at hl 0 rfl) ?_
  refine lv_iload_n hx hb dL_settlesAfter_3 rfl (lv_at hl 1 rfl) ?_
  refine cl_X (wr := [aJ y jq 1 jo]) (wc := [kX11 h qt fh kh ch qh qs Z0, kX7 kh kua kub kuc kud kue (z 0), kX3 kua kva (z 1), aI y kva 10 (z 2), kX1 kub (z 3), kX8 kuc kvc1 kvc2 kvc3 kvc4 kvc5 (z 4), aI y kvc1 20 (z 5), aI y kvc2 20 (z 6), aI y kvc3 20 (z 7), aI y kvc4 20 (z 8), aI y kvc5 20 o, kX10 kud kvd (z 9), aI y kvd 32 (z 10), kX0 kue kve (z 11), aI y kve 3 (z 12), kX7 ch cua cub cuc cud cue (zc 0), kX3 cua cva (zc 1), aI y cva 10 (zc 2), kX1 cub (zc 3), kX8 cuc cvc1 cvc2 cvc3 cvc4 cvc5 (zc 4), aI y cvc1 20 (zc 5), aI y cvc2 20 (zc 6), aI y cvc3 20 (zc 7), aI y cvc4 20 (zc 8), aI y cvc5 20 oc, kX10 cud cvd (zc 9), aI y cvd 32 (zc 10), kX0 cue cve (zc 11), aI y cve 3 (zc 12)]) (vx_runV (As := [.int a1]) (rest := [.int 0, .ref jq]) ⟨hx, hb, hml, hown, hts⟩ (c_X11_settlesAfter l G y h a1 qt fh kh ch qh qs kua kub kuc kud kue z kva kvc1 kvc2 kvc3 kvc4 kvc5 o kvd kve cua cub cuc cud cue zc cva cvc1 cvc2 cvc3 cvc4 cvc5 oc cvd cve n2 s.heap.size hrz hez hgz hTC hn2 hfl) (cwV 1 hts gL_settlesAfter_X11_settlesAfter rfl rfl rfl (by decide +kernel) ⟨Nat.le_of_ble_eq_true rfl, Nat.le_of_ble_eq_true rfl⟩) (PHX_V (A0 := A) (P_r hP) hK4 hN (D_r hD) hTY.1 hS (F_r hD hS hA) (ci := 9) (q0 := 0) rfl rfl) rfl rfl hl.1 rfl (lv_room (Nat.le_of_ble_eq_true rfl)) dL_settlesAfter_4 ⟨Nat.le_of_ble_eq_true rfl, Nat.le_of_ble_eq_true rfl⟩) hP hD hS hA (fun E ce q9 u H locs hE hP hD hS hce hcv hcl => ?_) (fun u H locs hP hD hS => ?_)
  · rcases hE with ⟨rfl, hE⟩ | ⟨rfl, hE⟩ | ⟨rfl, hE⟩
    · refine vx_catch hown [] ⟨0, 9, 12, 13⟩ [] (htb.trans rfl) (fun z hz => by cases hz) (by decide) (by decide) (hts (.classLink RL 13 "java/lang/IllegalArgumentException") (by decide +kernel)) (va_Nw.use rfl (hTY.1.2.1 _ mIA)) hce hcv hcl ?_
      refine lv_astore_n (lv' := [(3, .ref q9), (0, .ref h), (1, .int a1), (2, .ref jq)]) hx hb dL_settlesAfter_12 rfl hl (by decide) rfl (fun ls hl => ?_)
      refine lv_iconst (v := 1) hx hb dL_settlesAfter_13 (by decide) ?_
      rw [hQQ]
      refine vx_ret ?_
      exact W.iret hx hb hr (end_Hi u hP hD hS (cd_1 hE (by decide)) rfl) hS.2.2 dL_settlesAfter_14
    · rcases kx_settlesAfter a1 with k9 | k9
      · exact absurd (hE.trans k9) (by decide)
      · exact absurd (hE.trans k9) (by decide)
    · rcases kx_settlesAfter a1 with k9 | k9
      · exact absurd (hE.trans k9) (by decide)
      · exact absurd (hE.trans k9) (by decide)
  · exact absurd u.2 hk0
theorem kx_runScript (a1 : Int32) (a2 : Int64) : s_X11_runScript_k a1 a2 = 0 ∨ s_X11_runScript_k a1 a2 = 1 := by
  unfold s_X11_runScript_k
  exact k_ite (Q := (fun x : Int32 => x = 0 ∨ x = 1)) (Or.inr rfl) (k_ite (Q := (fun x : Int32 => x = 0 ∨ x = 1)) (k_ite (Q := (fun x : Int32 => x = 0 ∨ x = 1)) (Or.inr rfl) (k_ite (Q := (fun x : Int32 => x = 0 ∨ x = 1)) (Or.inl rfl) (Or.inr rfl))) (Or.inr rfl))
abbrev rmL_runScript : Room := ({ frames := 8, cells := 1, slots := 6, locals := 191 } : Room)
set_option maxHeartbeats 400000 in
set_option maxRecDepth 100000 in
theorem c_L_runScript_y (l : Launch) (G : va_G) (y : Nat → ClassId) (h : Nat) (a1 : Int32) (a2 : Int64) (qt : Nat) (fh : Nat) (kh : Nat) (ch : Nat) (qh : Nat) (qs : Nat) (kua : Nat) (kub : Nat) (kuc : Nat) (kud : Nat) (kue : Nat) (z : Nat → Nat → Int32) (kva : Nat) (kvc1 : Nat) (kvc2 : Nat) (kvc3 : Nat) (kvc4 : Nat) (kvc5 : Nat) (o : Nat → Int32) (kvd : Nat) (kve : Nat) (cua : Nat) (cub : Nat) (cuc : Nat) (cud : Nat) (cue : Nat) (zc : Nat → Nat → Int32) (cva : Nat) (cvc1 : Nat) (cvc2 : Nat) (cvc3 : Nat) (cvc4 : Nat) (cvc5 : Nat) (oc : Nat → Int32) (cvd : Nat) (cve : Nat) (jq : Nat) (jo : Nat → Int64) (sz : Nat) (hrz : z 3 7 = 0 ∨ z 3 7 = 1) (hez : z 3 10 = 0 ∨ z 3 10 = 1) (hgz : z 4 6 = 0 ∨ z 4 6 = 1) (hTC : TC z) (hk0 : (s_X11_runScript_k a1 a2) = 0) (hfl : l.stackTraces = false) : vx_Met l yL_runScript wsL_runScript rmL_runScript (PHL G y [.ref h, .int a1, .long a2, .ref jq] ([aJ y jq 1 jo] ++ [kX11 h qt fh kh ch qh qs Z0, kX7 kh kua kub kuc kud kue (z 0), kX3 kua kva (z 1), aI y kva 10 (z 2), kX1 kub (z 3), kX8 kuc kvc1 kvc2 kvc3 kvc4 kvc5 (z 4), aI y kvc1 20 (z 5), aI y kvc2 20 (z 6), aI y kvc3 20 (z 7), aI y kvc4 20 (z 8), aI y kvc5 20 o, kX10 kud kvd (z 9), aI y kvd 32 (z 10), kX0 kue kve (z 11), aI y kve 3 (z 12), kX7 ch cua cub cuc cud cue (zc 0), kX3 cua cva (zc 1), aI y cva 10 (zc 2), kX1 cub (zc 3), kX8 cuc cvc1 cvc2 cvc3 cvc4 cvc5 (zc 4), aI y cvc1 20 (zc 5), aI y cvc2 20 (zc 6), aI y cvc3 20 (zc 7), aI y cvc4 20 (zc 8), aI y cvc5 20 oc, kX10 cud cvd (zc 9), aI y cvd 32 (zc 10), kX0 cue cve (zc 11), aI y cve 3 (zc 12)]) sz) (QHi G 0 (fun u : (Nat → Int32) × (Nat → Nat → Int32) => ([aJ y jq 1 (vp_updL jo 0 ((s_X11_runScript_r a1 a2 z)).toInt64)] ++ [kX11 h qt fh kh ch qh qs Z0, kX7 kh kua kub kuc kud kue (z 0), kX3 kua kva (z 1), aI y kva 10 (z 2), kX1 kub (z 3), kX8 kuc kvc1 kvc2 kvc3 kvc4 kvc5 (z 4), aI y kvc1 20 (z 5), aI y kvc2 20 (z 6), aI y kvc3 20 (z 7), aI y kvc4 20 (z 8), aI y kvc5 20 o, kX10 kud kvd (z 9), aI y kvd 32 (z 10), kX0 kue kve (z 11), aI y kve 3 (z 12), kX7 ch cua cub cuc cud cue (u.2 0), kX3 cua cva (u.2 1), aI y cva 10 (u.2 2), kX1 cub (u.2 3), kX8 cuc cvc1 cvc2 cvc3 cvc4 cvc5 (u.2 4), aI y cvc1 20 (u.2 5), aI y cvc2 20 (u.2 6), aI y cvc3 20 (u.2 7), aI y cvc4 20 (u.2 8), aI y cvc5 20 u.1, kX10 cud cvd (u.2 9), aI y cvd 32 (u.2 10), kX0 cue cve (u.2 11), aI y cve 3 (u.2 12)])) (va_A ([aJ y jq 1 jo] ++ [kX11 h qt fh kh ch qh qs Z0, kX7 kh kua kub kuc kud kue (z 0), kX3 kua kva (z 1), aI y kva 10 (z 2), kX1 kub (z 3), kX8 kuc kvc1 kvc2 kvc3 kvc4 kvc5 (z 4), aI y kvc1 20 (z 5), aI y kvc2 20 (z 6), aI y kvc3 20 (z 7), aI y kvc4 20 (z 8), aI y kvc5 20 o, kX10 kud kvd (z 9), aI y kvd 32 (z 10), kX0 kue kve (z 11), aI y kve 3 (z 12), kX7 ch cua cub cuc cud cue (zc 0), kX3 cua cva (zc 1), aI y cva 10 (zc 2), kX1 cub (zc 3), kX8 cuc cvc1 cvc2 cvc3 cvc4 cvc5 (zc 4), aI y cvc1 20 (zc 5), aI y cvc2 20 (zc 6), aI y cvc3 20 (zc 7), aI y cvc4 20 (zc 8), aI y cvc5 20 oc, kX10 cud cvd (zc 9), aI y cvd 32 (zc 10), kX0 cue cve (zc 11), aI y cve 3 (zc 12)]) sz)) XN 1 6 (va_A ([aJ y jq 1 jo] ++ [kX11 h qt fh kh ch qh qs Z0, kX7 kh kua kub kuc kud kue (z 0), kX3 kua kva (z 1), aI y kva 10 (z 2), kX1 kub (z 3), kX8 kuc kvc1 kvc2 kvc3 kvc4 kvc5 (z 4), aI y kvc1 20 (z 5), aI y kvc2 20 (z 6), aI y kvc3 20 (z 7), aI y kvc4 20 (z 8), aI y kvc5 20 o, kX10 kud kvd (z 9), aI y kvd 32 (z 10), kX0 kue kve (z 11), aI y kve 3 (z 12), kX7 ch cua cub cuc cud cue (zc 0), kX3 cua cva (zc 1), aI y cva 10 (zc 2), kX1 cub (zc 3), kX8 cuc cvc1 cvc2 cvc3 cvc4 cvc5 (zc 4), aI y cvc1 20 (zc 5), aI y cvc2 20 (zc 6), aI y cvc3 20 (zc 7), aI y cvc4 20 (zc 8), aI y cvc5 20 oc, kX10 cud cvd (zc 9), aI y cvd 32 (zc 10), kX0 cue cve (zc 11), aI y cve 3 (zc 12)]) sz) := by
  refine vx_ofWH (cc := cL_runScript) (maxL := 6) (ret := (some .int)) (hh := [(0, 11, 14, 13)]) (by decide) rfl ?_
  intro p e s m args below meth c s₁ B hml hv
  obtain ⟨rfl, hsz, hP, ⟨hK, hN⟩, hD0, hTY⟩ := hv
  have hx := B.exec
  have hb := B.bytes
  have hr := B.returns
  have hts := atoms_spec (ws := wsL_runScript) B.pre
  have hown : s.vm.findClass RL = some m.cls := findClass_of_methodNamed B.named
  have hlocks := B.notSynchronized
  have htb : c.exceptionTable.toList = tableOf [(0, 11, 14, 13)] := vx_table (x := yL_runScript) B (hts (.codeWith yL_runScript cL_runScript 6 (some .int) [(0, 11, 14, 13)]) (List.mem_cons_self))
  subst hsz
  have hD := hD0.self (sz := s.heap.size)
  generalize hAe : va_A ([aJ y jq 1 jo] ++ [kX11 h qt fh kh ch qh qs Z0, kX7 kh kua kub kuc kud kue (z 0), kX3 kua kva (z 1), aI y kva 10 (z 2), kX1 kub (z 3), kX8 kuc kvc1 kvc2 kvc3 kvc4 kvc5 (z 4), aI y kvc1 20 (z 5), aI y kvc2 20 (z 6), aI y kvc3 20 (z 7), aI y kvc4 20 (z 8), aI y kvc5 20 o, kX10 kud kvd (z 9), aI y kvd 32 (z 10), kX0 kue kve (z 11), aI y kve 3 (z 12), kX7 ch cua cub cuc cud cue (zc 0), kX3 cua cva (zc 1), aI y cva 10 (zc 2), kX1 cub (zc 3), kX8 cuc cvc1 cvc2 cvc3 cvc4 cvc5 (zc 4), aI y cvc1 20 (zc 5), aI y cvc2 20 (zc 6), aI y cvc3 20 (zc 7), aI y cvc4 20 (zc 8), aI y cvc5 20 oc, kX10 cud cvd (zc 9), aI y cvd 32 (zc 10), kX0 cue cve (zc 11), aI y cve 3 (zc 12)]) s.heap.size = A at hD hTY ⊢
  have hA : ∀ q : Nat, s.heap.size ≤ q → A q := fun q h => by rw [← hAe]; exact Or.inr h
  have hS : va_S A s.heap s.heap [] := va_S.rf
  have hP : va_P G vwCl ([aJ y jq 1 jo] ++ [kX11 h qt fh kh ch qh qs Z0, kX7 kh kua kub kuc kud kue (z 0), kX3 kua kva (z 1), aI y kva 10 (z 2), kX1 kub (z 3), kX8 kuc kvc1 kvc2 kvc3 kvc4 kvc5 (z 4), aI y kvc1 20 (z 5), aI y kvc2 20 (z 6), aI y kvc3 20 (z 7), aI y kvc4 20 (z 8), aI y kvc5 20 o, kX10 kud kvd (z 9), aI y kvd 32 (z 10), kX0 kue kve (z 11), aI y kve 3 (z 12), kX7 ch cua cub cuc cud cue (zc 0), kX3 cua cva (zc 1), aI y cva 10 (zc 2), kX1 cub (zc 3), kX8 cuc cvc1 cvc2 cvc3 cvc4 cvc5 (zc 4), aI y cvc1 20 (zc 5), aI y cvc2 20 (zc 6), aI y cvc3 20 (zc 7), aI y cvc4 20 (zc 8), aI y cvc5 20 oc, kX10 cud cvd (zc 9), aI y cvd 32 (zc 10), kX0 cue cve (zc 11), aI y cve 3 (zc 12)]) s.heap := hP
  have hK4 : va_K G vwCl (tyG y) s := hK.sub (tys' := tyG y) [0, 1, 2, 3] rfl
  have hl := lv_entry ([.ref h, .int a1, .long a2, .ref jq]) (n := 6) (Nat.le_of_ble_eq_true rfl)
  rw [lg_entry_eq]
  generalize (lg_sl ([.ref h, .int a1, .long a2, .ref jq]) ++ List.replicate (6 - (lg_sl ([.ref h, .int a1, .long a2, .ref jq])).length) Slot.unset).toArray = ls at hl ⊢
  have hl : lv_has ls 6 [(0, .ref h), (1, .int a1), (2, .long a2), (4, .ref jq)] := hl
  obtain ⟨QQ, hQQ⟩ : ∃ zq9, zq9 = vx_MQ below (QHi G 0 (fun u : (Nat → Int32) × (Nat → Nat → Int32) => ([aJ y jq 1 (vp_updL jo 0 ((s_X11_runScript_r a1 a2 z)).toInt64)] ++ [kX11 h qt fh kh ch qh qs Z0, kX7 kh kua kub kuc kud kue (z 0), kX3 kua kva (z 1), aI y kva 10 (z 2), kX1 kub (z 3), kX8 kuc kvc1 kvc2 kvc3 kvc4 kvc5 (z 4), aI y kvc1 20 (z 5), aI y kvc2 20 (z 6), aI y kvc3 20 (z 7), aI y kvc4 20 (z 8), aI y kvc5 20 o, kX10 kud kvd (z 9), aI y kvd 32 (z 10), kX0 kue kve (z 11), aI y kve 3 (z 12), kX7 ch cua cub cuc cud cue (u.2 0), kX3 cua cva (u.2 1), aI y cva 10 (u.2 2), kX1 cub (u.2 3), kX8 cuc cvc1 cvc2 cvc3 cvc4 cvc5 (u.2 4), aI y cvc1 20 (u.2 5), aI y cvc2 20 (u.2 6), aI y cvc3 20 (u.2 7), aI y cvc4 20 (u.2 8), aI y cvc5 20 u.1, kX10 cud cvd (u.2 9), aI y cvd 32 (u.2 10), kX0 cue cve (u.2 11), aI y cve 3 (u.2 12)])) A) XN ([.ref h, .int a1, .long a2, .ref jq] : List Value).toArray s 1 6 A := ⟨_, rfl⟩
  rw [← hQQ]
  refine lv_aload hx hb dL_runScript_0 (lv_at hl 3 rfl) ?_
  refine lv_iconst (v := 0) hx hb dL_runScript_2 (by decide) ?_
  refine lv_aload_n hx hb dL_runScript_3 rfl (lv_at hl 0 rfl) ?_
  refine lv_iload_n hx hb dL_runScript_4 rfl (lv_at hl 1 rfl) ?_
  refine lv_lload_n hx hb dL_runScript_5 rfl (lv_at hl 2 rfl) ?_
  refine cl_X (wr := [aJ y jq 1 jo]) (wc := [kX11 h qt fh kh ch qh qs Z0, kX7 kh kua kub kuc kud kue (z 0), kX3 kua kva (z 1), aI y kva 10 (z 2), kX1 kub (z 3), kX8 kuc kvc1 kvc2 kvc3 kvc4 kvc5 (z 4), aI y kvc1 20 (z 5), aI y kvc2 20 (z 6), aI y kvc3 20 (z 7), aI y kvc4 20 (z 8), aI y kvc5 20 o, kX10 kud kvd (z 9), aI y kvd 32 (z 10), kX0 kue kve (z 11), aI y kve 3 (z 12), kX7 ch cua cub cuc cud cue (zc 0), kX3 cua cva (zc 1), aI y cva 10 (zc 2), kX1 cub (zc 3), kX8 cuc cvc1 cvc2 cvc3 cvc4 cvc5 (zc 4), aI y cvc1 20 (zc 5), aI y cvc2 20 (zc 6), aI y cvc3 20 (zc 7), aI y cvc4 20 (zc 8), aI y cvc5 20 oc, kX10 cud cvd (zc 9), aI y cvd 32 (zc 10), kX0 cue cve (zc 11), aI y cve 3 (zc 12)]) (vx_runV (As := [.int a1, .long a2]) (rest := [.int 0, .ref jq]) ⟨hx, hb, hml, hown, hts⟩ (c_X11_runScript l G y h a1 a2 qt fh kh ch qh qs kua kub kuc kud kue z kva kvc1 kvc2 kvc3 kvc4 kvc5 o kvd kve cua cub cuc cud cue zc cva cvc1 cvc2 cvc3 cvc4 cvc5 oc cvd cve s.heap.size hrz hez hgz hTC hfl) (cwV 2 hts gL_runScript_X11_runScript rfl rfl rfl (by decide +kernel) ⟨Nat.le_of_ble_eq_true rfl, Nat.le_of_ble_eq_true rfl⟩) (PHX_V (A0 := A) (P_r hP) hK4 hN (D_r hD) hTY.1 hS (F_r hD hS hA) (ci := 9) (q0 := 0) rfl rfl) rfl rfl hl.1 rfl (lv_room (Nat.le_of_ble_eq_true rfl)) dL_runScript_6 ⟨Nat.le_of_ble_eq_true rfl, Nat.le_of_ble_eq_true rfl⟩) hP hD hS hA (fun E ce q9 u H locs hE hP hD hS hce hcv hcl => ?_) (fun u H locs hP hD hS => ?_)
  · exact (exC_0 hk0 hE).elim
  · refine lv_i2l (v := ((s_X11_runScript_r a1 a2 z)).toInt64) hx hb dL_runScript_9 rfl ?_
    refine as_o hx hb hK hP hD hS dL_runScript_10 (fun H locs hP hD hS => ?_)
    refine lv_goto (tgt := 18) hx hb dL_runScript_11 (by decide) ?_
    refine lv_iconst (v := 0) hx hb dL_runScript_18 (by decide) ?_
    rw [hQQ]
    refine vx_ret ?_
    exact W.iret hx hb hr (end_Hi u.1 hP hD hS rfl rfl) hS.2.2 dL_runScript_19
set_option maxHeartbeats 400000 in
set_option maxRecDepth 100000 in
theorem c_L_runScript_n (l : Launch) (G : va_G) (y : Nat → ClassId) (h : Nat) (a1 : Int32) (a2 : Int64) (qt : Nat) (fh : Nat) (kh : Nat) (ch : Nat) (qh : Nat) (qs : Nat) (kua : Nat) (kub : Nat) (kuc : Nat) (kud : Nat) (kue : Nat) (z : Nat → Nat → Int32) (kva : Nat) (kvc1 : Nat) (kvc2 : Nat) (kvc3 : Nat) (kvc4 : Nat) (kvc5 : Nat) (o : Nat → Int32) (kvd : Nat) (kve : Nat) (cua : Nat) (cub : Nat) (cuc : Nat) (cud : Nat) (cue : Nat) (zc : Nat → Nat → Int32) (cva : Nat) (cvc1 : Nat) (cvc2 : Nat) (cvc3 : Nat) (cvc4 : Nat) (cvc5 : Nat) (oc : Nat → Int32) (cvd : Nat) (cve : Nat) (jq : Nat) (jo : Nat → Int64) (sz : Nat) (hrz : z 3 7 = 0 ∨ z 3 7 = 1) (hez : z 3 10 = 0 ∨ z 3 10 = 1) (hgz : z 4 6 = 0 ∨ z 4 6 = 1) (hTC : TC z) (hk0 : ¬ (s_X11_runScript_k a1 a2) = 0) (hfl : l.stackTraces = false) : vx_Met l yL_runScript wsL_runScript rmL_runScript (PHL G y [.ref h, .int a1, .long a2, .ref jq] ([aJ y jq 1 jo] ++ [kX11 h qt fh kh ch qh qs Z0, kX7 kh kua kub kuc kud kue (z 0), kX3 kua kva (z 1), aI y kva 10 (z 2), kX1 kub (z 3), kX8 kuc kvc1 kvc2 kvc3 kvc4 kvc5 (z 4), aI y kvc1 20 (z 5), aI y kvc2 20 (z 6), aI y kvc3 20 (z 7), aI y kvc4 20 (z 8), aI y kvc5 20 o, kX10 kud kvd (z 9), aI y kvd 32 (z 10), kX0 kue kve (z 11), aI y kve 3 (z 12), kX7 ch cua cub cuc cud cue (zc 0), kX3 cua cva (zc 1), aI y cva 10 (zc 2), kX1 cub (zc 3), kX8 cuc cvc1 cvc2 cvc3 cvc4 cvc5 (zc 4), aI y cvc1 20 (zc 5), aI y cvc2 20 (zc 6), aI y cvc3 20 (zc 7), aI y cvc4 20 (zc 8), aI y cvc5 20 oc, kX10 cud cvd (zc 9), aI y cvd 32 (zc 10), kX0 cue cve (zc 11), aI y cve 3 (zc 12)]) sz) (QHi G (cdK 1 (s_X11_runScript_k a1 a2)) (fun u : (Nat → Int32) × (Nat → Nat → Int32) => ([aJ y jq 1 jo] ++ [kX11 h qt fh kh ch qh qs Z0, kX7 kh kua kub kuc kud kue (z 0), kX3 kua kva (z 1), aI y kva 10 (z 2), kX1 kub (z 3), kX8 kuc kvc1 kvc2 kvc3 kvc4 kvc5 (z 4), aI y kvc1 20 (z 5), aI y kvc2 20 (z 6), aI y kvc3 20 (z 7), aI y kvc4 20 (z 8), aI y kvc5 20 o, kX10 kud kvd (z 9), aI y kvd 32 (z 10), kX0 kue kve (z 11), aI y kve 3 (z 12), kX7 ch cua cub cuc cud cue (u.2 0), kX3 cua cva (u.2 1), aI y cva 10 (u.2 2), kX1 cub (u.2 3), kX8 cuc cvc1 cvc2 cvc3 cvc4 cvc5 (u.2 4), aI y cvc1 20 (u.2 5), aI y cvc2 20 (u.2 6), aI y cvc3 20 (u.2 7), aI y cvc4 20 (u.2 8), aI y cvc5 20 u.1, kX10 cud cvd (u.2 9), aI y cvd 32 (u.2 10), kX0 cue cve (u.2 11), aI y cve 3 (u.2 12)])) (va_A ([aJ y jq 1 jo] ++ [kX11 h qt fh kh ch qh qs Z0, kX7 kh kua kub kuc kud kue (z 0), kX3 kua kva (z 1), aI y kva 10 (z 2), kX1 kub (z 3), kX8 kuc kvc1 kvc2 kvc3 kvc4 kvc5 (z 4), aI y kvc1 20 (z 5), aI y kvc2 20 (z 6), aI y kvc3 20 (z 7), aI y kvc4 20 (z 8), aI y kvc5 20 o, kX10 kud kvd (z 9), aI y kvd 32 (z 10), kX0 kue kve (z 11), aI y kve 3 (z 12), kX7 ch cua cub cuc cud cue (zc 0), kX3 cua cva (zc 1), aI y cva 10 (zc 2), kX1 cub (zc 3), kX8 cuc cvc1 cvc2 cvc3 cvc4 cvc5 (zc 4), aI y cvc1 20 (zc 5), aI y cvc2 20 (zc 6), aI y cvc3 20 (zc 7), aI y cvc4 20 (zc 8), aI y cvc5 20 oc, kX10 cud cvd (zc 9), aI y cvd 32 (zc 10), kX0 cue cve (zc 11), aI y cve 3 (zc 12)]) sz)) XN 1 6 (va_A ([aJ y jq 1 jo] ++ [kX11 h qt fh kh ch qh qs Z0, kX7 kh kua kub kuc kud kue (z 0), kX3 kua kva (z 1), aI y kva 10 (z 2), kX1 kub (z 3), kX8 kuc kvc1 kvc2 kvc3 kvc4 kvc5 (z 4), aI y kvc1 20 (z 5), aI y kvc2 20 (z 6), aI y kvc3 20 (z 7), aI y kvc4 20 (z 8), aI y kvc5 20 o, kX10 kud kvd (z 9), aI y kvd 32 (z 10), kX0 kue kve (z 11), aI y kve 3 (z 12), kX7 ch cua cub cuc cud cue (zc 0), kX3 cua cva (zc 1), aI y cva 10 (zc 2), kX1 cub (zc 3), kX8 cuc cvc1 cvc2 cvc3 cvc4 cvc5 (zc 4), aI y cvc1 20 (zc 5), aI y cvc2 20 (zc 6), aI y cvc3 20 (zc 7), aI y cvc4 20 (zc 8), aI y cvc5 20 oc, kX10 cud cvd (zc 9), aI y cvd 32 (zc 10), kX0 cue cve (zc 11), aI y cve 3 (zc 12)]) sz) := by
  refine vx_ofWH (cc := cL_runScript) (maxL := 6) (ret := (some .int)) (hh := [(0, 11, 14, 13)]) (by decide) rfl ?_
  intro p e s m args below meth c s₁ B hml hv
  obtain ⟨rfl, hsz, hP, ⟨hK, hN⟩, hD0, hTY⟩ := hv
  have hx := B.exec
  have hb := B.bytes
  have hr := B.returns
  have hts := atoms_spec (ws := wsL_runScript) B.pre
  have hown : s.vm.findClass RL = some m.cls := findClass_of_methodNamed B.named
  have hlocks := B.notSynchronized
  have htb : c.exceptionTable.toList = tableOf [(0, 11, 14, 13)] := vx_table (x := yL_runScript) B (hts (.codeWith yL_runScript cL_runScript 6 (some .int) [(0, 11, 14, 13)]) (List.mem_cons_self))
  subst hsz
  have hD := hD0.self (sz := s.heap.size)
  generalize hAe : va_A ([aJ y jq 1 jo] ++ [kX11 h qt fh kh ch qh qs Z0, kX7 kh kua kub kuc kud kue (z 0), kX3 kua kva (z 1), aI y kva 10 (z 2), kX1 kub (z 3), kX8 kuc kvc1 kvc2 kvc3 kvc4 kvc5 (z 4), aI y kvc1 20 (z 5), aI y kvc2 20 (z 6), aI y kvc3 20 (z 7), aI y kvc4 20 (z 8), aI y kvc5 20 o, kX10 kud kvd (z 9), aI y kvd 32 (z 10), kX0 kue kve (z 11), aI y kve 3 (z 12), kX7 ch cua cub cuc cud cue (zc 0), kX3 cua cva (zc 1), aI y cva 10 (zc 2), kX1 cub (zc 3), kX8 cuc cvc1 cvc2 cvc3 cvc4 cvc5 (zc 4), aI y cvc1 20 (zc 5), aI y cvc2 20 (zc 6), aI y cvc3 20 (zc 7), aI y cvc4 20 (zc 8), aI y cvc5 20 oc, kX10 cud cvd (zc 9), aI y cvd 32 (zc 10), kX0 cue cve (zc 11), aI y cve 3 (zc 12)]) s.heap.size = A at hD hTY ⊢
  have hA : ∀ q : Nat, s.heap.size ≤ q → A q := fun q h => by rw [← hAe]; exact Or.inr h
  have hS : va_S A s.heap s.heap [] := va_S.rf
  have hP : va_P G vwCl ([aJ y jq 1 jo] ++ [kX11 h qt fh kh ch qh qs Z0, kX7 kh kua kub kuc kud kue (z 0), kX3 kua kva (z 1), aI y kva 10 (z 2), kX1 kub (z 3), kX8 kuc kvc1 kvc2 kvc3 kvc4 kvc5 (z 4), aI y kvc1 20 (z 5), aI y kvc2 20 (z 6), aI y kvc3 20 (z 7), aI y kvc4 20 (z 8), aI y kvc5 20 o, kX10 kud kvd (z 9), aI y kvd 32 (z 10), kX0 kue kve (z 11), aI y kve 3 (z 12), kX7 ch cua cub cuc cud cue (zc 0), kX3 cua cva (zc 1), aI y cva 10 (zc 2), kX1 cub (zc 3), kX8 cuc cvc1 cvc2 cvc3 cvc4 cvc5 (zc 4), aI y cvc1 20 (zc 5), aI y cvc2 20 (zc 6), aI y cvc3 20 (zc 7), aI y cvc4 20 (zc 8), aI y cvc5 20 oc, kX10 cud cvd (zc 9), aI y cvd 32 (zc 10), kX0 cue cve (zc 11), aI y cve 3 (zc 12)]) s.heap := hP
  have hK4 : va_K G vwCl (tyG y) s := hK.sub (tys' := tyG y) [0, 1, 2, 3] rfl
  have hl := lv_entry ([.ref h, .int a1, .long a2, .ref jq]) (n := 6) (Nat.le_of_ble_eq_true rfl)
  rw [lg_entry_eq]
  generalize (lg_sl ([.ref h, .int a1, .long a2, .ref jq]) ++ List.replicate (6 - (lg_sl ([.ref h, .int a1, .long a2, .ref jq])).length) Slot.unset).toArray = ls at hl ⊢
  have hl : lv_has ls 6 [(0, .ref h), (1, .int a1), (2, .long a2), (4, .ref jq)] := hl
  obtain ⟨QQ, hQQ⟩ : ∃ zq9, zq9 = vx_MQ below (QHi G (cdK 1 (s_X11_runScript_k a1 a2)) (fun u : (Nat → Int32) × (Nat → Nat → Int32) => ([aJ y jq 1 jo] ++ [kX11 h qt fh kh ch qh qs Z0, kX7 kh kua kub kuc kud kue (z 0), kX3 kua kva (z 1), aI y kva 10 (z 2), kX1 kub (z 3), kX8 kuc kvc1 kvc2 kvc3 kvc4 kvc5 (z 4), aI y kvc1 20 (z 5), aI y kvc2 20 (z 6), aI y kvc3 20 (z 7), aI y kvc4 20 (z 8), aI y kvc5 20 o, kX10 kud kvd (z 9), aI y kvd 32 (z 10), kX0 kue kve (z 11), aI y kve 3 (z 12), kX7 ch cua cub cuc cud cue (u.2 0), kX3 cua cva (u.2 1), aI y cva 10 (u.2 2), kX1 cub (u.2 3), kX8 cuc cvc1 cvc2 cvc3 cvc4 cvc5 (u.2 4), aI y cvc1 20 (u.2 5), aI y cvc2 20 (u.2 6), aI y cvc3 20 (u.2 7), aI y cvc4 20 (u.2 8), aI y cvc5 20 u.1, kX10 cud cvd (u.2 9), aI y cvd 32 (u.2 10), kX0 cue cve (u.2 11), aI y cve 3 (u.2 12)])) A) XN ([.ref h, .int a1, .long a2, .ref jq] : List Value).toArray s 1 6 A := ⟨_, rfl⟩
  rw [← hQQ]
  refine lv_aload hx hb dL_runScript_0 (lv_at hl 3 rfl) ?_
  refine lv_iconst (v := 0) hx hb dL_runScript_2 (by decide) ?_
  refine lv_aload_n hx hb dL_runScript_3 rfl (lv_at hl 0 rfl) ?_
  refine lv_iload_n hx hb dL_runScript_4 rfl (lv_at hl 1 rfl) ?_
  refine lv_lload_n hx hb dL_runScript_5 rfl (lv_at hl 2 rfl) ?_
  refine cl_X (wr := [aJ y jq 1 jo]) (wc := [kX11 h qt fh kh ch qh qs Z0, kX7 kh kua kub kuc kud kue (z 0), kX3 kua kva (z 1), aI y kva 10 (z 2), kX1 kub (z 3), kX8 kuc kvc1 kvc2 kvc3 kvc4 kvc5 (z 4), aI y kvc1 20 (z 5), aI y kvc2 20 (z 6), aI y kvc3 20 (z 7), aI y kvc4 20 (z 8), aI y kvc5 20 o, kX10 kud kvd (z 9), aI y kvd 32 (z 10), kX0 kue kve (z 11), aI y kve 3 (z 12), kX7 ch cua cub cuc cud cue (zc 0), kX3 cua cva (zc 1), aI y cva 10 (zc 2), kX1 cub (zc 3), kX8 cuc cvc1 cvc2 cvc3 cvc4 cvc5 (zc 4), aI y cvc1 20 (zc 5), aI y cvc2 20 (zc 6), aI y cvc3 20 (zc 7), aI y cvc4 20 (zc 8), aI y cvc5 20 oc, kX10 cud cvd (zc 9), aI y cvd 32 (zc 10), kX0 cue cve (zc 11), aI y cve 3 (zc 12)]) (vx_runV (As := [.int a1, .long a2]) (rest := [.int 0, .ref jq]) ⟨hx, hb, hml, hown, hts⟩ (c_X11_runScript l G y h a1 a2 qt fh kh ch qh qs kua kub kuc kud kue z kva kvc1 kvc2 kvc3 kvc4 kvc5 o kvd kve cua cub cuc cud cue zc cva cvc1 cvc2 cvc3 cvc4 cvc5 oc cvd cve s.heap.size hrz hez hgz hTC hfl) (cwV 2 hts gL_runScript_X11_runScript rfl rfl rfl (by decide +kernel) ⟨Nat.le_of_ble_eq_true rfl, Nat.le_of_ble_eq_true rfl⟩) (PHX_V (A0 := A) (P_r hP) hK4 hN (D_r hD) hTY.1 hS (F_r hD hS hA) (ci := 9) (q0 := 0) rfl rfl) rfl rfl hl.1 rfl (lv_room (Nat.le_of_ble_eq_true rfl)) dL_runScript_6 ⟨Nat.le_of_ble_eq_true rfl, Nat.le_of_ble_eq_true rfl⟩) hP hD hS hA (fun E ce q9 u H locs hE hP hD hS hce hcv hcl => ?_) (fun u H locs hP hD hS => ?_)
  · rcases hE with ⟨rfl, hE⟩ | ⟨rfl, hE⟩ | ⟨rfl, hE⟩
    · refine vx_catch hown [] ⟨0, 11, 14, 13⟩ [] (htb.trans rfl) (fun z hz => by cases hz) (by decide) (by decide) (hts (.classLink RL 13 "java/lang/IllegalArgumentException") (by decide +kernel)) (va_Nw.use rfl (hTY.1.2.1 _ mIA)) hce hcv hcl ?_
      refine lv_astore (lv' := [(5, .ref q9), (0, .ref h), (1, .int a1), (2, .long a2), (4, .ref jq)]) hx hb dL_runScript_14 hl (by decide) rfl (fun ls hl => ?_)
      refine lv_iconst (v := 1) hx hb dL_runScript_16 (by decide) ?_
      rw [hQQ]
      refine vx_ret ?_
      exact W.iret hx hb hr (end_Hi u hP hD hS (cd_1 hE (by decide)) rfl) hS.2.2 dL_runScript_17
    · rcases kx_runScript a1 a2 with k9 | k9
      · exact absurd (hE.trans k9) (by decide)
      · exact absurd (hE.trans k9) (by decide)
    · rcases kx_runScript a1 a2 with k9 | k9
      · exact absurd (hE.trans k9) (by decide)
      · exact absurd (hE.trans k9) (by decide)
  · exact absurd u.2 hk0
theorem kx_simulate (a2 : Int32) : s_X11_simulate_k a2 = 0 ∨ s_X11_simulate_k a2 = 1 := by
  unfold s_X11_simulate_k
  exact k_ite (Q := (fun x : Int32 => x = 0 ∨ x = 1)) (Or.inr rfl) (k_ite (Q := (fun x : Int32 => x = 0 ∨ x = 1)) (Or.inl rfl) (Or.inr rfl))
abbrev rmL_simulate : Room := ({ frames := 7, cells := 1, slots := 6, locals := 141 } : Room)
set_option maxHeartbeats 400000 in
set_option maxRecDepth 100000 in
theorem c_L_simulate_y (l : Launch) (G : va_G) (y : Nat → ClassId) (h : Nat) (a1 : Int64) (a2 : Int32) (qt : Nat) (fh : Nat) (kh : Nat) (ch : Nat) (qh : Nat) (qs : Nat) (kua : Nat) (kub : Nat) (kuc : Nat) (kud : Nat) (kue : Nat) (z : Nat → Nat → Int32) (kva : Nat) (kvc1 : Nat) (kvc2 : Nat) (kvc3 : Nat) (kvc4 : Nat) (kvc5 : Nat) (o : Nat → Int32) (kvd : Nat) (kve : Nat) (cua : Nat) (cub : Nat) (cuc : Nat) (cud : Nat) (cue : Nat) (zc : Nat → Nat → Int32) (cva : Nat) (cvc1 : Nat) (cvc2 : Nat) (cvc3 : Nat) (cvc4 : Nat) (cvc5 : Nat) (oc : Nat → Int32) (cvd : Nat) (cve : Nat) (jq : Nat) (jo : Nat → Int64) (sz : Nat) (hrz : z 3 7 = 0 ∨ z 3 7 = 1) (hez : z 3 10 = 0 ∨ z 3 10 = 1) (hgz : z 4 6 = 0 ∨ z 4 6 = 1) (hTC : TC z) (hk0 : (s_X11_simulate_k a2) = 0) (hfl : l.stackTraces = false) : vx_Met l yL_simulate wsL_simulate rmL_simulate (PHL G y [.ref h, .long a1, .int a2, .ref jq] ([aJ y jq 1 jo] ++ [kX11 h qt fh kh ch qh qs Z0, kX7 kh kua kub kuc kud kue (z 0), kX3 kua kva (z 1), aI y kva 10 (z 2), kX1 kub (z 3), kX8 kuc kvc1 kvc2 kvc3 kvc4 kvc5 (z 4), aI y kvc1 20 (z 5), aI y kvc2 20 (z 6), aI y kvc3 20 (z 7), aI y kvc4 20 (z 8), aI y kvc5 20 o, kX10 kud kvd (z 9), aI y kvd 32 (z 10), kX0 kue kve (z 11), aI y kve 3 (z 12), kX7 ch cua cub cuc cud cue (zc 0), kX3 cua cva (zc 1), aI y cva 10 (zc 2), kX1 cub (zc 3), kX8 cuc cvc1 cvc2 cvc3 cvc4 cvc5 (zc 4), aI y cvc1 20 (zc 5), aI y cvc2 20 (zc 6), aI y cvc3 20 (zc 7), aI y cvc4 20 (zc 8), aI y cvc5 20 oc, kX10 cud cvd (zc 9), aI y cvd 32 (zc 10), kX0 cue cve (zc 11), aI y cve 3 (zc 12)]) sz) (QHi G 0 (fun u : (Nat → Int32) × (Nat → Nat → Int32) => ([aJ y jq 1 (vp_updL jo 0 ((s_X11_simulate_r a1 a2 z)).toInt64)] ++ [kX11 h qt fh kh ch qh qs Z0, kX7 kh kua kub kuc kud kue (z 0), kX3 kua kva (z 1), aI y kva 10 (z 2), kX1 kub (z 3), kX8 kuc kvc1 kvc2 kvc3 kvc4 kvc5 (z 4), aI y kvc1 20 (z 5), aI y kvc2 20 (z 6), aI y kvc3 20 (z 7), aI y kvc4 20 (z 8), aI y kvc5 20 o, kX10 kud kvd (z 9), aI y kvd 32 (z 10), kX0 kue kve (z 11), aI y kve 3 (z 12), kX7 ch cua cub cuc cud cue (u.2 0), kX3 cua cva (u.2 1), aI y cva 10 (u.2 2), kX1 cub (u.2 3), kX8 cuc cvc1 cvc2 cvc3 cvc4 cvc5 (u.2 4), aI y cvc1 20 (u.2 5), aI y cvc2 20 (u.2 6), aI y cvc3 20 (u.2 7), aI y cvc4 20 (u.2 8), aI y cvc5 20 u.1, kX10 cud cvd (u.2 9), aI y cvd 32 (u.2 10), kX0 cue cve (u.2 11), aI y cve 3 (u.2 12)])) (va_A ([aJ y jq 1 jo] ++ [kX11 h qt fh kh ch qh qs Z0, kX7 kh kua kub kuc kud kue (z 0), kX3 kua kva (z 1), aI y kva 10 (z 2), kX1 kub (z 3), kX8 kuc kvc1 kvc2 kvc3 kvc4 kvc5 (z 4), aI y kvc1 20 (z 5), aI y kvc2 20 (z 6), aI y kvc3 20 (z 7), aI y kvc4 20 (z 8), aI y kvc5 20 o, kX10 kud kvd (z 9), aI y kvd 32 (z 10), kX0 kue kve (z 11), aI y kve 3 (z 12), kX7 ch cua cub cuc cud cue (zc 0), kX3 cua cva (zc 1), aI y cva 10 (zc 2), kX1 cub (zc 3), kX8 cuc cvc1 cvc2 cvc3 cvc4 cvc5 (zc 4), aI y cvc1 20 (zc 5), aI y cvc2 20 (zc 6), aI y cvc3 20 (zc 7), aI y cvc4 20 (zc 8), aI y cvc5 20 oc, kX10 cud cvd (zc 9), aI y cvd 32 (zc 10), kX0 cue cve (zc 11), aI y cve 3 (zc 12)]) sz)) XN 1 6 (va_A ([aJ y jq 1 jo] ++ [kX11 h qt fh kh ch qh qs Z0, kX7 kh kua kub kuc kud kue (z 0), kX3 kua kva (z 1), aI y kva 10 (z 2), kX1 kub (z 3), kX8 kuc kvc1 kvc2 kvc3 kvc4 kvc5 (z 4), aI y kvc1 20 (z 5), aI y kvc2 20 (z 6), aI y kvc3 20 (z 7), aI y kvc4 20 (z 8), aI y kvc5 20 o, kX10 kud kvd (z 9), aI y kvd 32 (z 10), kX0 kue kve (z 11), aI y kve 3 (z 12), kX7 ch cua cub cuc cud cue (zc 0), kX3 cua cva (zc 1), aI y cva 10 (zc 2), kX1 cub (zc 3), kX8 cuc cvc1 cvc2 cvc3 cvc4 cvc5 (zc 4), aI y cvc1 20 (zc 5), aI y cvc2 20 (zc 6), aI y cvc3 20 (zc 7), aI y cvc4 20 (zc 8), aI y cvc5 20 oc, kX10 cud cvd (zc 9), aI y cvd 32 (zc 10), kX0 cue cve (zc 11), aI y cve 3 (zc 12)]) sz) := by
  refine vx_ofWH (cc := cL_simulate) (maxL := 6) (ret := (some .int)) (hh := [(0, 11, 14, 13)]) (by decide) rfl ?_
  intro p e s m args below meth c s₁ B hml hv
  obtain ⟨rfl, hsz, hP, ⟨hK, hN⟩, hD0, hTY⟩ := hv
  have hx := B.exec
  have hb := B.bytes
  have hr := B.returns
  have hts := atoms_spec (ws := wsL_simulate) B.pre
  have hown : s.vm.findClass RL = some m.cls := findClass_of_methodNamed B.named
  have hlocks := B.notSynchronized
  have htb : c.exceptionTable.toList = tableOf [(0, 11, 14, 13)] := vx_table (x := yL_simulate) B (hts (.codeWith yL_simulate cL_simulate 6 (some .int) [(0, 11, 14, 13)]) (List.mem_cons_self))
  subst hsz
  have hD := hD0.self (sz := s.heap.size)
  generalize hAe : va_A ([aJ y jq 1 jo] ++ [kX11 h qt fh kh ch qh qs Z0, kX7 kh kua kub kuc kud kue (z 0), kX3 kua kva (z 1), aI y kva 10 (z 2), kX1 kub (z 3), kX8 kuc kvc1 kvc2 kvc3 kvc4 kvc5 (z 4), aI y kvc1 20 (z 5), aI y kvc2 20 (z 6), aI y kvc3 20 (z 7), aI y kvc4 20 (z 8), aI y kvc5 20 o, kX10 kud kvd (z 9), aI y kvd 32 (z 10), kX0 kue kve (z 11), aI y kve 3 (z 12), kX7 ch cua cub cuc cud cue (zc 0), kX3 cua cva (zc 1), aI y cva 10 (zc 2), kX1 cub (zc 3), kX8 cuc cvc1 cvc2 cvc3 cvc4 cvc5 (zc 4), aI y cvc1 20 (zc 5), aI y cvc2 20 (zc 6), aI y cvc3 20 (zc 7), aI y cvc4 20 (zc 8), aI y cvc5 20 oc, kX10 cud cvd (zc 9), aI y cvd 32 (zc 10), kX0 cue cve (zc 11), aI y cve 3 (zc 12)]) s.heap.size = A at hD hTY ⊢
  have hA : ∀ q : Nat, s.heap.size ≤ q → A q := fun q h => by rw [← hAe]; exact Or.inr h
  have hS : va_S A s.heap s.heap [] := va_S.rf
  have hP : va_P G vwCl ([aJ y jq 1 jo] ++ [kX11 h qt fh kh ch qh qs Z0, kX7 kh kua kub kuc kud kue (z 0), kX3 kua kva (z 1), aI y kva 10 (z 2), kX1 kub (z 3), kX8 kuc kvc1 kvc2 kvc3 kvc4 kvc5 (z 4), aI y kvc1 20 (z 5), aI y kvc2 20 (z 6), aI y kvc3 20 (z 7), aI y kvc4 20 (z 8), aI y kvc5 20 o, kX10 kud kvd (z 9), aI y kvd 32 (z 10), kX0 kue kve (z 11), aI y kve 3 (z 12), kX7 ch cua cub cuc cud cue (zc 0), kX3 cua cva (zc 1), aI y cva 10 (zc 2), kX1 cub (zc 3), kX8 cuc cvc1 cvc2 cvc3 cvc4 cvc5 (zc 4), aI y cvc1 20 (zc 5), aI y cvc2 20 (zc 6), aI y cvc3 20 (zc 7), aI y cvc4 20 (zc 8), aI y cvc5 20 oc, kX10 cud cvd (zc 9), aI y cvd 32 (zc 10), kX0 cue cve (zc 11), aI y cve 3 (zc 12)]) s.heap := hP
  have hK4 : va_K G vwCl (tyG y) s := hK.sub (tys' := tyG y) [0, 1, 2, 3] rfl
  have hl := lv_entry ([.ref h, .long a1, .int a2, .ref jq]) (n := 6) (Nat.le_of_ble_eq_true rfl)
  rw [lg_entry_eq]
  generalize (lg_sl ([.ref h, .long a1, .int a2, .ref jq]) ++ List.replicate (6 - (lg_sl ([.ref h, .long a1, .int a2, .ref jq])).length) Slot.unset).toArray = ls at hl ⊢
  have hl : lv_has ls 6 [(0, .ref h), (1, .long a1), (3, .int a2), (4, .ref jq)] := hl
  obtain ⟨QQ, hQQ⟩ : ∃ zq9, zq9 = vx_MQ below (QHi G 0 (fun u : (Nat → Int32) × (Nat → Nat → Int32) => ([aJ y jq 1 (vp_updL jo 0 ((s_X11_simulate_r a1 a2 z)).toInt64)] ++ [kX11 h qt fh kh ch qh qs Z0, kX7 kh kua kub kuc kud kue (z 0), kX3 kua kva (z 1), aI y kva 10 (z 2), kX1 kub (z 3), kX8 kuc kvc1 kvc2 kvc3 kvc4 kvc5 (z 4), aI y kvc1 20 (z 5), aI y kvc2 20 (z 6), aI y kvc3 20 (z 7), aI y kvc4 20 (z 8), aI y kvc5 20 o, kX10 kud kvd (z 9), aI y kvd 32 (z 10), kX0 kue kve (z 11), aI y kve 3 (z 12), kX7 ch cua cub cuc cud cue (u.2 0), kX3 cua cva (u.2 1), aI y cva 10 (u.2 2), kX1 cub (u.2 3), kX8 cuc cvc1 cvc2 cvc3 cvc4 cvc5 (u.2 4), aI y cvc1 20 (u.2 5), aI y cvc2 20 (u.2 6), aI y cvc3 20 (u.2 7), aI y cvc4 20 (u.2 8), aI y cvc5 20 u.1, kX10 cud cvd (u.2 9), aI y cvd 32 (u.2 10), kX0 cue cve (u.2 11), aI y cve 3 (u.2 12)])) A) XN ([.ref h, .long a1, .int a2, .ref jq] : List Value).toArray s 1 6 A := ⟨_, rfl⟩
  rw [← hQQ]
  refine lv_aload hx hb dL_simulate_0 (lv_at hl 3 rfl) ?_
  refine lv_iconst (v := 0) hx hb dL_simulate_2 (by decide) ?_
  refine lv_aload_n hx hb dL_simulate_3 rfl (lv_at hl 0 rfl) ?_
  refine lv_lload_n hx hb dL_simulate_4 rfl (lv_at hl 1 rfl) ?_
  refine lv_iload_n hx hb dL_simulate_5 rfl (lv_at hl 2 rfl) ?_
  refine cl_X (wr := [aJ y jq 1 jo]) (wc := [kX11 h qt fh kh ch qh qs Z0, kX7 kh kua kub kuc kud kue (z 0), kX3 kua kva (z 1), aI y kva 10 (z 2), kX1 kub (z 3), kX8 kuc kvc1 kvc2 kvc3 kvc4 kvc5 (z 4), aI y kvc1 20 (z 5), aI y kvc2 20 (z 6), aI y kvc3 20 (z 7), aI y kvc4 20 (z 8), aI y kvc5 20 o, kX10 kud kvd (z 9), aI y kvd 32 (z 10), kX0 kue kve (z 11), aI y kve 3 (z 12), kX7 ch cua cub cuc cud cue (zc 0), kX3 cua cva (zc 1), aI y cva 10 (zc 2), kX1 cub (zc 3), kX8 cuc cvc1 cvc2 cvc3 cvc4 cvc5 (zc 4), aI y cvc1 20 (zc 5), aI y cvc2 20 (zc 6), aI y cvc3 20 (zc 7), aI y cvc4 20 (zc 8), aI y cvc5 20 oc, kX10 cud cvd (zc 9), aI y cvd 32 (zc 10), kX0 cue cve (zc 11), aI y cve 3 (zc 12)]) (vx_runV (As := [.long a1, .int a2]) (rest := [.int 0, .ref jq]) ⟨hx, hb, hml, hown, hts⟩ (c_X11_simulate l G y h a1 a2 qt fh kh ch qh qs kua kub kuc kud kue z kva kvc1 kvc2 kvc3 kvc4 kvc5 o kvd kve cua cub cuc cud cue zc cva cvc1 cvc2 cvc3 cvc4 cvc5 oc cvd cve s.heap.size hrz hez hgz hTC hfl) (cwV 2 hts gL_simulate_X11_simulate rfl rfl rfl (by decide +kernel) ⟨Nat.le_of_ble_eq_true rfl, Nat.le_of_ble_eq_true rfl⟩) (PHX_V (A0 := A) (P_r hP) hK4 hN (D_r hD) hTY.1 hS (F_r hD hS hA) (ci := 9) (q0 := 0) rfl rfl) rfl rfl hl.1 rfl (lv_room (Nat.le_of_ble_eq_true rfl)) dL_simulate_6 ⟨Nat.le_of_ble_eq_true rfl, Nat.le_of_ble_eq_true rfl⟩) hP hD hS hA (fun E ce q9 u H locs hE hP hD hS hce hcv hcl => ?_) (fun u H locs hP hD hS => ?_)
  · exact (exC_0 hk0 hE).elim
  · refine lv_i2l (v := ((s_X11_simulate_r a1 a2 z)).toInt64) hx hb dL_simulate_9 rfl ?_
    refine as_o hx hb hK hP hD hS dL_simulate_10 (fun H locs hP hD hS => ?_)
    refine lv_goto (tgt := 18) hx hb dL_simulate_11 (by decide) ?_
    refine lv_iconst (v := 0) hx hb dL_simulate_18 (by decide) ?_
    rw [hQQ]
    refine vx_ret ?_
    exact W.iret hx hb hr (end_Hi u.1 hP hD hS rfl rfl) hS.2.2 dL_simulate_19
set_option maxHeartbeats 400000 in
set_option maxRecDepth 100000 in
theorem c_L_simulate_n (l : Launch) (G : va_G) (y : Nat → ClassId) (h : Nat) (a1 : Int64) (a2 : Int32) (qt : Nat) (fh : Nat) (kh : Nat) (ch : Nat) (qh : Nat) (qs : Nat) (kua : Nat) (kub : Nat) (kuc : Nat) (kud : Nat) (kue : Nat) (z : Nat → Nat → Int32) (kva : Nat) (kvc1 : Nat) (kvc2 : Nat) (kvc3 : Nat) (kvc4 : Nat) (kvc5 : Nat) (o : Nat → Int32) (kvd : Nat) (kve : Nat) (cua : Nat) (cub : Nat) (cuc : Nat) (cud : Nat) (cue : Nat) (zc : Nat → Nat → Int32) (cva : Nat) (cvc1 : Nat) (cvc2 : Nat) (cvc3 : Nat) (cvc4 : Nat) (cvc5 : Nat) (oc : Nat → Int32) (cvd : Nat) (cve : Nat) (jq : Nat) (jo : Nat → Int64) (sz : Nat) (hrz : z 3 7 = 0 ∨ z 3 7 = 1) (hez : z 3 10 = 0 ∨ z 3 10 = 1) (hgz : z 4 6 = 0 ∨ z 4 6 = 1) (hTC : TC z) (hk0 : ¬ (s_X11_simulate_k a2) = 0) (hfl : l.stackTraces = false) : vx_Met l yL_simulate wsL_simulate rmL_simulate (PHL G y [.ref h, .long a1, .int a2, .ref jq] ([aJ y jq 1 jo] ++ [kX11 h qt fh kh ch qh qs Z0, kX7 kh kua kub kuc kud kue (z 0), kX3 kua kva (z 1), aI y kva 10 (z 2), kX1 kub (z 3), kX8 kuc kvc1 kvc2 kvc3 kvc4 kvc5 (z 4), aI y kvc1 20 (z 5), aI y kvc2 20 (z 6), aI y kvc3 20 (z 7), aI y kvc4 20 (z 8), aI y kvc5 20 o, kX10 kud kvd (z 9), aI y kvd 32 (z 10), kX0 kue kve (z 11), aI y kve 3 (z 12), kX7 ch cua cub cuc cud cue (zc 0), kX3 cua cva (zc 1), aI y cva 10 (zc 2), kX1 cub (zc 3), kX8 cuc cvc1 cvc2 cvc3 cvc4 cvc5 (zc 4), aI y cvc1 20 (zc 5), aI y cvc2 20 (zc 6), aI y cvc3 20 (zc 7), aI y cvc4 20 (zc 8), aI y cvc5 20 oc, kX10 cud cvd (zc 9), aI y cvd 32 (zc 10), kX0 cue cve (zc 11), aI y cve 3 (zc 12)]) sz) (QHi G (cdK 1 (s_X11_simulate_k a2)) (fun u : (Nat → Int32) × (Nat → Nat → Int32) => ([aJ y jq 1 jo] ++ [kX11 h qt fh kh ch qh qs Z0, kX7 kh kua kub kuc kud kue (z 0), kX3 kua kva (z 1), aI y kva 10 (z 2), kX1 kub (z 3), kX8 kuc kvc1 kvc2 kvc3 kvc4 kvc5 (z 4), aI y kvc1 20 (z 5), aI y kvc2 20 (z 6), aI y kvc3 20 (z 7), aI y kvc4 20 (z 8), aI y kvc5 20 o, kX10 kud kvd (z 9), aI y kvd 32 (z 10), kX0 kue kve (z 11), aI y kve 3 (z 12), kX7 ch cua cub cuc cud cue (u.2 0), kX3 cua cva (u.2 1), aI y cva 10 (u.2 2), kX1 cub (u.2 3), kX8 cuc cvc1 cvc2 cvc3 cvc4 cvc5 (u.2 4), aI y cvc1 20 (u.2 5), aI y cvc2 20 (u.2 6), aI y cvc3 20 (u.2 7), aI y cvc4 20 (u.2 8), aI y cvc5 20 u.1, kX10 cud cvd (u.2 9), aI y cvd 32 (u.2 10), kX0 cue cve (u.2 11), aI y cve 3 (u.2 12)])) (va_A ([aJ y jq 1 jo] ++ [kX11 h qt fh kh ch qh qs Z0, kX7 kh kua kub kuc kud kue (z 0), kX3 kua kva (z 1), aI y kva 10 (z 2), kX1 kub (z 3), kX8 kuc kvc1 kvc2 kvc3 kvc4 kvc5 (z 4), aI y kvc1 20 (z 5), aI y kvc2 20 (z 6), aI y kvc3 20 (z 7), aI y kvc4 20 (z 8), aI y kvc5 20 o, kX10 kud kvd (z 9), aI y kvd 32 (z 10), kX0 kue kve (z 11), aI y kve 3 (z 12), kX7 ch cua cub cuc cud cue (zc 0), kX3 cua cva (zc 1), aI y cva 10 (zc 2), kX1 cub (zc 3), kX8 cuc cvc1 cvc2 cvc3 cvc4 cvc5 (zc 4), aI y cvc1 20 (zc 5), aI y cvc2 20 (zc 6), aI y cvc3 20 (zc 7), aI y cvc4 20 (zc 8), aI y cvc5 20 oc, kX10 cud cvd (zc 9), aI y cvd 32 (zc 10), kX0 cue cve (zc 11), aI y cve 3 (zc 12)]) sz)) XN 1 6 (va_A ([aJ y jq 1 jo] ++ [kX11 h qt fh kh ch qh qs Z0, kX7 kh kua kub kuc kud kue (z 0), kX3 kua kva (z 1), aI y kva 10 (z 2), kX1 kub (z 3), kX8 kuc kvc1 kvc2 kvc3 kvc4 kvc5 (z 4), aI y kvc1 20 (z 5), aI y kvc2 20 (z 6), aI y kvc3 20 (z 7), aI y kvc4 20 (z 8), aI y kvc5 20 o, kX10 kud kvd (z 9), aI y kvd 32 (z 10), kX0 kue kve (z 11), aI y kve 3 (z 12), kX7 ch cua cub cuc cud cue (zc 0), kX3 cua cva (zc 1), aI y cva 10 (zc 2), kX1 cub (zc 3), kX8 cuc cvc1 cvc2 cvc3 cvc4 cvc5 (zc 4), aI y cvc1 20 (zc 5), aI y cvc2 20 (zc 6), aI y cvc3 20 (zc 7), aI y cvc4 20 (zc 8), aI y cvc5 20 oc, kX10 cud cvd (zc 9), aI y cvd 32 (zc 10), kX0 cue cve (zc 11), aI y cve 3 (zc 12)]) sz) := by
  refine vx_ofWH (cc := cL_simulate) (maxL := 6) (ret := (some .int)) (hh := [(0, 11, 14, 13)]) (by decide) rfl ?_
  intro p e s m args below meth c s₁ B hml hv
  obtain ⟨rfl, hsz, hP, ⟨hK, hN⟩, hD0, hTY⟩ := hv
  have hx := B.exec
  have hb := B.bytes
  have hr := B.returns
  have hts := atoms_spec (ws := wsL_simulate) B.pre
  have hown : s.vm.findClass RL = some m.cls := findClass_of_methodNamed B.named
  have hlocks := B.notSynchronized
  have htb : c.exceptionTable.toList = tableOf [(0, 11, 14, 13)] := vx_table (x := yL_simulate) B (hts (.codeWith yL_simulate cL_simulate 6 (some .int) [(0, 11, 14, 13)]) (List.mem_cons_self))
  subst hsz
  have hD := hD0.self (sz := s.heap.size)
  generalize hAe : va_A ([aJ y jq 1 jo] ++ [kX11 h qt fh kh ch qh qs Z0, kX7 kh kua kub kuc kud kue (z 0), kX3 kua kva (z 1), aI y kva 10 (z 2), kX1 kub (z 3), kX8 kuc kvc1 kvc2 kvc3 kvc4 kvc5 (z 4), aI y kvc1 20 (z 5), aI y kvc2 20 (z 6), aI y kvc3 20 (z 7), aI y kvc4 20 (z 8), aI y kvc5 20 o, kX10 kud kvd (z 9), aI y kvd 32 (z 10), kX0 kue kve (z 11), aI y kve 3 (z 12), kX7 ch cua cub cuc cud cue (zc 0), kX3 cua cva (zc 1), aI y cva 10 (zc 2), kX1 cub (zc 3), kX8 cuc cvc1 cvc2 cvc3 cvc4 cvc5 (zc 4), aI y cvc1 20 (zc 5), aI y cvc2 20 (zc 6), aI y cvc3 20 (zc 7), aI y cvc4 20 (zc 8), aI y cvc5 20 oc, kX10 cud cvd (zc 9), aI y cvd 32 (zc 10), kX0 cue cve (zc 11), aI y cve 3 (zc 12)]) s.heap.size = A at hD hTY ⊢
  have hA : ∀ q : Nat, s.heap.size ≤ q → A q := fun q h => by rw [← hAe]; exact Or.inr h
  have hS : va_S A s.heap s.heap [] := va_S.rf
  have hP : va_P G vwCl ([aJ y jq 1 jo] ++ [kX11 h qt fh kh ch qh qs Z0, kX7 kh kua kub kuc kud kue (z 0), kX3 kua kva (z 1), aI y kva 10 (z 2), kX1 kub (z 3), kX8 kuc kvc1 kvc2 kvc3 kvc4 kvc5 (z 4), aI y kvc1 20 (z 5), aI y kvc2 20 (z 6), aI y kvc3 20 (z 7), aI y kvc4 20 (z 8), aI y kvc5 20 o, kX10 kud kvd (z 9), aI y kvd 32 (z 10), kX0 kue kve (z 11), aI y kve 3 (z 12), kX7 ch cua cub cuc cud cue (zc 0), kX3 cua cva (zc 1), aI y cva 10 (zc 2), kX1 cub (zc 3), kX8 cuc cvc1 cvc2 cvc3 cvc4 cvc5 (zc 4), aI y cvc1 20 (zc 5), aI y cvc2 20 (zc 6), aI y cvc3 20 (zc 7), aI y cvc4 20 (zc 8), aI y cvc5 20 oc, kX10 cud cvd (zc 9), aI y cvd 32 (zc 10), kX0 cue cve (zc 11), aI y cve 3 (zc 12)]) s.heap := hP
  have hK4 : va_K G vwCl (tyG y) s := hK.sub (tys' := tyG y) [0, 1, 2, 3] rfl
  have hl := lv_entry ([.ref h, .long a1, .int a2, .ref jq]) (n := 6) (Nat.le_of_ble_eq_true rfl)
  rw [lg_entry_eq]
  generalize (lg_sl ([.ref h, .long a1, .int a2, .ref jq]) ++ List.replicate (6 - (lg_sl ([.ref h, .long a1, .int a2, .ref jq])).length) Slot.unset).toArray = ls at hl ⊢
  have hl : lv_has ls 6 [(0, .ref h), (1, .long a1), (3, .int a2), (4, .ref jq)] := hl
  obtain ⟨QQ, hQQ⟩ : ∃ zq9, zq9 = vx_MQ below (QHi G (cdK 1 (s_X11_simulate_k a2)) (fun u : (Nat → Int32) × (Nat → Nat → Int32) => ([aJ y jq 1 jo] ++ [kX11 h qt fh kh ch qh qs Z0, kX7 kh kua kub kuc kud kue (z 0), kX3 kua kva (z 1), aI y kva 10 (z 2), kX1 kub (z 3), kX8 kuc kvc1 kvc2 kvc3 kvc4 kvc5 (z 4), aI y kvc1 20 (z 5), aI y kvc2 20 (z 6), aI y kvc3 20 (z 7), aI y kvc4 20 (z 8), aI y kvc5 20 o, kX10 kud kvd (z 9), aI y kvd 32 (z 10), kX0 kue kve (z 11), aI y kve 3 (z 12), kX7 ch cua cub cuc cud cue (u.2 0), kX3 cua cva (u.2 1), aI y cva 10 (u.2 2), kX1 cub (u.2 3), kX8 cuc cvc1 cvc2 cvc3 cvc4 cvc5 (u.2 4), aI y cvc1 20 (u.2 5), aI y cvc2 20 (u.2 6), aI y cvc3 20 (u.2 7), aI y cvc4 20 (u.2 8), aI y cvc5 20 u.1, kX10 cud cvd (u.2 9), aI y cvd 32 (u.2 10), kX0 cue cve (u.2 11), aI y cve 3 (u.2 12)])) A) XN ([.ref h, .long a1, .int a2, .ref jq] : List Value).toArray s 1 6 A := ⟨_, rfl⟩
  rw [← hQQ]
  refine lv_aload hx hb dL_simulate_0 (lv_at hl 3 rfl) ?_
  refine lv_iconst (v := 0) hx hb dL_simulate_2 (by decide) ?_
  refine lv_aload_n hx hb dL_simulate_3 rfl (lv_at hl 0 rfl) ?_
  refine lv_lload_n hx hb dL_simulate_4 rfl (lv_at hl 1 rfl) ?_
  refine lv_iload_n hx hb dL_simulate_5 rfl (lv_at hl 2 rfl) ?_
  refine cl_X (wr := [aJ y jq 1 jo]) (wc := [kX11 h qt fh kh ch qh qs Z0, kX7 kh kua kub kuc kud kue (z 0), kX3 kua kva (z 1), aI y kva 10 (z 2), kX1 kub (z 3), kX8 kuc kvc1 kvc2 kvc3 kvc4 kvc5 (z 4), aI y kvc1 20 (z 5), aI y kvc2 20 (z 6), aI y kvc3 20 (z 7), aI y kvc4 20 (z 8), aI y kvc5 20 o, kX10 kud kvd (z 9), aI y kvd 32 (z 10), kX0 kue kve (z 11), aI y kve 3 (z 12), kX7 ch cua cub cuc cud cue (zc 0), kX3 cua cva (zc 1), aI y cva 10 (zc 2), kX1 cub (zc 3), kX8 cuc cvc1 cvc2 cvc3 cvc4 cvc5 (zc 4), aI y cvc1 20 (zc 5), aI y cvc2 20 (zc 6), aI y cvc3 20 (zc 7), aI y cvc4 20 (zc 8), aI y cvc5 20 oc, kX10 cud cvd (zc 9), aI y cvd 32 (zc 10), kX0 cue cve (zc 11), aI y cve 3 (zc 12)]) (vx_runV (As := [.long a1, .int a2]) (rest := [.int 0, .ref jq]) ⟨hx, hb, hml, hown, hts⟩ (c_X11_simulate l G y h a1 a2 qt fh kh ch qh qs kua kub kuc kud kue z kva kvc1 kvc2 kvc3 kvc4 kvc5 o kvd kve cua cub cuc cud cue zc cva cvc1 cvc2 cvc3 cvc4 cvc5 oc cvd cve s.heap.size hrz hez hgz hTC hfl) (cwV 2 hts gL_simulate_X11_simulate rfl rfl rfl (by decide +kernel) ⟨Nat.le_of_ble_eq_true rfl, Nat.le_of_ble_eq_true rfl⟩) (PHX_V (A0 := A) (P_r hP) hK4 hN (D_r hD) hTY.1 hS (F_r hD hS hA) (ci := 9) (q0 := 0) rfl rfl) rfl rfl hl.1 rfl (lv_room (Nat.le_of_ble_eq_true rfl)) dL_simulate_6 ⟨Nat.le_of_ble_eq_true rfl, Nat.le_of_ble_eq_true rfl⟩) hP hD hS hA (fun E ce q9 u H locs hE hP hD hS hce hcv hcl => ?_) (fun u H locs hP hD hS => ?_)
  · rcases hE with ⟨rfl, hE⟩ | ⟨rfl, hE⟩ | ⟨rfl, hE⟩
    · refine vx_catch hown [] ⟨0, 11, 14, 13⟩ [] (htb.trans rfl) (fun z hz => by cases hz) (by decide) (by decide) (hts (.classLink RL 13 "java/lang/IllegalArgumentException") (by decide +kernel)) (va_Nw.use rfl (hTY.1.2.1 _ mIA)) hce hcv hcl ?_
      refine lv_astore (lv' := [(5, .ref q9), (0, .ref h), (1, .long a1), (3, .int a2), (4, .ref jq)]) hx hb dL_simulate_14 hl (by decide) rfl (fun ls hl => ?_)
      refine lv_iconst (v := 1) hx hb dL_simulate_16 (by decide) ?_
      rw [hQQ]
      refine vx_ret ?_
      exact W.iret hx hb hr (end_Hi u hP hD hS (cd_1 hE (by decide)) rfl) hS.2.2 dL_simulate_17
    · rcases kx_simulate a2 with k9 | k9
      · exact absurd (hE.trans k9) (by decide)
      · exact absurd (hE.trans k9) (by decide)
    · rcases kx_simulate a2 with k9 | k9
      · exact absurd (hE.trans k9) (by decide)
      · exact absurd (hE.trans k9) (by decide)
  · exact absurd u.2 hk0
theorem kx_save (a1 : Int32) : s_X11_save_k a1 = 0 ∨ s_X11_save_k a1 = 3 := by
  unfold s_X11_save_k
  exact k_ite (Q := (fun x : Int32 => x = 0 ∨ x = 3)) (Or.inr rfl) (Or.inl rfl)
abbrev rmL_save : Room := ({ frames := 7, cells := 1, slots := 6, locals := 145 } : Room)
set_option maxHeartbeats 400000 in
set_option maxRecDepth 100000 in
theorem c_L_save_y (l : Launch) (G : va_G) (y : Nat → ClassId) (h : Nat) (a1 : Int32) (qt : Nat) (fh : Nat) (kh : Nat) (ch : Nat) (qh : Nat) (qs : Nat) (sa : Nat) (sb : Nat) (x6 : Nat → Int32) (fl : Nat → Int32) (kua : Nat) (kub : Nat) (kuc : Nat) (kud : Nat) (kue : Nat) (z : Nat → Nat → Int32) (kva : Nat) (kvc1 : Nat) (kvc2 : Nat) (kvc3 : Nat) (kvc4 : Nat) (kvc5 : Nat) (o : Nat → Int32) (kvd : Nat) (kve : Nat) (ad : Nat → Nat → Nat) (zk : Nat → Nat → Nat → Int32) (ok : Nat → Nat → Int32) (jq : Nat) (jo : Nat → Int64) (sz : Nat) (hrz : z 3 7 = 0 ∨ z 3 7 = 1) (hez : z 3 10 = 0 ∨ z 3 10 = 1) (hgz : z 4 6 = 0 ∨ z 4 6 = 1) (hk0 : (s_X11_save_k a1) = 0) (hfl : l.stackTraces = false) : vx_Met l yL_save wsL_save rmL_save (PHL G y [.ref h, .int a1, .ref jq] ([aJ y jq 1 jo] ++ ([kX11 h qt fh kh ch qh qs Z0, kX6 qs sa sb x6, aQ y sa 2 (fun i => some (ad i 0)), aZ y sb 2 fl, kX7 kh kua kub kuc kud kue (z 0), kX3 kua kva (z 1), aI y kva 10 (z 2), kX1 kub (z 3), kX8 kuc kvc1 kvc2 kvc3 kvc4 kvc5 (z 4), aI y kvc1 20 (z 5), aI y kvc2 20 (z 6), aI y kvc3 20 (z 7), aI y kvc4 20 (z 8), aI y kvc5 20 o, kX10 kud kvd (z 9), aI y kvd 32 (z 10), kX0 kue kve (z 11), aI y kve 3 (z 12)] ++ kW y ad zk ok 2)) sz) (QHi G 0 (fun _ : Unit => ([aJ y jq 1 (vp_updL jo 0 ((s_X11_save_r z)).toInt64)] ++ ([kX11 h qt fh kh ch qh qs Z0, kX6 qs sa sb x6, aQ y sa 2 (fun i => some (ad i 0)), aZ y sb 2 (upd fl (tn a1) 1), kX7 kh kua kub kuc kud kue (z 0), kX3 kua kva (z 1), aI y kva 10 (z 2), kX1 kub (z 3), kX8 kuc kvc1 kvc2 kvc3 kvc4 kvc5 (z 4), aI y kvc1 20 (z 5), aI y kvc2 20 (z 6), aI y kvc3 20 (z 7), aI y kvc4 20 (z 8), aI y kvc5 20 o, kX10 kud kvd (z 9), aI y kvd 32 (z 10), kX0 kue kve (z 11), aI y kve 3 (z 12)] ++ kW y ad (uK zk (tn a1) z) ok 2))) (va_A ([aJ y jq 1 jo] ++ ([kX11 h qt fh kh ch qh qs Z0, kX6 qs sa sb x6, aQ y sa 2 (fun i => some (ad i 0)), aZ y sb 2 fl, kX7 kh kua kub kuc kud kue (z 0), kX3 kua kva (z 1), aI y kva 10 (z 2), kX1 kub (z 3), kX8 kuc kvc1 kvc2 kvc3 kvc4 kvc5 (z 4), aI y kvc1 20 (z 5), aI y kvc2 20 (z 6), aI y kvc3 20 (z 7), aI y kvc4 20 (z 8), aI y kvc5 20 o, kX10 kud kvd (z 9), aI y kvd 32 (z 10), kX0 kue kve (z 11), aI y kve 3 (z 12)] ++ kW y ad zk ok 2)) sz)) XN 1 6 (va_A ([aJ y jq 1 jo] ++ ([kX11 h qt fh kh ch qh qs Z0, kX6 qs sa sb x6, aQ y sa 2 (fun i => some (ad i 0)), aZ y sb 2 fl, kX7 kh kua kub kuc kud kue (z 0), kX3 kua kva (z 1), aI y kva 10 (z 2), kX1 kub (z 3), kX8 kuc kvc1 kvc2 kvc3 kvc4 kvc5 (z 4), aI y kvc1 20 (z 5), aI y kvc2 20 (z 6), aI y kvc3 20 (z 7), aI y kvc4 20 (z 8), aI y kvc5 20 o, kX10 kud kvd (z 9), aI y kvd 32 (z 10), kX0 kue kve (z 11), aI y kve 3 (z 12)] ++ kW y ad zk ok 2)) sz) := by
  refine vx_ofWH (cc := cL_save) (maxL := 4) (ret := (some .int)) (hh := [(0, 9, 12, 28)]) (by decide) rfl ?_
  intro p e s m args below meth c s₁ B hml hv
  obtain ⟨rfl, hsz, hP, ⟨hK, hN⟩, hD0, hTY⟩ := hv
  have hx := B.exec
  have hb := B.bytes
  have hr := B.returns
  have hts := atoms_spec (ws := wsL_save) B.pre
  have hown : s.vm.findClass RL = some m.cls := findClass_of_methodNamed B.named
  have hlocks := B.notSynchronized
  have htb : c.exceptionTable.toList = tableOf [(0, 9, 12, 28)] := vx_table (x := yL_save) B (hts (.codeWith yL_save cL_save 4 (some .int) [(0, 9, 12, 28)]) (List.mem_cons_self))
  subst hsz
  have hD := hD0.self (sz := s.heap.size)
  generalize hAe : va_A ([aJ y jq 1 jo] ++ ([kX11 h qt fh kh ch qh qs Z0, kX6 qs sa sb x6, aQ y sa 2 (fun i => some (ad i 0)), aZ y sb 2 fl, kX7 kh kua kub kuc kud kue (z 0), kX3 kua kva (z 1), aI y kva 10 (z 2), kX1 kub (z 3), kX8 kuc kvc1 kvc2 kvc3 kvc4 kvc5 (z 4), aI y kvc1 20 (z 5), aI y kvc2 20 (z 6), aI y kvc3 20 (z 7), aI y kvc4 20 (z 8), aI y kvc5 20 o, kX10 kud kvd (z 9), aI y kvd 32 (z 10), kX0 kue kve (z 11), aI y kve 3 (z 12)] ++ kW y ad zk ok 2)) s.heap.size = A at hD hTY ⊢
  have hA : ∀ q : Nat, s.heap.size ≤ q → A q := fun q h => by rw [← hAe]; exact Or.inr h
  have hS : va_S A s.heap s.heap [] := va_S.rf
  have hP : va_P G vwCl ([aJ y jq 1 jo] ++ ([kX11 h qt fh kh ch qh qs Z0, kX6 qs sa sb x6, aQ y sa 2 (fun i => some (ad i 0)), aZ y sb 2 fl, kX7 kh kua kub kuc kud kue (z 0), kX3 kua kva (z 1), aI y kva 10 (z 2), kX1 kub (z 3), kX8 kuc kvc1 kvc2 kvc3 kvc4 kvc5 (z 4), aI y kvc1 20 (z 5), aI y kvc2 20 (z 6), aI y kvc3 20 (z 7), aI y kvc4 20 (z 8), aI y kvc5 20 o, kX10 kud kvd (z 9), aI y kvd 32 (z 10), kX0 kue kve (z 11), aI y kve 3 (z 12)] ++ kW y ad zk ok 2)) s.heap := hP
  have hK4 : va_K G vwCl (tyG y) s := hK.sub (tys' := tyG y) [0, 1, 2, 3] rfl
  have hl := lv_entry ([.ref h, .int a1, .ref jq]) (n := 4) (Nat.le_of_ble_eq_true rfl)
  rw [lg_entry_eq]
  generalize (lg_sl ([.ref h, .int a1, .ref jq]) ++ List.replicate (4 - (lg_sl ([.ref h, .int a1, .ref jq])).length) Slot.unset).toArray = ls at hl ⊢
  have hl : lv_has ls 4 [(0, .ref h), (1, .int a1), (2, .ref jq)] := hl
  obtain ⟨QQ, hQQ⟩ : ∃ zq9, zq9 = vx_MQ below (QHi G 0 (fun _ : Unit => ([aJ y jq 1 (vp_updL jo 0 ((s_X11_save_r z)).toInt64)] ++ ([kX11 h qt fh kh ch qh qs Z0, kX6 qs sa sb x6, aQ y sa 2 (fun i => some (ad i 0)), aZ y sb 2 (upd fl (tn a1) 1), kX7 kh kua kub kuc kud kue (z 0), kX3 kua kva (z 1), aI y kva 10 (z 2), kX1 kub (z 3), kX8 kuc kvc1 kvc2 kvc3 kvc4 kvc5 (z 4), aI y kvc1 20 (z 5), aI y kvc2 20 (z 6), aI y kvc3 20 (z 7), aI y kvc4 20 (z 8), aI y kvc5 20 o, kX10 kud kvd (z 9), aI y kvd 32 (z 10), kX0 kue kve (z 11), aI y kve 3 (z 12)] ++ kW y ad (uK zk (tn a1) z) ok 2))) A) XN ([.ref h, .int a1, .ref jq] : List Value).toArray s 1 6 A := ⟨_, rfl⟩
  rw [← hQQ]
  refine lv_aload_n hx hb dL_save_0 rfl (lv_at hl 2 rfl) ?_
  refine lv_iconst (v := 0) hx hb dL_save_1 (by decide) ?_
  refine lv_aload_n hx hb dL_save_2 rfl (lv_at hl 0 rfl) ?_
  refine lv_iload_n hx hb dL_save_3 rfl (lv_at hl 1 rfl) ?_
  refine cl_X (wr := [aJ y jq 1 jo]) (wc := ([kX11 h qt fh kh ch qh qs Z0, kX6 qs sa sb x6, aQ y sa 2 (fun i => some (ad i 0)), aZ y sb 2 fl, kX7 kh kua kub kuc kud kue (z 0), kX3 kua kva (z 1), aI y kva 10 (z 2), kX1 kub (z 3), kX8 kuc kvc1 kvc2 kvc3 kvc4 kvc5 (z 4), aI y kvc1 20 (z 5), aI y kvc2 20 (z 6), aI y kvc3 20 (z 7), aI y kvc4 20 (z 8), aI y kvc5 20 o, kX10 kud kvd (z 9), aI y kvd 32 (z 10), kX0 kue kve (z 11), aI y kve 3 (z 12)] ++ kW y ad zk ok 2)) (vx_runV (As := [.int a1]) (rest := [.int 0, .ref jq]) ⟨hx, hb, hml, hown, hts⟩ (c_X11_save l G y h a1 qt fh kh ch qh qs sa sb x6 fl kua kub kuc kud kue z kva kvc1 kvc2 kvc3 kvc4 kvc5 o kvd kve ad zk ok s.heap.size hrz hez hgz hfl) (cwV 1 hts gL_save_X11_save rfl rfl rfl (by decide +kernel) ⟨Nat.le_of_ble_eq_true rfl, Nat.le_of_ble_eq_true rfl⟩) (PHX_V (A0 := A) (P_r hP) hK4 hN (D_r hD) hTY.1 hS (F_r hD hS hA) (ci := 9) (q0 := 0) rfl rfl) rfl rfl hl.1 rfl (lv_room (Nat.le_of_ble_eq_true rfl)) dL_save_4 ⟨Nat.le_of_ble_eq_true rfl, Nat.le_of_ble_eq_true rfl⟩) hP hD hS hA (fun E ce q9 u H locs hE hP hD hS hce hcv hcl => ?_) (fun u H locs hP hD hS => ?_)
  · exact (exC_0 hk0 hE).elim
  · refine lv_i2l (v := ((s_X11_save_r z)).toInt64) hx hb dL_save_7 rfl ?_
    refine as_o hx hb hK hP hD hS dL_save_8 (fun H locs hP hD hS => ?_)
    refine lv_goto (tgt := 15) hx hb dL_save_9 (by decide) ?_
    refine lv_iconst (v := 0) hx hb dL_save_15 (by decide) ?_
    rw [hQQ]
    refine vx_ret ?_
    exact W.iret hx hb hr (end_Hi u.1 hP hD hS rfl rfl) hS.2.2 dL_save_16
set_option maxHeartbeats 400000 in
set_option maxRecDepth 100000 in
theorem c_L_save_n (l : Launch) (G : va_G) (y : Nat → ClassId) (h : Nat) (a1 : Int32) (qt : Nat) (fh : Nat) (kh : Nat) (ch : Nat) (qh : Nat) (qs : Nat) (sa : Nat) (sb : Nat) (x6 : Nat → Int32) (fl : Nat → Int32) (kua : Nat) (kub : Nat) (kuc : Nat) (kud : Nat) (kue : Nat) (z : Nat → Nat → Int32) (kva : Nat) (kvc1 : Nat) (kvc2 : Nat) (kvc3 : Nat) (kvc4 : Nat) (kvc5 : Nat) (o : Nat → Int32) (kvd : Nat) (kve : Nat) (ad : Nat → Nat → Nat) (zk : Nat → Nat → Nat → Int32) (ok : Nat → Nat → Int32) (jq : Nat) (jo : Nat → Int64) (sz : Nat) (hrz : z 3 7 = 0 ∨ z 3 7 = 1) (hez : z 3 10 = 0 ∨ z 3 10 = 1) (hgz : z 4 6 = 0 ∨ z 4 6 = 1) (hk0 : ¬ (s_X11_save_k a1) = 0) (hfl : l.stackTraces = false) : vx_Met l yL_save wsL_save rmL_save (PHL G y [.ref h, .int a1, .ref jq] ([aJ y jq 1 jo] ++ ([kX11 h qt fh kh ch qh qs Z0, kX6 qs sa sb x6, aQ y sa 2 (fun i => some (ad i 0)), aZ y sb 2 fl, kX7 kh kua kub kuc kud kue (z 0), kX3 kua kva (z 1), aI y kva 10 (z 2), kX1 kub (z 3), kX8 kuc kvc1 kvc2 kvc3 kvc4 kvc5 (z 4), aI y kvc1 20 (z 5), aI y kvc2 20 (z 6), aI y kvc3 20 (z 7), aI y kvc4 20 (z 8), aI y kvc5 20 o, kX10 kud kvd (z 9), aI y kvd 32 (z 10), kX0 kue kve (z 11), aI y kve 3 (z 12)] ++ kW y ad zk ok 2)) sz) (QHi G (cdK 3 (s_X11_save_k a1)) (fun _ : Unit => ([aJ y jq 1 jo] ++ ([kX11 h qt fh kh ch qh qs Z0, kX6 qs sa sb x6, aQ y sa 2 (fun i => some (ad i 0)), aZ y sb 2 fl, kX7 kh kua kub kuc kud kue (z 0), kX3 kua kva (z 1), aI y kva 10 (z 2), kX1 kub (z 3), kX8 kuc kvc1 kvc2 kvc3 kvc4 kvc5 (z 4), aI y kvc1 20 (z 5), aI y kvc2 20 (z 6), aI y kvc3 20 (z 7), aI y kvc4 20 (z 8), aI y kvc5 20 o, kX10 kud kvd (z 9), aI y kvd 32 (z 10), kX0 kue kve (z 11), aI y kve 3 (z 12)] ++ kW y ad zk ok 2))) (va_A ([aJ y jq 1 jo] ++ ([kX11 h qt fh kh ch qh qs Z0, kX6 qs sa sb x6, aQ y sa 2 (fun i => some (ad i 0)), aZ y sb 2 fl, kX7 kh kua kub kuc kud kue (z 0), kX3 kua kva (z 1), aI y kva 10 (z 2), kX1 kub (z 3), kX8 kuc kvc1 kvc2 kvc3 kvc4 kvc5 (z 4), aI y kvc1 20 (z 5), aI y kvc2 20 (z 6), aI y kvc3 20 (z 7), aI y kvc4 20 (z 8), aI y kvc5 20 o, kX10 kud kvd (z 9), aI y kvd 32 (z 10), kX0 kue kve (z 11), aI y kve 3 (z 12)] ++ kW y ad zk ok 2)) sz)) XN 1 6 (va_A ([aJ y jq 1 jo] ++ ([kX11 h qt fh kh ch qh qs Z0, kX6 qs sa sb x6, aQ y sa 2 (fun i => some (ad i 0)), aZ y sb 2 fl, kX7 kh kua kub kuc kud kue (z 0), kX3 kua kva (z 1), aI y kva 10 (z 2), kX1 kub (z 3), kX8 kuc kvc1 kvc2 kvc3 kvc4 kvc5 (z 4), aI y kvc1 20 (z 5), aI y kvc2 20 (z 6), aI y kvc3 20 (z 7), aI y kvc4 20 (z 8), aI y kvc5 20 o, kX10 kud kvd (z 9), aI y kvd 32 (z 10), kX0 kue kve (z 11), aI y kve 3 (z 12)] ++ kW y ad zk ok 2)) sz) := by
  refine vx_ofWH (cc := cL_save) (maxL := 4) (ret := (some .int)) (hh := [(0, 9, 12, 28)]) (by decide) rfl ?_
  intro p e s m args below meth c s₁ B hml hv
  obtain ⟨rfl, hsz, hP, ⟨hK, hN⟩, hD0, hTY⟩ := hv
  have hx := B.exec
  have hb := B.bytes
  have hr := B.returns
  have hts := atoms_spec (ws := wsL_save) B.pre
  have hown : s.vm.findClass RL = some m.cls := findClass_of_methodNamed B.named
  have hlocks := B.notSynchronized
  have htb : c.exceptionTable.toList = tableOf [(0, 9, 12, 28)] := vx_table (x := yL_save) B (hts (.codeWith yL_save cL_save 4 (some .int) [(0, 9, 12, 28)]) (List.mem_cons_self))
  subst hsz
  have hD := hD0.self (sz := s.heap.size)
  generalize hAe : va_A ([aJ y jq 1 jo] ++ ([kX11 h qt fh kh ch qh qs Z0, kX6 qs sa sb x6, aQ y sa 2 (fun i => some (ad i 0)), aZ y sb 2 fl, kX7 kh kua kub kuc kud kue (z 0), kX3 kua kva (z 1), aI y kva 10 (z 2), kX1 kub (z 3), kX8 kuc kvc1 kvc2 kvc3 kvc4 kvc5 (z 4), aI y kvc1 20 (z 5), aI y kvc2 20 (z 6), aI y kvc3 20 (z 7), aI y kvc4 20 (z 8), aI y kvc5 20 o, kX10 kud kvd (z 9), aI y kvd 32 (z 10), kX0 kue kve (z 11), aI y kve 3 (z 12)] ++ kW y ad zk ok 2)) s.heap.size = A at hD hTY ⊢
  have hA : ∀ q : Nat, s.heap.size ≤ q → A q := fun q h => by rw [← hAe]; exact Or.inr h
  have hS : va_S A s.heap s.heap [] := va_S.rf
  have hP : va_P G vwCl ([aJ y jq 1 jo] ++ ([kX11 h qt fh kh ch qh qs Z0, kX6 qs sa sb x6, aQ y sa 2 (fun i => some (ad i 0)), aZ y sb 2 fl, kX7 kh kua kub kuc kud kue (z 0), kX3 kua kva (z 1), aI y kva 10 (z 2), kX1 kub (z 3), kX8 kuc kvc1 kvc2 kvc3 kvc4 kvc5 (z 4), aI y kvc1 20 (z 5), aI y kvc2 20 (z 6), aI y kvc3 20 (z 7), aI y kvc4 20 (z 8), aI y kvc5 20 o, kX10 kud kvd (z 9), aI y kvd 32 (z 10), kX0 kue kve (z 11), aI y kve 3 (z 12)] ++ kW y ad zk ok 2)) s.heap := hP
  have hK4 : va_K G vwCl (tyG y) s := hK.sub (tys' := tyG y) [0, 1, 2, 3] rfl
  have hl := lv_entry ([.ref h, .int a1, .ref jq]) (n := 4) (Nat.le_of_ble_eq_true rfl)
  rw [lg_entry_eq]
  generalize (lg_sl ([.ref h, .int a1, .ref jq]) ++ List.replicate (4 - (lg_sl ([.ref h, .int a1, .ref jq])).length) Slot.unset).toArray = ls at hl ⊢
  have hl : lv_has ls 4 [(0, .ref h), (1, .int a1), (2, .ref jq)] := hl
  obtain ⟨QQ, hQQ⟩ : ∃ zq9, zq9 = vx_MQ below (QHi G (cdK 3 (s_X11_save_k a1)) (fun _ : Unit => ([aJ y jq 1 jo] ++ ([kX11 h qt fh kh ch qh qs Z0, kX6 qs sa sb x6, aQ y sa 2 (fun i => some (ad i 0)), aZ y sb 2 fl, kX7 kh kua kub kuc kud kue (z 0), kX3 kua kva (z 1), aI y kva 10 (z 2), kX1 kub (z 3), kX8 kuc kvc1 kvc2 kvc3 kvc4 kvc5 (z 4), aI y kvc1 20 (z 5), aI y kvc2 20 (z 6), aI y kvc3 20 (z 7), aI y kvc4 20 (z 8), aI y kvc5 20 o, kX10 kud kvd (z 9), aI y kvd 32 (z 10), kX0 kue kve (z 11), aI y kve 3 (z 12)] ++ kW y ad zk ok 2))) A) XN ([.ref h, .int a1, .ref jq] : List Value).toArray s 1 6 A := ⟨_, rfl⟩
  rw [← hQQ]
  refine lv_aload_n hx hb dL_save_0 rfl (lv_at hl 2 rfl) ?_
  refine lv_iconst (v := 0) hx hb dL_save_1 (by decide) ?_
  refine lv_aload_n hx hb dL_save_2 rfl (lv_at hl 0 rfl) ?_
  refine lv_iload_n hx hb dL_save_3 rfl (lv_at hl 1 rfl) ?_
  refine cl_X (wr := [aJ y jq 1 jo]) (wc := ([kX11 h qt fh kh ch qh qs Z0, kX6 qs sa sb x6, aQ y sa 2 (fun i => some (ad i 0)), aZ y sb 2 fl, kX7 kh kua kub kuc kud kue (z 0), kX3 kua kva (z 1), aI y kva 10 (z 2), kX1 kub (z 3), kX8 kuc kvc1 kvc2 kvc3 kvc4 kvc5 (z 4), aI y kvc1 20 (z 5), aI y kvc2 20 (z 6), aI y kvc3 20 (z 7), aI y kvc4 20 (z 8), aI y kvc5 20 o, kX10 kud kvd (z 9), aI y kvd 32 (z 10), kX0 kue kve (z 11), aI y kve 3 (z 12)] ++ kW y ad zk ok 2)) (vx_runV (As := [.int a1]) (rest := [.int 0, .ref jq]) ⟨hx, hb, hml, hown, hts⟩ (c_X11_save l G y h a1 qt fh kh ch qh qs sa sb x6 fl kua kub kuc kud kue z kva kvc1 kvc2 kvc3 kvc4 kvc5 o kvd kve ad zk ok s.heap.size hrz hez hgz hfl) (cwV 1 hts gL_save_X11_save rfl rfl rfl (by decide +kernel) ⟨Nat.le_of_ble_eq_true rfl, Nat.le_of_ble_eq_true rfl⟩) (PHX_V (A0 := A) (P_r hP) hK4 hN (D_r hD) hTY.1 hS (F_r hD hS hA) (ci := 9) (q0 := 0) rfl rfl) rfl rfl hl.1 rfl (lv_room (Nat.le_of_ble_eq_true rfl)) dL_save_4 ⟨Nat.le_of_ble_eq_true rfl, Nat.le_of_ble_eq_true rfl⟩) hP hD hS hA (fun E ce q9 u H locs hE hP hD hS hce hcv hcl => ?_) (fun u H locs hP hD hS => ?_)
  · rcases hE with ⟨rfl, hE⟩ | ⟨rfl, hE⟩ | ⟨rfl, hE⟩
    · rcases kx_save a1 with k9 | k9
      · exact absurd (hE.trans k9) (by decide)
      · exact absurd (hE.trans k9) (by decide)
    · rcases kx_save a1 with k9 | k9
      · exact absurd (hE.trans k9) (by decide)
      · exact absurd (hE.trans k9) (by decide)
    · refine vx_catch hown [] ⟨0, 9, 12, 28⟩ [] (htb.trans rfl) (fun z hz => by cases hz) (by decide) (by decide) (hts (.classLink RL 28 "java/lang/IndexOutOfBoundsException") (by decide +kernel)) (va_Nw.use rfl (hTY.1.2.1 _ mIO)) hce hcv hcl ?_
      refine lv_astore_n (lv' := [(3, .ref q9), (0, .ref h), (1, .int a1), (2, .ref jq)]) hx hb dL_save_12 rfl hl (by decide) rfl (fun ls hl => ?_)
      refine lv_iconst (v := 1) hx hb dL_save_13 (by decide) ?_
      rw [hQQ]
      refine vx_ret ?_
      exact W.iret hx hb hr (end_Hi u hP hD hS (cd_1 hE (by decide)) rfl) hS.2.2 dL_save_14
  · exact absurd u.2 hk0
theorem kx_restore (a1 : Int32) (fl : Nat → Int32) : s_X11_restore_k a1 fl = 0 ∨ s_X11_restore_k a1 fl = 2 ∨ s_X11_restore_k a1 fl = 3 := by
  unfold s_X11_restore_k
  exact k_ite (Q := (fun x : Int32 => x = 0 ∨ x = 2 ∨ x = 3)) (Or.inr (Or.inr rfl)) (k_ite (Q := (fun x : Int32 => x = 0 ∨ x = 2 ∨ x = 3)) (Or.inr (Or.inl rfl)) (Or.inl rfl))
abbrev rmL_restore : Room := ({ frames := 7, cells := 1, slots := 6, locals := 145 } : Room)
set_option maxHeartbeats 400000 in
set_option maxRecDepth 100000 in
theorem c_L_restore_y (l : Launch) (G : va_G) (y : Nat → ClassId) (h : Nat) (a1 : Int32) (qt : Nat) (fh : Nat) (kh : Nat) (ch : Nat) (qh : Nat) (qs : Nat) (a : Nat) (x : Nat → Int32) (sa : Nat) (sb : Nat) (x6 : Nat → Int32) (fl : Nat → Int32) (kua : Nat) (kub : Nat) (kuc : Nat) (kud : Nat) (kue : Nat) (z : Nat → Nat → Int32) (kva : Nat) (kvc1 : Nat) (kvc2 : Nat) (kvc3 : Nat) (kvc4 : Nat) (kvc5 : Nat) (o : Nat → Int32) (kvd : Nat) (kve : Nat) (ad : Nat → Nat → Nat) (zk : Nat → Nat → Nat → Int32) (ok : Nat → Nat → Int32) (jq : Nat) (jo : Nat → Int64) (sz : Nat) (hrzk : (zk (tn a1)) 3 7 = 0 ∨ (zk (tn a1)) 3 7 = 1) (hezk : (zk (tn a1)) 3 10 = 0 ∨ (zk (tn a1)) 3 10 = 1) (hgzk : (zk (tn a1)) 4 6 = 0 ∨ (zk (tn a1)) 4 6 = 1) (hk0 : (s_X11_restore_k a1 fl) = 0) (hfl : l.stackTraces = false) : vx_Met l yL_restore wsL_restore rmL_restore (PHL G y [.ref h, .int a1, .ref jq] ([aJ y jq 1 jo] ++ ([kX11 h qt fh kh ch qh qs Z0, kX2 qh a x, kX6 qs sa sb x6, aQ y sa 2 (fun i => some (ad i 0)), aZ y sb 2 fl, kX7 kh kua kub kuc kud kue (z 0), kX3 kua kva (z 1), aI y kva 10 (z 2), kX1 kub (z 3), kX8 kuc kvc1 kvc2 kvc3 kvc4 kvc5 (z 4), aI y kvc1 20 (z 5), aI y kvc2 20 (z 6), aI y kvc3 20 (z 7), aI y kvc4 20 (z 8), aI y kvc5 20 o, kX10 kud kvd (z 9), aI y kvd 32 (z 10), kX0 kue kve (z 11), aI y kve 3 (z 12)] ++ kW y ad zk ok 2)) sz) (QHi G 0 (fun _ : Unit => ([aJ y jq 1 (vp_updL jo 0 ((s_X11_restore_r a1 zk)).toInt64)] ++ ([kX11 h qt fh kh ch qh qs Z0, kX2 qh a (s_X11_restore_w1 x), kX6 qs sa sb x6, aQ y sa 2 (fun i => some (ad i 0)), aZ y sb 2 fl, kX7 kh kua kub kuc kud kue (zk (tn a1) 0), kX3 kua kva (zk (tn a1) 1), aI y kva 10 (zk (tn a1) 2), kX1 kub (zk (tn a1) 3), kX8 kuc kvc1 kvc2 kvc3 kvc4 kvc5 (zk (tn a1) 4), aI y kvc1 20 (zk (tn a1) 5), aI y kvc2 20 (zk (tn a1) 6), aI y kvc3 20 (zk (tn a1) 7), aI y kvc4 20 (zk (tn a1) 8), aI y kvc5 20 o, kX10 kud kvd (zk (tn a1) 9), aI y kvd 32 (zk (tn a1) 10), kX0 kue kve (zk (tn a1) 11), aI y kve 3 (zk (tn a1) 12)] ++ kW y ad zk ok 2))) (va_A ([aJ y jq 1 jo] ++ ([kX11 h qt fh kh ch qh qs Z0, kX2 qh a x, kX6 qs sa sb x6, aQ y sa 2 (fun i => some (ad i 0)), aZ y sb 2 fl, kX7 kh kua kub kuc kud kue (z 0), kX3 kua kva (z 1), aI y kva 10 (z 2), kX1 kub (z 3), kX8 kuc kvc1 kvc2 kvc3 kvc4 kvc5 (z 4), aI y kvc1 20 (z 5), aI y kvc2 20 (z 6), aI y kvc3 20 (z 7), aI y kvc4 20 (z 8), aI y kvc5 20 o, kX10 kud kvd (z 9), aI y kvd 32 (z 10), kX0 kue kve (z 11), aI y kve 3 (z 12)] ++ kW y ad zk ok 2)) sz)) XN 1 6 (va_A ([aJ y jq 1 jo] ++ ([kX11 h qt fh kh ch qh qs Z0, kX2 qh a x, kX6 qs sa sb x6, aQ y sa 2 (fun i => some (ad i 0)), aZ y sb 2 fl, kX7 kh kua kub kuc kud kue (z 0), kX3 kua kva (z 1), aI y kva 10 (z 2), kX1 kub (z 3), kX8 kuc kvc1 kvc2 kvc3 kvc4 kvc5 (z 4), aI y kvc1 20 (z 5), aI y kvc2 20 (z 6), aI y kvc3 20 (z 7), aI y kvc4 20 (z 8), aI y kvc5 20 o, kX10 kud kvd (z 9), aI y kvd 32 (z 10), kX0 kue kve (z 11), aI y kve 3 (z 12)] ++ kW y ad zk ok 2)) sz) := by
  refine vx_ofWH (cc := cL_restore) (maxL := 4) (ret := (some .int)) (hh := [(0, 9, 12, 28), (0, 9, 15, 15)]) (by decide) rfl ?_
  intro p e s m args below meth c s₁ B hml hv
  obtain ⟨rfl, hsz, hP, ⟨hK, hN⟩, hD0, hTY⟩ := hv
  have hx := B.exec
  have hb := B.bytes
  have hr := B.returns
  have hts := atoms_spec (ws := wsL_restore) B.pre
  have hown : s.vm.findClass RL = some m.cls := findClass_of_methodNamed B.named
  have hlocks := B.notSynchronized
  have htb : c.exceptionTable.toList = tableOf [(0, 9, 12, 28), (0, 9, 15, 15)] := vx_table (x := yL_restore) B (hts (.codeWith yL_restore cL_restore 4 (some .int) [(0, 9, 12, 28), (0, 9, 15, 15)]) (List.mem_cons_self))
  subst hsz
  have hD := hD0.self (sz := s.heap.size)
  generalize hAe : va_A ([aJ y jq 1 jo] ++ ([kX11 h qt fh kh ch qh qs Z0, kX2 qh a x, kX6 qs sa sb x6, aQ y sa 2 (fun i => some (ad i 0)), aZ y sb 2 fl, kX7 kh kua kub kuc kud kue (z 0), kX3 kua kva (z 1), aI y kva 10 (z 2), kX1 kub (z 3), kX8 kuc kvc1 kvc2 kvc3 kvc4 kvc5 (z 4), aI y kvc1 20 (z 5), aI y kvc2 20 (z 6), aI y kvc3 20 (z 7), aI y kvc4 20 (z 8), aI y kvc5 20 o, kX10 kud kvd (z 9), aI y kvd 32 (z 10), kX0 kue kve (z 11), aI y kve 3 (z 12)] ++ kW y ad zk ok 2)) s.heap.size = A at hD hTY ⊢
  have hA : ∀ q : Nat, s.heap.size ≤ q → A q := fun q h => by rw [← hAe]; exact Or.inr h
  have hS : va_S A s.heap s.heap [] := va_S.rf
  have hP : va_P G vwCl ([aJ y jq 1 jo] ++ ([kX11 h qt fh kh ch qh qs Z0, kX2 qh a x, kX6 qs sa sb x6, aQ y sa 2 (fun i => some (ad i 0)), aZ y sb 2 fl, kX7 kh kua kub kuc kud kue (z 0), kX3 kua kva (z 1), aI y kva 10 (z 2), kX1 kub (z 3), kX8 kuc kvc1 kvc2 kvc3 kvc4 kvc5 (z 4), aI y kvc1 20 (z 5), aI y kvc2 20 (z 6), aI y kvc3 20 (z 7), aI y kvc4 20 (z 8), aI y kvc5 20 o, kX10 kud kvd (z 9), aI y kvd 32 (z 10), kX0 kue kve (z 11), aI y kve 3 (z 12)] ++ kW y ad zk ok 2)) s.heap := hP
  have hK4 : va_K G vwCl (tyG y) s := hK.sub (tys' := tyG y) [0, 1, 2, 3] rfl
  have hl := lv_entry ([.ref h, .int a1, .ref jq]) (n := 4) (Nat.le_of_ble_eq_true rfl)
  rw [lg_entry_eq]
  generalize (lg_sl ([.ref h, .int a1, .ref jq]) ++ List.replicate (4 - (lg_sl ([.ref h, .int a1, .ref jq])).length) Slot.unset).toArray = ls at hl ⊢
  have hl : lv_has ls 4 [(0, .ref h), (1, .int a1), (2, .ref jq)] := hl
  obtain ⟨QQ, hQQ⟩ : ∃ zq9, zq9 = vx_MQ below (QHi G 0 (fun _ : Unit => ([aJ y jq 1 (vp_updL jo 0 ((s_X11_restore_r a1 zk)).toInt64)] ++ ([kX11 h qt fh kh ch qh qs Z0, kX2 qh a (s_X11_restore_w1 x), kX6 qs sa sb x6, aQ y sa 2 (fun i => some (ad i 0)), aZ y sb 2 fl, kX7 kh kua kub kuc kud kue (zk (tn a1) 0), kX3 kua kva (zk (tn a1) 1), aI y kva 10 (zk (tn a1) 2), kX1 kub (zk (tn a1) 3), kX8 kuc kvc1 kvc2 kvc3 kvc4 kvc5 (zk (tn a1) 4), aI y kvc1 20 (zk (tn a1) 5), aI y kvc2 20 (zk (tn a1) 6), aI y kvc3 20 (zk (tn a1) 7), aI y kvc4 20 (zk (tn a1) 8), aI y kvc5 20 o, kX10 kud kvd (zk (tn a1) 9), aI y kvd 32 (zk (tn a1) 10), kX0 kue kve (zk (tn a1) 11), aI y kve 3 (zk (tn a1) 12)] ++ kW y ad zk ok 2))) A) XN ([.ref h, .int a1, .ref jq] : List Value).toArray s 1 6 A := ⟨_, rfl⟩
  rw [← hQQ]
  refine lv_aload_n hx hb dL_restore_0 rfl (lv_at hl 2 rfl) ?_
  refine lv_iconst (v := 0) hx hb dL_restore_1 (by decide) ?_
  refine lv_aload_n hx hb dL_restore_2 rfl (lv_at hl 0 rfl) ?_
  refine lv_iload_n hx hb dL_restore_3 rfl (lv_at hl 1 rfl) ?_
  refine cl_X (wr := [aJ y jq 1 jo]) (wc := ([kX11 h qt fh kh ch qh qs Z0, kX2 qh a x, kX6 qs sa sb x6, aQ y sa 2 (fun i => some (ad i 0)), aZ y sb 2 fl, kX7 kh kua kub kuc kud kue (z 0), kX3 kua kva (z 1), aI y kva 10 (z 2), kX1 kub (z 3), kX8 kuc kvc1 kvc2 kvc3 kvc4 kvc5 (z 4), aI y kvc1 20 (z 5), aI y kvc2 20 (z 6), aI y kvc3 20 (z 7), aI y kvc4 20 (z 8), aI y kvc5 20 o, kX10 kud kvd (z 9), aI y kvd 32 (z 10), kX0 kue kve (z 11), aI y kve 3 (z 12)] ++ kW y ad zk ok 2)) (vx_runV (As := [.int a1]) (rest := [.int 0, .ref jq]) ⟨hx, hb, hml, hown, hts⟩ (c_X11_restore l G y h a1 qt fh kh ch qh qs a x sa sb x6 fl kua kub kuc kud kue z kva kvc1 kvc2 kvc3 kvc4 kvc5 o kvd kve ad zk ok s.heap.size hrzk hezk hgzk hfl) (cwV 1 hts gL_restore_X11_restore rfl rfl rfl (by decide +kernel) ⟨Nat.le_of_ble_eq_true rfl, Nat.le_of_ble_eq_true rfl⟩) (PHX_V (A0 := A) (P_r hP) hK4 hN (D_r hD) hTY.1 hS (F_r hD hS hA) (ci := 9) (q0 := 0) rfl rfl) rfl rfl hl.1 rfl (lv_room (Nat.le_of_ble_eq_true rfl)) dL_restore_4 ⟨Nat.le_of_ble_eq_true rfl, Nat.le_of_ble_eq_true rfl⟩) hP hD hS hA (fun E ce q9 u H locs hE hP hD hS hce hcv hcl => ?_) (fun u H locs hP hD hS => ?_)
  · exact (exC_0 hk0 hE).elim
  · refine lv_i2l (v := ((s_X11_restore_r a1 zk)).toInt64) hx hb dL_restore_7 rfl ?_
    refine as_o hx hb hK hP hD hS dL_restore_8 (fun H locs hP hD hS => ?_)
    refine lv_goto (tgt := 18) hx hb dL_restore_9 (by decide) ?_
    refine lv_iconst (v := 0) hx hb dL_restore_18 (by decide) ?_
    rw [hQQ]
    refine vx_ret ?_
    exact W.iret hx hb hr (end_Hi u.1 hP hD hS rfl rfl) hS.2.2 dL_restore_19
set_option maxHeartbeats 400000 in
set_option maxRecDepth 100000 in
theorem c_L_restore_n (l : Launch) (G : va_G) (y : Nat → ClassId) (h : Nat) (a1 : Int32) (qt : Nat) (fh : Nat) (kh : Nat) (ch : Nat) (qh : Nat) (qs : Nat) (a : Nat) (x : Nat → Int32) (sa : Nat) (sb : Nat) (x6 : Nat → Int32) (fl : Nat → Int32) (kua : Nat) (kub : Nat) (kuc : Nat) (kud : Nat) (kue : Nat) (z : Nat → Nat → Int32) (kva : Nat) (kvc1 : Nat) (kvc2 : Nat) (kvc3 : Nat) (kvc4 : Nat) (kvc5 : Nat) (o : Nat → Int32) (kvd : Nat) (kve : Nat) (ad : Nat → Nat → Nat) (zk : Nat → Nat → Nat → Int32) (ok : Nat → Nat → Int32) (jq : Nat) (jo : Nat → Int64) (sz : Nat) (hrzk : (zk (tn a1)) 3 7 = 0 ∨ (zk (tn a1)) 3 7 = 1) (hezk : (zk (tn a1)) 3 10 = 0 ∨ (zk (tn a1)) 3 10 = 1) (hgzk : (zk (tn a1)) 4 6 = 0 ∨ (zk (tn a1)) 4 6 = 1) (hk0 : ¬ (s_X11_restore_k a1 fl) = 0) (hfl : l.stackTraces = false) : vx_Met l yL_restore wsL_restore rmL_restore (PHL G y [.ref h, .int a1, .ref jq] ([aJ y jq 1 jo] ++ ([kX11 h qt fh kh ch qh qs Z0, kX2 qh a x, kX6 qs sa sb x6, aQ y sa 2 (fun i => some (ad i 0)), aZ y sb 2 fl, kX7 kh kua kub kuc kud kue (z 0), kX3 kua kva (z 1), aI y kva 10 (z 2), kX1 kub (z 3), kX8 kuc kvc1 kvc2 kvc3 kvc4 kvc5 (z 4), aI y kvc1 20 (z 5), aI y kvc2 20 (z 6), aI y kvc3 20 (z 7), aI y kvc4 20 (z 8), aI y kvc5 20 o, kX10 kud kvd (z 9), aI y kvd 32 (z 10), kX0 kue kve (z 11), aI y kve 3 (z 12)] ++ kW y ad zk ok 2)) sz) (QHi G (cdK 3 (s_X11_restore_k a1 fl)) (fun _ : Unit => ([aJ y jq 1 jo] ++ ([kX11 h qt fh kh ch qh qs Z0, kX2 qh a x, kX6 qs sa sb x6, aQ y sa 2 (fun i => some (ad i 0)), aZ y sb 2 fl, kX7 kh kua kub kuc kud kue (z 0), kX3 kua kva (z 1), aI y kva 10 (z 2), kX1 kub (z 3), kX8 kuc kvc1 kvc2 kvc3 kvc4 kvc5 (z 4), aI y kvc1 20 (z 5), aI y kvc2 20 (z 6), aI y kvc3 20 (z 7), aI y kvc4 20 (z 8), aI y kvc5 20 o, kX10 kud kvd (z 9), aI y kvd 32 (z 10), kX0 kue kve (z 11), aI y kve 3 (z 12)] ++ kW y ad zk ok 2))) (va_A ([aJ y jq 1 jo] ++ ([kX11 h qt fh kh ch qh qs Z0, kX2 qh a x, kX6 qs sa sb x6, aQ y sa 2 (fun i => some (ad i 0)), aZ y sb 2 fl, kX7 kh kua kub kuc kud kue (z 0), kX3 kua kva (z 1), aI y kva 10 (z 2), kX1 kub (z 3), kX8 kuc kvc1 kvc2 kvc3 kvc4 kvc5 (z 4), aI y kvc1 20 (z 5), aI y kvc2 20 (z 6), aI y kvc3 20 (z 7), aI y kvc4 20 (z 8), aI y kvc5 20 o, kX10 kud kvd (z 9), aI y kvd 32 (z 10), kX0 kue kve (z 11), aI y kve 3 (z 12)] ++ kW y ad zk ok 2)) sz)) XN 1 6 (va_A ([aJ y jq 1 jo] ++ ([kX11 h qt fh kh ch qh qs Z0, kX2 qh a x, kX6 qs sa sb x6, aQ y sa 2 (fun i => some (ad i 0)), aZ y sb 2 fl, kX7 kh kua kub kuc kud kue (z 0), kX3 kua kva (z 1), aI y kva 10 (z 2), kX1 kub (z 3), kX8 kuc kvc1 kvc2 kvc3 kvc4 kvc5 (z 4), aI y kvc1 20 (z 5), aI y kvc2 20 (z 6), aI y kvc3 20 (z 7), aI y kvc4 20 (z 8), aI y kvc5 20 o, kX10 kud kvd (z 9), aI y kvd 32 (z 10), kX0 kue kve (z 11), aI y kve 3 (z 12)] ++ kW y ad zk ok 2)) sz) := by
  refine vx_ofWH (cc := cL_restore) (maxL := 4) (ret := (some .int)) (hh := [(0, 9, 12, 28), (0, 9, 15, 15)]) (by decide) rfl ?_
  intro p e s m args below meth c s₁ B hml hv
  obtain ⟨rfl, hsz, hP, ⟨hK, hN⟩, hD0, hTY⟩ := hv
  have hx := B.exec
  have hb := B.bytes
  have hr := B.returns
  have hts := atoms_spec (ws := wsL_restore) B.pre
  have hown : s.vm.findClass RL = some m.cls := findClass_of_methodNamed B.named
  have hlocks := B.notSynchronized
  have htb : c.exceptionTable.toList = tableOf [(0, 9, 12, 28), (0, 9, 15, 15)] := vx_table (x := yL_restore) B (hts (.codeWith yL_restore cL_restore 4 (some .int) [(0, 9, 12, 28), (0, 9, 15, 15)]) (List.mem_cons_self))
  subst hsz
  have hD := hD0.self (sz := s.heap.size)
  generalize hAe : va_A ([aJ y jq 1 jo] ++ ([kX11 h qt fh kh ch qh qs Z0, kX2 qh a x, kX6 qs sa sb x6, aQ y sa 2 (fun i => some (ad i 0)), aZ y sb 2 fl, kX7 kh kua kub kuc kud kue (z 0), kX3 kua kva (z 1), aI y kva 10 (z 2), kX1 kub (z 3), kX8 kuc kvc1 kvc2 kvc3 kvc4 kvc5 (z 4), aI y kvc1 20 (z 5), aI y kvc2 20 (z 6), aI y kvc3 20 (z 7), aI y kvc4 20 (z 8), aI y kvc5 20 o, kX10 kud kvd (z 9), aI y kvd 32 (z 10), kX0 kue kve (z 11), aI y kve 3 (z 12)] ++ kW y ad zk ok 2)) s.heap.size = A at hD hTY ⊢
  have hA : ∀ q : Nat, s.heap.size ≤ q → A q := fun q h => by rw [← hAe]; exact Or.inr h
  have hS : va_S A s.heap s.heap [] := va_S.rf
  have hP : va_P G vwCl ([aJ y jq 1 jo] ++ ([kX11 h qt fh kh ch qh qs Z0, kX2 qh a x, kX6 qs sa sb x6, aQ y sa 2 (fun i => some (ad i 0)), aZ y sb 2 fl, kX7 kh kua kub kuc kud kue (z 0), kX3 kua kva (z 1), aI y kva 10 (z 2), kX1 kub (z 3), kX8 kuc kvc1 kvc2 kvc3 kvc4 kvc5 (z 4), aI y kvc1 20 (z 5), aI y kvc2 20 (z 6), aI y kvc3 20 (z 7), aI y kvc4 20 (z 8), aI y kvc5 20 o, kX10 kud kvd (z 9), aI y kvd 32 (z 10), kX0 kue kve (z 11), aI y kve 3 (z 12)] ++ kW y ad zk ok 2)) s.heap := hP
  have hK4 : va_K G vwCl (tyG y) s := hK.sub (tys' := tyG y) [0, 1, 2, 3] rfl
  have hl := lv_entry ([.ref h, .int a1, .ref jq]) (n := 4) (Nat.le_of_ble_eq_true rfl)
  rw [lg_entry_eq]
  generalize (lg_sl ([.ref h, .int a1, .ref jq]) ++ List.replicate (4 - (lg_sl ([.ref h, .int a1, .ref jq])).length) Slot.unset).toArray = ls at hl ⊢
  have hl : lv_has ls 4 [(0, .ref h), (1, .int a1), (2, .ref jq)] := hl
  obtain ⟨QQ, hQQ⟩ : ∃ zq9, zq9 = vx_MQ below (QHi G (cdK 3 (s_X11_restore_k a1 fl)) (fun _ : Unit => ([aJ y jq 1 jo] ++ ([kX11 h qt fh kh ch qh qs Z0, kX2 qh a x, kX6 qs sa sb x6, aQ y sa 2 (fun i => some (ad i 0)), aZ y sb 2 fl, kX7 kh kua kub kuc kud kue (z 0), kX3 kua kva (z 1), aI y kva 10 (z 2), kX1 kub (z 3), kX8 kuc kvc1 kvc2 kvc3 kvc4 kvc5 (z 4), aI y kvc1 20 (z 5), aI y kvc2 20 (z 6), aI y kvc3 20 (z 7), aI y kvc4 20 (z 8), aI y kvc5 20 o, kX10 kud kvd (z 9), aI y kvd 32 (z 10), kX0 kue kve (z 11), aI y kve 3 (z 12)] ++ kW y ad zk ok 2))) A) XN ([.ref h, .int a1, .ref jq] : List Value).toArray s 1 6 A := ⟨_, rfl⟩
  rw [← hQQ]
  refine lv_aload_n hx hb dL_restore_0 rfl (lv_at hl 2 rfl) ?_
  refine lv_iconst (v := 0) hx hb dL_restore_1 (by decide) ?_
  refine lv_aload_n hx hb dL_restore_2 rfl (lv_at hl 0 rfl) ?_
  refine lv_iload_n hx hb dL_restore_3 rfl (lv_at hl 1 rfl) ?_
  refine cl_X (wr := [aJ y jq 1 jo]) (wc := ([kX11 h qt fh kh ch qh qs Z0, kX2 qh a x, kX6 qs sa sb x6, aQ y sa 2 (fun i => some (ad i 0)), aZ y sb 2 fl, kX7 kh kua kub kuc kud kue (z 0), kX3 kua kva (z 1), aI y kva 10 (z 2), kX1 kub (z 3), kX8 kuc kvc1 kvc2 kvc3 kvc4 kvc5 (z 4), aI y kvc1 20 (z 5), aI y kvc2 20 (z 6), aI y kvc3 20 (z 7), aI y kvc4 20 (z 8), aI y kvc5 20 o, kX10 kud kvd (z 9), aI y kvd 32 (z 10), kX0 kue kve (z 11), aI y kve 3 (z 12)] ++ kW y ad zk ok 2)) (vx_runV (As := [.int a1]) (rest := [.int 0, .ref jq]) ⟨hx, hb, hml, hown, hts⟩ (c_X11_restore l G y h a1 qt fh kh ch qh qs a x sa sb x6 fl kua kub kuc kud kue z kva kvc1 kvc2 kvc3 kvc4 kvc5 o kvd kve ad zk ok s.heap.size hrzk hezk hgzk hfl) (cwV 1 hts gL_restore_X11_restore rfl rfl rfl (by decide +kernel) ⟨Nat.le_of_ble_eq_true rfl, Nat.le_of_ble_eq_true rfl⟩) (PHX_V (A0 := A) (P_r hP) hK4 hN (D_r hD) hTY.1 hS (F_r hD hS hA) (ci := 9) (q0 := 0) rfl rfl) rfl rfl hl.1 rfl (lv_room (Nat.le_of_ble_eq_true rfl)) dL_restore_4 ⟨Nat.le_of_ble_eq_true rfl, Nat.le_of_ble_eq_true rfl⟩) hP hD hS hA (fun E ce q9 u H locs hE hP hD hS hce hcv hcl => ?_) (fun u H locs hP hD hS => ?_)
  · rcases hE with ⟨rfl, hE⟩ | ⟨rfl, hE⟩ | ⟨rfl, hE⟩
    · rcases kx_restore a1 fl with k9 | k9 | k9
      · exact absurd (hE.trans k9) (by decide)
      · exact absurd (hE.trans k9) (by decide)
      · exact absurd (hE.trans k9) (by decide)
    · refine vx_catch hown [⟨0, 9, 12, 28⟩] ⟨0, 9, 15, 15⟩ [] (htb.trans rfl) (fun z hz => by rcases List.mem_singleton.mp hz with rfl; exact Or.inr ⟨by decide, "java/lang/IndexOutOfBoundsException", hts (.classLink RL 28 "java/lang/IndexOutOfBoundsException") (by decide +kernel), hTY.2 _ mSO⟩) (by decide) (by decide) (hts (.classLink RL 15 "java/lang/IllegalStateException") (by decide +kernel)) (va_Nw.use rfl (hTY.1.2.1 _ mIS)) hce hcv hcl ?_
      refine lv_astore_n (lv' := [(3, .ref q9), (0, .ref h), (1, .int a1), (2, .ref jq)]) hx hb dL_restore_15 rfl hl (by decide) rfl (fun ls hl => ?_)
      refine lv_iconst (v := 2) hx hb dL_restore_16 (by decide) ?_
      rw [hQQ]
      refine vx_ret ?_
      exact W.iret hx hb hr (end_Hi u hP hD hS (cd_2 hE (by decide) (by decide)) rfl) hS.2.2 dL_restore_17
    · refine vx_catch hown [] ⟨0, 9, 12, 28⟩ [⟨0, 9, 15, 15⟩] (htb.trans rfl) (fun z hz => by cases hz) (by decide) (by decide) (hts (.classLink RL 28 "java/lang/IndexOutOfBoundsException") (by decide +kernel)) (va_Nw.use rfl (hTY.1.2.1 _ mIO)) hce hcv hcl ?_
      refine lv_astore_n (lv' := [(3, .ref q9), (0, .ref h), (1, .int a1), (2, .ref jq)]) hx hb dL_restore_12 rfl hl (by decide) rfl (fun ls hl => ?_)
      refine lv_iconst (v := 1) hx hb dL_restore_13 (by decide) ?_
      rw [hQQ]
      refine vx_ret ?_
      exact W.iret hx hb hr (end_Hi u hP hD hS (cd_1 hE (by decide)) rfl) hS.2.2 dL_restore_14
  · exact absurd u.2 hk0

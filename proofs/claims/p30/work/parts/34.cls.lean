def s_X9_read_r (x : Nat → Int32) (ft : Nat → Int32) : Int32 := (let v_1 : Nat → Int32 := (s_X9_readPlant_w0 (upd (upd (upd (upd (upd x 2 0) 7 (-1)) 8 (-1)) 9 (-1)) 10 0) ft); (let v_2 : Int32 := (s_X9_readPlant_r (upd (upd (upd (upd (upd x 2 0) 7 (-1)) 8 (-1)) 9 (-1)) 10 0) ft); (if v_2 = 0 then (v_1 2) else (if (v_1 1) ≤ (v_1 2) then (-99999) else (let v_7 : Nat → Int32 := (s_X9_readPart_w0 v_1 ft); (let v_8 : Int32 := (s_X9_readPart_r v_1 ft); (if v_8 = 0 then (v_7 2) else (if (v_7 1) ≤ (v_7 2) then (-99999) else (let v_13 : Nat → Int32 := (s_X9_readPart_w0 v_7 ft); (let v_14 : Int32 := (s_X9_readPart_r v_7 ft); (if v_14 = 0 then (v_13 2) else (if (v_13 1) ≤ (v_13 2) then (-99999) else (let v_19 : Nat → Int32 := (s_X9_readPart_w0 v_13 ft); (let v_20 : Int32 := (s_X9_readPart_r v_13 ft); (if v_20 = 0 then (v_19 2) else (if (v_19 1) ≤ (v_19 2) then (-99999) else (let v_25 : Nat → Int32 := (s_X9_readPart_w0 v_19 ft); (let v_26 : Int32 := (s_X9_readPart_r v_19 ft); (if v_26 = 0 then (v_25 2) else (let v_30 : Int32 := (if (v_25 1) ≤ (v_25 2) then (-99999) else (v_25 2)); v_30))))))))))))))))))))
def s_X9_read_w0 (x : Nat → Int32) (ft : Nat → Int32) : Nat → Int32 := (let v_1 : Nat → Int32 := (s_X9_readPlant_w0 (upd (upd (upd (upd (upd x 2 0) 7 (-1)) 8 (-1)) 9 (-1)) 10 0) ft); (let v_2 : Int32 := (s_X9_readPlant_r (upd (upd (upd (upd (upd x 2 0) 7 (-1)) 8 (-1)) 9 (-1)) 10 0) ft); (if v_2 = 0 then v_1 else (if (v_1 1) ≤ (v_1 2) then v_1 else (let v_7 : Nat → Int32 := (s_X9_readPart_w0 v_1 ft); (let v_8 : Int32 := (s_X9_readPart_r v_1 ft); (if v_8 = 0 then v_7 else (if (v_7 1) ≤ (v_7 2) then v_7 else (let v_13 : Nat → Int32 := (s_X9_readPart_w0 v_7 ft); (let v_14 : Int32 := (s_X9_readPart_r v_7 ft); (if v_14 = 0 then v_13 else (if (v_13 1) ≤ (v_13 2) then v_13 else (let v_19 : Nat → Int32 := (s_X9_readPart_w0 v_13 ft); (let v_20 : Int32 := (s_X9_readPart_r v_13 ft); (if v_20 = 0 then v_19 else (if (v_19 1) ≤ (v_19 2) then v_19 else (let v_25 : Nat → Int32 := (s_X9_readPart_w0 v_19 ft); (let v_26 : Int32 := (s_X9_readPart_r v_19 ft); (if v_26 = 0 then v_25 else v_25)))))))))))))))))))
abbrev rmX9_read : Room := ({ frames := 4, cells := 0, slots := 0, locals := 93 } : Room)
set_option maxHeartbeats 4000000 in
set_option maxRecDepth 100000 in
theorem c_X9_read (l : Launch) (G : va_G) (y : Nat → ClassId) (h : Nat) (q : Nat) (x : Nat → Int32) (ft : Nat → Int32) (sz : Nat) : Met l yX9_read wsX9_read rmX9_read (PH G y [.ref h] [kX9 h q x, aC y q 60 ft] sz) (QHi G (s_X9_read_r x ft) (fun _ : Unit => [kX9 h q (s_X9_read_w0 x ft), aC y q 60 ft]) (va_A [kX9 h q x, aC y q 60 ft] sz)) 0 0 (va_A [kX9 h q x, aC y q 60 ft] sz) := by
  refine Met.ofW (cc := cX9_read) (maxL := 2) (ret := (some .int)) (by decide) rfl ?_
  intro p e s m args below meth c s₁ B hml hv
  obtain ⟨rfl, hsz, hP, ⟨hK, hN⟩, hD0⟩ := hv
  have hx := B.exec
  have hb := B.bytes
  have hr := B.returns
  have hts := atoms_spec (ws := wsX9_read) B.pre
  have hown : s.vm.findClass RX9 = some m.cls := findClass_of_methodNamed B.named
  have hlocks := B.notSynchronized
  have i_X9 : ∀ w ∈ u_ws RX9 TX9 12, w ∈ wsX9_read := by decide +kernel
  subst hsz
  have hD := hD0.self (sz := s.heap.size)
  generalize hAe : va_A [kX9 h q x, aC y q 60 ft] s.heap.size = A at hD ⊢
  have hA : ∀ q : Nat, s.heap.size ≤ q → A q := fun q h => by rw [← hAe]; exact Or.inr h
  have hS : va_S A s.heap s.heap [] := va_S.rf
  have hP : va_P G vwCl [kX9 h q x, aC y q 60 ft] s.heap := hP
  have hl := lv_entry ([.ref h]) (n := 2) (Nat.le_of_ble_eq_true rfl)
  rw [lg_entry_eq]
  generalize (lg_sl ([.ref h]) ++ List.replicate (2 - (lg_sl ([.ref h])).length) Slot.unset).toArray = ls at hl ⊢
  have hl : lv_has ls 2 [(0, .ref h)] := hl
  obtain ⟨QQ, hQQ⟩ : ∃ zq9, zq9 = MQ below (QHi G (s_X9_read_r x ft) (fun _ : Unit => [kX9 h q (s_X9_read_w0 x ft), aC y q 60 ft]) A) ([.ref h] : List Value).toArray s 0 0 A := ⟨_, rfl⟩
  rw [← hQQ]
  refine lv_aload_n hx hb dX9_read_0 rfl (lv_at hl 0 rfl) ?_
  refine lv_iconst (v := 0) hx hb dX9_read_1 (by decide) ?_
  refine va_put (D := G) (ci := 7) (v := .int 0) (ty := .int) (C := RX9) (T := TX9) (N := 12) hx hb hts i_X9 tyX9 tyX9_ok nmX9 hown hK hP hD hS 0 rfl rfl 2 (by decide) (hts (.fieldLink RX9 19 "RelayTuner$Text" "at" "I") (by decide +kernel)) (fun _ h9 => h9) rfl (by decide +kernel) rfl rfl (Nat.le_of_ble_eq_true rfl) dX9_read_2 (fun H locs hP hD hS => ?_)
  have hP : va_P G vwCl [kX9 h q (upd x 2 0), aC y q 60 ft] H := hP
  have hD : va_D A [kX9 h q (upd x 2 0), aC y q 60 ft] := hD
  refine lv_aload_n hx hb dX9_read_5 rfl (lv_at hl 0 rfl) ?_
  refine lv_iconst (v := (-1)) hx hb dX9_read_6 (by decide) ?_
  refine va_put (D := G) (ci := 7) (v := .int (-1)) (ty := .int) (C := RX9) (T := TX9) (N := 12) hx hb hts i_X9 tyX9 tyX9_ok nmX9 hown hK hP hD hS 0 rfl rfl 7 (by decide) (hts (.fieldLink RX9 22 "RelayTuner$Text" "setPoint" "I") (by decide +kernel)) (fun _ h9 => h9) rfl (by decide +kernel) rfl rfl (Nat.le_of_ble_eq_true rfl) dX9_read_7 (fun H locs hP hD hS => ?_)
  have hP : va_P G vwCl [kX9 h q (upd (upd x 2 0) 7 (-1)), aC y q 60 ft] H := hP
  have hD : va_D A [kX9 h q (upd (upd x 2 0) 7 (-1)), aC y q 60 ft] := hD
  refine lv_aload_n hx hb dX9_read_10 rfl (lv_at hl 0 rfl) ?_
  refine lv_iconst (v := (-1)) hx hb dX9_read_11 (by decide) ?_
  refine va_put (D := G) (ci := 7) (v := .int (-1)) (ty := .int) (C := RX9) (T := TX9) (N := 12) hx hb hts i_X9 tyX9 tyX9_ok nmX9 hown hK hP hD hS 0 rfl rfl 8 (by decide) (hts (.fieldLink RX9 25 "RelayTuner$Text" "band" "I") (by decide +kernel)) (fun _ h9 => h9) rfl (by decide +kernel) rfl rfl (Nat.le_of_ble_eq_true rfl) dX9_read_12 (fun H locs hP hD hS => ?_)
  have hP : va_P G vwCl [kX9 h q (upd (upd (upd x 2 0) 7 (-1)) 8 (-1)), aC y q 60 ft] H := hP
  have hD : va_D A [kX9 h q (upd (upd (upd x 2 0) 7 (-1)) 8 (-1)), aC y q 60 ft] := hD
  refine lv_aload_n hx hb dX9_read_15 rfl (lv_at hl 0 rfl) ?_
  refine lv_iconst (v := (-1)) hx hb dX9_read_16 (by decide) ?_
  refine va_put (D := G) (ci := 7) (v := .int (-1)) (ty := .int) (C := RX9) (T := TX9) (N := 12) hx hb hts i_X9 tyX9 tyX9_ok nmX9 hown hK hP hD hS 0 rfl rfl 9 (by decide) (hts (.fieldLink RX9 28 "RelayTuner$Text" "tolerance" "I") (by decide +kernel)) (fun _ h9 => h9) rfl (by decide +kernel) rfl rfl (Nat.le_of_ble_eq_true rfl) dX9_read_17 (fun H locs hP hD hS => ?_)
  have hP : va_P G vwCl [kX9 h q (upd (upd (upd (upd x 2 0) 7 (-1)) 8 (-1)) 9 (-1)), aC y q 60 ft] H := hP
  have hD : va_D A [kX9 h q (upd (upd (upd (upd x 2 0) 7 (-1)) 8 (-1)) 9 (-1)), aC y q 60 ft] := hD
  refine lv_aload_n hx hb dX9_read_20 rfl (lv_at hl 0 rfl) ?_
  refine lv_iconst (v := 0) hx hb dX9_read_21 (by decide) ?_
  refine va_put (D := G) (ci := 7) (v := .int 0) (ty := .boolean) (C := RX9) (T := TX9) (N := 12) hx hb hts i_X9 tyX9 tyX9_ok nmX9 hown hK hP hD hS 0 rfl rfl 10 (by decide) (hts (.fieldLink RX9 31 "RelayTuner$Text" "hasAmbient" "Z") (by decide +kernel)) (fun _ h9 => h9) rfl (by decide +kernel) (nz_bool (Or.inl rfl)) (fz_bool (Or.inl rfl)) (Nat.le_of_ble_eq_true rfl) dX9_read_22 (fun H locs hP hD hS => ?_)
  have hP : va_P G vwCl [kX9 h q (upd (upd (upd (upd (upd x 2 0) 7 (-1)) 8 (-1)) 9 (-1)) 10 0), aC y q 60 ft] H := hP
  have hD : va_D A [kX9 h q (upd (upd (upd (upd (upd x 2 0) 7 (-1)) 8 (-1)) 9 (-1)) 10 0), aC y q 60 ft] := hD
  refine lv_aload_n hx hb dX9_read_25 rfl (lv_at hl 0 rfl) ?_
  refine cl_Hi (wr := []) (fun _ : Unit => [kX9 h q (s_X9_readPlant_w0 (upd (upd (upd (upd (upd x 2 0) 7 (-1)) 8 (-1)) 9 (-1)) 10 0) ft), aC y q 60 ft]) [0, 1] [] [0, 1] (va_runV (As := []) (rest := []) ⟨hx, hb, hml, hown, hts⟩ (c_X9_readPlant l G y h q (upd (upd (upd (upd (upd x 2 0) 7 (-1)) 8 (-1)) 9 (-1)) 10 0) ft H.size) (cwV 0 hts gX9_read_X9_readPlant rfl rfl rfl (by decide +kernel) ⟨Nat.le_of_ble_eq_true rfl, Nat.le_of_ble_eq_true rfl⟩) (PH_V (hP.sub (ws' := [kX9 h q (upd (upd (upd (upd (upd x 2 0) 7 (-1)) 8 (-1)) 9 (-1)) 10 0), aC y q 60 ft]) [0, 1] rfl) hK hN (hD.sub (ws' := [kX9 h q (upd (upd (upd (upd (upd x 2 0) 7 (-1)) 8 (-1)) 9 (-1)) 10 0), aC y q 60 ft]) [0, 1] (by decide) rfl) (ci := 7) (q0 := 0) rfl rfl) rfl rfl hl.1 rfl (lv_room (Nat.le_of_ble_eq_true rfl)) dX9_read_26 ⟨Nat.le_of_ble_eq_true rfl, Nat.le_of_ble_eq_true rfl⟩) hP hD hS hA rfl rfl rfl (by decide) rfl (fun _ => rfl) (fun _ H locs hP hD hS => ?_)
  have hP : va_P G vwCl [kX9 h q (s_X9_readPlant_w0 (upd (upd (upd (upd (upd x 2 0) 7 (-1)) 8 (-1)) 9 (-1)) 10 0) ft), aC y q 60 ft] H := hP
  have hD : va_D A [kX9 h q (s_X9_readPlant_w0 (upd (upd (upd (upd (upd x 2 0) 7 (-1)) 8 (-1)) 9 (-1)) 10 0) ft), aC y q 60 ft] := hD
  obtain ⟨v_1, e_v_1⟩ : ∃ zq9 : Nat → Int32, zq9 = (s_X9_readPlant_w0 (upd (upd (upd (upd (upd x 2 0) 7 (-1)) 8 (-1)) 9 (-1)) 10 0) ft) := ⟨_, rfl⟩
  have hP : va_P G vwCl [kX9 h q v_1, aC y q 60 ft] H := by rw [e_v_1]; exact hP
  have hD : va_D A [kX9 h q v_1, aC y q 60 ft] := by rw [e_v_1]; exact hD
  obtain ⟨v_2, e_v_2⟩ : ∃ zq9 : Int32, zq9 = (s_X9_readPlant_r (upd (upd (upd (upd (upd x 2 0) 7 (-1)) 8 (-1)) 9 (-1)) 10 0) ft) := ⟨_, rfl⟩
  refine rw_i (x' := v_2) e_v_2.symm ?_
  refine lv_if_ne (tgt := 37) hx hb dX9_read_29 (by decide) (fun c_3 => ?_) (fun c_3 => ?_)
  · refine lv_iconst (v := 0) hx hb dX9_read_37 (by decide) ?_
    refine lv_istore_n (lv' := [(1, .int 0), (0, .ref h)]) hx hb dX9_read_38 rfl hl (by decide) rfl (fun ls hl => ?_)
    refine lv_iload_n hx hb dX9_read_39 rfl (lv_at hl 0 rfl) ?_
    refine lv_iconst (v := 4) hx hb dX9_read_40 (by decide) ?_
    refine lv_icmp_ge (tgt := 73) hx hb dX9_read_41 (by decide) (fun c_4 => ?_) (fun c_4 => ?_)
    · exact (by first | exact absurd c_4 (by decide : ¬ ((4 : Int32) ≤ 0)) | exact absurd (by decide : ¬ ((4 : Int32) ≤ 0)) c_4)
    refine lv_aload_n hx hb dX9_read_44 rfl (lv_at hl 1 rfl) ?_
    refine va_get (D := G) (ci := 7) (v := .int (v_1 2)) (C := RX9) (T := TX9) (N := 12) hx hb hts i_X9 hown hK hP 0 rfl rfl 2 (by decide) (hts (.fieldLink RX9 19 "RelayTuner$Text" "at" "I") (by decide +kernel)) (fun _ h9 => h9) rfl dX9_read_45 ?_
    refine lv_aload_n hx hb dX9_read_48 rfl (lv_at hl 1 rfl) ?_
    refine va_get (D := G) (ci := 7) (v := .int (v_1 1)) (C := RX9) (T := TX9) (N := 12) hx hb hts i_X9 hown hK hP 0 rfl rfl 1 (by decide) (hts (.fieldLink RX9 15 "RelayTuner$Text" "length" "I") (by decide +kernel)) (fun _ h9 => h9) rfl dX9_read_49 ?_
    refine lv_icmp_ge (tgt := 73) hx hb dX9_read_52 (by decide) (fun c_5 => ?_) (fun c_5 => ?_)
    · refine lv_aload_n hx hb dX9_read_73 rfl (lv_at hl 1 rfl) ?_
      refine va_get (D := G) (ci := 7) (v := .int (v_1 2)) (C := RX9) (T := TX9) (N := 12) hx hb hts i_X9 hown hK hP 0 rfl rfl 2 (by decide) (hts (.fieldLink RX9 19 "RelayTuner$Text" "at" "I") (by decide +kernel)) (fun _ h9 => h9) rfl dX9_read_74 ?_
      refine lv_aload_n hx hb dX9_read_77 rfl (lv_at hl 1 rfl) ?_
      refine va_get (D := G) (ci := 7) (v := .int (v_1 1)) (C := RX9) (T := TX9) (N := 12) hx hb hts i_X9 hown hK hP 0 rfl rfl 1 (by decide) (hts (.fieldLink RX9 15 "RelayTuner$Text" "length" "I") (by decide +kernel)) (fun _ h9 => h9) rfl dX9_read_78 ?_
      refine lv_icmp_ge (tgt := 91) hx hb dX9_read_81 (by decide) (fun c_6 => ?_) (fun c_6 => ?_)
      rotate_left
      · exact (by first | exact absurd c_6 c_5 | exact absurd c_5 c_6)
      refine lv_ldc (v := (-99999)) hx hb hown (hts (.constant RX9 42 (-99999)) (by decide +kernel)) dX9_read_91 ?_
      rw [hQQ]
      exact W.iret hx hb hr (end_Hi () hP hD hS (by subst e_v_2; subst e_v_1; unfold s_X9_read_r; exact ((if_neg c_3).trans (if_pos c_5)).symm) (congrArg (fun (z0 : Nat → Int32) => [kX9 h q z0, aC y q 60 ft]) (by subst e_v_2; subst e_v_1; unfold s_X9_read_w0; exact ((if_neg c_3).trans (if_pos c_5)).symm))) hS.2.2 dX9_read_93
    · refine lv_aload_n hx hb dX9_read_55 rfl (lv_at hl 1 rfl) ?_
      refine cl_Hi (wr := []) (fun _ : Unit => [kX9 h q (s_X9_readPart_w0 v_1 ft), aC y q 60 ft]) [0, 1] [] [0, 1] (va_runV (As := []) (rest := []) ⟨hx, hb, hml, hown, hts⟩ (c_X9_readPart l G y h q v_1 ft H.size) (cwV 0 hts gX9_read_X9_readPart rfl rfl rfl (by decide +kernel) ⟨Nat.le_of_ble_eq_true rfl, Nat.le_of_ble_eq_true rfl⟩) (PH_V (hP.sub (ws' := [kX9 h q v_1, aC y q 60 ft]) [0, 1] rfl) hK hN (hD.sub (ws' := [kX9 h q v_1, aC y q 60 ft]) [0, 1] (by decide) rfl) (ci := 7) (q0 := 0) rfl rfl) rfl rfl hl.1 rfl (lv_room (Nat.le_of_ble_eq_true rfl)) dX9_read_56 ⟨Nat.le_of_ble_eq_true rfl, Nat.le_of_ble_eq_true rfl⟩) hP hD hS hA rfl rfl rfl (by decide) rfl (fun _ => rfl) (fun _ H locs hP hD hS => ?_)
      have hP : va_P G vwCl [kX9 h q (s_X9_readPart_w0 v_1 ft), aC y q 60 ft] H := hP
      have hD : va_D A [kX9 h q (s_X9_readPart_w0 v_1 ft), aC y q 60 ft] := hD
      obtain ⟨v_7, e_v_7⟩ : ∃ zq9 : Nat → Int32, zq9 = (s_X9_readPart_w0 v_1 ft) := ⟨_, rfl⟩
      have hP : va_P G vwCl [kX9 h q v_7, aC y q 60 ft] H := by rw [e_v_7]; exact hP
      have hD : va_D A [kX9 h q v_7, aC y q 60 ft] := by rw [e_v_7]; exact hD
      obtain ⟨v_8, e_v_8⟩ : ∃ zq9 : Int32, zq9 = (s_X9_readPart_r v_1 ft) := ⟨_, rfl⟩
      refine rw_i (x' := v_8) e_v_8.symm ?_
      refine lv_if_ne (tgt := 67) hx hb dX9_read_59 (by decide) (fun c_9 => ?_) (fun c_9 => ?_)
      · refine lv_iinc (v := 1) (lv' := [(1, .int 1), (0, .ref h)]) hx hb dX9_read_67 hl (k := 0) rfl (by first | rfl | decide) (by decide) rfl (fun ls hl => ?_)
        refine lv_goto (tgt := 39) hx hb dX9_read_70 (by decide) ?_
        refine lv_iload_n hx hb dX9_read_39 rfl (lv_at hl 0 rfl) ?_
        refine lv_iconst (v := 4) hx hb dX9_read_40 (by decide) ?_
        refine lv_icmp_ge (tgt := 73) hx hb dX9_read_41 (by decide) (fun c_10 => ?_) (fun c_10 => ?_)
        · exact (by first | exact absurd c_10 (by decide : ¬ ((4 : Int32) ≤ 1)) | exact absurd (by decide : ¬ ((4 : Int32) ≤ 1)) c_10)
        refine lv_aload_n hx hb dX9_read_44 rfl (lv_at hl 1 rfl) ?_
        refine va_get (D := G) (ci := 7) (v := .int (v_7 2)) (C := RX9) (T := TX9) (N := 12) hx hb hts i_X9 hown hK hP 0 rfl rfl 2 (by decide) (hts (.fieldLink RX9 19 "RelayTuner$Text" "at" "I") (by decide +kernel)) (fun _ h9 => h9) rfl dX9_read_45 ?_
        refine lv_aload_n hx hb dX9_read_48 rfl (lv_at hl 1 rfl) ?_
        refine va_get (D := G) (ci := 7) (v := .int (v_7 1)) (C := RX9) (T := TX9) (N := 12) hx hb hts i_X9 hown hK hP 0 rfl rfl 1 (by decide) (hts (.fieldLink RX9 15 "RelayTuner$Text" "length" "I") (by decide +kernel)) (fun _ h9 => h9) rfl dX9_read_49 ?_
        refine lv_icmp_ge (tgt := 73) hx hb dX9_read_52 (by decide) (fun c_11 => ?_) (fun c_11 => ?_)
        · refine lv_aload_n hx hb dX9_read_73 rfl (lv_at hl 1 rfl) ?_
          refine va_get (D := G) (ci := 7) (v := .int (v_7 2)) (C := RX9) (T := TX9) (N := 12) hx hb hts i_X9 hown hK hP 0 rfl rfl 2 (by decide) (hts (.fieldLink RX9 19 "RelayTuner$Text" "at" "I") (by decide +kernel)) (fun _ h9 => h9) rfl dX9_read_74 ?_
          refine lv_aload_n hx hb dX9_read_77 rfl (lv_at hl 1 rfl) ?_
          refine va_get (D := G) (ci := 7) (v := .int (v_7 1)) (C := RX9) (T := TX9) (N := 12) hx hb hts i_X9 hown hK hP 0 rfl rfl 1 (by decide) (hts (.fieldLink RX9 15 "RelayTuner$Text" "length" "I") (by decide +kernel)) (fun _ h9 => h9) rfl dX9_read_78 ?_
          refine lv_icmp_ge (tgt := 91) hx hb dX9_read_81 (by decide) (fun c_12 => ?_) (fun c_12 => ?_)
          rotate_left
          · exact (by first | exact absurd c_12 c_11 | exact absurd c_11 c_12)
          refine lv_ldc (v := (-99999)) hx hb hown (hts (.constant RX9 42 (-99999)) (by decide +kernel)) dX9_read_91 ?_
          rw [hQQ]
          exact W.iret hx hb hr (end_Hi () hP hD hS (by subst e_v_8; subst e_v_7; subst e_v_2; subst e_v_1; unfold s_X9_read_r; exact ((if_neg c_3).trans ((if_neg c_5).trans ((if_neg c_9).trans (if_pos c_11)))).symm) (congrArg (fun (z0 : Nat → Int32) => [kX9 h q z0, aC y q 60 ft]) (by subst e_v_8; subst e_v_7; subst e_v_2; subst e_v_1; unfold s_X9_read_w0; exact ((if_neg c_3).trans ((if_neg c_5).trans ((if_neg c_9).trans (if_pos c_11)))).symm))) hS.2.2 dX9_read_93
        · refine lv_aload_n hx hb dX9_read_55 rfl (lv_at hl 1 rfl) ?_
          refine cl_Hi (wr := []) (fun _ : Unit => [kX9 h q (s_X9_readPart_w0 v_7 ft), aC y q 60 ft]) [0, 1] [] [0, 1] (va_runV (As := []) (rest := []) ⟨hx, hb, hml, hown, hts⟩ (c_X9_readPart l G y h q v_7 ft H.size) (cwV 0 hts gX9_read_X9_readPart rfl rfl rfl (by decide +kernel) ⟨Nat.le_of_ble_eq_true rfl, Nat.le_of_ble_eq_true rfl⟩) (PH_V (hP.sub (ws' := [kX9 h q v_7, aC y q 60 ft]) [0, 1] rfl) hK hN (hD.sub (ws' := [kX9 h q v_7, aC y q 60 ft]) [0, 1] (by decide) rfl) (ci := 7) (q0 := 0) rfl rfl) rfl rfl hl.1 rfl (lv_room (Nat.le_of_ble_eq_true rfl)) dX9_read_56 ⟨Nat.le_of_ble_eq_true rfl, Nat.le_of_ble_eq_true rfl⟩) hP hD hS hA rfl rfl rfl (by decide) rfl (fun _ => rfl) (fun _ H locs hP hD hS => ?_)
          have hP : va_P G vwCl [kX9 h q (s_X9_readPart_w0 v_7 ft), aC y q 60 ft] H := hP
          have hD : va_D A [kX9 h q (s_X9_readPart_w0 v_7 ft), aC y q 60 ft] := hD
          obtain ⟨v_13, e_v_13⟩ : ∃ zq9 : Nat → Int32, zq9 = (s_X9_readPart_w0 v_7 ft) := ⟨_, rfl⟩
          have hP : va_P G vwCl [kX9 h q v_13, aC y q 60 ft] H := by rw [e_v_13]; exact hP
          have hD : va_D A [kX9 h q v_13, aC y q 60 ft] := by rw [e_v_13]; exact hD
          obtain ⟨v_14, e_v_14⟩ : ∃ zq9 : Int32, zq9 = (s_X9_readPart_r v_7 ft) := ⟨_, rfl⟩
          refine rw_i (x' := v_14) e_v_14.symm ?_
          refine lv_if_ne (tgt := 67) hx hb dX9_read_59 (by decide) (fun c_15 => ?_) (fun c_15 => ?_)
          · refine lv_iinc (v := 2) (lv' := [(1, .int 2), (0, .ref h)]) hx hb dX9_read_67 hl (k := 0) rfl (by first | rfl | decide) (by decide) rfl (fun ls hl => ?_)
            refine lv_goto (tgt := 39) hx hb dX9_read_70 (by decide) ?_
            refine lv_iload_n hx hb dX9_read_39 rfl (lv_at hl 0 rfl) ?_
            refine lv_iconst (v := 4) hx hb dX9_read_40 (by decide) ?_
            refine lv_icmp_ge (tgt := 73) hx hb dX9_read_41 (by decide) (fun c_16 => ?_) (fun c_16 => ?_)
            · exact (by first | exact absurd c_16 (by decide : ¬ ((4 : Int32) ≤ 2)) | exact absurd (by decide : ¬ ((4 : Int32) ≤ 2)) c_16)
            refine lv_aload_n hx hb dX9_read_44 rfl (lv_at hl 1 rfl) ?_
            refine va_get (D := G) (ci := 7) (v := .int (v_13 2)) (C := RX9) (T := TX9) (N := 12) hx hb hts i_X9 hown hK hP 0 rfl rfl 2 (by decide) (hts (.fieldLink RX9 19 "RelayTuner$Text" "at" "I") (by decide +kernel)) (fun _ h9 => h9) rfl dX9_read_45 ?_
            refine lv_aload_n hx hb dX9_read_48 rfl (lv_at hl 1 rfl) ?_
            refine va_get (D := G) (ci := 7) (v := .int (v_13 1)) (C := RX9) (T := TX9) (N := 12) hx hb hts i_X9 hown hK hP 0 rfl rfl 1 (by decide) (hts (.fieldLink RX9 15 "RelayTuner$Text" "length" "I") (by decide +kernel)) (fun _ h9 => h9) rfl dX9_read_49 ?_
            refine lv_icmp_ge (tgt := 73) hx hb dX9_read_52 (by decide) (fun c_17 => ?_) (fun c_17 => ?_)
            · refine lv_aload_n hx hb dX9_read_73 rfl (lv_at hl 1 rfl) ?_
              refine va_get (D := G) (ci := 7) (v := .int (v_13 2)) (C := RX9) (T := TX9) (N := 12) hx hb hts i_X9 hown hK hP 0 rfl rfl 2 (by decide) (hts (.fieldLink RX9 19 "RelayTuner$Text" "at" "I") (by decide +kernel)) (fun _ h9 => h9) rfl dX9_read_74 ?_
              refine lv_aload_n hx hb dX9_read_77 rfl (lv_at hl 1 rfl) ?_
              refine va_get (D := G) (ci := 7) (v := .int (v_13 1)) (C := RX9) (T := TX9) (N := 12) hx hb hts i_X9 hown hK hP 0 rfl rfl 1 (by decide) (hts (.fieldLink RX9 15 "RelayTuner$Text" "length" "I") (by decide +kernel)) (fun _ h9 => h9) rfl dX9_read_78 ?_
              refine lv_icmp_ge (tgt := 91) hx hb dX9_read_81 (by decide) (fun c_18 => ?_) (fun c_18 => ?_)
              rotate_left
              · exact (by first | exact absurd c_18 c_17 | exact absurd c_17 c_18)
              refine lv_ldc (v := (-99999)) hx hb hown (hts (.constant RX9 42 (-99999)) (by decide +kernel)) dX9_read_91 ?_
              rw [hQQ]
              exact W.iret hx hb hr (end_Hi () hP hD hS (by subst e_v_14; subst e_v_13; subst e_v_8; subst e_v_7; subst e_v_2; subst e_v_1; unfold s_X9_read_r; exact ((if_neg c_3).trans ((if_neg c_5).trans ((if_neg c_9).trans ((if_neg c_11).trans ((if_neg c_15).trans (if_pos c_17)))))).symm) (congrArg (fun (z0 : Nat → Int32) => [kX9 h q z0, aC y q 60 ft]) (by subst e_v_14; subst e_v_13; subst e_v_8; subst e_v_7; subst e_v_2; subst e_v_1; unfold s_X9_read_w0; exact ((if_neg c_3).trans ((if_neg c_5).trans ((if_neg c_9).trans ((if_neg c_11).trans ((if_neg c_15).trans (if_pos c_17)))))).symm))) hS.2.2 dX9_read_93
            · refine lv_aload_n hx hb dX9_read_55 rfl (lv_at hl 1 rfl) ?_
              refine cl_Hi (wr := []) (fun _ : Unit => [kX9 h q (s_X9_readPart_w0 v_13 ft), aC y q 60 ft]) [0, 1] [] [0, 1] (va_runV (As := []) (rest := []) ⟨hx, hb, hml, hown, hts⟩ (c_X9_readPart l G y h q v_13 ft H.size) (cwV 0 hts gX9_read_X9_readPart rfl rfl rfl (by decide +kernel) ⟨Nat.le_of_ble_eq_true rfl, Nat.le_of_ble_eq_true rfl⟩) (PH_V (hP.sub (ws' := [kX9 h q v_13, aC y q 60 ft]) [0, 1] rfl) hK hN (hD.sub (ws' := [kX9 h q v_13, aC y q 60 ft]) [0, 1] (by decide) rfl) (ci := 7) (q0 := 0) rfl rfl) rfl rfl hl.1 rfl (lv_room (Nat.le_of_ble_eq_true rfl)) dX9_read_56 ⟨Nat.le_of_ble_eq_true rfl, Nat.le_of_ble_eq_true rfl⟩) hP hD hS hA rfl rfl rfl (by decide) rfl (fun _ => rfl) (fun _ H locs hP hD hS => ?_)
              have hP : va_P G vwCl [kX9 h q (s_X9_readPart_w0 v_13 ft), aC y q 60 ft] H := hP
              have hD : va_D A [kX9 h q (s_X9_readPart_w0 v_13 ft), aC y q 60 ft] := hD
              obtain ⟨v_19, e_v_19⟩ : ∃ zq9 : Nat → Int32, zq9 = (s_X9_readPart_w0 v_13 ft) := ⟨_, rfl⟩
              have hP : va_P G vwCl [kX9 h q v_19, aC y q 60 ft] H := by rw [e_v_19]; exact hP
              have hD : va_D A [kX9 h q v_19, aC y q 60 ft] := by rw [e_v_19]; exact hD
              obtain ⟨v_20, e_v_20⟩ : ∃ zq9 : Int32, zq9 = (s_X9_readPart_r v_13 ft) := ⟨_, rfl⟩
              refine rw_i (x' := v_20) e_v_20.symm ?_
              refine lv_if_ne (tgt := 67) hx hb dX9_read_59 (by decide) (fun c_21 => ?_) (fun c_21 => ?_)
              · refine lv_iinc (v := 3) (lv' := [(1, .int 3), (0, .ref h)]) hx hb dX9_read_67 hl (k := 0) rfl (by first | rfl | decide) (by decide) rfl (fun ls hl => ?_)
                refine lv_goto (tgt := 39) hx hb dX9_read_70 (by decide) ?_
                refine lv_iload_n hx hb dX9_read_39 rfl (lv_at hl 0 rfl) ?_
                refine lv_iconst (v := 4) hx hb dX9_read_40 (by decide) ?_
                refine lv_icmp_ge (tgt := 73) hx hb dX9_read_41 (by decide) (fun c_22 => ?_) (fun c_22 => ?_)
                · exact (by first | exact absurd c_22 (by decide : ¬ ((4 : Int32) ≤ 3)) | exact absurd (by decide : ¬ ((4 : Int32) ≤ 3)) c_22)
                refine lv_aload_n hx hb dX9_read_44 rfl (lv_at hl 1 rfl) ?_
                refine va_get (D := G) (ci := 7) (v := .int (v_19 2)) (C := RX9) (T := TX9) (N := 12) hx hb hts i_X9 hown hK hP 0 rfl rfl 2 (by decide) (hts (.fieldLink RX9 19 "RelayTuner$Text" "at" "I") (by decide +kernel)) (fun _ h9 => h9) rfl dX9_read_45 ?_
                refine lv_aload_n hx hb dX9_read_48 rfl (lv_at hl 1 rfl) ?_
                refine va_get (D := G) (ci := 7) (v := .int (v_19 1)) (C := RX9) (T := TX9) (N := 12) hx hb hts i_X9 hown hK hP 0 rfl rfl 1 (by decide) (hts (.fieldLink RX9 15 "RelayTuner$Text" "length" "I") (by decide +kernel)) (fun _ h9 => h9) rfl dX9_read_49 ?_
                refine lv_icmp_ge (tgt := 73) hx hb dX9_read_52 (by decide) (fun c_23 => ?_) (fun c_23 => ?_)
                · refine lv_aload_n hx hb dX9_read_73 rfl (lv_at hl 1 rfl) ?_
                  refine va_get (D := G) (ci := 7) (v := .int (v_19 2)) (C := RX9) (T := TX9) (N := 12) hx hb hts i_X9 hown hK hP 0 rfl rfl 2 (by decide) (hts (.fieldLink RX9 19 "RelayTuner$Text" "at" "I") (by decide +kernel)) (fun _ h9 => h9) rfl dX9_read_74 ?_
                  refine lv_aload_n hx hb dX9_read_77 rfl (lv_at hl 1 rfl) ?_
                  refine va_get (D := G) (ci := 7) (v := .int (v_19 1)) (C := RX9) (T := TX9) (N := 12) hx hb hts i_X9 hown hK hP 0 rfl rfl 1 (by decide) (hts (.fieldLink RX9 15 "RelayTuner$Text" "length" "I") (by decide +kernel)) (fun _ h9 => h9) rfl dX9_read_78 ?_
                  refine lv_icmp_ge (tgt := 91) hx hb dX9_read_81 (by decide) (fun c_24 => ?_) (fun c_24 => ?_)
                  rotate_left
                  · exact (by first | exact absurd c_24 c_23 | exact absurd c_23 c_24)
                  refine lv_ldc (v := (-99999)) hx hb hown (hts (.constant RX9 42 (-99999)) (by decide +kernel)) dX9_read_91 ?_
                  rw [hQQ]
                  exact W.iret hx hb hr (end_Hi () hP hD hS (by subst e_v_20; subst e_v_19; subst e_v_14; subst e_v_13; subst e_v_8; subst e_v_7; subst e_v_2; subst e_v_1; unfold s_X9_read_r; exact ((if_neg c_3).trans ((if_neg c_5).trans ((if_neg c_9).trans ((if_neg c_11).trans ((if_neg c_15).trans ((if_neg c_17).trans ((if_neg c_21).trans (if_pos c_23)))))))).symm) (congrArg (fun (z0 : Nat → Int32) => [kX9 h q z0, aC y q 60 ft]) (by subst e_v_20; subst e_v_19; subst e_v_14; subst e_v_13; subst e_v_8; subst e_v_7; subst e_v_2; subst e_v_1; unfold s_X9_read_w0; exact ((if_neg c_3).trans ((if_neg c_5).trans ((if_neg c_9).trans ((if_neg c_11).trans ((if_neg c_15).trans ((if_neg c_17).trans ((if_neg c_21).trans (if_pos c_23)))))))).symm))) hS.2.2 dX9_read_93
                · refine lv_aload_n hx hb dX9_read_55 rfl (lv_at hl 1 rfl) ?_
                  refine cl_Hi (wr := []) (fun _ : Unit => [kX9 h q (s_X9_readPart_w0 v_19 ft), aC y q 60 ft]) [0, 1] [] [0, 1] (va_runV (As := []) (rest := []) ⟨hx, hb, hml, hown, hts⟩ (c_X9_readPart l G y h q v_19 ft H.size) (cwV 0 hts gX9_read_X9_readPart rfl rfl rfl (by decide +kernel) ⟨Nat.le_of_ble_eq_true rfl, Nat.le_of_ble_eq_true rfl⟩) (PH_V (hP.sub (ws' := [kX9 h q v_19, aC y q 60 ft]) [0, 1] rfl) hK hN (hD.sub (ws' := [kX9 h q v_19, aC y q 60 ft]) [0, 1] (by decide) rfl) (ci := 7) (q0 := 0) rfl rfl) rfl rfl hl.1 rfl (lv_room (Nat.le_of_ble_eq_true rfl)) dX9_read_56 ⟨Nat.le_of_ble_eq_true rfl, Nat.le_of_ble_eq_true rfl⟩) hP hD hS hA rfl rfl rfl (by decide) rfl (fun _ => rfl) (fun _ H locs hP hD hS => ?_)
                  have hP : va_P G vwCl [kX9 h q (s_X9_readPart_w0 v_19 ft), aC y q 60 ft] H := hP
                  have hD : va_D A [kX9 h q (s_X9_readPart_w0 v_19 ft), aC y q 60 ft] := hD
                  obtain ⟨v_25, e_v_25⟩ : ∃ zq9 : Nat → Int32, zq9 = (s_X9_readPart_w0 v_19 ft) := ⟨_, rfl⟩
                  have hP : va_P G vwCl [kX9 h q v_25, aC y q 60 ft] H := by rw [e_v_25]; exact hP
                  have hD : va_D A [kX9 h q v_25, aC y q 60 ft] := by rw [e_v_25]; exact hD
                  obtain ⟨v_26, e_v_26⟩ : ∃ zq9 : Int32, zq9 = (s_X9_readPart_r v_19 ft) := ⟨_, rfl⟩
                  refine rw_i (x' := v_26) e_v_26.symm ?_
                  refine lv_if_ne (tgt := 67) hx hb dX9_read_59 (by decide) (fun c_27 => ?_) (fun c_27 => ?_)
                  · refine lv_iinc (v := 4) (lv' := [(1, .int 4), (0, .ref h)]) hx hb dX9_read_67 hl (k := 0) rfl (by first | rfl | decide) (by decide) rfl (fun ls hl => ?_)
                    refine lv_goto (tgt := 39) hx hb dX9_read_70 (by decide) ?_
                    refine lv_iload_n hx hb dX9_read_39 rfl (lv_at hl 0 rfl) ?_
                    refine lv_iconst (v := 4) hx hb dX9_read_40 (by decide) ?_
                    refine lv_icmp_ge (tgt := 73) hx hb dX9_read_41 (by decide) (fun c_28 => ?_) (fun c_28 => ?_)
                    rotate_left
                    · exact (by first | exact absurd c_28 (by decide : ((4 : Int32) ≤ 4)) | exact absurd (by decide : ((4 : Int32) ≤ 4)) c_28)
                    refine lv_aload_n hx hb dX9_read_73 rfl (lv_at hl 1 rfl) ?_
                    refine va_get (D := G) (ci := 7) (v := .int (v_25 2)) (C := RX9) (T := TX9) (N := 12) hx hb hts i_X9 hown hK hP 0 rfl rfl 2 (by decide) (hts (.fieldLink RX9 19 "RelayTuner$Text" "at" "I") (by decide +kernel)) (fun _ h9 => h9) rfl dX9_read_74 ?_
                    refine lv_aload_n hx hb dX9_read_77 rfl (lv_at hl 1 rfl) ?_
                    refine va_get (D := G) (ci := 7) (v := .int (v_25 1)) (C := RX9) (T := TX9) (N := 12) hx hb hts i_X9 hown hK hP 0 rfl rfl 1 (by decide) (hts (.fieldLink RX9 15 "RelayTuner$Text" "length" "I") (by decide +kernel)) (fun _ h9 => h9) rfl dX9_read_78 ?_
                    have J93_31 : ∀ (v_30 : Int32) (e_v_30 : v_30 = (if (v_25 1) ≤ (v_25 2) then (-99999) else (v_25 2))) (ls : Array Slot) (hl : lv_has ls 2 []), W p l e (headSpec wsX9_read rmX9_read).room s m ([.ref h] : List Value).toArray below meth c H locs 0 0 QQ (F0 m 93 ls [.int v_30]) := by
                      intro v_30 e_v_30 ls hl
                      rw [hQQ]
                      exact W.iret hx hb hr (end_Hi () hP hD hS (by subst e_v_30; subst e_v_26; subst e_v_25; subst e_v_20; subst e_v_19; subst e_v_14; subst e_v_13; subst e_v_8; subst e_v_7; subst e_v_2; subst e_v_1; unfold s_X9_read_r; exact ((if_neg c_3).trans ((if_neg c_5).trans ((if_neg c_9).trans ((if_neg c_11).trans ((if_neg c_15).trans ((if_neg c_17).trans ((if_neg c_21).trans ((if_neg c_23).trans (if_neg c_27))))))))).symm) (congrArg (fun (z0 : Nat → Int32) => [kX9 h q z0, aC y q 60 ft]) (by subst e_v_30; subst e_v_26; subst e_v_25; subst e_v_20; subst e_v_19; subst e_v_14; subst e_v_13; subst e_v_8; subst e_v_7; subst e_v_2; subst e_v_1; unfold s_X9_read_w0; exact ((if_neg c_3).trans ((if_neg c_5).trans ((if_neg c_9).trans ((if_neg c_11).trans ((if_neg c_15).trans ((if_neg c_17).trans ((if_neg c_21).trans ((if_neg c_23).trans (if_neg c_27))))))))).symm))) hS.2.2 dX9_read_93
                    refine lv_icmp_ge (tgt := 91) hx hb dX9_read_81 (by decide) (fun c_29 => ?_) (fun c_29 => ?_)
                    · refine lv_ldc (v := (-99999)) hx hb hown (hts (.constant RX9 42 (-99999)) (by decide +kernel)) dX9_read_91 ?_
                      exact J93_31 _ (if_pos c_29).symm ls (lv_sub hl [] rfl)
                    · refine lv_aload_n hx hb dX9_read_84 rfl (lv_at hl 1 rfl) ?_
                      refine va_get (D := G) (ci := 7) (v := .int (v_25 2)) (C := RX9) (T := TX9) (N := 12) hx hb hts i_X9 hown hK hP 0 rfl rfl 2 (by decide) (hts (.fieldLink RX9 19 "RelayTuner$Text" "at" "I") (by decide +kernel)) (fun _ h9 => h9) rfl dX9_read_85 ?_
                      refine lv_goto (tgt := 93) hx hb dX9_read_88 (by decide) ?_
                      exact J93_31 _ (if_neg c_29).symm ls (lv_sub hl [] rfl)
                  · refine lv_aload_n hx hb dX9_read_62 rfl (lv_at hl 1 rfl) ?_
                    refine va_get (D := G) (ci := 7) (v := .int (v_25 2)) (C := RX9) (T := TX9) (N := 12) hx hb hts i_X9 hown hK hP 0 rfl rfl 2 (by decide) (hts (.fieldLink RX9 19 "RelayTuner$Text" "at" "I") (by decide +kernel)) (fun _ h9 => h9) rfl dX9_read_63 ?_
                    rw [hQQ]
                    exact W.iret hx hb hr (end_Hi () hP hD hS (by subst e_v_26; subst e_v_25; subst e_v_20; subst e_v_19; subst e_v_14; subst e_v_13; subst e_v_8; subst e_v_7; subst e_v_2; subst e_v_1; unfold s_X9_read_r; exact ((if_neg c_3).trans ((if_neg c_5).trans ((if_neg c_9).trans ((if_neg c_11).trans ((if_neg c_15).trans ((if_neg c_17).trans ((if_neg c_21).trans ((if_neg c_23).trans (if_pos c_27))))))))).symm) (congrArg (fun (z0 : Nat → Int32) => [kX9 h q z0, aC y q 60 ft]) (by subst e_v_26; subst e_v_25; subst e_v_20; subst e_v_19; subst e_v_14; subst e_v_13; subst e_v_8; subst e_v_7; subst e_v_2; subst e_v_1; unfold s_X9_read_w0; exact ((if_neg c_3).trans ((if_neg c_5).trans ((if_neg c_9).trans ((if_neg c_11).trans ((if_neg c_15).trans ((if_neg c_17).trans ((if_neg c_21).trans ((if_neg c_23).trans (if_pos c_27))))))))).symm))) hS.2.2 dX9_read_66
              · refine lv_aload_n hx hb dX9_read_62 rfl (lv_at hl 1 rfl) ?_
                refine va_get (D := G) (ci := 7) (v := .int (v_19 2)) (C := RX9) (T := TX9) (N := 12) hx hb hts i_X9 hown hK hP 0 rfl rfl 2 (by decide) (hts (.fieldLink RX9 19 "RelayTuner$Text" "at" "I") (by decide +kernel)) (fun _ h9 => h9) rfl dX9_read_63 ?_
                rw [hQQ]
                exact W.iret hx hb hr (end_Hi () hP hD hS (by subst e_v_20; subst e_v_19; subst e_v_14; subst e_v_13; subst e_v_8; subst e_v_7; subst e_v_2; subst e_v_1; unfold s_X9_read_r; exact ((if_neg c_3).trans ((if_neg c_5).trans ((if_neg c_9).trans ((if_neg c_11).trans ((if_neg c_15).trans ((if_neg c_17).trans (if_pos c_21))))))).symm) (congrArg (fun (z0 : Nat → Int32) => [kX9 h q z0, aC y q 60 ft]) (by subst e_v_20; subst e_v_19; subst e_v_14; subst e_v_13; subst e_v_8; subst e_v_7; subst e_v_2; subst e_v_1; unfold s_X9_read_w0; exact ((if_neg c_3).trans ((if_neg c_5).trans ((if_neg c_9).trans ((if_neg c_11).trans ((if_neg c_15).trans ((if_neg c_17).trans (if_pos c_21))))))).symm))) hS.2.2 dX9_read_66
          · refine lv_aload_n hx hb dX9_read_62 rfl (lv_at hl 1 rfl) ?_
            refine va_get (D := G) (ci := 7) (v := .int (v_13 2)) (C := RX9) (T := TX9) (N := 12) hx hb hts i_X9 hown hK hP 0 rfl rfl 2 (by decide) (hts (.fieldLink RX9 19 "RelayTuner$Text" "at" "I") (by decide +kernel)) (fun _ h9 => h9) rfl dX9_read_63 ?_
            rw [hQQ]
            exact W.iret hx hb hr (end_Hi () hP hD hS (by subst e_v_14; subst e_v_13; subst e_v_8; subst e_v_7; subst e_v_2; subst e_v_1; unfold s_X9_read_r; exact ((if_neg c_3).trans ((if_neg c_5).trans ((if_neg c_9).trans ((if_neg c_11).trans (if_pos c_15))))).symm) (congrArg (fun (z0 : Nat → Int32) => [kX9 h q z0, aC y q 60 ft]) (by subst e_v_14; subst e_v_13; subst e_v_8; subst e_v_7; subst e_v_2; subst e_v_1; unfold s_X9_read_w0; exact ((if_neg c_3).trans ((if_neg c_5).trans ((if_neg c_9).trans ((if_neg c_11).trans (if_pos c_15))))).symm))) hS.2.2 dX9_read_66
      · refine lv_aload_n hx hb dX9_read_62 rfl (lv_at hl 1 rfl) ?_
        refine va_get (D := G) (ci := 7) (v := .int (v_7 2)) (C := RX9) (T := TX9) (N := 12) hx hb hts i_X9 hown hK hP 0 rfl rfl 2 (by decide) (hts (.fieldLink RX9 19 "RelayTuner$Text" "at" "I") (by decide +kernel)) (fun _ h9 => h9) rfl dX9_read_63 ?_
        rw [hQQ]
        exact W.iret hx hb hr (end_Hi () hP hD hS (by subst e_v_8; subst e_v_7; subst e_v_2; subst e_v_1; unfold s_X9_read_r; exact ((if_neg c_3).trans ((if_neg c_5).trans (if_pos c_9))).symm) (congrArg (fun (z0 : Nat → Int32) => [kX9 h q z0, aC y q 60 ft]) (by subst e_v_8; subst e_v_7; subst e_v_2; subst e_v_1; unfold s_X9_read_w0; exact ((if_neg c_3).trans ((if_neg c_5).trans (if_pos c_9))).symm))) hS.2.2 dX9_read_66
  · refine lv_aload_n hx hb dX9_read_32 rfl (lv_at hl 0 rfl) ?_
    refine va_get (D := G) (ci := 7) (v := .int (v_1 2)) (C := RX9) (T := TX9) (N := 12) hx hb hts i_X9 hown hK hP 0 rfl rfl 2 (by decide) (hts (.fieldLink RX9 19 "RelayTuner$Text" "at" "I") (by decide +kernel)) (fun _ h9 => h9) rfl dX9_read_33 ?_
    rw [hQQ]
    exact W.iret hx hb hr (end_Hi () hP hD hS (by subst e_v_2; subst e_v_1; unfold s_X9_read_r; exact (if_pos c_3).symm) (congrArg (fun (z0 : Nat → Int32) => [kX9 h q z0, aC y q 60 ft]) (by subst e_v_2; subst e_v_1; unfold s_X9_read_w0; exact (if_pos c_3).symm))) hS.2.2 dX9_read_36

def s_X9_putInto_z (x : Nat → Int32) (z : Nat → Nat → Int32) : Nat → Nat → Int32 := fun i => match i with
  | 1 => (let v_2 : Nat → Int32 := (if (x 10) = 0 then (upd (upd (upd (upd (z 1) 0 (x 3)) 1 (x 4)) 2 (x 5)) 4 (x 6)) else (upd (upd (upd (upd (upd (z 1) 0 (x 3)) 1 (x 4)) 2 (x 5)) 4 (x 6)) 3 (x 11))); (upd v_2 5 (v_2 3)))
  | 3 => (let v_5 : Nat → Int32 := (if (x 7) = (-1) then (z 3) else (upd (z 3) 0 (x 7))); (let v_8 : Nat → Int32 := (if (x 8) = (-1) then v_5 else (upd v_5 1 (x 8))); (let v_11 : Nat → Int32 := (if (x 9) = (-1) then v_8 else (upd v_8 2 (x 9))); v_11)))
  | _ => z i
abbrev rmX9_putInto : Room := ({ frames := 0, cells := 0, slots := 0, locals := 0 } : Room)
set_option maxHeartbeats 4000000 in
set_option maxRecDepth 100000 in
theorem c_X9_putInto (l : Launch) (G : va_G) (y : Nat → ClassId) (h : Nat) (k : Nat) (q : Nat) (x : Nat → Int32) (ua : Nat) (ub : Nat) (uc : Nat) (ud : Nat) (ue : Nat) (z : Nat → Nat → Int32) (va : Nat) (sz : Nat) : Met l yX9_putInto wsX9_putInto rmX9_putInto (PH G y [.ref h, .ref k] [kX9 h q x, kX7 k ua ub uc ud ue (z 0), kX3 ua va (z 1), kX1 ub (z 3)] sz) (QHv G (fun _ : Unit => [kX9 h q x, kX7 k ua ub uc ud ue (s_X9_putInto_z x z 0), kX3 ua va (s_X9_putInto_z x z 1), kX1 ub (s_X9_putInto_z x z 3)]) (va_A [kX9 h q x, kX7 k ua ub uc ud ue (z 0), kX3 ua va (z 1), kX1 ub (z 3)] sz)) 0 0 (va_A [kX9 h q x, kX7 k ua ub uc ud ue (z 0), kX3 ua va (z 1), kX1 ub (z 3)] sz) := by
  refine Met.ofW (cc := cX9_putInto) (maxL := 2) (ret := none) (by decide) rfl ?_
  intro p e s m args below meth c s₁ B hml hv
  obtain ⟨rfl, hsz, hP, ⟨hK, hN⟩, hD0⟩ := hv
  have hx := B.exec
  have hb := B.bytes
  have hr := B.returns
  have hts := atoms_spec (ws := wsX9_putInto) B.pre
  have hown : s.vm.findClass RX9 = some m.cls := findClass_of_methodNamed B.named
  have hlocks := B.notSynchronized
  have i_X1 : ∀ w ∈ u_ws RX1 TX1 11, w ∈ wsX9_putInto := by decide +kernel
  have i_X3 : ∀ w ∈ u_ws RX3 TX3 8, w ∈ wsX9_putInto := by decide +kernel
  have i_X7 : ∀ w ∈ u_ws RX7 TX7 6, w ∈ wsX9_putInto := by decide +kernel
  have i_X9 : ∀ w ∈ u_ws RX9 TX9 12, w ∈ wsX9_putInto := by decide +kernel
  subst hsz
  have hD := hD0.self (sz := s.heap.size)
  generalize hAe : va_A [kX9 h q x, kX7 k ua ub uc ud ue (z 0), kX3 ua va (z 1), kX1 ub (z 3)] s.heap.size = A at hD ⊢
  have hA : ∀ q : Nat, s.heap.size ≤ q → A q := fun q h => by rw [← hAe]; exact Or.inr h
  have hS : va_S A s.heap s.heap [] := va_S.rf
  have hP : va_P G vwCl [kX9 h q x, kX7 k ua ub uc ud ue (z 0), kX3 ua va (z 1), kX1 ub (z 3)] s.heap := hP
  have hl := lv_entry ([.ref h, .ref k]) (n := 2) (Nat.le_of_ble_eq_true rfl)
  rw [lg_entry_eq]
  generalize (lg_sl ([.ref h, .ref k]) ++ List.replicate (2 - (lg_sl ([.ref h, .ref k])).length) Slot.unset).toArray = ls at hl ⊢
  have hl : lv_has ls 2 [(0, .ref h), (1, .ref k)] := hl
  obtain ⟨QQ, hQQ⟩ : ∃ zq9, zq9 = MQ below (QHv G (fun _ : Unit => [kX9 h q x, kX7 k ua ub uc ud ue (s_X9_putInto_z x z 0), kX3 ua va (s_X9_putInto_z x z 1), kX1 ub (s_X9_putInto_z x z 3)]) A) ([.ref h, .ref k] : List Value).toArray s 0 0 A := ⟨_, rfl⟩
  rw [← hQQ]
  refine lv_aload_n hx hb dX9_putInto_0 rfl (lv_at hl 1 rfl) ?_
  refine va_getN (D := G) (ci := 5) (v := .ref ua) (C := RX7) (T := TX7) (N := 6) hx hb hts i_X7 hown hK hP 1 rfl rfl 1 (by decide) (NN.f hN (a := RX9) (i := 43) (b := "RelayTuner$State") (n := "plant") (d := "LRelayTuner$Plant;") (by decide +kernel)) (fun _ h9 => h9) rfl dX9_putInto_1 ?_
  refine lv_aload_n hx hb dX9_putInto_4 rfl (lv_at hl 0 rfl) ?_
  refine va_get (D := G) (ci := 7) (v := .int (x 3)) (C := RX9) (T := TX9) (N := 12) hx hb hts i_X9 hown hK hP 0 rfl rfl 3 (by decide) (hts (.fieldLink RX9 49 "RelayTuner$Text" "gain" "I") (by decide +kernel)) (fun _ h9 => h9) rfl dX9_putInto_5 ?_
  refine va_putN (D := G) (ci := 3) (v := .int (x 3)) (ty := .int) (C := RX3) (T := TX3) (N := 8) hx hb hts i_X3 tyX3 tyX3_ok nmX3 hown hK hP hD hS 2 rfl rfl 0 (by decide) (NN.f hN (a := RX9) (i := 52) (b := "RelayTuner$Plant") (n := "gain") (d := "I") (by decide +kernel)) (fun _ h9 => h9) rfl (by decide +kernel) rfl rfl (Nat.le_of_ble_eq_true rfl) dX9_putInto_8 (fun H locs hP hD hS => ?_)
  have hP : va_P G vwCl [kX9 h q x, kX7 k ua ub uc ud ue (z 0), kX3 ua va (upd (z 1) 0 (x 3)), kX1 ub (z 3)] H := hP
  have hD : va_D A [kX9 h q x, kX7 k ua ub uc ud ue (z 0), kX3 ua va (upd (z 1) 0 (x 3)), kX1 ub (z 3)] := hD
  refine lv_aload_n hx hb dX9_putInto_11 rfl (lv_at hl 1 rfl) ?_
  refine va_getN (D := G) (ci := 5) (v := .ref ua) (C := RX7) (T := TX7) (N := 6) hx hb hts i_X7 hown hK hP 1 rfl rfl 1 (by decide) (NN.f hN (a := RX9) (i := 43) (b := "RelayTuner$State") (n := "plant") (d := "LRelayTuner$Plant;") (by decide +kernel)) (fun _ h9 => h9) rfl dX9_putInto_12 ?_
  refine lv_aload_n hx hb dX9_putInto_15 rfl (lv_at hl 0 rfl) ?_
  refine va_get (D := G) (ci := 7) (v := .int (x 4)) (C := RX9) (T := TX9) (N := 12) hx hb hts i_X9 hown hK hP 0 rfl rfl 4 (by decide) (hts (.fieldLink RX9 55 "RelayTuner$Text" "inertia" "I") (by decide +kernel)) (fun _ h9 => h9) rfl dX9_putInto_16 ?_
  refine va_putN (D := G) (ci := 3) (v := .int (x 4)) (ty := .int) (C := RX3) (T := TX3) (N := 8) hx hb hts i_X3 tyX3 tyX3_ok nmX3 hown hK hP hD hS 2 rfl rfl 1 (by decide) (NN.f hN (a := RX9) (i := 58) (b := "RelayTuner$Plant") (n := "inertia") (d := "I") (by decide +kernel)) (fun _ h9 => h9) rfl (by decide +kernel) rfl rfl (Nat.le_of_ble_eq_true rfl) dX9_putInto_19 (fun H locs hP hD hS => ?_)
  have hP : va_P G vwCl [kX9 h q x, kX7 k ua ub uc ud ue (z 0), kX3 ua va (upd (upd (z 1) 0 (x 3)) 1 (x 4)), kX1 ub (z 3)] H := hP
  have hD : va_D A [kX9 h q x, kX7 k ua ub uc ud ue (z 0), kX3 ua va (upd (upd (z 1) 0 (x 3)) 1 (x 4)), kX1 ub (z 3)] := hD
  refine lv_aload_n hx hb dX9_putInto_22 rfl (lv_at hl 1 rfl) ?_
  refine va_getN (D := G) (ci := 5) (v := .ref ua) (C := RX7) (T := TX7) (N := 6) hx hb hts i_X7 hown hK hP 1 rfl rfl 1 (by decide) (NN.f hN (a := RX9) (i := 43) (b := "RelayTuner$State") (n := "plant") (d := "LRelayTuner$Plant;") (by decide +kernel)) (fun _ h9 => h9) rfl dX9_putInto_23 ?_
  refine lv_aload_n hx hb dX9_putInto_26 rfl (lv_at hl 0 rfl) ?_
  refine va_get (D := G) (ci := 7) (v := .int (x 5)) (C := RX9) (T := TX9) (N := 12) hx hb hts i_X9 hown hK hP 0 rfl rfl 5 (by decide) (hts (.fieldLink RX9 59 "RelayTuner$Text" "delay" "I") (by decide +kernel)) (fun _ h9 => h9) rfl dX9_putInto_27 ?_
  refine va_putN (D := G) (ci := 3) (v := .int (x 5)) (ty := .int) (C := RX3) (T := TX3) (N := 8) hx hb hts i_X3 tyX3 tyX3_ok nmX3 hown hK hP hD hS 2 rfl rfl 2 (by decide) (NN.f hN (a := RX9) (i := 62) (b := "RelayTuner$Plant") (n := "delay") (d := "I") (by decide +kernel)) (fun _ h9 => h9) rfl (by decide +kernel) rfl rfl (Nat.le_of_ble_eq_true rfl) dX9_putInto_30 (fun H locs hP hD hS => ?_)
  have hP : va_P G vwCl [kX9 h q x, kX7 k ua ub uc ud ue (z 0), kX3 ua va (upd (upd (upd (z 1) 0 (x 3)) 1 (x 4)) 2 (x 5)), kX1 ub (z 3)] H := hP
  have hD : va_D A [kX9 h q x, kX7 k ua ub uc ud ue (z 0), kX3 ua va (upd (upd (upd (z 1) 0 (x 3)) 1 (x 4)) 2 (x 5)), kX1 ub (z 3)] := hD
  refine lv_aload_n hx hb dX9_putInto_33 rfl (lv_at hl 1 rfl) ?_
  refine va_getN (D := G) (ci := 5) (v := .ref ua) (C := RX7) (T := TX7) (N := 6) hx hb hts i_X7 hown hK hP 1 rfl rfl 1 (by decide) (NN.f hN (a := RX9) (i := 43) (b := "RelayTuner$State") (n := "plant") (d := "LRelayTuner$Plant;") (by decide +kernel)) (fun _ h9 => h9) rfl dX9_putInto_34 ?_
  refine lv_aload_n hx hb dX9_putInto_37 rfl (lv_at hl 0 rfl) ?_
  refine va_get (D := G) (ci := 7) (v := .int (x 6)) (C := RX9) (T := TX9) (N := 12) hx hb hts i_X9 hown hK hP 0 rfl rfl 6 (by decide) (hts (.fieldLink RX9 63 "RelayTuner$Text" "fullPower" "I") (by decide +kernel)) (fun _ h9 => h9) rfl dX9_putInto_38 ?_
  refine va_putN (D := G) (ci := 3) (v := .int (x 6)) (ty := .int) (C := RX3) (T := TX3) (N := 8) hx hb hts i_X3 tyX3 tyX3_ok nmX3 hown hK hP hD hS 2 rfl rfl 4 (by decide) (NN.f hN (a := RX9) (i := 66) (b := "RelayTuner$Plant") (n := "fullPower") (d := "I") (by decide +kernel)) (fun _ h9 => h9) rfl (by decide +kernel) rfl rfl (Nat.le_of_ble_eq_true rfl) dX9_putInto_41 (fun H locs hP hD hS => ?_)
  have hP : va_P G vwCl [kX9 h q x, kX7 k ua ub uc ud ue (z 0), kX3 ua va (upd (upd (upd (upd (z 1) 0 (x 3)) 1 (x 4)) 2 (x 5)) 4 (x 6)), kX1 ub (z 3)] H := hP
  have hD : va_D A [kX9 h q x, kX7 k ua ub uc ud ue (z 0), kX3 ua va (upd (upd (upd (upd (z 1) 0 (x 3)) 1 (x 4)) 2 (x 5)) 4 (x 6)), kX1 ub (z 3)] := hD
  refine lv_aload_n hx hb dX9_putInto_44 rfl (lv_at hl 0 rfl) ?_
  refine va_get (D := G) (ci := 7) (v := .int (x 10)) (C := RX9) (T := TX9) (N := 12) hx hb hts i_X9 hown hK hP 0 rfl rfl 10 (by decide) (hts (.fieldLink RX9 31 "RelayTuner$Text" "hasAmbient" "Z") (by decide +kernel)) (fun _ h9 => h9) rfl dX9_putInto_45 ?_
  have J62_3 : ∀ (v_2 : Nat → Int32) (e_v_2 : v_2 = (if (x 10) = 0 then (upd (upd (upd (upd (z 1) 0 (x 3)) 1 (x 4)) 2 (x 5)) 4 (x 6)) else (upd (upd (upd (upd (upd (z 1) 0 (x 3)) 1 (x 4)) 2 (x 5)) 4 (x 6)) 3 (x 11)))) (H : Heap) (locs : List Loc) (hP : va_P G vwCl [kX9 h q x, kX7 k ua ub uc ud ue (z 0), kX3 ua va v_2, kX1 ub (z 3)] H) (hD : va_D A [kX9 h q x, kX7 k ua ub uc ud ue (z 0), kX3 ua va v_2, kX1 ub (z 3)]) (hS : va_S A s.heap H locs) (ls : Array Slot) (hl : lv_has ls 2 [(0, .ref h), (1, .ref k)]), W p l e (headSpec wsX9_putInto rmX9_putInto).room s m ([.ref h, .ref k] : List Value).toArray below meth c H locs 0 0 QQ (F0 m 62 ls []) := by
    intro v_2 e_v_2 H locs hP hD hS ls hl
    refine lv_aload_n hx hb dX9_putInto_62 rfl (lv_at hl 1 rfl) ?_
    refine va_getN (D := G) (ci := 5) (v := .ref ua) (C := RX7) (T := TX7) (N := 6) hx hb hts i_X7 hown hK hP 1 rfl rfl 1 (by decide) (NN.f hN (a := RX9) (i := 43) (b := "RelayTuner$State") (n := "plant") (d := "LRelayTuner$Plant;") (by decide +kernel)) (fun _ h9 => h9) rfl dX9_putInto_63 ?_
    refine lv_aload_n hx hb dX9_putInto_66 rfl (lv_at hl 1 rfl) ?_
    refine va_getN (D := G) (ci := 5) (v := .ref ua) (C := RX7) (T := TX7) (N := 6) hx hb hts i_X7 hown hK hP 1 rfl rfl 1 (by decide) (NN.f hN (a := RX9) (i := 43) (b := "RelayTuner$State") (n := "plant") (d := "LRelayTuner$Plant;") (by decide +kernel)) (fun _ h9 => h9) rfl dX9_putInto_67 ?_
    refine va_getN (D := G) (ci := 3) (v := .int (v_2 3)) (C := RX3) (T := TX3) (N := 8) hx hb hts i_X3 hown hK hP 2 rfl rfl 3 (by decide) (NN.f hN (a := RX9) (i := 70) (b := "RelayTuner$Plant") (n := "ambient") (d := "I") (by decide +kernel)) (fun _ h9 => h9) rfl dX9_putInto_70 ?_
    refine va_putN (D := G) (ci := 3) (v := .int (v_2 3)) (ty := .int) (C := RX3) (T := TX3) (N := 8) hx hb hts i_X3 tyX3 tyX3_ok nmX3 hown hK hP hD hS 2 rfl rfl 5 (by decide) (NN.f hN (a := RX9) (i := 71) (b := "RelayTuner$Plant") (n := "temperature") (d := "I") (by decide +kernel)) (fun _ h9 => h9) rfl (by decide +kernel) rfl rfl (Nat.le_of_ble_eq_true rfl) dX9_putInto_73 (fun H locs hP hD hS => ?_)
    have hP : va_P G vwCl [kX9 h q x, kX7 k ua ub uc ud ue (z 0), kX3 ua va (upd v_2 5 (v_2 3)), kX1 ub (z 3)] H := hP
    have hD : va_D A [kX9 h q x, kX7 k ua ub uc ud ue (z 0), kX3 ua va (upd v_2 5 (v_2 3)), kX1 ub (z 3)] := hD
    refine lv_aload_n hx hb dX9_putInto_76 rfl (lv_at hl 0 rfl) ?_
    refine va_get (D := G) (ci := 7) (v := .int (x 7)) (C := RX9) (T := TX9) (N := 12) hx hb hts i_X9 hown hK hP 0 rfl rfl 7 (by decide) (hts (.fieldLink RX9 22 "RelayTuner$Text" "setPoint" "I") (by decide +kernel)) (fun _ h9 => h9) rfl dX9_putInto_77 ?_
    refine lv_iconst (v := (-1)) hx hb dX9_putInto_80 (by decide) ?_
    have J95_6 : ∀ (v_5 : Nat → Int32) (e_v_5 : v_5 = (if (x 7) = (-1) then (z 3) else (upd (z 3) 0 (x 7)))) (H : Heap) (locs : List Loc) (hP : va_P G vwCl [kX9 h q x, kX7 k ua ub uc ud ue (z 0), kX3 ua va (upd v_2 5 (v_2 3)), kX1 ub v_5] H) (hD : va_D A [kX9 h q x, kX7 k ua ub uc ud ue (z 0), kX3 ua va (upd v_2 5 (v_2 3)), kX1 ub v_5]) (hS : va_S A s.heap H locs) (ls : Array Slot) (hl : lv_has ls 2 [(0, .ref h), (1, .ref k)]), W p l e (headSpec wsX9_putInto rmX9_putInto).room s m ([.ref h, .ref k] : List Value).toArray below meth c H locs 0 0 QQ (F0 m 95 ls []) := by
      intro v_5 e_v_5 H locs hP hD hS ls hl
      refine lv_aload_n hx hb dX9_putInto_95 rfl (lv_at hl 0 rfl) ?_
      refine va_get (D := G) (ci := 7) (v := .int (x 8)) (C := RX9) (T := TX9) (N := 12) hx hb hts i_X9 hown hK hP 0 rfl rfl 8 (by decide) (hts (.fieldLink RX9 25 "RelayTuner$Text" "band" "I") (by decide +kernel)) (fun _ h9 => h9) rfl dX9_putInto_96 ?_
      refine lv_iconst (v := (-1)) hx hb dX9_putInto_99 (by decide) ?_
      have J114_9 : ∀ (v_8 : Nat → Int32) (e_v_8 : v_8 = (if (x 8) = (-1) then v_5 else (upd v_5 1 (x 8)))) (H : Heap) (locs : List Loc) (hP : va_P G vwCl [kX9 h q x, kX7 k ua ub uc ud ue (z 0), kX3 ua va (upd v_2 5 (v_2 3)), kX1 ub v_8] H) (hD : va_D A [kX9 h q x, kX7 k ua ub uc ud ue (z 0), kX3 ua va (upd v_2 5 (v_2 3)), kX1 ub v_8]) (hS : va_S A s.heap H locs) (ls : Array Slot) (hl : lv_has ls 2 [(0, .ref h), (1, .ref k)]), W p l e (headSpec wsX9_putInto rmX9_putInto).room s m ([.ref h, .ref k] : List Value).toArray below meth c H locs 0 0 QQ (F0 m 114 ls []) := by
        intro v_8 e_v_8 H locs hP hD hS ls hl
        refine lv_aload_n hx hb dX9_putInto_114 rfl (lv_at hl 0 rfl) ?_
        refine va_get (D := G) (ci := 7) (v := .int (x 9)) (C := RX9) (T := TX9) (N := 12) hx hb hts i_X9 hown hK hP 0 rfl rfl 9 (by decide) (hts (.fieldLink RX9 28 "RelayTuner$Text" "tolerance" "I") (by decide +kernel)) (fun _ h9 => h9) rfl dX9_putInto_115 ?_
        refine lv_iconst (v := (-1)) hx hb dX9_putInto_118 (by decide) ?_
        have J133_12 : ∀ (v_11 : Nat → Int32) (e_v_11 : v_11 = (if (x 9) = (-1) then v_8 else (upd v_8 2 (x 9)))) (H : Heap) (locs : List Loc) (hP : va_P G vwCl [kX9 h q x, kX7 k ua ub uc ud ue (z 0), kX3 ua va (upd v_2 5 (v_2 3)), kX1 ub v_11] H) (hD : va_D A [kX9 h q x, kX7 k ua ub uc ud ue (z 0), kX3 ua va (upd v_2 5 (v_2 3)), kX1 ub v_11]) (hS : va_S A s.heap H locs) (ls : Array Slot) (hl : lv_has ls 2 []), W p l e (headSpec wsX9_putInto rmX9_putInto).room s m ([.ref h, .ref k] : List Value).toArray below meth c H locs 0 0 QQ (F0 m 133 ls []) := by
          intro v_11 e_v_11 H locs hP hD hS ls hl
          rw [hQQ]
          exact W.vret hx hb hr (end_Hv () hP hD hS (congr (congr (congrArg (fun (z1 : Nat → Int32) (z2 : Nat → Int32) (z3 : Nat → Int32) => [kX9 h q x, kX7 k ua ub uc ud ue z1, kX3 ua va z2, kX1 ub z3]) rfl) (by subst e_v_11; subst e_v_8; subst e_v_5; subst e_v_2; unfold s_X9_putInto_z; exact rfl)) (by subst e_v_11; subst e_v_8; subst e_v_5; subst e_v_2; unfold s_X9_putInto_z; exact rfl))) hS.2.2 dX9_putInto_133
        refine lv_icmp_eq (tgt := 133) hx hb dX9_putInto_119 (by decide) (fun c_10 => ?_) (fun c_10 => ?_)
        · exact J133_12 _ (if_pos c_10).symm H locs hP hD hS ls (lv_sub hl [] rfl)
        · refine lv_aload_n hx hb dX9_putInto_122 rfl (lv_at hl 1 rfl) ?_
          refine va_getN (D := G) (ci := 5) (v := .ref ub) (C := RX7) (T := TX7) (N := 6) hx hb hts i_X7 hown hK hP 1 rfl rfl 2 (by decide) (NN.f hN (a := RX9) (i := 74) (b := "RelayTuner$State") (n := "control") (d := "LRelayTuner$Control;") (by decide +kernel)) (fun _ h9 => h9) rfl dX9_putInto_123 ?_
          refine lv_aload_n hx hb dX9_putInto_126 rfl (lv_at hl 0 rfl) ?_
          refine va_get (D := G) (ci := 7) (v := .int (x 9)) (C := RX9) (T := TX9) (N := 12) hx hb hts i_X9 hown hK hP 0 rfl rfl 9 (by decide) (hts (.fieldLink RX9 28 "RelayTuner$Text" "tolerance" "I") (by decide +kernel)) (fun _ h9 => h9) rfl dX9_putInto_127 ?_
          refine va_putN (D := G) (ci := 1) (v := .int (x 9)) (ty := .int) (C := RX1) (T := TX1) (N := 11) hx hb hts i_X1 tyX1 tyX1_ok nmX1 hown hK hP hD hS 3 rfl rfl 2 (by decide) (NN.f hN (a := RX9) (i := 82) (b := "RelayTuner$Control") (n := "tolerance") (d := "I") (by decide +kernel)) (fun _ h9 => h9) rfl (by decide +kernel) rfl rfl (Nat.le_of_ble_eq_true rfl) dX9_putInto_130 (fun H locs hP hD hS => ?_)
          have hP : va_P G vwCl [kX9 h q x, kX7 k ua ub uc ud ue (z 0), kX3 ua va (upd v_2 5 (v_2 3)), kX1 ub (upd v_8 2 (x 9))] H := hP
          have hD : va_D A [kX9 h q x, kX7 k ua ub uc ud ue (z 0), kX3 ua va (upd v_2 5 (v_2 3)), kX1 ub (upd v_8 2 (x 9))] := hD
          exact J133_12 _ (if_neg c_10).symm H locs hP hD hS ls (lv_sub hl [] rfl)
      refine lv_icmp_eq (tgt := 114) hx hb dX9_putInto_100 (by decide) (fun c_7 => ?_) (fun c_7 => ?_)
      · exact J114_9 _ (if_pos c_7).symm H locs hP hD hS ls (lv_sub hl [0, 1] rfl)
      · refine lv_aload_n hx hb dX9_putInto_103 rfl (lv_at hl 1 rfl) ?_
        refine va_getN (D := G) (ci := 5) (v := .ref ub) (C := RX7) (T := TX7) (N := 6) hx hb hts i_X7 hown hK hP 1 rfl rfl 2 (by decide) (NN.f hN (a := RX9) (i := 74) (b := "RelayTuner$State") (n := "control") (d := "LRelayTuner$Control;") (by decide +kernel)) (fun _ h9 => h9) rfl dX9_putInto_104 ?_
        refine lv_aload_n hx hb dX9_putInto_107 rfl (lv_at hl 0 rfl) ?_
        refine va_get (D := G) (ci := 7) (v := .int (x 8)) (C := RX9) (T := TX9) (N := 12) hx hb hts i_X9 hown hK hP 0 rfl rfl 8 (by decide) (hts (.fieldLink RX9 25 "RelayTuner$Text" "band" "I") (by decide +kernel)) (fun _ h9 => h9) rfl dX9_putInto_108 ?_
        refine va_putN (D := G) (ci := 1) (v := .int (x 8)) (ty := .int) (C := RX1) (T := TX1) (N := 11) hx hb hts i_X1 tyX1 tyX1_ok nmX1 hown hK hP hD hS 3 rfl rfl 1 (by decide) (NN.f hN (a := RX9) (i := 81) (b := "RelayTuner$Control") (n := "band") (d := "I") (by decide +kernel)) (fun _ h9 => h9) rfl (by decide +kernel) rfl rfl (Nat.le_of_ble_eq_true rfl) dX9_putInto_111 (fun H locs hP hD hS => ?_)
        have hP : va_P G vwCl [kX9 h q x, kX7 k ua ub uc ud ue (z 0), kX3 ua va (upd v_2 5 (v_2 3)), kX1 ub (upd v_5 1 (x 8))] H := hP
        have hD : va_D A [kX9 h q x, kX7 k ua ub uc ud ue (z 0), kX3 ua va (upd v_2 5 (v_2 3)), kX1 ub (upd v_5 1 (x 8))] := hD
        exact J114_9 _ (if_neg c_7).symm H locs hP hD hS ls (lv_sub hl [0, 1] rfl)
    refine lv_icmp_eq (tgt := 95) hx hb dX9_putInto_81 (by decide) (fun c_4 => ?_) (fun c_4 => ?_)
    · exact J95_6 _ (if_pos c_4).symm H locs hP hD hS ls (lv_sub hl [0, 1] rfl)
    · refine lv_aload_n hx hb dX9_putInto_84 rfl (lv_at hl 1 rfl) ?_
      refine va_getN (D := G) (ci := 5) (v := .ref ub) (C := RX7) (T := TX7) (N := 6) hx hb hts i_X7 hown hK hP 1 rfl rfl 2 (by decide) (NN.f hN (a := RX9) (i := 74) (b := "RelayTuner$State") (n := "control") (d := "LRelayTuner$Control;") (by decide +kernel)) (fun _ h9 => h9) rfl dX9_putInto_85 ?_
      refine lv_aload_n hx hb dX9_putInto_88 rfl (lv_at hl 0 rfl) ?_
      refine va_get (D := G) (ci := 7) (v := .int (x 7)) (C := RX9) (T := TX9) (N := 12) hx hb hts i_X9 hown hK hP 0 rfl rfl 7 (by decide) (hts (.fieldLink RX9 22 "RelayTuner$Text" "setPoint" "I") (by decide +kernel)) (fun _ h9 => h9) rfl dX9_putInto_89 ?_
      refine va_putN (D := G) (ci := 1) (v := .int (x 7)) (ty := .int) (C := RX1) (T := TX1) (N := 11) hx hb hts i_X1 tyX1 tyX1_ok nmX1 hown hK hP hD hS 3 rfl rfl 0 (by decide) (NN.f hN (a := RX9) (i := 78) (b := "RelayTuner$Control") (n := "setPoint") (d := "I") (by decide +kernel)) (fun _ h9 => h9) rfl (by decide +kernel) rfl rfl (Nat.le_of_ble_eq_true rfl) dX9_putInto_92 (fun H locs hP hD hS => ?_)
      have hP : va_P G vwCl [kX9 h q x, kX7 k ua ub uc ud ue (z 0), kX3 ua va (upd v_2 5 (v_2 3)), kX1 ub (upd (z 3) 0 (x 7))] H := hP
      have hD : va_D A [kX9 h q x, kX7 k ua ub uc ud ue (z 0), kX3 ua va (upd v_2 5 (v_2 3)), kX1 ub (upd (z 3) 0 (x 7))] := hD
      exact J95_6 _ (if_neg c_4).symm H locs hP hD hS ls (lv_sub hl [0, 1] rfl)
  refine lv_if_eq (tgt := 62) hx hb dX9_putInto_48 (by decide) (fun c_1 => ?_) (fun c_1 => ?_)
  · exact J62_3 _ (if_pos c_1).symm H locs hP hD hS ls (lv_sub hl [0, 1] rfl)
  · refine lv_aload_n hx hb dX9_putInto_51 rfl (lv_at hl 1 rfl) ?_
    refine va_getN (D := G) (ci := 5) (v := .ref ua) (C := RX7) (T := TX7) (N := 6) hx hb hts i_X7 hown hK hP 1 rfl rfl 1 (by decide) (NN.f hN (a := RX9) (i := 43) (b := "RelayTuner$State") (n := "plant") (d := "LRelayTuner$Plant;") (by decide +kernel)) (fun _ h9 => h9) rfl dX9_putInto_52 ?_
    refine lv_aload_n hx hb dX9_putInto_55 rfl (lv_at hl 0 rfl) ?_
    refine va_get (D := G) (ci := 7) (v := .int (x 11)) (C := RX9) (T := TX9) (N := 12) hx hb hts i_X9 hown hK hP 0 rfl rfl 11 (by decide) (hts (.fieldLink RX9 67 "RelayTuner$Text" "ambient" "I") (by decide +kernel)) (fun _ h9 => h9) rfl dX9_putInto_56 ?_
    refine va_putN (D := G) (ci := 3) (v := .int (x 11)) (ty := .int) (C := RX3) (T := TX3) (N := 8) hx hb hts i_X3 tyX3 tyX3_ok nmX3 hown hK hP hD hS 2 rfl rfl 3 (by decide) (NN.f hN (a := RX9) (i := 70) (b := "RelayTuner$Plant") (n := "ambient") (d := "I") (by decide +kernel)) (fun _ h9 => h9) rfl (by decide +kernel) rfl rfl (Nat.le_of_ble_eq_true rfl) dX9_putInto_59 (fun H locs hP hD hS => ?_)
    have hP : va_P G vwCl [kX9 h q x, kX7 k ua ub uc ud ue (z 0), kX3 ua va (upd (upd (upd (upd (upd (z 1) 0 (x 3)) 1 (x 4)) 2 (x 5)) 4 (x 6)) 3 (x 11)), kX1 ub (z 3)] H := hP
    have hD : va_D A [kX9 h q x, kX7 k ua ub uc ud ue (z 0), kX3 ua va (upd (upd (upd (upd (upd (z 1) 0 (x 3)) 1 (x 4)) 2 (x 5)) 4 (x 6)) 3 (x 11)), kX1 ub (z 3)] := hD
    exact J62_3 _ (if_neg c_1).symm H locs hP hD hS ls (lv_sub hl [0, 1] rfl)

/-- what is left of a script without its last k groups -/
def bhS (x : Int64) : Nat → Int64
  | 0 => x
  | k + 1 => bhS x k / 100000

abbrev rmX5_behind : Room := ({ frames := 0, cells := 0, slots := 0, locals := 0 } : Room)
set_option maxHeartbeats 4000000 in
set_option maxRecDepth 100000 in
theorem c_X5_behind (l : Launch) (G : va_G) (y : Nat → ClassId) (a1 : Int64) (a2 : Int32) (ha : vp_in a2 4) : Met l yX5_behind wsX5_behind rmX5_behind (PR G y [.long a1, .int a2] []) (QRl (bhS a1 (tn a2))) 0 0 (fun _ => False) := by
  refine Met.ofW (cc := cX5_behind) (maxL := 6) (ret := (some .long)) (by decide) rfl ?_
  intro p e s m args below meth c s₁ B hml hv
  obtain ⟨rfl, hP, hK, hN⟩ := hv
  have hx := B.exec
  have hb := B.bytes
  have hr := B.returns
  have hts := atoms_spec (ws := wsX5_behind) B.pre
  have hown : s.vm.findClass RX5 = some m.cls := findClass_of_methodNamed B.named
  have hlocks := B.notSynchronized
  obtain ⟨ha1, ha2⟩ := in_tn ha (by decide)
  have hl := lv_entry ([.long a1, .int a2]) (n := 6) (Nat.le_of_ble_eq_true rfl)
  rw [lg_entry_eq]
  generalize (lg_sl ([.long a1, .int a2]) ++ List.replicate (6 - (lg_sl ([.long a1, .int a2])).length) Slot.unset).toArray = ls at hl ⊢
  have hl : lv_has ls 6 [(0, .long a1), (2, .int a2)] := hl
  obtain ⟨QQ, hQQ⟩ : ∃ zq9, zq9 = MQ below (QRl (bhS a1 (tn a2))) ([.long a1, .int a2] : List Value).toArray s 0 0 (fun _ => False) := ⟨_, rfl⟩
  rw [← hQQ]
  refine lv_lload_n hx hb dX5_behind_0 rfl (lv_at hl 0 rfl) ?_
  refine lv_lstore_n (lv' := [(3, .long a1), (0, .long a1), (2, .int a2)]) hx hb dX5_behind_1 rfl hl (by decide) rfl (fun ls hl => ?_)
  refine lv_iconst (v := 0) hx hb dX5_behind_2 (by decide) ?_
  refine lv_istore (lv' := [(5, .int 0), (3, .long a1), (0, .long a1), (2, .int a2)]) hx hb dX5_behind_3 hl (by decide) rfl (fun ls hl => ?_)
  have LOOP5_1 : ∀ (n_2 : Nat) (k0 : Nat) (x3 : Int64) (x5 : Int32) (hx3 : x3 = bhS a1 k0) (hx5 : x5 = nI k0) (hk : k0 ≤ tn a2) (hn_4 : tn a2 - k0 < n_2) (ls : Array Slot) (hl : lv_has ls 6 [(5, .int x5), (3, .long x3), (2, .int a2)]), W p l e (headSpec wsX5_behind rmX5_behind).room s m ([.long a1, .int a2] : List Value).toArray below meth c s.heap [] 0 0 QQ (F0 m 5 ls []) := by
    intro n_2
    induction n_2 with
    | zero => intro k0 x3 x5 hx3 hx5 hk hn_4 ls hl; exact absurd hn_4 (Nat.not_lt_zero _)
    | succ n_2 ih_3 =>
      intro k0 x3 x5 hx3 hx5 hk hn_4 ls hl
      refine lv_iload hx hb dX5_behind_5 (lv_at hl 0 rfl) ?_
      refine lv_iload_n hx hb dX5_behind_7 rfl (lv_at hl 2 rfl) ?_
      refine lv_icmp_ge (tgt := 23) hx hb dX5_behind_8 (by decide) (fun c_5 => ?_) (fun c_5 => ?_)
      · have hk9 : k0 = tn a2 := by have := kge hx5 ha1 (by omega) (by omega) c_5; omega
        refine lv_lload_n hx hb dX5_behind_23 rfl (lv_at hl 1 rfl) ?_
        rw [hQQ]
        exact W.lret hx hb hr (end_Rl (by rw [hx3, hk9])) (fun _ h => nomatch h) dX5_behind_24
      · have hk9 : k0 < tn a2 := klt hx5 ha1 (by omega) (by omega) c_5
        refine lv_lload_n hx hb dX5_behind_11 rfl (lv_at hl 1 rfl) ?_
        refine lv_ldc2 (v := 100000) hx hb hown (hts (.constantLong RX5 9 100000) (by decide +kernel)) dX5_behind_12 ?_
        refine lv_ldiv hx hb dX5_behind_15 (by decide) ?_
        refine lv_lstore_n (lv' := [(3, .long (x3 / 100000)), (5, .int x5), (2, .int a2)]) hx hb dX5_behind_16 rfl hl (by decide) rfl (fun ls hl => ?_)
        refine lv_iinc (v := (x5 + 1)) (lv' := [(5, .int (x5 + 1)), (3, .long (x3 / 100000)), (2, .int a2)]) hx hb dX5_behind_17 hl (k := 1) rfl (by first | rfl | decide) (by decide) rfl (fun ls hl => ?_)
        refine lv_goto (tgt := 5) hx hb dX5_behind_20 (by decide) ?_
        exact ih_3 (k0 + 1) (x3 / 100000) (x5 + 1) (by rw [hx3]; rfl) (by rw [hx5]; exact nI_1 k0) (by omega) (by omega) ls (lv_sub hl [0, 1, 2] rfl)
  exact LOOP5_1 (tn a2 - 0 + 1) 0 a1 0 rfl rfl (by omega) (Nat.lt_succ_self _) ls (lv_sub hl [0, 1, 3] rfl)

def s_X5_hasSign_r (a1 : Int32) : Int32 := (let v_2 : Int32 := (if 1 < (a1 / 1000) then 0 else 1); v_2)
theorem z_X5_hasSign (a1 : Int32) : s_X5_hasSign_r a1 = 0 ∨ s_X5_hasSign_r a1 = 1 := by unfold s_X5_hasSign_r; (try dsimp only); exact (z_ite (Or.inl rfl) (Or.inr rfl))
abbrev rmX5_hasSign : Room := ({ frames := 0, cells := 0, slots := 0, locals := 0 } : Room)
set_option maxHeartbeats 4000000 in
set_option maxRecDepth 100000 in
theorem c_X5_hasSign (l : Launch) (G : va_G) (y : Nat → ClassId) (a1 : Int32) : Met l yX5_hasSign wsX5_hasSign rmX5_hasSign (PR G y [.int a1] []) (QRi (s_X5_hasSign_r a1)) 0 0 (fun _ => False) := by
  refine Met.ofW (cc := cX5_hasSign) (maxL := 1) (ret := (some .boolean)) (by decide) rfl ?_
  intro p e s m args below meth c s₁ B hml hv
  obtain ⟨rfl, hP, hK, hN⟩ := hv
  have hx := B.exec
  have hb := B.bytes
  have hr := B.returns
  have hts := atoms_spec (ws := wsX5_hasSign) B.pre
  have hown : s.vm.findClass RX5 = some m.cls := findClass_of_methodNamed B.named
  have hlocks := B.notSynchronized
  have hl := lv_entry ([.int a1]) (n := 1) (Nat.le_of_ble_eq_true rfl)
  rw [lg_entry_eq]
  generalize (lg_sl ([.int a1]) ++ List.replicate (1 - (lg_sl ([.int a1])).length) Slot.unset).toArray = ls at hl ⊢
  have hl : lv_has ls 1 [(0, .int a1)] := hl
  obtain ⟨QQ, hQQ⟩ : ∃ zq9, zq9 = MQ below (QRi (s_X5_hasSign_r a1)) ([.int a1] : List Value).toArray s 0 0 (fun _ => False) := ⟨_, rfl⟩
  rw [← hQQ]
  refine lv_iload_n hx hb dX5_hasSign_0 rfl (lv_at hl 0 rfl) ?_
  refine lv_sipush (v := 1000) hx hb dX5_hasSign_1 (by decide) ?_
  refine lv_idiv hx hb dX5_hasSign_4 (by decide) ?_
  refine lv_iconst (v := 1) hx hb dX5_hasSign_5 (by decide) ?_
  have J14_4 : ∀ (v_2 : Int32) (e_v_2 : v_2 = (if 1 < (a1 / 1000) then 0 else 1)) (z_3 : v_2 = 0 ∨ v_2 = 1) (ls : Array Slot) (hl : lv_has ls 1 []), W p l e (headSpec wsX5_hasSign rmX5_hasSign).room s m ([.int a1] : List Value).toArray below meth c s.heap [] 0 0 QQ (F0 m 14 ls [.int v_2]) := by
    intro v_2 e_v_2 z_3 ls hl
    rw [hQQ]
    exact W.zret hx hb hr (nz_bool z_3) (end_Ri (by subst e_v_2; unfold s_X5_hasSign_r; exact rfl)) (fun _ h => nomatch h) dX5_hasSign_14
  refine lv_icmp_gt (tgt := 13) hx hb dX5_hasSign_6 (by decide) (fun c_1 => ?_) (fun c_1 => ?_)
  · refine lv_iconst (v := 0) hx hb dX5_hasSign_13 (by decide) ?_
    exact J14_4 _ (if_pos c_1).symm (Or.inl rfl) ls (lv_sub hl [] rfl)
  · refine lv_iconst (v := 1) hx hb dX5_hasSign_9 (by decide) ?_
    refine lv_goto (tgt := 14) hx hb dX5_hasSign_10 (by decide) ?_
    exact J14_4 _ (if_neg c_1).symm (Or.inr rfl) ls (lv_sub hl [] rfl)

def s_X5_signed_r (a1 : Int32) : Int32 := (let v_2 : Int32 := (if (a1 / 1000) = 1 then (-(a1 - a1 / 1000 * 1000)) else (a1 - a1 / 1000 * 1000)); v_2)
abbrev rmX5_signed : Room := ({ frames := 0, cells := 0, slots := 0, locals := 0 } : Room)
set_option maxHeartbeats 4000000 in
set_option maxRecDepth 100000 in
theorem c_X5_signed (l : Launch) (G : va_G) (y : Nat → ClassId) (a1 : Int32) : Met l yX5_signed wsX5_signed rmX5_signed (PR G y [.int a1] []) (QRi (s_X5_signed_r a1)) 0 0 (fun _ => False) := by
  refine Met.ofW (cc := cX5_signed) (maxL := 2) (ret := (some .int)) (by decide) rfl ?_
  intro p e s m args below meth c s₁ B hml hv
  obtain ⟨rfl, hP, hK, hN⟩ := hv
  have hx := B.exec
  have hb := B.bytes
  have hr := B.returns
  have hts := atoms_spec (ws := wsX5_signed) B.pre
  have hown : s.vm.findClass RX5 = some m.cls := findClass_of_methodNamed B.named
  have hlocks := B.notSynchronized
  have hl := lv_entry ([.int a1]) (n := 2) (Nat.le_of_ble_eq_true rfl)
  rw [lg_entry_eq]
  generalize (lg_sl ([.int a1]) ++ List.replicate (2 - (lg_sl ([.int a1])).length) Slot.unset).toArray = ls at hl ⊢
  have hl : lv_has ls 2 [(0, .int a1)] := hl
  obtain ⟨QQ, hQQ⟩ : ∃ zq9, zq9 = MQ below (QRi (s_X5_signed_r a1)) ([.int a1] : List Value).toArray s 0 0 (fun _ => False) := ⟨_, rfl⟩
  rw [← hQQ]
  refine lv_iload_n hx hb dX5_signed_0 rfl (lv_at hl 0 rfl) ?_
  refine lv_sipush (v := 1000) hx hb dX5_signed_1 (by decide) ?_
  refine lv_irem hx hb dX5_signed_4 (by decide) ?_
  refine lv_istore_n (lv' := [(1, .int (a1 - a1 / 1000 * 1000)), (0, .int a1)]) hx hb dX5_signed_5 rfl hl (by decide) rfl (fun ls hl => ?_)
  refine lv_iload_n hx hb dX5_signed_6 rfl (lv_at hl 1 rfl) ?_
  refine lv_sipush (v := 1000) hx hb dX5_signed_7 (by decide) ?_
  refine lv_idiv hx hb dX5_signed_10 (by decide) ?_
  refine lv_iconst (v := 1) hx hb dX5_signed_11 (by decide) ?_
  have J21_3 : ∀ (v_2 : Int32) (e_v_2 : v_2 = (if (a1 / 1000) = 1 then (-(a1 - a1 / 1000 * 1000)) else (a1 - a1 / 1000 * 1000))) (ls : Array Slot) (hl : lv_has ls 2 []), W p l e (headSpec wsX5_signed rmX5_signed).room s m ([.int a1] : List Value).toArray below meth c s.heap [] 0 0 QQ (F0 m 21 ls [.int v_2]) := by
    intro v_2 e_v_2 ls hl
    rw [hQQ]
    exact W.iret hx hb hr (end_Ri (by subst e_v_2; unfold s_X5_signed_r; exact rfl)) (fun _ h => nomatch h) dX5_signed_21
  refine lv_icmp_ne (tgt := 20) hx hb dX5_signed_12 (by decide) (fun c_1 => ?_) (fun c_1 => ?_)
  · refine lv_iload_n hx hb dX5_signed_20 rfl (lv_at hl 0 rfl) ?_
    exact J21_3 _ (if_neg c_1).symm ls (lv_sub hl [] rfl)
  · refine lv_iload_n hx hb dX5_signed_15 rfl (lv_at hl 0 rfl) ?_
    refine lv_ineg hx hb dX5_signed_16 ?_
    refine lv_goto (tgt := 21) hx hb dX5_signed_17 (by decide) ?_
    exact J21_3 _ (if_pos c_1).symm ls (lv_sub hl [] rfl)

def s_X5_succeeds_z (a1 : Int32) (z : Nat → Nat → Int32) : Nat → Nat → Int32 := (if (a1 / 10000) = 1 then s_X7_pass_z (a1 - a1 / 10000 * 10000) z else (if (a1 / 10000) = 2 then s_X7_changeMode_z (a1 - a1 / 10000 * 10000) z else (if (a1 / 10000) = 3 then (if (s_X5_hasSign_r (a1 - a1 / 10000 * 10000)) = 0 then z else s_X7_push_z (s_X5_signed_r (a1 - a1 / 10000 * 10000)) z) else (if (a1 / 10000) = 4 then s_X7_put_z ((a1 - a1 / 10000 * 10000) / 1000) ((a1 - a1 / 10000 * 10000) - (a1 - a1 / 10000 * 10000) / 1000 * 1000) z else (if (a1 / 10000) = 5 then s_X7_beginTrial_z (a1 - a1 / 10000 * 10000) z else (if (a1 / 10000) = 6 then (if (a1 - a1 / 10000 * 10000) = 0 then s_X7_endTrial_z z else z) else z))))))
def s_X5_succeeds_r (a1 : Int32) (z : Nat → Nat → Int32) : Int32 := (if (a1 / 10000) = 1 then (s_X7_pass_r (a1 - a1 / 10000 * 10000)) else (if (a1 / 10000) = 2 then (s_X7_changeMode_r (a1 - a1 / 10000 * 10000)) else (if (a1 / 10000) = 3 then (if (s_X5_hasSign_r (a1 - a1 / 10000 * 10000)) = 0 then 0 else (if (s_X7_push_r (s_X5_signed_r (a1 - a1 / 10000 * 10000))) = 0 then 0 else 1)) else (if (a1 / 10000) = 4 then (s_X7_put_r ((a1 - a1 / 10000 * 10000) / 1000) ((a1 - a1 / 10000 * 10000) - (a1 - a1 / 10000 * 10000) / 1000 * 1000)) else (if (a1 / 10000) = 5 then (s_X7_beginTrial_r (a1 - a1 / 10000 * 10000) z) else (if (a1 / 10000) = 6 then (if (a1 - a1 / 10000 * 10000) = 0 then (if (s_X7_endTrial_r z) = 0 then 0 else 1) else 0) else (if (a1 / 10000) = 7 then (if (s_X5_hasSign_r (a1 - a1 / 10000 * 10000)) = 0 then 0 else (if ((z 1) 5) < (s_X5_signed_r (a1 - a1 / 10000 * 10000)) then 0 else 1)) else (if (a1 / 10000) = 8 then (if 99 < (a1 - a1 / 10000 * 10000) then 0 else (if (s_X7_goodCount_r z) < (a1 - a1 / 10000 * 10000) then 0 else 1)) else (if (a1 / 10000) = 9 then (if 9 < (a1 - a1 / 10000 * 10000) then 0 else (if ((z 9) 0) = (a1 - a1 / 10000 * 10000) then 1 else 0)) else 0)))))))))
theorem z_X5_succeeds (a1 : Int32) (z : Nat → Nat → Int32) : s_X5_succeeds_r a1 z = 0 ∨ s_X5_succeeds_r a1 z = 1 := by unfold s_X5_succeeds_r; (try dsimp only); exact (z_ite (z_X7_pass _) (z_ite (z_X7_changeMode _) (z_ite (z_ite (Or.inl rfl) (z_ite (Or.inl rfl) (Or.inr rfl))) (z_ite (z_X7_put _ _) (z_ite (z_X7_beginTrial _ _) (z_ite (z_ite (z_ite (Or.inl rfl) (Or.inr rfl)) (Or.inl rfl)) (z_ite (z_ite (Or.inl rfl) (z_ite (Or.inl rfl) (Or.inr rfl))) (z_ite (z_ite (Or.inl rfl) (z_ite (Or.inl rfl) (Or.inr rfl))) (z_ite (z_ite (Or.inl rfl) (z_ite (Or.inr rfl) (Or.inl rfl))) (Or.inl rfl))))))))))
abbrev rmX5_succeeds : Room := ({ frames := 6, cells := 0, slots := 0, locals := 143 } : Room)
set_option maxHeartbeats 4000000 in
set_option maxRecDepth 100000 in
theorem c_X5_succeeds (l : Launch) (G : va_G) (y : Nat → ClassId) (h : Nat) (a1 : Int32) (ua : Nat) (ub : Nat) (uc : Nat) (ud : Nat) (ue : Nat) (z : Nat → Nat → Int32) (va : Nat) (vc1 : Nat) (vc2 : Nat) (vc3 : Nat) (vc4 : Nat) (vc5 : Nat) (o : Nat → Int32) (vd : Nat) (ve : Nat) (sz : Nat) (hTC : TC z) : Met l yX5_succeeds wsX5_succeeds rmX5_succeeds (PH G y [.ref h, .int a1] [kX7 h ua ub uc ud ue (z 0), kX3 ua va (z 1), aI y va 10 (z 2), kX1 ub (z 3), kX8 uc vc1 vc2 vc3 vc4 vc5 (z 4), aI y vc1 20 (z 5), aI y vc2 20 (z 6), aI y vc3 20 (z 7), aI y vc4 20 (z 8), aI y vc5 20 o, kX10 ud vd (z 9), aI y vd 32 (z 10), kX0 ue ve (z 11), aI y ve 3 (z 12)] sz) (QHi G (s_X5_succeeds_r a1 z) (fun u : (Nat → Int32) => [kX7 h ua ub uc ud ue (s_X5_succeeds_z a1 z 0), kX3 ua va (s_X5_succeeds_z a1 z 1), aI y va 10 (s_X5_succeeds_z a1 z 2), kX1 ub (s_X5_succeeds_z a1 z 3), kX8 uc vc1 vc2 vc3 vc4 vc5 (s_X5_succeeds_z a1 z 4), aI y vc1 20 (s_X5_succeeds_z a1 z 5), aI y vc2 20 (s_X5_succeeds_z a1 z 6), aI y vc3 20 (s_X5_succeeds_z a1 z 7), aI y vc4 20 (s_X5_succeeds_z a1 z 8), aI y vc5 20 u, kX10 ud vd (s_X5_succeeds_z a1 z 9), aI y vd 32 (s_X5_succeeds_z a1 z 10), kX0 ue ve (s_X5_succeeds_z a1 z 11), aI y ve 3 (s_X5_succeeds_z a1 z 12)]) (va_A [kX7 h ua ub uc ud ue (z 0), kX3 ua va (z 1), aI y va 10 (z 2), kX1 ub (z 3), kX8 uc vc1 vc2 vc3 vc4 vc5 (z 4), aI y vc1 20 (z 5), aI y vc2 20 (z 6), aI y vc3 20 (z 7), aI y vc4 20 (z 8), aI y vc5 20 o, kX10 ud vd (z 9), aI y vd 32 (z 10), kX0 ue ve (z 11), aI y ve 3 (z 12)] sz)) 0 0 (va_A [kX7 h ua ub uc ud ue (z 0), kX3 ua va (z 1), aI y va 10 (z 2), kX1 ub (z 3), kX8 uc vc1 vc2 vc3 vc4 vc5 (z 4), aI y vc1 20 (z 5), aI y vc2 20 (z 6), aI y vc3 20 (z 7), aI y vc4 20 (z 8), aI y vc5 20 o, kX10 ud vd (z 9), aI y vd 32 (z 10), kX0 ue ve (z 11), aI y ve 3 (z 12)] sz) := by
  refine Met.ofW (cc := cX5_succeeds) (maxL := 4) (ret := (some .boolean)) (by decide) rfl ?_
  intro p e s m args below meth c s₁ B hml hv
  obtain ⟨rfl, hsz, hP, ⟨hK, hN⟩, hD0⟩ := hv
  have hx := B.exec
  have hb := B.bytes
  have hr := B.returns
  have hts := atoms_spec (ws := wsX5_succeeds) B.pre
  have hown : s.vm.findClass RX5 = some m.cls := findClass_of_methodNamed B.named
  have hlocks := B.notSynchronized
  have i_X10 : ∀ w ∈ u_ws RX10 TX10 2, w ∈ wsX5_succeeds := by decide +kernel
  have i_X3 : ∀ w ∈ u_ws RX3 TX3 8, w ∈ wsX5_succeeds := by decide +kernel
  have i_X7 : ∀ w ∈ u_ws RX7 TX7 6, w ∈ wsX5_succeeds := by decide +kernel
  subst hsz
  have hD := hD0.self (sz := s.heap.size)
  generalize hAe : va_A [kX7 h ua ub uc ud ue (z 0), kX3 ua va (z 1), aI y va 10 (z 2), kX1 ub (z 3), kX8 uc vc1 vc2 vc3 vc4 vc5 (z 4), aI y vc1 20 (z 5), aI y vc2 20 (z 6), aI y vc3 20 (z 7), aI y vc4 20 (z 8), aI y vc5 20 o, kX10 ud vd (z 9), aI y vd 32 (z 10), kX0 ue ve (z 11), aI y ve 3 (z 12)] s.heap.size = A at hD ⊢
  have hA : ∀ q : Nat, s.heap.size ≤ q → A q := fun q h => by rw [← hAe]; exact Or.inr h
  have hS : va_S A s.heap s.heap [] := va_S.rf
  have hP : va_P G vwCl [kX7 h ua ub uc ud ue (z 0), kX3 ua va (z 1), aI y va 10 (z 2), kX1 ub (z 3), kX8 uc vc1 vc2 vc3 vc4 vc5 (z 4), aI y vc1 20 (z 5), aI y vc2 20 (z 6), aI y vc3 20 (z 7), aI y vc4 20 (z 8), aI y vc5 20 o, kX10 ud vd (z 9), aI y vd 32 (z 10), kX0 ue ve (z 11), aI y ve 3 (z 12)] s.heap := hP
  have hl := lv_entry ([.ref h, .int a1]) (n := 4) (Nat.le_of_ble_eq_true rfl)
  rw [lg_entry_eq]
  generalize (lg_sl ([.ref h, .int a1]) ++ List.replicate (4 - (lg_sl ([.ref h, .int a1])).length) Slot.unset).toArray = ls at hl ⊢
  have hl : lv_has ls 4 [(0, .ref h), (1, .int a1)] := hl
  refine lv_iload_n hx hb dX5_succeeds_0 rfl (lv_at hl 1 rfl) ?_
  refine lv_sipush (v := 10000) hx hb dX5_succeeds_1 (by decide) ?_
  refine lv_idiv hx hb dX5_succeeds_4 (by decide) ?_
  refine lv_istore_n (lv' := [(2, .int (a1 / 10000)), (0, .ref h), (1, .int a1)]) hx hb dX5_succeeds_5 rfl hl (by decide) rfl (fun ls hl => ?_)
  refine lv_iload_n hx hb dX5_succeeds_6 rfl (lv_at hl 2 rfl) ?_
  refine lv_sipush (v := 10000) hx hb dX5_succeeds_7 (by decide) ?_
  refine lv_irem hx hb dX5_succeeds_10 (by decide) ?_
  refine lv_istore_n (lv' := [(3, .int (a1 - a1 / 10000 * 10000)), (2, .int (a1 / 10000)), (0, .ref h), (1, .int a1)]) hx hb dX5_succeeds_11 rfl hl (by decide) rfl (fun ls hl => ?_)
  refine lv_iload_n hx hb dX5_succeeds_12 rfl (lv_at hl 1 rfl) ?_
  rcases Decidable.em ((a1 / 10000) = 1) with c_1 | c_1
  · refine lv_tableIn (tgt := 64) hx hb dX5_succeeds_13 (by rw [c_1]; decide) (by rw [c_1]; decide) (by rw [c_1]; first | done | rfl) (by decide) ?_
    refine lv_aload_n hx hb dX5_succeeds_64 rfl (lv_at hl 2 rfl) ?_
    refine lv_iload_n hx hb dX5_succeeds_65 rfl (lv_at hl 0 rfl) ?_
    refine cl_Hi (wr := []) (fun u : (Nat → Int32) => [kX7 h ua ub uc ud ue (s_X7_pass_z (a1 - a1 / 10000 * 10000) z 0), kX3 ua va (s_X7_pass_z (a1 - a1 / 10000 * 10000) z 1), aI y va 10 (s_X7_pass_z (a1 - a1 / 10000 * 10000) z 2), kX1 ub (s_X7_pass_z (a1 - a1 / 10000 * 10000) z 3), kX8 uc vc1 vc2 vc3 vc4 vc5 (s_X7_pass_z (a1 - a1 / 10000 * 10000) z 4), aI y vc1 20 (s_X7_pass_z (a1 - a1 / 10000 * 10000) z 5), aI y vc2 20 (s_X7_pass_z (a1 - a1 / 10000 * 10000) z 6), aI y vc3 20 (s_X7_pass_z (a1 - a1 / 10000 * 10000) z 7), aI y vc4 20 (s_X7_pass_z (a1 - a1 / 10000 * 10000) z 8), aI y vc5 20 u, kX10 ud vd (s_X7_pass_z (a1 - a1 / 10000 * 10000) z 9), aI y vd 32 (s_X7_pass_z (a1 - a1 / 10000 * 10000) z 10), kX0 ue ve (s_X7_pass_z (a1 - a1 / 10000 * 10000) z 11), aI y ve 3 (s_X7_pass_z (a1 - a1 / 10000 * 10000) z 12)]) [0, 1, 2, 3, 4, 5, 6, 7, 8, 9, 10, 11, 12, 13] [] [0, 1, 2, 3, 4, 5, 6, 7, 8, 9, 10, 11, 12, 13] (va_runV (As := [.int (a1 - a1 / 10000 * 10000)]) (rest := []) ⟨hx, hb, hml, hown, hts⟩ (c_X7_pass l G y h (a1 - a1 / 10000 * 10000) ua ub uc ud ue z va vc1 vc2 vc3 vc4 vc5 o vd ve s.heap.size hTC) (cwV 1 hts gX5_succeeds_X7_pass rfl rfl rfl (by decide +kernel) ⟨Nat.le_of_ble_eq_true rfl, Nat.le_of_ble_eq_true rfl⟩) (PH_V (hP.sub (ws' := [kX7 h ua ub uc ud ue (z 0), kX3 ua va (z 1), aI y va 10 (z 2), kX1 ub (z 3), kX8 uc vc1 vc2 vc3 vc4 vc5 (z 4), aI y vc1 20 (z 5), aI y vc2 20 (z 6), aI y vc3 20 (z 7), aI y vc4 20 (z 8), aI y vc5 20 o, kX10 ud vd (z 9), aI y vd 32 (z 10), kX0 ue ve (z 11), aI y ve 3 (z 12)]) [0, 1, 2, 3, 4, 5, 6, 7, 8, 9, 10, 11, 12, 13] rfl) hK hN (hD.sub (ws' := [kX7 h ua ub uc ud ue (z 0), kX3 ua va (z 1), aI y va 10 (z 2), kX1 ub (z 3), kX8 uc vc1 vc2 vc3 vc4 vc5 (z 4), aI y vc1 20 (z 5), aI y vc2 20 (z 6), aI y vc3 20 (z 7), aI y vc4 20 (z 8), aI y vc5 20 o, kX10 ud vd (z 9), aI y vd 32 (z 10), kX0 ue ve (z 11), aI y ve 3 (z 12)]) [0, 1, 2, 3, 4, 5, 6, 7, 8, 9, 10, 11, 12, 13] (by decide) rfl) (ci := 5) (q0 := 0) rfl rfl) rfl rfl hl.1 rfl (lv_room (Nat.le_of_ble_eq_true rfl)) dX5_succeeds_66 ⟨Nat.le_of_ble_eq_true rfl, Nat.le_of_ble_eq_true rfl⟩) hP hD hS hA rfl rfl rfl (by decide) rfl (fun _ => rfl) (fun u H locs hP hD hS => ?_)
    obtain ⟨o_10, rfl⟩ : ∃ zq9, zq9 = u := ⟨_, rfl⟩
    have hP : va_P G vwCl [kX7 h ua ub uc ud ue (s_X7_pass_z (a1 - a1 / 10000 * 10000) z 0), kX3 ua va (s_X7_pass_z (a1 - a1 / 10000 * 10000) z 1), aI y va 10 (s_X7_pass_z (a1 - a1 / 10000 * 10000) z 2), kX1 ub (s_X7_pass_z (a1 - a1 / 10000 * 10000) z 3), kX8 uc vc1 vc2 vc3 vc4 vc5 (s_X7_pass_z (a1 - a1 / 10000 * 10000) z 4), aI y vc1 20 (s_X7_pass_z (a1 - a1 / 10000 * 10000) z 5), aI y vc2 20 (s_X7_pass_z (a1 - a1 / 10000 * 10000) z 6), aI y vc3 20 (s_X7_pass_z (a1 - a1 / 10000 * 10000) z 7), aI y vc4 20 (s_X7_pass_z (a1 - a1 / 10000 * 10000) z 8), aI y vc5 20 o_10, kX10 ud vd (s_X7_pass_z (a1 - a1 / 10000 * 10000) z 9), aI y vd 32 (s_X7_pass_z (a1 - a1 / 10000 * 10000) z 10), kX0 ue ve (s_X7_pass_z (a1 - a1 / 10000 * 10000) z 11), aI y ve 3 (s_X7_pass_z (a1 - a1 / 10000 * 10000) z 12)] H := hP
    have hD : va_D A [kX7 h ua ub uc ud ue (s_X7_pass_z (a1 - a1 / 10000 * 10000) z 0), kX3 ua va (s_X7_pass_z (a1 - a1 / 10000 * 10000) z 1), aI y va 10 (s_X7_pass_z (a1 - a1 / 10000 * 10000) z 2), kX1 ub (s_X7_pass_z (a1 - a1 / 10000 * 10000) z 3), kX8 uc vc1 vc2 vc3 vc4 vc5 (s_X7_pass_z (a1 - a1 / 10000 * 10000) z 4), aI y vc1 20 (s_X7_pass_z (a1 - a1 / 10000 * 10000) z 5), aI y vc2 20 (s_X7_pass_z (a1 - a1 / 10000 * 10000) z 6), aI y vc3 20 (s_X7_pass_z (a1 - a1 / 10000 * 10000) z 7), aI y vc4 20 (s_X7_pass_z (a1 - a1 / 10000 * 10000) z 8), aI y vc5 20 o_10, kX10 ud vd (s_X7_pass_z (a1 - a1 / 10000 * 10000) z 9), aI y vd 32 (s_X7_pass_z (a1 - a1 / 10000 * 10000) z 10), kX0 ue ve (s_X7_pass_z (a1 - a1 / 10000 * 10000) z 11), aI y ve 3 (s_X7_pass_z (a1 - a1 / 10000 * 10000) z 12)] := hD
    have hzf : s_X7_pass_z (a1 - a1 / 10000 * 10000) z = s_X5_succeeds_z a1 z := (by unfold s_X5_succeeds_z; exact (if_pos c_1).symm)
    exact W.zret hx hb hr (nz_bool (z_X7_pass (a1 - a1 / 10000 * 10000))) (end_Hi o_10 hP hD hS (by unfold s_X5_succeeds_r; exact (if_pos c_1).symm) (congr (congr (congr (congr (congr (congr (congr (congr (congr (congr (congr (congr (congrArg (fun (z0 : Nat → Int32) (z1 : Nat → Int32) (z2 : Nat → Int32) (z3 : Nat → Int32) (z4 : Nat → Int32) (z5 : Nat → Int32) (z6 : Nat → Int32) (z7 : Nat → Int32) (z8 : Nat → Int32) (z10 : Nat → Int32) (z11 : Nat → Int32) (z12 : Nat → Int32) (z13 : Nat → Int32) => [kX7 h ua ub uc ud ue z0, kX3 ua va z1, aI y va 10 z2, kX1 ub z3, kX8 uc vc1 vc2 vc3 vc4 vc5 z4, aI y vc1 20 z5, aI y vc2 20 z6, aI y vc3 20 z7, aI y vc4 20 z8, aI y vc5 20 o_10, kX10 ud vd z10, aI y vd 32 z11, kX0 ue ve z12, aI y ve 3 z13]) (congrFun hzf 0)) (congrFun hzf 1)) (congrFun hzf 2)) (congrFun hzf 3)) (congrFun hzf 4)) (congrFun hzf 5)) (congrFun hzf 6)) (congrFun hzf 7)) (congrFun hzf 8)) (congrFun hzf 9)) (congrFun hzf 10)) (congrFun hzf 11)) (congrFun hzf 12))) hS.2.2 dX5_succeeds_69
  rcases Decidable.em ((a1 / 10000) = 2) with c_2 | c_2
  · refine lv_tableIn (tgt := 70) hx hb dX5_succeeds_13 (by rw [c_2]; decide) (by rw [c_2]; decide) (by rw [c_2]; first | done | rfl) (by decide) ?_
    refine lv_aload_n hx hb dX5_succeeds_70 rfl (lv_at hl 2 rfl) ?_
    refine lv_iload_n hx hb dX5_succeeds_71 rfl (lv_at hl 0 rfl) ?_
    refine cl_Hi (wr := [kX3 ua va (z 1), aI y va 10 (z 2), aI y vc1 20 (z 5), aI y vc2 20 (z 6), aI y vc3 20 (z 7), aI y vc4 20 (z 8), aI y vc5 20 o, kX10 ud vd (z 9), aI y vd 32 (z 10), kX0 ue ve (z 11), aI y ve 3 (z 12)]) (fun _ : Unit => [kX7 h ua ub uc ud ue (s_X7_changeMode_z (a1 - a1 / 10000 * 10000) z 0), kX3 ua va (z 1), aI y va 10 (z 2), kX1 ub (s_X7_changeMode_z (a1 - a1 / 10000 * 10000) z 3), kX8 uc vc1 vc2 vc3 vc4 vc5 (s_X7_changeMode_z (a1 - a1 / 10000 * 10000) z 4), aI y vc1 20 (z 5), aI y vc2 20 (z 6), aI y vc3 20 (z 7), aI y vc4 20 (z 8), aI y vc5 20 o, kX10 ud vd (z 9), aI y vd 32 (z 10), kX0 ue ve (z 11), aI y ve 3 (z 12)]) [0, 3, 4] [1, 2, 5, 6, 7, 8, 9, 10, 11, 12, 13] [11, 0, 1, 12, 13, 2, 3, 4, 5, 6, 7, 8, 9, 10] (va_runV (As := [.int (a1 - a1 / 10000 * 10000)]) (rest := []) ⟨hx, hb, hml, hown, hts⟩ (c_X7_changeMode l G y h (a1 - a1 / 10000 * 10000) ua ub uc ud ue z vc1 vc2 vc3 vc4 vc5 s.heap.size) (cwV 1 hts gX5_succeeds_X7_changeMode rfl rfl rfl (by decide +kernel) ⟨Nat.le_of_ble_eq_true rfl, Nat.le_of_ble_eq_true rfl⟩) (PH_V (hP.sub (ws' := [kX7 h ua ub uc ud ue (z 0), kX1 ub (z 3), kX8 uc vc1 vc2 vc3 vc4 vc5 (z 4)]) [0, 3, 4] rfl) hK hN (hD.sub (ws' := [kX7 h ua ub uc ud ue (z 0), kX1 ub (z 3), kX8 uc vc1 vc2 vc3 vc4 vc5 (z 4)]) [0, 3, 4] (by decide) rfl) (ci := 5) (q0 := 0) rfl rfl) rfl rfl hl.1 rfl (lv_room (Nat.le_of_ble_eq_true rfl)) dX5_succeeds_72 ⟨Nat.le_of_ble_eq_true rfl, Nat.le_of_ble_eq_true rfl⟩) hP hD hS hA rfl rfl rfl (by decide) rfl (fun _ => rfl) (fun _ H locs hP hD hS => ?_)
    have hP : va_P G vwCl [kX7 h ua ub uc ud ue (s_X7_changeMode_z (a1 - a1 / 10000 * 10000) z 0), kX3 ua va (s_X7_changeMode_z (a1 - a1 / 10000 * 10000) z 1), aI y va 10 (s_X7_changeMode_z (a1 - a1 / 10000 * 10000) z 2), kX1 ub (s_X7_changeMode_z (a1 - a1 / 10000 * 10000) z 3), kX8 uc vc1 vc2 vc3 vc4 vc5 (s_X7_changeMode_z (a1 - a1 / 10000 * 10000) z 4), aI y vc1 20 (s_X7_changeMode_z (a1 - a1 / 10000 * 10000) z 5), aI y vc2 20 (s_X7_changeMode_z (a1 - a1 / 10000 * 10000) z 6), aI y vc3 20 (s_X7_changeMode_z (a1 - a1 / 10000 * 10000) z 7), aI y vc4 20 (s_X7_changeMode_z (a1 - a1 / 10000 * 10000) z 8), aI y vc5 20 o, kX10 ud vd (s_X7_changeMode_z (a1 - a1 / 10000 * 10000) z 9), aI y vd 32 (s_X7_changeMode_z (a1 - a1 / 10000 * 10000) z 10), kX0 ue ve (s_X7_changeMode_z (a1 - a1 / 10000 * 10000) z 11), aI y ve 3 (s_X7_changeMode_z (a1 - a1 / 10000 * 10000) z 12)] H := hP
    have hD : va_D A [kX7 h ua ub uc ud ue (s_X7_changeMode_z (a1 - a1 / 10000 * 10000) z 0), kX3 ua va (s_X7_changeMode_z (a1 - a1 / 10000 * 10000) z 1), aI y va 10 (s_X7_changeMode_z (a1 - a1 / 10000 * 10000) z 2), kX1 ub (s_X7_changeMode_z (a1 - a1 / 10000 * 10000) z 3), kX8 uc vc1 vc2 vc3 vc4 vc5 (s_X7_changeMode_z (a1 - a1 / 10000 * 10000) z 4), aI y vc1 20 (s_X7_changeMode_z (a1 - a1 / 10000 * 10000) z 5), aI y vc2 20 (s_X7_changeMode_z (a1 - a1 / 10000 * 10000) z 6), aI y vc3 20 (s_X7_changeMode_z (a1 - a1 / 10000 * 10000) z 7), aI y vc4 20 (s_X7_changeMode_z (a1 - a1 / 10000 * 10000) z 8), aI y vc5 20 o, kX10 ud vd (s_X7_changeMode_z (a1 - a1 / 10000 * 10000) z 9), aI y vd 32 (s_X7_changeMode_z (a1 - a1 / 10000 * 10000) z 10), kX0 ue ve (s_X7_changeMode_z (a1 - a1 / 10000 * 10000) z 11), aI y ve 3 (s_X7_changeMode_z (a1 - a1 / 10000 * 10000) z 12)] := hD
    have hzf : s_X7_changeMode_z (a1 - a1 / 10000 * 10000) z = s_X5_succeeds_z a1 z := (by unfold s_X5_succeeds_z; exact ((if_neg c_1).trans (if_pos c_2)).symm)
    exact W.zret hx hb hr (nz_bool (z_X7_changeMode (a1 - a1 / 10000 * 10000))) (end_Hi o hP hD hS (by unfold s_X5_succeeds_r; exact ((if_neg c_1).trans (if_pos c_2)).symm) (congr (congr (congr (congr (congr (congr (congr (congr (congr (congr (congr (congr (congrArg (fun (z0 : Nat → Int32) (z1 : Nat → Int32) (z2 : Nat → Int32) (z3 : Nat → Int32) (z4 : Nat → Int32) (z5 : Nat → Int32) (z6 : Nat → Int32) (z7 : Nat → Int32) (z8 : Nat → Int32) (z10 : Nat → Int32) (z11 : Nat → Int32) (z12 : Nat → Int32) (z13 : Nat → Int32) => [kX7 h ua ub uc ud ue z0, kX3 ua va z1, aI y va 10 z2, kX1 ub z3, kX8 uc vc1 vc2 vc3 vc4 vc5 z4, aI y vc1 20 z5, aI y vc2 20 z6, aI y vc3 20 z7, aI y vc4 20 z8, aI y vc5 20 o, kX10 ud vd z10, aI y vd 32 z11, kX0 ue ve z12, aI y ve 3 z13]) (congrFun hzf 0)) (congrFun hzf 1)) (congrFun hzf 2)) (congrFun hzf 3)) (congrFun hzf 4)) (congrFun hzf 5)) (congrFun hzf 6)) (congrFun hzf 7)) (congrFun hzf 8)) (congrFun hzf 9)) (congrFun hzf 10)) (congrFun hzf 11)) (congrFun hzf 12))) hS.2.2 dX5_succeeds_75
  rcases Decidable.em ((a1 / 10000) = 3) with c_3 | c_3
  · refine lv_tableIn (tgt := 76) hx hb dX5_succeeds_13 (by rw [c_3]; decide) (by rw [c_3]; decide) (by rw [c_3]; first | done | rfl) (by decide) ?_
    refine lv_iload_n hx hb dX5_succeeds_76 rfl (lv_at hl 0 rfl) ?_
    refine cl_Ri (va_runS (As := [.int (a1 - a1 / 10000 * 10000)]) (rest := []) ⟨hx, hb, hml, hown, hts⟩ (c_X5_hasSign l G y (a1 - a1 / 10000 * 10000)) (va_cwS 1 hts gX5_succeeds_X5_hasSign rfl rfl rfl (by decide +kernel) ⟨Nat.le_of_ble_eq_true rfl, Nat.le_of_ble_eq_true rfl⟩) (PR_S pnil hK hN) rfl rfl hl.1 rfl (lv_room (Nat.le_of_ble_eq_true rfl)) dX5_succeeds_77 ⟨Nat.le_of_ble_eq_true rfl, Nat.le_of_ble_eq_true rfl⟩) ?_
    refine lv_if_eq (tgt := 98) hx hb dX5_succeeds_80 (by decide) (fun c_11 => ?_) (fun c_11 => ?_)
    · refine lv_iconst (v := 0) hx hb dX5_succeeds_98 (by decide) ?_
      have hzf : z = s_X5_succeeds_z a1 z := (by unfold s_X5_succeeds_z; exact ((if_neg c_1).trans ((if_neg c_2).trans ((if_pos c_3).trans (if_pos c_11)))).symm)
      exact W.zret hx hb hr (nz_bool (Or.inl rfl)) (end_Hi o hP hD hS (by unfold s_X5_succeeds_r; exact ((if_neg c_1).trans ((if_neg c_2).trans ((if_pos c_3).trans (if_pos c_11)))).symm) (congr (congr (congr (congr (congr (congr (congr (congr (congr (congr (congr (congr (congrArg (fun (z0 : Nat → Int32) (z1 : Nat → Int32) (z2 : Nat → Int32) (z3 : Nat → Int32) (z4 : Nat → Int32) (z5 : Nat → Int32) (z6 : Nat → Int32) (z7 : Nat → Int32) (z8 : Nat → Int32) (z10 : Nat → Int32) (z11 : Nat → Int32) (z12 : Nat → Int32) (z13 : Nat → Int32) => [kX7 h ua ub uc ud ue z0, kX3 ua va z1, aI y va 10 z2, kX1 ub z3, kX8 uc vc1 vc2 vc3 vc4 vc5 z4, aI y vc1 20 z5, aI y vc2 20 z6, aI y vc3 20 z7, aI y vc4 20 z8, aI y vc5 20 o, kX10 ud vd z10, aI y vd 32 z11, kX0 ue ve z12, aI y ve 3 z13]) (congrFun hzf 0)) (congrFun hzf 1)) (congrFun hzf 2)) (congrFun hzf 3)) (congrFun hzf 4)) (congrFun hzf 5)) (congrFun hzf 6)) (congrFun hzf 7)) (congrFun hzf 8)) (congrFun hzf 9)) (congrFun hzf 10)) (congrFun hzf 11)) (congrFun hzf 12))) hS.2.2 dX5_succeeds_99
    · refine lv_aload_n hx hb dX5_succeeds_83 rfl (lv_at hl 2 rfl) ?_
      refine lv_iload_n hx hb dX5_succeeds_84 rfl (lv_at hl 0 rfl) ?_
      refine cl_Ri (va_runS (As := [.int (a1 - a1 / 10000 * 10000)]) (rest := [.ref h]) ⟨hx, hb, hml, hown, hts⟩ (c_X5_signed l G y (a1 - a1 / 10000 * 10000)) (va_cwS 1 hts gX5_succeeds_X5_signed rfl rfl rfl (by decide +kernel) ⟨Nat.le_of_ble_eq_true rfl, Nat.le_of_ble_eq_true rfl⟩) (PR_S pnil hK hN) rfl rfl hl.1 rfl (lv_room (Nat.le_of_ble_eq_true rfl)) dX5_succeeds_85 ⟨Nat.le_of_ble_eq_true rfl, Nat.le_of_ble_eq_true rfl⟩) ?_
      refine cl_Hi (wr := [aI y va 10 (z 2), kX1 ub (z 3), kX8 uc vc1 vc2 vc3 vc4 vc5 (z 4), aI y vc1 20 (z 5), aI y vc2 20 (z 6), aI y vc3 20 (z 7), aI y vc4 20 (z 8), aI y vc5 20 o, kX10 ud vd (z 9), aI y vd 32 (z 10), aI y ve 3 (z 12)]) (fun _ : Unit => [kX7 h ua ub uc ud ue (s_X7_push_z (s_X5_signed_r (a1 - a1 / 10000 * 10000)) z 0), kX3 ua va (s_X7_push_z (s_X5_signed_r (a1 - a1 / 10000 * 10000)) z 1), aI y va 10 (z 2), kX1 ub (z 3), kX8 uc vc1 vc2 vc3 vc4 vc5 (z 4), aI y vc1 20 (z 5), aI y vc2 20 (z 6), aI y vc3 20 (z 7), aI y vc4 20 (z 8), aI y vc5 20 o, kX10 ud vd (z 9), aI y vd 32 (z 10), kX0 ue ve (s_X7_push_z (s_X5_signed_r (a1 - a1 / 10000 * 10000)) z 11), aI y ve 3 (z 12)]) [0, 1, 12] [2, 3, 4, 5, 6, 7, 8, 9, 10, 11, 13] [11, 12, 0, 1, 2, 3, 4, 5, 6, 7, 8, 9, 13, 10] (va_runV (As := [.int (s_X5_signed_r (a1 - a1 / 10000 * 10000))]) (rest := []) ⟨hx, hb, hml, hown, hts⟩ (c_X7_push l G y h (s_X5_signed_r (a1 - a1 / 10000 * 10000)) ua ub uc ud ue z va ve s.heap.size) (cwV 1 hts gX5_succeeds_X7_push rfl rfl rfl (by decide +kernel) ⟨Nat.le_of_ble_eq_true rfl, Nat.le_of_ble_eq_true rfl⟩) (PH_V (hP.sub (ws' := [kX7 h ua ub uc ud ue (z 0), kX3 ua va (z 1), kX0 ue ve (z 11)]) [0, 1, 12] rfl) hK hN (hD.sub (ws' := [kX7 h ua ub uc ud ue (z 0), kX3 ua va (z 1), kX0 ue ve (z 11)]) [0, 1, 12] (by decide) rfl) (ci := 5) (q0 := 0) rfl rfl) rfl rfl hl.1 rfl (lv_room (Nat.le_of_ble_eq_true rfl)) dX5_succeeds_88 ⟨Nat.le_of_ble_eq_true rfl, Nat.le_of_ble_eq_true rfl⟩) hP hD hS hA rfl rfl rfl (by decide) rfl (fun _ => rfl) (fun _ H locs hP hD hS => ?_)
      have hP : va_P G vwCl [kX7 h ua ub uc ud ue (s_X7_push_z (s_X5_signed_r (a1 - a1 / 10000 * 10000)) z 0), kX3 ua va (s_X7_push_z (s_X5_signed_r (a1 - a1 / 10000 * 10000)) z 1), aI y va 10 (s_X7_push_z (s_X5_signed_r (a1 - a1 / 10000 * 10000)) z 2), kX1 ub (s_X7_push_z (s_X5_signed_r (a1 - a1 / 10000 * 10000)) z 3), kX8 uc vc1 vc2 vc3 vc4 vc5 (s_X7_push_z (s_X5_signed_r (a1 - a1 / 10000 * 10000)) z 4), aI y vc1 20 (s_X7_push_z (s_X5_signed_r (a1 - a1 / 10000 * 10000)) z 5), aI y vc2 20 (s_X7_push_z (s_X5_signed_r (a1 - a1 / 10000 * 10000)) z 6), aI y vc3 20 (s_X7_push_z (s_X5_signed_r (a1 - a1 / 10000 * 10000)) z 7), aI y vc4 20 (s_X7_push_z (s_X5_signed_r (a1 - a1 / 10000 * 10000)) z 8), aI y vc5 20 o, kX10 ud vd (s_X7_push_z (s_X5_signed_r (a1 - a1 / 10000 * 10000)) z 9), aI y vd 32 (s_X7_push_z (s_X5_signed_r (a1 - a1 / 10000 * 10000)) z 10), kX0 ue ve (s_X7_push_z (s_X5_signed_r (a1 - a1 / 10000 * 10000)) z 11), aI y ve 3 (s_X7_push_z (s_X5_signed_r (a1 - a1 / 10000 * 10000)) z 12)] H := hP
      have hD : va_D A [kX7 h ua ub uc ud ue (s_X7_push_z (s_X5_signed_r (a1 - a1 / 10000 * 10000)) z 0), kX3 ua va (s_X7_push_z (s_X5_signed_r (a1 - a1 / 10000 * 10000)) z 1), aI y va 10 (s_X7_push_z (s_X5_signed_r (a1 - a1 / 10000 * 10000)) z 2), kX1 ub (s_X7_push_z (s_X5_signed_r (a1 - a1 / 10000 * 10000)) z 3), kX8 uc vc1 vc2 vc3 vc4 vc5 (s_X7_push_z (s_X5_signed_r (a1 - a1 / 10000 * 10000)) z 4), aI y vc1 20 (s_X7_push_z (s_X5_signed_r (a1 - a1 / 10000 * 10000)) z 5), aI y vc2 20 (s_X7_push_z (s_X5_signed_r (a1 - a1 / 10000 * 10000)) z 6), aI y vc3 20 (s_X7_push_z (s_X5_signed_r (a1 - a1 / 10000 * 10000)) z 7), aI y vc4 20 (s_X7_push_z (s_X5_signed_r (a1 - a1 / 10000 * 10000)) z 8), aI y vc5 20 o, kX10 ud vd (s_X7_push_z (s_X5_signed_r (a1 - a1 / 10000 * 10000)) z 9), aI y vd 32 (s_X7_push_z (s_X5_signed_r (a1 - a1 / 10000 * 10000)) z 10), kX0 ue ve (s_X7_push_z (s_X5_signed_r (a1 - a1 / 10000 * 10000)) z 11), aI y ve 3 (s_X7_push_z (s_X5_signed_r (a1 - a1 / 10000 * 10000)) z 12)] := hD
      refine lv_if_eq (tgt := 98) hx hb dX5_succeeds_91 (by decide) (fun c_12 => ?_) (fun c_12 => ?_)
      · refine lv_iconst (v := 0) hx hb dX5_succeeds_98 (by decide) ?_
        have hzf : s_X7_push_z (s_X5_signed_r (a1 - a1 / 10000 * 10000)) z = s_X5_succeeds_z a1 z := (by unfold s_X5_succeeds_z; exact ((if_neg c_1).trans ((if_neg c_2).trans ((if_pos c_3).trans (if_neg c_11)))).symm)
        exact W.zret hx hb hr (nz_bool (Or.inl rfl)) (end_Hi o hP hD hS (by unfold s_X5_succeeds_r; exact ((if_neg c_1).trans ((if_neg c_2).trans ((if_pos c_3).trans ((if_neg c_11).trans (if_pos c_12))))).symm) (congr (congr (congr (congr (congr (congr (congr (congr (congr (congr (congr (congr (congrArg (fun (z0 : Nat → Int32) (z1 : Nat → Int32) (z2 : Nat → Int32) (z3 : Nat → Int32) (z4 : Nat → Int32) (z5 : Nat → Int32) (z6 : Nat → Int32) (z7 : Nat → Int32) (z8 : Nat → Int32) (z10 : Nat → Int32) (z11 : Nat → Int32) (z12 : Nat → Int32) (z13 : Nat → Int32) => [kX7 h ua ub uc ud ue z0, kX3 ua va z1, aI y va 10 z2, kX1 ub z3, kX8 uc vc1 vc2 vc3 vc4 vc5 z4, aI y vc1 20 z5, aI y vc2 20 z6, aI y vc3 20 z7, aI y vc4 20 z8, aI y vc5 20 o, kX10 ud vd z10, aI y vd 32 z11, kX0 ue ve z12, aI y ve 3 z13]) (congrFun hzf 0)) (congrFun hzf 1)) (congrFun hzf 2)) (congrFun hzf 3)) (congrFun hzf 4)) (congrFun hzf 5)) (congrFun hzf 6)) (congrFun hzf 7)) (congrFun hzf 8)) (congrFun hzf 9)) (congrFun hzf 10)) (congrFun hzf 11)) (congrFun hzf 12))) hS.2.2 dX5_succeeds_99
      · refine lv_iconst (v := 1) hx hb dX5_succeeds_94 (by decide) ?_
        refine lv_goto (tgt := 99) hx hb dX5_succeeds_95 (by decide) ?_
        have hzf : s_X7_push_z (s_X5_signed_r (a1 - a1 / 10000 * 10000)) z = s_X5_succeeds_z a1 z := (by unfold s_X5_succeeds_z; exact ((if_neg c_1).trans ((if_neg c_2).trans ((if_pos c_3).trans (if_neg c_11)))).symm)
        exact W.zret hx hb hr (nz_bool (Or.inr rfl)) (end_Hi o hP hD hS (by unfold s_X5_succeeds_r; exact ((if_neg c_1).trans ((if_neg c_2).trans ((if_pos c_3).trans ((if_neg c_11).trans (if_neg c_12))))).symm) (congr (congr (congr (congr (congr (congr (congr (congr (congr (congr (congr (congr (congrArg (fun (z0 : Nat → Int32) (z1 : Nat → Int32) (z2 : Nat → Int32) (z3 : Nat → Int32) (z4 : Nat → Int32) (z5 : Nat → Int32) (z6 : Nat → Int32) (z7 : Nat → Int32) (z8 : Nat → Int32) (z10 : Nat → Int32) (z11 : Nat → Int32) (z12 : Nat → Int32) (z13 : Nat → Int32) => [kX7 h ua ub uc ud ue z0, kX3 ua va z1, aI y va 10 z2, kX1 ub z3, kX8 uc vc1 vc2 vc3 vc4 vc5 z4, aI y vc1 20 z5, aI y vc2 20 z6, aI y vc3 20 z7, aI y vc4 20 z8, aI y vc5 20 o, kX10 ud vd z10, aI y vd 32 z11, kX0 ue ve z12, aI y ve 3 z13]) (congrFun hzf 0)) (congrFun hzf 1)) (congrFun hzf 2)) (congrFun hzf 3)) (congrFun hzf 4)) (congrFun hzf 5)) (congrFun hzf 6)) (congrFun hzf 7)) (congrFun hzf 8)) (congrFun hzf 9)) (congrFun hzf 10)) (congrFun hzf 11)) (congrFun hzf 12))) hS.2.2 dX5_succeeds_99
  rcases Decidable.em ((a1 / 10000) = 4) with c_4 | c_4
  · refine lv_tableIn (tgt := 100) hx hb dX5_succeeds_13 (by rw [c_4]; decide) (by rw [c_4]; decide) (by rw [c_4]; first | done | rfl) (by decide) ?_
    refine lv_aload_n hx hb dX5_succeeds_100 rfl (lv_at hl 2 rfl) ?_
    refine lv_iload_n hx hb dX5_succeeds_101 rfl (lv_at hl 0 rfl) ?_
    refine lv_sipush (v := 1000) hx hb dX5_succeeds_102 (by decide) ?_
    refine lv_idiv hx hb dX5_succeeds_105 (by decide) ?_
    refine lv_iload_n hx hb dX5_succeeds_106 rfl (lv_at hl 0 rfl) ?_
    refine lv_sipush (v := 1000) hx hb dX5_succeeds_107 (by decide) ?_
    refine lv_irem hx hb dX5_succeeds_110 (by decide) ?_
    refine cl_Hi (wr := [kX3 ua va (z 1), aI y va 10 (z 2), kX8 uc vc1 vc2 vc3 vc4 vc5 (z 4), aI y vc1 20 (z 5), aI y vc2 20 (z 6), aI y vc3 20 (z 7), aI y vc4 20 (z 8), aI y vc5 20 o, kX10 ud vd (z 9), aI y vd 32 (z 10), kX0 ue ve (z 11), aI y ve 3 (z 12)]) (fun _ : Unit => [kX7 h ua ub uc ud ue (s_X7_put_z ((a1 - a1 / 10000 * 10000) / 1000) ((a1 - a1 / 10000 * 10000) - (a1 - a1 / 10000 * 10000) / 1000 * 1000) z 0), kX3 ua va (z 1), aI y va 10 (z 2), kX1 ub (s_X7_put_z ((a1 - a1 / 10000 * 10000) / 1000) ((a1 - a1 / 10000 * 10000) - (a1 - a1 / 10000 * 10000) / 1000 * 1000) z 3), kX8 uc vc1 vc2 vc3 vc4 vc5 (z 4), aI y vc1 20 (z 5), aI y vc2 20 (z 6), aI y vc3 20 (z 7), aI y vc4 20 (z 8), aI y vc5 20 o, kX10 ud vd (z 9), aI y vd 32 (z 10), kX0 ue ve (z 11), aI y ve 3 (z 12)]) [0, 3] [1, 2, 4, 5, 6, 7, 8, 9, 10, 11, 12, 13] [12, 0, 1, 13, 2, 3, 4, 5, 6, 7, 8, 9, 10, 11] (va_runV (As := [.int ((a1 - a1 / 10000 * 10000) / 1000), .int ((a1 - a1 / 10000 * 10000) - (a1 - a1 / 10000 * 10000) / 1000 * 1000)]) (rest := []) ⟨hx, hb, hml, hown, hts⟩ (c_X7_put l G y h ((a1 - a1 / 10000 * 10000) / 1000) ((a1 - a1 / 10000 * 10000) - (a1 - a1 / 10000 * 10000) / 1000 * 1000) ua ub uc ud ue z s.heap.size) (cwV 2 hts gX5_succeeds_X7_put rfl rfl rfl (by decide +kernel) ⟨Nat.le_of_ble_eq_true rfl, Nat.le_of_ble_eq_true rfl⟩) (PH_V (hP.sub (ws' := [kX7 h ua ub uc ud ue (z 0), kX1 ub (z 3)]) [0, 3] rfl) hK hN (hD.sub (ws' := [kX7 h ua ub uc ud ue (z 0), kX1 ub (z 3)]) [0, 3] (by decide) rfl) (ci := 5) (q0 := 0) rfl rfl) rfl rfl hl.1 rfl (lv_room (Nat.le_of_ble_eq_true rfl)) dX5_succeeds_111 ⟨Nat.le_of_ble_eq_true rfl, Nat.le_of_ble_eq_true rfl⟩) hP hD hS hA rfl rfl rfl (by decide) rfl (fun _ => rfl) (fun _ H locs hP hD hS => ?_)
    have hP : va_P G vwCl [kX7 h ua ub uc ud ue (s_X7_put_z ((a1 - a1 / 10000 * 10000) / 1000) ((a1 - a1 / 10000 * 10000) - (a1 - a1 / 10000 * 10000) / 1000 * 1000) z 0), kX3 ua va (s_X7_put_z ((a1 - a1 / 10000 * 10000) / 1000) ((a1 - a1 / 10000 * 10000) - (a1 - a1 / 10000 * 10000) / 1000 * 1000) z 1), aI y va 10 (s_X7_put_z ((a1 - a1 / 10000 * 10000) / 1000) ((a1 - a1 / 10000 * 10000) - (a1 - a1 / 10000 * 10000) / 1000 * 1000) z 2), kX1 ub (s_X7_put_z ((a1 - a1 / 10000 * 10000) / 1000) ((a1 - a1 / 10000 * 10000) - (a1 - a1 / 10000 * 10000) / 1000 * 1000) z 3), kX8 uc vc1 vc2 vc3 vc4 vc5 (s_X7_put_z ((a1 - a1 / 10000 * 10000) / 1000) ((a1 - a1 / 10000 * 10000) - (a1 - a1 / 10000 * 10000) / 1000 * 1000) z 4), aI y vc1 20 (s_X7_put_z ((a1 - a1 / 10000 * 10000) / 1000) ((a1 - a1 / 10000 * 10000) - (a1 - a1 / 10000 * 10000) / 1000 * 1000) z 5), aI y vc2 20 (s_X7_put_z ((a1 - a1 / 10000 * 10000) / 1000) ((a1 - a1 / 10000 * 10000) - (a1 - a1 / 10000 * 10000) / 1000 * 1000) z 6), aI y vc3 20 (s_X7_put_z ((a1 - a1 / 10000 * 10000) / 1000) ((a1 - a1 / 10000 * 10000) - (a1 - a1 / 10000 * 10000) / 1000 * 1000) z 7), aI y vc4 20 (s_X7_put_z ((a1 - a1 / 10000 * 10000) / 1000) ((a1 - a1 / 10000 * 10000) - (a1 - a1 / 10000 * 10000) / 1000 * 1000) z 8), aI y vc5 20 o, kX10 ud vd (s_X7_put_z ((a1 - a1 / 10000 * 10000) / 1000) ((a1 - a1 / 10000 * 10000) - (a1 - a1 / 10000 * 10000) / 1000 * 1000) z 9), aI y vd 32 (s_X7_put_z ((a1 - a1 / 10000 * 10000) / 1000) ((a1 - a1 / 10000 * 10000) - (a1 - a1 / 10000 * 10000) / 1000 * 1000) z 10), kX0 ue ve (s_X7_put_z ((a1 - a1 / 10000 * 10000) / 1000) ((a1 - a1 / 10000 * 10000) - (a1 - a1 / 10000 * 10000) / 1000 * 1000) z 11), aI y ve 3 (s_X7_put_z ((a1 - a1 / 10000 * 10000) / 1000) ((a1 - a1 / 10000 * 10000) - (a1 - a1 / 10000 * 10000) / 1000 * 1000) z 12)] H := hP
    have hD : va_D A [kX7 h ua ub uc ud ue (s_X7_put_z ((a1 - a1 / 10000 * 10000) / 1000) ((a1 - a1 / 10000 * 10000) - (a1 - a1 / 10000 * 10000) / 1000 * 1000) z 0), kX3 ua va (s_X7_put_z ((a1 - a1 / 10000 * 10000) / 1000) ((a1 - a1 / 10000 * 10000) - (a1 - a1 / 10000 * 10000) / 1000 * 1000) z 1), aI y va 10 (s_X7_put_z ((a1 - a1 / 10000 * 10000) / 1000) ((a1 - a1 / 10000 * 10000) - (a1 - a1 / 10000 * 10000) / 1000 * 1000) z 2), kX1 ub (s_X7_put_z ((a1 - a1 / 10000 * 10000) / 1000) ((a1 - a1 / 10000 * 10000) - (a1 - a1 / 10000 * 10000) / 1000 * 1000) z 3), kX8 uc vc1 vc2 vc3 vc4 vc5 (s_X7_put_z ((a1 - a1 / 10000 * 10000) / 1000) ((a1 - a1 / 10000 * 10000) - (a1 - a1 / 10000 * 10000) / 1000 * 1000) z 4), aI y vc1 20 (s_X7_put_z ((a1 - a1 / 10000 * 10000) / 1000) ((a1 - a1 / 10000 * 10000) - (a1 - a1 / 10000 * 10000) / 1000 * 1000) z 5), aI y vc2 20 (s_X7_put_z ((a1 - a1 / 10000 * 10000) / 1000) ((a1 - a1 / 10000 * 10000) - (a1 - a1 / 10000 * 10000) / 1000 * 1000) z 6), aI y vc3 20 (s_X7_put_z ((a1 - a1 / 10000 * 10000) / 1000) ((a1 - a1 / 10000 * 10000) - (a1 - a1 / 10000 * 10000) / 1000 * 1000) z 7), aI y vc4 20 (s_X7_put_z ((a1 - a1 / 10000 * 10000) / 1000) ((a1 - a1 / 10000 * 10000) - (a1 - a1 / 10000 * 10000) / 1000 * 1000) z 8), aI y vc5 20 o, kX10 ud vd (s_X7_put_z ((a1 - a1 / 10000 * 10000) / 1000) ((a1 - a1 / 10000 * 10000) - (a1 - a1 / 10000 * 10000) / 1000 * 1000) z 9), aI y vd 32 (s_X7_put_z ((a1 - a1 / 10000 * 10000) / 1000) ((a1 - a1 / 10000 * 10000) - (a1 - a1 / 10000 * 10000) / 1000 * 1000) z 10), kX0 ue ve (s_X7_put_z ((a1 - a1 / 10000 * 10000) / 1000) ((a1 - a1 / 10000 * 10000) - (a1 - a1 / 10000 * 10000) / 1000 * 1000) z 11), aI y ve 3 (s_X7_put_z ((a1 - a1 / 10000 * 10000) / 1000) ((a1 - a1 / 10000 * 10000) - (a1 - a1 / 10000 * 10000) / 1000 * 1000) z 12)] := hD
    have hzf : s_X7_put_z ((a1 - a1 / 10000 * 10000) / 1000) ((a1 - a1 / 10000 * 10000) - (a1 - a1 / 10000 * 10000) / 1000 * 1000) z = s_X5_succeeds_z a1 z := (by unfold s_X5_succeeds_z; exact ((if_neg c_1).trans ((if_neg c_2).trans ((if_neg c_3).trans (if_pos c_4)))).symm)
    exact W.zret hx hb hr (nz_bool (z_X7_put ((a1 - a1 / 10000 * 10000) / 1000) ((a1 - a1 / 10000 * 10000) - (a1 - a1 / 10000 * 10000) / 1000 * 1000))) (end_Hi o hP hD hS (by unfold s_X5_succeeds_r; exact ((if_neg c_1).trans ((if_neg c_2).trans ((if_neg c_3).trans (if_pos c_4)))).symm) (congr (congr (congr (congr (congr (congr (congr (congr (congr (congr (congr (congr (congrArg (fun (z0 : Nat → Int32) (z1 : Nat → Int32) (z2 : Nat → Int32) (z3 : Nat → Int32) (z4 : Nat → Int32) (z5 : Nat → Int32) (z6 : Nat → Int32) (z7 : Nat → Int32) (z8 : Nat → Int32) (z10 : Nat → Int32) (z11 : Nat → Int32) (z12 : Nat → Int32) (z13 : Nat → Int32) => [kX7 h ua ub uc ud ue z0, kX3 ua va z1, aI y va 10 z2, kX1 ub z3, kX8 uc vc1 vc2 vc3 vc4 vc5 z4, aI y vc1 20 z5, aI y vc2 20 z6, aI y vc3 20 z7, aI y vc4 20 z8, aI y vc5 20 o, kX10 ud vd z10, aI y vd 32 z11, kX0 ue ve z12, aI y ve 3 z13]) (congrFun hzf 0)) (congrFun hzf 1)) (congrFun hzf 2)) (congrFun hzf 3)) (congrFun hzf 4)) (congrFun hzf 5)) (congrFun hzf 6)) (congrFun hzf 7)) (congrFun hzf 8)) (congrFun hzf 9)) (congrFun hzf 10)) (congrFun hzf 11)) (congrFun hzf 12))) hS.2.2 dX5_succeeds_114
  rcases Decidable.em ((a1 / 10000) = 5) with c_5 | c_5
  · refine lv_tableIn (tgt := 115) hx hb dX5_succeeds_13 (by rw [c_5]; decide) (by rw [c_5]; decide) (by rw [c_5]; first | done | rfl) (by decide) ?_
    refine lv_aload_n hx hb dX5_succeeds_115 rfl (lv_at hl 2 rfl) ?_
    refine lv_iload_n hx hb dX5_succeeds_116 rfl (lv_at hl 0 rfl) ?_
    refine cl_Hi (wr := [aI y va 10 (z 2), kX0 ue ve (z 11), aI y ve 3 (z 12)]) (fun u : (Nat → Int32) => [kX7 h ua ub uc ud ue (s_X7_beginTrial_z (a1 - a1 / 10000 * 10000) z 0), kX3 ua va (s_X7_beginTrial_z (a1 - a1 / 10000 * 10000) z 1), aI y va 10 (z 2), kX1 ub (s_X7_beginTrial_z (a1 - a1 / 10000 * 10000) z 3), kX8 uc vc1 vc2 vc3 vc4 vc5 (s_X7_beginTrial_z (a1 - a1 / 10000 * 10000) z 4), aI y vc1 20 (s_X7_beginTrial_z (a1 - a1 / 10000 * 10000) z 5), aI y vc2 20 (s_X7_beginTrial_z (a1 - a1 / 10000 * 10000) z 6), aI y vc3 20 (s_X7_beginTrial_z (a1 - a1 / 10000 * 10000) z 7), aI y vc4 20 (s_X7_beginTrial_z (a1 - a1 / 10000 * 10000) z 8), aI y vc5 20 u, kX10 ud vd (s_X7_beginTrial_z (a1 - a1 / 10000 * 10000) z 9), aI y vd 32 (s_X7_beginTrial_z (a1 - a1 / 10000 * 10000) z 10), kX0 ue ve (z 11), aI y ve 3 (z 12)]) [0, 1, 3, 4, 5, 6, 7, 8, 9, 10, 11] [2, 12, 13] [3, 4, 0, 5, 6, 7, 8, 9, 10, 11, 12, 13, 1, 2] (va_runV (As := [.int (a1 - a1 / 10000 * 10000)]) (rest := []) ⟨hx, hb, hml, hown, hts⟩ (c_X7_beginTrial l G y h (a1 - a1 / 10000 * 10000) ua ub uc ud ue z va vc1 vc2 vc3 vc4 vc5 o vd s.heap.size hTC.1) (cwV 1 hts gX5_succeeds_X7_beginTrial rfl rfl rfl (by decide +kernel) ⟨Nat.le_of_ble_eq_true rfl, Nat.le_of_ble_eq_true rfl⟩) (PH_V (hP.sub (ws' := [kX7 h ua ub uc ud ue (z 0), kX3 ua va (z 1), kX1 ub (z 3), kX8 uc vc1 vc2 vc3 vc4 vc5 (z 4), aI y vc1 20 (z 5), aI y vc2 20 (z 6), aI y vc3 20 (z 7), aI y vc4 20 (z 8), aI y vc5 20 o, kX10 ud vd (z 9), aI y vd 32 (z 10)]) [0, 1, 3, 4, 5, 6, 7, 8, 9, 10, 11] rfl) hK hN (hD.sub (ws' := [kX7 h ua ub uc ud ue (z 0), kX3 ua va (z 1), kX1 ub (z 3), kX8 uc vc1 vc2 vc3 vc4 vc5 (z 4), aI y vc1 20 (z 5), aI y vc2 20 (z 6), aI y vc3 20 (z 7), aI y vc4 20 (z 8), aI y vc5 20 o, kX10 ud vd (z 9), aI y vd 32 (z 10)]) [0, 1, 3, 4, 5, 6, 7, 8, 9, 10, 11] (by decide) rfl) (ci := 5) (q0 := 0) rfl rfl) rfl rfl hl.1 rfl (lv_room (Nat.le_of_ble_eq_true rfl)) dX5_succeeds_117 ⟨Nat.le_of_ble_eq_true rfl, Nat.le_of_ble_eq_true rfl⟩) hP hD hS hA rfl rfl rfl (by decide) rfl (fun _ => rfl) (fun u H locs hP hD hS => ?_)
    obtain ⟨o_13, rfl⟩ : ∃ zq9, zq9 = u := ⟨_, rfl⟩
    have hP : va_P G vwCl [kX7 h ua ub uc ud ue (s_X7_beginTrial_z (a1 - a1 / 10000 * 10000) z 0), kX3 ua va (s_X7_beginTrial_z (a1 - a1 / 10000 * 10000) z 1), aI y va 10 (s_X7_beginTrial_z (a1 - a1 / 10000 * 10000) z 2), kX1 ub (s_X7_beginTrial_z (a1 - a1 / 10000 * 10000) z 3), kX8 uc vc1 vc2 vc3 vc4 vc5 (s_X7_beginTrial_z (a1 - a1 / 10000 * 10000) z 4), aI y vc1 20 (s_X7_beginTrial_z (a1 - a1 / 10000 * 10000) z 5), aI y vc2 20 (s_X7_beginTrial_z (a1 - a1 / 10000 * 10000) z 6), aI y vc3 20 (s_X7_beginTrial_z (a1 - a1 / 10000 * 10000) z 7), aI y vc4 20 (s_X7_beginTrial_z (a1 - a1 / 10000 * 10000) z 8), aI y vc5 20 o_13, kX10 ud vd (s_X7_beginTrial_z (a1 - a1 / 10000 * 10000) z 9), aI y vd 32 (s_X7_beginTrial_z (a1 - a1 / 10000 * 10000) z 10), kX0 ue ve (s_X7_beginTrial_z (a1 - a1 / 10000 * 10000) z 11), aI y ve 3 (s_X7_beginTrial_z (a1 - a1 / 10000 * 10000) z 12)] H := hP
    have hD : va_D A [kX7 h ua ub uc ud ue (s_X7_beginTrial_z (a1 - a1 / 10000 * 10000) z 0), kX3 ua va (s_X7_beginTrial_z (a1 - a1 / 10000 * 10000) z 1), aI y va 10 (s_X7_beginTrial_z (a1 - a1 / 10000 * 10000) z 2), kX1 ub (s_X7_beginTrial_z (a1 - a1 / 10000 * 10000) z 3), kX8 uc vc1 vc2 vc3 vc4 vc5 (s_X7_beginTrial_z (a1 - a1 / 10000 * 10000) z 4), aI y vc1 20 (s_X7_beginTrial_z (a1 - a1 / 10000 * 10000) z 5), aI y vc2 20 (s_X7_beginTrial_z (a1 - a1 / 10000 * 10000) z 6), aI y vc3 20 (s_X7_beginTrial_z (a1 - a1 / 10000 * 10000) z 7), aI y vc4 20 (s_X7_beginTrial_z (a1 - a1 / 10000 * 10000) z 8), aI y vc5 20 o_13, kX10 ud vd (s_X7_beginTrial_z (a1 - a1 / 10000 * 10000) z 9), aI y vd 32 (s_X7_beginTrial_z (a1 - a1 / 10000 * 10000) z 10), kX0 ue ve (s_X7_beginTrial_z (a1 - a1 / 10000 * 10000) z 11), aI y ve 3 (s_X7_beginTrial_z (a1 - a1 / 10000 * 10000) z 12)] := hD
    have hzf : s_X7_beginTrial_z (a1 - a1 / 10000 * 10000) z = s_X5_succeeds_z a1 z := (by unfold s_X5_succeeds_z; exact ((if_neg c_1).trans ((if_neg c_2).trans ((if_neg c_3).trans ((if_neg c_4).trans (if_pos c_5))))).symm)
    exact W.zret hx hb hr (nz_bool (z_X7_beginTrial (a1 - a1 / 10000 * 10000) z)) (end_Hi o_13 hP hD hS (by unfold s_X5_succeeds_r; exact ((if_neg c_1).trans ((if_neg c_2).trans ((if_neg c_3).trans ((if_neg c_4).trans (if_pos c_5))))).symm) (congr (congr (congr (congr (congr (congr (congr (congr (congr (congr (congr (congr (congrArg (fun (z0 : Nat → Int32) (z1 : Nat → Int32) (z2 : Nat → Int32) (z3 : Nat → Int32) (z4 : Nat → Int32) (z5 : Nat → Int32) (z6 : Nat → Int32) (z7 : Nat → Int32) (z8 : Nat → Int32) (z10 : Nat → Int32) (z11 : Nat → Int32) (z12 : Nat → Int32) (z13 : Nat → Int32) => [kX7 h ua ub uc ud ue z0, kX3 ua va z1, aI y va 10 z2, kX1 ub z3, kX8 uc vc1 vc2 vc3 vc4 vc5 z4, aI y vc1 20 z5, aI y vc2 20 z6, aI y vc3 20 z7, aI y vc4 20 z8, aI y vc5 20 o_13, kX10 ud vd z10, aI y vd 32 z11, kX0 ue ve z12, aI y ve 3 z13]) (congrFun hzf 0)) (congrFun hzf 1)) (congrFun hzf 2)) (congrFun hzf 3)) (congrFun hzf 4)) (congrFun hzf 5)) (congrFun hzf 6)) (congrFun hzf 7)) (congrFun hzf 8)) (congrFun hzf 9)) (congrFun hzf 10)) (congrFun hzf 11)) (congrFun hzf 12))) hS.2.2 dX5_succeeds_120
  rcases Decidable.em ((a1 / 10000) = 6) with c_6 | c_6
  · refine lv_tableIn (tgt := 121) hx hb dX5_succeeds_13 (by rw [c_6]; decide) (by rw [c_6]; decide) (by rw [c_6]; first | done | rfl) (by decide) ?_
    refine lv_iload_n hx hb dX5_succeeds_121 rfl (lv_at hl 0 rfl) ?_
    refine lv_if_ne (tgt := 136) hx hb dX5_succeeds_122 (by decide) (fun c_14 => ?_) (fun c_14 => ?_)
    · refine lv_iconst (v := 0) hx hb dX5_succeeds_136 (by decide) ?_
      have hzf : z = s_X5_succeeds_z a1 z := (by unfold s_X5_succeeds_z; exact ((if_neg c_1).trans ((if_neg c_2).trans ((if_neg c_3).trans ((if_neg c_4).trans ((if_neg c_5).trans ((if_pos c_6).trans (if_neg c_14))))))).symm)
      exact W.zret hx hb hr (nz_bool (Or.inl rfl)) (end_Hi o hP hD hS (by unfold s_X5_succeeds_r; exact ((if_neg c_1).trans ((if_neg c_2).trans ((if_neg c_3).trans ((if_neg c_4).trans ((if_neg c_5).trans ((if_pos c_6).trans (if_neg c_14))))))).symm) (congr (congr (congr (congr (congr (congr (congr (congr (congr (congr (congr (congr (congrArg (fun (z0 : Nat → Int32) (z1 : Nat → Int32) (z2 : Nat → Int32) (z3 : Nat → Int32) (z4 : Nat → Int32) (z5 : Nat → Int32) (z6 : Nat → Int32) (z7 : Nat → Int32) (z8 : Nat → Int32) (z10 : Nat → Int32) (z11 : Nat → Int32) (z12 : Nat → Int32) (z13 : Nat → Int32) => [kX7 h ua ub uc ud ue z0, kX3 ua va z1, aI y va 10 z2, kX1 ub z3, kX8 uc vc1 vc2 vc3 vc4 vc5 z4, aI y vc1 20 z5, aI y vc2 20 z6, aI y vc3 20 z7, aI y vc4 20 z8, aI y vc5 20 o, kX10 ud vd z10, aI y vd 32 z11, kX0 ue ve z12, aI y ve 3 z13]) (congrFun hzf 0)) (congrFun hzf 1)) (congrFun hzf 2)) (congrFun hzf 3)) (congrFun hzf 4)) (congrFun hzf 5)) (congrFun hzf 6)) (congrFun hzf 7)) (congrFun hzf 8)) (congrFun hzf 9)) (congrFun hzf 10)) (congrFun hzf 11)) (congrFun hzf 12))) hS.2.2 dX5_succeeds_137
    · refine lv_aload_n hx hb dX5_succeeds_125 rfl (lv_at hl 2 rfl) ?_
      refine cl_Hi (wr := [kX3 ua va (z 1), aI y va 10 (z 2), aI y vc1 20 (z 5), aI y vc2 20 (z 6), aI y vc3 20 (z 7), aI y vc4 20 (z 8), aI y vc5 20 o, kX0 ue ve (z 11), aI y ve 3 (z 12)]) (fun _ : Unit => [kX7 h ua ub uc ud ue (s_X7_endTrial_z z 0), kX3 ua va (z 1), aI y va 10 (z 2), kX1 ub (s_X7_endTrial_z z 3), kX8 uc vc1 vc2 vc3 vc4 vc5 (s_X7_endTrial_z z 4), aI y vc1 20 (z 5), aI y vc2 20 (z 6), aI y vc3 20 (z 7), aI y vc4 20 (z 8), aI y vc5 20 o, kX10 ud vd (s_X7_endTrial_z z 9), aI y vd 32 (s_X7_endTrial_z z 10), kX0 ue ve (z 11), aI y ve 3 (z 12)]) [0, 3, 4, 10, 11] [1, 2, 5, 6, 7, 8, 9, 12, 13] [9, 0, 1, 10, 11, 2, 3, 4, 5, 6, 12, 13, 7, 8] (va_runV (As := []) (rest := []) ⟨hx, hb, hml, hown, hts⟩ (c_X7_endTrial l G y h ua ub uc ud ue z vc1 vc2 vc3 vc4 vc5 vd s.heap.size) (cwV 0 hts gX5_succeeds_X7_endTrial rfl rfl rfl (by decide +kernel) ⟨Nat.le_of_ble_eq_true rfl, Nat.le_of_ble_eq_true rfl⟩) (PH_V (hP.sub (ws' := [kX7 h ua ub uc ud ue (z 0), kX1 ub (z 3), kX8 uc vc1 vc2 vc3 vc4 vc5 (z 4), kX10 ud vd (z 9), aI y vd 32 (z 10)]) [0, 3, 4, 10, 11] rfl) hK hN (hD.sub (ws' := [kX7 h ua ub uc ud ue (z 0), kX1 ub (z 3), kX8 uc vc1 vc2 vc3 vc4 vc5 (z 4), kX10 ud vd (z 9), aI y vd 32 (z 10)]) [0, 3, 4, 10, 11] (by decide) rfl) (ci := 5) (q0 := 0) rfl rfl) rfl rfl hl.1 rfl (lv_room (Nat.le_of_ble_eq_true rfl)) dX5_succeeds_126 ⟨Nat.le_of_ble_eq_true rfl, Nat.le_of_ble_eq_true rfl⟩) hP hD hS hA rfl rfl rfl (by decide) rfl (fun _ => rfl) (fun _ H locs hP hD hS => ?_)
      have hP : va_P G vwCl [kX7 h ua ub uc ud ue (s_X7_endTrial_z z 0), kX3 ua va (s_X7_endTrial_z z 1), aI y va 10 (s_X7_endTrial_z z 2), kX1 ub (s_X7_endTrial_z z 3), kX8 uc vc1 vc2 vc3 vc4 vc5 (s_X7_endTrial_z z 4), aI y vc1 20 (s_X7_endTrial_z z 5), aI y vc2 20 (s_X7_endTrial_z z 6), aI y vc3 20 (s_X7_endTrial_z z 7), aI y vc4 20 (s_X7_endTrial_z z 8), aI y vc5 20 o, kX10 ud vd (s_X7_endTrial_z z 9), aI y vd 32 (s_X7_endTrial_z z 10), kX0 ue ve (s_X7_endTrial_z z 11), aI y ve 3 (s_X7_endTrial_z z 12)] H := hP
      have hD : va_D A [kX7 h ua ub uc ud ue (s_X7_endTrial_z z 0), kX3 ua va (s_X7_endTrial_z z 1), aI y va 10 (s_X7_endTrial_z z 2), kX1 ub (s_X7_endTrial_z z 3), kX8 uc vc1 vc2 vc3 vc4 vc5 (s_X7_endTrial_z z 4), aI y vc1 20 (s_X7_endTrial_z z 5), aI y vc2 20 (s_X7_endTrial_z z 6), aI y vc3 20 (s_X7_endTrial_z z 7), aI y vc4 20 (s_X7_endTrial_z z 8), aI y vc5 20 o, kX10 ud vd (s_X7_endTrial_z z 9), aI y vd 32 (s_X7_endTrial_z z 10), kX0 ue ve (s_X7_endTrial_z z 11), aI y ve 3 (s_X7_endTrial_z z 12)] := hD
      refine lv_if_eq (tgt := 136) hx hb dX5_succeeds_129 (by decide) (fun c_15 => ?_) (fun c_15 => ?_)
      · refine lv_iconst (v := 0) hx hb dX5_succeeds_136 (by decide) ?_
        have hzf : s_X7_endTrial_z z = s_X5_succeeds_z a1 z := (by unfold s_X5_succeeds_z; exact ((if_neg c_1).trans ((if_neg c_2).trans ((if_neg c_3).trans ((if_neg c_4).trans ((if_neg c_5).trans ((if_pos c_6).trans (if_pos c_14))))))).symm)
        exact W.zret hx hb hr (nz_bool (Or.inl rfl)) (end_Hi o hP hD hS (by unfold s_X5_succeeds_r; exact ((if_neg c_1).trans ((if_neg c_2).trans ((if_neg c_3).trans ((if_neg c_4).trans ((if_neg c_5).trans ((if_pos c_6).trans ((if_pos c_14).trans (if_pos c_15)))))))).symm) (congr (congr (congr (congr (congr (congr (congr (congr (congr (congr (congr (congr (congrArg (fun (z0 : Nat → Int32) (z1 : Nat → Int32) (z2 : Nat → Int32) (z3 : Nat → Int32) (z4 : Nat → Int32) (z5 : Nat → Int32) (z6 : Nat → Int32) (z7 : Nat → Int32) (z8 : Nat → Int32) (z10 : Nat → Int32) (z11 : Nat → Int32) (z12 : Nat → Int32) (z13 : Nat → Int32) => [kX7 h ua ub uc ud ue z0, kX3 ua va z1, aI y va 10 z2, kX1 ub z3, kX8 uc vc1 vc2 vc3 vc4 vc5 z4, aI y vc1 20 z5, aI y vc2 20 z6, aI y vc3 20 z7, aI y vc4 20 z8, aI y vc5 20 o, kX10 ud vd z10, aI y vd 32 z11, kX0 ue ve z12, aI y ve 3 z13]) (congrFun hzf 0)) (congrFun hzf 1)) (congrFun hzf 2)) (congrFun hzf 3)) (congrFun hzf 4)) (congrFun hzf 5)) (congrFun hzf 6)) (congrFun hzf 7)) (congrFun hzf 8)) (congrFun hzf 9)) (congrFun hzf 10)) (congrFun hzf 11)) (congrFun hzf 12))) hS.2.2 dX5_succeeds_137
      · refine lv_iconst (v := 1) hx hb dX5_succeeds_132 (by decide) ?_
        refine lv_goto (tgt := 137) hx hb dX5_succeeds_133 (by decide) ?_
        have hzf : s_X7_endTrial_z z = s_X5_succeeds_z a1 z := (by unfold s_X5_succeeds_z; exact ((if_neg c_1).trans ((if_neg c_2).trans ((if_neg c_3).trans ((if_neg c_4).trans ((if_neg c_5).trans ((if_pos c_6).trans (if_pos c_14))))))).symm)
        exact W.zret hx hb hr (nz_bool (Or.inr rfl)) (end_Hi o hP hD hS (by unfold s_X5_succeeds_r; exact ((if_neg c_1).trans ((if_neg c_2).trans ((if_neg c_3).trans ((if_neg c_4).trans ((if_neg c_5).trans ((if_pos c_6).trans ((if_pos c_14).trans (if_neg c_15)))))))).symm) (congr (congr (congr (congr (congr (congr (congr (congr (congr (congr (congr (congr (congrArg (fun (z0 : Nat → Int32) (z1 : Nat → Int32) (z2 : Nat → Int32) (z3 : Nat → Int32) (z4 : Nat → Int32) (z5 : Nat → Int32) (z6 : Nat → Int32) (z7 : Nat → Int32) (z8 : Nat → Int32) (z10 : Nat → Int32) (z11 : Nat → Int32) (z12 : Nat → Int32) (z13 : Nat → Int32) => [kX7 h ua ub uc ud ue z0, kX3 ua va z1, aI y va 10 z2, kX1 ub z3, kX8 uc vc1 vc2 vc3 vc4 vc5 z4, aI y vc1 20 z5, aI y vc2 20 z6, aI y vc3 20 z7, aI y vc4 20 z8, aI y vc5 20 o, kX10 ud vd z10, aI y vd 32 z11, kX0 ue ve z12, aI y ve 3 z13]) (congrFun hzf 0)) (congrFun hzf 1)) (congrFun hzf 2)) (congrFun hzf 3)) (congrFun hzf 4)) (congrFun hzf 5)) (congrFun hzf 6)) (congrFun hzf 7)) (congrFun hzf 8)) (congrFun hzf 9)) (congrFun hzf 10)) (congrFun hzf 11)) (congrFun hzf 12))) hS.2.2 dX5_succeeds_137
  rcases Decidable.em ((a1 / 10000) = 7) with c_7 | c_7
  · refine lv_tableIn (tgt := 138) hx hb dX5_succeeds_13 (by rw [c_7]; decide) (by rw [c_7]; decide) (by rw [c_7]; first | done | rfl) (by decide) ?_
    refine lv_iload_n hx hb dX5_succeeds_138 rfl (lv_at hl 0 rfl) ?_
    refine cl_Ri (va_runS (As := [.int (a1 - a1 / 10000 * 10000)]) (rest := []) ⟨hx, hb, hml, hown, hts⟩ (c_X5_hasSign l G y (a1 - a1 / 10000 * 10000)) (va_cwS 1 hts gX5_succeeds_X5_hasSign rfl rfl rfl (by decide +kernel) ⟨Nat.le_of_ble_eq_true rfl, Nat.le_of_ble_eq_true rfl⟩) (PR_S pnil hK hN) rfl rfl hl.1 rfl (lv_room (Nat.le_of_ble_eq_true rfl)) dX5_succeeds_139 ⟨Nat.le_of_ble_eq_true rfl, Nat.le_of_ble_eq_true rfl⟩) ?_
    refine lv_if_eq (tgt := 163) hx hb dX5_succeeds_142 (by decide) (fun c_16 => ?_) (fun c_16 => ?_)
    · refine lv_iconst (v := 0) hx hb dX5_succeeds_163 (by decide) ?_
      have hzf : z = s_X5_succeeds_z a1 z := (by unfold s_X5_succeeds_z; exact ((if_neg c_1).trans ((if_neg c_2).trans ((if_neg c_3).trans ((if_neg c_4).trans ((if_neg c_5).trans (if_neg c_6)))))).symm)
      exact W.zret hx hb hr (nz_bool (Or.inl rfl)) (end_Hi o hP hD hS (by unfold s_X5_succeeds_r; exact ((if_neg c_1).trans ((if_neg c_2).trans ((if_neg c_3).trans ((if_neg c_4).trans ((if_neg c_5).trans ((if_neg c_6).trans ((if_pos c_7).trans (if_pos c_16)))))))).symm) (congr (congr (congr (congr (congr (congr (congr (congr (congr (congr (congr (congr (congrArg (fun (z0 : Nat → Int32) (z1 : Nat → Int32) (z2 : Nat → Int32) (z3 : Nat → Int32) (z4 : Nat → Int32) (z5 : Nat → Int32) (z6 : Nat → Int32) (z7 : Nat → Int32) (z8 : Nat → Int32) (z10 : Nat → Int32) (z11 : Nat → Int32) (z12 : Nat → Int32) (z13 : Nat → Int32) => [kX7 h ua ub uc ud ue z0, kX3 ua va z1, aI y va 10 z2, kX1 ub z3, kX8 uc vc1 vc2 vc3 vc4 vc5 z4, aI y vc1 20 z5, aI y vc2 20 z6, aI y vc3 20 z7, aI y vc4 20 z8, aI y vc5 20 o, kX10 ud vd z10, aI y vd 32 z11, kX0 ue ve z12, aI y ve 3 z13]) (congrFun hzf 0)) (congrFun hzf 1)) (congrFun hzf 2)) (congrFun hzf 3)) (congrFun hzf 4)) (congrFun hzf 5)) (congrFun hzf 6)) (congrFun hzf 7)) (congrFun hzf 8)) (congrFun hzf 9)) (congrFun hzf 10)) (congrFun hzf 11)) (congrFun hzf 12))) hS.2.2 dX5_succeeds_164
    · refine lv_aload_n hx hb dX5_succeeds_145 rfl (lv_at hl 2 rfl) ?_
      refine va_getN (D := G) (ci := 5) (v := .ref ua) (C := RX7) (T := TX7) (N := 6) hx hb hts i_X7 hown hK hP 0 rfl rfl 1 (by decide) (NN.f hN (a := RX5) (i := 41) (b := "RelayTuner$State") (n := "plant") (d := "LRelayTuner$Plant;") (by decide +kernel)) (fun _ h9 => h9) rfl dX5_succeeds_146 ?_
      refine va_getN (D := G) (ci := 3) (v := .int ((z 1) 5)) (C := RX3) (T := TX3) (N := 8) hx hb hts i_X3 hown hK hP 1 rfl rfl 5 (by decide) (NN.f hN (a := RX5) (i := 45) (b := "RelayTuner$Plant") (n := "temperature") (d := "I") (by decide +kernel)) (fun _ h9 => h9) rfl dX5_succeeds_149 ?_
      refine lv_iload_n hx hb dX5_succeeds_152 rfl (lv_at hl 0 rfl) ?_
      refine cl_Ri (va_runS (As := [.int (a1 - a1 / 10000 * 10000)]) (rest := [.int ((z 1) 5)]) ⟨hx, hb, hml, hown, hts⟩ (c_X5_signed l G y (a1 - a1 / 10000 * 10000)) (va_cwS 1 hts gX5_succeeds_X5_signed rfl rfl rfl (by decide +kernel) ⟨Nat.le_of_ble_eq_true rfl, Nat.le_of_ble_eq_true rfl⟩) (PR_S pnil hK hN) rfl rfl hl.1 rfl (lv_room (Nat.le_of_ble_eq_true rfl)) dX5_succeeds_153 ⟨Nat.le_of_ble_eq_true rfl, Nat.le_of_ble_eq_true rfl⟩) ?_
      refine lv_icmp_lt (tgt := 163) hx hb dX5_succeeds_156 (by decide) (fun c_17 => ?_) (fun c_17 => ?_)
      · refine lv_iconst (v := 0) hx hb dX5_succeeds_163 (by decide) ?_
        have hzf : z = s_X5_succeeds_z a1 z := (by unfold s_X5_succeeds_z; exact ((if_neg c_1).trans ((if_neg c_2).trans ((if_neg c_3).trans ((if_neg c_4).trans ((if_neg c_5).trans (if_neg c_6)))))).symm)
        exact W.zret hx hb hr (nz_bool (Or.inl rfl)) (end_Hi o hP hD hS (by unfold s_X5_succeeds_r; exact ((if_neg c_1).trans ((if_neg c_2).trans ((if_neg c_3).trans ((if_neg c_4).trans ((if_neg c_5).trans ((if_neg c_6).trans ((if_pos c_7).trans ((if_neg c_16).trans (if_pos c_17))))))))).symm) (congr (congr (congr (congr (congr (congr (congr (congr (congr (congr (congr (congr (congrArg (fun (z0 : Nat → Int32) (z1 : Nat → Int32) (z2 : Nat → Int32) (z3 : Nat → Int32) (z4 : Nat → Int32) (z5 : Nat → Int32) (z6 : Nat → Int32) (z7 : Nat → Int32) (z8 : Nat → Int32) (z10 : Nat → Int32) (z11 : Nat → Int32) (z12 : Nat → Int32) (z13 : Nat → Int32) => [kX7 h ua ub uc ud ue z0, kX3 ua va z1, aI y va 10 z2, kX1 ub z3, kX8 uc vc1 vc2 vc3 vc4 vc5 z4, aI y vc1 20 z5, aI y vc2 20 z6, aI y vc3 20 z7, aI y vc4 20 z8, aI y vc5 20 o, kX10 ud vd z10, aI y vd 32 z11, kX0 ue ve z12, aI y ve 3 z13]) (congrFun hzf 0)) (congrFun hzf 1)) (congrFun hzf 2)) (congrFun hzf 3)) (congrFun hzf 4)) (congrFun hzf 5)) (congrFun hzf 6)) (congrFun hzf 7)) (congrFun hzf 8)) (congrFun hzf 9)) (congrFun hzf 10)) (congrFun hzf 11)) (congrFun hzf 12))) hS.2.2 dX5_succeeds_164
      · refine lv_iconst (v := 1) hx hb dX5_succeeds_159 (by decide) ?_
        refine lv_goto (tgt := 164) hx hb dX5_succeeds_160 (by decide) ?_
        have hzf : z = s_X5_succeeds_z a1 z := (by unfold s_X5_succeeds_z; exact ((if_neg c_1).trans ((if_neg c_2).trans ((if_neg c_3).trans ((if_neg c_4).trans ((if_neg c_5).trans (if_neg c_6)))))).symm)
        exact W.zret hx hb hr (nz_bool (Or.inr rfl)) (end_Hi o hP hD hS (by unfold s_X5_succeeds_r; exact ((if_neg c_1).trans ((if_neg c_2).trans ((if_neg c_3).trans ((if_neg c_4).trans ((if_neg c_5).trans ((if_neg c_6).trans ((if_pos c_7).trans ((if_neg c_16).trans (if_neg c_17))))))))).symm) (congr (congr (congr (congr (congr (congr (congr (congr (congr (congr (congr (congr (congrArg (fun (z0 : Nat → Int32) (z1 : Nat → Int32) (z2 : Nat → Int32) (z3 : Nat → Int32) (z4 : Nat → Int32) (z5 : Nat → Int32) (z6 : Nat → Int32) (z7 : Nat → Int32) (z8 : Nat → Int32) (z10 : Nat → Int32) (z11 : Nat → Int32) (z12 : Nat → Int32) (z13 : Nat → Int32) => [kX7 h ua ub uc ud ue z0, kX3 ua va z1, aI y va 10 z2, kX1 ub z3, kX8 uc vc1 vc2 vc3 vc4 vc5 z4, aI y vc1 20 z5, aI y vc2 20 z6, aI y vc3 20 z7, aI y vc4 20 z8, aI y vc5 20 o, kX10 ud vd z10, aI y vd 32 z11, kX0 ue ve z12, aI y ve 3 z13]) (congrFun hzf 0)) (congrFun hzf 1)) (congrFun hzf 2)) (congrFun hzf 3)) (congrFun hzf 4)) (congrFun hzf 5)) (congrFun hzf 6)) (congrFun hzf 7)) (congrFun hzf 8)) (congrFun hzf 9)) (congrFun hzf 10)) (congrFun hzf 11)) (congrFun hzf 12))) hS.2.2 dX5_succeeds_164
  rcases Decidable.em ((a1 / 10000) = 8) with c_8 | c_8
  · refine lv_tableIn (tgt := 165) hx hb dX5_succeeds_13 (by rw [c_8]; decide) (by rw [c_8]; decide) (by rw [c_8]; first | done | rfl) (by decide) ?_
    refine lv_iload_n hx hb dX5_succeeds_165 rfl (lv_at hl 0 rfl) ?_
    refine lv_bipush (v := 99) hx hb dX5_succeeds_166 (by decide) ?_
    refine lv_icmp_gt (tgt := 183) hx hb dX5_succeeds_168 (by decide) (fun c_18 => ?_) (fun c_18 => ?_)
    · refine lv_iconst (v := 0) hx hb dX5_succeeds_183 (by decide) ?_
      have hzf : z = s_X5_succeeds_z a1 z := (by unfold s_X5_succeeds_z; exact ((if_neg c_1).trans ((if_neg c_2).trans ((if_neg c_3).trans ((if_neg c_4).trans ((if_neg c_5).trans (if_neg c_6)))))).symm)
      exact W.zret hx hb hr (nz_bool (Or.inl rfl)) (end_Hi o hP hD hS (by unfold s_X5_succeeds_r; exact ((if_neg c_1).trans ((if_neg c_2).trans ((if_neg c_3).trans ((if_neg c_4).trans ((if_neg c_5).trans ((if_neg c_6).trans ((if_neg c_7).trans ((if_pos c_8).trans (if_pos c_18))))))))).symm) (congr (congr (congr (congr (congr (congr (congr (congr (congr (congr (congr (congr (congrArg (fun (z0 : Nat → Int32) (z1 : Nat → Int32) (z2 : Nat → Int32) (z3 : Nat → Int32) (z4 : Nat → Int32) (z5 : Nat → Int32) (z6 : Nat → Int32) (z7 : Nat → Int32) (z8 : Nat → Int32) (z10 : Nat → Int32) (z11 : Nat → Int32) (z12 : Nat → Int32) (z13 : Nat → Int32) => [kX7 h ua ub uc ud ue z0, kX3 ua va z1, aI y va 10 z2, kX1 ub z3, kX8 uc vc1 vc2 vc3 vc4 vc5 z4, aI y vc1 20 z5, aI y vc2 20 z6, aI y vc3 20 z7, aI y vc4 20 z8, aI y vc5 20 o, kX10 ud vd z10, aI y vd 32 z11, kX0 ue ve z12, aI y ve 3 z13]) (congrFun hzf 0)) (congrFun hzf 1)) (congrFun hzf 2)) (congrFun hzf 3)) (congrFun hzf 4)) (congrFun hzf 5)) (congrFun hzf 6)) (congrFun hzf 7)) (congrFun hzf 8)) (congrFun hzf 9)) (congrFun hzf 10)) (congrFun hzf 11)) (congrFun hzf 12))) hS.2.2 dX5_succeeds_184
    · refine lv_aload_n hx hb dX5_succeeds_171 rfl (lv_at hl 2 rfl) ?_
      refine cl_Hi (wr := [kX3 ua va (z 1), aI y va 10 (z 2), kX10 ud vd (z 9), aI y vd 32 (z 10), kX0 ue ve (z 11), aI y ve 3 (z 12)]) (fun u : (Nat → Int32) => [kX7 h ua ub uc ud ue (z 0), kX3 ua va (z 1), aI y va 10 (z 2), kX1 ub (z 3), kX8 uc vc1 vc2 vc3 vc4 vc5 (z 4), aI y vc1 20 (z 5), aI y vc2 20 (z 6), aI y vc3 20 (z 7), aI y vc4 20 (z 8), aI y vc5 20 u, kX10 ud vd (z 9), aI y vd 32 (z 10), kX0 ue ve (z 11), aI y ve 3 (z 12)]) [0, 3, 4, 5, 6, 7, 8, 9] [1, 2, 10, 11, 12, 13] [6, 0, 1, 7, 8, 9, 10, 11, 12, 13, 2, 3, 4, 5] (va_runV (As := []) (rest := []) ⟨hx, hb, hml, hown, hts⟩ (c_X7_goodCount l G y h ua ub uc ud ue z vc1 vc2 vc3 vc4 vc5 o s.heap.size hTC.1) (cwV 0 hts gX5_succeeds_X7_goodCount rfl rfl rfl (by decide +kernel) ⟨Nat.le_of_ble_eq_true rfl, Nat.le_of_ble_eq_true rfl⟩) (PH_V (hP.sub (ws' := [kX7 h ua ub uc ud ue (z 0), kX1 ub (z 3), kX8 uc vc1 vc2 vc3 vc4 vc5 (z 4), aI y vc1 20 (z 5), aI y vc2 20 (z 6), aI y vc3 20 (z 7), aI y vc4 20 (z 8), aI y vc5 20 o]) [0, 3, 4, 5, 6, 7, 8, 9] rfl) hK hN (hD.sub (ws' := [kX7 h ua ub uc ud ue (z 0), kX1 ub (z 3), kX8 uc vc1 vc2 vc3 vc4 vc5 (z 4), aI y vc1 20 (z 5), aI y vc2 20 (z 6), aI y vc3 20 (z 7), aI y vc4 20 (z 8), aI y vc5 20 o]) [0, 3, 4, 5, 6, 7, 8, 9] (by decide) rfl) (ci := 5) (q0 := 0) rfl rfl) rfl rfl hl.1 rfl (lv_room (Nat.le_of_ble_eq_true rfl)) dX5_succeeds_172 ⟨Nat.le_of_ble_eq_true rfl, Nat.le_of_ble_eq_true rfl⟩) hP hD hS hA rfl rfl rfl (by decide) rfl (fun _ => rfl) (fun u H locs hP hD hS => ?_)
      obtain ⟨o_19, rfl⟩ : ∃ zq9, zq9 = u := ⟨_, rfl⟩
      have hP : va_P G vwCl [kX7 h ua ub uc ud ue (z 0), kX3 ua va (z 1), aI y va 10 (z 2), kX1 ub (z 3), kX8 uc vc1 vc2 vc3 vc4 vc5 (z 4), aI y vc1 20 (z 5), aI y vc2 20 (z 6), aI y vc3 20 (z 7), aI y vc4 20 (z 8), aI y vc5 20 o_19, kX10 ud vd (z 9), aI y vd 32 (z 10), kX0 ue ve (z 11), aI y ve 3 (z 12)] H := hP
      have hD : va_D A [kX7 h ua ub uc ud ue (z 0), kX3 ua va (z 1), aI y va 10 (z 2), kX1 ub (z 3), kX8 uc vc1 vc2 vc3 vc4 vc5 (z 4), aI y vc1 20 (z 5), aI y vc2 20 (z 6), aI y vc3 20 (z 7), aI y vc4 20 (z 8), aI y vc5 20 o_19, kX10 ud vd (z 9), aI y vd 32 (z 10), kX0 ue ve (z 11), aI y ve 3 (z 12)] := hD
      refine lv_iload_n hx hb dX5_succeeds_175 rfl (lv_at hl 0 rfl) ?_
      refine lv_icmp_lt (tgt := 183) hx hb dX5_succeeds_176 (by decide) (fun c_20 => ?_) (fun c_20 => ?_)
      · refine lv_iconst (v := 0) hx hb dX5_succeeds_183 (by decide) ?_
        have hzf : z = s_X5_succeeds_z a1 z := (by unfold s_X5_succeeds_z; exact ((if_neg c_1).trans ((if_neg c_2).trans ((if_neg c_3).trans ((if_neg c_4).trans ((if_neg c_5).trans (if_neg c_6)))))).symm)
        exact W.zret hx hb hr (nz_bool (Or.inl rfl)) (end_Hi o_19 hP hD hS (by unfold s_X5_succeeds_r; exact ((if_neg c_1).trans ((if_neg c_2).trans ((if_neg c_3).trans ((if_neg c_4).trans ((if_neg c_5).trans ((if_neg c_6).trans ((if_neg c_7).trans ((if_pos c_8).trans ((if_neg c_18).trans (if_pos c_20)))))))))).symm) (congr (congr (congr (congr (congr (congr (congr (congr (congr (congr (congr (congr (congrArg (fun (z0 : Nat → Int32) (z1 : Nat → Int32) (z2 : Nat → Int32) (z3 : Nat → Int32) (z4 : Nat → Int32) (z5 : Nat → Int32) (z6 : Nat → Int32) (z7 : Nat → Int32) (z8 : Nat → Int32) (z10 : Nat → Int32) (z11 : Nat → Int32) (z12 : Nat → Int32) (z13 : Nat → Int32) => [kX7 h ua ub uc ud ue z0, kX3 ua va z1, aI y va 10 z2, kX1 ub z3, kX8 uc vc1 vc2 vc3 vc4 vc5 z4, aI y vc1 20 z5, aI y vc2 20 z6, aI y vc3 20 z7, aI y vc4 20 z8, aI y vc5 20 o_19, kX10 ud vd z10, aI y vd 32 z11, kX0 ue ve z12, aI y ve 3 z13]) (congrFun hzf 0)) (congrFun hzf 1)) (congrFun hzf 2)) (congrFun hzf 3)) (congrFun hzf 4)) (congrFun hzf 5)) (congrFun hzf 6)) (congrFun hzf 7)) (congrFun hzf 8)) (congrFun hzf 9)) (congrFun hzf 10)) (congrFun hzf 11)) (congrFun hzf 12))) hS.2.2 dX5_succeeds_184
      · refine lv_iconst (v := 1) hx hb dX5_succeeds_179 (by decide) ?_
        refine lv_goto (tgt := 184) hx hb dX5_succeeds_180 (by decide) ?_
        have hzf : z = s_X5_succeeds_z a1 z := (by unfold s_X5_succeeds_z; exact ((if_neg c_1).trans ((if_neg c_2).trans ((if_neg c_3).trans ((if_neg c_4).trans ((if_neg c_5).trans (if_neg c_6)))))).symm)
        exact W.zret hx hb hr (nz_bool (Or.inr rfl)) (end_Hi o_19 hP hD hS (by unfold s_X5_succeeds_r; exact ((if_neg c_1).trans ((if_neg c_2).trans ((if_neg c_3).trans ((if_neg c_4).trans ((if_neg c_5).trans ((if_neg c_6).trans ((if_neg c_7).trans ((if_pos c_8).trans ((if_neg c_18).trans (if_neg c_20)))))))))).symm) (congr (congr (congr (congr (congr (congr (congr (congr (congr (congr (congr (congr (congrArg (fun (z0 : Nat → Int32) (z1 : Nat → Int32) (z2 : Nat → Int32) (z3 : Nat → Int32) (z4 : Nat → Int32) (z5 : Nat → Int32) (z6 : Nat → Int32) (z7 : Nat → Int32) (z8 : Nat → Int32) (z10 : Nat → Int32) (z11 : Nat → Int32) (z12 : Nat → Int32) (z13 : Nat → Int32) => [kX7 h ua ub uc ud ue z0, kX3 ua va z1, aI y va 10 z2, kX1 ub z3, kX8 uc vc1 vc2 vc3 vc4 vc5 z4, aI y vc1 20 z5, aI y vc2 20 z6, aI y vc3 20 z7, aI y vc4 20 z8, aI y vc5 20 o_19, kX10 ud vd z10, aI y vd 32 z11, kX0 ue ve z12, aI y ve 3 z13]) (congrFun hzf 0)) (congrFun hzf 1)) (congrFun hzf 2)) (congrFun hzf 3)) (congrFun hzf 4)) (congrFun hzf 5)) (congrFun hzf 6)) (congrFun hzf 7)) (congrFun hzf 8)) (congrFun hzf 9)) (congrFun hzf 10)) (congrFun hzf 11)) (congrFun hzf 12))) hS.2.2 dX5_succeeds_184
  rcases Decidable.em ((a1 / 10000) = 9) with c_9 | c_9
  · refine lv_tableIn (tgt := 185) hx hb dX5_succeeds_13 (by rw [c_9]; decide) (by rw [c_9]; decide) (by rw [c_9]; first | done | rfl) (by decide) ?_
    refine lv_iload_n hx hb dX5_succeeds_185 rfl (lv_at hl 0 rfl) ?_
    refine lv_bipush (v := 9) hx hb dX5_succeeds_186 (by decide) ?_
    refine lv_icmp_gt (tgt := 206) hx hb dX5_succeeds_188 (by decide) (fun c_21 => ?_) (fun c_21 => ?_)
    · refine lv_iconst (v := 0) hx hb dX5_succeeds_206 (by decide) ?_
      have hzf : z = s_X5_succeeds_z a1 z := (by unfold s_X5_succeeds_z; exact ((if_neg c_1).trans ((if_neg c_2).trans ((if_neg c_3).trans ((if_neg c_4).trans ((if_neg c_5).trans (if_neg c_6)))))).symm)
      exact W.zret hx hb hr (nz_bool (Or.inl rfl)) (end_Hi o hP hD hS (by unfold s_X5_succeeds_r; exact ((if_neg c_1).trans ((if_neg c_2).trans ((if_neg c_3).trans ((if_neg c_4).trans ((if_neg c_5).trans ((if_neg c_6).trans ((if_neg c_7).trans ((if_neg c_8).trans ((if_pos c_9).trans (if_pos c_21)))))))))).symm) (congr (congr (congr (congr (congr (congr (congr (congr (congr (congr (congr (congr (congrArg (fun (z0 : Nat → Int32) (z1 : Nat → Int32) (z2 : Nat → Int32) (z3 : Nat → Int32) (z4 : Nat → Int32) (z5 : Nat → Int32) (z6 : Nat → Int32) (z7 : Nat → Int32) (z8 : Nat → Int32) (z10 : Nat → Int32) (z11 : Nat → Int32) (z12 : Nat → Int32) (z13 : Nat → Int32) => [kX7 h ua ub uc ud ue z0, kX3 ua va z1, aI y va 10 z2, kX1 ub z3, kX8 uc vc1 vc2 vc3 vc4 vc5 z4, aI y vc1 20 z5, aI y vc2 20 z6, aI y vc3 20 z7, aI y vc4 20 z8, aI y vc5 20 o, kX10 ud vd z10, aI y vd 32 z11, kX0 ue ve z12, aI y ve 3 z13]) (congrFun hzf 0)) (congrFun hzf 1)) (congrFun hzf 2)) (congrFun hzf 3)) (congrFun hzf 4)) (congrFun hzf 5)) (congrFun hzf 6)) (congrFun hzf 7)) (congrFun hzf 8)) (congrFun hzf 9)) (congrFun hzf 10)) (congrFun hzf 11)) (congrFun hzf 12))) hS.2.2 dX5_succeeds_207
    · refine lv_aload_n hx hb dX5_succeeds_191 rfl (lv_at hl 2 rfl) ?_
      refine va_getN (D := G) (ci := 5) (v := .ref ud) (C := RX7) (T := TX7) (N := 6) hx hb hts i_X7 hown hK hP 0 rfl rfl 4 (by decide) (NN.f hN (a := RX5) (i := 55) (b := "RelayTuner$State") (n := "trials") (d := "LRelayTuner$Trials;") (by decide +kernel)) (fun _ h9 => h9) rfl dX5_succeeds_192 ?_
      refine va_getN (D := G) (ci := 8) (v := .int ((z 9) 0)) (C := RX10) (T := TX10) (N := 2) hx hb hts i_X10 hown hK hP 10 rfl rfl 0 (by decide) (NN.f hN (a := RX5) (i := 59) (b := "RelayTuner$Trials") (n := "count") (d := "I") (by decide +kernel)) (fun _ h9 => h9) rfl dX5_succeeds_195 ?_
      refine lv_iload_n hx hb dX5_succeeds_198 rfl (lv_at hl 0 rfl) ?_
      refine lv_icmp_ne (tgt := 206) hx hb dX5_succeeds_199 (by decide) (fun c_22 => ?_) (fun c_22 => ?_)
      · refine lv_iconst (v := 0) hx hb dX5_succeeds_206 (by decide) ?_
        have hzf : z = s_X5_succeeds_z a1 z := (by unfold s_X5_succeeds_z; exact ((if_neg c_1).trans ((if_neg c_2).trans ((if_neg c_3).trans ((if_neg c_4).trans ((if_neg c_5).trans (if_neg c_6)))))).symm)
        exact W.zret hx hb hr (nz_bool (Or.inl rfl)) (end_Hi o hP hD hS (by unfold s_X5_succeeds_r; exact ((if_neg c_1).trans ((if_neg c_2).trans ((if_neg c_3).trans ((if_neg c_4).trans ((if_neg c_5).trans ((if_neg c_6).trans ((if_neg c_7).trans ((if_neg c_8).trans ((if_pos c_9).trans ((if_neg c_21).trans (if_neg c_22))))))))))).symm) (congr (congr (congr (congr (congr (congr (congr (congr (congr (congr (congr (congr (congrArg (fun (z0 : Nat → Int32) (z1 : Nat → Int32) (z2 : Nat → Int32) (z3 : Nat → Int32) (z4 : Nat → Int32) (z5 : Nat → Int32) (z6 : Nat → Int32) (z7 : Nat → Int32) (z8 : Nat → Int32) (z10 : Nat → Int32) (z11 : Nat → Int32) (z12 : Nat → Int32) (z13 : Nat → Int32) => [kX7 h ua ub uc ud ue z0, kX3 ua va z1, aI y va 10 z2, kX1 ub z3, kX8 uc vc1 vc2 vc3 vc4 vc5 z4, aI y vc1 20 z5, aI y vc2 20 z6, aI y vc3 20 z7, aI y vc4 20 z8, aI y vc5 20 o, kX10 ud vd z10, aI y vd 32 z11, kX0 ue ve z12, aI y ve 3 z13]) (congrFun hzf 0)) (congrFun hzf 1)) (congrFun hzf 2)) (congrFun hzf 3)) (congrFun hzf 4)) (congrFun hzf 5)) (congrFun hzf 6)) (congrFun hzf 7)) (congrFun hzf 8)) (congrFun hzf 9)) (congrFun hzf 10)) (congrFun hzf 11)) (congrFun hzf 12))) hS.2.2 dX5_succeeds_207
      · refine lv_iconst (v := 1) hx hb dX5_succeeds_202 (by decide) ?_
        refine lv_goto (tgt := 207) hx hb dX5_succeeds_203 (by decide) ?_
        have hzf : z = s_X5_succeeds_z a1 z := (by unfold s_X5_succeeds_z; exact ((if_neg c_1).trans ((if_neg c_2).trans ((if_neg c_3).trans ((if_neg c_4).trans ((if_neg c_5).trans (if_neg c_6)))))).symm)
        exact W.zret hx hb hr (nz_bool (Or.inr rfl)) (end_Hi o hP hD hS (by unfold s_X5_succeeds_r; exact ((if_neg c_1).trans ((if_neg c_2).trans ((if_neg c_3).trans ((if_neg c_4).trans ((if_neg c_5).trans ((if_neg c_6).trans ((if_neg c_7).trans ((if_neg c_8).trans ((if_pos c_9).trans ((if_neg c_21).trans (if_pos c_22))))))))))).symm) (congr (congr (congr (congr (congr (congr (congr (congr (congr (congr (congr (congr (congrArg (fun (z0 : Nat → Int32) (z1 : Nat → Int32) (z2 : Nat → Int32) (z3 : Nat → Int32) (z4 : Nat → Int32) (z5 : Nat → Int32) (z6 : Nat → Int32) (z7 : Nat → Int32) (z8 : Nat → Int32) (z10 : Nat → Int32) (z11 : Nat → Int32) (z12 : Nat → Int32) (z13 : Nat → Int32) => [kX7 h ua ub uc ud ue z0, kX3 ua va z1, aI y va 10 z2, kX1 ub z3, kX8 uc vc1 vc2 vc3 vc4 vc5 z4, aI y vc1 20 z5, aI y vc2 20 z6, aI y vc3 20 z7, aI y vc4 20 z8, aI y vc5 20 o, kX10 ud vd z10, aI y vd 32 z11, kX0 ue ve z12, aI y ve 3 z13]) (congrFun hzf 0)) (congrFun hzf 1)) (congrFun hzf 2)) (congrFun hzf 3)) (congrFun hzf 4)) (congrFun hzf 5)) (congrFun hzf 6)) (congrFun hzf 7)) (congrFun hzf 8)) (congrFun hzf 9)) (congrFun hzf 10)) (congrFun hzf 11)) (congrFun hzf 12))) hS.2.2 dX5_succeeds_207
  refine lv_tableOut (tgt := 208) hx hb dX5_succeeds_13 (by have e0 : (a1 / 10000).toInt ≠ 1 := fun h => c_1 (Int32.toInt_inj.mp h); have e1 : (a1 / 10000).toInt ≠ 2 := fun h => c_2 (Int32.toInt_inj.mp h); have e2 : (a1 / 10000).toInt ≠ 3 := fun h => c_3 (Int32.toInt_inj.mp h); have e3 : (a1 / 10000).toInt ≠ 4 := fun h => c_4 (Int32.toInt_inj.mp h); have e4 : (a1 / 10000).toInt ≠ 5 := fun h => c_5 (Int32.toInt_inj.mp h); have e5 : (a1 / 10000).toInt ≠ 6 := fun h => c_6 (Int32.toInt_inj.mp h); have e6 : (a1 / 10000).toInt ≠ 7 := fun h => c_7 (Int32.toInt_inj.mp h); have e7 : (a1 / 10000).toInt ≠ 8 := fun h => c_8 (Int32.toInt_inj.mp h); have e8 : (a1 / 10000).toInt ≠ 9 := fun h => c_9 (Int32.toInt_inj.mp h); omega) (by decide) ?_
  refine lv_iconst (v := 0) hx hb dX5_succeeds_208 (by decide) ?_
  have hzf : z = s_X5_succeeds_z a1 z := (by unfold s_X5_succeeds_z; exact ((if_neg c_1).trans ((if_neg c_2).trans ((if_neg c_3).trans ((if_neg c_4).trans ((if_neg c_5).trans (if_neg c_6)))))).symm)
  exact W.zret hx hb hr (nz_bool (Or.inl rfl)) (end_Hi o hP hD hS (by unfold s_X5_succeeds_r; exact ((if_neg c_1).trans ((if_neg c_2).trans ((if_neg c_3).trans ((if_neg c_4).trans ((if_neg c_5).trans ((if_neg c_6).trans ((if_neg c_7).trans ((if_neg c_8).trans (if_neg c_9))))))))).symm) (congr (congr (congr (congr (congr (congr (congr (congr (congr (congr (congr (congr (congrArg (fun (z0 : Nat → Int32) (z1 : Nat → Int32) (z2 : Nat → Int32) (z3 : Nat → Int32) (z4 : Nat → Int32) (z5 : Nat → Int32) (z6 : Nat → Int32) (z7 : Nat → Int32) (z8 : Nat → Int32) (z10 : Nat → Int32) (z11 : Nat → Int32) (z12 : Nat → Int32) (z13 : Nat → Int32) => [kX7 h ua ub uc ud ue z0, kX3 ua va z1, aI y va 10 z2, kX1 ub z3, kX8 uc vc1 vc2 vc3 vc4 vc5 z4, aI y vc1 20 z5, aI y vc2 20 z6, aI y vc3 20 z7, aI y vc4 20 z8, aI y vc5 20 o, kX10 ud vd z10, aI y vd 32 z11, kX0 ue ve z12, aI y ve 3 z13]) (congrFun hzf 0)) (congrFun hzf 1)) (congrFun hzf 2)) (congrFun hzf 3)) (congrFun hzf 4)) (congrFun hzf 5)) (congrFun hzf 6)) (congrFun hzf 7)) (congrFun hzf 8)) (congrFun hzf 9)) (congrFun hzf 10)) (congrFun hzf 11)) (congrFun hzf 12))) hS.2.2 dX5_succeeds_209

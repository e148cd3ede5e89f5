abbrev Z0 : Nat → Int32 := fun _ => 0
section EQY
variable {G : va_G} {y : Nat → ClassId} {U : State} {cA : ClassId}
theorem eqI (hK : va_K G vwCl (tyG y ++ [(cA, .int)]) U) : cA = y 0 := Option.some.inj ((hK.2 4 _ rfl).2.symm.trans (hK.2 0 _ rfl).2)
theorem eqC (hK : va_K G vwCl (tyG y ++ [(cA, .char)]) U) : cA = y 1 := Option.some.inj ((hK.2 4 _ rfl).2.symm.trans (hK.2 1 _ rfl).2)
theorem eqZ (hK : va_K G vwCl (tyG y ++ [(cA, .boolean)]) U) : cA = y 2 := Option.some.inj ((hK.2 4 _ rfl).2.symm.trans (hK.2 2 _ rfl).2)
theorem eqQ (hK : va_K G vwCl (tyG y ++ [(cA, .object "RelayTuner$State")]) U) : cA = y 3 := by
  obtain ⟨_, _, _, _, _, h1⟩ := (hK.2 4 _ rfl).2
  obtain ⟨_, _, _, _, _, h2⟩ := (hK.2 3 _ rfl).2
  exact Option.some.inj (h1.symm.trans h2)
end EQY

def i_X3_init_0 : Nat → Int32 := (upd (upd (upd (upd (upd (upd Z0 0 10) 1 8) 2 2) 3 20) 4 20) 5 20)
abbrev rmX3_init : Room := ({ frames := 1, cells := 1, slots := 10, locals := 20 } : Room)
set_option maxHeartbeats 4000000 in
set_option maxRecDepth 100000 in
theorem c_X3_init (l : Launch) (G : va_G) (y : Nat → ClassId) (h : Nat) (sz : Nat) : Met l yX3_init wsX3_init rmX3_init (PH G y [.ref h] [(h, .inr (3, [.int (Z0 0), .int (Z0 1), .int (Z0 2), .int (Z0 3), .int (Z0 4), .int (Z0 5), .null, .int (Z0 7)]))] sz) (QHv G (fun u : Nat → Nat => [kX3 h (u 0) i_X3_init_0, aI y (u 0) 10 Z0]) (va_A [(h, .inr (3, [.int (Z0 0), .int (Z0 1), .int (Z0 2), .int (Z0 3), .int (Z0 4), .int (Z0 5), .null, .int (Z0 7)]))] sz)) 1 10 (va_A [(h, .inr (3, [.int (Z0 0), .int (Z0 1), .int (Z0 2), .int (Z0 3), .int (Z0 4), .int (Z0 5), .null, .int (Z0 7)]))] sz) := by
  refine Met.ofW (cc := cX3_init) (maxL := 1) (ret := none) (by decide) rfl ?_
  intro p e s m args below meth c s₁ B hml hv
  obtain ⟨rfl, hsz, hP, ⟨hK, hN⟩, hD0⟩ := hv
  have hx := B.exec
  have hb := B.bytes
  have hr := B.returns
  have hts := atoms_spec (ws := wsX3_init) B.pre
  have hown : s.vm.findClass RX3 = some m.cls := findClass_of_methodNamed B.named
  have hlocks := B.notSynchronized
  have hin : meth.name = "<init>" := (name_of_methodNamed B.named B.method).1
  have i_X3 : ∀ w ∈ u_ws RX3 TX3 8, w ∈ wsX3_init := by decide +kernel
  subst hsz
  have hD := hD0.self (sz := s.heap.size)
  generalize hAe : va_A [(h, .inr (3, [.int (Z0 0), .int (Z0 1), .int (Z0 2), .int (Z0 3), .int (Z0 4), .int (Z0 5), .null, .int (Z0 7)]))] s.heap.size = A at hD ⊢
  have hA : ∀ q : Nat, s.heap.size ≤ q → A q := fun q h => by rw [← hAe]; exact Or.inr h
  have hS : va_S A s.heap s.heap [] := va_S.rf
  have hP : va_P G vwCl [(h, .inr (3, [.int (Z0 0), .int (Z0 1), .int (Z0 2), .int (Z0 3), .int (Z0 4), .int (Z0 5), .null, .int (Z0 7)]))] s.heap := hP
  have hl := lv_entry ([.ref h]) (n := 1) (Nat.le_of_ble_eq_true rfl)
  rw [lg_entry_eq]
  generalize (lg_sl ([.ref h]) ++ List.replicate (1 - (lg_sl ([.ref h])).length) Slot.unset).toArray = ls at hl ⊢
  have hl : lv_has ls 1 [(0, .ref h)] := hl
  refine lv_aload_n hx hb dX3_init_0 rfl (lv_at hl 0 rfl) ?_
  refine W.objInit hx hb hown (hts (.methodLink RX3 3 objectInit) (by decide +kernel)) (hts (.instanceMethod objectInit) (by decide +kernel)) (hts (.code objectInit ⟨#[0xb1]⟩ 1 none) (by decide +kernel)) rfl (by rw [hml]; exact hl.1) rfl dX3_init_1 (Nat.le_of_ble_eq_true rfl) (Nat.le_of_ble_eq_true rfl) ?_
  refine W.eq (g2 := F0 m 4 ls []) rfl ?_
  refine lv_aload_n hx hb dX3_init_4 rfl (lv_at hl 0 rfl) ?_
  refine lv_bipush (v := 10) hx hb dX3_init_5 (by decide) ?_
  refine va_put (D := G) (ci := 3) (v := .int 10) (ty := .int) (C := RX3) (T := TX3) (N := 8) hx hb hts i_X3 tyX3 tyX3_ok nmX3 hown hK hP hD hS 0 rfl rfl 0 (by decide) (hts (.fieldLink RX3 9 "RelayTuner$Plant" "gain" "I") (by decide +kernel)) (fun _ h9 => h9) rfl (by decide +kernel) rfl rfl (Nat.le_of_ble_eq_true rfl) dX3_init_7 (fun H locs hP hD hS => ?_)
  have hP : va_P G vwCl [(h, .inr (3, [.int ((upd Z0 0 10) 0), .int ((upd Z0 0 10) 1), .int ((upd Z0 0 10) 2), .int ((upd Z0 0 10) 3), .int ((upd Z0 0 10) 4), .int ((upd Z0 0 10) 5), .null, .int ((upd Z0 0 10) 7)]))] H := hP
  have hD : va_D A [(h, .inr (3, [.int ((upd Z0 0 10) 0), .int ((upd Z0 0 10) 1), .int ((upd Z0 0 10) 2), .int ((upd Z0 0 10) 3), .int ((upd Z0 0 10) 4), .int ((upd Z0 0 10) 5), .null, .int ((upd Z0 0 10) 7)]))] := hD
  refine lv_aload_n hx hb dX3_init_10 rfl (lv_at hl 0 rfl) ?_
  refine lv_bipush (v := 8) hx hb dX3_init_11 (by decide) ?_
  refine va_put (D := G) (ci := 3) (v := .int 8) (ty := .int) (C := RX3) (T := TX3) (N := 8) hx hb hts i_X3 tyX3 tyX3_ok nmX3 hown hK hP hD hS 0 rfl rfl 1 (by decide) (hts (.fieldLink RX3 15 "RelayTuner$Plant" "inertia" "I") (by decide +kernel)) (fun _ h9 => h9) rfl (by decide +kernel) rfl rfl (Nat.le_of_ble_eq_true rfl) dX3_init_13 (fun H locs hP hD hS => ?_)
  have hP : va_P G vwCl [(h, .inr (3, [.int ((upd (upd Z0 0 10) 1 8) 0), .int ((upd (upd Z0 0 10) 1 8) 1), .int ((upd (upd Z0 0 10) 1 8) 2), .int ((upd (upd Z0 0 10) 1 8) 3), .int ((upd (upd Z0 0 10) 1 8) 4), .int ((upd (upd Z0 0 10) 1 8) 5), .null, .int ((upd (upd Z0 0 10) 1 8) 7)]))] H := hP
  have hD : va_D A [(h, .inr (3, [.int ((upd (upd Z0 0 10) 1 8) 0), .int ((upd (upd Z0 0 10) 1 8) 1), .int ((upd (upd Z0 0 10) 1 8) 2), .int ((upd (upd Z0 0 10) 1 8) 3), .int ((upd (upd Z0 0 10) 1 8) 4), .int ((upd (upd Z0 0 10) 1 8) 5), .null, .int ((upd (upd Z0 0 10) 1 8) 7)]))] := hD
  refine lv_aload_n hx hb dX3_init_16 rfl (lv_at hl 0 rfl) ?_
  refine lv_iconst (v := 2) hx hb dX3_init_17 (by decide) ?_
  refine va_put (D := G) (ci := 3) (v := .int 2) (ty := .int) (C := RX3) (T := TX3) (N := 8) hx hb hts i_X3 tyX3 tyX3_ok nmX3 hown hK hP hD hS 0 rfl rfl 2 (by decide) (hts (.fieldLink RX3 18 "RelayTuner$Plant" "delay" "I") (by decide +kernel)) (fun _ h9 => h9) rfl (by decide +kernel) rfl rfl (Nat.le_of_ble_eq_true rfl) dX3_init_18 (fun H locs hP hD hS => ?_)
  have hP : va_P G vwCl [(h, .inr (3, [.int ((upd (upd (upd Z0 0 10) 1 8) 2 2) 0), .int ((upd (upd (upd Z0 0 10) 1 8) 2 2) 1), .int ((upd (upd (upd Z0 0 10) 1 8) 2 2) 2), .int ((upd (upd (upd Z0 0 10) 1 8) 2 2) 3), .int ((upd (upd (upd Z0 0 10) 1 8) 2 2) 4), .int ((upd (upd (upd Z0 0 10) 1 8) 2 2) 5), .null, .int ((upd (upd (upd Z0 0 10) 1 8) 2 2) 7)]))] H := hP
  have hD : va_D A [(h, .inr (3, [.int ((upd (upd (upd Z0 0 10) 1 8) 2 2) 0), .int ((upd (upd (upd Z0 0 10) 1 8) 2 2) 1), .int ((upd (upd (upd Z0 0 10) 1 8) 2 2) 2), .int ((upd (upd (upd Z0 0 10) 1 8) 2 2) 3), .int ((upd (upd (upd Z0 0 10) 1 8) 2 2) 4), .int ((upd (upd (upd Z0 0 10) 1 8) 2 2) 5), .null, .int ((upd (upd (upd Z0 0 10) 1 8) 2 2) 7)]))] := hD
  refine lv_aload_n hx hb dX3_init_21 rfl (lv_at hl 0 rfl) ?_
  refine lv_bipush (v := 20) hx hb dX3_init_22 (by decide) ?_
  refine va_put (D := G) (ci := 3) (v := .int 20) (ty := .int) (C := RX3) (T := TX3) (N := 8) hx hb hts i_X3 tyX3 tyX3_ok nmX3 hown hK hP hD hS 0 rfl rfl 3 (by decide) (hts (.fieldLink RX3 21 "RelayTuner$Plant" "ambient" "I") (by decide +kernel)) (fun _ h9 => h9) rfl (by decide +kernel) rfl rfl (Nat.le_of_ble_eq_true rfl) dX3_init_24 (fun H locs hP hD hS => ?_)
  have hP : va_P G vwCl [(h, .inr (3, [.int ((upd (upd (upd (upd Z0 0 10) 1 8) 2 2) 3 20) 0), .int ((upd (upd (upd (upd Z0 0 10) 1 8) 2 2) 3 20) 1), .int ((upd (upd (upd (upd Z0 0 10) 1 8) 2 2) 3 20) 2), .int ((upd (upd (upd (upd Z0 0 10) 1 8) 2 2) 3 20) 3), .int ((upd (upd (upd (upd Z0 0 10) 1 8) 2 2) 3 20) 4), .int ((upd (upd (upd (upd Z0 0 10) 1 8) 2 2) 3 20) 5), .null, .int ((upd (upd (upd (upd Z0 0 10) 1 8) 2 2) 3 20) 7)]))] H := hP
  have hD : va_D A [(h, .inr (3, [.int ((upd (upd (upd (upd Z0 0 10) 1 8) 2 2) 3 20) 0), .int ((upd (upd (upd (upd Z0 0 10) 1 8) 2 2) 3 20) 1), .int ((upd (upd (upd (upd Z0 0 10) 1 8) 2 2) 3 20) 2), .int ((upd (upd (upd (upd Z0 0 10) 1 8) 2 2) 3 20) 3), .int ((upd (upd (upd (upd Z0 0 10) 1 8) 2 2) 3 20) 4), .int ((upd (upd (upd (upd Z0 0 10) 1 8) 2 2) 3 20) 5), .null, .int ((upd (upd (upd (upd Z0 0 10) 1 8) 2 2) 3 20) 7)]))] := hD
  refine lv_aload_n hx hb dX3_init_27 rfl (lv_at hl 0 rfl) ?_
  refine lv_bipush (v := 20) hx hb dX3_init_28 (by decide) ?_
  refine va_put (D := G) (ci := 3) (v := .int 20) (ty := .int) (C := RX3) (T := TX3) (N := 8) hx hb hts i_X3 tyX3 tyX3_ok nmX3 hown hK hP hD hS 0 rfl rfl 4 (by decide) (hts (.fieldLink RX3 24 "RelayTuner$Plant" "fullPower" "I") (by decide +kernel)) (fun _ h9 => h9) rfl (by decide +kernel) rfl rfl (Nat.le_of_ble_eq_true rfl) dX3_init_30 (fun H locs hP hD hS => ?_)
  have hP : va_P G vwCl [(h, .inr (3, [.int ((upd (upd (upd (upd (upd Z0 0 10) 1 8) 2 2) 3 20) 4 20) 0), .int ((upd (upd (upd (upd (upd Z0 0 10) 1 8) 2 2) 3 20) 4 20) 1), .int ((upd (upd (upd (upd (upd Z0 0 10) 1 8) 2 2) 3 20) 4 20) 2), .int ((upd (upd (upd (upd (upd Z0 0 10) 1 8) 2 2) 3 20) 4 20) 3), .int ((upd (upd (upd (upd (upd Z0 0 10) 1 8) 2 2) 3 20) 4 20) 4), .int ((upd (upd (upd (upd (upd Z0 0 10) 1 8) 2 2) 3 20) 4 20) 5), .null, .int ((upd (upd (upd (upd (upd Z0 0 10) 1 8) 2 2) 3 20) 4 20) 7)]))] H := hP
  have hD : va_D A [(h, .inr (3, [.int ((upd (upd (upd (upd (upd Z0 0 10) 1 8) 2 2) 3 20) 4 20) 0), .int ((upd (upd (upd (upd (upd Z0 0 10) 1 8) 2 2) 3 20) 4 20) 1), .int ((upd (upd (upd (upd (upd Z0 0 10) 1 8) 2 2) 3 20) 4 20) 2), .int ((upd (upd (upd (upd (upd Z0 0 10) 1 8) 2 2) 3 20) 4 20) 3), .int ((upd (upd (upd (upd (upd Z0 0 10) 1 8) 2 2) 3 20) 4 20) 4), .int ((upd (upd (upd (upd (upd Z0 0 10) 1 8) 2 2) 3 20) 4 20) 5), .null, .int ((upd (upd (upd (upd (upd Z0 0 10) 1 8) 2 2) 3 20) 4 20) 7)]))] := hD
  refine lv_aload_n hx hb dX3_init_33 rfl (lv_at hl 0 rfl) ?_
  refine lv_bipush (v := 20) hx hb dX3_init_34 (by decide) ?_
  refine va_put (D := G) (ci := 3) (v := .int 20) (ty := .int) (C := RX3) (T := TX3) (N := 8) hx hb hts i_X3 tyX3 tyX3_ok nmX3 hown hK hP hD hS 0 rfl rfl 5 (by decide) (hts (.fieldLink RX3 27 "RelayTuner$Plant" "temperature" "I") (by decide +kernel)) (fun _ h9 => h9) rfl (by decide +kernel) rfl rfl (Nat.le_of_ble_eq_true rfl) dX3_init_36 (fun H locs hP hD hS => ?_)
  have hP : va_P G vwCl [(h, .inr (3, [.int ((upd (upd (upd (upd (upd (upd Z0 0 10) 1 8) 2 2) 3 20) 4 20) 5 20) 0), .int ((upd (upd (upd (upd (upd (upd Z0 0 10) 1 8) 2 2) 3 20) 4 20) 5 20) 1), .int ((upd (upd (upd (upd (upd (upd Z0 0 10) 1 8) 2 2) 3 20) 4 20) 5 20) 2), .int ((upd (upd (upd (upd (upd (upd Z0 0 10) 1 8) 2 2) 3 20) 4 20) 5 20) 3), .int ((upd (upd (upd (upd (upd (upd Z0 0 10) 1 8) 2 2) 3 20) 4 20) 5 20) 4), .int ((upd (upd (upd (upd (upd (upd Z0 0 10) 1 8) 2 2) 3 20) 4 20) 5 20) 5), .null, .int ((upd (upd (upd (upd (upd (upd Z0 0 10) 1 8) 2 2) 3 20) 4 20) 5 20) 7)]))] H := hP
  have hD : va_D A [(h, .inr (3, [.int ((upd (upd (upd (upd (upd (upd Z0 0 10) 1 8) 2 2) 3 20) 4 20) 5 20) 0), .int ((upd (upd (upd (upd (upd (upd Z0 0 10) 1 8) 2 2) 3 20) 4 20) 5 20) 1), .int ((upd (upd (upd (upd (upd (upd Z0 0 10) 1 8) 2 2) 3 20) 4 20) 5 20) 2), .int ((upd (upd (upd (upd (upd (upd Z0 0 10) 1 8) 2 2) 3 20) 4 20) 5 20) 3), .int ((upd (upd (upd (upd (upd (upd Z0 0 10) 1 8) 2 2) 3 20) 4 20) 5 20) 4), .int ((upd (upd (upd (upd (upd (upd Z0 0 10) 1 8) 2 2) 3 20) 4 20) 5 20) 5), .null, .int ((upd (upd (upd (upd (upd (upd Z0 0 10) 1 8) 2 2) 3 20) 4 20) 5 20) 7)]))] := hD
  refine lv_aload_n hx hb dX3_init_39 rfl (lv_at hl 0 rfl) ?_
  refine lv_bipush (v := 10) hx hb dX3_init_40 (by decide) ?_
  refine va_newa (D := G) (atype := .int) (ty := .int) (N' := 10) (a0 := (10, .inl Z0)) hx hb (hts (.arrayClass .int) (by decide +kernel)) rfl hK hP hD hS hA (fun _ => rfl) (by decide) (by decide) (Nat.le_of_ble_eq_true rfl) (Nat.le_of_ble_eq_true rfl) (Nat.le_of_ble_eq_true rfl) dX3_init_42 (fun a_1 cA H hK9 hP hD hS => ?_)
  have hc9 := eqI hK9
  subst hc9
  have hP : va_P G vwCl [(h, .inr (3, [.int ((upd (upd (upd (upd (upd (upd Z0 0 10) 1 8) 2 2) 3 20) 4 20) 5 20) 0), .int ((upd (upd (upd (upd (upd (upd Z0 0 10) 1 8) 2 2) 3 20) 4 20) 5 20) 1), .int ((upd (upd (upd (upd (upd (upd Z0 0 10) 1 8) 2 2) 3 20) 4 20) 5 20) 2), .int ((upd (upd (upd (upd (upd (upd Z0 0 10) 1 8) 2 2) 3 20) 4 20) 5 20) 3), .int ((upd (upd (upd (upd (upd (upd Z0 0 10) 1 8) 2 2) 3 20) 4 20) 5 20) 4), .int ((upd (upd (upd (upd (upd (upd Z0 0 10) 1 8) 2 2) 3 20) 4 20) 5 20) 5), .null, .int ((upd (upd (upd (upd (upd (upd Z0 0 10) 1 8) 2 2) 3 20) 4 20) 5 20) 7)])), aI y a_1 10 Z0] H := hP
  have hD : va_D A [(h, .inr (3, [.int ((upd (upd (upd (upd (upd (upd Z0 0 10) 1 8) 2 2) 3 20) 4 20) 5 20) 0), .int ((upd (upd (upd (upd (upd (upd Z0 0 10) 1 8) 2 2) 3 20) 4 20) 5 20) 1), .int ((upd (upd (upd (upd (upd (upd Z0 0 10) 1 8) 2 2) 3 20) 4 20) 5 20) 2), .int ((upd (upd (upd (upd (upd (upd Z0 0 10) 1 8) 2 2) 3 20) 4 20) 5 20) 3), .int ((upd (upd (upd (upd (upd (upd Z0 0 10) 1 8) 2 2) 3 20) 4 20) 5 20) 4), .int ((upd (upd (upd (upd (upd (upd Z0 0 10) 1 8) 2 2) 3 20) 4 20) 5 20) 5), .null, .int ((upd (upd (upd (upd (upd (upd Z0 0 10) 1 8) 2 2) 3 20) 4 20) 5 20) 7)])), aI y a_1 10 Z0] := hD
  refine va_putF (D := G) (ci := 3) (v := .ref a_1) (ty := (.array .int)) (C := RX3) (T := TX3) (N := 8) hx hb hts i_X3 tyX3 tyX3_ok nmX3 hown hK hP hD hS 0 rfl rfl 6 (by decide) (hts (.fieldLink RX3 30 "RelayTuner$Plant" "pipe" "[I") (by decide +kernel)) (fun _ h9 => h9) rfl hin rfl (by decide +kernel) rfl rfl (Nat.le_of_ble_eq_true rfl) dX3_init_44 (fun H locs hP hD hS => ?_)
  have hP : va_P G vwCl [kX3 h a_1 (upd (upd (upd (upd (upd (upd Z0 0 10) 1 8) 2 2) 3 20) 4 20) 5 20), aI y a_1 10 Z0] H := hP
  have hD : va_D A [kX3 h a_1 (upd (upd (upd (upd (upd (upd Z0 0 10) 1 8) 2 2) 3 20) 4 20) 5 20), aI y a_1 10 Z0] := hD
  exact W.vret hx hb hr (end_Hv (fun i => match i with | 0 => a_1 | _ => 0) hP hD hS rfl) hS.2.2 dX3_init_47

def i_X1_init_0 : Nat → Int32 := (upd (upd (upd (upd Z0 0 100) 1 3) 2 20) 3 50)
abbrev rmX1_init : Room := ({ frames := 1, cells := 0, slots := 0, locals := 20 } : Room)
set_option maxHeartbeats 4000000 in
set_option maxRecDepth 100000 in
theorem c_X1_init (l : Launch) (G : va_G) (y : Nat → ClassId) (h : Nat) (sz : Nat) : Met l yX1_init wsX1_init rmX1_init (PH G y [.ref h] [kX1 h Z0] sz) (QHv G (fun u : Nat → Nat => [kX1 h i_X1_init_0]) (va_A [kX1 h Z0] sz)) 0 0 (va_A [kX1 h Z0] sz) := by
  refine Met.ofW (cc := cX1_init) (maxL := 1) (ret := none) (by decide) rfl ?_
  intro p e s m args below meth c s₁ B hml hv
  obtain ⟨rfl, hsz, hP, ⟨hK, hN⟩, hD0⟩ := hv
  have hx := B.exec
  have hb := B.bytes
  have hr := B.returns
  have hts := atoms_spec (ws := wsX1_init) B.pre
  have hown : s.vm.findClass RX1 = some m.cls := findClass_of_methodNamed B.named
  have hlocks := B.notSynchronized
  have hin : meth.name = "<init>" := (name_of_methodNamed B.named B.method).1
  have i_X1 : ∀ w ∈ u_ws RX1 TX1 11, w ∈ wsX1_init := by decide +kernel
  subst hsz
  have hD := hD0.self (sz := s.heap.size)
  generalize hAe : va_A [kX1 h Z0] s.heap.size = A at hD ⊢
  have hA : ∀ q : Nat, s.heap.size ≤ q → A q := fun q h => by rw [← hAe]; exact Or.inr h
  have hS : va_S A s.heap s.heap [] := va_S.rf
  have hP : va_P G vwCl [kX1 h Z0] s.heap := hP
  have hl := lv_entry ([.ref h]) (n := 1) (Nat.le_of_ble_eq_true rfl)
  rw [lg_entry_eq]
  generalize (lg_sl ([.ref h]) ++ List.replicate (1 - (lg_sl ([.ref h])).length) Slot.unset).toArray = ls at hl ⊢
  have hl : lv_has ls 1 [(0, .ref h)] := hl
  refine lv_aload_n hx hb dX1_init_0 rfl (lv_at hl 0 rfl) ?_
  refine W.objInit hx hb hown (hts (.methodLink RX1 3 objectInit) (by decide +kernel)) (hts (.instanceMethod objectInit) (by decide +kernel)) (hts (.code objectInit ⟨#[0xb1]⟩ 1 none) (by decide +kernel)) rfl (by rw [hml]; exact hl.1) rfl dX1_init_1 (Nat.le_of_ble_eq_true rfl) (Nat.le_of_ble_eq_true rfl) ?_
  refine W.eq (g2 := F0 m 4 ls []) rfl ?_
  refine lv_aload_n hx hb dX1_init_4 rfl (lv_at hl 0 rfl) ?_
  refine lv_bipush (v := 100) hx hb dX1_init_5 (by decide) ?_
  refine va_put (D := G) (ci := 1) (v := .int 100) (ty := .int) (C := RX1) (T := TX1) (N := 11) hx hb hts i_X1 tyX1 tyX1_ok nmX1 hown hK hP hD hS 0 rfl rfl 0 (by decide) (hts (.fieldLink RX1 9 "RelayTuner$Control" "setPoint" "I") (by decide +kernel)) (fun _ h9 => h9) rfl (by decide +kernel) rfl rfl (Nat.le_of_ble_eq_true rfl) dX1_init_7 (fun H locs hP hD hS => ?_)
  have hP : va_P G vwCl [kX1 h (upd Z0 0 100)] H := hP
  have hD : va_D A [kX1 h (upd Z0 0 100)] := hD
  refine lv_aload_n hx hb dX1_init_10 rfl (lv_at hl 0 rfl) ?_
  refine lv_iconst (v := 3) hx hb dX1_init_11 (by decide) ?_
  refine va_put (D := G) (ci := 1) (v := .int 3) (ty := .int) (C := RX1) (T := TX1) (N := 11) hx hb hts i_X1 tyX1 tyX1_ok nmX1 hown hK hP hD hS 0 rfl rfl 1 (by decide) (hts (.fieldLink RX1 15 "RelayTuner$Control" "band" "I") (by decide +kernel)) (fun _ h9 => h9) rfl (by decide +kernel) rfl rfl (Nat.le_of_ble_eq_true rfl) dX1_init_12 (fun H locs hP hD hS => ?_)
  have hP : va_P G vwCl [kX1 h (upd (upd Z0 0 100) 1 3)] H := hP
  have hD : va_D A [kX1 h (upd (upd Z0 0 100) 1 3)] := hD
  refine lv_aload_n hx hb dX1_init_15 rfl (lv_at hl 0 rfl) ?_
  refine lv_bipush (v := 20) hx hb dX1_init_16 (by decide) ?_
  refine va_put (D := G) (ci := 1) (v := .int 20) (ty := .int) (C := RX1) (T := TX1) (N := 11) hx hb hts i_X1 tyX1 tyX1_ok nmX1 hown hK hP hD hS 0 rfl rfl 2 (by decide) (hts (.fieldLink RX1 18 "RelayTuner$Control" "tolerance" "I") (by decide +kernel)) (fun _ h9 => h9) rfl (by decide +kernel) rfl rfl (Nat.le_of_ble_eq_true rfl) dX1_init_18 (fun H locs hP hD hS => ?_)
  have hP : va_P G vwCl [kX1 h (upd (upd (upd Z0 0 100) 1 3) 2 20)] H := hP
  have hD : va_D A [kX1 h (upd (upd (upd Z0 0 100) 1 3) 2 20)] := hD
  refine lv_aload_n hx hb dX1_init_21 rfl (lv_at hl 0 rfl) ?_
  refine lv_bipush (v := 50) hx hb dX1_init_22 (by decide) ?_
  refine va_put (D := G) (ci := 1) (v := .int 50) (ty := .int) (C := RX1) (T := TX1) (N := 11) hx hb hts i_X1 tyX1 tyX1_ok nmX1 hown hK hP hD hS 0 rfl rfl 3 (by decide) (hts (.fieldLink RX1 21 "RelayTuner$Control" "p" "I") (by decide +kernel)) (fun _ h9 => h9) rfl (by decide +kernel) rfl rfl (Nat.le_of_ble_eq_true rfl) dX1_init_24 (fun H locs hP hD hS => ?_)
  have hP : va_P G vwCl [kX1 h (upd (upd (upd (upd Z0 0 100) 1 3) 2 20) 3 50)] H := hP
  have hD : va_D A [kX1 h (upd (upd (upd (upd Z0 0 100) 1 3) 2 20) 3 50)] := hD
  exact W.vret hx hb hr (end_Hv (fun i => match i with | _ => 0) hP hD hS rfl) hS.2.2 dX1_init_27

abbrev rmX8_init : Room := ({ frames := 1, cells := 5, slots := 100, locals := 20 } : Room)
set_option maxHeartbeats 4000000 in
set_option maxRecDepth 100000 in
theorem c_X8_init (l : Launch) (G : va_G) (y : Nat → ClassId) (h : Nat) (sz : Nat) : Met l yX8_init wsX8_init rmX8_init (PH G y [.ref h] [(h, .inr (6, [.int (Z0 0), .null, .null, .null, .null, .null, .int (Z0 6), .int (Z0 7), .int (Z0 8), .int (Z0 9)]))] sz) (QHv G (fun u : Nat → Nat => [kX8 h (u 0) (u 1) (u 2) (u 3) (u 4) Z0, aI y (u 0) 20 Z0, aI y (u 1) 20 Z0, aI y (u 2) 20 Z0, aI y (u 3) 20 Z0, aI y (u 4) 20 Z0]) (va_A [(h, .inr (6, [.int (Z0 0), .null, .null, .null, .null, .null, .int (Z0 6), .int (Z0 7), .int (Z0 8), .int (Z0 9)]))] sz)) 5 100 (va_A [(h, .inr (6, [.int (Z0 0), .null, .null, .null, .null, .null, .int (Z0 6), .int (Z0 7), .int (Z0 8), .int (Z0 9)]))] sz) := by
  refine Met.ofW (cc := cX8_init) (maxL := 1) (ret := none) (by decide) rfl ?_
  intro p e s m args below meth c s₁ B hml hv
  obtain ⟨rfl, hsz, hP, ⟨hK, hN⟩, hD0⟩ := hv
  have hx := B.exec
  have hb := B.bytes
  have hr := B.returns
  have hts := atoms_spec (ws := wsX8_init) B.pre
  have hown : s.vm.findClass RX8 = some m.cls := findClass_of_methodNamed B.named
  have hlocks := B.notSynchronized
  have hin : meth.name = "<init>" := (name_of_methodNamed B.named B.method).1
  have i_X8 : ∀ w ∈ u_ws RX8 TX8 10, w ∈ wsX8_init := by decide +kernel
  subst hsz
  have hD := hD0.self (sz := s.heap.size)
  generalize hAe : va_A [(h, .inr (6, [.int (Z0 0), .null, .null, .null, .null, .null, .int (Z0 6), .int (Z0 7), .int (Z0 8), .int (Z0 9)]))] s.heap.size = A at hD ⊢
  have hA : ∀ q : Nat, s.heap.size ≤ q → A q := fun q h => by rw [← hAe]; exact Or.inr h
  have hS : va_S A s.heap s.heap [] := va_S.rf
  have hP : va_P G vwCl [(h, .inr (6, [.int (Z0 0), .null, .null, .null, .null, .null, .int (Z0 6), .int (Z0 7), .int (Z0 8), .int (Z0 9)]))] s.heap := hP
  have hl := lv_entry ([.ref h]) (n := 1) (Nat.le_of_ble_eq_true rfl)
  rw [lg_entry_eq]
  generalize (lg_sl ([.ref h]) ++ List.replicate (1 - (lg_sl ([.ref h])).length) Slot.unset).toArray = ls at hl ⊢
  have hl : lv_has ls 1 [(0, .ref h)] := hl
  refine lv_aload_n hx hb dX8_init_0 rfl (lv_at hl 0 rfl) ?_
  refine W.objInit hx hb hown (hts (.methodLink RX8 3 objectInit) (by decide +kernel)) (hts (.instanceMethod objectInit) (by decide +kernel)) (hts (.code objectInit ⟨#[0xb1]⟩ 1 none) (by decide +kernel)) rfl (by rw [hml]; exact hl.1) rfl dX8_init_1 (Nat.le_of_ble_eq_true rfl) (Nat.le_of_ble_eq_true rfl) ?_
  refine W.eq (g2 := F0 m 4 ls []) rfl ?_
  refine lv_aload_n hx hb dX8_init_4 rfl (lv_at hl 0 rfl) ?_
  refine lv_bipush (v := 20) hx hb dX8_init_5 (by decide) ?_
  refine va_newa (D := G) (atype := .int) (ty := .int) (N' := 20) (a0 := (20, .inl Z0)) hx hb (hts (.arrayClass .int) (by decide +kernel)) rfl hK hP hD hS hA (fun _ => rfl) (by decide) (by decide) (Nat.le_of_ble_eq_true rfl) (Nat.le_of_ble_eq_true rfl) (Nat.le_of_ble_eq_true rfl) dX8_init_7 (fun a_1 cA H hK9 hP hD hS => ?_)
  have hc9 := eqI hK9
  subst hc9
  have hP : va_P G vwCl [(h, .inr (6, [.int (Z0 0), .null, .null, .null, .null, .null, .int (Z0 6), .int (Z0 7), .int (Z0 8), .int (Z0 9)])), aI y a_1 20 Z0] H := hP
  have hD : va_D A [(h, .inr (6, [.int (Z0 0), .null, .null, .null, .null, .null, .int (Z0 6), .int (Z0 7), .int (Z0 8), .int (Z0 9)])), aI y a_1 20 Z0] := hD
  refine va_putF (D := G) (ci := 6) (v := .ref a_1) (ty := (.array .int)) (C := RX8) (T := TX8) (N := 10) hx hb hts i_X8 tyX8 tyX8_ok nmX8 hown hK hP hD hS 0 rfl rfl 1 (by decide) (hts (.fieldLink RX8 11 "RelayTuner$Swings" "periods" "[I") (by decide +kernel)) (fun _ h9 => h9) rfl hin rfl (by decide +kernel) rfl rfl (Nat.le_of_ble_eq_true rfl) dX8_init_9 (fun H locs hP hD hS => ?_)
  have hP : va_P G vwCl [(h, .inr (6, [.int (Z0 0), .ref a_1, .null, .null, .null, .null, .int (Z0 6), .int (Z0 7), .int (Z0 8), .int (Z0 9)])), aI y a_1 20 Z0] H := hP
  have hD : va_D A [(h, .inr (6, [.int (Z0 0), .ref a_1, .null, .null, .null, .null, .int (Z0 6), .int (Z0 7), .int (Z0 8), .int (Z0 9)])), aI y a_1 20 Z0] := hD
  refine lv_aload_n hx hb dX8_init_12 rfl (lv_at hl 0 rfl) ?_
  refine lv_bipush (v := 20) hx hb dX8_init_13 (by decide) ?_
  refine va_newa (D := G) (atype := .int) (ty := .int) (N' := 20) (a0 := (20, .inl Z0)) hx hb (hts (.arrayClass .int) (by decide +kernel)) rfl hK hP hD hS hA (fun _ => rfl) (by decide) (by decide) (Nat.le_of_ble_eq_true rfl) (Nat.le_of_ble_eq_true rfl) (Nat.le_of_ble_eq_true rfl) dX8_init_15 (fun a_2 cA H hK9 hP hD hS => ?_)
  have hc9 := eqI hK9
  subst hc9
  have hP : va_P G vwCl [(h, .inr (6, [.int (Z0 0), .ref a_1, .null, .null, .null, .null, .int (Z0 6), .int (Z0 7), .int (Z0 8), .int (Z0 9)])), aI y a_1 20 Z0, aI y a_2 20 Z0] H := hP
  have hD : va_D A [(h, .inr (6, [.int (Z0 0), .ref a_1, .null, .null, .null, .null, .int (Z0 6), .int (Z0 7), .int (Z0 8), .int (Z0 9)])), aI y a_1 20 Z0, aI y a_2 20 Z0] := hD
  refine va_putF (D := G) (ci := 6) (v := .ref a_2) (ty := (.array .int)) (C := RX8) (T := TX8) (N := 10) hx hb hts i_X8 tyX8 tyX8_ok nmX8 hown hK hP hD hS 0 rfl rfl 2 (by decide) (hts (.fieldLink RX8 15 "RelayTuner$Swings" "highs" "[I") (by decide +kernel)) (fun _ h9 => h9) rfl hin rfl (by decide +kernel) rfl rfl (Nat.le_of_ble_eq_true rfl) dX8_init_17 (fun H locs hP hD hS => ?_)
  have hP : va_P G vwCl [(h, .inr (6, [.int (Z0 0), .ref a_1, .ref a_2, .null, .null, .null, .int (Z0 6), .int (Z0 7), .int (Z0 8), .int (Z0 9)])), aI y a_1 20 Z0, aI y a_2 20 Z0] H := hP
  have hD : va_D A [(h, .inr (6, [.int (Z0 0), .ref a_1, .ref a_2, .null, .null, .null, .int (Z0 6), .int (Z0 7), .int (Z0 8), .int (Z0 9)])), aI y a_1 20 Z0, aI y a_2 20 Z0] := hD
  refine lv_aload_n hx hb dX8_init_20 rfl (lv_at hl 0 rfl) ?_
  refine lv_bipush (v := 20) hx hb dX8_init_21 (by decide) ?_
  refine va_newa (D := G) (atype := .int) (ty := .int) (N' := 20) (a0 := (20, .inl Z0)) hx hb (hts (.arrayClass .int) (by decide +kernel)) rfl hK hP hD hS hA (fun _ => rfl) (by decide) (by decide) (Nat.le_of_ble_eq_true rfl) (Nat.le_of_ble_eq_true rfl) (Nat.le_of_ble_eq_true rfl) dX8_init_23 (fun a_3 cA H hK9 hP hD hS => ?_)
  have hc9 := eqI hK9
  subst hc9
  have hP : va_P G vwCl [(h, .inr (6, [.int (Z0 0), .ref a_1, .ref a_2, .null, .null, .null, .int (Z0 6), .int (Z0 7), .int (Z0 8), .int (Z0 9)])), aI y a_1 20 Z0, aI y a_2 20 Z0, aI y a_3 20 Z0] H := hP
  have hD : va_D A [(h, .inr (6, [.int (Z0 0), .ref a_1, .ref a_2, .null, .null, .null, .int (Z0 6), .int (Z0 7), .int (Z0 8), .int (Z0 9)])), aI y a_1 20 Z0, aI y a_2 20 Z0, aI y a_3 20 Z0] := hD
  refine va_putF (D := G) (ci := 6) (v := .ref a_3) (ty := (.array .int)) (C := RX8) (T := TX8) (N := 10) hx hb hts i_X8 tyX8 tyX8_ok nmX8 hown hK hP hD hS 0 rfl rfl 3 (by decide) (hts (.fieldLink RX8 18 "RelayTuner$Swings" "lows" "[I") (by decide +kernel)) (fun _ h9 => h9) rfl hin rfl (by decide +kernel) rfl rfl (Nat.le_of_ble_eq_true rfl) dX8_init_25 (fun H locs hP hD hS => ?_)
  have hP : va_P G vwCl [(h, .inr (6, [.int (Z0 0), .ref a_1, .ref a_2, .ref a_3, .null, .null, .int (Z0 6), .int (Z0 7), .int (Z0 8), .int (Z0 9)])), aI y a_1 20 Z0, aI y a_2 20 Z0, aI y a_3 20 Z0] H := hP
  have hD : va_D A [(h, .inr (6, [.int (Z0 0), .ref a_1, .ref a_2, .ref a_3, .null, .null, .int (Z0 6), .int (Z0 7), .int (Z0 8), .int (Z0 9)])), aI y a_1 20 Z0, aI y a_2 20 Z0, aI y a_3 20 Z0] := hD
  refine lv_aload_n hx hb dX8_init_28 rfl (lv_at hl 0 rfl) ?_
  refine lv_bipush (v := 20) hx hb dX8_init_29 (by decide) ?_
  refine va_newa (D := G) (atype := .int) (ty := .int) (N' := 20) (a0 := (20, .inl Z0)) hx hb (hts (.arrayClass .int) (by decide +kernel)) rfl hK hP hD hS hA (fun _ => rfl) (by decide) (by decide) (Nat.le_of_ble_eq_true rfl) (Nat.le_of_ble_eq_true rfl) (Nat.le_of_ble_eq_true rfl) dX8_init_31 (fun a_4 cA H hK9 hP hD hS => ?_)
  have hc9 := eqI hK9
  subst hc9
  have hP : va_P G vwCl [(h, .inr (6, [.int (Z0 0), .ref a_1, .ref a_2, .ref a_3, .null, .null, .int (Z0 6), .int (Z0 7), .int (Z0 8), .int (Z0 9)])), aI y a_1 20 Z0, aI y a_2 20 Z0, aI y a_3 20 Z0, aI y a_4 20 Z0] H := hP
  have hD : va_D A [(h, .inr (6, [.int (Z0 0), .ref a_1, .ref a_2, .ref a_3, .null, .null, .int (Z0 6), .int (Z0 7), .int (Z0 8), .int (Z0 9)])), aI y a_1 20 Z0, aI y a_2 20 Z0, aI y a_3 20 Z0, aI y a_4 20 Z0] := hD
  refine va_putF (D := G) (ci := 6) (v := .ref a_4) (ty := (.array .int)) (C := RX8) (T := TX8) (N := 10) hx hb hts i_X8 tyX8 tyX8_ok nmX8 hown hK hP hD hS 0 rfl rfl 4 (by decide) (hts (.fieldLink RX8 21 "RelayTuner$Swings" "ends" "[I") (by decide +kernel)) (fun _ h9 => h9) rfl hin rfl (by decide +kernel) rfl rfl (Nat.le_of_ble_eq_true rfl) dX8_init_33 (fun H locs hP hD hS => ?_)
  have hP : va_P G vwCl [(h, .inr (6, [.int (Z0 0), .ref a_1, .ref a_2, .ref a_3, .ref a_4, .null, .int (Z0 6), .int (Z0 7), .int (Z0 8), .int (Z0 9)])), aI y a_1 20 Z0, aI y a_2 20 Z0, aI y a_3 20 Z0, aI y a_4 20 Z0] H := hP
  have hD : va_D A [(h, .inr (6, [.int (Z0 0), .ref a_1, .ref a_2, .ref a_3, .ref a_4, .null, .int (Z0 6), .int (Z0 7), .int (Z0 8), .int (Z0 9)])), aI y a_1 20 Z0, aI y a_2 20 Z0, aI y a_3 20 Z0, aI y a_4 20 Z0] := hD
  refine lv_aload_n hx hb dX8_init_36 rfl (lv_at hl 0 rfl) ?_
  refine lv_bipush (v := 20) hx hb dX8_init_37 (by decide) ?_
  refine va_newa (D := G) (atype := .int) (ty := .int) (N' := 20) (a0 := (20, .inl Z0)) hx hb (hts (.arrayClass .int) (by decide +kernel)) rfl hK hP hD hS hA (fun _ => rfl) (by decide) (by decide) (Nat.le_of_ble_eq_true rfl) (Nat.le_of_ble_eq_true rfl) (Nat.le_of_ble_eq_true rfl) dX8_init_39 (fun a_5 cA H hK9 hP hD hS => ?_)
  have hc9 := eqI hK9
  subst hc9
  have hP : va_P G vwCl [(h, .inr (6, [.int (Z0 0), .ref a_1, .ref a_2, .ref a_3, .ref a_4, .null, .int (Z0 6), .int (Z0 7), .int (Z0 8), .int (Z0 9)])), aI y a_1 20 Z0, aI y a_2 20 Z0, aI y a_3 20 Z0, aI y a_4 20 Z0, aI y a_5 20 Z0] H := hP
  have hD : va_D A [(h, .inr (6, [.int (Z0 0), .ref a_1, .ref a_2, .ref a_3, .ref a_4, .null, .int (Z0 6), .int (Z0 7), .int (Z0 8), .int (Z0 9)])), aI y a_1 20 Z0, aI y a_2 20 Z0, aI y a_3 20 Z0, aI y a_4 20 Z0, aI y a_5 20 Z0] := hD
  refine va_putF (D := G) (ci := 6) (v := .ref a_5) (ty := (.array .int)) (C := RX8) (T := TX8) (N := 10) hx hb hts i_X8 tyX8 tyX8_ok nmX8 hown hK hP hD hS 0 rfl rfl 5 (by decide) (hts (.fieldLink RX8 24 "RelayTuner$Swings" "ordered" "[I") (by decide +kernel)) (fun _ h9 => h9) rfl hin rfl (by decide +kernel) rfl rfl (Nat.le_of_ble_eq_true rfl) dX8_init_41 (fun H locs hP hD hS => ?_)
  have hP : va_P G vwCl [kX8 h a_1 a_2 a_3 a_4 a_5 Z0, aI y a_1 20 Z0, aI y a_2 20 Z0, aI y a_3 20 Z0, aI y a_4 20 Z0, aI y a_5 20 Z0] H := hP
  have hD : va_D A [kX8 h a_1 a_2 a_3 a_4 a_5 Z0, aI y a_1 20 Z0, aI y a_2 20 Z0, aI y a_3 20 Z0, aI y a_4 20 Z0, aI y a_5 20 Z0] := hD
  exact W.vret hx hb hr (end_Hv (fun i => match i with | 0 => a_1 | 1 => a_2 | 2 => a_3 | 3 => a_4 | 4 => a_5 | _ => 0) hP hD hS rfl) hS.2.2 dX8_init_44

abbrev rmX10_init : Room := ({ frames := 1, cells := 1, slots := 32, locals := 20 } : Room)
set_option maxHeartbeats 4000000 in
set_option maxRecDepth 100000 in
theorem c_X10_init (l : Launch) (G : va_G) (y : Nat → ClassId) (h : Nat) (sz : Nat) : Met l yX10_init wsX10_init rmX10_init (PH G y [.ref h] [(h, .inr (8, [.int (Z0 0), .null]))] sz) (QHv G (fun u : Nat → Nat => [kX10 h (u 0) Z0, aI y (u 0) 32 Z0]) (va_A [(h, .inr (8, [.int (Z0 0), .null]))] sz)) 1 32 (va_A [(h, .inr (8, [.int (Z0 0), .null]))] sz) := by
  refine Met.ofW (cc := cX10_init) (maxL := 1) (ret := none) (by decide) rfl ?_
  intro p e s m args below meth c s₁ B hml hv
  obtain ⟨rfl, hsz, hP, ⟨hK, hN⟩, hD0⟩ := hv
  have hx := B.exec
  have hb := B.bytes
  have hr := B.returns
  have hts := atoms_spec (ws := wsX10_init) B.pre
  have hown : s.vm.findClass RX10 = some m.cls := findClass_of_methodNamed B.named
  have hlocks := B.notSynchronized
  have hin : meth.name = "<init>" := (name_of_methodNamed B.named B.method).1
  have i_X10 : ∀ w ∈ u_ws RX10 TX10 2, w ∈ wsX10_init := by decide +kernel
  subst hsz
  have hD := hD0.self (sz := s.heap.size)
  generalize hAe : va_A [(h, .inr (8, [.int (Z0 0), .null]))] s.heap.size = A at hD ⊢
  have hA : ∀ q : Nat, s.heap.size ≤ q → A q := fun q h => by rw [← hAe]; exact Or.inr h
  have hS : va_S A s.heap s.heap [] := va_S.rf
  have hP : va_P G vwCl [(h, .inr (8, [.int (Z0 0), .null]))] s.heap := hP
  have hl := lv_entry ([.ref h]) (n := 1) (Nat.le_of_ble_eq_true rfl)
  rw [lg_entry_eq]
  generalize (lg_sl ([.ref h]) ++ List.replicate (1 - (lg_sl ([.ref h])).length) Slot.unset).toArray = ls at hl ⊢
  have hl : lv_has ls 1 [(0, .ref h)] := hl
  refine lv_aload_n hx hb dX10_init_0 rfl (lv_at hl 0 rfl) ?_
  refine W.objInit hx hb hown (hts (.methodLink RX10 1 objectInit) (by decide +kernel)) (hts (.instanceMethod objectInit) (by decide +kernel)) (hts (.code objectInit ⟨#[0xb1]⟩ 1 none) (by decide +kernel)) rfl (by rw [hml]; exact hl.1) rfl dX10_init_1 (Nat.le_of_ble_eq_true rfl) (Nat.le_of_ble_eq_true rfl) ?_
  refine W.eq (g2 := F0 m 4 ls []) rfl ?_
  refine lv_aload_n hx hb dX10_init_4 rfl (lv_at hl 0 rfl) ?_
  refine lv_bipush (v := 32) hx hb dX10_init_5 (by decide) ?_
  refine va_newa (D := G) (atype := .int) (ty := .int) (N' := 32) (a0 := (32, .inl Z0)) hx hb (hts (.arrayClass .int) (by decide +kernel)) rfl hK hP hD hS hA (fun _ => rfl) (by decide) (by decide) (Nat.le_of_ble_eq_true rfl) (Nat.le_of_ble_eq_true rfl) (Nat.le_of_ble_eq_true rfl) dX10_init_7 (fun a_1 cA H hK9 hP hD hS => ?_)
  have hc9 := eqI hK9
  subst hc9
  have hP : va_P G vwCl [(h, .inr (8, [.int (Z0 0), .null])), aI y a_1 32 Z0] H := hP
  have hD : va_D A [(h, .inr (8, [.int (Z0 0), .null])), aI y a_1 32 Z0] := hD
  refine va_putF (D := G) (ci := 8) (v := .ref a_1) (ty := (.array .int)) (C := RX10) (T := TX10) (N := 2) hx hb hts i_X10 tyX10 tyX10_ok nmX10 hown hK hP hD hS 0 rfl rfl 1 (by decide) (hts (.fieldLink RX10 9 "RelayTuner$Trials" "putAside" "[I") (by decide +kernel)) (fun _ h9 => h9) rfl hin rfl (by decide +kernel) rfl rfl (Nat.le_of_ble_eq_true rfl) dX10_init_9 (fun H locs hP hD hS => ?_)
  have hP : va_P G vwCl [kX10 h a_1 Z0, aI y a_1 32 Z0] H := hP
  have hD : va_D A [kX10 h a_1 Z0, aI y a_1 32 Z0] := hD
  exact W.vret hx hb hr (end_Hv (fun i => match i with | 0 => a_1 | _ => 0) hP hD hS rfl) hS.2.2 dX10_init_12

abbrev rmX0_init : Room := ({ frames := 1, cells := 1, slots := 3, locals := 20 } : Room)
set_option maxHeartbeats 4000000 in
set_option maxRecDepth 100000 in
theorem c_X0_init (l : Launch) (G : va_G) (y : Nat → ClassId) (h : Nat) (sz : Nat) : Met l yX0_init wsX0_init rmX0_init (PH G y [.ref h] [(h, .inr (0, [.null, .int (Z0 1), .int (Z0 2), .int (Z0 3), .int (Z0 4), .int (Z0 5)]))] sz) (QHv G (fun u : Nat → Nat => [kX0 h (u 0) Z0, aI y (u 0) 3 Z0]) (va_A [(h, .inr (0, [.null, .int (Z0 1), .int (Z0 2), .int (Z0 3), .int (Z0 4), .int (Z0 5)]))] sz)) 1 3 (va_A [(h, .inr (0, [.null, .int (Z0 1), .int (Z0 2), .int (Z0 3), .int (Z0 4), .int (Z0 5)]))] sz) := by
  refine Met.ofW (cc := cX0_init) (maxL := 1) (ret := none) (by decide) rfl ?_
  intro p e s m args below meth c s₁ B hml hv
  obtain ⟨rfl, hsz, hP, ⟨hK, hN⟩, hD0⟩ := hv
  have hx := B.exec
  have hb := B.bytes
  have hr := B.returns
  have hts := atoms_spec (ws := wsX0_init) B.pre
  have hown : s.vm.findClass RX0 = some m.cls := findClass_of_methodNamed B.named
  have hlocks := B.notSynchronized
  have hin : meth.name = "<init>" := (name_of_methodNamed B.named B.method).1
  have i_X0 : ∀ w ∈ u_ws RX0 TX0 6, w ∈ wsX0_init := by decide +kernel
  subst hsz
  have hD := hD0.self (sz := s.heap.size)
  generalize hAe : va_A [(h, .inr (0, [.null, .int (Z0 1), .int (Z0 2), .int (Z0 3), .int (Z0 4), .int (Z0 5)]))] s.heap.size = A at hD ⊢
  have hA : ∀ q : Nat, s.heap.size ≤ q → A q := fun q h => by rw [← hAe]; exact Or.inr h
  have hS : va_S A s.heap s.heap [] := va_S.rf
  have hP : va_P G vwCl [(h, .inr (0, [.null, .int (Z0 1), .int (Z0 2), .int (Z0 3), .int (Z0 4), .int (Z0 5)]))] s.heap := hP
  have hl := lv_entry ([.ref h]) (n := 1) (Nat.le_of_ble_eq_true rfl)
  rw [lg_entry_eq]
  generalize (lg_sl ([.ref h]) ++ List.replicate (1 - (lg_sl ([.ref h])).length) Slot.unset).toArray = ls at hl ⊢
  have hl : lv_has ls 1 [(0, .ref h)] := hl
  refine lv_aload_n hx hb dX0_init_0 rfl (lv_at hl 0 rfl) ?_
  refine W.objInit hx hb hown (hts (.methodLink RX0 1 objectInit) (by decide +kernel)) (hts (.instanceMethod objectInit) (by decide +kernel)) (hts (.code objectInit ⟨#[0xb1]⟩ 1 none) (by decide +kernel)) rfl (by rw [hml]; exact hl.1) rfl dX0_init_1 (Nat.le_of_ble_eq_true rfl) (Nat.le_of_ble_eq_true rfl) ?_
  refine W.eq (g2 := F0 m 4 ls []) rfl ?_
  refine lv_aload_n hx hb dX0_init_4 rfl (lv_at hl 0 rfl) ?_
  refine lv_iconst (v := 3) hx hb dX0_init_5 (by decide) ?_
  refine va_newa (D := G) (atype := .int) (ty := .int) (N' := 3) (a0 := (3, .inl Z0)) hx hb (hts (.arrayClass .int) (by decide +kernel)) rfl hK hP hD hS hA (fun _ => rfl) (by decide) (by decide) (Nat.le_of_ble_eq_true rfl) (Nat.le_of_ble_eq_true rfl) (Nat.le_of_ble_eq_true rfl) dX0_init_6 (fun a_1 cA H hK9 hP hD hS => ?_)
  have hc9 := eqI hK9
  subst hc9
  have hP : va_P G vwCl [(h, .inr (0, [.null, .int (Z0 1), .int (Z0 2), .int (Z0 3), .int (Z0 4), .int (Z0 5)])), aI y a_1 3 Z0] H := hP
  have hD : va_D A [(h, .inr (0, [.null, .int (Z0 1), .int (Z0 2), .int (Z0 3), .int (Z0 4), .int (Z0 5)])), aI y a_1 3 Z0] := hD
  refine va_putF (D := G) (ci := 0) (v := .ref a_1) (ty := (.array .int)) (C := RX0) (T := TX0) (N := 6) hx hb hts i_X0 tyX0 tyX0_ok nmX0 hown hK hP hD hS 0 rfl rfl 0 (by decide) (hts (.fieldLink RX0 9 "RelayTuner$Accounts" "ticks" "[I") (by decide +kernel)) (fun _ h9 => h9) rfl hin rfl (by decide +kernel) rfl rfl (Nat.le_of_ble_eq_true rfl) dX0_init_8 (fun H locs hP hD hS => ?_)
  have hP : va_P G vwCl [kX0 h a_1 Z0, aI y a_1 3 Z0] H := hP
  have hD : va_D A [kX0 h a_1 Z0, aI y a_1 3 Z0] := hD
  exact W.vret hx hb hr (end_Hv (fun i => match i with | 0 => a_1 | _ => 0) hP hD hS rfl) hS.2.2 dX0_init_11

abbrev rmX9_init : Room := ({ frames := 1, cells := 1, slots := 60, locals := 20 } : Room)
set_option maxHeartbeats 4000000 in
set_option maxRecDepth 100000 in
theorem c_X9_init (l : Launch) (G : va_G) (y : Nat → ClassId) (h : Nat) (sz : Nat) : Met l yX9_init wsX9_init rmX9_init (PH G y [.ref h] [(h, .inr (7, [.null, .int (Z0 1), .int (Z0 2), .int (Z0 3), .int (Z0 4), .int (Z0 5), .int (Z0 6), .int (Z0 7), .int (Z0 8), .int (Z0 9), .int (Z0 10), .int (Z0 11)]))] sz) (QHv G (fun u : Nat → Nat => [kX9 h (u 0) Z0, aC y (u 0) 60 Z0]) (va_A [(h, .inr (7, [.null, .int (Z0 1), .int (Z0 2), .int (Z0 3), .int (Z0 4), .int (Z0 5), .int (Z0 6), .int (Z0 7), .int (Z0 8), .int (Z0 9), .int (Z0 10), .int (Z0 11)]))] sz)) 1 60 (va_A [(h, .inr (7, [.null, .int (Z0 1), .int (Z0 2), .int (Z0 3), .int (Z0 4), .int (Z0 5), .int (Z0 6), .int (Z0 7), .int (Z0 8), .int (Z0 9), .int (Z0 10), .int (Z0 11)]))] sz) := by
  refine Met.ofW (cc := cX9_init) (maxL := 1) (ret := none) (by decide) rfl ?_
  intro p e s m args below meth c s₁ B hml hv
  obtain ⟨rfl, hsz, hP, ⟨hK, hN⟩, hD0⟩ := hv
  have hx := B.exec
  have hb := B.bytes
  have hr := B.returns
  have hts := atoms_spec (ws := wsX9_init) B.pre
  have hown : s.vm.findClass RX9 = some m.cls := findClass_of_methodNamed B.named
  have hlocks := B.notSynchronized
  have hin : meth.name = "<init>" := (name_of_methodNamed B.named B.method).1
  have i_X9 : ∀ w ∈ u_ws RX9 TX9 12, w ∈ wsX9_init := by decide +kernel
  subst hsz
  have hD := hD0.self (sz := s.heap.size)
  generalize hAe : va_A [(h, .inr (7, [.null, .int (Z0 1), .int (Z0 2), .int (Z0 3), .int (Z0 4), .int (Z0 5), .int (Z0 6), .int (Z0 7), .int (Z0 8), .int (Z0 9), .int (Z0 10), .int (Z0 11)]))] s.heap.size = A at hD ⊢
  have hA : ∀ q : Nat, s.heap.size ≤ q → A q := fun q h => by rw [← hAe]; exact Or.inr h
  have hS : va_S A s.heap s.heap [] := va_S.rf
  have hP : va_P G vwCl [(h, .inr (7, [.null, .int (Z0 1), .int (Z0 2), .int (Z0 3), .int (Z0 4), .int (Z0 5), .int (Z0 6), .int (Z0 7), .int (Z0 8), .int (Z0 9), .int (Z0 10), .int (Z0 11)]))] s.heap := hP
  have hl := lv_entry ([.ref h]) (n := 1) (Nat.le_of_ble_eq_true rfl)
  rw [lg_entry_eq]
  generalize (lg_sl ([.ref h]) ++ List.replicate (1 - (lg_sl ([.ref h])).length) Slot.unset).toArray = ls at hl ⊢
  have hl : lv_has ls 1 [(0, .ref h)] := hl
  refine lv_aload_n hx hb dX9_init_0 rfl (lv_at hl 0 rfl) ?_
  refine W.objInit hx hb hown (hts (.methodLink RX9 3 objectInit) (by decide +kernel)) (hts (.instanceMethod objectInit) (by decide +kernel)) (hts (.code objectInit ⟨#[0xb1]⟩ 1 none) (by decide +kernel)) rfl (by rw [hml]; exact hl.1) rfl dX9_init_1 (Nat.le_of_ble_eq_true rfl) (Nat.le_of_ble_eq_true rfl) ?_
  refine W.eq (g2 := F0 m 4 ls []) rfl ?_
  refine lv_aload_n hx hb dX9_init_4 rfl (lv_at hl 0 rfl) ?_
  refine lv_bipush (v := 60) hx hb dX9_init_5 (by decide) ?_
  refine va_newa (D := G) (atype := .char) (ty := .char) (N' := 60) (a0 := (60, .inl Z0)) hx hb (hts (.arrayClass .char) (by decide +kernel)) rfl hK hP hD hS hA (fun _ => rfl) (by decide) (by decide) (Nat.le_of_ble_eq_true rfl) (Nat.le_of_ble_eq_true rfl) (Nat.le_of_ble_eq_true rfl) dX9_init_7 (fun a_1 cA H hK9 hP hD hS => ?_)
  have hc9 := eqC hK9
  subst hc9
  have hP : va_P G vwCl [(h, .inr (7, [.null, .int (Z0 1), .int (Z0 2), .int (Z0 3), .int (Z0 4), .int (Z0 5), .int (Z0 6), .int (Z0 7), .int (Z0 8), .int (Z0 9), .int (Z0 10), .int (Z0 11)])), aC y a_1 60 Z0] H := hP
  have hD : va_D A [(h, .inr (7, [.null, .int (Z0 1), .int (Z0 2), .int (Z0 3), .int (Z0 4), .int (Z0 5), .int (Z0 6), .int (Z0 7), .int (Z0 8), .int (Z0 9), .int (Z0 10), .int (Z0 11)])), aC y a_1 60 Z0] := hD
  refine va_putF (D := G) (ci := 7) (v := .ref a_1) (ty := (.array .char)) (C := RX9) (T := TX9) (N := 12) hx hb hts i_X9 tyX9 tyX9_ok nmX9 hown hK hP hD hS 0 rfl rfl 0 (by decide) (hts (.fieldLink RX9 11 "RelayTuner$Text" "signs" "[C") (by decide +kernel)) (fun _ h9 => h9) rfl hin rfl (by decide +kernel) rfl rfl (Nat.le_of_ble_eq_true rfl) dX9_init_9 (fun H locs hP hD hS => ?_)
  have hP : va_P G vwCl [kX9 h a_1 Z0, aC y a_1 60 Z0] H := hP
  have hD : va_D A [kX9 h a_1 Z0, aC y a_1 60 Z0] := hD
  exact W.vret hx hb hr (end_Hv (fun i => match i with | 0 => a_1 | _ => 0) hP hD hS rfl) hS.2.2 dX9_init_12

abbrev rmX7_init : Room := ({ frames := 2, cells := 13, slots := 182, locals := 40 } : Room)
set_option maxHeartbeats 4000000 in
set_option maxRecDepth 100000 in
theorem c_X7_init (l : Launch) (G : va_G) (y : Nat → ClassId) (h : Nat) (sz : Nat) : Met l yX7_init wsX7_init rmX7_init (PH G y [.ref h] [(h, .inr (5, [.int (Z0 0), .null, .null, .null, .null, .null]))] sz) (QHv G (fun u : Nat → Nat => [kX7 h (u 0) (u 2) (u 3) (u 9) (u 11) Z0, kX3 (u 0) (u 1) i_X3_init_0, aI y (u 1) 10 Z0, kX1 (u 2) i_X1_init_0, kX8 (u 3) (u 4) (u 5) (u 6) (u 7) (u 8) Z0, aI y (u 4) 20 Z0, aI y (u 5) 20 Z0, aI y (u 6) 20 Z0, aI y (u 7) 20 Z0, aI y (u 8) 20 Z0, kX10 (u 9) (u 10) Z0, aI y (u 10) 32 Z0, kX0 (u 11) (u 12) Z0, aI y (u 12) 3 Z0]) (va_A [(h, .inr (5, [.int (Z0 0), .null, .null, .null, .null, .null]))] sz)) 13 182 (va_A [(h, .inr (5, [.int (Z0 0), .null, .null, .null, .null, .null]))] sz) := by
  refine Met.ofW (cc := cX7_init) (maxL := 1) (ret := none) (by decide) rfl ?_
  intro p e s m args below meth c s₁ B hml hv
  obtain ⟨rfl, hsz, hP, ⟨hK, hN⟩, hD0⟩ := hv
  have hx := B.exec
  have hb := B.bytes
  have hr := B.returns
  have hts := atoms_spec (ws := wsX7_init) B.pre
  have hown : s.vm.findClass RX7 = some m.cls := findClass_of_methodNamed B.named
  have hlocks := B.notSynchronized
  have hin : meth.name = "<init>" := (name_of_methodNamed B.named B.method).1
  have i_X0 : ∀ w ∈ u_ws RX0 TX0 6, w ∈ wsX7_init := by decide +kernel
  have i_X1 : ∀ w ∈ u_ws RX1 TX1 11, w ∈ wsX7_init := by decide +kernel
  have i_X10 : ∀ w ∈ u_ws RX10 TX10 2, w ∈ wsX7_init := by decide +kernel
  have i_X3 : ∀ w ∈ u_ws RX3 TX3 8, w ∈ wsX7_init := by decide +kernel
  have i_X7 : ∀ w ∈ u_ws RX7 TX7 6, w ∈ wsX7_init := by decide +kernel
  have i_X8 : ∀ w ∈ u_ws RX8 TX8 10, w ∈ wsX7_init := by decide +kernel
  subst hsz
  have hD := hD0.self (sz := s.heap.size)
  generalize hAe : va_A [(h, .inr (5, [.int (Z0 0), .null, .null, .null, .null, .null]))] s.heap.size = A at hD ⊢
  have hA : ∀ q : Nat, s.heap.size ≤ q → A q := fun q h => by rw [← hAe]; exact Or.inr h
  have hS : va_S A s.heap s.heap [] := va_S.rf
  have hP : va_P G vwCl [(h, .inr (5, [.int (Z0 0), .null, .null, .null, .null, .null]))] s.heap := hP
  have hl := lv_entry ([.ref h]) (n := 1) (Nat.le_of_ble_eq_true rfl)
  rw [lg_entry_eq]
  generalize (lg_sl ([.ref h]) ++ List.replicate (1 - (lg_sl ([.ref h])).length) Slot.unset).toArray = ls at hl ⊢
  have hl : lv_has ls 1 [(0, .ref h)] := hl
  refine lv_aload_n hx hb dX7_init_0 rfl (lv_at hl 0 rfl) ?_
  refine W.objInit hx hb hown (hts (.methodLink RX7 3 objectInit) (by decide +kernel)) (hts (.instanceMethod objectInit) (by decide +kernel)) (hts (.code objectInit ⟨#[0xb1]⟩ 1 none) (by decide +kernel)) rfl (by rw [hml]; exact hl.1) rfl dX7_init_1 (Nat.le_of_ble_eq_true rfl) (Nat.le_of_ble_eq_true rfl) ?_
  refine W.eq (g2 := F0 m 4 ls []) rfl ?_
  refine lv_aload_n hx hb dX7_init_4 rfl (lv_at hl 0 rfl) ?_
  refine va_new (D := G) (ci := 3) (fs := [.int 0, .int 0, .int 0, .int 0, .int 0, .int 0, .null, .int 0]) (C := RX3) (T := TX3) (N := 8) hx hb hts i_X3 tyX3 tyX3_ok hown (hts (.classLink RX7 9 RX3) (by decide +kernel)) (hts (.instantiable RX3 8) (by decide +kernel)) (hts (.initialized RX3) (by decide +kernel)) hK hP hD hS hA rfl (fun j hj => by rcases (show j = 0 ∨ j = 1 ∨ j = 2 ∨ j = 3 ∨ j = 4 ∨ j = 5 ∨ j = 6 ∨ j = 7 by omega) with rfl | rfl | rfl | rfl | rfl | rfl | rfl | rfl <;> rfl) (Nat.le_of_ble_eq_true rfl) (Nat.le_of_ble_eq_true rfl) dX7_init_5 (fun a_1 H hP hD hS => ?_)
  have hP : va_P G vwCl [(h, .inr (5, [.int (Z0 0), .null, .null, .null, .null, .null])), (a_1, .inr (3, [.int (Z0 0), .int (Z0 1), .int (Z0 2), .int (Z0 3), .int (Z0 4), .int (Z0 5), .null, .int (Z0 7)]))] H := hP
  have hD : va_D A [(h, .inr (5, [.int (Z0 0), .null, .null, .null, .null, .null])), (a_1, .inr (3, [.int (Z0 0), .int (Z0 1), .int (Z0 2), .int (Z0 3), .int (Z0 4), .int (Z0 5), .null, .int (Z0 7)]))] := hD
  refine lv_dup hx hb dX7_init_8 rfl ?_
  refine cl_Hv (wr := [(h, .inr (5, [.int (Z0 0), .null, .null, .null, .null, .null]))]) (fun u_2 : Nat → Nat => [(h, .inr (5, [.int (Z0 0), .null, .null, .null, .null, .null])), kX3 a_1 (u_2 0) i_X3_init_0, aI y (u_2 0) 10 Z0]) [1] [0] [0, 1, 2] (va_runIN (As := []) (rest := [.ref a_1, .ref h]) ⟨hx, hb, hml, hown, hts⟩ (c_X3_init l G y a_1 H.size) ⟨va_cnB 0 hts gX7_init_X3_init_n11 rfl rfl rfl (NN.m hN (by decide +kernel)) (hts (.initialized RX3) (by decide +kernel)) (by decide +kernel) ⟨Nat.le_of_ble_eq_true rfl, Nat.le_of_ble_eq_true rfl⟩, rfl, hts (.instanceMethod yX3_init) (by decide +kernel)⟩ (PH_S (hP.sub (ws' := [(a_1, .inr (3, [.int (Z0 0), .int (Z0 1), .int (Z0 2), .int (Z0 3), .int (Z0 4), .int (Z0 5), .null, .int (Z0 7)]))]) [1] rfl) hK hN (hD.sub (ws' := [(a_1, .inr (3, [.int (Z0 0), .int (Z0 1), .int (Z0 2), .int (Z0 3), .int (Z0 4), .int (Z0 5), .null, .int (Z0 7)]))]) [1] (by decide) rfl)) rfl rfl hl.1 rfl (lv_room (Nat.le_of_ble_eq_true rfl)) dX7_init_9 ⟨Nat.le_of_ble_eq_true rfl, Nat.le_of_ble_eq_true rfl⟩) hP hD hS hA rfl rfl rfl (by decide) rfl (fun _ => rfl) (fun u_2 H locs hP hD hS => ?_)
  have hP : va_P G vwCl [(h, .inr (5, [.int (Z0 0), .null, .null, .null, .null, .null])), kX3 a_1 (u_2 0) i_X3_init_0, aI y (u_2 0) 10 Z0] H := hP
  have hD : va_D A [(h, .inr (5, [.int (Z0 0), .null, .null, .null, .null, .null])), kX3 a_1 (u_2 0) i_X3_init_0, aI y (u_2 0) 10 Z0] := hD
  refine va_putF (D := G) (ci := 5) (v := .ref a_1) (ty := (.object "RelayTuner$Plant")) (C := RX7) (T := TX7) (N := 6) hx hb hts i_X7 tyX7 tyX7_ok nmX7 hown hK hP hD hS 0 rfl rfl 1 (by decide) (hts (.fieldLink RX7 12 "RelayTuner$State" "plant" "LRelayTuner$Plant;") (by decide +kernel)) (fun _ h9 => h9) rfl hin rfl (by decide +kernel) rfl rfl (Nat.le_of_ble_eq_true rfl) dX7_init_12 (fun H locs hP hD hS => ?_)
  have hP : va_P G vwCl [(h, .inr (5, [.int (Z0 0), .ref a_1, .null, .null, .null, .null])), kX3 a_1 (u_2 0) i_X3_init_0, aI y (u_2 0) 10 Z0] H := hP
  have hD : va_D A [(h, .inr (5, [.int (Z0 0), .ref a_1, .null, .null, .null, .null])), kX3 a_1 (u_2 0) i_X3_init_0, aI y (u_2 0) 10 Z0] := hD
  refine lv_aload_n hx hb dX7_init_15 rfl (lv_at hl 0 rfl) ?_
  refine va_new (D := G) (ci := 1) (fs := [.int 0, .int 0, .int 0, .int 0, .int 0, .int 0, .int 0, .int 0, .int 0, .int 0, .int 0]) (C := RX1) (T := TX1) (N := 11) hx hb hts i_X1 tyX1 tyX1_ok hown (hts (.classLink RX7 18 RX1) (by decide +kernel)) (hts (.instantiable RX1 11) (by decide +kernel)) (hts (.initialized RX1) (by decide +kernel)) hK hP hD hS hA rfl (fun j hj => by rcases (show j = 0 ∨ j = 1 ∨ j = 2 ∨ j = 3 ∨ j = 4 ∨ j = 5 ∨ j = 6 ∨ j = 7 ∨ j = 8 ∨ j = 9 ∨ j = 10 by omega) with rfl | rfl | rfl | rfl | rfl | rfl | rfl | rfl | rfl | rfl | rfl <;> rfl) (Nat.le_of_ble_eq_true rfl) (Nat.le_of_ble_eq_true rfl) dX7_init_16 (fun a_3 H hP hD hS => ?_)
  have hP : va_P G vwCl [(h, .inr (5, [.int (Z0 0), .ref a_1, .null, .null, .null, .null])), kX3 a_1 (u_2 0) i_X3_init_0, aI y (u_2 0) 10 Z0, kX1 a_3 Z0] H := hP
  have hD : va_D A [(h, .inr (5, [.int (Z0 0), .ref a_1, .null, .null, .null, .null])), kX3 a_1 (u_2 0) i_X3_init_0, aI y (u_2 0) 10 Z0, kX1 a_3 Z0] := hD
  refine lv_dup hx hb dX7_init_19 rfl ?_
  refine cl_Hv (wr := [(h, .inr (5, [.int (Z0 0), .ref a_1, .null, .null, .null, .null])), kX3 a_1 (u_2 0) i_X3_init_0, aI y (u_2 0) 10 Z0]) (fun u_4 : Nat → Nat => [(h, .inr (5, [.int (Z0 0), .ref a_1, .null, .null, .null, .null])), kX3 a_1 (u_2 0) i_X3_init_0, aI y (u_2 0) 10 Z0, kX1 a_3 i_X1_init_0]) [3] [0, 1, 2] [0, 1, 2, 3] (va_runIN (As := []) (rest := [.ref a_3, .ref h]) ⟨hx, hb, hml, hown, hts⟩ (c_X1_init l G y a_3 H.size) ⟨va_cnB 0 hts gX7_init_X1_init_n20 rfl rfl rfl (NN.m hN (by decide +kernel)) (hts (.initialized RX1) (by decide +kernel)) (by decide +kernel) ⟨Nat.le_of_ble_eq_true rfl, Nat.le_of_ble_eq_true rfl⟩, rfl, hts (.instanceMethod yX1_init) (by decide +kernel)⟩ (PH_S (hP.sub (ws' := [kX1 a_3 Z0]) [3] rfl) hK hN (hD.sub (ws' := [kX1 a_3 Z0]) [3] (by decide) rfl)) rfl rfl hl.1 rfl (lv_room (Nat.le_of_ble_eq_true rfl)) dX7_init_20 ⟨Nat.le_of_ble_eq_true rfl, Nat.le_of_ble_eq_true rfl⟩) hP hD hS hA rfl rfl rfl (by decide) rfl (fun _ => rfl) (fun u_4 H locs hP hD hS => ?_)
  have hP : va_P G vwCl [(h, .inr (5, [.int (Z0 0), .ref a_1, .null, .null, .null, .null])), kX3 a_1 (u_2 0) i_X3_init_0, aI y (u_2 0) 10 Z0, kX1 a_3 i_X1_init_0] H := hP
  have hD : va_D A [(h, .inr (5, [.int (Z0 0), .ref a_1, .null, .null, .null, .null])), kX3 a_1 (u_2 0) i_X3_init_0, aI y (u_2 0) 10 Z0, kX1 a_3 i_X1_init_0] := hD
  refine va_putF (D := G) (ci := 5) (v := .ref a_3) (ty := (.object "RelayTuner$Control")) (C := RX7) (T := TX7) (N := 6) hx hb hts i_X7 tyX7 tyX7_ok nmX7 hown hK hP hD hS 0 rfl rfl 2 (by decide) (hts (.fieldLink RX7 21 "RelayTuner$State" "control" "LRelayTuner$Control;") (by decide +kernel)) (fun _ h9 => h9) rfl hin rfl (by decide +kernel) rfl rfl (Nat.le_of_ble_eq_true rfl) dX7_init_23 (fun H locs hP hD hS => ?_)
  have hP : va_P G vwCl [(h, .inr (5, [.int (Z0 0), .ref a_1, .ref a_3, .null, .null, .null])), kX3 a_1 (u_2 0) i_X3_init_0, aI y (u_2 0) 10 Z0, kX1 a_3 i_X1_init_0] H := hP
  have hD : va_D A [(h, .inr (5, [.int (Z0 0), .ref a_1, .ref a_3, .null, .null, .null])), kX3 a_1 (u_2 0) i_X3_init_0, aI y (u_2 0) 10 Z0, kX1 a_3 i_X1_init_0] := hD
  refine lv_aload_n hx hb dX7_init_26 rfl (lv_at hl 0 rfl) ?_
  refine va_new (D := G) (ci := 6) (fs := [.int 0, .null, .null, .null, .null, .null, .int 0, .int 0, .int 0, .int 0]) (C := RX8) (T := TX8) (N := 10) hx hb hts i_X8 tyX8 tyX8_ok hown (hts (.classLink RX7 25 RX8) (by decide +kernel)) (hts (.instantiable RX8 10) (by decide +kernel)) (hts (.initialized RX8) (by decide +kernel)) hK hP hD hS hA rfl (fun j hj => by rcases (show j = 0 ∨ j = 1 ∨ j = 2 ∨ j = 3 ∨ j = 4 ∨ j = 5 ∨ j = 6 ∨ j = 7 ∨ j = 8 ∨ j = 9 by omega) with rfl | rfl | rfl | rfl | rfl | rfl | rfl | rfl | rfl | rfl <;> rfl) (Nat.le_of_ble_eq_true rfl) (Nat.le_of_ble_eq_true rfl) dX7_init_27 (fun a_5 H hP hD hS => ?_)
  have hP : va_P G vwCl [(h, .inr (5, [.int (Z0 0), .ref a_1, .ref a_3, .null, .null, .null])), kX3 a_1 (u_2 0) i_X3_init_0, aI y (u_2 0) 10 Z0, kX1 a_3 i_X1_init_0, (a_5, .inr (6, [.int (Z0 0), .null, .null, .null, .null, .null, .int (Z0 6), .int (Z0 7), .int (Z0 8), .int (Z0 9)]))] H := hP
  have hD : va_D A [(h, .inr (5, [.int (Z0 0), .ref a_1, .ref a_3, .null, .null, .null])), kX3 a_1 (u_2 0) i_X3_init_0, aI y (u_2 0) 10 Z0, kX1 a_3 i_X1_init_0, (a_5, .inr (6, [.int (Z0 0), .null, .null, .null, .null, .null, .int (Z0 6), .int (Z0 7), .int (Z0 8), .int (Z0 9)]))] := hD
  refine lv_dup hx hb dX7_init_30 rfl ?_
  refine cl_Hv (wr := [(h, .inr (5, [.int (Z0 0), .ref a_1, .ref a_3, .null, .null, .null])), kX3 a_1 (u_2 0) i_X3_init_0, aI y (u_2 0) 10 Z0, kX1 a_3 i_X1_init_0]) (fun u_6 : Nat → Nat => [(h, .inr (5, [.int (Z0 0), .ref a_1, .ref a_3, .null, .null, .null])), kX3 a_1 (u_2 0) i_X3_init_0, aI y (u_2 0) 10 Z0, kX1 a_3 i_X1_init_0, kX8 a_5 (u_6 0) (u_6 1) (u_6 2) (u_6 3) (u_6 4) Z0, aI y (u_6 0) 20 Z0, aI y (u_6 1) 20 Z0, aI y (u_6 2) 20 Z0, aI y (u_6 3) 20 Z0, aI y (u_6 4) 20 Z0]) [4] [0, 1, 2, 3] [0, 1, 2, 3, 4, 5, 6, 7, 8, 9] (va_runIN (As := []) (rest := [.ref a_5, .ref h]) ⟨hx, hb, hml, hown, hts⟩ (c_X8_init l G y a_5 H.size) ⟨va_cnB 0 hts gX7_init_X8_init_n27 rfl rfl rfl (NN.m hN (by decide +kernel)) (hts (.initialized RX8) (by decide +kernel)) (by decide +kernel) ⟨Nat.le_of_ble_eq_true rfl, Nat.le_of_ble_eq_true rfl⟩, rfl, hts (.instanceMethod yX8_init) (by decide +kernel)⟩ (PH_S (hP.sub (ws' := [(a_5, .inr (6, [.int (Z0 0), .null, .null, .null, .null, .null, .int (Z0 6), .int (Z0 7), .int (Z0 8), .int (Z0 9)]))]) [4] rfl) hK hN (hD.sub (ws' := [(a_5, .inr (6, [.int (Z0 0), .null, .null, .null, .null, .null, .int (Z0 6), .int (Z0 7), .int (Z0 8), .int (Z0 9)]))]) [4] (by decide) rfl)) rfl rfl hl.1 rfl (lv_room (Nat.le_of_ble_eq_true rfl)) dX7_init_31 ⟨Nat.le_of_ble_eq_true rfl, Nat.le_of_ble_eq_true rfl⟩) hP hD hS hA rfl rfl rfl (by decide) rfl (fun _ => rfl) (fun u_6 H locs hP hD hS => ?_)
  have hP : va_P G vwCl [(h, .inr (5, [.int (Z0 0), .ref a_1, .ref a_3, .null, .null, .null])), kX3 a_1 (u_2 0) i_X3_init_0, aI y (u_2 0) 10 Z0, kX1 a_3 i_X1_init_0, kX8 a_5 (u_6 0) (u_6 1) (u_6 2) (u_6 3) (u_6 4) Z0, aI y (u_6 0) 20 Z0, aI y (u_6 1) 20 Z0, aI y (u_6 2) 20 Z0, aI y (u_6 3) 20 Z0, aI y (u_6 4) 20 Z0] H := hP
  have hD : va_D A [(h, .inr (5, [.int (Z0 0), .ref a_1, .ref a_3, .null, .null, .null])), kX3 a_1 (u_2 0) i_X3_init_0, aI y (u_2 0) 10 Z0, kX1 a_3 i_X1_init_0, kX8 a_5 (u_6 0) (u_6 1) (u_6 2) (u_6 3) (u_6 4) Z0, aI y (u_6 0) 20 Z0, aI y (u_6 1) 20 Z0, aI y (u_6 2) 20 Z0, aI y (u_6 3) 20 Z0, aI y (u_6 4) 20 Z0] := hD
  refine va_putF (D := G) (ci := 5) (v := .ref a_5) (ty := (.object "RelayTuner$Swings")) (C := RX7) (T := TX7) (N := 6) hx hb hts i_X7 tyX7 tyX7_ok nmX7 hown hK hP hD hS 0 rfl rfl 3 (by decide) (hts (.fieldLink RX7 28 "RelayTuner$State" "swings" "LRelayTuner$Swings;") (by decide +kernel)) (fun _ h9 => h9) rfl hin rfl (by decide +kernel) rfl rfl (Nat.le_of_ble_eq_true rfl) dX7_init_34 (fun H locs hP hD hS => ?_)
  have hP : va_P G vwCl [(h, .inr (5, [.int (Z0 0), .ref a_1, .ref a_3, .ref a_5, .null, .null])), kX3 a_1 (u_2 0) i_X3_init_0, aI y (u_2 0) 10 Z0, kX1 a_3 i_X1_init_0, kX8 a_5 (u_6 0) (u_6 1) (u_6 2) (u_6 3) (u_6 4) Z0, aI y (u_6 0) 20 Z0, aI y (u_6 1) 20 Z0, aI y (u_6 2) 20 Z0, aI y (u_6 3) 20 Z0, aI y (u_6 4) 20 Z0] H := hP
  have hD : va_D A [(h, .inr (5, [.int (Z0 0), .ref a_1, .ref a_3, .ref a_5, .null, .null])), kX3 a_1 (u_2 0) i_X3_init_0, aI y (u_2 0) 10 Z0, kX1 a_3 i_X1_init_0, kX8 a_5 (u_6 0) (u_6 1) (u_6 2) (u_6 3) (u_6 4) Z0, aI y (u_6 0) 20 Z0, aI y (u_6 1) 20 Z0, aI y (u_6 2) 20 Z0, aI y (u_6 3) 20 Z0, aI y (u_6 4) 20 Z0] := hD
  refine lv_aload_n hx hb dX7_init_37 rfl (lv_at hl 0 rfl) ?_
  refine va_new (D := G) (ci := 8) (fs := [.int 0, .null]) (C := RX10) (T := TX10) (N := 2) hx hb hts i_X10 tyX10 tyX10_ok hown (hts (.classLink RX7 32 RX10) (by decide +kernel)) (hts (.instantiable RX10 2) (by decide +kernel)) (hts (.initialized RX10) (by decide +kernel)) hK hP hD hS hA rfl (fun j hj => by rcases (show j = 0 ∨ j = 1 by omega) with rfl | rfl <;> rfl) (Nat.le_of_ble_eq_true rfl) (Nat.le_of_ble_eq_true rfl) dX7_init_38 (fun a_7 H hP hD hS => ?_)
  have hP : va_P G vwCl [(h, .inr (5, [.int (Z0 0), .ref a_1, .ref a_3, .ref a_5, .null, .null])), kX3 a_1 (u_2 0) i_X3_init_0, aI y (u_2 0) 10 Z0, kX1 a_3 i_X1_init_0, kX8 a_5 (u_6 0) (u_6 1) (u_6 2) (u_6 3) (u_6 4) Z0, aI y (u_6 0) 20 Z0, aI y (u_6 1) 20 Z0, aI y (u_6 2) 20 Z0, aI y (u_6 3) 20 Z0, aI y (u_6 4) 20 Z0, (a_7, .inr (8, [.int (Z0 0), .null]))] H := hP
  have hD : va_D A [(h, .inr (5, [.int (Z0 0), .ref a_1, .ref a_3, .ref a_5, .null, .null])), kX3 a_1 (u_2 0) i_X3_init_0, aI y (u_2 0) 10 Z0, kX1 a_3 i_X1_init_0, kX8 a_5 (u_6 0) (u_6 1) (u_6 2) (u_6 3) (u_6 4) Z0, aI y (u_6 0) 20 Z0, aI y (u_6 1) 20 Z0, aI y (u_6 2) 20 Z0, aI y (u_6 3) 20 Z0, aI y (u_6 4) 20 Z0, (a_7, .inr (8, [.int (Z0 0), .null]))] := hD
  refine lv_dup hx hb dX7_init_41 rfl ?_
  refine cl_Hv (wr := [(h, .inr (5, [.int (Z0 0), .ref a_1, .ref a_3, .ref a_5, .null, .null])), kX3 a_1 (u_2 0) i_X3_init_0, aI y (u_2 0) 10 Z0, kX1 a_3 i_X1_init_0, kX8 a_5 (u_6 0) (u_6 1) (u_6 2) (u_6 3) (u_6 4) Z0, aI y (u_6 0) 20 Z0, aI y (u_6 1) 20 Z0, aI y (u_6 2) 20 Z0, aI y (u_6 3) 20 Z0, aI y (u_6 4) 20 Z0]) (fun u_8 : Nat → Nat => [(h, .inr (5, [.int (Z0 0), .ref a_1, .ref a_3, .ref a_5, .null, .null])), kX3 a_1 (u_2 0) i_X3_init_0, aI y (u_2 0) 10 Z0, kX1 a_3 i_X1_init_0, kX8 a_5 (u_6 0) (u_6 1) (u_6 2) (u_6 3) (u_6 4) Z0, aI y (u_6 0) 20 Z0, aI y (u_6 1) 20 Z0, aI y (u_6 2) 20 Z0, aI y (u_6 3) 20 Z0, aI y (u_6 4) 20 Z0, kX10 a_7 (u_8 0) Z0, aI y (u_8 0) 32 Z0]) [10] [0, 1, 2, 3, 4, 5, 6, 7, 8, 9] [0, 1, 2, 3, 4, 5, 6, 7, 8, 9, 10, 11] (va_runIN (As := []) (rest := [.ref a_7, .ref h]) ⟨hx, hb, hml, hown, hts⟩ (c_X10_init l G y a_7 H.size) ⟨va_cnB 0 hts gX7_init_X10_init_n34 rfl rfl rfl (NN.m hN (by decide +kernel)) (hts (.initialized RX10) (by decide +kernel)) (by decide +kernel) ⟨Nat.le_of_ble_eq_true rfl, Nat.le_of_ble_eq_true rfl⟩, rfl, hts (.instanceMethod yX10_init) (by decide +kernel)⟩ (PH_S (hP.sub (ws' := [(a_7, .inr (8, [.int (Z0 0), .null]))]) [10] rfl) hK hN (hD.sub (ws' := [(a_7, .inr (8, [.int (Z0 0), .null]))]) [10] (by decide) rfl)) rfl rfl hl.1 rfl (lv_room (Nat.le_of_ble_eq_true rfl)) dX7_init_42 ⟨Nat.le_of_ble_eq_true rfl, Nat.le_of_ble_eq_true rfl⟩) hP hD hS hA rfl rfl rfl (by decide) rfl (fun _ => rfl) (fun u_8 H locs hP hD hS => ?_)
  have hP : va_P G vwCl [(h, .inr (5, [.int (Z0 0), .ref a_1, .ref a_3, .ref a_5, .null, .null])), kX3 a_1 (u_2 0) i_X3_init_0, aI y (u_2 0) 10 Z0, kX1 a_3 i_X1_init_0, kX8 a_5 (u_6 0) (u_6 1) (u_6 2) (u_6 3) (u_6 4) Z0, aI y (u_6 0) 20 Z0, aI y (u_6 1) 20 Z0, aI y (u_6 2) 20 Z0, aI y (u_6 3) 20 Z0, aI y (u_6 4) 20 Z0, kX10 a_7 (u_8 0) Z0, aI y (u_8 0) 32 Z0] H := hP
  have hD : va_D A [(h, .inr (5, [.int (Z0 0), .ref a_1, .ref a_3, .ref a_5, .null, .null])), kX3 a_1 (u_2 0) i_X3_init_0, aI y (u_2 0) 10 Z0, kX1 a_3 i_X1_init_0, kX8 a_5 (u_6 0) (u_6 1) (u_6 2) (u_6 3) (u_6 4) Z0, aI y (u_6 0) 20 Z0, aI y (u_6 1) 20 Z0, aI y (u_6 2) 20 Z0, aI y (u_6 3) 20 Z0, aI y (u_6 4) 20 Z0, kX10 a_7 (u_8 0) Z0, aI y (u_8 0) 32 Z0] := hD
  refine va_putF (D := G) (ci := 5) (v := .ref a_7) (ty := (.object "RelayTuner$Trials")) (C := RX7) (T := TX7) (N := 6) hx hb hts i_X7 tyX7 tyX7_ok nmX7 hown hK hP hD hS 0 rfl rfl 4 (by decide) (hts (.fieldLink RX7 35 "RelayTuner$State" "trials" "LRelayTuner$Trials;") (by decide +kernel)) (fun _ h9 => h9) rfl hin rfl (by decide +kernel) rfl rfl (Nat.le_of_ble_eq_true rfl) dX7_init_45 (fun H locs hP hD hS => ?_)
  have hP : va_P G vwCl [(h, .inr (5, [.int (Z0 0), .ref a_1, .ref a_3, .ref a_5, .ref a_7, .null])), kX3 a_1 (u_2 0) i_X3_init_0, aI y (u_2 0) 10 Z0, kX1 a_3 i_X1_init_0, kX8 a_5 (u_6 0) (u_6 1) (u_6 2) (u_6 3) (u_6 4) Z0, aI y (u_6 0) 20 Z0, aI y (u_6 1) 20 Z0, aI y (u_6 2) 20 Z0, aI y (u_6 3) 20 Z0, aI y (u_6 4) 20 Z0, kX10 a_7 (u_8 0) Z0, aI y (u_8 0) 32 Z0] H := hP
  have hD : va_D A [(h, .inr (5, [.int (Z0 0), .ref a_1, .ref a_3, .ref a_5, .ref a_7, .null])), kX3 a_1 (u_2 0) i_X3_init_0, aI y (u_2 0) 10 Z0, kX1 a_3 i_X1_init_0, kX8 a_5 (u_6 0) (u_6 1) (u_6 2) (u_6 3) (u_6 4) Z0, aI y (u_6 0) 20 Z0, aI y (u_6 1) 20 Z0, aI y (u_6 2) 20 Z0, aI y (u_6 3) 20 Z0, aI y (u_6 4) 20 Z0, kX10 a_7 (u_8 0) Z0, aI y (u_8 0) 32 Z0] := hD
  refine lv_aload_n hx hb dX7_init_48 rfl (lv_at hl 0 rfl) ?_
  refine va_new (D := G) (ci := 0) (fs := [.null, .int 0, .int 0, .int 0, .int 0, .int 0]) (C := RX0) (T := TX0) (N := 6) hx hb hts i_X0 tyX0 tyX0_ok hown (hts (.classLink RX7 39 RX0) (by decide +kernel)) (hts (.instantiable RX0 6) (by decide +kernel)) (hts (.initialized RX0) (by decide +kernel)) hK hP hD hS hA rfl (fun j hj => by rcases (show j = 0 ∨ j = 1 ∨ j = 2 ∨ j = 3 ∨ j = 4 ∨ j = 5 by omega) with rfl | rfl | rfl | rfl | rfl | rfl <;> rfl) (Nat.le_of_ble_eq_true rfl) (Nat.le_of_ble_eq_true rfl) dX7_init_49 (fun a_9 H hP hD hS => ?_)
  have hP : va_P G vwCl [(h, .inr (5, [.int (Z0 0), .ref a_1, .ref a_3, .ref a_5, .ref a_7, .null])), kX3 a_1 (u_2 0) i_X3_init_0, aI y (u_2 0) 10 Z0, kX1 a_3 i_X1_init_0, kX8 a_5 (u_6 0) (u_6 1) (u_6 2) (u_6 3) (u_6 4) Z0, aI y (u_6 0) 20 Z0, aI y (u_6 1) 20 Z0, aI y (u_6 2) 20 Z0, aI y (u_6 3) 20 Z0, aI y (u_6 4) 20 Z0, kX10 a_7 (u_8 0) Z0, aI y (u_8 0) 32 Z0, (a_9, .inr (0, [.null, .int (Z0 1), .int (Z0 2), .int (Z0 3), .int (Z0 4), .int (Z0 5)]))] H := hP
  have hD : va_D A [(h, .inr (5, [.int (Z0 0), .ref a_1, .ref a_3, .ref a_5, .ref a_7, .null])), kX3 a_1 (u_2 0) i_X3_init_0, aI y (u_2 0) 10 Z0, kX1 a_3 i_X1_init_0, kX8 a_5 (u_6 0) (u_6 1) (u_6 2) (u_6 3) (u_6 4) Z0, aI y (u_6 0) 20 Z0, aI y (u_6 1) 20 Z0, aI y (u_6 2) 20 Z0, aI y (u_6 3) 20 Z0, aI y (u_6 4) 20 Z0, kX10 a_7 (u_8 0) Z0, aI y (u_8 0) 32 Z0, (a_9, .inr (0, [.null, .int (Z0 1), .int (Z0 2), .int (Z0 3), .int (Z0 4), .int (Z0 5)]))] := hD
  refine lv_dup hx hb dX7_init_52 rfl ?_
  refine cl_Hv (wr := [(h, .inr (5, [.int (Z0 0), .ref a_1, .ref a_3, .ref a_5, .ref a_7, .null])), kX3 a_1 (u_2 0) i_X3_init_0, aI y (u_2 0) 10 Z0, kX1 a_3 i_X1_init_0, kX8 a_5 (u_6 0) (u_6 1) (u_6 2) (u_6 3) (u_6 4) Z0, aI y (u_6 0) 20 Z0, aI y (u_6 1) 20 Z0, aI y (u_6 2) 20 Z0, aI y (u_6 3) 20 Z0, aI y (u_6 4) 20 Z0, kX10 a_7 (u_8 0) Z0, aI y (u_8 0) 32 Z0]) (fun u_10 : Nat → Nat => [(h, .inr (5, [.int (Z0 0), .ref a_1, .ref a_3, .ref a_5, .ref a_7, .null])), kX3 a_1 (u_2 0) i_X3_init_0, aI y (u_2 0) 10 Z0, kX1 a_3 i_X1_init_0, kX8 a_5 (u_6 0) (u_6 1) (u_6 2) (u_6 3) (u_6 4) Z0, aI y (u_6 0) 20 Z0, aI y (u_6 1) 20 Z0, aI y (u_6 2) 20 Z0, aI y (u_6 3) 20 Z0, aI y (u_6 4) 20 Z0, kX10 a_7 (u_8 0) Z0, aI y (u_8 0) 32 Z0, kX0 a_9 (u_10 0) Z0, aI y (u_10 0) 3 Z0]) [12] [0, 1, 2, 3, 4, 5, 6, 7, 8, 9, 10, 11] [0, 1, 2, 3, 4, 5, 6, 7, 8, 9, 10, 11, 12, 13] (va_runIN (As := []) (rest := [.ref a_9, .ref h]) ⟨hx, hb, hml, hown, hts⟩ (c_X0_init l G y a_9 H.size) ⟨va_cnB 0 hts gX7_init_X0_init_n41 rfl rfl rfl (NN.m hN (by decide +kernel)) (hts (.initialized RX0) (by decide +kernel)) (by decide +kernel) ⟨Nat.le_of_ble_eq_true rfl, Nat.le_of_ble_eq_true rfl⟩, rfl, hts (.instanceMethod yX0_init) (by decide +kernel)⟩ (PH_S (hP.sub (ws' := [(a_9, .inr (0, [.null, .int (Z0 1), .int (Z0 2), .int (Z0 3), .int (Z0 4), .int (Z0 5)]))]) [12] rfl) hK hN (hD.sub (ws' := [(a_9, .inr (0, [.null, .int (Z0 1), .int (Z0 2), .int (Z0 3), .int (Z0 4), .int (Z0 5)]))]) [12] (by decide) rfl)) rfl rfl hl.1 rfl (lv_room (Nat.le_of_ble_eq_true rfl)) dX7_init_53 ⟨Nat.le_of_ble_eq_true rfl, Nat.le_of_ble_eq_true rfl⟩) hP hD hS hA rfl rfl rfl (by decide) rfl (fun _ => rfl) (fun u_10 H locs hP hD hS => ?_)
  have hP : va_P G vwCl [(h, .inr (5, [.int (Z0 0), .ref a_1, .ref a_3, .ref a_5, .ref a_7, .null])), kX3 a_1 (u_2 0) i_X3_init_0, aI y (u_2 0) 10 Z0, kX1 a_3 i_X1_init_0, kX8 a_5 (u_6 0) (u_6 1) (u_6 2) (u_6 3) (u_6 4) Z0, aI y (u_6 0) 20 Z0, aI y (u_6 1) 20 Z0, aI y (u_6 2) 20 Z0, aI y (u_6 3) 20 Z0, aI y (u_6 4) 20 Z0, kX10 a_7 (u_8 0) Z0, aI y (u_8 0) 32 Z0, kX0 a_9 (u_10 0) Z0, aI y (u_10 0) 3 Z0] H := hP
  have hD : va_D A [(h, .inr (5, [.int (Z0 0), .ref a_1, .ref a_3, .ref a_5, .ref a_7, .null])), kX3 a_1 (u_2 0) i_X3_init_0, aI y (u_2 0) 10 Z0, kX1 a_3 i_X1_init_0, kX8 a_5 (u_6 0) (u_6 1) (u_6 2) (u_6 3) (u_6 4) Z0, aI y (u_6 0) 20 Z0, aI y (u_6 1) 20 Z0, aI y (u_6 2) 20 Z0, aI y (u_6 3) 20 Z0, aI y (u_6 4) 20 Z0, kX10 a_7 (u_8 0) Z0, aI y (u_8 0) 32 Z0, kX0 a_9 (u_10 0) Z0, aI y (u_10 0) 3 Z0] := hD
  refine va_putF (D := G) (ci := 5) (v := .ref a_9) (ty := (.object "RelayTuner$Accounts")) (C := RX7) (T := TX7) (N := 6) hx hb hts i_X7 tyX7 tyX7_ok nmX7 hown hK hP hD hS 0 rfl rfl 5 (by decide) (hts (.fieldLink RX7 42 "RelayTuner$State" "accounts" "LRelayTuner$Accounts;") (by decide +kernel)) (fun _ h9 => h9) rfl hin rfl (by decide +kernel) rfl rfl (Nat.le_of_ble_eq_true rfl) dX7_init_56 (fun H locs hP hD hS => ?_)
  have hP : va_P G vwCl [kX7 h a_1 a_3 a_5 a_7 a_9 Z0, kX3 a_1 (u_2 0) i_X3_init_0, aI y (u_2 0) 10 Z0, kX1 a_3 i_X1_init_0, kX8 a_5 (u_6 0) (u_6 1) (u_6 2) (u_6 3) (u_6 4) Z0, aI y (u_6 0) 20 Z0, aI y (u_6 1) 20 Z0, aI y (u_6 2) 20 Z0, aI y (u_6 3) 20 Z0, aI y (u_6 4) 20 Z0, kX10 a_7 (u_8 0) Z0, aI y (u_8 0) 32 Z0, kX0 a_9 (u_10 0) Z0, aI y (u_10 0) 3 Z0] H := hP
  have hD : va_D A [kX7 h a_1 a_3 a_5 a_7 a_9 Z0, kX3 a_1 (u_2 0) i_X3_init_0, aI y (u_2 0) 10 Z0, kX1 a_3 i_X1_init_0, kX8 a_5 (u_6 0) (u_6 1) (u_6 2) (u_6 3) (u_6 4) Z0, aI y (u_6 0) 20 Z0, aI y (u_6 1) 20 Z0, aI y (u_6 2) 20 Z0, aI y (u_6 3) 20 Z0, aI y (u_6 4) 20 Z0, kX10 a_7 (u_8 0) Z0, aI y (u_8 0) 32 Z0, kX0 a_9 (u_10 0) Z0, aI y (u_10 0) 3 Z0] := hD
  exact W.vret hx hb hr (end_Hv (fun i => match i with | 0 => a_1 | 1 => (u_2 0) | 2 => a_3 | 3 => a_5 | 4 => (u_6 0) | 5 => (u_6 1) | 6 => (u_6 2) | 7 => (u_6 3) | 8 => (u_6 4) | 9 => a_7 | 10 => (u_8 0) | 11 => a_9 | 12 => (u_10 0) | _ => 0) hP hD hS rfl) hS.2.2 dX7_init_59

theorem ite_P {α : Type} {P : α → Prop} {c : Prop} [Decidable c] {f g : α} (h1 : c → P f) (h2 : ¬ c → P g) : P (if c then f else g) := by
  by_cases h : c
  · rw [if_pos h]; exact h1 h
  · rw [if_neg h]; exact h2 h
theorem spot_in {a b : Int32} (hs : vp_in a 61) (ht : vp_in b 61) (h : ¬ b ≤ a) : a = nI (tn a) ∧ tn a < 60 := by
  obtain ⟨h1, h2⟩ := in_tn hs (by decide)
  obtain ⟨h3, h4⟩ := in_tn ht (by decide)
  have h5 := klt h1 h3 (by omega) (by omega) h
  exact ⟨h1, by omega⟩
theorem spot_next {a b : Int32} (hs : vp_in a 61) (ht : vp_in b 61) (h : ¬ b ≤ a) : vp_in (a + 1) 61 := by
  obtain ⟨h1, h2⟩ := spot_in hs ht h
  have h3 := nI_1 (tn a)
  rw [← h1] at h3
  rw [h3]
  exact vp_in_nI (by omega) (by decide)

def s_X12_eat_r (a1 : Int32) (x : Nat → Int32) (ft : Nat → Int32) : Int32 := (let v_2 : Int32 := (if (x 2) ≤ (x 3) then 0 else (if (ft (tn (x 3))) = a1 then 1 else 0)); v_2)
def s_X12_eat_w0 (a1 : Int32) (x : Nat → Int32) (ft : Nat → Int32) : Nat → Int32 := (let v_2 : Int32 := (if (x 2) ≤ (x 3) then 0 else (if (ft (tn (x 3))) = a1 then 1 else 0)); (let v_6 : Int32 := (if v_2 = 0 then 0 else 1); (upd x 3 ((x 3) + v_6))))
theorem z_X12_eat (a1 : Int32) (x : Nat → Int32) (ft : Nat → Int32) : s_X12_eat_r a1 x ft = 0 ∨ s_X12_eat_r a1 x ft = 1 := by unfold s_X12_eat_r; (try dsimp only); exact (z_ite (Or.inl rfl) (z_ite (Or.inr rfl) (Or.inl rfl)))
abbrev rmX12_eat : Room := ({ frames := 0, cells := 0, slots := 0, locals := 0 } : Room)
set_option maxHeartbeats 4000000 in
set_option maxRecDepth 100000 in
theorem c_X12_eat (l : Launch) (G : va_G) (y : Nat → ClassId) (h : Nat) (a1 : Int32) (q1 : Nat) (q4 : Nat) (q5 : Nat) (q6 : Nat) (q7 : Nat) (q9 : Nat) (q10 : Nat) (q11 : Nat) (x : Nat → Int32) (ft : Nat → Int32) (sz : Nat) (ht : vp_in (x 2) 61) (hs : vp_in (x 3) 61) : Met l yX12_eat wsX12_eat rmX12_eat (PH G y [.ref h, .int a1] [kX12 h q1 q4 q5 q6 q7 q9 q10 q11 x, aI y q1 60 ft] sz) (QHi G (s_X12_eat_r a1 x ft) (fun _ : Unit => [kX12 h q1 q4 q5 q6 q7 q9 q10 q11 (s_X12_eat_w0 a1 x ft), aI y q1 60 ft]) (va_A [kX12 h q1 q4 q5 q6 q7 q9 q10 q11 x, aI y q1 60 ft] sz)) 0 0 (va_A [kX12 h q1 q4 q5 q6 q7 q9 q10 q11 x, aI y q1 60 ft] sz) := by
  refine Met.ofW (cc := cX12_eat) (maxL := 3) (ret := (some .boolean)) (by decide) rfl ?_
  intro p e s m args below meth c s₁ B hml hv
  obtain ⟨rfl, hsz, hP, ⟨hK, hN⟩, hD0⟩ := hv
  have hx := B.exec
  have hb := B.bytes
  have hr := B.returns
  have hts := atoms_spec (ws := wsX12_eat) B.pre
  have hown : s.vm.findClass RX12 = some m.cls := findClass_of_methodNamed B.named
  have hlocks := B.notSynchronized
  have i_X12 : ∀ w ∈ u_ws RX12 TX12 15, w ∈ wsX12_eat := by decide +kernel
  subst hsz
  have hD := hD0.self (sz := s.heap.size)
  generalize hAe : va_A [kX12 h q1 q4 q5 q6 q7 q9 q10 q11 x, aI y q1 60 ft] s.heap.size = A at hD ⊢
  have hA : ∀ q : Nat, s.heap.size ≤ q → A q := fun q h => by rw [← hAe]; exact Or.inr h
  have hS : va_S A s.heap s.heap [] := va_S.rf
  have hP : va_P G vwCl [kX12 h q1 q4 q5 q6 q7 q9 q10 q11 x, aI y q1 60 ft] s.heap := hP
  have hl := lv_entry ([.ref h, .int a1]) (n := 3) (Nat.le_of_ble_eq_true rfl)
  rw [lg_entry_eq]
  generalize (lg_sl ([.ref h, .int a1]) ++ List.replicate (3 - (lg_sl ([.ref h, .int a1])).length) Slot.unset).toArray = ls at hl ⊢
  have hl : lv_has ls 3 [(0, .ref h), (1, .int a1)] := hl
  obtain ⟨QQ, hQQ⟩ : ∃ zq9, zq9 = MQ below (QHi G (s_X12_eat_r a1 x ft) (fun _ : Unit => [kX12 h q1 q4 q5 q6 q7 q9 q10 q11 (s_X12_eat_w0 a1 x ft), aI y q1 60 ft]) A) ([.ref h, .int a1] : List Value).toArray s 0 0 A := ⟨_, rfl⟩
  rw [← hQQ]
  refine lv_aload_n hx hb dX12_eat_0 rfl (lv_at hl 0 rfl) ?_
  refine va_get (D := G) (ci := 10) (v := .int (x 3)) (C := RX12) (T := TX12) (N := 15) hx hb hts i_X12 hown hK hP 0 rfl rfl 3 (by decide) (hts (.fieldLink RX12 122 "RelayTunerModel" "spot" "I") (by decide +kernel)) (fun _ h9 => h9) rfl dX12_eat_1 ?_
  refine lv_aload_n hx hb dX12_eat_4 rfl (lv_at hl 0 rfl) ?_
  refine va_get (D := G) (ci := 10) (v := .int (x 2)) (C := RX12) (T := TX12) (N := 15) hx hb hts i_X12 hown hK hP 0 rfl rfl 2 (by decide) (hts (.fieldLink RX12 115 "RelayTunerModel" "textSize" "I") (by decide +kernel)) (fun _ h9 => h9) rfl dX12_eat_5 ?_
  have J29_4 : ∀ (v_2 : Int32) (e_v_2 : v_2 = (if (x 2) ≤ (x 3) then 0 else (if (ft (tn (x 3))) = a1 then 1 else 0))) (z_3 : v_2 = 0 ∨ v_2 = 1) (ls : Array Slot) (hl : lv_has ls 3 [(0, .ref h)]), W p l e (headSpec wsX12_eat rmX12_eat).room s m ([.ref h, .int a1] : List Value).toArray below meth c s.heap [] 0 0 QQ (F0 m 29 ls [.int v_2]) := by
    intro v_2 e_v_2 z_3 ls hl
    refine lv_istore_n (lv' := [(2, .int v_2), (0, .ref h)]) hx hb dX12_eat_29 rfl hl (by decide) rfl (fun ls hl => ?_)
    refine lv_aload_n hx hb dX12_eat_30 rfl (lv_at hl 1 rfl) ?_
    refine lv_dup hx hb dX12_eat_31 rfl ?_
    refine va_get (D := G) (ci := 10) (v := .int (x 3)) (C := RX12) (T := TX12) (N := 15) hx hb hts i_X12 hown hK hP 0 rfl rfl 3 (by decide) (hts (.fieldLink RX12 122 "RelayTunerModel" "spot" "I") (by decide +kernel)) (fun _ h9 => h9) rfl dX12_eat_32 ?_
    refine lv_iload_n hx hb dX12_eat_35 rfl (lv_at hl 0 rfl) ?_
    have J44_8 : ∀ (v_6 : Int32) (e_v_6 : v_6 = (if v_2 = 0 then 0 else 1)) (z_7 : v_6 = 0 ∨ v_6 = 1) (ls : Array Slot) (hl : lv_has ls 3 [(2, .int v_2)]), W p l e (headSpec wsX12_eat rmX12_eat).room s m ([.ref h, .int a1] : List Value).toArray below meth c s.heap [] 0 0 QQ (F0 m 44 ls [.int v_6, .int (x 3), .ref h]) := by
      intro v_6 e_v_6 z_7 ls hl
      refine lv_iadd hx hb dX12_eat_44 ?_
      refine va_put (D := G) (ci := 10) (v := .int ((x 3) + v_6)) (ty := .int) (C := RX12) (T := TX12) (N := 15) hx hb hts i_X12 tyX12 tyX12_ok nmX12 hown hK hP hD hS 0 rfl rfl 3 (by decide) (hts (.fieldLink RX12 122 "RelayTunerModel" "spot" "I") (by decide +kernel)) (fun _ h9 => h9) rfl (by decide +kernel) rfl rfl (Nat.le_of_ble_eq_true rfl) dX12_eat_45 (fun H locs hP hD hS => ?_)
      have hP : va_P G vwCl [kX12 h q1 q4 q5 q6 q7 q9 q10 q11 (upd x 3 ((x 3) + v_6)), aI y q1 60 ft] H := hP
      have hD : va_D A [kX12 h q1 q4 q5 q6 q7 q9 q10 q11 (upd x 3 ((x 3) + v_6)), aI y q1 60 ft] := hD
      refine lv_iload_n hx hb dX12_eat_48 rfl (lv_at hl 0 rfl) ?_
      rw [hQQ]
      exact W.zret hx hb hr (nz_bool z_3) (end_Hi () hP hD hS (by subst e_v_6; subst e_v_2; unfold s_X12_eat_r; exact rfl) (congrArg (fun (z0 : Nat → Int32) => [kX12 h q1 q4 q5 q6 q7 q9 q10 q11 z0, aI y q1 60 ft]) (by subst e_v_6; subst e_v_2; unfold s_X12_eat_w0; exact rfl))) hS.2.2 dX12_eat_49
    refine lv_if_eq (tgt := 43) hx hb dX12_eat_36 (by decide) (fun c_5 => ?_) (fun c_5 => ?_)
    · refine lv_iconst (v := 0) hx hb dX12_eat_43 (by decide) ?_
      exact J44_8 _ (if_pos c_5).symm (Or.inl rfl) ls (lv_sub hl [0] rfl)
    · refine lv_iconst (v := 1) hx hb dX12_eat_39 (by decide) ?_
      refine lv_goto (tgt := 44) hx hb dX12_eat_40 (by decide) ?_
      exact J44_8 _ (if_neg c_5).symm (Or.inr rfl) ls (lv_sub hl [0] rfl)
  refine lv_icmp_ge (tgt := 28) hx hb dX12_eat_8 (by decide) (fun c_1 => ?_) (fun c_1 => ?_)
  · refine lv_iconst (v := 0) hx hb dX12_eat_28 (by decide) ?_
    exact J29_4 _ (if_pos c_1).symm (Or.inl rfl) ls (lv_sub hl [0] rfl)
  · refine lv_aload_n hx hb dX12_eat_11 rfl (lv_at hl 0 rfl) ?_
    refine va_get (D := G) (ci := 10) (v := .ref q1) (C := RX12) (T := TX12) (N := 15) hx hb hts i_X12 hown hK hP 0 rfl rfl 1 (by decide) (hts (.fieldLink RX12 7 "RelayTunerModel" "text" "[I") (by decide +kernel)) (fun _ h9 => h9) rfl dX12_eat_12 ?_
    refine lv_aload_n hx hb dX12_eat_15 rfl (lv_at hl 0 rfl) ?_
    refine va_get (D := G) (ci := 10) (v := .int (x 3)) (C := RX12) (T := TX12) (N := 15) hx hb hts i_X12 hown hK hP 0 rfl rfl 3 (by decide) (hts (.fieldLink RX12 122 "RelayTunerModel" "spot" "I") (by decide +kernel)) (fun _ h9 => h9) rfl dX12_eat_16 ?_
    refine al_i (D := G) (n := 60) (f := ft) hx hb hK hP 1 0 rfl rfl (tn (x 3)) (spot_in (by assumption) (by assumption) c_1).1 (spot_in (by assumption) (by assumption) c_1).2 (by first | decide | omega) dX12_eat_19 ?_
    refine lv_iload_n hx hb dX12_eat_20 rfl (lv_at hl 1 rfl) ?_
    refine lv_icmp_ne (tgt := 28) hx hb dX12_eat_21 (by decide) (fun c_9 => ?_) (fun c_9 => ?_)
    · refine lv_iconst (v := 0) hx hb dX12_eat_28 (by decide) ?_
      exact J29_4 _ ((if_neg c_1).trans (if_neg c_9)).symm (Or.inl rfl) ls (lv_sub hl [0] rfl)
    · refine lv_iconst (v := 1) hx hb dX12_eat_24 (by decide) ?_
      refine lv_goto (tgt := 29) hx hb dX12_eat_25 (by decide) ?_
      exact J29_4 _ ((if_neg c_1).trans (if_pos c_9)).symm (Or.inr rfl) ls (lv_sub hl [0] rfl)

theorem eat_2 {a : Int32} {x ft : Nat → Int32} (h : vp_in (x 2) 61) : vp_in (s_X12_eat_w0 a x ft 2) 61 := by
  unfold s_X12_eat_w0
  rw [upd_ne (by decide)]
  exact h
theorem eat_3 {a : Int32} {x ft : Nat → Int32} (ht : vp_in (x 2) 61) (h : vp_in (x 3) 61) : vp_in (s_X12_eat_w0 a x ft 3) 61 := by
  unfold s_X12_eat_w0
  rw [pk_us]
  by_cases q : (x 2) ≤ (x 3)
  · rw [if_pos q, if_pos rfl]
    simpa using h
  · rw [if_neg q]
    have h1 := spot_next h ht q
    by_cases q2 : (ft (tn (x 3))) = a
    · rw [if_pos q2, if_neg (by decide)]
      exact h1
    · rw [if_neg q2, if_pos rfl]
      simpa using h
theorem put_lt {B S v w : Int32} (e : v = (if B ≤ S then (-99999) else w)) (c : ¬ s_X12_in_r v.toInt64 0 9 = 0) : ¬ B ≤ S := by
  intro h
  rw [if_pos h] at e
  rw [e] at c
  exact c (by decide)

def s_X12_put_1_r (a3 : Int32) (a4 : Int32) (x : Nat → Int32) (ft : Nat → Int32) : Int32 := (let v_4 : Int32 := (if (x 2) ≤ (x 3) then (-99999) else ((ft (tn (x 3))) - 48)); (if (s_X12_in_r v_4.toInt64 0 9) = 0 then 0 else (if a4 < (0 + (v_4 * 1)) then 0 else (if a3 ≤ (((0 + (v_4 * 1)) + 1) - 1) then 1 else 0))))
def s_X12_put_1_w0 (a3 : Int32) (a4 : Int32) (x : Nat → Int32) (ft : Nat → Int32) : Nat → Int32 := (let v_4 : Int32 := (if (x 2) ≤ (x 3) then (-99999) else ((ft (tn (x 3))) - 48)); (if (s_X12_in_r v_4.toInt64 0 9) = 0 then x else (if a4 < (0 + (v_4 * 1)) then x else (if a3 ≤ (((0 + (v_4 * 1)) + 1) - 1) then (upd x 3 ((x 3) + 1)) else x))))
def s_X12_put_1_w2 (a3 : Int32) (a4 : Int32) (x : Nat → Int32) (ft : Nat → Int32) (fr : Nat → Int32) (pl : Nat) : Nat → Int32 := (let v_4 : Int32 := (if (x 2) ≤ (x 3) then (-99999) else ((ft (tn (x 3))) - 48)); (if (s_X12_in_r v_4.toInt64 0 9) = 0 then fr else (if a4 < (0 + (v_4 * 1)) then fr else (if a3 ≤ (((0 + (v_4 * 1)) + 1) - 1) then (upd fr pl (0 + (v_4 * 1))) else fr))))
theorem z_X12_put_1 (a3 : Int32) (a4 : Int32) (x : Nat → Int32) (ft : Nat → Int32) : s_X12_put_1_r a3 a4 x ft = 0 ∨ s_X12_put_1_r a3 a4 x ft = 1 := by unfold s_X12_put_1_r; (try dsimp only); exact (z_ite (Or.inl rfl) (z_ite (Or.inl rfl) (z_ite (Or.inr rfl) (Or.inl rfl))))
abbrev rmX12_put_1 : Room := ({ frames := 1, cells := 0, slots := 0, locals := 25 } : Room)
set_option maxHeartbeats 4000000 in
set_option maxRecDepth 100000 in
theorem c_X12_put_1 (l : Launch) (G : va_G) (y : Nat → ClassId) (h : Nat) (a1 : Int32) (a3 : Int32) (a4 : Int32) (q1 : Nat) (q4 : Nat) (q5 : Nat) (q6 : Nat) (q7 : Nat) (q9 : Nat) (q10 : Nat) (q11 : Nat) (x : Nat → Int32) (ft : Nat → Int32) (fr : Nat → Int32) (pl : Nat) (sz : Nat) (ht : vp_in (x 2) 61) (hs : vp_in (x 3) 61) (ha : a1 = nI pl) (hpl : pl < 154) : Met l yX12_put wsX12_put rmX12_put_1 (PH G y [.ref h, .int a1, .int 1, .int a3, .int a4] [kX12 h q1 q4 q5 q6 q7 q9 q10 q11 x, aI y q1 60 ft, aI y q4 154 fr] sz) (QHi G (s_X12_put_1_r a3 a4 x ft) (fun _ : Unit => [kX12 h q1 q4 q5 q6 q7 q9 q10 q11 (s_X12_put_1_w0 a3 a4 x ft), aI y q1 60 ft, aI y q4 154 (s_X12_put_1_w2 a3 a4 x ft fr pl)]) (va_A [kX12 h q1 q4 q5 q6 q7 q9 q10 q11 x, aI y q1 60 ft, aI y q4 154 fr] sz)) 0 0 (va_A [kX12 h q1 q4 q5 q6 q7 q9 q10 q11 x, aI y q1 60 ft, aI y q4 154 fr] sz) := by
  refine Met.ofW (cc := cX12_put) (maxL := 9) (ret := (some .boolean)) (by decide) rfl ?_
  intro p e s m args below meth c s₁ B hml hv
  obtain ⟨rfl, hsz, hP, ⟨hK, hN⟩, hD0⟩ := hv
  have hx := B.exec
  have hb := B.bytes
  have hr := B.returns
  have hts := atoms_spec (ws := wsX12_put) B.pre
  have hown : s.vm.findClass RX12 = some m.cls := findClass_of_methodNamed B.named
  have hlocks := B.notSynchronized
  have i_X12 : ∀ w ∈ u_ws RX12 TX12 15, w ∈ wsX12_put := by decide +kernel
  subst hsz
  have hD := hD0.self (sz := s.heap.size)
  generalize hAe : va_A [kX12 h q1 q4 q5 q6 q7 q9 q10 q11 x, aI y q1 60 ft, aI y q4 154 fr] s.heap.size = A at hD ⊢
  have hA : ∀ q : Nat, s.heap.size ≤ q → A q := fun q h => by rw [← hAe]; exact Or.inr h
  have hS : va_S A s.heap s.heap [] := va_S.rf
  have hP : va_P G vwCl [kX12 h q1 q4 q5 q6 q7 q9 q10 q11 x, aI y q1 60 ft, aI y q4 154 fr] s.heap := hP
  have hl := lv_entry ([.ref h, .int a1, .int 1, .int a3, .int a4]) (n := 9) (Nat.le_of_ble_eq_true rfl)
  rw [lg_entry_eq]
  generalize (lg_sl ([.ref h, .int a1, .int 1, .int a3, .int a4]) ++ List.replicate (9 - (lg_sl ([.ref h, .int a1, .int 1, .int a3, .int a4])).length) Slot.unset).toArray = ls at hl ⊢
  have hl : lv_has ls 9 [(0, .ref h), (1, .int a1), (2, .int 1), (3, .int a3), (4, .int a4)] := hl
  obtain ⟨QQ, hQQ⟩ : ∃ zq9, zq9 = MQ below (QHi G (s_X12_put_1_r a3 a4 x ft) (fun _ : Unit => [kX12 h q1 q4 q5 q6 q7 q9 q10 q11 (s_X12_put_1_w0 a3 a4 x ft), aI y q1 60 ft, aI y q4 154 (s_X12_put_1_w2 a3 a4 x ft fr pl)]) A) ([.ref h, .int a1, .int 1, .int a3, .int a4] : List Value).toArray s 0 0 A := ⟨_, rfl⟩
  rw [← hQQ]
  refine lv_iload_n hx hb dX12_put_0 rfl (lv_at hl 2 rfl) ?_
  refine lv_iconst (v := 1) hx hb dX12_put_1 (by decide) ?_
  refine lv_icmp_ne (tgt := 9) hx hb dX12_put_2 (by decide) (fun c_1 => ?_) (fun c_1 => ?_)
  · exact (by first | exact absurd c_1 (by decide : ((1 : Int32) = 1)) | exact absurd (by decide : ((1 : Int32) = 1)) c_1)
  refine lv_iconst (v := 1) hx hb dX12_put_5 (by decide) ?_
  refine lv_goto (tgt := 21) hx hb dX12_put_6 (by decide) ?_
  refine lv_istore (lv' := [(5, .int 1), (0, .ref h), (1, .int a1), (2, .int 1), (3, .int a3), (4, .int a4)]) hx hb dX12_put_21 hl (by decide) rfl (fun ls hl => ?_)
  refine lv_iconst (v := 0) hx hb dX12_put_23 (by decide) ?_
  refine lv_istore (lv' := [(6, .int 0), (5, .int 1), (0, .ref h), (1, .int a1), (2, .int 1), (3, .int a3), (4, .int a4)]) hx hb dX12_put_24 hl (by decide) rfl (fun ls hl => ?_)
  refine lv_iload hx hb dX12_put_26 (lv_at hl 1 rfl) ?_
  refine lv_if_le (tgt := 128) hx hb dX12_put_28 (by decide) (fun c_2 => ?_) (fun c_2 => ?_)
  · exact (by first | exact absurd c_2 (by decide : ¬ ((1 : Int32) ≤ 0)) | exact absurd (by decide : ¬ ((1 : Int32) ≤ 0)) c_2)
  refine lv_aload_n hx hb dX12_put_31 rfl (lv_at hl 2 rfl) ?_
  refine va_get (D := G) (ci := 10) (v := .int (x 3)) (C := RX12) (T := TX12) (N := 15) hx hb hts i_X12 hown hK hP 0 rfl rfl 3 (by decide) (hts (.fieldLink RX12 122 "RelayTunerModel" "spot" "I") (by decide +kernel)) (fun _ h9 => h9) rfl dX12_put_32 ?_
  refine lv_aload_n hx hb dX12_put_35 rfl (lv_at hl 2 rfl) ?_
  refine va_get (D := G) (ci := 10) (v := .int (x 2)) (C := RX12) (T := TX12) (N := 15) hx hb hts i_X12 hown hK hP 0 rfl rfl 2 (by decide) (hts (.fieldLink RX12 115 "RelayTunerModel" "textSize" "I") (by decide +kernel)) (fun _ h9 => h9) rfl dX12_put_36 ?_
  have J59_5 : ∀ (v_4 : Int32) (e_v_4 : v_4 = (if (x 2) ≤ (x 3) then (-99999) else ((ft (tn (x 3))) - 48))) (ls : Array Slot) (hl : lv_has ls 9 [(6, .int 0), (5, .int 1), (0, .ref h), (1, .int a1), (3, .int a3), (4, .int a4)]), W p l e (headSpec wsX12_put rmX12_put_1).room s m ([.ref h, .int a1, .int 1, .int a3, .int a4] : List Value).toArray below meth c s.heap [] 0 0 QQ (F0 m 59 ls [.int v_4]) := by
    intro v_4 e_v_4 ls hl
    refine lv_istore (lv' := [(7, .int v_4), (6, .int 0), (5, .int 1), (0, .ref h), (1, .int a1), (3, .int a3), (4, .int a4)]) hx hb dX12_put_59 hl (by decide) rfl (fun ls hl => ?_)
    refine lv_iload hx hb dX12_put_61 (lv_at hl 1 rfl) ?_
    refine lv_iload hx hb dX12_put_63 (lv_at hl 0 rfl) ?_
    refine lv_iload hx hb dX12_put_65 (lv_at hl 2 rfl) ?_
    refine lv_imul hx hb dX12_put_67 ?_
    refine lv_iadd hx hb dX12_put_68 ?_
    refine lv_istore (lv' := [(8, .int (0 + (v_4 * 1))), (7, .int v_4), (6, .int 0), (5, .int 1), (0, .ref h), (1, .int a1), (3, .int a3), (4, .int a4)]) hx hb dX12_put_69 hl (by decide) rfl (fun ls hl => ?_)
    refine lv_iload hx hb dX12_put_71 (lv_at hl 1 rfl) ?_
    refine lv_i2l (v := v_4.toInt64) hx hb dX12_put_73 rfl ?_
    refine lv_lconst (v := 0) hx hb dX12_put_74 rfl ?_
    refine lv_ldc2 (v := 9) hx hb hown (hts (.constantLong RX12 125 9) (by decide +kernel)) dX12_put_75 ?_
    refine cl_Ri (va_runS (As := [.long v_4.toInt64, .long 0, .long 9]) (rest := []) ⟨hx, hb, hml, hown, hts⟩ (c_X12_in l G y v_4.toInt64 0 9) (va_cwS 3 hts gX12_put_X12_in rfl rfl rfl (by decide +kernel) ⟨Nat.le_of_ble_eq_true rfl, Nat.le_of_ble_eq_true rfl⟩) (PR_S pnil hK hN) rfl rfl hl.1 rfl (lv_room (Nat.le_of_ble_eq_true rfl)) dX12_put_78 ⟨Nat.le_of_ble_eq_true rfl, Nat.le_of_ble_eq_true rfl⟩) ?_
    refine lv_if_eq (tgt := 102) hx hb dX12_put_81 (by decide) (fun c_6 => ?_) (fun c_6 => ?_)
    · refine lv_iconst (v := 0) hx hb dX12_put_102 (by decide) ?_
      rw [hQQ]
      exact W.zret hx hb hr (nz_bool (Or.inl rfl)) (end_Hi () hP hD hS (by subst e_v_4; unfold s_X12_put_1_r; exact (if_pos c_6).symm) (congr (congrArg (fun (z0 : Nat → Int32) (z2 : Nat → Int32) => [kX12 h q1 q4 q5 q6 q7 q9 q10 q11 z0, aI y q1 60 ft, aI y q4 154 z2]) (by subst e_v_4; unfold s_X12_put_1_w0; exact (if_pos c_6).symm)) (by subst e_v_4; unfold s_X12_put_1_w2; exact (if_pos c_6).symm))) hS.2.2 dX12_put_103
    · refine lv_iload hx hb dX12_put_84 (lv_at hl 0 rfl) ?_
      refine lv_iload hx hb dX12_put_86 (lv_at hl 7 rfl) ?_
      refine lv_icmp_gt (tgt := 102) hx hb dX12_put_88 (by decide) (fun c_7 => ?_) (fun c_7 => ?_)
      · refine lv_iconst (v := 0) hx hb dX12_put_102 (by decide) ?_
        rw [hQQ]
        exact W.zret hx hb hr (nz_bool (Or.inl rfl)) (end_Hi () hP hD hS (by subst e_v_4; unfold s_X12_put_1_r; exact ((if_neg c_6).trans (if_pos c_7)).symm) (congr (congrArg (fun (z0 : Nat → Int32) (z2 : Nat → Int32) => [kX12 h q1 q4 q5 q6 q7 q9 q10 q11 z0, aI y q1 60 ft, aI y q4 154 z2]) (by subst e_v_4; unfold s_X12_put_1_w0; exact ((if_neg c_6).trans (if_pos c_7)).symm)) (by subst e_v_4; unfold s_X12_put_1_w2; exact ((if_neg c_6).trans (if_pos c_7)).symm))) hS.2.2 dX12_put_103
      · refine lv_iload hx hb dX12_put_91 (lv_at hl 0 rfl) ?_
        refine lv_iload hx hb dX12_put_93 (lv_at hl 3 rfl) ?_
        refine lv_iadd hx hb dX12_put_95 ?_
        refine lv_iconst (v := 1) hx hb dX12_put_96 (by decide) ?_
        refine lv_isub hx hb dX12_put_97 ?_
        refine lv_iload_n hx hb dX12_put_98 rfl (lv_at hl 6 rfl) ?_
        refine lv_icmp_ge (tgt := 104) hx hb dX12_put_99 (by decide) (fun c_8 => ?_) (fun c_8 => ?_)
        · refine lv_iload hx hb dX12_put_104 (lv_at hl 0 rfl) ?_
          refine lv_istore (lv' := [(6, .int (0 + (v_4 * 1))), (8, .int (0 + (v_4 * 1))), (7, .int v_4), (5, .int 1), (0, .ref h), (1, .int a1), (3, .int a3), (4, .int a4)]) hx hb dX12_put_106 hl (by decide) rfl (fun ls hl => ?_)
          refine lv_iload hx hb dX12_put_108 (lv_at hl 3 rfl) ?_
          refine lv_bipush (v := 10) hx hb dX12_put_110 (by decide) ?_
          refine lv_idiv hx hb dX12_put_112 (by decide) ?_
          refine rw_i (x' := 0) (by decide) ?_
          refine lv_istore (lv' := [(5, .int 0), (6, .int (0 + (v_4 * 1))), (8, .int (0 + (v_4 * 1))), (7, .int v_4), (0, .ref h), (1, .int a1), (3, .int a3), (4, .int a4)]) hx hb dX12_put_113 hl (by decide) rfl (fun ls hl => ?_)
          refine lv_aload_n hx hb dX12_put_115 rfl (lv_at hl 4 rfl) ?_
          refine lv_dup hx hb dX12_put_116 rfl ?_
          refine va_get (D := G) (ci := 10) (v := .int (x 3)) (C := RX12) (T := TX12) (N := 15) hx hb hts i_X12 hown hK hP 0 rfl rfl 3 (by decide) (hts (.fieldLink RX12 122 "RelayTunerModel" "spot" "I") (by decide +kernel)) (fun _ h9 => h9) rfl dX12_put_117 ?_
          refine lv_iconst (v := 1) hx hb dX12_put_120 (by decide) ?_
          refine lv_iadd hx hb dX12_put_121 ?_
          refine va_put (D := G) (ci := 10) (v := .int ((x 3) + 1)) (ty := .int) (C := RX12) (T := TX12) (N := 15) hx hb hts i_X12 tyX12 tyX12_ok nmX12 hown hK hP hD hS 0 rfl rfl 3 (by decide) (hts (.fieldLink RX12 122 "RelayTunerModel" "spot" "I") (by decide +kernel)) (fun _ h9 => h9) rfl (by decide +kernel) rfl rfl (Nat.le_of_ble_eq_true rfl) dX12_put_122 (fun H locs hP hD hS => ?_)
          have hP : va_P G vwCl [kX12 h q1 q4 q5 q6 q7 q9 q10 q11 (upd x 3 ((x 3) + 1)), aI y q1 60 ft, aI y q4 154 fr] H := hP
          have hD : va_D A [kX12 h q1 q4 q5 q6 q7 q9 q10 q11 (upd x 3 ((x 3) + 1)), aI y q1 60 ft, aI y q4 154 fr] := hD
          have hs_9 : vp_in ((x 3) + 1) 61 := spot_next (by assumption) ht (put_lt e_v_4 c_6)
          refine lv_goto (tgt := 26) hx hb dX12_put_125 (by decide) ?_
          refine lv_iload hx hb dX12_put_26 (lv_at hl 0 rfl) ?_
          refine lv_if_le (tgt := 128) hx hb dX12_put_28 (by decide) (fun c_10 => ?_) (fun c_10 => ?_)
          rotate_left
          · exact (by first | exact absurd c_10 (by decide : ((0 : Int32) ≤ 0)) | exact absurd (by decide : ((0 : Int32) ≤ 0)) c_10)
          refine lv_aload_n hx hb dX12_put_128 rfl (lv_at hl 4 rfl) ?_
          refine va_get (D := G) (ci := 10) (v := .ref q4) (C := RX12) (T := TX12) (N := 15) hx hb hts i_X12 hown hK hP 0 rfl rfl 4 (by decide) (hts (.fieldLink RX12 13 "RelayTunerModel" "read" "[I") (by decide +kernel)) (fun _ h9 => h9) rfl dX12_put_129 ?_
          refine lv_iload_n hx hb dX12_put_132 rfl (lv_at hl 5 rfl) ?_
          refine lv_iload hx hb dX12_put_133 (lv_at hl 1 rfl) ?_
          refine as_i (D := G) (n := 154) (f := fr) hx hb hK hP hD hS 2 0 rfl rfl pl ha hpl (by first | decide | omega) dX12_put_135 (fun H locs hP hD hS => ?_)
          have hP : va_P G vwCl [kX12 h q1 q4 q5 q6 q7 q9 q10 q11 (upd x 3 ((x 3) + 1)), aI y q1 60 ft, aI y q4 154 (upd fr pl (0 + (v_4 * 1)))] H := hP
          have hD : va_D A [kX12 h q1 q4 q5 q6 q7 q9 q10 q11 (upd x 3 ((x 3) + 1)), aI y q1 60 ft, aI y q4 154 (upd fr pl (0 + (v_4 * 1)))] := hD
          refine lv_iconst (v := 1) hx hb dX12_put_136 (by decide) ?_
          rw [hQQ]
          exact W.zret hx hb hr (nz_bool (Or.inr rfl)) (end_Hi () hP hD hS (by subst e_v_4; unfold s_X12_put_1_r; exact ((if_neg c_6).trans ((if_neg c_7).trans (if_pos c_8))).symm) (congr (congrArg (fun (z0 : Nat → Int32) (z2 : Nat → Int32) => [kX12 h q1 q4 q5 q6 q7 q9 q10 q11 z0, aI y q1 60 ft, aI y q4 154 z2]) (by subst e_v_4; unfold s_X12_put_1_w0; exact ((if_neg c_6).trans ((if_neg c_7).trans (if_pos c_8))).symm)) (by subst e_v_4; unfold s_X12_put_1_w2; exact ((if_neg c_6).trans ((if_neg c_7).trans (if_pos c_8))).symm))) hS.2.2 dX12_put_137
        · refine lv_iconst (v := 0) hx hb dX12_put_102 (by decide) ?_
          rw [hQQ]
          exact W.zret hx hb hr (nz_bool (Or.inl rfl)) (end_Hi () hP hD hS (by subst e_v_4; unfold s_X12_put_1_r; exact ((if_neg c_6).trans ((if_neg c_7).trans (if_neg c_8))).symm) (congr (congrArg (fun (z0 : Nat → Int32) (z2 : Nat → Int32) => [kX12 h q1 q4 q5 q6 q7 q9 q10 q11 z0, aI y q1 60 ft, aI y q4 154 z2]) (by subst e_v_4; unfold s_X12_put_1_w0; exact ((if_neg c_6).trans ((if_neg c_7).trans (if_neg c_8))).symm)) (by subst e_v_4; unfold s_X12_put_1_w2; exact ((if_neg c_6).trans ((if_neg c_7).trans (if_neg c_8))).symm))) hS.2.2 dX12_put_103
  refine lv_icmp_ge (tgt := 57) hx hb dX12_put_39 (by decide) (fun c_3 => ?_) (fun c_3 => ?_)
  · refine lv_ldc (v := (-99999)) hx hb hown (hts (.constant RX12 74 (-99999)) (by decide +kernel)) dX12_put_57 ?_
    exact J59_5 _ (if_pos c_3).symm ls (lv_sub hl [0, 1, 2, 3, 5, 6] rfl)
  · refine lv_aload_n hx hb dX12_put_42 rfl (lv_at hl 2 rfl) ?_
    refine va_get (D := G) (ci := 10) (v := .ref q1) (C := RX12) (T := TX12) (N := 15) hx hb hts i_X12 hown hK hP 0 rfl rfl 1 (by decide) (hts (.fieldLink RX12 7 "RelayTunerModel" "text" "[I") (by decide +kernel)) (fun _ h9 => h9) rfl dX12_put_43 ?_
    refine lv_aload_n hx hb dX12_put_46 rfl (lv_at hl 2 rfl) ?_
    refine va_get (D := G) (ci := 10) (v := .int (x 3)) (C := RX12) (T := TX12) (N := 15) hx hb hts i_X12 hown hK hP 0 rfl rfl 3 (by decide) (hts (.fieldLink RX12 122 "RelayTunerModel" "spot" "I") (by decide +kernel)) (fun _ h9 => h9) rfl dX12_put_47 ?_
    refine al_i (D := G) (n := 60) (f := ft) hx hb hK hP 1 0 rfl rfl (tn (x 3)) (spot_in (by assumption) (by assumption) c_3).1 (spot_in (by assumption) (by assumption) c_3).2 (by first | decide | omega) dX12_put_50 ?_
    refine lv_bipush (v := 48) hx hb dX12_put_51 (by decide) ?_
    refine lv_isub hx hb dX12_put_53 ?_
    refine lv_goto (tgt := 59) hx hb dX12_put_54 (by decide) ?_
    exact J59_5 _ (if_neg c_3).symm ls (lv_sub hl [0, 1, 2, 3, 5, 6] rfl)

theorem put1_2e {a b : Int32} {x ft : Nat → Int32} : s_X12_put_1_w0 a b x ft 2 = x 2 := by
  unfold s_X12_put_1_w0
  exact (ite_P (P := fun z : Nat → Int32 => z 2 = x 2) (fun _ => rfl) (fun c0 => ite_P (P := fun z : Nat → Int32 => z 2 = x 2) (fun _ => rfl) (fun _ => ite_P (P := fun z : Nat → Int32 => z 2 = x 2) (fun _ => rfl) (fun _ => rfl))))
theorem put1_2 {a b : Int32} {x ft : Nat → Int32} (h : vp_in (x 2) 61) : vp_in (s_X12_put_1_w0 a b x ft 2) 61 := by rw [put1_2e]; exact h
theorem put1_3 {a b : Int32} {x ft : Nat → Int32} (ht : vp_in (x 2) 61) (h : vp_in (x 3) 61) : vp_in (s_X12_put_1_w0 a b x ft 3) 61 := by
  unfold s_X12_put_1_w0
  exact (ite_P (P := fun z : Nat → Int32 => vp_in (z 3) 61) (fun _ => h) (fun c0 => have h1 := spot_next h ht (put_lt rfl c0); ite_P (P := fun z : Nat → Int32 => vp_in (z 3) 61) (fun _ => h) (fun _ => ite_P (P := fun z : Nat → Int32 => vp_in (z 3) 61) (fun _ => (by rw [pk_us]; exact h1)) (fun _ => h))))

def s_X12_put_2_r (a3 : Int32) (a4 : Int32) (x : Nat → Int32) (ft : Nat → Int32) : Int32 := (let v_5 : Int32 := (if (x 2) ≤ (x 3) then (-99999) else ((ft (tn (x 3))) - 48)); (if (s_X12_in_r v_5.toInt64 0 9) = 0 then 0 else (if a4 < (0 + (v_5 * 10)) then 0 else (if a3 ≤ (((0 + (v_5 * 10)) + 10) - 1) then (let v_13 : Int32 := (if (x 2) ≤ ((x 3) + 1) then (-99999) else ((ft (tn ((x 3) + 1))) - 48)); (if (s_X12_in_r v_13.toInt64 0 9) = 0 then 0 else (if a4 < ((0 + (v_5 * 10)) + (v_13 * 1)) then 0 else (if a3 ≤ ((((0 + (v_5 * 10)) + (v_13 * 1)) + 1) - 1) then 1 else 0)))) else 0))))
def s_X12_put_2_w0 (a3 : Int32) (a4 : Int32) (x : Nat → Int32) (ft : Nat → Int32) : Nat → Int32 := (let v_5 : Int32 := (if (x 2) ≤ (x 3) then (-99999) else ((ft (tn (x 3))) - 48)); (if (s_X12_in_r v_5.toInt64 0 9) = 0 then x else (if a4 < (0 + (v_5 * 10)) then x else (if a3 ≤ (((0 + (v_5 * 10)) + 10) - 1) then (let v_13 : Int32 := (if (x 2) ≤ ((x 3) + 1) then (-99999) else ((ft (tn ((x 3) + 1))) - 48)); (if (s_X12_in_r v_13.toInt64 0 9) = 0 then (upd x 3 ((x 3) + 1)) else (if a4 < ((0 + (v_5 * 10)) + (v_13 * 1)) then (upd x 3 ((x 3) + 1)) else (if a3 ≤ ((((0 + (v_5 * 10)) + (v_13 * 1)) + 1) - 1) then (upd (upd x 3 ((x 3) + 1)) 3 (((x 3) + 1) + 1)) else (upd x 3 ((x 3) + 1)))))) else x))))
def s_X12_put_2_w2 (a3 : Int32) (a4 : Int32) (x : Nat → Int32) (ft : Nat → Int32) (fr : Nat → Int32) (pl : Nat) : Nat → Int32 := (let v_5 : Int32 := (if (x 2) ≤ (x 3) then (-99999) else ((ft (tn (x 3))) - 48)); (if (s_X12_in_r v_5.toInt64 0 9) = 0 then fr else (if a4 < (0 + (v_5 * 10)) then fr else (if a3 ≤ (((0 + (v_5 * 10)) + 10) - 1) then (let v_13 : Int32 := (if (x 2) ≤ ((x 3) + 1) then (-99999) else ((ft (tn ((x 3) + 1))) - 48)); (if (s_X12_in_r v_13.toInt64 0 9) = 0 then fr else (if a4 < ((0 + (v_5 * 10)) + (v_13 * 1)) then fr else (if a3 ≤ ((((0 + (v_5 * 10)) + (v_13 * 1)) + 1) - 1) then (upd fr pl ((0 + (v_5 * 10)) + (v_13 * 1))) else fr)))) else fr))))
theorem z_X12_put_2 (a3 : Int32) (a4 : Int32) (x : Nat → Int32) (ft : Nat → Int32) : s_X12_put_2_r a3 a4 x ft = 0 ∨ s_X12_put_2_r a3 a4 x ft = 1 := by unfold s_X12_put_2_r; (try dsimp only); exact (z_ite (Or.inl rfl) (z_ite (Or.inl rfl) (z_ite (z_ite (Or.inl rfl) (z_ite (Or.inl rfl) (z_ite (Or.inr rfl) (Or.inl rfl)))) (Or.inl rfl))))
abbrev rmX12_put_2 : Room := ({ frames := 1, cells := 0, slots := 0, locals := 25 } : Room)
set_option maxHeartbeats 4000000 in
set_option maxRecDepth 100000 in
theorem c_X12_put_2 (l : Launch) (G : va_G) (y : Nat → ClassId) (h : Nat) (a1 : Int32) (a3 : Int32) (a4 : Int32) (q1 : Nat) (q4 : Nat) (q5 : Nat) (q6 : Nat) (q7 : Nat) (q9 : Nat) (q10 : Nat) (q11 : Nat) (x : Nat → Int32) (ft : Nat → Int32) (fr : Nat → Int32) (pl : Nat) (sz : Nat) (ht : vp_in (x 2) 61) (hs : vp_in (x 3) 61) (ha : a1 = nI pl) (hpl : pl < 154) : Met l yX12_put wsX12_put rmX12_put_2 (PH G y [.ref h, .int a1, .int 2, .int a3, .int a4] [kX12 h q1 q4 q5 q6 q7 q9 q10 q11 x, aI y q1 60 ft, aI y q4 154 fr] sz) (QHi G (s_X12_put_2_r a3 a4 x ft) (fun _ : Unit => [kX12 h q1 q4 q5 q6 q7 q9 q10 q11 (s_X12_put_2_w0 a3 a4 x ft), aI y q1 60 ft, aI y q4 154 (s_X12_put_2_w2 a3 a4 x ft fr pl)]) (va_A [kX12 h q1 q4 q5 q6 q7 q9 q10 q11 x, aI y q1 60 ft, aI y q4 154 fr] sz)) 0 0 (va_A [kX12 h q1 q4 q5 q6 q7 q9 q10 q11 x, aI y q1 60 ft, aI y q4 154 fr] sz) := by
  refine Met.ofW (cc := cX12_put) (maxL := 9) (ret := (some .boolean)) (by decide) rfl ?_
  intro p e s m args below meth c s₁ B hml hv
  obtain ⟨rfl, hsz, hP, ⟨hK, hN⟩, hD0⟩ := hv
  have hx := B.exec
  have hb := B.bytes
  have hr := B.returns
  have hts := atoms_spec (ws := wsX12_put) B.pre
  have hown : s.vm.findClass RX12 = some m.cls := findClass_of_methodNamed B.named
  have hlocks := B.notSynchronized
  have i_X12 : ∀ w ∈ u_ws RX12 TX12 15, w ∈ wsX12_put := by decide +kernel
  subst hsz
  have hD := hD0.self (sz := s.heap.size)
  generalize hAe : va_A [kX12 h q1 q4 q5 q6 q7 q9 q10 q11 x, aI y q1 60 ft, aI y q4 154 fr] s.heap.size = A at hD ⊢
  have hA : ∀ q : Nat, s.heap.size ≤ q → A q := fun q h => by rw [← hAe]; exact Or.inr h
  have hS : va_S A s.heap s.heap [] := va_S.rf
  have hP : va_P G vwCl [kX12 h q1 q4 q5 q6 q7 q9 q10 q11 x, aI y q1 60 ft, aI y q4 154 fr] s.heap := hP
  have hl := lv_entry ([.ref h, .int a1, .int 2, .int a3, .int a4]) (n := 9) (Nat.le_of_ble_eq_true rfl)
  rw [lg_entry_eq]
  generalize (lg_sl ([.ref h, .int a1, .int 2, .int a3, .int a4]) ++ List.replicate (9 - (lg_sl ([.ref h, .int a1, .int 2, .int a3, .int a4])).length) Slot.unset).toArray = ls at hl ⊢
  have hl : lv_has ls 9 [(0, .ref h), (1, .int a1), (2, .int 2), (3, .int a3), (4, .int a4)] := hl
  obtain ⟨QQ, hQQ⟩ : ∃ zq9, zq9 = MQ below (QHi G (s_X12_put_2_r a3 a4 x ft) (fun _ : Unit => [kX12 h q1 q4 q5 q6 q7 q9 q10 q11 (s_X12_put_2_w0 a3 a4 x ft), aI y q1 60 ft, aI y q4 154 (s_X12_put_2_w2 a3 a4 x ft fr pl)]) A) ([.ref h, .int a1, .int 2, .int a3, .int a4] : List Value).toArray s 0 0 A := ⟨_, rfl⟩
  rw [← hQQ]
  refine lv_iload_n hx hb dX12_put_0 rfl (lv_at hl 2 rfl) ?_
  refine lv_iconst (v := 1) hx hb dX12_put_1 (by decide) ?_
  refine lv_icmp_ne (tgt := 9) hx hb dX12_put_2 (by decide) (fun c_1 => ?_) (fun c_1 => ?_)
  rotate_left
  · exact (by first | exact absurd c_1 (by decide : ¬ ((2 : Int32) = 1)) | exact absurd (by decide : ¬ ((2 : Int32) = 1)) c_1)
  refine lv_iload_n hx hb dX12_put_9 rfl (lv_at hl 2 rfl) ?_
  refine lv_iconst (v := 2) hx hb dX12_put_10 (by decide) ?_
  refine lv_icmp_ne (tgt := 19) hx hb dX12_put_11 (by decide) (fun c_2 => ?_) (fun c_2 => ?_)
  · exact (by first | exact absurd c_2 (by decide : ((2 : Int32) = 2)) | exact absurd (by decide : ((2 : Int32) = 2)) c_2)
  refine lv_bipush (v := 10) hx hb dX12_put_14 (by decide) ?_
  refine lv_goto (tgt := 21) hx hb dX12_put_16 (by decide) ?_
  refine lv_istore (lv' := [(5, .int 10), (0, .ref h), (1, .int a1), (2, .int 2), (3, .int a3), (4, .int a4)]) hx hb dX12_put_21 hl (by decide) rfl (fun ls hl => ?_)
  refine lv_iconst (v := 0) hx hb dX12_put_23 (by decide) ?_
  refine lv_istore (lv' := [(6, .int 0), (5, .int 10), (0, .ref h), (1, .int a1), (2, .int 2), (3, .int a3), (4, .int a4)]) hx hb dX12_put_24 hl (by decide) rfl (fun ls hl => ?_)
  refine lv_iload hx hb dX12_put_26 (lv_at hl 1 rfl) ?_
  refine lv_if_le (tgt := 128) hx hb dX12_put_28 (by decide) (fun c_3 => ?_) (fun c_3 => ?_)
  · exact (by first | exact absurd c_3 (by decide : ¬ ((10 : Int32) ≤ 0)) | exact absurd (by decide : ¬ ((10 : Int32) ≤ 0)) c_3)
  refine lv_aload_n hx hb dX12_put_31 rfl (lv_at hl 2 rfl) ?_
  refine va_get (D := G) (ci := 10) (v := .int (x 3)) (C := RX12) (T := TX12) (N := 15) hx hb hts i_X12 hown hK hP 0 rfl rfl 3 (by decide) (hts (.fieldLink RX12 122 "RelayTunerModel" "spot" "I") (by decide +kernel)) (fun _ h9 => h9) rfl dX12_put_32 ?_
  refine lv_aload_n hx hb dX12_put_35 rfl (lv_at hl 2 rfl) ?_
  refine va_get (D := G) (ci := 10) (v := .int (x 2)) (C := RX12) (T := TX12) (N := 15) hx hb hts i_X12 hown hK hP 0 rfl rfl 2 (by decide) (hts (.fieldLink RX12 115 "RelayTunerModel" "textSize" "I") (by decide +kernel)) (fun _ h9 => h9) rfl dX12_put_36 ?_
  have J59_6 : ∀ (v_5 : Int32) (e_v_5 : v_5 = (if (x 2) ≤ (x 3) then (-99999) else ((ft (tn (x 3))) - 48))) (ls : Array Slot) (hl : lv_has ls 9 [(6, .int 0), (5, .int 10), (0, .ref h), (1, .int a1), (3, .int a3), (4, .int a4)]), W p l e (headSpec wsX12_put rmX12_put_2).room s m ([.ref h, .int a1, .int 2, .int a3, .int a4] : List Value).toArray below meth c s.heap [] 0 0 QQ (F0 m 59 ls [.int v_5]) := by
    intro v_5 e_v_5 ls hl
    refine lv_istore (lv' := [(7, .int v_5), (6, .int 0), (5, .int 10), (0, .ref h), (1, .int a1), (3, .int a3), (4, .int a4)]) hx hb dX12_put_59 hl (by decide) rfl (fun ls hl => ?_)
    refine lv_iload hx hb dX12_put_61 (lv_at hl 1 rfl) ?_
    refine lv_iload hx hb dX12_put_63 (lv_at hl 0 rfl) ?_
    refine lv_iload hx hb dX12_put_65 (lv_at hl 2 rfl) ?_
    refine lv_imul hx hb dX12_put_67 ?_
    refine lv_iadd hx hb dX12_put_68 ?_
    refine lv_istore (lv' := [(8, .int (0 + (v_5 * 10))), (7, .int v_5), (6, .int 0), (5, .int 10), (0, .ref h), (1, .int a1), (3, .int a3), (4, .int a4)]) hx hb dX12_put_69 hl (by decide) rfl (fun ls hl => ?_)
    refine lv_iload hx hb dX12_put_71 (lv_at hl 1 rfl) ?_
    refine lv_i2l (v := v_5.toInt64) hx hb dX12_put_73 rfl ?_
    refine lv_lconst (v := 0) hx hb dX12_put_74 rfl ?_
    refine lv_ldc2 (v := 9) hx hb hown (hts (.constantLong RX12 125 9) (by decide +kernel)) dX12_put_75 ?_
    refine cl_Ri (va_runS (As := [.long v_5.toInt64, .long 0, .long 9]) (rest := []) ⟨hx, hb, hml, hown, hts⟩ (c_X12_in l G y v_5.toInt64 0 9) (va_cwS 3 hts gX12_put_X12_in rfl rfl rfl (by decide +kernel) ⟨Nat.le_of_ble_eq_true rfl, Nat.le_of_ble_eq_true rfl⟩) (PR_S pnil hK hN) rfl rfl hl.1 rfl (lv_room (Nat.le_of_ble_eq_true rfl)) dX12_put_78 ⟨Nat.le_of_ble_eq_true rfl, Nat.le_of_ble_eq_true rfl⟩) ?_
    refine lv_if_eq (tgt := 102) hx hb dX12_put_81 (by decide) (fun c_7 => ?_) (fun c_7 => ?_)
    · refine lv_iconst (v := 0) hx hb dX12_put_102 (by decide) ?_
      rw [hQQ]
      exact W.zret hx hb hr (nz_bool (Or.inl rfl)) (end_Hi () hP hD hS (by subst e_v_5; unfold s_X12_put_2_r; exact (if_pos c_7).symm) (congr (congrArg (fun (z0 : Nat → Int32) (z2 : Nat → Int32) => [kX12 h q1 q4 q5 q6 q7 q9 q10 q11 z0, aI y q1 60 ft, aI y q4 154 z2]) (by subst e_v_5; unfold s_X12_put_2_w0; exact (if_pos c_7).symm)) (by subst e_v_5; unfold s_X12_put_2_w2; exact (if_pos c_7).symm))) hS.2.2 dX12_put_103
    · refine lv_iload hx hb dX12_put_84 (lv_at hl 0 rfl) ?_
      refine lv_iload hx hb dX12_put_86 (lv_at hl 7 rfl) ?_
      refine lv_icmp_gt (tgt := 102) hx hb dX12_put_88 (by decide) (fun c_8 => ?_) (fun c_8 => ?_)
      · refine lv_iconst (v := 0) hx hb dX12_put_102 (by decide) ?_
        rw [hQQ]
        exact W.zret hx hb hr (nz_bool (Or.inl rfl)) (end_Hi () hP hD hS (by subst e_v_5; unfold s_X12_put_2_r; exact ((if_neg c_7).trans (if_pos c_8)).symm) (congr (congrArg (fun (z0 : Nat → Int32) (z2 : Nat → Int32) => [kX12 h q1 q4 q5 q6 q7 q9 q10 q11 z0, aI y q1 60 ft, aI y q4 154 z2]) (by subst e_v_5; unfold s_X12_put_2_w0; exact ((if_neg c_7).trans (if_pos c_8)).symm)) (by subst e_v_5; unfold s_X12_put_2_w2; exact ((if_neg c_7).trans (if_pos c_8)).symm))) hS.2.2 dX12_put_103
      · refine lv_iload hx hb dX12_put_91 (lv_at hl 0 rfl) ?_
        refine lv_iload hx hb dX12_put_93 (lv_at hl 3 rfl) ?_
        refine lv_iadd hx hb dX12_put_95 ?_
        refine lv_iconst (v := 1) hx hb dX12_put_96 (by decide) ?_
        refine lv_isub hx hb dX12_put_97 ?_
        refine lv_iload_n hx hb dX12_put_98 rfl (lv_at hl 6 rfl) ?_
        refine lv_icmp_ge (tgt := 104) hx hb dX12_put_99 (by decide) (fun c_9 => ?_) (fun c_9 => ?_)
        · refine lv_iload hx hb dX12_put_104 (lv_at hl 0 rfl) ?_
          refine lv_istore (lv' := [(6, .int (0 + (v_5 * 10))), (8, .int (0 + (v_5 * 10))), (7, .int v_5), (5, .int 10), (0, .ref h), (1, .int a1), (3, .int a3), (4, .int a4)]) hx hb dX12_put_106 hl (by decide) rfl (fun ls hl => ?_)
          refine lv_iload hx hb dX12_put_108 (lv_at hl 3 rfl) ?_
          refine lv_bipush (v := 10) hx hb dX12_put_110 (by decide) ?_
          refine lv_idiv hx hb dX12_put_112 (by decide) ?_
          refine rw_i (x' := 1) (by decide) ?_
          refine lv_istore (lv' := [(5, .int 1), (6, .int (0 + (v_5 * 10))), (8, .int (0 + (v_5 * 10))), (7, .int v_5), (0, .ref h), (1, .int a1), (3, .int a3), (4, .int a4)]) hx hb dX12_put_113 hl (by decide) rfl (fun ls hl => ?_)
          refine lv_aload_n hx hb dX12_put_115 rfl (lv_at hl 4 rfl) ?_
          refine lv_dup hx hb dX12_put_116 rfl ?_
          refine va_get (D := G) (ci := 10) (v := .int (x 3)) (C := RX12) (T := TX12) (N := 15) hx hb hts i_X12 hown hK hP 0 rfl rfl 3 (by decide) (hts (.fieldLink RX12 122 "RelayTunerModel" "spot" "I") (by decide +kernel)) (fun _ h9 => h9) rfl dX12_put_117 ?_
          refine lv_iconst (v := 1) hx hb dX12_put_120 (by decide) ?_
          refine lv_iadd hx hb dX12_put_121 ?_
          refine va_put (D := G) (ci := 10) (v := .int ((x 3) + 1)) (ty := .int) (C := RX12) (T := TX12) (N := 15) hx hb hts i_X12 tyX12 tyX12_ok nmX12 hown hK hP hD hS 0 rfl rfl 3 (by decide) (hts (.fieldLink RX12 122 "RelayTunerModel" "spot" "I") (by decide +kernel)) (fun _ h9 => h9) rfl (by decide +kernel) rfl rfl (Nat.le_of_ble_eq_true rfl) dX12_put_122 (fun H locs hP hD hS => ?_)
          have hP : va_P G vwCl [kX12 h q1 q4 q5 q6 q7 q9 q10 q11 (upd x 3 ((x 3) + 1)), aI y q1 60 ft, aI y q4 154 fr] H := hP
          have hD : va_D A [kX12 h q1 q4 q5 q6 q7 q9 q10 q11 (upd x 3 ((x 3) + 1)), aI y q1 60 ft, aI y q4 154 fr] := hD
          have hs_10 : vp_in ((x 3) + 1) 61 := spot_next (by assumption) ht (put_lt e_v_5 c_7)
          refine lv_goto (tgt := 26) hx hb dX12_put_125 (by decide) ?_
          refine lv_iload hx hb dX12_put_26 (lv_at hl 0 rfl) ?_
          refine lv_if_le (tgt := 128) hx hb dX12_put_28 (by decide) (fun c_11 => ?_) (fun c_11 => ?_)
          · exact (by first | exact absurd c_11 (by decide : ¬ ((1 : Int32) ≤ 0)) | exact absurd (by decide : ¬ ((1 : Int32) ≤ 0)) c_11)
          refine lv_aload_n hx hb dX12_put_31 rfl (lv_at hl 4 rfl) ?_
          refine va_get (D := G) (ci := 10) (v := .int ((x 3) + 1)) (C := RX12) (T := TX12) (N := 15) hx hb hts i_X12 hown hK hP 0 rfl rfl 3 (by decide) (hts (.fieldLink RX12 122 "RelayTunerModel" "spot" "I") (by decide +kernel)) (fun _ h9 => h9) rfl dX12_put_32 ?_
          refine lv_aload_n hx hb dX12_put_35 rfl (lv_at hl 4 rfl) ?_
          refine va_get (D := G) (ci := 10) (v := .int (x 2)) (C := RX12) (T := TX12) (N := 15) hx hb hts i_X12 hown hK hP 0 rfl rfl 2 (by decide) (hts (.fieldLink RX12 115 "RelayTunerModel" "textSize" "I") (by decide +kernel)) (fun _ h9 => h9) rfl dX12_put_36 ?_
          have J59_14 : ∀ (v_13 : Int32) (e_v_13 : v_13 = (if (x 2) ≤ ((x 3) + 1) then (-99999) else ((ft (tn ((x 3) + 1))) - 48))) (ls : Array Slot) (hl : lv_has ls 9 [(5, .int 1), (6, .int (0 + (v_5 * 10))), (0, .ref h), (1, .int a1), (3, .int a3), (4, .int a4)]), W p l e (headSpec wsX12_put rmX12_put_2).room s m ([.ref h, .int a1, .int 2, .int a3, .int a4] : List Value).toArray below meth c H locs 0 0 QQ (F0 m 59 ls [.int v_13]) := by
            intro v_13 e_v_13 ls hl
            refine lv_istore (lv' := [(7, .int v_13), (5, .int 1), (6, .int (0 + (v_5 * 10))), (0, .ref h), (1, .int a1), (3, .int a3), (4, .int a4)]) hx hb dX12_put_59 hl (by decide) rfl (fun ls hl => ?_)
            refine lv_iload hx hb dX12_put_61 (lv_at hl 2 rfl) ?_
            refine lv_iload hx hb dX12_put_63 (lv_at hl 0 rfl) ?_
            refine lv_iload hx hb dX12_put_65 (lv_at hl 1 rfl) ?_
            refine lv_imul hx hb dX12_put_67 ?_
            refine lv_iadd hx hb dX12_put_68 ?_
            refine lv_istore (lv' := [(8, .int ((0 + (v_5 * 10)) + (v_13 * 1))), (7, .int v_13), (5, .int 1), (6, .int (0 + (v_5 * 10))), (0, .ref h), (1, .int a1), (3, .int a3), (4, .int a4)]) hx hb dX12_put_69 hl (by decide) rfl (fun ls hl => ?_)
            refine lv_iload hx hb dX12_put_71 (lv_at hl 1 rfl) ?_
            refine lv_i2l (v := v_13.toInt64) hx hb dX12_put_73 rfl ?_
            refine lv_lconst (v := 0) hx hb dX12_put_74 rfl ?_
            refine lv_ldc2 (v := 9) hx hb hown (hts (.constantLong RX12 125 9) (by decide +kernel)) dX12_put_75 ?_
            refine cl_Ri (va_runS (As := [.long v_13.toInt64, .long 0, .long 9]) (rest := []) ⟨hx, hb, hml, hown, hts⟩ (c_X12_in l G y v_13.toInt64 0 9) (va_cwS 3 hts gX12_put_X12_in rfl rfl rfl (by decide +kernel) ⟨Nat.le_of_ble_eq_true rfl, Nat.le_of_ble_eq_true rfl⟩) (PR_S pnil hK hN) rfl rfl hl.1 rfl (lv_room (Nat.le_of_ble_eq_true rfl)) dX12_put_78 ⟨Nat.le_of_ble_eq_true rfl, Nat.le_of_ble_eq_true rfl⟩) ?_
            refine lv_if_eq (tgt := 102) hx hb dX12_put_81 (by decide) (fun c_15 => ?_) (fun c_15 => ?_)
            · refine lv_iconst (v := 0) hx hb dX12_put_102 (by decide) ?_
              rw [hQQ]
              exact W.zret hx hb hr (nz_bool (Or.inl rfl)) (end_Hi () hP hD hS (by subst e_v_13; subst e_v_5; unfold s_X12_put_2_r; exact ((if_neg c_7).trans ((if_neg c_8).trans ((if_pos c_9).trans (if_pos c_15)))).symm) (congr (congrArg (fun (z0 : Nat → Int32) (z2 : Nat → Int32) => [kX12 h q1 q4 q5 q6 q7 q9 q10 q11 z0, aI y q1 60 ft, aI y q4 154 z2]) (by subst e_v_13; subst e_v_5; unfold s_X12_put_2_w0; exact ((if_neg c_7).trans ((if_neg c_8).trans ((if_pos c_9).trans (if_pos c_15)))).symm)) (by subst e_v_13; subst e_v_5; unfold s_X12_put_2_w2; exact ((if_neg c_7).trans ((if_neg c_8).trans ((if_pos c_9).trans (if_pos c_15)))).symm))) hS.2.2 dX12_put_103
            · refine lv_iload hx hb dX12_put_84 (lv_at hl 0 rfl) ?_
              refine lv_iload hx hb dX12_put_86 (lv_at hl 7 rfl) ?_
              refine lv_icmp_gt (tgt := 102) hx hb dX12_put_88 (by decide) (fun c_16 => ?_) (fun c_16 => ?_)
              · refine lv_iconst (v := 0) hx hb dX12_put_102 (by decide) ?_
                rw [hQQ]
                exact W.zret hx hb hr (nz_bool (Or.inl rfl)) (end_Hi () hP hD hS (by subst e_v_13; subst e_v_5; unfold s_X12_put_2_r; exact ((if_neg c_7).trans ((if_neg c_8).trans ((if_pos c_9).trans ((if_neg c_15).trans (if_pos c_16))))).symm) (congr (congrArg (fun (z0 : Nat → Int32) (z2 : Nat → Int32) => [kX12 h q1 q4 q5 q6 q7 q9 q10 q11 z0, aI y q1 60 ft, aI y q4 154 z2]) (by subst e_v_13; subst e_v_5; unfold s_X12_put_2_w0; exact ((if_neg c_7).trans ((if_neg c_8).trans ((if_pos c_9).trans ((if_neg c_15).trans (if_pos c_16))))).symm)) (by subst e_v_13; subst e_v_5; unfold s_X12_put_2_w2; exact ((if_neg c_7).trans ((if_neg c_8).trans ((if_pos c_9).trans ((if_neg c_15).trans (if_pos c_16))))).symm))) hS.2.2 dX12_put_103
              · refine lv_iload hx hb dX12_put_91 (lv_at hl 0 rfl) ?_
                refine lv_iload hx hb dX12_put_93 (lv_at hl 2 rfl) ?_
                refine lv_iadd hx hb dX12_put_95 ?_
                refine lv_iconst (v := 1) hx hb dX12_put_96 (by decide) ?_
                refine lv_isub hx hb dX12_put_97 ?_
                refine lv_iload_n hx hb dX12_put_98 rfl (lv_at hl 6 rfl) ?_
                refine lv_icmp_ge (tgt := 104) hx hb dX12_put_99 (by decide) (fun c_17 => ?_) (fun c_17 => ?_)
                · refine lv_iload hx hb dX12_put_104 (lv_at hl 0 rfl) ?_
                  refine lv_istore (lv' := [(6, .int ((0 + (v_5 * 10)) + (v_13 * 1))), (8, .int ((0 + (v_5 * 10)) + (v_13 * 1))), (7, .int v_13), (5, .int 1), (0, .ref h), (1, .int a1), (3, .int a3), (4, .int a4)]) hx hb dX12_put_106 hl (by decide) rfl (fun ls hl => ?_)
                  refine lv_iload hx hb dX12_put_108 (lv_at hl 3 rfl) ?_
                  refine lv_bipush (v := 10) hx hb dX12_put_110 (by decide) ?_
                  refine lv_idiv hx hb dX12_put_112 (by decide) ?_
                  refine rw_i (x' := 0) (by decide) ?_
                  refine lv_istore (lv' := [(5, .int 0), (6, .int ((0 + (v_5 * 10)) + (v_13 * 1))), (8, .int ((0 + (v_5 * 10)) + (v_13 * 1))), (7, .int v_13), (0, .ref h), (1, .int a1), (3, .int a3), (4, .int a4)]) hx hb dX12_put_113 hl (by decide) rfl (fun ls hl => ?_)
                  refine lv_aload_n hx hb dX12_put_115 rfl (lv_at hl 4 rfl) ?_
                  refine lv_dup hx hb dX12_put_116 rfl ?_
                  refine va_get (D := G) (ci := 10) (v := .int ((x 3) + 1)) (C := RX12) (T := TX12) (N := 15) hx hb hts i_X12 hown hK hP 0 rfl rfl 3 (by decide) (hts (.fieldLink RX12 122 "RelayTunerModel" "spot" "I") (by decide +kernel)) (fun _ h9 => h9) rfl dX12_put_117 ?_
                  refine lv_iconst (v := 1) hx hb dX12_put_120 (by decide) ?_
                  refine lv_iadd hx hb dX12_put_121 ?_
                  refine va_put (D := G) (ci := 10) (v := .int (((x 3) + 1) + 1)) (ty := .int) (C := RX12) (T := TX12) (N := 15) hx hb hts i_X12 tyX12 tyX12_ok nmX12 hown hK hP hD hS 0 rfl rfl 3 (by decide) (hts (.fieldLink RX12 122 "RelayTunerModel" "spot" "I") (by decide +kernel)) (fun _ h9 => h9) rfl (by decide +kernel) rfl rfl (Nat.le_of_ble_eq_true rfl) dX12_put_122 (fun H locs hP hD hS => ?_)
                  have hP : va_P G vwCl [kX12 h q1 q4 q5 q6 q7 q9 q10 q11 (upd (upd x 3 ((x 3) + 1)) 3 (((x 3) + 1) + 1)), aI y q1 60 ft, aI y q4 154 fr] H := hP
                  have hD : va_D A [kX12 h q1 q4 q5 q6 q7 q9 q10 q11 (upd (upd x 3 ((x 3) + 1)) 3 (((x 3) + 1) + 1)), aI y q1 60 ft, aI y q4 154 fr] := hD
                  have hs_18 : vp_in (((x 3) + 1) + 1) 61 := spot_next (by assumption) ht (put_lt e_v_13 c_15)
                  refine lv_goto (tgt := 26) hx hb dX12_put_125 (by decide) ?_
                  refine lv_iload hx hb dX12_put_26 (lv_at hl 0 rfl) ?_
                  refine lv_if_le (tgt := 128) hx hb dX12_put_28 (by decide) (fun c_19 => ?_) (fun c_19 => ?_)
                  rotate_left
                  · exact (by first | exact absurd c_19 (by decide : ((0 : Int32) ≤ 0)) | exact absurd (by decide : ((0 : Int32) ≤ 0)) c_19)
                  refine lv_aload_n hx hb dX12_put_128 rfl (lv_at hl 4 rfl) ?_
                  refine va_get (D := G) (ci := 10) (v := .ref q4) (C := RX12) (T := TX12) (N := 15) hx hb hts i_X12 hown hK hP 0 rfl rfl 4 (by decide) (hts (.fieldLink RX12 13 "RelayTunerModel" "read" "[I") (by decide +kernel)) (fun _ h9 => h9) rfl dX12_put_129 ?_
                  refine lv_iload_n hx hb dX12_put_132 rfl (lv_at hl 5 rfl) ?_
                  refine lv_iload hx hb dX12_put_133 (lv_at hl 1 rfl) ?_
                  refine as_i (D := G) (n := 154) (f := fr) hx hb hK hP hD hS 2 0 rfl rfl pl ha hpl (by first | decide | omega) dX12_put_135 (fun H locs hP hD hS => ?_)
                  have hP : va_P G vwCl [kX12 h q1 q4 q5 q6 q7 q9 q10 q11 (upd (upd x 3 ((x 3) + 1)) 3 (((x 3) + 1) + 1)), aI y q1 60 ft, aI y q4 154 (upd fr pl ((0 + (v_5 * 10)) + (v_13 * 1)))] H := hP
                  have hD : va_D A [kX12 h q1 q4 q5 q6 q7 q9 q10 q11 (upd (upd x 3 ((x 3) + 1)) 3 (((x 3) + 1) + 1)), aI y q1 60 ft, aI y q4 154 (upd fr pl ((0 + (v_5 * 10)) + (v_13 * 1)))] := hD
                  refine lv_iconst (v := 1) hx hb dX12_put_136 (by decide) ?_
                  rw [hQQ]
                  exact W.zret hx hb hr (nz_bool (Or.inr rfl)) (end_Hi () hP hD hS (by subst e_v_13; subst e_v_5; unfold s_X12_put_2_r; exact ((if_neg c_7).trans ((if_neg c_8).trans ((if_pos c_9).trans ((if_neg c_15).trans ((if_neg c_16).trans (if_pos c_17)))))).symm) (congr (congrArg (fun (z0 : Nat → Int32) (z2 : Nat → Int32) => [kX12 h q1 q4 q5 q6 q7 q9 q10 q11 z0, aI y q1 60 ft, aI y q4 154 z2]) (by subst e_v_13; subst e_v_5; unfold s_X12_put_2_w0; exact ((if_neg c_7).trans ((if_neg c_8).trans ((if_pos c_9).trans ((if_neg c_15).trans ((if_neg c_16).trans (if_pos c_17)))))).symm)) (by subst e_v_13; subst e_v_5; unfold s_X12_put_2_w2; exact ((if_neg c_7).trans ((if_neg c_8).trans ((if_pos c_9).trans ((if_neg c_15).trans ((if_neg c_16).trans (if_pos c_17)))))).symm))) hS.2.2 dX12_put_137
                · refine lv_iconst (v := 0) hx hb dX12_put_102 (by decide) ?_
                  rw [hQQ]
                  exact W.zret hx hb hr (nz_bool (Or.inl rfl)) (end_Hi () hP hD hS (by subst e_v_13; subst e_v_5; unfold s_X12_put_2_r; exact ((if_neg c_7).trans ((if_neg c_8).trans ((if_pos c_9).trans ((if_neg c_15).trans ((if_neg c_16).trans (if_neg c_17)))))).symm) (congr (congrArg (fun (z0 : Nat → Int32) (z2 : Nat → Int32) => [kX12 h q1 q4 q5 q6 q7 q9 q10 q11 z0, aI y q1 60 ft, aI y q4 154 z2]) (by subst e_v_13; subst e_v_5; unfold s_X12_put_2_w0; exact ((if_neg c_7).trans ((if_neg c_8).trans ((if_pos c_9).trans ((if_neg c_15).trans ((if_neg c_16).trans (if_neg c_17)))))).symm)) (by subst e_v_13; subst e_v_5; unfold s_X12_put_2_w2; exact ((if_neg c_7).trans ((if_neg c_8).trans ((if_pos c_9).trans ((if_neg c_15).trans ((if_neg c_16).trans (if_neg c_17)))))).symm))) hS.2.2 dX12_put_103
          refine lv_icmp_ge (tgt := 57) hx hb dX12_put_39 (by decide) (fun c_12 => ?_) (fun c_12 => ?_)
          · refine lv_ldc (v := (-99999)) hx hb hown (hts (.constant RX12 74 (-99999)) (by decide +kernel)) dX12_put_57 ?_
            exact J59_14 _ (if_pos c_12).symm ls (lv_sub hl [0, 1, 4, 5, 6, 7] rfl)
          · refine lv_aload_n hx hb dX12_put_42 rfl (lv_at hl 4 rfl) ?_
            refine va_get (D := G) (ci := 10) (v := .ref q1) (C := RX12) (T := TX12) (N := 15) hx hb hts i_X12 hown hK hP 0 rfl rfl 1 (by decide) (hts (.fieldLink RX12 7 "RelayTunerModel" "text" "[I") (by decide +kernel)) (fun _ h9 => h9) rfl dX12_put_43 ?_
            refine lv_aload_n hx hb dX12_put_46 rfl (lv_at hl 4 rfl) ?_
            refine va_get (D := G) (ci := 10) (v := .int ((x 3) + 1)) (C := RX12) (T := TX12) (N := 15) hx hb hts i_X12 hown hK hP 0 rfl rfl 3 (by decide) (hts (.fieldLink RX12 122 "RelayTunerModel" "spot" "I") (by decide +kernel)) (fun _ h9 => h9) rfl dX12_put_47 ?_
            refine al_i (D := G) (n := 60) (f := ft) hx hb hK hP 1 0 rfl rfl (tn ((x 3) + 1)) (spot_in (by assumption) (by assumption) c_12).1 (spot_in (by assumption) (by assumption) c_12).2 (by first | decide | omega) dX12_put_50 ?_
            refine lv_bipush (v := 48) hx hb dX12_put_51 (by decide) ?_
            refine lv_isub hx hb dX12_put_53 ?_
            refine lv_goto (tgt := 59) hx hb dX12_put_54 (by decide) ?_
            exact J59_14 _ (if_neg c_12).symm ls (lv_sub hl [0, 1, 4, 5, 6, 7] rfl)
        · refine lv_iconst (v := 0) hx hb dX12_put_102 (by decide) ?_
          rw [hQQ]
          exact W.zret hx hb hr (nz_bool (Or.inl rfl)) (end_Hi () hP hD hS (by subst e_v_5; unfold s_X12_put_2_r; exact ((if_neg c_7).trans ((if_neg c_8).trans (if_neg c_9))).symm) (congr (congrArg (fun (z0 : Nat → Int32) (z2 : Nat → Int32) => [kX12 h q1 q4 q5 q6 q7 q9 q10 q11 z0, aI y q1 60 ft, aI y q4 154 z2]) (by subst e_v_5; unfold s_X12_put_2_w0; exact ((if_neg c_7).trans ((if_neg c_8).trans (if_neg c_9))).symm)) (by subst e_v_5; unfold s_X12_put_2_w2; exact ((if_neg c_7).trans ((if_neg c_8).trans (if_neg c_9))).symm))) hS.2.2 dX12_put_103
  refine lv_icmp_ge (tgt := 57) hx hb dX12_put_39 (by decide) (fun c_4 => ?_) (fun c_4 => ?_)
  · refine lv_ldc (v := (-99999)) hx hb hown (hts (.constant RX12 74 (-99999)) (by decide +kernel)) dX12_put_57 ?_
    exact J59_6 _ (if_pos c_4).symm ls (lv_sub hl [0, 1, 2, 3, 5, 6] rfl)
  · refine lv_aload_n hx hb dX12_put_42 rfl (lv_at hl 2 rfl) ?_
    refine va_get (D := G) (ci := 10) (v := .ref q1) (C := RX12) (T := TX12) (N := 15) hx hb hts i_X12 hown hK hP 0 rfl rfl 1 (by decide) (hts (.fieldLink RX12 7 "RelayTunerModel" "text" "[I") (by decide +kernel)) (fun _ h9 => h9) rfl dX12_put_43 ?_
    refine lv_aload_n hx hb dX12_put_46 rfl (lv_at hl 2 rfl) ?_
    refine va_get (D := G) (ci := 10) (v := .int (x 3)) (C := RX12) (T := TX12) (N := 15) hx hb hts i_X12 hown hK hP 0 rfl rfl 3 (by decide) (hts (.fieldLink RX12 122 "RelayTunerModel" "spot" "I") (by decide +kernel)) (fun _ h9 => h9) rfl dX12_put_47 ?_
    refine al_i (D := G) (n := 60) (f := ft) hx hb hK hP 1 0 rfl rfl (tn (x 3)) (spot_in (by assumption) (by assumption) c_4).1 (spot_in (by assumption) (by assumption) c_4).2 (by first | decide | omega) dX12_put_50 ?_
    refine lv_bipush (v := 48) hx hb dX12_put_51 (by decide) ?_
    refine lv_isub hx hb dX12_put_53 ?_
    refine lv_goto (tgt := 59) hx hb dX12_put_54 (by decide) ?_
    exact J59_6 _ (if_neg c_4).symm ls (lv_sub hl [0, 1, 2, 3, 5, 6] rfl)

theorem put2_2e {a b : Int32} {x ft : Nat → Int32} : s_X12_put_2_w0 a b x ft 2 = x 2 := by
  unfold s_X12_put_2_w0
  exact (ite_P (P := fun z : Nat → Int32 => z 2 = x 2) (fun _ => rfl) (fun c0 => ite_P (P := fun z : Nat → Int32 => z 2 = x 2) (fun _ => rfl) (fun _ => ite_P (P := fun z : Nat → Int32 => z 2 = x 2) (fun _ => (ite_P (P := fun z : Nat → Int32 => z 2 = x 2) (fun _ => rfl) (fun c1 => ite_P (P := fun z : Nat → Int32 => z 2 = x 2) (fun _ => rfl) (fun _ => ite_P (P := fun z : Nat → Int32 => z 2 = x 2) (fun _ => rfl) (fun _ => rfl))))) (fun _ => rfl))))
theorem put2_2 {a b : Int32} {x ft : Nat → Int32} (h : vp_in (x 2) 61) : vp_in (s_X12_put_2_w0 a b x ft 2) 61 := by rw [put2_2e]; exact h
theorem put2_3 {a b : Int32} {x ft : Nat → Int32} (ht : vp_in (x 2) 61) (h : vp_in (x 3) 61) : vp_in (s_X12_put_2_w0 a b x ft 3) 61 := by
  unfold s_X12_put_2_w0
  exact (ite_P (P := fun z : Nat → Int32 => vp_in (z 3) 61) (fun _ => h) (fun c0 => have h1 := spot_next h ht (put_lt rfl c0); ite_P (P := fun z : Nat → Int32 => vp_in (z 3) 61) (fun _ => h) (fun _ => ite_P (P := fun z : Nat → Int32 => vp_in (z 3) 61) (fun _ => (ite_P (P := fun z : Nat → Int32 => vp_in (z 3) 61) (fun _ => (by rw [pk_us]; exact h1)) (fun c1 => have h2 := spot_next h1 ht (put_lt rfl c1); ite_P (P := fun z : Nat → Int32 => vp_in (z 3) 61) (fun _ => (by rw [pk_us]; exact h1)) (fun _ => ite_P (P := fun z : Nat → Int32 => vp_in (z 3) 61) (fun _ => (by rw [pk_us]; exact h2)) (fun _ => (by rw [pk_us]; exact h1)))))) (fun _ => h))))

def s_X12_put_3_r (a3 : Int32) (a4 : Int32) (x : Nat → Int32) (ft : Nat → Int32) : Int32 := (let v_5 : Int32 := (if (x 2) ≤ (x 3) then (-99999) else ((ft (tn (x 3))) - 48)); (if (s_X12_in_r v_5.toInt64 0 9) = 0 then 0 else (if a4 < (0 + (v_5 * 100)) then 0 else (if a3 ≤ (((0 + (v_5 * 100)) + 100) - 1) then (let v_13 : Int32 := (if (x 2) ≤ ((x 3) + 1) then (-99999) else ((ft (tn ((x 3) + 1))) - 48)); (if (s_X12_in_r v_13.toInt64 0 9) = 0 then 0 else (if a4 < ((0 + (v_5 * 100)) + (v_13 * 10)) then 0 else (if a3 ≤ ((((0 + (v_5 * 100)) + (v_13 * 10)) + 10) - 1) then (let v_21 : Int32 := (if (x 2) ≤ (((x 3) + 1) + 1) then (-99999) else ((ft (tn (((x 3) + 1) + 1))) - 48)); (if (s_X12_in_r v_21.toInt64 0 9) = 0 then 0 else (if a4 < (((0 + (v_5 * 100)) + (v_13 * 10)) + (v_21 * 1)) then 0 else (if a3 ≤ (((((0 + (v_5 * 100)) + (v_13 * 10)) + (v_21 * 1)) + 1) - 1) then 1 else 0)))) else 0)))) else 0))))
def s_X12_put_3_w0 (a3 : Int32) (a4 : Int32) (x : Nat → Int32) (ft : Nat → Int32) : Nat → Int32 := (let v_5 : Int32 := (if (x 2) ≤ (x 3) then (-99999) else ((ft (tn (x 3))) - 48)); (if (s_X12_in_r v_5.toInt64 0 9) = 0 then x else (if a4 < (0 + (v_5 * 100)) then x else (if a3 ≤ (((0 + (v_5 * 100)) + 100) - 1) then (let v_13 : Int32 := (if (x 2) ≤ ((x 3) + 1) then (-99999) else ((ft (tn ((x 3) + 1))) - 48)); (if (s_X12_in_r v_13.toInt64 0 9) = 0 then (upd x 3 ((x 3) + 1)) else (if a4 < ((0 + (v_5 * 100)) + (v_13 * 10)) then (upd x 3 ((x 3) + 1)) else (if a3 ≤ ((((0 + (v_5 * 100)) + (v_13 * 10)) + 10) - 1) then (let v_21 : Int32 := (if (x 2) ≤ (((x 3) + 1) + 1) then (-99999) else ((ft (tn (((x 3) + 1) + 1))) - 48)); (if (s_X12_in_r v_21.toInt64 0 9) = 0 then (upd (upd x 3 ((x 3) + 1)) 3 (((x 3) + 1) + 1)) else (if a4 < (((0 + (v_5 * 100)) + (v_13 * 10)) + (v_21 * 1)) then (upd (upd x 3 ((x 3) + 1)) 3 (((x 3) + 1) + 1)) else (if a3 ≤ (((((0 + (v_5 * 100)) + (v_13 * 10)) + (v_21 * 1)) + 1) - 1) then (upd (upd (upd x 3 ((x 3) + 1)) 3 (((x 3) + 1) + 1)) 3 ((((x 3) + 1) + 1) + 1)) else (upd (upd x 3 ((x 3) + 1)) 3 (((x 3) + 1) + 1)))))) else (upd x 3 ((x 3) + 1)))))) else x))))
def s_X12_put_3_w2 (a3 : Int32) (a4 : Int32) (x : Nat → Int32) (ft : Nat → Int32) (fr : Nat → Int32) (pl : Nat) : Nat → Int32 := (let v_5 : Int32 := (if (x 2) ≤ (x 3) then (-99999) else ((ft (tn (x 3))) - 48)); (if (s_X12_in_r v_5.toInt64 0 9) = 0 then fr else (if a4 < (0 + (v_5 * 100)) then fr else (if a3 ≤ (((0 + (v_5 * 100)) + 100) - 1) then (let v_13 : Int32 := (if (x 2) ≤ ((x 3) + 1) then (-99999) else ((ft (tn ((x 3) + 1))) - 48)); (if (s_X12_in_r v_13.toInt64 0 9) = 0 then fr else (if a4 < ((0 + (v_5 * 100)) + (v_13 * 10)) then fr else (if a3 ≤ ((((0 + (v_5 * 100)) + (v_13 * 10)) + 10) - 1) then (let v_21 : Int32 := (if (x 2) ≤ (((x 3) + 1) + 1) then (-99999) else ((ft (tn (((x 3) + 1) + 1))) - 48)); (if (s_X12_in_r v_21.toInt64 0 9) = 0 then fr else (if a4 < (((0 + (v_5 * 100)) + (v_13 * 10)) + (v_21 * 1)) then fr else (if a3 ≤ (((((0 + (v_5 * 100)) + (v_13 * 10)) + (v_21 * 1)) + 1) - 1) then (upd fr pl (((0 + (v_5 * 100)) + (v_13 * 10)) + (v_21 * 1))) else fr)))) else fr)))) else fr))))
theorem z_X12_put_3 (a3 : Int32) (a4 : Int32) (x : Nat → Int32) (ft : Nat → Int32) : s_X12_put_3_r a3 a4 x ft = 0 ∨ s_X12_put_3_r a3 a4 x ft = 1 := by unfold s_X12_put_3_r; (try dsimp only); exact (z_ite (Or.inl rfl) (z_ite (Or.inl rfl) (z_ite (z_ite (Or.inl rfl) (z_ite (Or.inl rfl) (z_ite (z_ite (Or.inl rfl) (z_ite (Or.inl rfl) (z_ite (Or.inr rfl) (Or.inl rfl)))) (Or.inl rfl)))) (Or.inl rfl))))
abbrev rmX12_put_3 : Room := ({ frames := 1, cells := 0, slots := 0, locals := 25 } : Room)
set_option maxHeartbeats 4000000 in
set_option maxRecDepth 100000 in
theorem c_X12_put_3 (l : Launch) (G : va_G) (y : Nat → ClassId) (h : Nat) (a1 : Int32) (a3 : Int32) (a4 : Int32) (q1 : Nat) (q4 : Nat) (q5 : Nat) (q6 : Nat) (q7 : Nat) (q9 : Nat) (q10 : Nat) (q11 : Nat) (x : Nat → Int32) (ft : Nat → Int32) (fr : Nat → Int32) (pl : Nat) (sz : Nat) (ht : vp_in (x 2) 61) (hs : vp_in (x 3) 61) (ha : a1 = nI pl) (hpl : pl < 154) : Met l yX12_put wsX12_put rmX12_put_3 (PH G y [.ref h, .int a1, .int 3, .int a3, .int a4] [kX12 h q1 q4 q5 q6 q7 q9 q10 q11 x, aI y q1 60 ft, aI y q4 154 fr] sz) (QHi G (s_X12_put_3_r a3 a4 x ft) (fun _ : Unit => [kX12 h q1 q4 q5 q6 q7 q9 q10 q11 (s_X12_put_3_w0 a3 a4 x ft), aI y q1 60 ft, aI y q4 154 (s_X12_put_3_w2 a3 a4 x ft fr pl)]) (va_A [kX12 h q1 q4 q5 q6 q7 q9 q10 q11 x, aI y q1 60 ft, aI y q4 154 fr] sz)) 0 0 (va_A [kX12 h q1 q4 q5 q6 q7 q9 q10 q11 x, aI y q1 60 ft, aI y q4 154 fr] sz) := by
  refine Met.ofW (cc := cX12_put) (maxL := 9) (ret := (some .boolean)) (by decide) rfl ?_
  intro p e s m args below meth c s₁ B hml hv
  obtain ⟨rfl, hsz, hP, ⟨hK, hN⟩, hD0⟩ := hv
  have hx := B.exec
  have hb := B.bytes
  have hr := B.returns
  have hts := atoms_spec (ws := wsX12_put) B.pre
  have hown : s.vm.findClass RX12 = some m.cls := findClass_of_methodNamed B.named
  have hlocks := B.notSynchronized
  have i_X12 : ∀ w ∈ u_ws RX12 TX12 15, w ∈ wsX12_put := by decide +kernel
  subst hsz
  have hD := hD0.self (sz := s.heap.size)
  generalize hAe : va_A [kX12 h q1 q4 q5 q6 q7 q9 q10 q11 x, aI y q1 60 ft, aI y q4 154 fr] s.heap.size = A at hD ⊢
  have hA : ∀ q : Nat, s.heap.size ≤ q → A q := fun q h => by rw [← hAe]; exact Or.inr h
  have hS : va_S A s.heap s.heap [] := va_S.rf
  have hP : va_P G vwCl [kX12 h q1 q4 q5 q6 q7 q9 q10 q11 x, aI y q1 60 ft, aI y q4 154 fr] s.heap := hP
  have hl := lv_entry ([.ref h, .int a1, .int 3, .int a3, .int a4]) (n := 9) (Nat.le_of_ble_eq_true rfl)
  rw [lg_entry_eq]
  generalize (lg_sl ([.ref h, .int a1, .int 3, .int a3, .int a4]) ++ List.replicate (9 - (lg_sl ([.ref h, .int a1, .int 3, .int a3, .int a4])).length) Slot.unset).toArray = ls at hl ⊢
  have hl : lv_has ls 9 [(0, .ref h), (1, .int a1), (2, .int 3), (3, .int a3), (4, .int a4)] := hl
  obtain ⟨QQ, hQQ⟩ : ∃ zq9, zq9 = MQ below (QHi G (s_X12_put_3_r a3 a4 x ft) (fun _ : Unit => [kX12 h q1 q4 q5 q6 q7 q9 q10 q11 (s_X12_put_3_w0 a3 a4 x ft), aI y q1 60 ft, aI y q4 154 (s_X12_put_3_w2 a3 a4 x ft fr pl)]) A) ([.ref h, .int a1, .int 3, .int a3, .int a4] : List Value).toArray s 0 0 A := ⟨_, rfl⟩
  rw [← hQQ]
  refine lv_iload_n hx hb dX12_put_0 rfl (lv_at hl 2 rfl) ?_
  refine lv_iconst (v := 1) hx hb dX12_put_1 (by decide) ?_
  refine lv_icmp_ne (tgt := 9) hx hb dX12_put_2 (by decide) (fun c_1 => ?_) (fun c_1 => ?_)
  rotate_left
  · exact (by first | exact absurd c_1 (by decide : ¬ ((3 : Int32) = 1)) | exact absurd (by decide : ¬ ((3 : Int32) = 1)) c_1)
  refine lv_iload_n hx hb dX12_put_9 rfl (lv_at hl 2 rfl) ?_
  refine lv_iconst (v := 2) hx hb dX12_put_10 (by decide) ?_
  refine lv_icmp_ne (tgt := 19) hx hb dX12_put_11 (by decide) (fun c_2 => ?_) (fun c_2 => ?_)
  rotate_left
  · exact (by first | exact absurd c_2 (by decide : ¬ ((3 : Int32) = 2)) | exact absurd (by decide : ¬ ((3 : Int32) = 2)) c_2)
  refine lv_bipush (v := 100) hx hb dX12_put_19 (by decide) ?_
  refine lv_istore (lv' := [(5, .int 100), (0, .ref h), (1, .int a1), (2, .int 3), (3, .int a3), (4, .int a4)]) hx hb dX12_put_21 hl (by decide) rfl (fun ls hl => ?_)
  refine lv_iconst (v := 0) hx hb dX12_put_23 (by decide) ?_
  refine lv_istore (lv' := [(6, .int 0), (5, .int 100), (0, .ref h), (1, .int a1), (2, .int 3), (3, .int a3), (4, .int a4)]) hx hb dX12_put_24 hl (by decide) rfl (fun ls hl => ?_)
  refine lv_iload hx hb dX12_put_26 (lv_at hl 1 rfl) ?_
  refine lv_if_le (tgt := 128) hx hb dX12_put_28 (by decide) (fun c_3 => ?_) (fun c_3 => ?_)
  · exact (by first | exact absurd c_3 (by decide : ¬ ((100 : Int32) ≤ 0)) | exact absurd (by decide : ¬ ((100 : Int32) ≤ 0)) c_3)
  refine lv_aload_n hx hb dX12_put_31 rfl (lv_at hl 2 rfl) ?_
  refine va_get (D := G) (ci := 10) (v := .int (x 3)) (C := RX12) (T := TX12) (N := 15) hx hb hts i_X12 hown hK hP 0 rfl rfl 3 (by decide) (hts (.fieldLink RX12 122 "RelayTunerModel" "spot" "I") (by decide +kernel)) (fun _ h9 => h9) rfl dX12_put_32 ?_
  refine lv_aload_n hx hb dX12_put_35 rfl (lv_at hl 2 rfl) ?_
  refine va_get (D := G) (ci := 10) (v := .int (x 2)) (C := RX12) (T := TX12) (N := 15) hx hb hts i_X12 hown hK hP 0 rfl rfl 2 (by decide) (hts (.fieldLink RX12 115 "RelayTunerModel" "textSize" "I") (by decide +kernel)) (fun _ h9 => h9) rfl dX12_put_36 ?_
  have J59_6 : ∀ (v_5 : Int32) (e_v_5 : v_5 = (if (x 2) ≤ (x 3) then (-99999) else ((ft (tn (x 3))) - 48))) (ls : Array Slot) (hl : lv_has ls 9 [(6, .int 0), (5, .int 100), (0, .ref h), (1, .int a1), (3, .int a3), (4, .int a4)]), W p l e (headSpec wsX12_put rmX12_put_3).room s m ([.ref h, .int a1, .int 3, .int a3, .int a4] : List Value).toArray below meth c s.heap [] 0 0 QQ (F0 m 59 ls [.int v_5]) := by
    intro v_5 e_v_5 ls hl
    refine lv_istore (lv' := [(7, .int v_5), (6, .int 0), (5, .int 100), (0, .ref h), (1, .int a1), (3, .int a3), (4, .int a4)]) hx hb dX12_put_59 hl (by decide) rfl (fun ls hl => ?_)
    refine lv_iload hx hb dX12_put_61 (lv_at hl 1 rfl) ?_
    refine lv_iload hx hb dX12_put_63 (lv_at hl 0 rfl) ?_
    refine lv_iload hx hb dX12_put_65 (lv_at hl 2 rfl) ?_
    refine lv_imul hx hb dX12_put_67 ?_
    refine lv_iadd hx hb dX12_put_68 ?_
    refine lv_istore (lv' := [(8, .int (0 + (v_5 * 100))), (7, .int v_5), (6, .int 0), (5, .int 100), (0, .ref h), (1, .int a1), (3, .int a3), (4, .int a4)]) hx hb dX12_put_69 hl (by decide) rfl (fun ls hl => ?_)
    refine lv_iload hx hb dX12_put_71 (lv_at hl 1 rfl) ?_
    refine lv_i2l (v := v_5.toInt64) hx hb dX12_put_73 rfl ?_
    refine lv_lconst (v := 0) hx hb dX12_put_74 rfl ?_
    refine lv_ldc2 (v := 9) hx hb hown (hts (.constantLong RX12 125 9) (by decide +kernel)) dX12_put_75 ?_
    refine cl_Ri (va_runS (As := [.long v_5.toInt64, .long 0, .long 9]) (rest := []) ⟨hx, hb, hml, hown, hts⟩ (c_X12_in l G y v_5.toInt64 0 9) (va_cwS 3 hts gX12_put_X12_in rfl rfl rfl (by decide +kernel) ⟨Nat.le_of_ble_eq_true rfl, Nat.le_of_ble_eq_true rfl⟩) (PR_S pnil hK hN) rfl rfl hl.1 rfl (lv_room (Nat.le_of_ble_eq_true rfl)) dX12_put_78 ⟨Nat.le_of_ble_eq_true rfl, Nat.le_of_ble_eq_true rfl⟩) ?_
    refine lv_if_eq (tgt := 102) hx hb dX12_put_81 (by decide) (fun c_7 => ?_) (fun c_7 => ?_)
    · refine lv_iconst (v := 0) hx hb dX12_put_102 (by decide) ?_
      rw [hQQ]
      exact W.zret hx hb hr (nz_bool (Or.inl rfl)) (end_Hi () hP hD hS (by subst e_v_5; unfold s_X12_put_3_r; exact (if_pos c_7).symm) (congr (congrArg (fun (z0 : Nat → Int32) (z2 : Nat → Int32) => [kX12 h q1 q4 q5 q6 q7 q9 q10 q11 z0, aI y q1 60 ft, aI y q4 154 z2]) (by subst e_v_5; unfold s_X12_put_3_w0; exact (if_pos c_7).symm)) (by subst e_v_5; unfold s_X12_put_3_w2; exact (if_pos c_7).symm))) hS.2.2 dX12_put_103
    · refine lv_iload hx hb dX12_put_84 (lv_at hl 0 rfl) ?_
      refine lv_iload hx hb dX12_put_86 (lv_at hl 7 rfl) ?_
      refine lv_icmp_gt (tgt := 102) hx hb dX12_put_88 (by decide) (fun c_8 => ?_) (fun c_8 => ?_)
      · refine lv_iconst (v := 0) hx hb dX12_put_102 (by decide) ?_
        rw [hQQ]
        exact W.zret hx hb hr (nz_bool (Or.inl rfl)) (end_Hi () hP hD hS (by subst e_v_5; unfold s_X12_put_3_r; exact ((if_neg c_7).trans (if_pos c_8)).symm) (congr (congrArg (fun (z0 : Nat → Int32) (z2 : Nat → Int32) => [kX12 h q1 q4 q5 q6 q7 q9 q10 q11 z0, aI y q1 60 ft, aI y q4 154 z2]) (by subst e_v_5; unfold s_X12_put_3_w0; exact ((if_neg c_7).trans (if_pos c_8)).symm)) (by subst e_v_5; unfold s_X12_put_3_w2; exact ((if_neg c_7).trans (if_pos c_8)).symm))) hS.2.2 dX12_put_103
      · refine lv_iload hx hb dX12_put_91 (lv_at hl 0 rfl) ?_
        refine lv_iload hx hb dX12_put_93 (lv_at hl 3 rfl) ?_
        refine lv_iadd hx hb dX12_put_95 ?_
        refine lv_iconst (v := 1) hx hb dX12_put_96 (by decide) ?_
        refine lv_isub hx hb dX12_put_97 ?_
        refine lv_iload_n hx hb dX12_put_98 rfl (lv_at hl 6 rfl) ?_
        refine lv_icmp_ge (tgt := 104) hx hb dX12_put_99 (by decide) (fun c_9 => ?_) (fun c_9 => ?_)
        · refine lv_iload hx hb dX12_put_104 (lv_at hl 0 rfl) ?_
          refine lv_istore (lv' := [(6, .int (0 + (v_5 * 100))), (8, .int (0 + (v_5 * 100))), (7, .int v_5), (5, .int 100), (0, .ref h), (1, .int a1), (3, .int a3), (4, .int a4)]) hx hb dX12_put_106 hl (by decide) rfl (fun ls hl => ?_)
          refine lv_iload hx hb dX12_put_108 (lv_at hl 3 rfl) ?_
          refine lv_bipush (v := 10) hx hb dX12_put_110 (by decide) ?_
          refine lv_idiv hx hb dX12_put_112 (by decide) ?_
          refine rw_i (x' := 10) (by decide) ?_
          refine lv_istore (lv' := [(5, .int 10), (6, .int (0 + (v_5 * 100))), (8, .int (0 + (v_5 * 100))), (7, .int v_5), (0, .ref h), (1, .int a1), (3, .int a3), (4, .int a4)]) hx hb dX12_put_113 hl (by decide) rfl (fun ls hl => ?_)
          refine lv_aload_n hx hb dX12_put_115 rfl (lv_at hl 4 rfl) ?_
          refine lv_dup hx hb dX12_put_116 rfl ?_
          refine va_get (D := G) (ci := 10) (v := .int (x 3)) (C := RX12) (T := TX12) (N := 15) hx hb hts i_X12 hown hK hP 0 rfl rfl 3 (by decide) (hts (.fieldLink RX12 122 "RelayTunerModel" "spot" "I") (by decide +kernel)) (fun _ h9 => h9) rfl dX12_put_117 ?_
          refine lv_iconst (v := 1) hx hb dX12_put_120 (by decide) ?_
          refine lv_iadd hx hb dX12_put_121 ?_
          refine va_put (D := G) (ci := 10) (v := .int ((x 3) + 1)) (ty := .int) (C := RX12) (T := TX12) (N := 15) hx hb hts i_X12 tyX12 tyX12_ok nmX12 hown hK hP hD hS 0 rfl rfl 3 (by decide) (hts (.fieldLink RX12 122 "RelayTunerModel" "spot" "I") (by decide +kernel)) (fun _ h9 => h9) rfl (by decide +kernel) rfl rfl (Nat.le_of_ble_eq_true rfl) dX12_put_122 (fun H locs hP hD hS => ?_)
          have hP : va_P G vwCl [kX12 h q1 q4 q5 q6 q7 q9 q10 q11 (upd x 3 ((x 3) + 1)), aI y q1 60 ft, aI y q4 154 fr] H := hP
          have hD : va_D A [kX12 h q1 q4 q5 q6 q7 q9 q10 q11 (upd x 3 ((x 3) + 1)), aI y q1 60 ft, aI y q4 154 fr] := hD
          have hs_10 : vp_in ((x 3) + 1) 61 := spot_next (by assumption) ht (put_lt e_v_5 c_7)
          refine lv_goto (tgt := 26) hx hb dX12_put_125 (by decide) ?_
          refine lv_iload hx hb dX12_put_26 (lv_at hl 0 rfl) ?_
          refine lv_if_le (tgt := 128) hx hb dX12_put_28 (by decide) (fun c_11 => ?_) (fun c_11 => ?_)
          · exact (by first | exact absurd c_11 (by decide : ¬ ((10 : Int32) ≤ 0)) | exact absurd (by decide : ¬ ((10 : Int32) ≤ 0)) c_11)
          refine lv_aload_n hx hb dX12_put_31 rfl (lv_at hl 4 rfl) ?_
          refine va_get (D := G) (ci := 10) (v := .int ((x 3) + 1)) (C := RX12) (T := TX12) (N := 15) hx hb hts i_X12 hown hK hP 0 rfl rfl 3 (by decide) (hts (.fieldLink RX12 122 "RelayTunerModel" "spot" "I") (by decide +kernel)) (fun _ h9 => h9) rfl dX12_put_32 ?_
          refine lv_aload_n hx hb dX12_put_35 rfl (lv_at hl 4 rfl) ?_
          refine va_get (D := G) (ci := 10) (v := .int (x 2)) (C := RX12) (T := TX12) (N := 15) hx hb hts i_X12 hown hK hP 0 rfl rfl 2 (by decide) (hts (.fieldLink RX12 115 "RelayTunerModel" "textSize" "I") (by decide +kernel)) (fun _ h9 => h9) rfl dX12_put_36 ?_
          have J59_14 : ∀ (v_13 : Int32) (e_v_13 : v_13 = (if (x 2) ≤ ((x 3) + 1) then (-99999) else ((ft (tn ((x 3) + 1))) - 48))) (ls : Array Slot) (hl : lv_has ls 9 [(5, .int 10), (6, .int (0 + (v_5 * 100))), (0, .ref h), (1, .int a1), (3, .int a3), (4, .int a4)]), W p l e (headSpec wsX12_put rmX12_put_3).room s m ([.ref h, .int a1, .int 3, .int a3, .int a4] : List Value).toArray below meth c H locs 0 0 QQ (F0 m 59 ls [.int v_13]) := by
            intro v_13 e_v_13 ls hl
            refine lv_istore (lv' := [(7, .int v_13), (5, .int 10), (6, .int (0 + (v_5 * 100))), (0, .ref h), (1, .int a1), (3, .int a3), (4, .int a4)]) hx hb dX12_put_59 hl (by decide) rfl (fun ls hl => ?_)
            refine lv_iload hx hb dX12_put_61 (lv_at hl 2 rfl) ?_
            refine lv_iload hx hb dX12_put_63 (lv_at hl 0 rfl) ?_
            refine lv_iload hx hb dX12_put_65 (lv_at hl 1 rfl) ?_
            refine lv_imul hx hb dX12_put_67 ?_
            refine lv_iadd hx hb dX12_put_68 ?_
            refine lv_istore (lv' := [(8, .int ((0 + (v_5 * 100)) + (v_13 * 10))), (7, .int v_13), (5, .int 10), (6, .int (0 + (v_5 * 100))), (0, .ref h), (1, .int a1), (3, .int a3), (4, .int a4)]) hx hb dX12_put_69 hl (by decide) rfl (fun ls hl => ?_)
            refine lv_iload hx hb dX12_put_71 (lv_at hl 1 rfl) ?_
            refine lv_i2l (v := v_13.toInt64) hx hb dX12_put_73 rfl ?_
            refine lv_lconst (v := 0) hx hb dX12_put_74 rfl ?_
            refine lv_ldc2 (v := 9) hx hb hown (hts (.constantLong RX12 125 9) (by decide +kernel)) dX12_put_75 ?_
            refine cl_Ri (va_runS (As := [.long v_13.toInt64, .long 0, .long 9]) (rest := []) ⟨hx, hb, hml, hown, hts⟩ (c_X12_in l G y v_13.toInt64 0 9) (va_cwS 3 hts gX12_put_X12_in rfl rfl rfl (by decide +kernel) ⟨Nat.le_of_ble_eq_true rfl, Nat.le_of_ble_eq_true rfl⟩) (PR_S pnil hK hN) rfl rfl hl.1 rfl (lv_room (Nat.le_of_ble_eq_true rfl)) dX12_put_78 ⟨Nat.le_of_ble_eq_true rfl, Nat.le_of_ble_eq_true rfl⟩) ?_
            refine lv_if_eq (tgt := 102) hx hb dX12_put_81 (by decide) (fun c_15 => ?_) (fun c_15 => ?_)
            · refine lv_iconst (v := 0) hx hb dX12_put_102 (by decide) ?_
              rw [hQQ]
              exact W.zret hx hb hr (nz_bool (Or.inl rfl)) (end_Hi () hP hD hS (by subst e_v_13; subst e_v_5; unfold s_X12_put_3_r; exact ((if_neg c_7).trans ((if_neg c_8).trans ((if_pos c_9).trans (if_pos c_15)))).symm) (congr (congrArg (fun (z0 : Nat → Int32) (z2 : Nat → Int32) => [kX12 h q1 q4 q5 q6 q7 q9 q10 q11 z0, aI y q1 60 ft, aI y q4 154 z2]) (by subst e_v_13; subst e_v_5; unfold s_X12_put_3_w0; exact ((if_neg c_7).trans ((if_neg c_8).trans ((if_pos c_9).trans (if_pos c_15)))).symm)) (by subst e_v_13; subst e_v_5; unfold s_X12_put_3_w2; exact ((if_neg c_7).trans ((if_neg c_8).trans ((if_pos c_9).trans (if_pos c_15)))).symm))) hS.2.2 dX12_put_103
            · refine lv_iload hx hb dX12_put_84 (lv_at hl 0 rfl) ?_
              refine lv_iload hx hb dX12_put_86 (lv_at hl 7 rfl) ?_
              refine lv_icmp_gt (tgt := 102) hx hb dX12_put_88 (by decide) (fun c_16 => ?_) (fun c_16 => ?_)
              · refine lv_iconst (v := 0) hx hb dX12_put_102 (by decide) ?_
                rw [hQQ]
                exact W.zret hx hb hr (nz_bool (Or.inl rfl)) (end_Hi () hP hD hS (by subst e_v_13; subst e_v_5; unfold s_X12_put_3_r; exact ((if_neg c_7).trans ((if_neg c_8).trans ((if_pos c_9).trans ((if_neg c_15).trans (if_pos c_16))))).symm) (congr (congrArg (fun (z0 : Nat → Int32) (z2 : Nat → Int32) => [kX12 h q1 q4 q5 q6 q7 q9 q10 q11 z0, aI y q1 60 ft, aI y q4 154 z2]) (by subst e_v_13; subst e_v_5; unfold s_X12_put_3_w0; exact ((if_neg c_7).trans ((if_neg c_8).trans ((if_pos c_9).trans ((if_neg c_15).trans (if_pos c_16))))).symm)) (by subst e_v_13; subst e_v_5; unfold s_X12_put_3_w2; exact ((if_neg c_7).trans ((if_neg c_8).trans ((if_pos c_9).trans ((if_neg c_15).trans (if_pos c_16))))).symm))) hS.2.2 dX12_put_103
              · refine lv_iload hx hb dX12_put_91 (lv_at hl 0 rfl) ?_
                refine lv_iload hx hb dX12_put_93 (lv_at hl 2 rfl) ?_
                refine lv_iadd hx hb dX12_put_95 ?_
                refine lv_iconst (v := 1) hx hb dX12_put_96 (by decide) ?_
                refine lv_isub hx hb dX12_put_97 ?_
                refine lv_iload_n hx hb dX12_put_98 rfl (lv_at hl 6 rfl) ?_
                refine lv_icmp_ge (tgt := 104) hx hb dX12_put_99 (by decide) (fun c_17 => ?_) (fun c_17 => ?_)
                · refine lv_iload hx hb dX12_put_104 (lv_at hl 0 rfl) ?_
                  refine lv_istore (lv' := [(6, .int ((0 + (v_5 * 100)) + (v_13 * 10))), (8, .int ((0 + (v_5 * 100)) + (v_13 * 10))), (7, .int v_13), (5, .int 10), (0, .ref h), (1, .int a1), (3, .int a3), (4, .int a4)]) hx hb dX12_put_106 hl (by decide) rfl (fun ls hl => ?_)
                  refine lv_iload hx hb dX12_put_108 (lv_at hl 3 rfl) ?_
                  refine lv_bipush (v := 10) hx hb dX12_put_110 (by decide) ?_
                  refine lv_idiv hx hb dX12_put_112 (by decide) ?_
                  refine rw_i (x' := 1) (by decide) ?_
                  refine lv_istore (lv' := [(5, .int 1), (6, .int ((0 + (v_5 * 100)) + (v_13 * 10))), (8, .int ((0 + (v_5 * 100)) + (v_13 * 10))), (7, .int v_13), (0, .ref h), (1, .int a1), (3, .int a3), (4, .int a4)]) hx hb dX12_put_113 hl (by decide) rfl (fun ls hl => ?_)
                  refine lv_aload_n hx hb dX12_put_115 rfl (lv_at hl 4 rfl) ?_
                  refine lv_dup hx hb dX12_put_116 rfl ?_
                  refine va_get (D := G) (ci := 10) (v := .int ((x 3) + 1)) (C := RX12) (T := TX12) (N := 15) hx hb hts i_X12 hown hK hP 0 rfl rfl 3 (by decide) (hts (.fieldLink RX12 122 "RelayTunerModel" "spot" "I") (by decide +kernel)) (fun _ h9 => h9) rfl dX12_put_117 ?_
                  refine lv_iconst (v := 1) hx hb dX12_put_120 (by decide) ?_
                  refine lv_iadd hx hb dX12_put_121 ?_
                  refine va_put (D := G) (ci := 10) (v := .int (((x 3) + 1) + 1)) (ty := .int) (C := RX12) (T := TX12) (N := 15) hx hb hts i_X12 tyX12 tyX12_ok nmX12 hown hK hP hD hS 0 rfl rfl 3 (by decide) (hts (.fieldLink RX12 122 "RelayTunerModel" "spot" "I") (by decide +kernel)) (fun _ h9 => h9) rfl (by decide +kernel) rfl rfl (Nat.le_of_ble_eq_true rfl) dX12_put_122 (fun H locs hP hD hS => ?_)
                  have hP : va_P G vwCl [kX12 h q1 q4 q5 q6 q7 q9 q10 q11 (upd (upd x 3 ((x 3) + 1)) 3 (((x 3) + 1) + 1)), aI y q1 60 ft, aI y q4 154 fr] H := hP
                  have hD : va_D A [kX12 h q1 q4 q5 q6 q7 q9 q10 q11 (upd (upd x 3 ((x 3) + 1)) 3 (((x 3) + 1) + 1)), aI y q1 60 ft, aI y q4 154 fr] := hD
                  have hs_18 : vp_in (((x 3) + 1) + 1) 61 := spot_next (by assumption) ht (put_lt e_v_13 c_15)
                  refine lv_goto (tgt := 26) hx hb dX12_put_125 (by decide) ?_
                  refine lv_iload hx hb dX12_put_26 (lv_at hl 0 rfl) ?_
                  refine lv_if_le (tgt := 128) hx hb dX12_put_28 (by decide) (fun c_19 => ?_) (fun c_19 => ?_)
                  · exact (by first | exact absurd c_19 (by decide : ¬ ((1 : Int32) ≤ 0)) | exact absurd (by decide : ¬ ((1 : Int32) ≤ 0)) c_19)
                  refine lv_aload_n hx hb dX12_put_31 rfl (lv_at hl 4 rfl) ?_
                  refine va_get (D := G) (ci := 10) (v := .int (((x 3) + 1) + 1)) (C := RX12) (T := TX12) (N := 15) hx hb hts i_X12 hown hK hP 0 rfl rfl 3 (by decide) (hts (.fieldLink RX12 122 "RelayTunerModel" "spot" "I") (by decide +kernel)) (fun _ h9 => h9) rfl dX12_put_32 ?_
                  refine lv_aload_n hx hb dX12_put_35 rfl (lv_at hl 4 rfl) ?_
                  refine va_get (D := G) (ci := 10) (v := .int (x 2)) (C := RX12) (T := TX12) (N := 15) hx hb hts i_X12 hown hK hP 0 rfl rfl 2 (by decide) (hts (.fieldLink RX12 115 "RelayTunerModel" "textSize" "I") (by decide +kernel)) (fun _ h9 => h9) rfl dX12_put_36 ?_
                  have J59_22 : ∀ (v_21 : Int32) (e_v_21 : v_21 = (if (x 2) ≤ (((x 3) + 1) + 1) then (-99999) else ((ft (tn (((x 3) + 1) + 1))) - 48))) (ls : Array Slot) (hl : lv_has ls 9 [(5, .int 1), (6, .int ((0 + (v_5 * 100)) + (v_13 * 10))), (0, .ref h), (1, .int a1), (3, .int a3), (4, .int a4)]), W p l e (headSpec wsX12_put rmX12_put_3).room s m ([.ref h, .int a1, .int 3, .int a3, .int a4] : List Value).toArray below meth c H locs 0 0 QQ (F0 m 59 ls [.int v_21]) := by
                    intro v_21 e_v_21 ls hl
                    refine lv_istore (lv' := [(7, .int v_21), (5, .int 1), (6, .int ((0 + (v_5 * 100)) + (v_13 * 10))), (0, .ref h), (1, .int a1), (3, .int a3), (4, .int a4)]) hx hb dX12_put_59 hl (by decide) rfl (fun ls hl => ?_)
                    refine lv_iload hx hb dX12_put_61 (lv_at hl 2 rfl) ?_
                    refine lv_iload hx hb dX12_put_63 (lv_at hl 0 rfl) ?_
                    refine lv_iload hx hb dX12_put_65 (lv_at hl 1 rfl) ?_
                    refine lv_imul hx hb dX12_put_67 ?_
                    refine lv_iadd hx hb dX12_put_68 ?_
                    refine lv_istore (lv' := [(8, .int (((0 + (v_5 * 100)) + (v_13 * 10)) + (v_21 * 1))), (7, .int v_21), (5, .int 1), (6, .int ((0 + (v_5 * 100)) + (v_13 * 10))), (0, .ref h), (1, .int a1), (3, .int a3), (4, .int a4)]) hx hb dX12_put_69 hl (by decide) rfl (fun ls hl => ?_)
                    refine lv_iload hx hb dX12_put_71 (lv_at hl 1 rfl) ?_
                    refine lv_i2l (v := v_21.toInt64) hx hb dX12_put_73 rfl ?_
                    refine lv_lconst (v := 0) hx hb dX12_put_74 rfl ?_
                    refine lv_ldc2 (v := 9) hx hb hown (hts (.constantLong RX12 125 9) (by decide +kernel)) dX12_put_75 ?_
                    refine cl_Ri (va_runS (As := [.long v_21.toInt64, .long 0, .long 9]) (rest := []) ⟨hx, hb, hml, hown, hts⟩ (c_X12_in l G y v_21.toInt64 0 9) (va_cwS 3 hts gX12_put_X12_in rfl rfl rfl (by decide +kernel) ⟨Nat.le_of_ble_eq_true rfl, Nat.le_of_ble_eq_true rfl⟩) (PR_S pnil hK hN) rfl rfl hl.1 rfl (lv_room (Nat.le_of_ble_eq_true rfl)) dX12_put_78 ⟨Nat.le_of_ble_eq_true rfl, Nat.le_of_ble_eq_true rfl⟩) ?_
                    refine lv_if_eq (tgt := 102) hx hb dX12_put_81 (by decide) (fun c_23 => ?_) (fun c_23 => ?_)
                    · refine lv_iconst (v := 0) hx hb dX12_put_102 (by decide) ?_
                      rw [hQQ]
                      exact W.zret hx hb hr (nz_bool (Or.inl rfl)) (end_Hi () hP hD hS (by subst e_v_21; subst e_v_13; subst e_v_5; unfold s_X12_put_3_r; exact ((if_neg c_7).trans ((if_neg c_8).trans ((if_pos c_9).trans ((if_neg c_15).trans ((if_neg c_16).trans ((if_pos c_17).trans (if_pos c_23))))))).symm) (congr (congrArg (fun (z0 : Nat → Int32) (z2 : Nat → Int32) => [kX12 h q1 q4 q5 q6 q7 q9 q10 q11 z0, aI y q1 60 ft, aI y q4 154 z2]) (by subst e_v_21; subst e_v_13; subst e_v_5; unfold s_X12_put_3_w0; exact ((if_neg c_7).trans ((if_neg c_8).trans ((if_pos c_9).trans ((if_neg c_15).trans ((if_neg c_16).trans ((if_pos c_17).trans (if_pos c_23))))))).symm)) (by subst e_v_21; subst e_v_13; subst e_v_5; unfold s_X12_put_3_w2; exact ((if_neg c_7).trans ((if_neg c_8).trans ((if_pos c_9).trans ((if_neg c_15).trans ((if_neg c_16).trans ((if_pos c_17).trans (if_pos c_23))))))).symm))) hS.2.2 dX12_put_103
                    · refine lv_iload hx hb dX12_put_84 (lv_at hl 0 rfl) ?_
                      refine lv_iload hx hb dX12_put_86 (lv_at hl 7 rfl) ?_
                      refine lv_icmp_gt (tgt := 102) hx hb dX12_put_88 (by decide) (fun c_24 => ?_) (fun c_24 => ?_)
                      · refine lv_iconst (v := 0) hx hb dX12_put_102 (by decide) ?_
                        rw [hQQ]
                        exact W.zret hx hb hr (nz_bool (Or.inl rfl)) (end_Hi () hP hD hS (by subst e_v_21; subst e_v_13; subst e_v_5; unfold s_X12_put_3_r; exact ((if_neg c_7).trans ((if_neg c_8).trans ((if_pos c_9).trans ((if_neg c_15).trans ((if_neg c_16).trans ((if_pos c_17).trans ((if_neg c_23).trans (if_pos c_24)))))))).symm) (congr (congrArg (fun (z0 : Nat → Int32) (z2 : Nat → Int32) => [kX12 h q1 q4 q5 q6 q7 q9 q10 q11 z0, aI y q1 60 ft, aI y q4 154 z2]) (by subst e_v_21; subst e_v_13; subst e_v_5; unfold s_X12_put_3_w0; exact ((if_neg c_7).trans ((if_neg c_8).trans ((if_pos c_9).trans ((if_neg c_15).trans ((if_neg c_16).trans ((if_pos c_17).trans ((if_neg c_23).trans (if_pos c_24)))))))).symm)) (by subst e_v_21; subst e_v_13; subst e_v_5; unfold s_X12_put_3_w2; exact ((if_neg c_7).trans ((if_neg c_8).trans ((if_pos c_9).trans ((if_neg c_15).trans ((if_neg c_16).trans ((if_pos c_17).trans ((if_neg c_23).trans (if_pos c_24)))))))).symm))) hS.2.2 dX12_put_103
                      · refine lv_iload hx hb dX12_put_91 (lv_at hl 0 rfl) ?_
                        refine lv_iload hx hb dX12_put_93 (lv_at hl 2 rfl) ?_
                        refine lv_iadd hx hb dX12_put_95 ?_
                        refine lv_iconst (v := 1) hx hb dX12_put_96 (by decide) ?_
                        refine lv_isub hx hb dX12_put_97 ?_
                        refine lv_iload_n hx hb dX12_put_98 rfl (lv_at hl 6 rfl) ?_
                        refine lv_icmp_ge (tgt := 104) hx hb dX12_put_99 (by decide) (fun c_25 => ?_) (fun c_25 => ?_)
                        · refine lv_iload hx hb dX12_put_104 (lv_at hl 0 rfl) ?_
                          refine lv_istore (lv' := [(6, .int (((0 + (v_5 * 100)) + (v_13 * 10)) + (v_21 * 1))), (8, .int (((0 + (v_5 * 100)) + (v_13 * 10)) + (v_21 * 1))), (7, .int v_21), (5, .int 1), (0, .ref h), (1, .int a1), (3, .int a3), (4, .int a4)]) hx hb dX12_put_106 hl (by decide) rfl (fun ls hl => ?_)
                          refine lv_iload hx hb dX12_put_108 (lv_at hl 3 rfl) ?_
                          refine lv_bipush (v := 10) hx hb dX12_put_110 (by decide) ?_
                          refine lv_idiv hx hb dX12_put_112 (by decide) ?_
                          refine rw_i (x' := 0) (by decide) ?_
                          refine lv_istore (lv' := [(5, .int 0), (6, .int (((0 + (v_5 * 100)) + (v_13 * 10)) + (v_21 * 1))), (8, .int (((0 + (v_5 * 100)) + (v_13 * 10)) + (v_21 * 1))), (7, .int v_21), (0, .ref h), (1, .int a1), (3, .int a3), (4, .int a4)]) hx hb dX12_put_113 hl (by decide) rfl (fun ls hl => ?_)
                          refine lv_aload_n hx hb dX12_put_115 rfl (lv_at hl 4 rfl) ?_
                          refine lv_dup hx hb dX12_put_116 rfl ?_
                          refine va_get (D := G) (ci := 10) (v := .int (((x 3) + 1) + 1)) (C := RX12) (T := TX12) (N := 15) hx hb hts i_X12 hown hK hP 0 rfl rfl 3 (by decide) (hts (.fieldLink RX12 122 "RelayTunerModel" "spot" "I") (by decide +kernel)) (fun _ h9 => h9) rfl dX12_put_117 ?_
                          refine lv_iconst (v := 1) hx hb dX12_put_120 (by decide) ?_
                          refine lv_iadd hx hb dX12_put_121 ?_
                          refine va_put (D := G) (ci := 10) (v := .int ((((x 3) + 1) + 1) + 1)) (ty := .int) (C := RX12) (T := TX12) (N := 15) hx hb hts i_X12 tyX12 tyX12_ok nmX12 hown hK hP hD hS 0 rfl rfl 3 (by decide) (hts (.fieldLink RX12 122 "RelayTunerModel" "spot" "I") (by decide +kernel)) (fun _ h9 => h9) rfl (by decide +kernel) rfl rfl (Nat.le_of_ble_eq_true rfl) dX12_put_122 (fun H locs hP hD hS => ?_)
                          have hP : va_P G vwCl [kX12 h q1 q4 q5 q6 q7 q9 q10 q11 (upd (upd (upd x 3 ((x 3) + 1)) 3 (((x 3) + 1) + 1)) 3 ((((x 3) + 1) + 1) + 1)), aI y q1 60 ft, aI y q4 154 fr] H := hP
                          have hD : va_D A [kX12 h q1 q4 q5 q6 q7 q9 q10 q11 (upd (upd (upd x 3 ((x 3) + 1)) 3 (((x 3) + 1) + 1)) 3 ((((x 3) + 1) + 1) + 1)), aI y q1 60 ft, aI y q4 154 fr] := hD
                          have hs_26 : vp_in ((((x 3) + 1) + 1) + 1) 61 := spot_next (by assumption) ht (put_lt e_v_21 c_23)
                          refine lv_goto (tgt := 26) hx hb dX12_put_125 (by decide) ?_
                          refine lv_iload hx hb dX12_put_26 (lv_at hl 0 rfl) ?_
                          refine lv_if_le (tgt := 128) hx hb dX12_put_28 (by decide) (fun c_27 => ?_) (fun c_27 => ?_)
                          rotate_left
                          · exact (by first | exact absurd c_27 (by decide : ((0 : Int32) ≤ 0)) | exact absurd (by decide : ((0 : Int32) ≤ 0)) c_27)
                          refine lv_aload_n hx hb dX12_put_128 rfl (lv_at hl 4 rfl) ?_
                          refine va_get (D := G) (ci := 10) (v := .ref q4) (C := RX12) (T := TX12) (N := 15) hx hb hts i_X12 hown hK hP 0 rfl rfl 4 (by decide) (hts (.fieldLink RX12 13 "RelayTunerModel" "read" "[I") (by decide +kernel)) (fun _ h9 => h9) rfl dX12_put_129 ?_
                          refine lv_iload_n hx hb dX12_put_132 rfl (lv_at hl 5 rfl) ?_
                          refine lv_iload hx hb dX12_put_133 (lv_at hl 1 rfl) ?_
                          refine as_i (D := G) (n := 154) (f := fr) hx hb hK hP hD hS 2 0 rfl rfl pl ha hpl (by first | decide | omega) dX12_put_135 (fun H locs hP hD hS => ?_)
                          have hP : va_P G vwCl [kX12 h q1 q4 q5 q6 q7 q9 q10 q11 (upd (upd (upd x 3 ((x 3) + 1)) 3 (((x 3) + 1) + 1)) 3 ((((x 3) + 1) + 1) + 1)), aI y q1 60 ft, aI y q4 154 (upd fr pl (((0 + (v_5 * 100)) + (v_13 * 10)) + (v_21 * 1)))] H := hP
                          have hD : va_D A [kX12 h q1 q4 q5 q6 q7 q9 q10 q11 (upd (upd (upd x 3 ((x 3) + 1)) 3 (((x 3) + 1) + 1)) 3 ((((x 3) + 1) + 1) + 1)), aI y q1 60 ft, aI y q4 154 (upd fr pl (((0 + (v_5 * 100)) + (v_13 * 10)) + (v_21 * 1)))] := hD
                          refine lv_iconst (v := 1) hx hb dX12_put_136 (by decide) ?_
                          rw [hQQ]
                          exact W.zret hx hb hr (nz_bool (Or.inr rfl)) (end_Hi () hP hD hS (by subst e_v_21; subst e_v_13; subst e_v_5; unfold s_X12_put_3_r; exact ((if_neg c_7).trans ((if_neg c_8).trans ((if_pos c_9).trans ((if_neg c_15).trans ((if_neg c_16).trans ((if_pos c_17).trans ((if_neg c_23).trans ((if_neg c_24).trans (if_pos c_25))))))))).symm) (congr (congrArg (fun (z0 : Nat → Int32) (z2 : Nat → Int32) => [kX12 h q1 q4 q5 q6 q7 q9 q10 q11 z0, aI y q1 60 ft, aI y q4 154 z2]) (by subst e_v_21; subst e_v_13; subst e_v_5; unfold s_X12_put_3_w0; exact ((if_neg c_7).trans ((if_neg c_8).trans ((if_pos c_9).trans ((if_neg c_15).trans ((if_neg c_16).trans ((if_pos c_17).trans ((if_neg c_23).trans ((if_neg c_24).trans (if_pos c_25))))))))).symm)) (by subst e_v_21; subst e_v_13; subst e_v_5; unfold s_X12_put_3_w2; exact ((if_neg c_7).trans ((if_neg c_8).trans ((if_pos c_9).trans ((if_neg c_15).trans ((if_neg c_16).trans ((if_pos c_17).trans ((if_neg c_23).trans ((if_neg c_24).trans (if_pos c_25))))))))).symm))) hS.2.2 dX12_put_137
                        · refine lv_iconst (v := 0) hx hb dX12_put_102 (by decide) ?_
                          rw [hQQ]
                          exact W.zret hx hb hr (nz_bool (Or.inl rfl)) (end_Hi () hP hD hS (by subst e_v_21; subst e_v_13; subst e_v_5; unfold s_X12_put_3_r; exact ((if_neg c_7).trans ((if_neg c_8).trans ((if_pos c_9).trans ((if_neg c_15).trans ((if_neg c_16).trans ((if_pos c_17).trans ((if_neg c_23).trans ((if_neg c_24).trans (if_neg c_25))))))))).symm) (congr (congrArg (fun (z0 : Nat → Int32) (z2 : Nat → Int32) => [kX12 h q1 q4 q5 q6 q7 q9 q10 q11 z0, aI y q1 60 ft, aI y q4 154 z2]) (by subst e_v_21; subst e_v_13; subst e_v_5; unfold s_X12_put_3_w0; exact ((if_neg c_7).trans ((if_neg c_8).trans ((if_pos c_9).trans ((if_neg c_15).trans ((if_neg c_16).trans ((if_pos c_17).trans ((if_neg c_23).trans ((if_neg c_24).trans (if_neg c_25))))))))).symm)) (by subst e_v_21; subst e_v_13; subst e_v_5; unfold s_X12_put_3_w2; exact ((if_neg c_7).trans ((if_neg c_8).trans ((if_pos c_9).trans ((if_neg c_15).trans ((if_neg c_16).trans ((if_pos c_17).trans ((if_neg c_23).trans ((if_neg c_24).trans (if_neg c_25))))))))).symm))) hS.2.2 dX12_put_103
                  refine lv_icmp_ge (tgt := 57) hx hb dX12_put_39 (by decide) (fun c_20 => ?_) (fun c_20 => ?_)
                  · refine lv_ldc (v := (-99999)) hx hb hown (hts (.constant RX12 74 (-99999)) (by decide +kernel)) dX12_put_57 ?_
                    exact J59_22 _ (if_pos c_20).symm ls (lv_sub hl [0, 1, 4, 5, 6, 7] rfl)
                  · refine lv_aload_n hx hb dX12_put_42 rfl (lv_at hl 4 rfl) ?_
                    refine va_get (D := G) (ci := 10) (v := .ref q1) (C := RX12) (T := TX12) (N := 15) hx hb hts i_X12 hown hK hP 0 rfl rfl 1 (by decide) (hts (.fieldLink RX12 7 "RelayTunerModel" "text" "[I") (by decide +kernel)) (fun _ h9 => h9) rfl dX12_put_43 ?_
                    refine lv_aload_n hx hb dX12_put_46 rfl (lv_at hl 4 rfl) ?_
                    refine va_get (D := G) (ci := 10) (v := .int (((x 3) + 1) + 1)) (C := RX12) (T := TX12) (N := 15) hx hb hts i_X12 hown hK hP 0 rfl rfl 3 (by decide) (hts (.fieldLink RX12 122 "RelayTunerModel" "spot" "I") (by decide +kernel)) (fun _ h9 => h9) rfl dX12_put_47 ?_
                    refine al_i (D := G) (n := 60) (f := ft) hx hb hK hP 1 0 rfl rfl (tn (((x 3) + 1) + 1)) (spot_in (by assumption) (by assumption) c_20).1 (spot_in (by assumption) (by assumption) c_20).2 (by first | decide | omega) dX12_put_50 ?_
                    refine lv_bipush (v := 48) hx hb dX12_put_51 (by decide) ?_
                    refine lv_isub hx hb dX12_put_53 ?_
                    refine lv_goto (tgt := 59) hx hb dX12_put_54 (by decide) ?_
                    exact J59_22 _ (if_neg c_20).symm ls (lv_sub hl [0, 1, 4, 5, 6, 7] rfl)
                · refine lv_iconst (v := 0) hx hb dX12_put_102 (by decide) ?_
                  rw [hQQ]
                  exact W.zret hx hb hr (nz_bool (Or.inl rfl)) (end_Hi () hP hD hS (by subst e_v_13; subst e_v_5; unfold s_X12_put_3_r; exact ((if_neg c_7).trans ((if_neg c_8).trans ((if_pos c_9).trans ((if_neg c_15).trans ((if_neg c_16).trans (if_neg c_17)))))).symm) (congr (congrArg (fun (z0 : Nat → Int32) (z2 : Nat → Int32) => [kX12 h q1 q4 q5 q6 q7 q9 q10 q11 z0, aI y q1 60 ft, aI y q4 154 z2]) (by subst e_v_13; subst e_v_5; unfold s_X12_put_3_w0; exact ((if_neg c_7).trans ((if_neg c_8).trans ((if_pos c_9).trans ((if_neg c_15).trans ((if_neg c_16).trans (if_neg c_17)))))).symm)) (by subst e_v_13; subst e_v_5; unfold s_X12_put_3_w2; exact ((if_neg c_7).trans ((if_neg c_8).trans ((if_pos c_9).trans ((if_neg c_15).trans ((if_neg c_16).trans (if_neg c_17)))))).symm))) hS.2.2 dX12_put_103
          refine lv_icmp_ge (tgt := 57) hx hb dX12_put_39 (by decide) (fun c_12 => ?_) (fun c_12 => ?_)
          · refine lv_ldc (v := (-99999)) hx hb hown (hts (.constant RX12 74 (-99999)) (by decide +kernel)) dX12_put_57 ?_
            exact J59_14 _ (if_pos c_12).symm ls (lv_sub hl [0, 1, 4, 5, 6, 7] rfl)
          · refine lv_aload_n hx hb dX12_put_42 rfl (lv_at hl 4 rfl) ?_
            refine va_get (D := G) (ci := 10) (v := .ref q1) (C := RX12) (T := TX12) (N := 15) hx hb hts i_X12 hown hK hP 0 rfl rfl 1 (by decide) (hts (.fieldLink RX12 7 "RelayTunerModel" "text" "[I") (by decide +kernel)) (fun _ h9 => h9) rfl dX12_put_43 ?_
            refine lv_aload_n hx hb dX12_put_46 rfl (lv_at hl 4 rfl) ?_
            refine va_get (D := G) (ci := 10) (v := .int ((x 3) + 1)) (C := RX12) (T := TX12) (N := 15) hx hb hts i_X12 hown hK hP 0 rfl rfl 3 (by decide) (hts (.fieldLink RX12 122 "RelayTunerModel" "spot" "I") (by decide +kernel)) (fun _ h9 => h9) rfl dX12_put_47 ?_
            refine al_i (D := G) (n := 60) (f := ft) hx hb hK hP 1 0 rfl rfl (tn ((x 3) + 1)) (spot_in (by assumption) (by assumption) c_12).1 (spot_in (by assumption) (by assumption) c_12).2 (by first | decide | omega) dX12_put_50 ?_
            refine lv_bipush (v := 48) hx hb dX12_put_51 (by decide) ?_
            refine lv_isub hx hb dX12_put_53 ?_
            refine lv_goto (tgt := 59) hx hb dX12_put_54 (by decide) ?_
            exact J59_14 _ (if_neg c_12).symm ls (lv_sub hl [0, 1, 4, 5, 6, 7] rfl)
        · refine lv_iconst (v := 0) hx hb dX12_put_102 (by decide) ?_
          rw [hQQ]
          exact W.zret hx hb hr (nz_bool (Or.inl rfl)) (end_Hi () hP hD hS (by subst e_v_5; unfold s_X12_put_3_r; exact ((if_neg c_7).trans ((if_neg c_8).trans (if_neg c_9))).symm) (congr (congrArg (fun (z0 : Nat → Int32) (z2 : Nat → Int32) => [kX12 h q1 q4 q5 q6 q7 q9 q10 q11 z0, aI y q1 60 ft, aI y q4 154 z2]) (by subst e_v_5; unfold s_X12_put_3_w0; exact ((if_neg c_7).trans ((if_neg c_8).trans (if_neg c_9))).symm)) (by subst e_v_5; unfold s_X12_put_3_w2; exact ((if_neg c_7).trans ((if_neg c_8).trans (if_neg c_9))).symm))) hS.2.2 dX12_put_103
  refine lv_icmp_ge (tgt := 57) hx hb dX12_put_39 (by decide) (fun c_4 => ?_) (fun c_4 => ?_)
  · refine lv_ldc (v := (-99999)) hx hb hown (hts (.constant RX12 74 (-99999)) (by decide +kernel)) dX12_put_57 ?_
    exact J59_6 _ (if_pos c_4).symm ls (lv_sub hl [0, 1, 2, 3, 5, 6] rfl)
  · refine lv_aload_n hx hb dX12_put_42 rfl (lv_at hl 2 rfl) ?_
    refine va_get (D := G) (ci := 10) (v := .ref q1) (C := RX12) (T := TX12) (N := 15) hx hb hts i_X12 hown hK hP 0 rfl rfl 1 (by decide) (hts (.fieldLink RX12 7 "RelayTunerModel" "text" "[I") (by decide +kernel)) (fun _ h9 => h9) rfl dX12_put_43 ?_
    refine lv_aload_n hx hb dX12_put_46 rfl (lv_at hl 2 rfl) ?_
    refine va_get (D := G) (ci := 10) (v := .int (x 3)) (C := RX12) (T := TX12) (N := 15) hx hb hts i_X12 hown hK hP 0 rfl rfl 3 (by decide) (hts (.fieldLink RX12 122 "RelayTunerModel" "spot" "I") (by decide +kernel)) (fun _ h9 => h9) rfl dX12_put_47 ?_
    refine al_i (D := G) (n := 60) (f := ft) hx hb hK hP 1 0 rfl rfl (tn (x 3)) (spot_in (by assumption) (by assumption) c_4).1 (spot_in (by assumption) (by assumption) c_4).2 (by first | decide | omega) dX12_put_50 ?_
    refine lv_bipush (v := 48) hx hb dX12_put_51 (by decide) ?_
    refine lv_isub hx hb dX12_put_53 ?_
    refine lv_goto (tgt := 59) hx hb dX12_put_54 (by decide) ?_
    exact J59_6 _ (if_neg c_4).symm ls (lv_sub hl [0, 1, 2, 3, 5, 6] rfl)

theorem put3_2e {a b : Int32} {x ft : Nat → Int32} : s_X12_put_3_w0 a b x ft 2 = x 2 := by
  unfold s_X12_put_3_w0
  exact (ite_P (P := fun z : Nat → Int32 => z 2 = x 2) (fun _ => rfl) (fun c0 => ite_P (P := fun z : Nat → Int32 => z 2 = x 2) (fun _ => rfl) (fun _ => ite_P (P := fun z : Nat → Int32 => z 2 = x 2) (fun _ => (ite_P (P := fun z : Nat → Int32 => z 2 = x 2) (fun _ => rfl) (fun c1 => ite_P (P := fun z : Nat → Int32 => z 2 = x 2) (fun _ => rfl) (fun _ => ite_P (P := fun z : Nat → Int32 => z 2 = x 2) (fun _ => (ite_P (P := fun z : Nat → Int32 => z 2 = x 2) (fun _ => rfl) (fun c2 => ite_P (P := fun z : Nat → Int32 => z 2 = x 2) (fun _ => rfl) (fun _ => ite_P (P := fun z : Nat → Int32 => z 2 = x 2) (fun _ => rfl) (fun _ => rfl))))) (fun _ => rfl))))) (fun _ => rfl))))
theorem put3_2 {a b : Int32} {x ft : Nat → Int32} (h : vp_in (x 2) 61) : vp_in (s_X12_put_3_w0 a b x ft 2) 61 := by rw [put3_2e]; exact h
theorem put3_3 {a b : Int32} {x ft : Nat → Int32} (ht : vp_in (x 2) 61) (h : vp_in (x 3) 61) : vp_in (s_X12_put_3_w0 a b x ft 3) 61 := by
  unfold s_X12_put_3_w0
  exact (ite_P (P := fun z : Nat → Int32 => vp_in (z 3) 61) (fun _ => h) (fun c0 => have h1 := spot_next h ht (put_lt rfl c0); ite_P (P := fun z : Nat → Int32 => vp_in (z 3) 61) (fun _ => h) (fun _ => ite_P (P := fun z : Nat → Int32 => vp_in (z 3) 61) (fun _ => (ite_P (P := fun z : Nat → Int32 => vp_in (z 3) 61) (fun _ => (by rw [pk_us]; exact h1)) (fun c1 => have h2 := spot_next h1 ht (put_lt rfl c1); ite_P (P := fun z : Nat → Int32 => vp_in (z 3) 61) (fun _ => (by rw [pk_us]; exact h1)) (fun _ => ite_P (P := fun z : Nat → Int32 => vp_in (z 3) 61) (fun _ => (ite_P (P := fun z : Nat → Int32 => vp_in (z 3) 61) (fun _ => (by rw [pk_us]; exact h2)) (fun c2 => have h3 := spot_next h2 ht (put_lt rfl c2); ite_P (P := fun z : Nat → Int32 => vp_in (z 3) 61) (fun _ => (by rw [pk_us]; exact h2)) (fun _ => ite_P (P := fun z : Nat → Int32 => vp_in (z 3) 61) (fun _ => (by rw [pk_us]; exact h3)) (fun _ => (by rw [pk_us]; exact h2)))))) (fun _ => (by rw [pk_us]; exact h1)))))) (fun _ => h))))

def s_X12_readAmbient_r (x : Nat → Int32) (ft : Nat → Int32) : Int32 := (let v_1 : Nat → Int32 := (s_X12_eat_w0 45 x ft); (let v_2 : Int32 := (s_X12_eat_r 45 x ft); (if v_2 = 0 then (let v_13 : Nat → Int32 := (s_X12_eat_w0 43 v_1 ft); (let v_14 : Int32 := (s_X12_eat_r 43 v_1 ft); (if v_14 = 0 then 0 else (let v_20 : Int32 := (s_X12_put_2_r 0 99 v_13 ft); (if v_20 = 0 then 0 else 1))))) else (let v_8 : Int32 := (s_X12_put_2_r 0 99 v_1 ft); (if v_8 = 0 then 0 else 1)))))
def s_X12_readAmbient_w0 (x : Nat → Int32) (ft : Nat → Int32) : Nat → Int32 := (let v_1 : Nat → Int32 := (s_X12_eat_w0 45 x ft); (let v_2 : Int32 := (s_X12_eat_r 45 x ft); (if v_2 = 0 then (let v_13 : Nat → Int32 := (s_X12_eat_w0 43 v_1 ft); (let v_14 : Int32 := (s_X12_eat_r 43 v_1 ft); (if v_14 = 0 then v_13 else (let v_18 : Nat → Int32 := (s_X12_put_2_w0 0 99 v_13 ft); v_18)))) else (let v_6 : Nat → Int32 := (s_X12_put_2_w0 0 99 v_1 ft); v_6))))
def s_X12_readAmbient_w2 (x : Nat → Int32) (ft : Nat → Int32) (fr : Nat → Int32) : Nat → Int32 := (let v_1 : Nat → Int32 := (s_X12_eat_w0 45 x ft); (let v_2 : Int32 := (s_X12_eat_r 45 x ft); (if v_2 = 0 then (let v_13 : Nat → Int32 := (s_X12_eat_w0 43 v_1 ft); (let v_14 : Int32 := (s_X12_eat_r 43 v_1 ft); (if v_14 = 0 then fr else (let v_19 : Nat → Int32 := (s_X12_put_2_w2 0 99 v_13 ft fr 3); (let v_20 : Int32 := (s_X12_put_2_r 0 99 v_13 ft); (if v_20 = 0 then v_19 else (upd v_19 3 (v_19 3)))))))) else (let v_7 : Nat → Int32 := (s_X12_put_2_w2 0 99 v_1 ft fr 3); (let v_8 : Int32 := (s_X12_put_2_r 0 99 v_1 ft); (if v_8 = 0 then v_7 else (upd v_7 3 (-(v_7 3)))))))))
theorem z_X12_readAmbient (x : Nat → Int32) (ft : Nat → Int32) : s_X12_readAmbient_r x ft = 0 ∨ s_X12_readAmbient_r x ft = 1 := by unfold s_X12_readAmbient_r; (try dsimp only); exact (z_ite (z_ite (Or.inl rfl) (z_ite (Or.inl rfl) (Or.inr rfl))) (z_ite (Or.inl rfl) (Or.inr rfl)))
abbrev rmX12_readAmbient : Room := ({ frames := 2, cells := 0, slots := 0, locals := 53 } : Room)
set_option maxHeartbeats 4000000 in
set_option maxRecDepth 100000 in
theorem c_X12_readAmbient (l : Launch) (G : va_G) (y : Nat → ClassId) (h : Nat) (q1 : Nat) (q4 : Nat) (q5 : Nat) (q6 : Nat) (q7 : Nat) (q9 : Nat) (q10 : Nat) (q11 : Nat) (x : Nat → Int32) (ft : Nat → Int32) (fr : Nat → Int32) (sz : Nat) (ht : vp_in (x 2) 61) (hs : vp_in (x 3) 61) : Met l yX12_readAmbient wsX12_readAmbient rmX12_readAmbient (PH G y [.ref h] [kX12 h q1 q4 q5 q6 q7 q9 q10 q11 x, aI y q1 60 ft, aI y q4 154 fr] sz) (QHi G (s_X12_readAmbient_r x ft) (fun _ : Unit => [kX12 h q1 q4 q5 q6 q7 q9 q10 q11 (s_X12_readAmbient_w0 x ft), aI y q1 60 ft, aI y q4 154 (s_X12_readAmbient_w2 x ft fr)]) (va_A [kX12 h q1 q4 q5 q6 q7 q9 q10 q11 x, aI y q1 60 ft, aI y q4 154 fr] sz)) 0 0 (va_A [kX12 h q1 q4 q5 q6 q7 q9 q10 q11 x, aI y q1 60 ft, aI y q4 154 fr] sz) := by
  refine Met.ofW (cc := cX12_readAmbient) (maxL := 2) (ret := (some .boolean)) (by decide) rfl ?_
  intro p e s m args below meth c s₁ B hml hv
  obtain ⟨rfl, hsz, hP, ⟨hK, hN⟩, hD0⟩ := hv
  have hx := B.exec
  have hb := B.bytes
  have hr := B.returns
  have hts := atoms_spec (ws := wsX12_readAmbient) B.pre
  have hown : s.vm.findClass RX12 = some m.cls := findClass_of_methodNamed B.named
  have hlocks := B.notSynchronized
  have i_X12 : ∀ w ∈ u_ws RX12 TX12 15, w ∈ wsX12_readAmbient := by decide +kernel
  subst hsz
  have hD := hD0.self (sz := s.heap.size)
  generalize hAe : va_A [kX12 h q1 q4 q5 q6 q7 q9 q10 q11 x, aI y q1 60 ft, aI y q4 154 fr] s.heap.size = A at hD ⊢
  have hA : ∀ q : Nat, s.heap.size ≤ q → A q := fun q h => by rw [← hAe]; exact Or.inr h
  have hS : va_S A s.heap s.heap [] := va_S.rf
  have hP : va_P G vwCl [kX12 h q1 q4 q5 q6 q7 q9 q10 q11 x, aI y q1 60 ft, aI y q4 154 fr] s.heap := hP
  have hl := lv_entry ([.ref h]) (n := 2) (Nat.le_of_ble_eq_true rfl)
  rw [lg_entry_eq]
  generalize (lg_sl ([.ref h]) ++ List.replicate (2 - (lg_sl ([.ref h])).length) Slot.unset).toArray = ls at hl ⊢
  have hl : lv_has ls 2 [(0, .ref h)] := hl
  refine lv_aload_n hx hb dX12_readAmbient_0 rfl (lv_at hl 0 rfl) ?_
  refine lv_bipush (v := 45) hx hb dX12_readAmbient_1 (by decide) ?_
  refine cl_Hi (wr := [aI y q4 154 fr]) (fun _ : Unit => [kX12 h q1 q4 q5 q6 q7 q9 q10 q11 (s_X12_eat_w0 45 x ft), aI y q1 60 ft, aI y q4 154 fr]) [0, 1] [2] [1, 2, 0] (va_runV (As := [.int 45]) (rest := []) ⟨hx, hb, hml, hown, hts⟩ (c_X12_eat l G y h 45 q1 q4 q5 q6 q7 q9 q10 q11 x ft s.heap.size ht hs) (cwV 1 hts gX12_readAmbient_X12_eat rfl rfl rfl (by decide +kernel) ⟨Nat.le_of_ble_eq_true rfl, Nat.le_of_ble_eq_true rfl⟩) (PH_V (hP.sub (ws' := [kX12 h q1 q4 q5 q6 q7 q9 q10 q11 x, aI y q1 60 ft]) [0, 1] rfl) hK hN (hD.sub (ws' := [kX12 h q1 q4 q5 q6 q7 q9 q10 q11 x, aI y q1 60 ft]) [0, 1] (by decide) rfl) (ci := 10) (q0 := 0) rfl rfl) rfl rfl hl.1 rfl (lv_room (Nat.le_of_ble_eq_true rfl)) dX12_readAmbient_3 ⟨Nat.le_of_ble_eq_true rfl, Nat.le_of_ble_eq_true rfl⟩) hP hD hS hA rfl rfl rfl (by decide) rfl (fun _ => rfl) (fun _ H locs hP hD hS => ?_)
  have hP : va_P G vwCl [kX12 h q1 q4 q5 q6 q7 q9 q10 q11 (s_X12_eat_w0 45 x ft), aI y q1 60 ft, aI y q4 154 fr] H := hP
  have hD : va_D A [kX12 h q1 q4 q5 q6 q7 q9 q10 q11 (s_X12_eat_w0 45 x ft), aI y q1 60 ft, aI y q4 154 fr] := hD
  obtain ⟨v_1, e_v_1⟩ : ∃ zq9 : Nat → Int32, zq9 = (s_X12_eat_w0 45 x ft) := ⟨_, rfl⟩
  have hP : va_P G vwCl [kX12 h q1 q4 q5 q6 q7 q9 q10 q11 v_1, aI y q1 60 ft, aI y q4 154 fr] H := by rw [e_v_1]; exact hP
  have hD : va_D A [kX12 h q1 q4 q5 q6 q7 q9 q10 q11 v_1, aI y q1 60 ft, aI y q4 154 fr] := by rw [e_v_1]; exact hD
  obtain ⟨v_2, e_v_2⟩ : ∃ zq9 : Int32, zq9 = (s_X12_eat_r 45 x ft) := ⟨_, rfl⟩
  refine rw_i (x' := v_2) e_v_2.symm ?_
  have hf_3 : vp_in (v_1 2) 61 := by rw [e_v_1]; exact (eat_2 ht)
  have hf_4 : vp_in (v_1 3) 61 := by rw [e_v_1]; exact (eat_3 ht hs)
  refine lv_istore_n (lv' := [(1, .int v_2), (0, .ref h)]) hx hb dX12_readAmbient_6 rfl hl (by decide) rfl (fun ls hl => ?_)
  refine lv_iload_n hx hb dX12_readAmbient_7 rfl (lv_at hl 0 rfl) ?_
  refine lv_if_ne (tgt := 20) hx hb dX12_readAmbient_8 (by decide) (fun c_5 => ?_) (fun c_5 => ?_)
  · refine lv_aload_n hx hb dX12_readAmbient_20 rfl (lv_at hl 1 rfl) ?_
    refine lv_iconst (v := 3) hx hb dX12_readAmbient_21 (by decide) ?_
    refine lv_iconst (v := 2) hx hb dX12_readAmbient_22 (by decide) ?_
    refine lv_iconst (v := 0) hx hb dX12_readAmbient_23 (by decide) ?_
    refine lv_bipush (v := 99) hx hb dX12_readAmbient_24 (by decide) ?_
    refine cl_Hi (wr := []) (fun _ : Unit => [kX12 h q1 q4 q5 q6 q7 q9 q10 q11 (s_X12_put_2_w0 0 99 v_1 ft), aI y q1 60 ft, aI y q4 154 (s_X12_put_2_w2 0 99 v_1 ft fr 3)]) [0, 1, 2] [] [0, 1, 2] (va_runV (As := [.int 3, .int 2, .int 0, .int 99]) (rest := []) ⟨hx, hb, hml, hown, hts⟩ (c_X12_put_2 l G y h 3 0 99 q1 q4 q5 q6 q7 q9 q10 q11 v_1 ft fr 3 H.size (by assumption) (by assumption) rfl (by decide)) (cwV 4 hts gX12_readAmbient_X12_put rfl rfl rfl (by decide +kernel) ⟨Nat.le_of_ble_eq_true rfl, Nat.le_of_ble_eq_true rfl⟩) (PH_V (hP.sub (ws' := [kX12 h q1 q4 q5 q6 q7 q9 q10 q11 v_1, aI y q1 60 ft, aI y q4 154 fr]) [0, 1, 2] rfl) hK hN (hD.sub (ws' := [kX12 h q1 q4 q5 q6 q7 q9 q10 q11 v_1, aI y q1 60 ft, aI y q4 154 fr]) [0, 1, 2] (by decide) rfl) (ci := 10) (q0 := 0) rfl rfl) rfl rfl hl.1 rfl (lv_room (Nat.le_of_ble_eq_true rfl)) dX12_readAmbient_26 ⟨Nat.le_of_ble_eq_true rfl, Nat.le_of_ble_eq_true rfl⟩) hP hD hS hA rfl rfl rfl (by decide) rfl (fun _ => rfl) (fun _ H locs hP hD hS => ?_)
    have hP : va_P G vwCl [kX12 h q1 q4 q5 q6 q7 q9 q10 q11 (s_X12_put_2_w0 0 99 v_1 ft), aI y q1 60 ft, aI y q4 154 (s_X12_put_2_w2 0 99 v_1 ft fr 3)] H := hP
    have hD : va_D A [kX12 h q1 q4 q5 q6 q7 q9 q10 q11 (s_X12_put_2_w0 0 99 v_1 ft), aI y q1 60 ft, aI y q4 154 (s_X12_put_2_w2 0 99 v_1 ft fr 3)] := hD
    obtain ⟨v_6, e_v_6⟩ : ∃ zq9 : Nat → Int32, zq9 = (s_X12_put_2_w0 0 99 v_1 ft) := ⟨_, rfl⟩
    obtain ⟨v_7, e_v_7⟩ : ∃ zq9 : Nat → Int32, zq9 = (s_X12_put_2_w2 0 99 v_1 ft fr 3) := ⟨_, rfl⟩
    have hP : va_P G vwCl [kX12 h q1 q4 q5 q6 q7 q9 q10 q11 v_6, aI y q1 60 ft, aI y q4 154 v_7] H := by rw [e_v_6, e_v_7]; exact hP
    have hD : va_D A [kX12 h q1 q4 q5 q6 q7 q9 q10 q11 v_6, aI y q1 60 ft, aI y q4 154 v_7] := by rw [e_v_6, e_v_7]; exact hD
    obtain ⟨v_8, e_v_8⟩ : ∃ zq9 : Int32, zq9 = (s_X12_put_2_r 0 99 v_1 ft) := ⟨_, rfl⟩
    refine rw_i (x' := v_8) e_v_8.symm ?_
    have hf_9 : vp_in (v_6 2) 61 := by rw [e_v_6]; exact (put2_2 (by assumption))
    have hf_10 : vp_in (v_6 3) 61 := by rw [e_v_6]; exact (put2_3 (by assumption) (by assumption))
    refine lv_if_ne (tgt := 34) hx hb dX12_readAmbient_29 (by decide) (fun c_11 => ?_) (fun c_11 => ?_)
    · refine lv_aload_n hx hb dX12_readAmbient_34 rfl (lv_at hl 1 rfl) ?_
      refine va_get (D := G) (ci := 10) (v := .ref q4) (C := RX12) (T := TX12) (N := 15) hx hb hts i_X12 hown hK hP 0 rfl rfl 4 (by decide) (hts (.fieldLink RX12 13 "RelayTunerModel" "read" "[I") (by decide +kernel)) (fun _ h9 => h9) rfl dX12_readAmbient_35 ?_
      refine lv_iconst (v := 3) hx hb dX12_readAmbient_38 (by decide) ?_
      refine lv_iload_n hx hb dX12_readAmbient_39 rfl (lv_at hl 0 rfl) ?_
      refine lv_if_eq (tgt := 53) hx hb dX12_readAmbient_40 (by decide) (fun c_12 => ?_) (fun c_12 => ?_)
      · exact (by first | exact absurd c_12 c_5 | exact absurd c_5 c_12)
      refine lv_aload_n hx hb dX12_readAmbient_43 rfl (lv_at hl 1 rfl) ?_
      refine va_get (D := G) (ci := 10) (v := .ref q4) (C := RX12) (T := TX12) (N := 15) hx hb hts i_X12 hown hK hP 0 rfl rfl 4 (by decide) (hts (.fieldLink RX12 13 "RelayTunerModel" "read" "[I") (by decide +kernel)) (fun _ h9 => h9) rfl dX12_readAmbient_44 ?_
      refine lv_iconst (v := 3) hx hb dX12_readAmbient_47 (by decide) ?_
      refine al_i (D := G) (n := 154) (f := v_7) hx hb hK hP 2 0 rfl rfl 3 rfl (by decide) (by first | decide | omega) dX12_readAmbient_48 ?_
      refine lv_ineg hx hb dX12_readAmbient_49 ?_
      refine lv_goto (tgt := 59) hx hb dX12_readAmbient_50 (by decide) ?_
      refine as_i (D := G) (n := 154) (f := v_7) hx hb hK hP hD hS 2 0 rfl rfl 3 rfl (by decide) (by first | decide | omega) dX12_readAmbient_59 (fun H locs hP hD hS => ?_)
      have hP : va_P G vwCl [kX12 h q1 q4 q5 q6 q7 q9 q10 q11 v_6, aI y q1 60 ft, aI y q4 154 (upd v_7 3 (-(v_7 3)))] H := hP
      have hD : va_D A [kX12 h q1 q4 q5 q6 q7 q9 q10 q11 v_6, aI y q1 60 ft, aI y q4 154 (upd v_7 3 (-(v_7 3)))] := hD
      refine lv_iconst (v := 1) hx hb dX12_readAmbient_60 (by decide) ?_
      exact W.zret hx hb hr (nz_bool (Or.inr rfl)) (end_Hi () hP hD hS (by subst e_v_8; subst e_v_7; subst e_v_6; subst e_v_2; subst e_v_1; unfold s_X12_readAmbient_r; exact ((if_neg c_5).trans (if_neg c_11)).symm) (congr (congrArg (fun (z0 : Nat → Int32) (z2 : Nat → Int32) => [kX12 h q1 q4 q5 q6 q7 q9 q10 q11 z0, aI y q1 60 ft, aI y q4 154 z2]) (by subst e_v_8; subst e_v_7; subst e_v_6; subst e_v_2; subst e_v_1; unfold s_X12_readAmbient_w0; exact (if_neg c_5).symm)) (by subst e_v_8; subst e_v_7; subst e_v_6; subst e_v_2; subst e_v_1; unfold s_X12_readAmbient_w2; exact ((if_neg c_5).trans (if_neg c_11)).symm))) hS.2.2 dX12_readAmbient_61
    · refine lv_iconst (v := 0) hx hb dX12_readAmbient_32 (by decide) ?_
      exact W.zret hx hb hr (nz_bool (Or.inl rfl)) (end_Hi () hP hD hS (by subst e_v_8; subst e_v_7; subst e_v_6; subst e_v_2; subst e_v_1; unfold s_X12_readAmbient_r; exact ((if_neg c_5).trans (if_pos c_11)).symm) (congr (congrArg (fun (z0 : Nat → Int32) (z2 : Nat → Int32) => [kX12 h q1 q4 q5 q6 q7 q9 q10 q11 z0, aI y q1 60 ft, aI y q4 154 z2]) (by subst e_v_8; subst e_v_7; subst e_v_6; subst e_v_2; subst e_v_1; unfold s_X12_readAmbient_w0; exact (if_neg c_5).symm)) (by subst e_v_8; subst e_v_7; subst e_v_6; subst e_v_2; subst e_v_1; unfold s_X12_readAmbient_w2; exact ((if_neg c_5).trans (if_pos c_11)).symm))) hS.2.2 dX12_readAmbient_33
  · refine lv_aload_n hx hb dX12_readAmbient_11 rfl (lv_at hl 1 rfl) ?_
    refine lv_bipush (v := 43) hx hb dX12_readAmbient_12 (by decide) ?_
    refine cl_Hi (wr := [aI y q4 154 fr]) (fun _ : Unit => [kX12 h q1 q4 q5 q6 q7 q9 q10 q11 (s_X12_eat_w0 43 v_1 ft), aI y q1 60 ft, aI y q4 154 fr]) [0, 1] [2] [1, 2, 0] (va_runV (As := [.int 43]) (rest := []) ⟨hx, hb, hml, hown, hts⟩ (c_X12_eat l G y h 43 q1 q4 q5 q6 q7 q9 q10 q11 v_1 ft H.size (by assumption) (by assumption)) (cwV 1 hts gX12_readAmbient_X12_eat rfl rfl rfl (by decide +kernel) ⟨Nat.le_of_ble_eq_true rfl, Nat.le_of_ble_eq_true rfl⟩) (PH_V (hP.sub (ws' := [kX12 h q1 q4 q5 q6 q7 q9 q10 q11 v_1, aI y q1 60 ft]) [0, 1] rfl) hK hN (hD.sub (ws' := [kX12 h q1 q4 q5 q6 q7 q9 q10 q11 v_1, aI y q1 60 ft]) [0, 1] (by decide) rfl) (ci := 10) (q0 := 0) rfl rfl) rfl rfl hl.1 rfl (lv_room (Nat.le_of_ble_eq_true rfl)) dX12_readAmbient_14 ⟨Nat.le_of_ble_eq_true rfl, Nat.le_of_ble_eq_true rfl⟩) hP hD hS hA rfl rfl rfl (by decide) rfl (fun _ => rfl) (fun _ H locs hP hD hS => ?_)
    have hP : va_P G vwCl [kX12 h q1 q4 q5 q6 q7 q9 q10 q11 (s_X12_eat_w0 43 v_1 ft), aI y q1 60 ft, aI y q4 154 fr] H := hP
    have hD : va_D A [kX12 h q1 q4 q5 q6 q7 q9 q10 q11 (s_X12_eat_w0 43 v_1 ft), aI y q1 60 ft, aI y q4 154 fr] := hD
    obtain ⟨v_13, e_v_13⟩ : ∃ zq9 : Nat → Int32, zq9 = (s_X12_eat_w0 43 v_1 ft) := ⟨_, rfl⟩
    have hP : va_P G vwCl [kX12 h q1 q4 q5 q6 q7 q9 q10 q11 v_13, aI y q1 60 ft, aI y q4 154 fr] H := by rw [e_v_13]; exact hP
    have hD : va_D A [kX12 h q1 q4 q5 q6 q7 q9 q10 q11 v_13, aI y q1 60 ft, aI y q4 154 fr] := by rw [e_v_13]; exact hD
    obtain ⟨v_14, e_v_14⟩ : ∃ zq9 : Int32, zq9 = (s_X12_eat_r 43 v_1 ft) := ⟨_, rfl⟩
    refine rw_i (x' := v_14) e_v_14.symm ?_
    have hf_15 : vp_in (v_13 2) 61 := by rw [e_v_13]; exact (eat_2 (by assumption))
    have hf_16 : vp_in (v_13 3) 61 := by rw [e_v_13]; exact (eat_3 (by assumption) (by assumption))
    refine lv_if_eq (tgt := 32) hx hb dX12_readAmbient_17 (by decide) (fun c_17 => ?_) (fun c_17 => ?_)
    · refine lv_iconst (v := 0) hx hb dX12_readAmbient_32 (by decide) ?_
      exact W.zret hx hb hr (nz_bool (Or.inl rfl)) (end_Hi () hP hD hS (by subst e_v_14; subst e_v_13; subst e_v_2; subst e_v_1; unfold s_X12_readAmbient_r; exact ((if_pos c_5).trans (if_pos c_17)).symm) (congr (congrArg (fun (z0 : Nat → Int32) (z2 : Nat → Int32) => [kX12 h q1 q4 q5 q6 q7 q9 q10 q11 z0, aI y q1 60 ft, aI y q4 154 z2]) (by subst e_v_14; subst e_v_13; subst e_v_2; subst e_v_1; unfold s_X12_readAmbient_w0; exact ((if_pos c_5).trans (if_pos c_17)).symm)) (by subst e_v_14; subst e_v_13; subst e_v_2; subst e_v_1; unfold s_X12_readAmbient_w2; exact ((if_pos c_5).trans (if_pos c_17)).symm))) hS.2.2 dX12_readAmbient_33
    · refine lv_aload_n hx hb dX12_readAmbient_20 rfl (lv_at hl 1 rfl) ?_
      refine lv_iconst (v := 3) hx hb dX12_readAmbient_21 (by decide) ?_
      refine lv_iconst (v := 2) hx hb dX12_readAmbient_22 (by decide) ?_
      refine lv_iconst (v := 0) hx hb dX12_readAmbient_23 (by decide) ?_
      refine lv_bipush (v := 99) hx hb dX12_readAmbient_24 (by decide) ?_
      refine cl_Hi (wr := []) (fun _ : Unit => [kX12 h q1 q4 q5 q6 q7 q9 q10 q11 (s_X12_put_2_w0 0 99 v_13 ft), aI y q1 60 ft, aI y q4 154 (s_X12_put_2_w2 0 99 v_13 ft fr 3)]) [0, 1, 2] [] [0, 1, 2] (va_runV (As := [.int 3, .int 2, .int 0, .int 99]) (rest := []) ⟨hx, hb, hml, hown, hts⟩ (c_X12_put_2 l G y h 3 0 99 q1 q4 q5 q6 q7 q9 q10 q11 v_13 ft fr 3 H.size (by assumption) (by assumption) rfl (by decide)) (cwV 4 hts gX12_readAmbient_X12_put rfl rfl rfl (by decide +kernel) ⟨Nat.le_of_ble_eq_true rfl, Nat.le_of_ble_eq_true rfl⟩) (PH_V (hP.sub (ws' := [kX12 h q1 q4 q5 q6 q7 q9 q10 q11 v_13, aI y q1 60 ft, aI y q4 154 fr]) [0, 1, 2] rfl) hK hN (hD.sub (ws' := [kX12 h q1 q4 q5 q6 q7 q9 q10 q11 v_13, aI y q1 60 ft, aI y q4 154 fr]) [0, 1, 2] (by decide) rfl) (ci := 10) (q0 := 0) rfl rfl) rfl rfl hl.1 rfl (lv_room (Nat.le_of_ble_eq_true rfl)) dX12_readAmbient_26 ⟨Nat.le_of_ble_eq_true rfl, Nat.le_of_ble_eq_true rfl⟩) hP hD hS hA rfl rfl rfl (by decide) rfl (fun _ => rfl) (fun _ H locs hP hD hS => ?_)
      have hP : va_P G vwCl [kX12 h q1 q4 q5 q6 q7 q9 q10 q11 (s_X12_put_2_w0 0 99 v_13 ft), aI y q1 60 ft, aI y q4 154 (s_X12_put_2_w2 0 99 v_13 ft fr 3)] H := hP
      have hD : va_D A [kX12 h q1 q4 q5 q6 q7 q9 q10 q11 (s_X12_put_2_w0 0 99 v_13 ft), aI y q1 60 ft, aI y q4 154 (s_X12_put_2_w2 0 99 v_13 ft fr 3)] := hD
      obtain ⟨v_18, e_v_18⟩ : ∃ zq9 : Nat → Int32, zq9 = (s_X12_put_2_w0 0 99 v_13 ft) := ⟨_, rfl⟩
      obtain ⟨v_19, e_v_19⟩ : ∃ zq9 : Nat → Int32, zq9 = (s_X12_put_2_w2 0 99 v_13 ft fr 3) := ⟨_, rfl⟩
      have hP : va_P G vwCl [kX12 h q1 q4 q5 q6 q7 q9 q10 q11 v_18, aI y q1 60 ft, aI y q4 154 v_19] H := by rw [e_v_18, e_v_19]; exact hP
      have hD : va_D A [kX12 h q1 q4 q5 q6 q7 q9 q10 q11 v_18, aI y q1 60 ft, aI y q4 154 v_19] := by rw [e_v_18, e_v_19]; exact hD
      obtain ⟨v_20, e_v_20⟩ : ∃ zq9 : Int32, zq9 = (s_X12_put_2_r 0 99 v_13 ft) := ⟨_, rfl⟩
      refine rw_i (x' := v_20) e_v_20.symm ?_
      have hf_21 : vp_in (v_18 2) 61 := by rw [e_v_18]; exact (put2_2 (by assumption))
      have hf_22 : vp_in (v_18 3) 61 := by rw [e_v_18]; exact (put2_3 (by assumption) (by assumption))
      refine lv_if_ne (tgt := 34) hx hb dX12_readAmbient_29 (by decide) (fun c_23 => ?_) (fun c_23 => ?_)
      · refine lv_aload_n hx hb dX12_readAmbient_34 rfl (lv_at hl 1 rfl) ?_
        refine va_get (D := G) (ci := 10) (v := .ref q4) (C := RX12) (T := TX12) (N := 15) hx hb hts i_X12 hown hK hP 0 rfl rfl 4 (by decide) (hts (.fieldLink RX12 13 "RelayTunerModel" "read" "[I") (by decide +kernel)) (fun _ h9 => h9) rfl dX12_readAmbient_35 ?_
        refine lv_iconst (v := 3) hx hb dX12_readAmbient_38 (by decide) ?_
        refine lv_iload_n hx hb dX12_readAmbient_39 rfl (lv_at hl 0 rfl) ?_
        refine lv_if_eq (tgt := 53) hx hb dX12_readAmbient_40 (by decide) (fun c_24 => ?_) (fun c_24 => ?_)
        rotate_left
        · exact (by first | exact absurd c_24 c_5 | exact absurd c_5 c_24)
        refine lv_aload_n hx hb dX12_readAmbient_53 rfl (lv_at hl 1 rfl) ?_
        refine va_get (D := G) (ci := 10) (v := .ref q4) (C := RX12) (T := TX12) (N := 15) hx hb hts i_X12 hown hK hP 0 rfl rfl 4 (by decide) (hts (.fieldLink RX12 13 "RelayTunerModel" "read" "[I") (by decide +kernel)) (fun _ h9 => h9) rfl dX12_readAmbient_54 ?_
        refine lv_iconst (v := 3) hx hb dX12_readAmbient_57 (by decide) ?_
        refine al_i (D := G) (n := 154) (f := v_19) hx hb hK hP 2 0 rfl rfl 3 rfl (by decide) (by first | decide | omega) dX12_readAmbient_58 ?_
        refine as_i (D := G) (n := 154) (f := v_19) hx hb hK hP hD hS 2 0 rfl rfl 3 rfl (by decide) (by first | decide | omega) dX12_readAmbient_59 (fun H locs hP hD hS => ?_)
        have hP : va_P G vwCl [kX12 h q1 q4 q5 q6 q7 q9 q10 q11 v_18, aI y q1 60 ft, aI y q4 154 (upd v_19 3 (v_19 3))] H := hP
        have hD : va_D A [kX12 h q1 q4 q5 q6 q7 q9 q10 q11 v_18, aI y q1 60 ft, aI y q4 154 (upd v_19 3 (v_19 3))] := hD
        refine lv_iconst (v := 1) hx hb dX12_readAmbient_60 (by decide) ?_
        exact W.zret hx hb hr (nz_bool (Or.inr rfl)) (end_Hi () hP hD hS (by subst e_v_20; subst e_v_19; subst e_v_18; subst e_v_14; subst e_v_13; subst e_v_2; subst e_v_1; unfold s_X12_readAmbient_r; exact ((if_pos c_5).trans ((if_neg c_17).trans (if_neg c_23))).symm) (congr (congrArg (fun (z0 : Nat → Int32) (z2 : Nat → Int32) => [kX12 h q1 q4 q5 q6 q7 q9 q10 q11 z0, aI y q1 60 ft, aI y q4 154 z2]) (by subst e_v_20; subst e_v_19; subst e_v_18; subst e_v_14; subst e_v_13; subst e_v_2; subst e_v_1; unfold s_X12_readAmbient_w0; exact ((if_pos c_5).trans (if_neg c_17)).symm)) (by subst e_v_20; subst e_v_19; subst e_v_18; subst e_v_14; subst e_v_13; subst e_v_2; subst e_v_1; unfold s_X12_readAmbient_w2; exact ((if_pos c_5).trans ((if_neg c_17).trans (if_neg c_23))).symm))) hS.2.2 dX12_readAmbient_61
      · refine lv_iconst (v := 0) hx hb dX12_readAmbient_32 (by decide) ?_
        exact W.zret hx hb hr (nz_bool (Or.inl rfl)) (end_Hi () hP hD hS (by subst e_v_20; subst e_v_19; subst e_v_18; subst e_v_14; subst e_v_13; subst e_v_2; subst e_v_1; unfold s_X12_readAmbient_r; exact ((if_pos c_5).trans ((if_neg c_17).trans (if_pos c_23))).symm) (congr (congrArg (fun (z0 : Nat → Int32) (z2 : Nat → Int32) => [kX12 h q1 q4 q5 q6 q7 q9 q10 q11 z0, aI y q1 60 ft, aI y q4 154 z2]) (by subst e_v_20; subst e_v_19; subst e_v_18; subst e_v_14; subst e_v_13; subst e_v_2; subst e_v_1; unfold s_X12_readAmbient_w0; exact ((if_pos c_5).trans (if_neg c_17)).symm)) (by subst e_v_20; subst e_v_19; subst e_v_18; subst e_v_14; subst e_v_13; subst e_v_2; subst e_v_1; unfold s_X12_readAmbient_w2; exact ((if_pos c_5).trans ((if_neg c_17).trans (if_pos c_23))).symm))) hS.2.2 dX12_readAmbient_33

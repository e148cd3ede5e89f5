def s_X12_in_r (a1 : Int64) (a2 : Int64) (a3 : Int64) : Int32 := (let v_2 : Int32 := (if (lg_cmp a1 a2) < 0 then 0 else (if 0 < (lg_cmp a1 a3) then 0 else 1)); v_2)
theorem z_X12_in (a1 : Int64) (a2 : Int64) (a3 : Int64) : s_X12_in_r a1 a2 a3 = 0 ∨ s_X12_in_r a1 a2 a3 = 1 := by unfold s_X12_in_r; (try dsimp only); exact (z_ite (Or.inl rfl) (z_ite (Or.inl rfl) (Or.inr rfl)))
abbrev rmX12_in : Room := ({ frames := 0, cells := 0, slots := 0, locals := 0 } : Room)
set_option maxHeartbeats 4000000 in
set_option maxRecDepth 100000 in
theorem c_X12_in (l : Launch) (G : va_G) (y : Nat → ClassId) (a1 : Int64) (a2 : Int64) (a3 : Int64) : Met l yX12_in wsX12_in rmX12_in (PR G y [.long a1, .long a2, .long a3] []) (QRi (s_X12_in_r a1 a2 a3)) 0 0 (fun _ => False) := by
  refine Met.ofW (cc := cX12_in) (maxL := 6) (ret := (some .boolean)) (by decide) rfl ?_
  intro p e s m args below meth c s₁ B hml hv
  obtain ⟨rfl, hP, hK, hN⟩ := hv
  have hx := B.exec
  have hb := B.bytes
  have hr := B.returns
  have hts := atoms_spec (ws := wsX12_in) B.pre
  have hown : s.vm.findClass RX12 = some m.cls := findClass_of_methodNamed B.named
  have hlocks := B.notSynchronized
  have hl := lv_entry ([.long a1, .long a2, .long a3]) (n := 6) (Nat.le_of_ble_eq_true rfl)
  rw [lg_entry_eq]
  generalize (lg_sl ([.long a1, .long a2, .long a3]) ++ List.replicate (6 - (lg_sl ([.long a1, .long a2, .long a3])).length) Slot.unset).toArray = ls at hl ⊢
  have hl : lv_has ls 6 [(0, .long a1), (2, .long a2), (4, .long a3)] := hl
  obtain ⟨QQ, hQQ⟩ : ∃ zq9, zq9 = MQ below (QRi (s_X12_in_r a1 a2 a3)) ([.long a1, .long a2, .long a3] : List Value).toArray s 0 0 (fun _ => False) := ⟨_, rfl⟩
  rw [← hQQ]
  refine lv_lload_n hx hb dX12_in_0 rfl (lv_at hl 0 rfl) ?_
  refine lv_lload_n hx hb dX12_in_1 rfl (lv_at hl 1 rfl) ?_
  refine W.lcmp hx hb dX12_in_2 ?_
  have J18_4 : ∀ (v_2 : Int32) (e_v_2 : v_2 = (if (lg_cmp a1 a2) < 0 then 0 else (if 0 < (lg_cmp a1 a3) then 0 else 1))) (z_3 : v_2 = 0 ∨ v_2 = 1) (ls : Array Slot) (hl : lv_has ls 6 []), W p l e (headSpec wsX12_in rmX12_in).room s m ([.long a1, .long a2, .long a3] : List Value).toArray below meth c s.heap [] 0 0 QQ (F0 m 18 ls [.int v_2]) := by
    intro v_2 e_v_2 z_3 ls hl
    rw [hQQ]
    exact W.zret hx hb hr (nz_bool z_3) (end_Ri (by subst e_v_2; unfold s_X12_in_r; exact rfl)) (fun _ h => nomatch h) dX12_in_18
  refine lv_if_lt (tgt := 17) hx hb dX12_in_3 (by decide) (fun c_1 => ?_) (fun c_1 => ?_)
  · refine lv_iconst (v := 0) hx hb dX12_in_17 (by decide) ?_
    exact J18_4 _ (if_pos c_1).symm (Or.inl rfl) ls (lv_sub hl [] rfl)
  · refine lv_lload_n hx hb dX12_in_6 rfl (lv_at hl 0 rfl) ?_
    refine lv_lload hx hb dX12_in_7 (lv_at hl 2 rfl) ?_
    refine W.lcmp hx hb dX12_in_9 ?_
    refine lv_if_gt (tgt := 17) hx hb dX12_in_10 (by decide) (fun c_5 => ?_) (fun c_5 => ?_)
    · refine lv_iconst (v := 0) hx hb dX12_in_17 (by decide) ?_
      exact J18_4 _ ((if_neg c_1).trans (if_pos c_5)).symm (Or.inl rfl) ls (lv_sub hl [] rfl)
    · refine lv_iconst (v := 1) hx hb dX12_in_13 (by decide) ?_
      refine lv_goto (tgt := 18) hx hb dX12_in_14 (by decide) ?_
      exact J18_4 _ ((if_neg c_1).trans (if_neg c_5)).symm (Or.inr rfl) ls (lv_sub hl [] rfl)

def s_X12_size_r (a1 : Int32) : Int32 := (let v_2 : Int32 := (if 0 ≤ a1 then a1 else (-a1)); v_2)
abbrev rmX12_size : Room := ({ frames := 0, cells := 0, slots := 0, locals := 0 } : Room)
set_option maxHeartbeats 4000000 in
set_option maxRecDepth 100000 in
theorem c_X12_size (l : Launch) (G : va_G) (y : Nat → ClassId) (a1 : Int32) : Met l yX12_size wsX12_size rmX12_size (PR G y [.int a1] []) (QRi (s_X12_size_r a1)) 0 0 (fun _ => False) := by
  refine Met.ofW (cc := cX12_size) (maxL := 1) (ret := (some .int)) (by decide) rfl ?_
  intro p e s m args below meth c s₁ B hml hv
  obtain ⟨rfl, hP, hK, hN⟩ := hv
  have hx := B.exec
  have hb := B.bytes
  have hr := B.returns
  have hts := atoms_spec (ws := wsX12_size) B.pre
  have hown : s.vm.findClass RX12 = some m.cls := findClass_of_methodNamed B.named
  have hlocks := B.notSynchronized
  have hl := lv_entry ([.int a1]) (n := 1) (Nat.le_of_ble_eq_true rfl)
  rw [lg_entry_eq]
  generalize (lg_sl ([.int a1]) ++ List.replicate (1 - (lg_sl ([.int a1])).length) Slot.unset).toArray = ls at hl ⊢
  have hl : lv_has ls 1 [(0, .int a1)] := hl
  obtain ⟨QQ, hQQ⟩ : ∃ zq9, zq9 = MQ below (QRi (s_X12_size_r a1)) ([.int a1] : List Value).toArray s 0 0 (fun _ => False) := ⟨_, rfl⟩
  rw [← hQQ]
  refine lv_iload_n hx hb dX12_size_0 rfl (lv_at hl 0 rfl) ?_
  have J10_3 : ∀ (v_2 : Int32) (e_v_2 : v_2 = (if 0 ≤ a1 then a1 else (-a1))) (ls : Array Slot) (hl : lv_has ls 1 []), W p l e (headSpec wsX12_size rmX12_size).room s m ([.int a1] : List Value).toArray below meth c s.heap [] 0 0 QQ (F0 m 10 ls [.int v_2]) := by
    intro v_2 e_v_2 ls hl
    rw [hQQ]
    exact W.iret hx hb hr (end_Ri (by subst e_v_2; unfold s_X12_size_r; exact rfl)) (fun _ h => nomatch h) dX12_size_10
  refine lv_if_ge (tgt := 9) hx hb dX12_size_1 (by decide) (fun c_1 => ?_) (fun c_1 => ?_)
  · refine lv_iload_n hx hb dX12_size_9 rfl (lv_at hl 0 rfl) ?_
    exact J10_3 _ (if_pos c_1).symm ls (lv_sub hl [] rfl)
  · refine lv_iload_n hx hb dX12_size_4 rfl (lv_at hl 0 rfl) ?_
    refine lv_ineg hx hb dX12_size_5 ?_
    refine lv_goto (tgt := 10) hx hb dX12_size_6 (by decide) ?_
    exact J10_3 _ (if_neg c_1).symm ls (lv_sub hl [] rfl)

def s_X12_within_r (a1 : Int32) (a2 : Int32) (a3 : Int32) : Int32 := (let v_2 : Int32 := (if a2 ≤ a1 then (if a1 ≤ a3 then a1 else a3) else a2); v_2)
abbrev rmX12_within : Room := ({ frames := 0, cells := 0, slots := 0, locals := 0 } : Room)
set_option maxHeartbeats 4000000 in
set_option maxRecDepth 100000 in
theorem c_X12_within (l : Launch) (G : va_G) (y : Nat → ClassId) (a1 : Int32) (a2 : Int32) (a3 : Int32) : Met l yX12_within wsX12_within rmX12_within (PR G y [.int a1, .int a2, .int a3] []) (QRi (s_X12_within_r a1 a2 a3)) 0 0 (fun _ => False) := by
  refine Met.ofW (cc := cX12_within) (maxL := 3) (ret := (some .int)) (by decide) rfl ?_
  intro p e s m args below meth c s₁ B hml hv
  obtain ⟨rfl, hP, hK, hN⟩ := hv
  have hx := B.exec
  have hb := B.bytes
  have hr := B.returns
  have hts := atoms_spec (ws := wsX12_within) B.pre
  have hown : s.vm.findClass RX12 = some m.cls := findClass_of_methodNamed B.named
  have hlocks := B.notSynchronized
  have hl := lv_entry ([.int a1, .int a2, .int a3]) (n := 3) (Nat.le_of_ble_eq_true rfl)
  rw [lg_entry_eq]
  generalize (lg_sl ([.int a1, .int a2, .int a3]) ++ List.replicate (3 - (lg_sl ([.int a1, .int a2, .int a3])).length) Slot.unset).toArray = ls at hl ⊢
  have hl : lv_has ls 3 [(0, .int a1), (1, .int a2), (2, .int a3)] := hl
  obtain ⟨QQ, hQQ⟩ : ∃ zq9, zq9 = MQ below (QRi (s_X12_within_r a1 a2 a3)) ([.int a1, .int a2, .int a3] : List Value).toArray s 0 0 (fun _ => False) := ⟨_, rfl⟩
  rw [← hQQ]
  refine lv_iload_n hx hb dX12_within_0 rfl (lv_at hl 0 rfl) ?_
  refine lv_iload_n hx hb dX12_within_1 rfl (lv_at hl 1 rfl) ?_
  have J19_3 : ∀ (v_2 : Int32) (e_v_2 : v_2 = (if a2 ≤ a1 then (if a1 ≤ a3 then a1 else a3) else a2)) (ls : Array Slot) (hl : lv_has ls 3 []), W p l e (headSpec wsX12_within rmX12_within).room s m ([.int a1, .int a2, .int a3] : List Value).toArray below meth c s.heap [] 0 0 QQ (F0 m 19 ls [.int v_2]) := by
    intro v_2 e_v_2 ls hl
    rw [hQQ]
    exact W.iret hx hb hr (end_Ri (by subst e_v_2; unfold s_X12_within_r; exact rfl)) (fun _ h => nomatch h) dX12_within_19
  refine lv_icmp_ge (tgt := 9) hx hb dX12_within_2 (by decide) (fun c_1 => ?_) (fun c_1 => ?_)
  · refine lv_iload_n hx hb dX12_within_9 rfl (lv_at hl 0 rfl) ?_
    refine lv_iload_n hx hb dX12_within_10 rfl (lv_at hl 2 rfl) ?_
    refine lv_icmp_le (tgt := 18) hx hb dX12_within_11 (by decide) (fun c_4 => ?_) (fun c_4 => ?_)
    · refine lv_iload_n hx hb dX12_within_18 rfl (lv_at hl 0 rfl) ?_
      exact J19_3 _ ((if_pos c_1).trans (if_pos c_4)).symm ls (lv_sub hl [] rfl)
    · refine lv_iload_n hx hb dX12_within_14 rfl (lv_at hl 2 rfl) ?_
      refine lv_goto (tgt := 19) hx hb dX12_within_15 (by decide) ?_
      exact J19_3 _ ((if_pos c_1).trans (if_neg c_4)).symm ls (lv_sub hl [] rfl)
  · refine lv_iload_n hx hb dX12_within_5 rfl (lv_at hl 1 rfl) ?_
    refine lv_goto (tgt := 19) hx hb dX12_within_6 (by decide) ?_
    exact J19_3 _ (if_neg c_1).symm ls (lv_sub hl [] rfl)

def s_X12_capped_r (a1 : Int32) : Int32 := (let v_2 : Int32 := (if a1 ≤ 9999 then a1 else 9999); v_2)
abbrev rmX12_capped : Room := ({ frames := 0, cells := 0, slots := 0, locals := 0 } : Room)
set_option maxHeartbeats 4000000 in
set_option maxRecDepth 100000 in
theorem c_X12_capped (l : Launch) (G : va_G) (y : Nat → ClassId) (a1 : Int32) : Met l yX12_capped wsX12_capped rmX12_capped (PR G y [.int a1] []) (QRi (s_X12_capped_r a1)) 0 0 (fun _ => False) := by
  refine Met.ofW (cc := cX12_capped) (maxL := 1) (ret := (some .int)) (by decide) rfl ?_
  intro p e s m args below meth c s₁ B hml hv
  obtain ⟨rfl, hP, hK, hN⟩ := hv
  have hx := B.exec
  have hb := B.bytes
  have hr := B.returns
  have hts := atoms_spec (ws := wsX12_capped) B.pre
  have hown : s.vm.findClass RX12 = some m.cls := findClass_of_methodNamed B.named
  have hlocks := B.notSynchronized
  have hl := lv_entry ([.int a1]) (n := 1) (Nat.le_of_ble_eq_true rfl)
  rw [lg_entry_eq]
  generalize (lg_sl ([.int a1]) ++ List.replicate (1 - (lg_sl ([.int a1])).length) Slot.unset).toArray = ls at hl ⊢
  have hl : lv_has ls 1 [(0, .int a1)] := hl
  obtain ⟨QQ, hQQ⟩ : ∃ zq9, zq9 = MQ below (QRi (s_X12_capped_r a1)) ([.int a1] : List Value).toArray s 0 0 (fun _ => False) := ⟨_, rfl⟩
  rw [← hQQ]
  refine lv_iload_n hx hb dX12_capped_0 rfl (lv_at hl 0 rfl) ?_
  refine lv_sipush (v := 9999) hx hb dX12_capped_1 (by decide) ?_
  have J14_3 : ∀ (v_2 : Int32) (e_v_2 : v_2 = (if a1 ≤ 9999 then a1 else 9999)) (ls : Array Slot) (hl : lv_has ls 1 []), W p l e (headSpec wsX12_capped rmX12_capped).room s m ([.int a1] : List Value).toArray below meth c s.heap [] 0 0 QQ (F0 m 14 ls [.int v_2]) := by
    intro v_2 e_v_2 ls hl
    rw [hQQ]
    exact W.iret hx hb hr (end_Ri (by subst e_v_2; unfold s_X12_capped_r; exact rfl)) (fun _ h => nomatch h) dX12_capped_14
  refine lv_icmp_le (tgt := 13) hx hb dX12_capped_4 (by decide) (fun c_1 => ?_) (fun c_1 => ?_)
  · refine lv_iload_n hx hb dX12_capped_13 rfl (lv_at hl 0 rfl) ?_
    exact J14_3 _ (if_pos c_1).symm ls (lv_sub hl [] rfl)
  · refine lv_sipush (v := 9999) hx hb dX12_capped_7 (by decide) ?_
    refine lv_goto (tgt := 14) hx hb dX12_capped_10 (by decide) ?_
    exact J14_3 _ (if_neg c_1).symm ls (lv_sub hl [] rfl)

def s_X12_isFar_r (a1 : Int32) (a2 : Int32) (a3 : Int32) : Int32 := (let v_2 : Int32 := (if ((s_X12_size_r (a1 - a2)) * 100) ≤ (a3 * a2) then 0 else 1); v_2)
theorem z_X12_isFar (a1 : Int32) (a2 : Int32) (a3 : Int32) : s_X12_isFar_r a1 a2 a3 = 0 ∨ s_X12_isFar_r a1 a2 a3 = 1 := by unfold s_X12_isFar_r; (try dsimp only); exact (z_ite (Or.inl rfl) (Or.inr rfl))
abbrev rmX12_isFar : Room := ({ frames := 1, cells := 0, slots := 0, locals := 20 } : Room)
set_option maxHeartbeats 4000000 in
set_option maxRecDepth 100000 in
theorem c_X12_isFar (l : Launch) (G : va_G) (y : Nat → ClassId) (a1 : Int32) (a2 : Int32) (a3 : Int32) : Met l yX12_isFar wsX12_isFar rmX12_isFar (PR G y [.int a1, .int a2, .int a3] []) (QRi (s_X12_isFar_r a1 a2 a3)) 0 0 (fun _ => False) := by
  refine Met.ofW (cc := cX12_isFar) (maxL := 3) (ret := (some .boolean)) (by decide) rfl ?_
  intro p e s m args below meth c s₁ B hml hv
  obtain ⟨rfl, hP, hK, hN⟩ := hv
  have hx := B.exec
  have hb := B.bytes
  have hr := B.returns
  have hts := atoms_spec (ws := wsX12_isFar) B.pre
  have hown : s.vm.findClass RX12 = some m.cls := findClass_of_methodNamed B.named
  have hlocks := B.notSynchronized
  have hl := lv_entry ([.int a1, .int a2, .int a3]) (n := 3) (Nat.le_of_ble_eq_true rfl)
  rw [lg_entry_eq]
  generalize (lg_sl ([.int a1, .int a2, .int a3]) ++ List.replicate (3 - (lg_sl ([.int a1, .int a2, .int a3])).length) Slot.unset).toArray = ls at hl ⊢
  have hl : lv_has ls 3 [(0, .int a1), (1, .int a2), (2, .int a3)] := hl
  obtain ⟨QQ, hQQ⟩ : ∃ zq9, zq9 = MQ below (QRi (s_X12_isFar_r a1 a2 a3)) ([.int a1, .int a2, .int a3] : List Value).toArray s 0 0 (fun _ => False) := ⟨_, rfl⟩
  rw [← hQQ]
  refine lv_iload_n hx hb dX12_isFar_0 rfl (lv_at hl 0 rfl) ?_
  refine lv_iload_n hx hb dX12_isFar_1 rfl (lv_at hl 1 rfl) ?_
  refine lv_isub hx hb dX12_isFar_2 ?_
  refine cl_Ri (va_runS (As := [.int (a1 - a2)]) (rest := []) ⟨hx, hb, hml, hown, hts⟩ (c_X12_size l G y (a1 - a2)) (va_cwS 1 hts gX12_isFar_X12_size rfl rfl rfl (by decide +kernel) ⟨Nat.le_of_ble_eq_true rfl, Nat.le_of_ble_eq_true rfl⟩) (PR_S pnil hK hN) rfl rfl hl.1 rfl (lv_room (Nat.le_of_ble_eq_true rfl)) dX12_isFar_3 ⟨Nat.le_of_ble_eq_true rfl, Nat.le_of_ble_eq_true rfl⟩) ?_
  refine lv_bipush (v := 100) hx hb dX12_isFar_6 (by decide) ?_
  refine lv_imul hx hb dX12_isFar_8 ?_
  refine lv_iload_n hx hb dX12_isFar_9 rfl (lv_at hl 2 rfl) ?_
  refine lv_iload_n hx hb dX12_isFar_10 rfl (lv_at hl 1 rfl) ?_
  refine lv_imul hx hb dX12_isFar_11 ?_
  have J20_4 : ∀ (v_2 : Int32) (e_v_2 : v_2 = (if ((s_X12_size_r (a1 - a2)) * 100) ≤ (a3 * a2) then 0 else 1)) (z_3 : v_2 = 0 ∨ v_2 = 1) (ls : Array Slot) (hl : lv_has ls 3 []), W p l e (headSpec wsX12_isFar rmX12_isFar).room s m ([.int a1, .int a2, .int a3] : List Value).toArray below meth c s.heap [] 0 0 QQ (F0 m 20 ls [.int v_2]) := by
    intro v_2 e_v_2 z_3 ls hl
    rw [hQQ]
    exact W.zret hx hb hr (nz_bool z_3) (end_Ri (by subst e_v_2; unfold s_X12_isFar_r; exact rfl)) (fun _ h => nomatch h) dX12_isFar_20
  refine lv_icmp_le (tgt := 19) hx hb dX12_isFar_12 (by decide) (fun c_1 => ?_) (fun c_1 => ?_)
  · refine lv_iconst (v := 0) hx hb dX12_isFar_19 (by decide) ?_
    exact J20_4 _ (if_pos c_1).symm (Or.inl rfl) ls (lv_sub hl [] rfl)
  · refine lv_iconst (v := 1) hx hb dX12_isFar_15 (by decide) ?_
    refine lv_goto (tgt := 20) hx hb dX12_isFar_16 (by decide) ?_
    exact J20_4 _ (if_neg c_1).symm (Or.inr rfl) ls (lv_sub hl [] rfl)

def s_X12_isMode_r (a1 : Int32) : Int32 := (s_X12_in_r a1.toInt64 0 2)
theorem z_X12_isMode (a1 : Int32) : s_X12_isMode_r a1 = 0 ∨ s_X12_isMode_r a1 = 1 := by unfold s_X12_isMode_r; (try dsimp only); exact (z_X12_in _ _ _)
abbrev rmX12_isMode : Room := ({ frames := 1, cells := 0, slots := 0, locals := 25 } : Room)
set_option maxHeartbeats 4000000 in
set_option maxRecDepth 100000 in
theorem c_X12_isMode (l : Launch) (G : va_G) (y : Nat → ClassId) (a1 : Int32) : Met l yX12_isMode wsX12_isMode rmX12_isMode (PR G y [.int a1] []) (QRi (s_X12_isMode_r a1)) 0 0 (fun _ => False) := by
  refine Met.ofW (cc := cX12_isMode) (maxL := 1) (ret := (some .boolean)) (by decide) rfl ?_
  intro p e s m args below meth c s₁ B hml hv
  obtain ⟨rfl, hP, hK, hN⟩ := hv
  have hx := B.exec
  have hb := B.bytes
  have hr := B.returns
  have hts := atoms_spec (ws := wsX12_isMode) B.pre
  have hown : s.vm.findClass RX12 = some m.cls := findClass_of_methodNamed B.named
  have hlocks := B.notSynchronized
  have hl := lv_entry ([.int a1]) (n := 1) (Nat.le_of_ble_eq_true rfl)
  rw [lg_entry_eq]
  generalize (lg_sl ([.int a1]) ++ List.replicate (1 - (lg_sl ([.int a1])).length) Slot.unset).toArray = ls at hl ⊢
  have hl : lv_has ls 1 [(0, .int a1)] := hl
  refine lv_iload_n hx hb dX12_isMode_0 rfl (lv_at hl 0 rfl) ?_
  refine lv_i2l (v := a1.toInt64) hx hb dX12_isMode_1 rfl ?_
  refine lv_lconst (v := 0) hx hb dX12_isMode_2 rfl ?_
  refine lv_ldc2 (v := 2) hx hb hown (hts (.constantLong RX12 165 2) (by decide +kernel)) dX12_isMode_3 ?_
  refine cl_Ri (va_runS (As := [.long a1.toInt64, .long 0, .long 2]) (rest := []) ⟨hx, hb, hml, hown, hts⟩ (c_X12_in l G y a1.toInt64 0 2) (va_cwS 3 hts gX12_isMode_X12_in rfl rfl rfl (by decide +kernel) ⟨Nat.le_of_ble_eq_true rfl, Nat.le_of_ble_eq_true rfl⟩) (PR_S pnil hK hN) rfl rfl hl.1 rfl (lv_room (Nat.le_of_ble_eq_true rfl)) dX12_isMode_6 ⟨Nat.le_of_ble_eq_true rfl, Nat.le_of_ble_eq_true rfl⟩) ?_
  exact W.zret hx hb hr (nz_bool (z_X12_in a1.toInt64 0 2)) (end_Ri rfl) (fun _ h => nomatch h) dX12_isMode_9

def s_X12_isRule_r (a1 : Int32) : Int32 := (s_X12_in_r a1.toInt64 0 3)
theorem z_X12_isRule (a1 : Int32) : s_X12_isRule_r a1 = 0 ∨ s_X12_isRule_r a1 = 1 := by unfold s_X12_isRule_r; (try dsimp only); exact (z_X12_in _ _ _)
abbrev rmX12_isRule : Room := ({ frames := 1, cells := 0, slots := 0, locals := 25 } : Room)
set_option maxHeartbeats 4000000 in
set_option maxRecDepth 100000 in
theorem c_X12_isRule (l : Launch) (G : va_G) (y : Nat → ClassId) (a1 : Int32) : Met l yX12_isRule wsX12_isRule rmX12_isRule (PR G y [.int a1] []) (QRi (s_X12_isRule_r a1)) 0 0 (fun _ => False) := by
  refine Met.ofW (cc := cX12_isRule) (maxL := 1) (ret := (some .boolean)) (by decide) rfl ?_
  intro p e s m args below meth c s₁ B hml hv
  obtain ⟨rfl, hP, hK, hN⟩ := hv
  have hx := B.exec
  have hb := B.bytes
  have hr := B.returns
  have hts := atoms_spec (ws := wsX12_isRule) B.pre
  have hown : s.vm.findClass RX12 = some m.cls := findClass_of_methodNamed B.named
  have hlocks := B.notSynchronized
  have hl := lv_entry ([.int a1]) (n := 1) (Nat.le_of_ble_eq_true rfl)
  rw [lg_entry_eq]
  generalize (lg_sl ([.int a1]) ++ List.replicate (1 - (lg_sl ([.int a1])).length) Slot.unset).toArray = ls at hl ⊢
  have hl : lv_has ls 1 [(0, .int a1)] := hl
  refine lv_iload_n hx hb dX12_isRule_0 rfl (lv_at hl 0 rfl) ?_
  refine lv_i2l (v := a1.toInt64) hx hb dX12_isRule_1 rfl ?_
  refine lv_lconst (v := 0) hx hb dX12_isRule_2 rfl ?_
  refine lv_ldc2 (v := 3) hx hb hown (hts (.constantLong RX12 193 3) (by decide +kernel)) dX12_isRule_3 ?_
  refine cl_Ri (va_runS (As := [.long a1.toInt64, .long 0, .long 3]) (rest := []) ⟨hx, hb, hml, hown, hts⟩ (c_X12_in l G y a1.toInt64 0 3) (va_cwS 3 hts gX12_isRule_X12_in rfl rfl rfl (by decide +kernel) ⟨Nat.le_of_ble_eq_true rfl, Nat.le_of_ble_eq_true rfl⟩) (PR_S pnil hK hN) rfl rfl hl.1 rfl (lv_room (Nat.le_of_ble_eq_true rfl)) dX12_isRule_6 ⟨Nat.le_of_ble_eq_true rfl, Nat.le_of_ble_eq_true rfl⟩) ?_
  exact W.zret hx hb hr (nz_bool (z_X12_in a1.toInt64 0 3)) (end_Ri rfl) (fun _ h => nomatch h) dX12_isRule_9

def s_X12_isSetting_r (a1 : Int32) (a2 : Int32) : Int32 := (let v_2 : Int32 := (if a1 = 5 then (s_X12_in_r a2.toInt64 0 999) else (if a1 = 6 then (s_X12_in_r a2.toInt64 0 20) else (if a1 = 7 then (s_X12_in_r a2.toInt64 0 99) else (if (s_X12_in_r a1.toInt64 8 10) = 0 then 0 else (if (s_X12_in_r a2.toInt64 0 9999) = 0 then 0 else 1))))); v_2)
theorem z_X12_isSetting (a1 : Int32) (a2 : Int32) : s_X12_isSetting_r a1 a2 = 0 ∨ s_X12_isSetting_r a1 a2 = 1 := by unfold s_X12_isSetting_r; (try dsimp only); exact (z_ite (z_X12_in _ _ _) (z_ite (z_X12_in _ _ _) (z_ite (z_X12_in _ _ _) (z_ite (Or.inl rfl) (z_ite (Or.inl rfl) (Or.inr rfl))))))
abbrev rmX12_isSetting : Room := ({ frames := 1, cells := 0, slots := 0, locals := 25 } : Room)
set_option maxHeartbeats 4000000 in
set_option maxRecDepth 100000 in
theorem c_X12_isSetting (l : Launch) (G : va_G) (y : Nat → ClassId) (a1 : Int32) (a2 : Int32) : Met l yX12_isSetting wsX12_isSetting rmX12_isSetting (PR G y [.int a1, .int a2] []) (QRi (s_X12_isSetting_r a1 a2)) 0 0 (fun _ => False) := by
  refine Met.ofW (cc := cX12_isSetting) (maxL := 2) (ret := (some .boolean)) (by decide) rfl ?_
  intro p e s m args below meth c s₁ B hml hv
  obtain ⟨rfl, hP, hK, hN⟩ := hv
  have hx := B.exec
  have hb := B.bytes
  have hr := B.returns
  have hts := atoms_spec (ws := wsX12_isSetting) B.pre
  have hown : s.vm.findClass RX12 = some m.cls := findClass_of_methodNamed B.named
  have hlocks := B.notSynchronized
  have hl := lv_entry ([.int a1, .int a2]) (n := 2) (Nat.le_of_ble_eq_true rfl)
  rw [lg_entry_eq]
  generalize (lg_sl ([.int a1, .int a2]) ++ List.replicate (2 - (lg_sl ([.int a1, .int a2])).length) Slot.unset).toArray = ls at hl ⊢
  have hl : lv_has ls 2 [(0, .int a1), (1, .int a2)] := hl
  obtain ⟨QQ, hQQ⟩ : ∃ zq9, zq9 = MQ below (QRi (s_X12_isSetting_r a1 a2)) ([.int a1, .int a2] : List Value).toArray s 0 0 (fun _ => False) := ⟨_, rfl⟩
  rw [← hQQ]
  refine lv_iload_n hx hb dX12_isSetting_0 rfl (lv_at hl 0 rfl) ?_
  refine lv_iconst (v := 5) hx hb dX12_isSetting_1 (by decide) ?_
  have J84_4 : ∀ (v_2 : Int32) (e_v_2 : v_2 = (if a1 = 5 then (s_X12_in_r a2.toInt64 0 999) else (if a1 = 6 then (s_X12_in_r a2.toInt64 0 20) else (if a1 = 7 then (s_X12_in_r a2.toInt64 0 99) else (if (s_X12_in_r a1.toInt64 8 10) = 0 then 0 else (if (s_X12_in_r a2.toInt64 0 9999) = 0 then 0 else 1)))))) (z_3 : v_2 = 0 ∨ v_2 = 1) (ls : Array Slot) (hl : lv_has ls 2 []), W p l e (headSpec wsX12_isSetting rmX12_isSetting).room s m ([.int a1, .int a2] : List Value).toArray below meth c s.heap [] 0 0 QQ (F0 m 84 ls [.int v_2]) := by
    intro v_2 e_v_2 z_3 ls hl
    rw [hQQ]
    exact W.zret hx hb hr (nz_bool z_3) (end_Ri (by subst e_v_2; unfold s_X12_isSetting_r; exact rfl)) (fun _ h => nomatch h) dX12_isSetting_84
  refine lv_icmp_ne (tgt := 17) hx hb dX12_isSetting_2 (by decide) (fun c_1 => ?_) (fun c_1 => ?_)
  · refine lv_iload_n hx hb dX12_isSetting_17 rfl (lv_at hl 0 rfl) ?_
    refine lv_bipush (v := 6) hx hb dX12_isSetting_18 (by decide) ?_
    refine lv_icmp_ne (tgt := 35) hx hb dX12_isSetting_20 (by decide) (fun c_5 => ?_) (fun c_5 => ?_)
    · refine lv_iload_n hx hb dX12_isSetting_35 rfl (lv_at hl 0 rfl) ?_
      refine lv_bipush (v := 7) hx hb dX12_isSetting_36 (by decide) ?_
      refine lv_icmp_ne (tgt := 53) hx hb dX12_isSetting_38 (by decide) (fun c_6 => ?_) (fun c_6 => ?_)
      · refine lv_iload_n hx hb dX12_isSetting_53 rfl (lv_at hl 0 rfl) ?_
        refine lv_i2l (v := a1.toInt64) hx hb dX12_isSetting_54 rfl ?_
        refine lv_ldc2 (v := 8) hx hb hown (hts (.constantLong RX12 176 8) (by decide +kernel)) dX12_isSetting_55 ?_
        refine lv_ldc2 (v := 10) hx hb hown (hts (.constantLong RX12 178 10) (by decide +kernel)) dX12_isSetting_58 ?_
        refine cl_Ri (va_runS (As := [.long a1.toInt64, .long 8, .long 10]) (rest := []) ⟨hx, hb, hml, hown, hts⟩ (c_X12_in l G y a1.toInt64 8 10) (va_cwS 3 hts gX12_isSetting_X12_in rfl rfl rfl (by decide +kernel) ⟨Nat.le_of_ble_eq_true rfl, Nat.le_of_ble_eq_true rfl⟩) (PR_S pnil hK hN) rfl rfl hl.1 rfl (lv_room (Nat.le_of_ble_eq_true rfl)) dX12_isSetting_61 ⟨Nat.le_of_ble_eq_true rfl, Nat.le_of_ble_eq_true rfl⟩) ?_
        refine lv_if_eq (tgt := 83) hx hb dX12_isSetting_64 (by decide) (fun c_7 => ?_) (fun c_7 => ?_)
        · refine lv_iconst (v := 0) hx hb dX12_isSetting_83 (by decide) ?_
          exact J84_4 _ ((if_neg c_1).trans ((if_neg c_5).trans ((if_neg c_6).trans (if_pos c_7)))).symm (Or.inl rfl) ls (lv_sub hl [] rfl)
        · refine lv_iload_n hx hb dX12_isSetting_67 rfl (lv_at hl 1 rfl) ?_
          refine lv_i2l (v := a2.toInt64) hx hb dX12_isSetting_68 rfl ?_
          refine lv_lconst (v := 0) hx hb dX12_isSetting_69 rfl ?_
          refine lv_ldc2 (v := 9999) hx hb hown (hts (.constantLong RX12 180 9999) (by decide +kernel)) dX12_isSetting_70 ?_
          refine cl_Ri (va_runS (As := [.long a2.toInt64, .long 0, .long 9999]) (rest := []) ⟨hx, hb, hml, hown, hts⟩ (c_X12_in l G y a2.toInt64 0 9999) (va_cwS 3 hts gX12_isSetting_X12_in rfl rfl rfl (by decide +kernel) ⟨Nat.le_of_ble_eq_true rfl, Nat.le_of_ble_eq_true rfl⟩) (PR_S pnil hK hN) rfl rfl hl.1 rfl (lv_room (Nat.le_of_ble_eq_true rfl)) dX12_isSetting_73 ⟨Nat.le_of_ble_eq_true rfl, Nat.le_of_ble_eq_true rfl⟩) ?_
          refine lv_if_eq (tgt := 83) hx hb dX12_isSetting_76 (by decide) (fun c_8 => ?_) (fun c_8 => ?_)
          · refine lv_iconst (v := 0) hx hb dX12_isSetting_83 (by decide) ?_
            exact J84_4 _ ((if_neg c_1).trans ((if_neg c_5).trans ((if_neg c_6).trans ((if_neg c_7).trans (if_pos c_8))))).symm (Or.inl rfl) ls (lv_sub hl [] rfl)
          · refine lv_iconst (v := 1) hx hb dX12_isSetting_79 (by decide) ?_
            refine lv_goto (tgt := 84) hx hb dX12_isSetting_80 (by decide) ?_
            exact J84_4 _ ((if_neg c_1).trans ((if_neg c_5).trans ((if_neg c_6).trans ((if_neg c_7).trans (if_neg c_8))))).symm (Or.inr rfl) ls (lv_sub hl [] rfl)
      · refine lv_iload_n hx hb dX12_isSetting_41 rfl (lv_at hl 1 rfl) ?_
        refine lv_i2l (v := a2.toInt64) hx hb dX12_isSetting_42 rfl ?_
        refine lv_lconst (v := 0) hx hb dX12_isSetting_43 rfl ?_
        refine lv_ldc2 (v := 99) hx hb hown (hts (.constantLong RX12 174 99) (by decide +kernel)) dX12_isSetting_44 ?_
        refine cl_Ri (va_runS (As := [.long a2.toInt64, .long 0, .long 99]) (rest := []) ⟨hx, hb, hml, hown, hts⟩ (c_X12_in l G y a2.toInt64 0 99) (va_cwS 3 hts gX12_isSetting_X12_in rfl rfl rfl (by decide +kernel) ⟨Nat.le_of_ble_eq_true rfl, Nat.le_of_ble_eq_true rfl⟩) (PR_S pnil hK hN) rfl rfl hl.1 rfl (lv_room (Nat.le_of_ble_eq_true rfl)) dX12_isSetting_47 ⟨Nat.le_of_ble_eq_true rfl, Nat.le_of_ble_eq_true rfl⟩) ?_
        refine lv_goto (tgt := 84) hx hb dX12_isSetting_50 (by decide) ?_
        exact J84_4 _ ((if_neg c_1).trans ((if_neg c_5).trans (if_pos c_6))).symm (z_X12_in a2.toInt64 0 99) ls (lv_sub hl [] rfl)
    · refine lv_iload_n hx hb dX12_isSetting_23 rfl (lv_at hl 1 rfl) ?_
      refine lv_i2l (v := a2.toInt64) hx hb dX12_isSetting_24 rfl ?_
      refine lv_lconst (v := 0) hx hb dX12_isSetting_25 rfl ?_
      refine lv_ldc2 (v := 20) hx hb hown (hts (.constantLong RX12 172 20) (by decide +kernel)) dX12_isSetting_26 ?_
      refine cl_Ri (va_runS (As := [.long a2.toInt64, .long 0, .long 20]) (rest := []) ⟨hx, hb, hml, hown, hts⟩ (c_X12_in l G y a2.toInt64 0 20) (va_cwS 3 hts gX12_isSetting_X12_in rfl rfl rfl (by decide +kernel) ⟨Nat.le_of_ble_eq_true rfl, Nat.le_of_ble_eq_true rfl⟩) (PR_S pnil hK hN) rfl rfl hl.1 rfl (lv_room (Nat.le_of_ble_eq_true rfl)) dX12_isSetting_29 ⟨Nat.le_of_ble_eq_true rfl, Nat.le_of_ble_eq_true rfl⟩) ?_
      refine lv_goto (tgt := 84) hx hb dX12_isSetting_32 (by decide) ?_
      exact J84_4 _ ((if_neg c_1).trans (if_pos c_5)).symm (z_X12_in a2.toInt64 0 20) ls (lv_sub hl [] rfl)
  · refine lv_iload_n hx hb dX12_isSetting_5 rfl (lv_at hl 1 rfl) ?_
    refine lv_i2l (v := a2.toInt64) hx hb dX12_isSetting_6 rfl ?_
    refine lv_lconst (v := 0) hx hb dX12_isSetting_7 rfl ?_
    refine lv_ldc2 (v := 999) hx hb hown (hts (.constantLong RX12 170 999) (by decide +kernel)) dX12_isSetting_8 ?_
    refine cl_Ri (va_runS (As := [.long a2.toInt64, .long 0, .long 999]) (rest := []) ⟨hx, hb, hml, hown, hts⟩ (c_X12_in l G y a2.toInt64 0 999) (va_cwS 3 hts gX12_isSetting_X12_in rfl rfl rfl (by decide +kernel) ⟨Nat.le_of_ble_eq_true rfl, Nat.le_of_ble_eq_true rfl⟩) (PR_S pnil hK hN) rfl rfl hl.1 rfl (lv_room (Nat.le_of_ble_eq_true rfl)) dX12_isSetting_11 ⟨Nat.le_of_ble_eq_true rfl, Nat.le_of_ble_eq_true rfl⟩) ?_
    refine lv_goto (tgt := 84) hx hb dX12_isSetting_14 (by decide) ?_
    exact J84_4 _ (if_pos c_1).symm (z_X12_in a2.toInt64 0 999) ls (lv_sub hl [] rfl)

def s_X12_relayOutput_r (f : Nat → Int32) : Int32 := (let v_2 : Nat → Int32 := (if (f 12) < ((f 5) + (f 6)) then (if ((f 5) - (f 6)) < (f 12) then f else (upd f 14 1)) else (upd f 14 0)); (let v_5 : Int32 := (if (v_2 14) = 1 then (v_2 4) else 0); v_5))
def s_X12_relayOutput_w0 (f : Nat → Int32) : Nat → Int32 := (let v_2 : Nat → Int32 := (if (f 12) < ((f 5) + (f 6)) then (if ((f 5) - (f 6)) < (f 12) then f else (upd f 14 1)) else (upd f 14 0)); v_2)
abbrev rmX12_relayOutput : Room := ({ frames := 0, cells := 0, slots := 0, locals := 0 } : Room)
set_option maxHeartbeats 4000000 in
set_option maxRecDepth 100000 in
theorem c_X12_relayOutput (l : Launch) (G : va_G) (y : Nat → ClassId) (h : Nat) (f : Nat → Int32) (sz : Nat) : Met l yX12_relayOutput wsX12_relayOutput rmX12_relayOutput (PH G y [.ref h] [aI y h 154 f] sz) (QHi G (s_X12_relayOutput_r f) (fun _ : Unit => [aI y h 154 (s_X12_relayOutput_w0 f)]) (va_A [aI y h 154 f] sz)) 0 0 (va_A [aI y h 154 f] sz) := by
  refine Met.ofW (cc := cX12_relayOutput) (maxL := 1) (ret := (some .int)) (by decide) rfl ?_
  intro p e s m args below meth c s₁ B hml hv
  obtain ⟨rfl, hsz, hP, ⟨hK, hN⟩, hD0⟩ := hv
  have hx := B.exec
  have hb := B.bytes
  have hr := B.returns
  have hts := atoms_spec (ws := wsX12_relayOutput) B.pre
  have hown : s.vm.findClass RX12 = some m.cls := findClass_of_methodNamed B.named
  have hlocks := B.notSynchronized
  subst hsz
  have hD := hD0.self (sz := s.heap.size)
  generalize hAe : va_A [aI y h 154 f] s.heap.size = A at hD ⊢
  have hA : ∀ q : Nat, s.heap.size ≤ q → A q := fun q h => by rw [← hAe]; exact Or.inr h
  have hS : va_S A s.heap s.heap [] := va_S.rf
  have hP : va_P G vwCl [aI y h 154 f] s.heap := hP
  have hl := lv_entry ([.ref h]) (n := 1) (Nat.le_of_ble_eq_true rfl)
  rw [lg_entry_eq]
  generalize (lg_sl ([.ref h]) ++ List.replicate (1 - (lg_sl ([.ref h])).length) Slot.unset).toArray = ls at hl ⊢
  have hl : lv_has ls 1 [(0, .ref h)] := hl
  obtain ⟨QQ, hQQ⟩ : ∃ zq9, zq9 = MQ below (QHi G (s_X12_relayOutput_r f) (fun _ : Unit => [aI y h 154 (s_X12_relayOutput_w0 f)]) A) ([.ref h] : List Value).toArray s 0 0 A := ⟨_, rfl⟩
  rw [← hQQ]
  refine lv_aload_n hx hb dX12_relayOutput_0 rfl (lv_at hl 0 rfl) ?_
  refine lv_bipush (v := 12) hx hb dX12_relayOutput_1 (by decide) ?_
  refine al_i (D := G) (n := 154) (f := f) hx hb hK hP 0 0 rfl rfl 12 rfl (by decide) (by first | decide | omega) dX12_relayOutput_3 ?_
  refine lv_aload_n hx hb dX12_relayOutput_4 rfl (lv_at hl 0 rfl) ?_
  refine lv_iconst (v := 5) hx hb dX12_relayOutput_5 (by decide) ?_
  refine al_i (D := G) (n := 154) (f := f) hx hb hK hP 0 0 rfl rfl 5 rfl (by decide) (by first | decide | omega) dX12_relayOutput_6 ?_
  refine lv_aload_n hx hb dX12_relayOutput_7 rfl (lv_at hl 0 rfl) ?_
  refine lv_bipush (v := 6) hx hb dX12_relayOutput_8 (by decide) ?_
  refine al_i (D := G) (n := 154) (f := f) hx hb hK hP 0 0 rfl rfl 6 rfl (by decide) (by first | decide | omega) dX12_relayOutput_10 ?_
  refine lv_iadd hx hb dX12_relayOutput_11 ?_
  have J43_3 : ∀ (v_2 : Nat → Int32) (e_v_2 : v_2 = (if (f 12) < ((f 5) + (f 6)) then (if ((f 5) - (f 6)) < (f 12) then f else (upd f 14 1)) else (upd f 14 0))) (H : Heap) (locs : List Loc) (hP : va_P G vwCl [aI y h 154 v_2] H) (hD : va_D A [aI y h 154 v_2]) (hS : va_S A s.heap H locs) (ls : Array Slot) (hl : lv_has ls 1 [(0, .ref h)]), W p l e (headSpec wsX12_relayOutput rmX12_relayOutput).room s m ([.ref h] : List Value).toArray below meth c H locs 0 0 QQ (F0 m 43 ls []) := by
    intro v_2 e_v_2 H locs hP hD hS ls hl
    refine lv_aload_n hx hb dX12_relayOutput_43 rfl (lv_at hl 0 rfl) ?_
    refine lv_bipush (v := 14) hx hb dX12_relayOutput_44 (by decide) ?_
    refine al_i (D := G) (n := 154) (f := v_2) hx hb hK hP 0 0 rfl rfl 14 rfl (by decide) (by first | decide | omega) dX12_relayOutput_46 ?_
    refine lv_iconst (v := 1) hx hb dX12_relayOutput_47 (by decide) ?_
    have J58_6 : ∀ (v_5 : Int32) (e_v_5 : v_5 = (if (v_2 14) = 1 then (v_2 4) else 0)) (ls : Array Slot) (hl : lv_has ls 1 []), W p l e (headSpec wsX12_relayOutput rmX12_relayOutput).room s m ([.ref h] : List Value).toArray below meth c H locs 0 0 QQ (F0 m 58 ls [.int v_5]) := by
      intro v_5 e_v_5 ls hl
      rw [hQQ]
      exact W.iret hx hb hr (end_Hi () hP hD hS (by subst e_v_5; subst e_v_2; unfold s_X12_relayOutput_r; exact rfl) (congrArg (fun (z0 : Nat → Int32) => [aI y h 154 z0]) (by subst e_v_5; subst e_v_2; unfold s_X12_relayOutput_w0; exact rfl))) hS.2.2 dX12_relayOutput_58
    refine lv_icmp_ne (tgt := 57) hx hb dX12_relayOutput_48 (by decide) (fun c_4 => ?_) (fun c_4 => ?_)
    · refine lv_iconst (v := 0) hx hb dX12_relayOutput_57 (by decide) ?_
      exact J58_6 _ (if_neg c_4).symm ls (lv_sub hl [] rfl)
    · refine lv_aload_n hx hb dX12_relayOutput_51 rfl (lv_at hl 0 rfl) ?_
      refine lv_iconst (v := 4) hx hb dX12_relayOutput_52 (by decide) ?_
      refine al_i (D := G) (n := 154) (f := v_2) hx hb hK hP 0 0 rfl rfl 4 rfl (by decide) (by first | decide | omega) dX12_relayOutput_53 ?_
      refine lv_goto (tgt := 58) hx hb dX12_relayOutput_54 (by decide) ?_
      exact J58_6 _ (if_pos c_4).symm ls (lv_sub hl [] rfl)
  refine lv_icmp_lt (tgt := 23) hx hb dX12_relayOutput_12 (by decide) (fun c_1 => ?_) (fun c_1 => ?_)
  · refine lv_aload_n hx hb dX12_relayOutput_23 rfl (lv_at hl 0 rfl) ?_
    refine lv_bipush (v := 12) hx hb dX12_relayOutput_24 (by decide) ?_
    refine al_i (D := G) (n := 154) (f := f) hx hb hK hP 0 0 rfl rfl 12 rfl (by decide) (by first | decide | omega) dX12_relayOutput_26 ?_
    refine lv_aload_n hx hb dX12_relayOutput_27 rfl (lv_at hl 0 rfl) ?_
    refine lv_iconst (v := 5) hx hb dX12_relayOutput_28 (by decide) ?_
    refine al_i (D := G) (n := 154) (f := f) hx hb hK hP 0 0 rfl rfl 5 rfl (by decide) (by first | decide | omega) dX12_relayOutput_29 ?_
    refine lv_aload_n hx hb dX12_relayOutput_30 rfl (lv_at hl 0 rfl) ?_
    refine lv_bipush (v := 6) hx hb dX12_relayOutput_31 (by decide) ?_
    refine al_i (D := G) (n := 154) (f := f) hx hb hK hP 0 0 rfl rfl 6 rfl (by decide) (by first | decide | omega) dX12_relayOutput_33 ?_
    refine lv_isub hx hb dX12_relayOutput_34 ?_
    refine lv_icmp_gt (tgt := 43) hx hb dX12_relayOutput_35 (by decide) (fun c_7 => ?_) (fun c_7 => ?_)
    · exact J43_3 _ ((if_pos c_1).trans (if_pos c_7)).symm s.heap [] hP hD hS ls (lv_sub hl [0] rfl)
    · refine lv_aload_n hx hb dX12_relayOutput_38 rfl (lv_at hl 0 rfl) ?_
      refine lv_bipush (v := 14) hx hb dX12_relayOutput_39 (by decide) ?_
      refine lv_iconst (v := 1) hx hb dX12_relayOutput_41 (by decide) ?_
      refine as_i (D := G) (n := 154) (f := f) hx hb hK hP hD hS 0 0 rfl rfl 14 rfl (by decide) (by first | decide | omega) dX12_relayOutput_42 (fun H locs hP hD hS => ?_)
      have hP : va_P G vwCl [aI y h 154 (upd f 14 1)] H := hP
      have hD : va_D A [aI y h 154 (upd f 14 1)] := hD
      exact J43_3 _ ((if_pos c_1).trans (if_neg c_7)).symm H locs hP hD hS ls (lv_sub hl [0] rfl)
  · refine lv_aload_n hx hb dX12_relayOutput_15 rfl (lv_at hl 0 rfl) ?_
    refine lv_bipush (v := 14) hx hb dX12_relayOutput_16 (by decide) ?_
    refine lv_iconst (v := 0) hx hb dX12_relayOutput_18 (by decide) ?_
    refine as_i (D := G) (n := 154) (f := f) hx hb hK hP hD hS 0 0 rfl rfl 14 rfl (by decide) (by first | decide | omega) dX12_relayOutput_19 (fun H locs hP hD hS => ?_)
    have hP : va_P G vwCl [aI y h 154 (upd f 14 0)] H := hP
    have hD : va_D A [aI y h 154 (upd f 14 0)] := hD
    refine lv_goto (tgt := 43) hx hb dX12_relayOutput_20 (by decide) ?_
    exact J43_3 _ (if_neg c_1).symm H locs hP hD hS ls (lv_sub hl [0] rfl)

def s_X12_controlOutput_r (f : Nat → Int32) : Int32 := (let v_2 : Int32 := (if (f 19) = 1 then (((f 5) - (f 12)) - (f 20)) else 0); (s_X12_within_r (((((f 8) * ((f 5) - (f 12))) + ((f 9) * (f 15))) + ((f 10) * v_2)) / 100) 0 (f 4)))
def s_X12_controlOutput_w0 (f : Nat → Int32) : Nat → Int32 := (let v_2 : Int32 := (if (f 19) = 1 then (((f 5) - (f 12)) - (f 20)) else 0); (let v_5 : Int32 := (if (s_X12_within_r (((((f 8) * ((f 5) - (f 12))) + ((f 9) * (f 15))) + ((f 10) * v_2)) / 100) 0 (f 4)) = (((((f 8) * ((f 5) - (f 12))) + ((f 9) * (f 15))) + ((f 10) * v_2)) / 100) then (s_X12_within_r ((f 15) + ((f 5) - (f 12))) (-9999) 9999) else (f 15)); (upd (upd (upd f 15 v_5) 19 1) 20 ((f 5) - (f 12)))))
abbrev rmX12_controlOutput : Room := ({ frames := 1, cells := 0, slots := 0, locals := 22 } : Room)
set_option maxHeartbeats 4000000 in
set_option maxRecDepth 100000 in
theorem c_X12_controlOutput (l : Launch) (G : va_G) (y : Nat → ClassId) (h : Nat) (f : Nat → Int32) (sz : Nat) : Met l yX12_controlOutput wsX12_controlOutput rmX12_controlOutput (PH G y [.ref h] [aI y h 154 f] sz) (QHi G (s_X12_controlOutput_r f) (fun _ : Unit => [aI y h 154 (s_X12_controlOutput_w0 f)]) (va_A [aI y h 154 f] sz)) 0 0 (va_A [aI y h 154 f] sz) := by
  refine Met.ofW (cc := cX12_controlOutput) (maxL := 5) (ret := (some .int)) (by decide) rfl ?_
  intro p e s m args below meth c s₁ B hml hv
  obtain ⟨rfl, hsz, hP, ⟨hK, hN⟩, hD0⟩ := hv
  have hx := B.exec
  have hb := B.bytes
  have hr := B.returns
  have hts := atoms_spec (ws := wsX12_controlOutput) B.pre
  have hown : s.vm.findClass RX12 = some m.cls := findClass_of_methodNamed B.named
  have hlocks := B.notSynchronized
  subst hsz
  have hD := hD0.self (sz := s.heap.size)
  generalize hAe : va_A [aI y h 154 f] s.heap.size = A at hD ⊢
  have hA : ∀ q : Nat, s.heap.size ≤ q → A q := fun q h => by rw [← hAe]; exact Or.inr h
  have hS : va_S A s.heap s.heap [] := va_S.rf
  have hP : va_P G vwCl [aI y h 154 f] s.heap := hP
  have hl := lv_entry ([.ref h]) (n := 5) (Nat.le_of_ble_eq_true rfl)
  rw [lg_entry_eq]
  generalize (lg_sl ([.ref h]) ++ List.replicate (5 - (lg_sl ([.ref h])).length) Slot.unset).toArray = ls at hl ⊢
  have hl : lv_has ls 5 [(0, .ref h)] := hl
  obtain ⟨QQ, hQQ⟩ : ∃ zq9, zq9 = MQ below (QHi G (s_X12_controlOutput_r f) (fun _ : Unit => [aI y h 154 (s_X12_controlOutput_w0 f)]) A) ([.ref h] : List Value).toArray s 0 0 A := ⟨_, rfl⟩
  rw [← hQQ]
  refine lv_aload_n hx hb dX12_controlOutput_0 rfl (lv_at hl 0 rfl) ?_
  refine lv_iconst (v := 5) hx hb dX12_controlOutput_1 (by decide) ?_
  refine al_i (D := G) (n := 154) (f := f) hx hb hK hP 0 0 rfl rfl 5 rfl (by decide) (by first | decide | omega) dX12_controlOutput_2 ?_
  refine lv_aload_n hx hb dX12_controlOutput_3 rfl (lv_at hl 0 rfl) ?_
  refine lv_bipush (v := 12) hx hb dX12_controlOutput_4 (by decide) ?_
  refine al_i (D := G) (n := 154) (f := f) hx hb hK hP 0 0 rfl rfl 12 rfl (by decide) (by first | decide | omega) dX12_controlOutput_6 ?_
  refine lv_isub hx hb dX12_controlOutput_7 ?_
  refine lv_istore_n (lv' := [(1, .int ((f 5) - (f 12))), (0, .ref h)]) hx hb dX12_controlOutput_8 rfl hl (by decide) rfl (fun ls hl => ?_)
  refine lv_aload_n hx hb dX12_controlOutput_9 rfl (lv_at hl 1 rfl) ?_
  refine lv_bipush (v := 19) hx hb dX12_controlOutput_10 (by decide) ?_
  refine al_i (D := G) (n := 154) (f := f) hx hb hK hP 0 0 rfl rfl 19 rfl (by decide) (by first | decide | omega) dX12_controlOutput_12 ?_
  refine lv_iconst (v := 1) hx hb dX12_controlOutput_13 (by decide) ?_
  have J27_3 : ∀ (v_2 : Int32) (e_v_2 : v_2 = (if (f 19) = 1 then (((f 5) - (f 12)) - (f 20)) else 0)) (ls : Array Slot) (hl : lv_has ls 5 [(1, .int ((f 5) - (f 12))), (0, .ref h)]), W p l e (headSpec wsX12_controlOutput rmX12_controlOutput).room s m ([.ref h] : List Value).toArray below meth c s.heap [] 0 0 QQ (F0 m 27 ls [.int v_2]) := by
    intro v_2 e_v_2 ls hl
    refine lv_istore_n (lv' := [(2, .int v_2), (1, .int ((f 5) - (f 12))), (0, .ref h)]) hx hb dX12_controlOutput_27 rfl hl (by decide) rfl (fun ls hl => ?_)
    refine lv_aload_n hx hb dX12_controlOutput_28 rfl (lv_at hl 2 rfl) ?_
    refine lv_bipush (v := 8) hx hb dX12_controlOutput_29 (by decide) ?_
    refine al_i (D := G) (n := 154) (f := f) hx hb hK hP 0 0 rfl rfl 8 rfl (by decide) (by first | decide | omega) dX12_controlOutput_31 ?_
    refine lv_iload_n hx hb dX12_controlOutput_32 rfl (lv_at hl 1 rfl) ?_
    refine lv_imul hx hb dX12_controlOutput_33 ?_
    refine lv_aload_n hx hb dX12_controlOutput_34 rfl (lv_at hl 2 rfl) ?_
    refine lv_bipush (v := 9) hx hb dX12_controlOutput_35 (by decide) ?_
    refine al_i (D := G) (n := 154) (f := f) hx hb hK hP 0 0 rfl rfl 9 rfl (by decide) (by first | decide | omega) dX12_controlOutput_37 ?_
    refine lv_aload_n hx hb dX12_controlOutput_38 rfl (lv_at hl 2 rfl) ?_
    refine lv_bipush (v := 15) hx hb dX12_controlOutput_39 (by decide) ?_
    refine al_i (D := G) (n := 154) (f := f) hx hb hK hP 0 0 rfl rfl 15 rfl (by decide) (by first | decide | omega) dX12_controlOutput_41 ?_
    refine lv_imul hx hb dX12_controlOutput_42 ?_
    refine lv_iadd hx hb dX12_controlOutput_43 ?_
    refine lv_aload_n hx hb dX12_controlOutput_44 rfl (lv_at hl 2 rfl) ?_
    refine lv_bipush (v := 10) hx hb dX12_controlOutput_45 (by decide) ?_
    refine al_i (D := G) (n := 154) (f := f) hx hb hK hP 0 0 rfl rfl 10 rfl (by decide) (by first | decide | omega) dX12_controlOutput_47 ?_
    refine lv_iload_n hx hb dX12_controlOutput_48 rfl (lv_at hl 0 rfl) ?_
    refine lv_imul hx hb dX12_controlOutput_49 ?_
    refine lv_iadd hx hb dX12_controlOutput_50 ?_
    refine lv_bipush (v := 100) hx hb dX12_controlOutput_51 (by decide) ?_
    refine lv_idiv hx hb dX12_controlOutput_53 (by decide) ?_
    refine lv_istore_n (lv' := [(3, .int (((((f 8) * ((f 5) - (f 12))) + ((f 9) * (f 15))) + ((f 10) * v_2)) / 100)), (2, .int v_2), (1, .int ((f 5) - (f 12))), (0, .ref h)]) hx hb dX12_controlOutput_54 rfl hl (by decide) rfl (fun ls hl => ?_)
    refine lv_iload_n hx hb dX12_controlOutput_55 rfl (lv_at hl 0 rfl) ?_
    refine lv_iconst (v := 0) hx hb dX12_controlOutput_56 (by decide) ?_
    refine lv_aload_n hx hb dX12_controlOutput_57 rfl (lv_at hl 3 rfl) ?_
    refine lv_iconst (v := 4) hx hb dX12_controlOutput_58 (by decide) ?_
    refine al_i (D := G) (n := 154) (f := f) hx hb hK hP 0 0 rfl rfl 4 rfl (by decide) (by first | decide | omega) dX12_controlOutput_59 ?_
    refine cl_Ri (va_runS (As := [.int (((((f 8) * ((f 5) - (f 12))) + ((f 9) * (f 15))) + ((f 10) * v_2)) / 100), .int 0, .int (f 4)]) (rest := []) ⟨hx, hb, hml, hown, hts⟩ (c_X12_within l G y (((((f 8) * ((f 5) - (f 12))) + ((f 9) * (f 15))) + ((f 10) * v_2)) / 100) 0 (f 4)) (va_cwS 3 hts gX12_controlOutput_X12_within rfl rfl rfl (by decide +kernel) ⟨Nat.le_of_ble_eq_true rfl, Nat.le_of_ble_eq_true rfl⟩) (PR_S pnil hK hN) rfl rfl hl.1 rfl (lv_room (Nat.le_of_ble_eq_true rfl)) dX12_controlOutput_60 ⟨Nat.le_of_ble_eq_true rfl, Nat.le_of_ble_eq_true rfl⟩) ?_
    refine lv_istore (lv' := [(4, .int (s_X12_within_r (((((f 8) * ((f 5) - (f 12))) + ((f 9) * (f 15))) + ((f 10) * v_2)) / 100) 0 (f 4))), (3, .int (((((f 8) * ((f 5) - (f 12))) + ((f 9) * (f 15))) + ((f 10) * v_2)) / 100)), (2, .int v_2), (1, .int ((f 5) - (f 12))), (0, .ref h)]) hx hb dX12_controlOutput_63 hl (by decide) rfl (fun ls hl => ?_)
    refine lv_aload_n hx hb dX12_controlOutput_65 rfl (lv_at hl 4 rfl) ?_
    refine lv_bipush (v := 15) hx hb dX12_controlOutput_66 (by decide) ?_
    refine lv_iload hx hb dX12_controlOutput_68 (lv_at hl 0 rfl) ?_
    refine lv_iload_n hx hb dX12_controlOutput_70 rfl (lv_at hl 1 rfl) ?_
    have J96_6 : ∀ (v_5 : Int32) (e_v_5 : v_5 = (if (s_X12_within_r (((((f 8) * ((f 5) - (f 12))) + ((f 9) * (f 15))) + ((f 10) * v_2)) / 100) 0 (f 4)) = (((((f 8) * ((f 5) - (f 12))) + ((f 9) * (f 15))) + ((f 10) * v_2)) / 100) then (s_X12_within_r ((f 15) + ((f 5) - (f 12))) (-9999) 9999) else (f 15))) (ls : Array Slot) (hl : lv_has ls 5 [(4, .int (s_X12_within_r (((((f 8) * ((f 5) - (f 12))) + ((f 9) * (f 15))) + ((f 10) * v_2)) / 100) 0 (f 4))), (1, .int ((f 5) - (f 12))), (0, .ref h)]), W p l e (headSpec wsX12_controlOutput rmX12_controlOutput).room s m ([.ref h] : List Value).toArray below meth c s.heap [] 0 0 QQ (F0 m 96 ls [.int v_5, .int 15, .ref h]) := by
      intro v_5 e_v_5 ls hl
      refine as_i (D := G) (n := 154) (f := f) hx hb hK hP hD hS 0 0 rfl rfl 15 rfl (by decide) (by first | decide | omega) dX12_controlOutput_96 (fun H locs hP hD hS => ?_)
      have hP : va_P G vwCl [aI y h 154 (upd f 15 v_5)] H := hP
      have hD : va_D A [aI y h 154 (upd f 15 v_5)] := hD
      refine lv_aload_n hx hb dX12_controlOutput_97 rfl (lv_at hl 2 rfl) ?_
      refine lv_bipush (v := 19) hx hb dX12_controlOutput_98 (by decide) ?_
      refine lv_iconst (v := 1) hx hb dX12_controlOutput_100 (by decide) ?_
      refine as_i (D := G) (n := 154) (f := (upd f 15 v_5)) hx hb hK hP hD hS 0 0 rfl rfl 19 rfl (by decide) (by first | decide | omega) dX12_controlOutput_101 (fun H locs hP hD hS => ?_)
      have hP : va_P G vwCl [aI y h 154 (upd (upd f 15 v_5) 19 1)] H := hP
      have hD : va_D A [aI y h 154 (upd (upd f 15 v_5) 19 1)] := hD
      refine lv_aload_n hx hb dX12_controlOutput_102 rfl (lv_at hl 2 rfl) ?_
      refine lv_bipush (v := 20) hx hb dX12_controlOutput_103 (by decide) ?_
      refine lv_iload_n hx hb dX12_controlOutput_105 rfl (lv_at hl 1 rfl) ?_
      refine as_i (D := G) (n := 154) (f := (upd (upd f 15 v_5) 19 1)) hx hb hK hP hD hS 0 0 rfl rfl 20 rfl (by decide) (by first | decide | omega) dX12_controlOutput_106 (fun H locs hP hD hS => ?_)
      have hP : va_P G vwCl [aI y h 154 (upd (upd (upd f 15 v_5) 19 1) 20 ((f 5) - (f 12)))] H := hP
      have hD : va_D A [aI y h 154 (upd (upd (upd f 15 v_5) 19 1) 20 ((f 5) - (f 12)))] := hD
      refine lv_iload hx hb dX12_controlOutput_107 (lv_at hl 0 rfl) ?_
      rw [hQQ]
      exact W.iret hx hb hr (end_Hi () hP hD hS (by subst e_v_5; subst e_v_2; unfold s_X12_controlOutput_r; exact rfl) (congrArg (fun (z0 : Nat → Int32) => [aI y h 154 z0]) (by subst e_v_5; subst e_v_2; unfold s_X12_controlOutput_w0; exact rfl))) hS.2.2 dX12_controlOutput_109
    refine lv_icmp_ne (tgt := 92) hx hb dX12_controlOutput_71 (by decide) (fun c_4 => ?_) (fun c_4 => ?_)
    · refine lv_aload_n hx hb dX12_controlOutput_92 rfl (lv_at hl 4 rfl) ?_
      refine lv_bipush (v := 15) hx hb dX12_controlOutput_93 (by decide) ?_
      refine al_i (D := G) (n := 154) (f := f) hx hb hK hP 0 0 rfl rfl 15 rfl (by decide) (by first | decide | omega) dX12_controlOutput_95 ?_
      exact J96_6 _ (if_neg c_4).symm ls (lv_sub hl [0, 3, 4] rfl)
    · refine lv_aload_n hx hb dX12_controlOutput_74 rfl (lv_at hl 4 rfl) ?_
      refine lv_bipush (v := 15) hx hb dX12_controlOutput_75 (by decide) ?_
      refine al_i (D := G) (n := 154) (f := f) hx hb hK hP 0 0 rfl rfl 15 rfl (by decide) (by first | decide | omega) dX12_controlOutput_77 ?_
      refine lv_iload_n hx hb dX12_controlOutput_78 rfl (lv_at hl 3 rfl) ?_
      refine lv_iadd hx hb dX12_controlOutput_79 ?_
      refine lv_sipush (v := (-9999)) hx hb dX12_controlOutput_80 (by decide) ?_
      refine lv_sipush (v := 9999) hx hb dX12_controlOutput_83 (by decide) ?_
      refine cl_Ri (va_runS (As := [.int ((f 15) + ((f 5) - (f 12))), .int (-9999), .int 9999]) (rest := [.int 15, .ref h]) ⟨hx, hb, hml, hown, hts⟩ (c_X12_within l G y ((f 15) + ((f 5) - (f 12))) (-9999) 9999) (va_cwS 3 hts gX12_controlOutput_X12_within rfl rfl rfl (by decide +kernel) ⟨Nat.le_of_ble_eq_true rfl, Nat.le_of_ble_eq_true rfl⟩) (PR_S pnil hK hN) rfl rfl hl.1 rfl (lv_room (Nat.le_of_ble_eq_true rfl)) dX12_controlOutput_86 ⟨Nat.le_of_ble_eq_true rfl, Nat.le_of_ble_eq_true rfl⟩) ?_
      refine lv_goto (tgt := 96) hx hb dX12_controlOutput_89 (by decide) ?_
      exact J96_6 _ (if_pos c_4).symm ls (lv_sub hl [0, 3, 4] rfl)
  refine lv_icmp_ne (tgt := 26) hx hb dX12_controlOutput_14 (by decide) (fun c_1 => ?_) (fun c_1 => ?_)
  · refine lv_iconst (v := 0) hx hb dX12_controlOutput_26 (by decide) ?_
    exact J27_3 _ (if_neg c_1).symm ls (lv_sub hl [0, 1] rfl)
  · refine lv_iload_n hx hb dX12_controlOutput_17 rfl (lv_at hl 0 rfl) ?_
    refine lv_aload_n hx hb dX12_controlOutput_18 rfl (lv_at hl 1 rfl) ?_
    refine lv_bipush (v := 20) hx hb dX12_controlOutput_19 (by decide) ?_
    refine al_i (D := G) (n := 154) (f := f) hx hb hK hP 0 0 rfl rfl 20 rfl (by decide) (by first | decide | omega) dX12_controlOutput_21 ?_
    refine lv_isub hx hb dX12_controlOutput_22 ?_
    refine lv_goto (tgt := 27) hx hb dX12_controlOutput_23 (by decide) ?_
    exact J27_3 _ (if_pos c_1).symm ls (lv_sub hl [0, 1] rfl)

def s_X12_modeOn_w0 (a1 : Int32) (f : Nat → Int32) : Nat → Int32 := (if (f 11) = a1 then f else (let v_3 : Int32 := (if a1 = 1 then 1 else 0); (let v_7 : Nat → Int32 := (if a1 = 2 then (upd (upd (upd (upd (upd (upd f 11 a1) 14 v_3) 21 0) 22 0) 15 0) 19 0) else (upd (upd (upd (upd f 11 a1) 14 v_3) 21 0) 22 0)); v_7)))
abbrev rmX12_modeOn : Room := ({ frames := 0, cells := 0, slots := 0, locals := 0 } : Room)
set_option maxHeartbeats 4000000 in
set_option maxRecDepth 100000 in
theorem c_X12_modeOn (l : Launch) (G : va_G) (y : Nat → ClassId) (h : Nat) (a1 : Int32) (f : Nat → Int32) (sz : Nat) : Met l yX12_modeOn wsX12_modeOn rmX12_modeOn (PH G y [.ref h, .int a1] [aI y h 154 f] sz) (QHv G (fun _ : Unit => [aI y h 154 (s_X12_modeOn_w0 a1 f)]) (va_A [aI y h 154 f] sz)) 0 0 (va_A [aI y h 154 f] sz) := by
  refine Met.ofW (cc := cX12_modeOn) (maxL := 2) (ret := none) (by decide) rfl ?_
  intro p e s m args below meth c s₁ B hml hv
  obtain ⟨rfl, hsz, hP, ⟨hK, hN⟩, hD0⟩ := hv
  have hx := B.exec
  have hb := B.bytes
  have hr := B.returns
  have hts := atoms_spec (ws := wsX12_modeOn) B.pre
  have hown : s.vm.findClass RX12 = some m.cls := findClass_of_methodNamed B.named
  have hlocks := B.notSynchronized
  subst hsz
  have hD := hD0.self (sz := s.heap.size)
  generalize hAe : va_A [aI y h 154 f] s.heap.size = A at hD ⊢
  have hA : ∀ q : Nat, s.heap.size ≤ q → A q := fun q h => by rw [← hAe]; exact Or.inr h
  have hS : va_S A s.heap s.heap [] := va_S.rf
  have hP : va_P G vwCl [aI y h 154 f] s.heap := hP
  have hl := lv_entry ([.ref h, .int a1]) (n := 2) (Nat.le_of_ble_eq_true rfl)
  rw [lg_entry_eq]
  generalize (lg_sl ([.ref h, .int a1]) ++ List.replicate (2 - (lg_sl ([.ref h, .int a1])).length) Slot.unset).toArray = ls at hl ⊢
  have hl : lv_has ls 2 [(0, .ref h), (1, .int a1)] := hl
  obtain ⟨QQ, hQQ⟩ : ∃ zq9, zq9 = MQ below (QHv G (fun _ : Unit => [aI y h 154 (s_X12_modeOn_w0 a1 f)]) A) ([.ref h, .int a1] : List Value).toArray s 0 0 A := ⟨_, rfl⟩
  rw [← hQQ]
  refine lv_aload_n hx hb dX12_modeOn_0 rfl (lv_at hl 0 rfl) ?_
  refine lv_bipush (v := 11) hx hb dX12_modeOn_1 (by decide) ?_
  refine al_i (D := G) (n := 154) (f := f) hx hb hK hP 0 0 rfl rfl 11 rfl (by decide) (by first | decide | omega) dX12_modeOn_3 ?_
  refine lv_iload_n hx hb dX12_modeOn_4 rfl (lv_at hl 1 rfl) ?_
  refine lv_icmp_ne (tgt := 9) hx hb dX12_modeOn_5 (by decide) (fun c_1 => ?_) (fun c_1 => ?_)
  · refine lv_aload_n hx hb dX12_modeOn_9 rfl (lv_at hl 0 rfl) ?_
    refine lv_bipush (v := 11) hx hb dX12_modeOn_10 (by decide) ?_
    refine lv_iload_n hx hb dX12_modeOn_12 rfl (lv_at hl 1 rfl) ?_
    refine as_i (D := G) (n := 154) (f := f) hx hb hK hP hD hS 0 0 rfl rfl 11 rfl (by decide) (by first | decide | omega) dX12_modeOn_13 (fun H locs hP hD hS => ?_)
    have hP : va_P G vwCl [aI y h 154 (upd f 11 a1)] H := hP
    have hD : va_D A [aI y h 154 (upd f 11 a1)] := hD
    refine lv_aload_n hx hb dX12_modeOn_14 rfl (lv_at hl 0 rfl) ?_
    refine lv_bipush (v := 14) hx hb dX12_modeOn_15 (by decide) ?_
    refine lv_iload_n hx hb dX12_modeOn_17 rfl (lv_at hl 1 rfl) ?_
    refine lv_iconst (v := 1) hx hb dX12_modeOn_18 (by decide) ?_
    have J27_5 : ∀ (v_3 : Int32) (e_v_3 : v_3 = (if a1 = 1 then 1 else 0)) (z_4 : v_3 = 0 ∨ v_3 = 1) (ls : Array Slot) (hl : lv_has ls 2 [(0, .ref h), (1, .int a1)]), W p l e (headSpec wsX12_modeOn rmX12_modeOn).room s m ([.ref h, .int a1] : List Value).toArray below meth c H locs 0 0 QQ (F0 m 27 ls [.int v_3, .int 14, .ref h]) := by
      intro v_3 e_v_3 z_4 ls hl
      refine as_i (D := G) (n := 154) (f := (upd f 11 a1)) hx hb hK hP hD hS 0 0 rfl rfl 14 rfl (by decide) (by first | decide | omega) dX12_modeOn_27 (fun H locs hP hD hS => ?_)
      have hP : va_P G vwCl [aI y h 154 (upd (upd f 11 a1) 14 v_3)] H := hP
      have hD : va_D A [aI y h 154 (upd (upd f 11 a1) 14 v_3)] := hD
      refine lv_aload_n hx hb dX12_modeOn_28 rfl (lv_at hl 0 rfl) ?_
      refine lv_bipush (v := 21) hx hb dX12_modeOn_29 (by decide) ?_
      refine lv_iconst (v := 0) hx hb dX12_modeOn_31 (by decide) ?_
      refine as_i (D := G) (n := 154) (f := (upd (upd f 11 a1) 14 v_3)) hx hb hK hP hD hS 0 0 rfl rfl 21 rfl (by decide) (by first | decide | omega) dX12_modeOn_32 (fun H locs hP hD hS => ?_)
      have hP : va_P G vwCl [aI y h 154 (upd (upd (upd f 11 a1) 14 v_3) 21 0)] H := hP
      have hD : va_D A [aI y h 154 (upd (upd (upd f 11 a1) 14 v_3) 21 0)] := hD
      refine lv_aload_n hx hb dX12_modeOn_33 rfl (lv_at hl 0 rfl) ?_
      refine lv_bipush (v := 22) hx hb dX12_modeOn_34 (by decide) ?_
      refine lv_iconst (v := 0) hx hb dX12_modeOn_36 (by decide) ?_
      refine as_i (D := G) (n := 154) (f := (upd (upd (upd f 11 a1) 14 v_3) 21 0)) hx hb hK hP hD hS 0 0 rfl rfl 22 rfl (by decide) (by first | decide | omega) dX12_modeOn_37 (fun H locs hP hD hS => ?_)
      have hP : va_P G vwCl [aI y h 154 (upd (upd (upd (upd f 11 a1) 14 v_3) 21 0) 22 0)] H := hP
      have hD : va_D A [aI y h 154 (upd (upd (upd (upd f 11 a1) 14 v_3) 21 0) 22 0)] := hD
      refine lv_iload_n hx hb dX12_modeOn_38 rfl (lv_at hl 1 rfl) ?_
      refine lv_iconst (v := 2) hx hb dX12_modeOn_39 (by decide) ?_
      have J53_8 : ∀ (v_7 : Nat → Int32) (e_v_7 : v_7 = (if a1 = 2 then (upd (upd (upd (upd (upd (upd f 11 a1) 14 v_3) 21 0) 22 0) 15 0) 19 0) else (upd (upd (upd (upd f 11 a1) 14 v_3) 21 0) 22 0))) (H : Heap) (locs : List Loc) (hP : va_P G vwCl [aI y h 154 v_7] H) (hD : va_D A [aI y h 154 v_7]) (hS : va_S A s.heap H locs) (ls : Array Slot) (hl : lv_has ls 2 []), W p l e (headSpec wsX12_modeOn rmX12_modeOn).room s m ([.ref h, .int a1] : List Value).toArray below meth c H locs 0 0 QQ (F0 m 53 ls []) := by
        intro v_7 e_v_7 H locs hP hD hS ls hl
        rw [hQQ]
        exact W.vret hx hb hr (end_Hv () hP hD hS (congrArg (fun (z0 : Nat → Int32) => [aI y h 154 z0]) (by subst e_v_7; subst e_v_3; unfold s_X12_modeOn_w0; exact (if_neg c_1).symm))) hS.2.2 dX12_modeOn_53
      refine lv_icmp_ne (tgt := 53) hx hb dX12_modeOn_40 (by decide) (fun c_6 => ?_) (fun c_6 => ?_)
      · exact J53_8 _ (if_neg c_6).symm H locs hP hD hS ls (lv_sub hl [] rfl)
      · refine lv_aload_n hx hb dX12_modeOn_43 rfl (lv_at hl 0 rfl) ?_
        refine lv_bipush (v := 15) hx hb dX12_modeOn_44 (by decide) ?_
        refine lv_iconst (v := 0) hx hb dX12_modeOn_46 (by decide) ?_
        refine as_i (D := G) (n := 154) (f := (upd (upd (upd (upd f 11 a1) 14 v_3) 21 0) 22 0)) hx hb hK hP hD hS 0 0 rfl rfl 15 rfl (by decide) (by first | decide | omega) dX12_modeOn_47 (fun H locs hP hD hS => ?_)
        have hP : va_P G vwCl [aI y h 154 (upd (upd (upd (upd (upd f 11 a1) 14 v_3) 21 0) 22 0) 15 0)] H := hP
        have hD : va_D A [aI y h 154 (upd (upd (upd (upd (upd f 11 a1) 14 v_3) 21 0) 22 0) 15 0)] := hD
        refine lv_aload_n hx hb dX12_modeOn_48 rfl (lv_at hl 0 rfl) ?_
        refine lv_bipush (v := 19) hx hb dX12_modeOn_49 (by decide) ?_
        refine lv_iconst (v := 0) hx hb dX12_modeOn_51 (by decide) ?_
        refine as_i (D := G) (n := 154) (f := (upd (upd (upd (upd (upd f 11 a1) 14 v_3) 21 0) 22 0) 15 0)) hx hb hK hP hD hS 0 0 rfl rfl 19 rfl (by decide) (by first | decide | omega) dX12_modeOn_52 (fun H locs hP hD hS => ?_)
        have hP : va_P G vwCl [aI y h 154 (upd (upd (upd (upd (upd (upd f 11 a1) 14 v_3) 21 0) 22 0) 15 0) 19 0)] H := hP
        have hD : va_D A [aI y h 154 (upd (upd (upd (upd (upd (upd f 11 a1) 14 v_3) 21 0) 22 0) 15 0) 19 0)] := hD
        exact J53_8 _ (if_pos c_6).symm H locs hP hD hS ls (lv_sub hl [] rfl)
    refine lv_icmp_ne (tgt := 26) hx hb dX12_modeOn_19 (by decide) (fun c_2 => ?_) (fun c_2 => ?_)
    · refine lv_iconst (v := 0) hx hb dX12_modeOn_26 (by decide) ?_
      exact J27_5 _ (if_neg c_2).symm (Or.inl rfl) ls (lv_sub hl [0, 1] rfl)
    · refine lv_iconst (v := 1) hx hb dX12_modeOn_22 (by decide) ?_
      refine lv_goto (tgt := 27) hx hb dX12_modeOn_23 (by decide) ?_
      exact J27_5 _ (if_pos c_2).symm (Or.inr rfl) ls (lv_sub hl [0, 1] rfl)
  · rw [hQQ]
    exact W.vret hx hb hr (end_Hv () hP hD hS (congrArg (fun (z0 : Nat → Int32) => [aI y h 154 z0]) (by unfold s_X12_modeOn_w0; exact (if_pos c_1).symm))) hS.2.2 dX12_modeOn_8

def s_X12_disturbOn_w0 (a1 : Int32) (f : Nat → Int32) : Nat → Int32 := (upd (upd f 12 (s_X12_within_r ((f 12) + a1) (-9999) 9999)) 41 ((f 41) + 1))
abbrev rmX12_disturbOn : Room := ({ frames := 1, cells := 0, slots := 0, locals := 22 } : Room)
set_option maxHeartbeats 4000000 in
set_option maxRecDepth 100000 in
theorem c_X12_disturbOn (l : Launch) (G : va_G) (y : Nat → ClassId) (h : Nat) (a1 : Int32) (f : Nat → Int32) (sz : Nat) : Met l yX12_disturbOn wsX12_disturbOn rmX12_disturbOn (PH G y [.ref h, .int a1] [aI y h 154 f] sz) (QHv G (fun _ : Unit => [aI y h 154 (s_X12_disturbOn_w0 a1 f)]) (va_A [aI y h 154 f] sz)) 0 0 (va_A [aI y h 154 f] sz) := by
  refine Met.ofW (cc := cX12_disturbOn) (maxL := 2) (ret := none) (by decide) rfl ?_
  intro p e s m args below meth c s₁ B hml hv
  obtain ⟨rfl, hsz, hP, ⟨hK, hN⟩, hD0⟩ := hv
  have hx := B.exec
  have hb := B.bytes
  have hr := B.returns
  have hts := atoms_spec (ws := wsX12_disturbOn) B.pre
  have hown : s.vm.findClass RX12 = some m.cls := findClass_of_methodNamed B.named
  have hlocks := B.notSynchronized
  subst hsz
  have hD := hD0.self (sz := s.heap.size)
  generalize hAe : va_A [aI y h 154 f] s.heap.size = A at hD ⊢
  have hA : ∀ q : Nat, s.heap.size ≤ q → A q := fun q h => by rw [← hAe]; exact Or.inr h
  have hS : va_S A s.heap s.heap [] := va_S.rf
  have hP : va_P G vwCl [aI y h 154 f] s.heap := hP
  have hl := lv_entry ([.ref h, .int a1]) (n := 2) (Nat.le_of_ble_eq_true rfl)
  rw [lg_entry_eq]
  generalize (lg_sl ([.ref h, .int a1]) ++ List.replicate (2 - (lg_sl ([.ref h, .int a1])).length) Slot.unset).toArray = ls at hl ⊢
  have hl : lv_has ls 2 [(0, .ref h), (1, .int a1)] := hl
  refine lv_aload_n hx hb dX12_disturbOn_0 rfl (lv_at hl 0 rfl) ?_
  refine lv_bipush (v := 12) hx hb dX12_disturbOn_1 (by decide) ?_
  refine lv_aload_n hx hb dX12_disturbOn_3 rfl (lv_at hl 0 rfl) ?_
  refine lv_bipush (v := 12) hx hb dX12_disturbOn_4 (by decide) ?_
  refine al_i (D := G) (n := 154) (f := f) hx hb hK hP 0 0 rfl rfl 12 rfl (by decide) (by first | decide | omega) dX12_disturbOn_6 ?_
  refine lv_iload_n hx hb dX12_disturbOn_7 rfl (lv_at hl 1 rfl) ?_
  refine lv_iadd hx hb dX12_disturbOn_8 ?_
  refine lv_sipush (v := (-9999)) hx hb dX12_disturbOn_9 (by decide) ?_
  refine lv_sipush (v := 9999) hx hb dX12_disturbOn_12 (by decide) ?_
  refine cl_Ri (va_runS (As := [.int ((f 12) + a1), .int (-9999), .int 9999]) (rest := [.int 12, .ref h]) ⟨hx, hb, hml, hown, hts⟩ (c_X12_within l G y ((f 12) + a1) (-9999) 9999) (va_cwS 3 hts gX12_disturbOn_X12_within rfl rfl rfl (by decide +kernel) ⟨Nat.le_of_ble_eq_true rfl, Nat.le_of_ble_eq_true rfl⟩) (PR_S pnil hK hN) rfl rfl hl.1 rfl (lv_room (Nat.le_of_ble_eq_true rfl)) dX12_disturbOn_15 ⟨Nat.le_of_ble_eq_true rfl, Nat.le_of_ble_eq_true rfl⟩) ?_
  refine as_i (D := G) (n := 154) (f := f) hx hb hK hP hD hS 0 0 rfl rfl 12 rfl (by decide) (by first | decide | omega) dX12_disturbOn_18 (fun H locs hP hD hS => ?_)
  have hP : va_P G vwCl [aI y h 154 (upd f 12 (s_X12_within_r ((f 12) + a1) (-9999) 9999))] H := hP
  have hD : va_D A [aI y h 154 (upd f 12 (s_X12_within_r ((f 12) + a1) (-9999) 9999))] := hD
  refine lv_aload_n hx hb dX12_disturbOn_19 rfl (lv_at hl 0 rfl) ?_
  refine lv_bipush (v := 41) hx hb dX12_disturbOn_20 (by decide) ?_
  refine lv_dup2_11 hx hb dX12_disturbOn_22 rfl rfl ?_
  refine al_i (D := G) (n := 154) (f := (upd f 12 (s_X12_within_r ((f 12) + a1) (-9999) 9999))) hx hb hK hP 0 0 rfl rfl 41 rfl (by decide) (by first | decide | omega) dX12_disturbOn_23 ?_
  refine rw_i (x' := (f 41)) rfl ?_
  refine lv_iconst (v := 1) hx hb dX12_disturbOn_24 (by decide) ?_
  refine lv_iadd hx hb dX12_disturbOn_25 ?_
  refine as_i (D := G) (n := 154) (f := (upd f 12 (s_X12_within_r ((f 12) + a1) (-9999) 9999))) hx hb hK hP hD hS 0 0 rfl rfl 41 rfl (by decide) (by first | decide | omega) dX12_disturbOn_26 (fun H locs hP hD hS => ?_)
  have hP : va_P G vwCl [aI y h 154 (upd (upd f 12 (s_X12_within_r ((f 12) + a1) (-9999) 9999)) 41 ((f 41) + 1))] H := hP
  have hD : va_D A [aI y h 154 (upd (upd f 12 (s_X12_within_r ((f 12) + a1) (-9999) 9999)) 41 ((f 41) + 1))] := hD
  exact W.vret hx hb hr (end_Hv () hP hD hS rfl) hS.2.2 dX12_disturbOn_27

abbrev rmX12_copyPage : Room := ({ frames := 0, cells := 0, slots := 0, locals := 0 } : Room)
set_option maxHeartbeats 4000000 in
set_option maxRecDepth 100000 in
theorem c_X12_copyPage (l : Launch) (G : va_G) (y : Nat → ClassId) (h : Nat) (a1 : Int32) (k : Nat) (a2 : Int32) (f : Nat → Int32) (g : Nat → Int32) (u1 : Nat) (u2 : Nat) (n1 : Nat) (n2 : Nat) (sz : Nat) (e1 : a1 = nI u1) (b1 : u1 + 154 ≤ n1) (m1 : n1 < 1000000) (e2 : a2 = nI u2) (b2 : u2 + 154 ≤ n2) (m2 : n2 < 1000000) : Met l yX12_copyPage wsX12_copyPage rmX12_copyPage (PH G y [.ref h, .int a1, .ref k, .int a2] [aI y h n1 f, aI y k n2 g] sz) (QHv G (fun _ : Unit => [aI y h n1 f, aI y k n2 (va_cpy f g u1 u2 154)]) (va_A [aI y h n1 f, aI y k n2 g] sz)) 0 0 (va_A [aI y h n1 f, aI y k n2 g] sz) := by
  refine Met.ofW (cc := cX12_copyPage) (maxL := 5) (ret := none) (by decide) rfl ?_
  intro p e s m args below meth c s₁ B hml hv
  obtain ⟨rfl, hsz, hP, ⟨hK, hN⟩, hD0⟩ := hv
  have hx := B.exec
  have hb := B.bytes
  have hr := B.returns
  have hts := atoms_spec (ws := wsX12_copyPage) B.pre
  have hown : s.vm.findClass RX12 = some m.cls := findClass_of_methodNamed B.named
  have hlocks := B.notSynchronized
  subst hsz
  have hD := hD0.self (sz := s.heap.size)
  generalize hAe : va_A [aI y h n1 f, aI y k n2 g] s.heap.size = A at hD ⊢
  have hA : ∀ q : Nat, s.heap.size ≤ q → A q := fun q h => by rw [← hAe]; exact Or.inr h
  have hS : va_S A s.heap s.heap [] := va_S.rf
  have hP : va_P G vwCl [aI y h n1 f, aI y k n2 g] s.heap := hP
  have hl := lv_entry ([.ref h, .int a1, .ref k, .int a2]) (n := 5) (Nat.le_of_ble_eq_true rfl)
  rw [lg_entry_eq]
  generalize (lg_sl ([.ref h, .int a1, .ref k, .int a2]) ++ List.replicate (5 - (lg_sl ([.ref h, .int a1, .ref k, .int a2])).length) Slot.unset).toArray = ls at hl ⊢
  have hl : lv_has ls 5 [(0, .ref h), (1, .int a1), (2, .ref k), (3, .int a2)] := hl
  obtain ⟨QQ, hQQ⟩ : ∃ zq9, zq9 = MQ below (QHv G (fun _ : Unit => [aI y h n1 f, aI y k n2 (va_cpy f g u1 u2 154)]) A) ([.ref h, .int a1, .ref k, .int a2] : List Value).toArray s 0 0 A := ⟨_, rfl⟩
  rw [← hQQ]
  refine lv_iconst (v := 0) hx hb dX12_copyPage_0 (by decide) ?_
  refine lv_istore (lv' := [(4, .int 0), (0, .ref h), (1, .int a1), (2, .ref k), (3, .int a2)]) hx hb dX12_copyPage_1 hl (by decide) rfl (fun ls hl => ?_)
  have LOOP3_1 : ∀ (n_2 : Nat) (k0 : Nat) (x4 : Int32) (w : Nat → Int32) (hx4 : x4 = nI k0) (hk : k0 ≤ 154) (hw : w = va_cpy f g u1 u2 k0) (hn_4 : 154 - k0 < n_2) (H : Heap) (locs : List Loc) (hP : va_P G vwCl [aI y h n1 f, aI y k n2 w] H) (hD : va_D A [aI y h n1 f, aI y k n2 w]) (hS : va_S A s.heap H locs) (ls : Array Slot) (hl : lv_has ls 5 [(4, .int x4), (0, .ref h), (1, .int a1), (2, .ref k), (3, .int a2)]), W p l e (headSpec wsX12_copyPage rmX12_copyPage).room s m ([.ref h, .int a1, .ref k, .int a2] : List Value).toArray below meth c H locs 0 0 QQ (F0 m 3 ls []) := by
    intro n_2
    induction n_2 with
    | zero => intro k0 x4 w hx4 hk hw hn_4 H locs hP hD hS ls hl; exact absurd hn_4 (Nat.not_lt_zero _)
    | succ n_2 ih_3 =>
      intro k0 x4 w hx4 hk hw hn_4 H locs hP hD hS ls hl
      refine lv_iload hx hb dX12_copyPage_3 (lv_at hl 0 rfl) ?_
      refine lv_sipush (v := 154) hx hb dX12_copyPage_5 (by decide) ?_
      refine lv_icmp_ge (tgt := 29) hx hb dX12_copyPage_8 (by decide) (fun c_5 => ?_) (fun c_5 => ?_)
      · rw [hQQ]
        have hk9 : 154 ≤ k0 := kge hx4 rfl (by omega) (by decide) c_5
        have hk8 : k0 = 154 := by omega
        have hw2 : w = va_cpy f g u1 u2 154 := by rw [hw, hk8]
        exact W.vret hx hb hr (end_Hv () hP hD hS (congrArg (fun z : Nat → Int32 => [aI y h n1 f, aI y k n2 z]) hw2)) hS.2.2 dX12_copyPage_29
      · have hk9 : k0 < 154 := klt hx4 rfl (by omega) (by decide) c_5
        refine lv_aload_n hx hb dX12_copyPage_11 rfl (lv_at hl 3 rfl) ?_
        refine lv_iload_n hx hb dX12_copyPage_12 rfl (lv_at hl 4 rfl) ?_
        refine lv_iload hx hb dX12_copyPage_13 (lv_at hl 0 rfl) ?_
        refine lv_iadd hx hb dX12_copyPage_15 ?_
        refine lv_aload_n hx hb dX12_copyPage_16 rfl (lv_at hl 1 rfl) ?_
        refine lv_iload_n hx hb dX12_copyPage_17 rfl (lv_at hl 2 rfl) ?_
        refine lv_iload hx hb dX12_copyPage_18 (lv_at hl 0 rfl) ?_
        refine lv_iadd hx hb dX12_copyPage_20 ?_
        refine al_i (D := G) (n := n1) (f := f) hx hb hK hP 0 0 rfl rfl (u1 + k0) (by rw [e1, hx4]; exact nI_add u1 k0) (by omega) (by first | decide | omega) dX12_copyPage_21 ?_
        refine as_i (D := G) (n := n2) (f := w) hx hb hK hP hD hS 1 0 rfl rfl (u2 + k0) (by rw [e2, hx4]; exact nI_add u2 k0) (by omega) (by first | decide | omega) dX12_copyPage_22 (fun H locs hP hD hS => ?_)
        have hP : va_P G vwCl [aI y h n1 f, aI y k n2 (upd w (u2 + k0) (f (u1 + k0)))] H := hP
        have hD : va_D A [aI y h n1 f, aI y k n2 (upd w (u2 + k0) (f (u1 + k0)))] := hD
        refine lv_iinc (v := (x4 + 1)) (lv' := [(4, .int (x4 + 1)), (0, .ref h), (1, .int a1), (2, .ref k), (3, .int a2)]) hx hb dX12_copyPage_23 hl (k := 0) rfl (by first | rfl | decide) (by decide) rfl (fun ls hl => ?_)
        refine lv_goto (tgt := 3) hx hb dX12_copyPage_26 (by decide) ?_
        exact ih_3 (k0 + 1) (x4 + 1) (upd w (u2 + k0) (f (u1 + k0))) (by rw [hx4]; exact nI_1 k0) (by omega) (by rw [hw]; exact cpyF_s f g u1 u2 k0) (by omega) H locs hP hD hS ls (lv_sub hl [0, 1, 2, 3, 4] rfl)
  exact LOOP3_1 (154 - 0 + 1) 0 0 g rfl (by omega) (cpyF_0 f g u1 u2).symm (Nat.lt_succ_self _) s.heap [] hP hD hS ls (lv_sub hl [0, 1, 2, 3, 4] rfl)

def s_X12_begin_w0 (f : Nat → Int32) : Nat → Int32 := (upd (upd (upd (upd (upd (upd (upd (upd (upd (upd (zrF 154 f) 0 10) 1 8) 2 2) 3 20) 4 20) 5 100) 6 3) 7 20) 8 50) 12 20)
abbrev rmX12_begin : Room := ({ frames := 0, cells := 0, slots := 0, locals := 0 } : Room)
set_option maxHeartbeats 4000000 in
set_option maxRecDepth 100000 in
theorem c_X12_begin (l : Launch) (G : va_G) (y : Nat → ClassId) (h : Nat) (f : Nat → Int32) (sz : Nat) : Met l yX12_begin wsX12_begin rmX12_begin (PH G y [.ref h] [aI y h 154 f] sz) (QHv G (fun _ : Unit => [aI y h 154 (s_X12_begin_w0 f)]) (va_A [aI y h 154 f] sz)) 0 0 (va_A [aI y h 154 f] sz) := by
  refine Met.ofW (cc := cX12_begin) (maxL := 2) (ret := none) (by decide) rfl ?_
  intro p e s m args below meth c s₁ B hml hv
  obtain ⟨rfl, hsz, hP, ⟨hK, hN⟩, hD0⟩ := hv
  have hx := B.exec
  have hb := B.bytes
  have hr := B.returns
  have hts := atoms_spec (ws := wsX12_begin) B.pre
  have hown : s.vm.findClass RX12 = some m.cls := findClass_of_methodNamed B.named
  have hlocks := B.notSynchronized
  subst hsz
  have hD := hD0.self (sz := s.heap.size)
  generalize hAe : va_A [aI y h 154 f] s.heap.size = A at hD ⊢
  have hA : ∀ q : Nat, s.heap.size ≤ q → A q := fun q h => by rw [← hAe]; exact Or.inr h
  have hS : va_S A s.heap s.heap [] := va_S.rf
  have hP : va_P G vwCl [aI y h 154 f] s.heap := hP
  have hl := lv_entry ([.ref h]) (n := 2) (Nat.le_of_ble_eq_true rfl)
  rw [lg_entry_eq]
  generalize (lg_sl ([.ref h]) ++ List.replicate (2 - (lg_sl ([.ref h])).length) Slot.unset).toArray = ls at hl ⊢
  have hl : lv_has ls 2 [(0, .ref h)] := hl
  obtain ⟨QQ, hQQ⟩ : ∃ zq9, zq9 = MQ below (QHv G (fun _ : Unit => [aI y h 154 (s_X12_begin_w0 f)]) A) ([.ref h] : List Value).toArray s 0 0 A := ⟨_, rfl⟩
  rw [← hQQ]
  refine lv_iconst (v := 0) hx hb dX12_begin_0 (by decide) ?_
  refine lv_istore_n (lv' := [(1, .int 0), (0, .ref h)]) hx hb dX12_begin_1 rfl hl (by decide) rfl (fun ls hl => ?_)
  have LOOP2_1 : ∀ (n_2 : Nat) (k0 : Nat) (x1 : Int32) (w : Nat → Int32) (hx1 : x1 = nI k0) (hk : k0 ≤ 154) (hw : w = zrF k0 f) (hn_4 : 154 - k0 < n_2) (H : Heap) (locs : List Loc) (hP : va_P G vwCl [aI y h 154 w] H) (hD : va_D A [aI y h 154 w]) (hS : va_S A s.heap H locs) (ls : Array Slot) (hl : lv_has ls 2 [(1, .int x1), (0, .ref h)]), W p l e (headSpec wsX12_begin rmX12_begin).room s m ([.ref h] : List Value).toArray below meth c H locs 0 0 QQ (F0 m 2 ls []) := by
    intro n_2
    induction n_2 with
    | zero => intro k0 x1 w hx1 hk hw hn_4 H locs hP hD hS ls hl; exact absurd hn_4 (Nat.not_lt_zero _)
    | succ n_2 ih_3 =>
      intro k0 x1 w hx1 hk hw hn_4 H locs hP hD hS ls hl
      refine lv_iload_n hx hb dX12_begin_2 rfl (lv_at hl 0 rfl) ?_
      refine lv_sipush (v := 154) hx hb dX12_begin_3 (by decide) ?_
      refine lv_icmp_ge (tgt := 19) hx hb dX12_begin_6 (by decide) (fun c_5 => ?_) (fun c_5 => ?_)
      · have hk9 : 154 ≤ k0 := kge hx1 rfl (by omega) (by decide) c_5
        have hw2 : w = zrF 154 f := by rw [hw, show k0 = 154 by omega]
        subst hw2
        refine lv_aload_n hx hb dX12_begin_19 rfl (lv_at hl 1 rfl) ?_
        refine lv_iconst (v := 0) hx hb dX12_begin_20 (by decide) ?_
        refine lv_bipush (v := 10) hx hb dX12_begin_21 (by decide) ?_
        refine as_i (D := G) (n := 154) (f := (zrF 154 f)) hx hb hK hP hD hS 0 0 rfl rfl 0 rfl (by decide) (by first | decide | omega) dX12_begin_23 (fun H locs hP hD hS => ?_)
        have hP : va_P G vwCl [aI y h 154 (upd (zrF 154 f) 0 10)] H := hP
        have hD : va_D A [aI y h 154 (upd (zrF 154 f) 0 10)] := hD
        refine lv_aload_n hx hb dX12_begin_24 rfl (lv_at hl 1 rfl) ?_
        refine lv_iconst (v := 1) hx hb dX12_begin_25 (by decide) ?_
        refine lv_bipush (v := 8) hx hb dX12_begin_26 (by decide) ?_
        refine as_i (D := G) (n := 154) (f := (upd (zrF 154 f) 0 10)) hx hb hK hP hD hS 0 0 rfl rfl 1 rfl (by decide) (by first | decide | omega) dX12_begin_28 (fun H locs hP hD hS => ?_)
        have hP : va_P G vwCl [aI y h 154 (upd (upd (zrF 154 f) 0 10) 1 8)] H := hP
        have hD : va_D A [aI y h 154 (upd (upd (zrF 154 f) 0 10) 1 8)] := hD
        refine lv_aload_n hx hb dX12_begin_29 rfl (lv_at hl 1 rfl) ?_
        refine lv_iconst (v := 2) hx hb dX12_begin_30 (by decide) ?_
        refine lv_iconst (v := 2) hx hb dX12_begin_31 (by decide) ?_
        refine as_i (D := G) (n := 154) (f := (upd (upd (zrF 154 f) 0 10) 1 8)) hx hb hK hP hD hS 0 0 rfl rfl 2 rfl (by decide) (by first | decide | omega) dX12_begin_32 (fun H locs hP hD hS => ?_)
        have hP : va_P G vwCl [aI y h 154 (upd (upd (upd (zrF 154 f) 0 10) 1 8) 2 2)] H := hP
        have hD : va_D A [aI y h 154 (upd (upd (upd (zrF 154 f) 0 10) 1 8) 2 2)] := hD
        refine lv_aload_n hx hb dX12_begin_33 rfl (lv_at hl 1 rfl) ?_
        refine lv_iconst (v := 3) hx hb dX12_begin_34 (by decide) ?_
        refine lv_bipush (v := 20) hx hb dX12_begin_35 (by decide) ?_
        refine as_i (D := G) (n := 154) (f := (upd (upd (upd (zrF 154 f) 0 10) 1 8) 2 2)) hx hb hK hP hD hS 0 0 rfl rfl 3 rfl (by decide) (by first | decide | omega) dX12_begin_37 (fun H locs hP hD hS => ?_)
        have hP : va_P G vwCl [aI y h 154 (upd (upd (upd (upd (zrF 154 f) 0 10) 1 8) 2 2) 3 20)] H := hP
        have hD : va_D A [aI y h 154 (upd (upd (upd (upd (zrF 154 f) 0 10) 1 8) 2 2) 3 20)] := hD
        refine lv_aload_n hx hb dX12_begin_38 rfl (lv_at hl 1 rfl) ?_
        refine lv_iconst (v := 4) hx hb dX12_begin_39 (by decide) ?_
        refine lv_bipush (v := 20) hx hb dX12_begin_40 (by decide) ?_
        refine as_i (D := G) (n := 154) (f := (upd (upd (upd (upd (zrF 154 f) 0 10) 1 8) 2 2) 3 20)) hx hb hK hP hD hS 0 0 rfl rfl 4 rfl (by decide) (by first | decide | omega) dX12_begin_42 (fun H locs hP hD hS => ?_)
        have hP : va_P G vwCl [aI y h 154 (upd (upd (upd (upd (upd (zrF 154 f) 0 10) 1 8) 2 2) 3 20) 4 20)] H := hP
        have hD : va_D A [aI y h 154 (upd (upd (upd (upd (upd (zrF 154 f) 0 10) 1 8) 2 2) 3 20) 4 20)] := hD
        refine lv_aload_n hx hb dX12_begin_43 rfl (lv_at hl 1 rfl) ?_
        refine lv_iconst (v := 5) hx hb dX12_begin_44 (by decide) ?_
        refine lv_bipush (v := 100) hx hb dX12_begin_45 (by decide) ?_
        refine as_i (D := G) (n := 154) (f := (upd (upd (upd (upd (upd (zrF 154 f) 0 10) 1 8) 2 2) 3 20) 4 20)) hx hb hK hP hD hS 0 0 rfl rfl 5 rfl (by decide) (by first | decide | omega) dX12_begin_47 (fun H locs hP hD hS => ?_)
        have hP : va_P G vwCl [aI y h 154 (upd (upd (upd (upd (upd (upd (zrF 154 f) 0 10) 1 8) 2 2) 3 20) 4 20) 5 100)] H := hP
        have hD : va_D A [aI y h 154 (upd (upd (upd (upd (upd (upd (zrF 154 f) 0 10) 1 8) 2 2) 3 20) 4 20) 5 100)] := hD
        refine lv_aload_n hx hb dX12_begin_48 rfl (lv_at hl 1 rfl) ?_
        refine lv_bipush (v := 6) hx hb dX12_begin_49 (by decide) ?_
        refine lv_iconst (v := 3) hx hb dX12_begin_51 (by decide) ?_
        refine as_i (D := G) (n := 154) (f := (upd (upd (upd (upd (upd (upd (zrF 154 f) 0 10) 1 8) 2 2) 3 20) 4 20) 5 100)) hx hb hK hP hD hS 0 0 rfl rfl 6 rfl (by decide) (by first | decide | omega) dX12_begin_52 (fun H locs hP hD hS => ?_)
        have hP : va_P G vwCl [aI y h 154 (upd (upd (upd (upd (upd (upd (upd (zrF 154 f) 0 10) 1 8) 2 2) 3 20) 4 20) 5 100) 6 3)] H := hP
        have hD : va_D A [aI y h 154 (upd (upd (upd (upd (upd (upd (upd (zrF 154 f) 0 10) 1 8) 2 2) 3 20) 4 20) 5 100) 6 3)] := hD
        refine lv_aload_n hx hb dX12_begin_53 rfl (lv_at hl 1 rfl) ?_
        refine lv_bipush (v := 7) hx hb dX12_begin_54 (by decide) ?_
        refine lv_bipush (v := 20) hx hb dX12_begin_56 (by decide) ?_
        refine as_i (D := G) (n := 154) (f := (upd (upd (upd (upd (upd (upd (upd (zrF 154 f) 0 10) 1 8) 2 2) 3 20) 4 20) 5 100) 6 3)) hx hb hK hP hD hS 0 0 rfl rfl 7 rfl (by decide) (by first | decide | omega) dX12_begin_58 (fun H locs hP hD hS => ?_)
        have hP : va_P G vwCl [aI y h 154 (upd (upd (upd (upd (upd (upd (upd (upd (zrF 154 f) 0 10) 1 8) 2 2) 3 20) 4 20) 5 100) 6 3) 7 20)] H := hP
        have hD : va_D A [aI y h 154 (upd (upd (upd (upd (upd (upd (upd (upd (zrF 154 f) 0 10) 1 8) 2 2) 3 20) 4 20) 5 100) 6 3) 7 20)] := hD
        refine lv_aload_n hx hb dX12_begin_59 rfl (lv_at hl 1 rfl) ?_
        refine lv_bipush (v := 8) hx hb dX12_begin_60 (by decide) ?_
        refine lv_bipush (v := 50) hx hb dX12_begin_62 (by decide) ?_
        refine as_i (D := G) (n := 154) (f := (upd (upd (upd (upd (upd (upd (upd (upd (zrF 154 f) 0 10) 1 8) 2 2) 3 20) 4 20) 5 100) 6 3) 7 20)) hx hb hK hP hD hS 0 0 rfl rfl 8 rfl (by decide) (by first | decide | omega) dX12_begin_64 (fun H locs hP hD hS => ?_)
        have hP : va_P G vwCl [aI y h 154 (upd (upd (upd (upd (upd (upd (upd (upd (upd (zrF 154 f) 0 10) 1 8) 2 2) 3 20) 4 20) 5 100) 6 3) 7 20) 8 50)] H := hP
        have hD : va_D A [aI y h 154 (upd (upd (upd (upd (upd (upd (upd (upd (upd (zrF 154 f) 0 10) 1 8) 2 2) 3 20) 4 20) 5 100) 6 3) 7 20) 8 50)] := hD
        refine lv_aload_n hx hb dX12_begin_65 rfl (lv_at hl 1 rfl) ?_
        refine lv_bipush (v := 12) hx hb dX12_begin_66 (by decide) ?_
        refine lv_bipush (v := 20) hx hb dX12_begin_68 (by decide) ?_
        refine as_i (D := G) (n := 154) (f := (upd (upd (upd (upd (upd (upd (upd (upd (upd (zrF 154 f) 0 10) 1 8) 2 2) 3 20) 4 20) 5 100) 6 3) 7 20) 8 50)) hx hb hK hP hD hS 0 0 rfl rfl 12 rfl (by decide) (by first | decide | omega) dX12_begin_70 (fun H locs hP hD hS => ?_)
        have hP : va_P G vwCl [aI y h 154 (upd (upd (upd (upd (upd (upd (upd (upd (upd (upd (zrF 154 f) 0 10) 1 8) 2 2) 3 20) 4 20) 5 100) 6 3) 7 20) 8 50) 12 20)] H := hP
        have hD : va_D A [aI y h 154 (upd (upd (upd (upd (upd (upd (upd (upd (upd (upd (zrF 154 f) 0 10) 1 8) 2 2) 3 20) 4 20) 5 100) 6 3) 7 20) 8 50) 12 20)] := hD
        rw [hQQ]
        exact W.vret hx hb hr (end_Hv () hP hD hS rfl) hS.2.2 dX12_begin_71
      · have hk9 : k0 < 154 := klt hx1 rfl (by omega) (by decide) c_5
        refine lv_aload_n hx hb dX12_begin_9 rfl (lv_at hl 1 rfl) ?_
        refine lv_iload_n hx hb dX12_begin_10 rfl (lv_at hl 0 rfl) ?_
        refine lv_iconst (v := 0) hx hb dX12_begin_11 (by decide) ?_
        refine as_i (D := G) (n := 154) (f := w) hx hb hK hP hD hS 0 0 rfl rfl k0 hx1 hk9 (by first | decide | omega) dX12_begin_12 (fun H locs hP hD hS => ?_)
        have hP : va_P G vwCl [aI y h 154 (upd w k0 0)] H := hP
        have hD : va_D A [aI y h 154 (upd w k0 0)] := hD
        refine lv_iinc (v := (x1 + 1)) (lv' := [(1, .int (x1 + 1)), (0, .ref h)]) hx hb dX12_begin_13 hl (k := 0) rfl (by first | rfl | decide) (by decide) rfl (fun ls hl => ?_)
        refine lv_goto (tgt := 2) hx hb dX12_begin_16 (by decide) ?_
        exact ih_3 (k0 + 1) (x1 + 1) (upd w k0 0) (by rw [hx1]; exact nI_1 k0) (by omega) (by rw [hw]; exact zrF_s k0 f) (by omega) H locs hP hD hS ls (lv_sub hl [0, 1] rfl)
  exact LOOP2_1 (154 - 0 + 1) 0 0 f rfl (by omega) (zrF_0 f).symm (Nat.lt_succ_self _) s.heap [] hP hD hS ls (lv_sub hl [0, 1] rfl)

def s_X12_warm_w0 (f : Nat → Int32) : Nat → Int32 := (let v_2 : Int32 := (if ((((f 3) + ((f 0) * (f (25 + tn (f 2))))) - (f 12)) / (f 1)) = 0 then (if (((f 3) + ((f 0) * (f (25 + tn (f 2))))) - (f 12)) = 0 then ((((f 3) + ((f 0) * (f (25 + tn (f 2))))) - (f 12)) / (f 1)) else (if (((f 3) + ((f 0) * (f (25 + tn (f 2))))) - (f 12)) ≤ 0 then (-1) else 1)) else ((((f 3) + ((f 0) * (f (25 + tn (f 2))))) - (f 12)) / (f 1))); (upd f 12 (s_X12_within_r ((f 12) + v_2) (-9999) 9999)))
abbrev rmX12_warm : Room := ({ frames := 1, cells := 0, slots := 0, locals := 22 } : Room)
set_option maxHeartbeats 4000000 in
set_option maxRecDepth 100000 in
theorem c_X12_warm (l : Launch) (G : va_G) (y : Nat → ClassId) (h : Nat) (f : Nat → Int32) (sz : Nat) (h1 : ¬ f 1 = 0) (h2 : vp_in (f 2) 10) : Met l yX12_warm wsX12_warm rmX12_warm (PH G y [.ref h] [aI y h 154 f] sz) (QHv G (fun _ : Unit => [aI y h 154 (s_X12_warm_w0 f)]) (va_A [aI y h 154 f] sz)) 0 0 (va_A [aI y h 154 f] sz) := by
  refine Met.ofW (cc := cX12_warm) (maxL := 3) (ret := none) (by decide) rfl ?_
  intro p e s m args below meth c s₁ B hml hv
  obtain ⟨rfl, hsz, hP, ⟨hK, hN⟩, hD0⟩ := hv
  have hx := B.exec
  have hb := B.bytes
  have hr := B.returns
  have hts := atoms_spec (ws := wsX12_warm) B.pre
  have hown : s.vm.findClass RX12 = some m.cls := findClass_of_methodNamed B.named
  have hlocks := B.notSynchronized
  subst hsz
  have hD := hD0.self (sz := s.heap.size)
  generalize hAe : va_A [aI y h 154 f] s.heap.size = A at hD ⊢
  have hA : ∀ q : Nat, s.heap.size ≤ q → A q := fun q h => by rw [← hAe]; exact Or.inr h
  have hS : va_S A s.heap s.heap [] := va_S.rf
  have hP : va_P G vwCl [aI y h 154 f] s.heap := hP
  have hl := lv_entry ([.ref h]) (n := 3) (Nat.le_of_ble_eq_true rfl)
  rw [lg_entry_eq]
  generalize (lg_sl ([.ref h]) ++ List.replicate (3 - (lg_sl ([.ref h])).length) Slot.unset).toArray = ls at hl ⊢
  have hl : lv_has ls 3 [(0, .ref h)] := hl
  obtain ⟨QQ, hQQ⟩ : ∃ zq9, zq9 = MQ below (QHv G (fun _ : Unit => [aI y h 154 (s_X12_warm_w0 f)]) A) ([.ref h] : List Value).toArray s 0 0 A := ⟨_, rfl⟩
  rw [← hQQ]
  refine lv_aload_n hx hb dX12_warm_0 rfl (lv_at hl 0 rfl) ?_
  refine lv_iconst (v := 3) hx hb dX12_warm_1 (by decide) ?_
  refine al_i (D := G) (n := 154) (f := f) hx hb hK hP 0 0 rfl rfl 3 rfl (by decide) (by first | decide | omega) dX12_warm_2 ?_
  refine lv_aload_n hx hb dX12_warm_3 rfl (lv_at hl 0 rfl) ?_
  refine lv_iconst (v := 0) hx hb dX12_warm_4 (by decide) ?_
  refine al_i (D := G) (n := 154) (f := f) hx hb hK hP 0 0 rfl rfl 0 rfl (by decide) (by first | decide | omega) dX12_warm_5 ?_
  refine lv_aload_n hx hb dX12_warm_6 rfl (lv_at hl 0 rfl) ?_
  refine lv_bipush (v := 25) hx hb dX12_warm_7 (by decide) ?_
  refine lv_aload_n hx hb dX12_warm_9 rfl (lv_at hl 0 rfl) ?_
  refine lv_iconst (v := 2) hx hb dX12_warm_10 (by decide) ?_
  refine al_i (D := G) (n := 154) (f := f) hx hb hK hP 0 0 rfl rfl 2 rfl (by decide) (by first | decide | omega) dX12_warm_11 ?_
  refine lv_iadd hx hb dX12_warm_12 ?_
  refine al_i (D := G) (n := 154) (f := f) hx hb hK hP 0 0 rfl rfl (25 + tn (f 2)) (nI_plus 25 h2 (by decide)) (by have := (in_tn h2 (by decide)).2; omega) (by first | decide | omega) dX12_warm_13 ?_
  refine lv_imul hx hb dX12_warm_14 ?_
  refine lv_iadd hx hb dX12_warm_15 ?_
  refine lv_aload_n hx hb dX12_warm_16 rfl (lv_at hl 0 rfl) ?_
  refine lv_bipush (v := 12) hx hb dX12_warm_17 (by decide) ?_
  refine al_i (D := G) (n := 154) (f := f) hx hb hK hP 0 0 rfl rfl 12 rfl (by decide) (by first | decide | omega) dX12_warm_19 ?_
  refine lv_isub hx hb dX12_warm_20 ?_
  refine lv_istore_n (lv' := [(1, .int (((f 3) + ((f 0) * (f (25 + tn (f 2))))) - (f 12))), (0, .ref h)]) hx hb dX12_warm_21 rfl hl (by decide) rfl (fun ls hl => ?_)
  refine lv_iload_n hx hb dX12_warm_22 rfl (lv_at hl 0 rfl) ?_
  refine lv_aload_n hx hb dX12_warm_23 rfl (lv_at hl 1 rfl) ?_
  refine lv_iconst (v := 1) hx hb dX12_warm_24 (by decide) ?_
  refine al_i (D := G) (n := 154) (f := f) hx hb hK hP 0 0 rfl rfl 1 rfl (by decide) (by first | decide | omega) dX12_warm_25 ?_
  refine lv_idiv hx hb dX12_warm_26 h1 ?_
  refine lv_istore_n (lv' := [(2, .int ((((f 3) + ((f 0) * (f (25 + tn (f 2))))) - (f 12)) / (f 1))), (1, .int (((f 3) + ((f 0) * (f (25 + tn (f 2))))) - (f 12))), (0, .ref h)]) hx hb dX12_warm_27 rfl hl (by decide) rfl (fun ls hl => ?_)
  refine lv_iload_n hx hb dX12_warm_28 rfl (lv_at hl 0 rfl) ?_
  have J49_3 : ∀ (v_2 : Int32) (e_v_2 : v_2 = (if ((((f 3) + ((f 0) * (f (25 + tn (f 2))))) - (f 12)) / (f 1)) = 0 then (if (((f 3) + ((f 0) * (f (25 + tn (f 2))))) - (f 12)) = 0 then ((((f 3) + ((f 0) * (f (25 + tn (f 2))))) - (f 12)) / (f 1)) else (if (((f 3) + ((f 0) * (f (25 + tn (f 2))))) - (f 12)) ≤ 0 then (-1) else 1)) else ((((f 3) + ((f 0) * (f (25 + tn (f 2))))) - (f 12)) / (f 1)))) (ls : Array Slot) (hl : lv_has ls 3 [(0, .ref h)]), W p l e (headSpec wsX12_warm rmX12_warm).room s m ([.ref h] : List Value).toArray below meth c s.heap [] 0 0 QQ (F0 m 49 ls [.int v_2]) := by
    intro v_2 e_v_2 ls hl
    refine lv_istore_n (lv' := [(2, .int v_2), (0, .ref h)]) hx hb dX12_warm_49 rfl hl (by decide) rfl (fun ls hl => ?_)
    refine lv_aload_n hx hb dX12_warm_50 rfl (lv_at hl 1 rfl) ?_
    refine lv_bipush (v := 12) hx hb dX12_warm_51 (by decide) ?_
    refine lv_aload_n hx hb dX12_warm_53 rfl (lv_at hl 1 rfl) ?_
    refine lv_bipush (v := 12) hx hb dX12_warm_54 (by decide) ?_
    refine al_i (D := G) (n := 154) (f := f) hx hb hK hP 0 0 rfl rfl 12 rfl (by decide) (by first | decide | omega) dX12_warm_56 ?_
    refine lv_iload_n hx hb dX12_warm_57 rfl (lv_at hl 0 rfl) ?_
    refine lv_iadd hx hb dX12_warm_58 ?_
    refine lv_sipush (v := (-9999)) hx hb dX12_warm_59 (by decide) ?_
    refine lv_sipush (v := 9999) hx hb dX12_warm_62 (by decide) ?_
    refine cl_Ri (va_runS (As := [.int ((f 12) + v_2), .int (-9999), .int 9999]) (rest := [.int 12, .ref h]) ⟨hx, hb, hml, hown, hts⟩ (c_X12_within l G y ((f 12) + v_2) (-9999) 9999) (va_cwS 3 hts gX12_warm_X12_within rfl rfl rfl (by decide +kernel) ⟨Nat.le_of_ble_eq_true rfl, Nat.le_of_ble_eq_true rfl⟩) (PR_S pnil hK hN) rfl rfl hl.1 rfl (lv_room (Nat.le_of_ble_eq_true rfl)) dX12_warm_65 ⟨Nat.le_of_ble_eq_true rfl, Nat.le_of_ble_eq_true rfl⟩) ?_
    refine as_i (D := G) (n := 154) (f := f) hx hb hK hP hD hS 0 0 rfl rfl 12 rfl (by decide) (by first | decide | omega) dX12_warm_68 (fun H locs hP hD hS => ?_)
    have hP : va_P G vwCl [aI y h 154 (upd f 12 (s_X12_within_r ((f 12) + v_2) (-9999) 9999))] H := hP
    have hD : va_D A [aI y h 154 (upd f 12 (s_X12_within_r ((f 12) + v_2) (-9999) 9999))] := hD
    rw [hQQ]
    exact W.vret hx hb hr (end_Hv () hP hD hS (congrArg (fun (z0 : Nat → Int32) => [aI y h 154 z0]) (by subst e_v_2; unfold s_X12_warm_w0; exact rfl))) hS.2.2 dX12_warm_69
  refine lv_if_ne (tgt := 48) hx hb dX12_warm_29 (by decide) (fun c_1 => ?_) (fun c_1 => ?_)
  · refine lv_iload_n hx hb dX12_warm_48 rfl (lv_at hl 0 rfl) ?_
    exact J49_3 _ (if_neg c_1).symm ls (lv_sub hl [2] rfl)
  · refine lv_iload_n hx hb dX12_warm_32 rfl (lv_at hl 1 rfl) ?_
    refine lv_if_eq (tgt := 48) hx hb dX12_warm_33 (by decide) (fun c_4 => ?_) (fun c_4 => ?_)
    · refine lv_iload_n hx hb dX12_warm_48 rfl (lv_at hl 0 rfl) ?_
      exact J49_3 _ ((if_pos c_1).trans (if_pos c_4)).symm ls (lv_sub hl [2] rfl)
    · refine lv_iload_n hx hb dX12_warm_36 rfl (lv_at hl 1 rfl) ?_
      refine lv_if_le (tgt := 44) hx hb dX12_warm_37 (by decide) (fun c_5 => ?_) (fun c_5 => ?_)
      · refine lv_iconst (v := (-1)) hx hb dX12_warm_44 (by decide) ?_
        refine lv_goto (tgt := 49) hx hb dX12_warm_45 (by decide) ?_
        exact J49_3 _ ((if_pos c_1).trans ((if_neg c_4).trans (if_pos c_5))).symm ls (lv_sub hl [2] rfl)
      · refine lv_iconst (v := 1) hx hb dX12_warm_40 (by decide) ?_
        refine lv_goto (tgt := 49) hx hb dX12_warm_41 (by decide) ?_
        exact J49_3 _ ((if_pos c_1).trans ((if_neg c_4).trans (if_neg c_5))).symm ls (lv_sub hl [2] rfl)

def s_X12_dropSwing_w0 (a1 : Int32) (f : Nat → Int32) : Nat → Int32 := (upd (drF (42 + 4 * tn a1) 118 f) 16 ((f 16) - 1))
abbrev rmX12_dropSwing : Room := ({ frames := 0, cells := 0, slots := 0, locals := 0 } : Room)
set_option maxHeartbeats 4000000 in
set_option maxRecDepth 100000 in
theorem c_X12_dropSwing (l : Launch) (G : va_G) (y : Nat → ClassId) (h : Nat) (a1 : Int32) (f : Nat → Int32) (sz : Nat) (h1 : vp_in a1 20) : Met l yX12_dropSwing wsX12_dropSwing rmX12_dropSwing (PH G y [.ref h, .int a1] [aI y h 154 f] sz) (QHv G (fun _ : Unit => [aI y h 154 (s_X12_dropSwing_w0 a1 f)]) (va_A [aI y h 154 f] sz)) 0 0 (va_A [aI y h 154 f] sz) := by
  refine Met.ofW (cc := cX12_dropSwing) (maxL := 3) (ret := none) (by decide) rfl ?_
  intro p e s m args below meth c s₁ B hml hv
  obtain ⟨rfl, hsz, hP, ⟨hK, hN⟩, hD0⟩ := hv
  have hx := B.exec
  have hb := B.bytes
  have hr := B.returns
  have hts := atoms_spec (ws := wsX12_dropSwing) B.pre
  have hown : s.vm.findClass RX12 = some m.cls := findClass_of_methodNamed B.named
  have hlocks := B.notSynchronized
  subst hsz
  have hD := hD0.self (sz := s.heap.size)
  generalize hAe : va_A [aI y h 154 f] s.heap.size = A at hD ⊢
  have hA : ∀ q : Nat, s.heap.size ≤ q → A q := fun q h => by rw [← hAe]; exact Or.inr h
  have hS : va_S A s.heap s.heap [] := va_S.rf
  have hP : va_P G vwCl [aI y h 154 f] s.heap := hP
  obtain ⟨ha1, hb1⟩ := in_tn h1 (by decide)
  have hN1 : 42 + 4 * tn a1 ≤ 118 := by omega
  have hl := lv_entry ([.ref h, .int a1]) (n := 3) (Nat.le_of_ble_eq_true rfl)
  rw [lg_entry_eq]
  generalize (lg_sl ([.ref h, .int a1]) ++ List.replicate (3 - (lg_sl ([.ref h, .int a1])).length) Slot.unset).toArray = ls at hl ⊢
  have hl : lv_has ls 3 [(0, .ref h), (1, .int a1)] := hl
  obtain ⟨QQ, hQQ⟩ : ∃ zq9, zq9 = MQ below (QHv G (fun _ : Unit => [aI y h 154 (s_X12_dropSwing_w0 a1 f)]) A) ([.ref h, .int a1] : List Value).toArray s 0 0 A := ⟨_, rfl⟩
  rw [← hQQ]
  refine lv_bipush (v := 42) hx hb dX12_dropSwing_0 (by decide) ?_
  refine lv_iconst (v := 4) hx hb dX12_dropSwing_2 (by decide) ?_
  refine lv_iload_n hx hb dX12_dropSwing_3 rfl (lv_at hl 1 rfl) ?_
  refine lv_imul hx hb dX12_dropSwing_4 ?_
  refine lv_iadd hx hb dX12_dropSwing_5 ?_
  refine lv_istore_n (lv' := [(2, .int (42 + (4 * a1))), (0, .ref h), (1, .int a1)]) hx hb dX12_dropSwing_6 rfl hl (by decide) rfl (fun ls hl => ?_)
  have LOOP7_1 : ∀ (n_2 : Nat) (k0 : Nat) (x2 : Int32) (w : Nat → Int32) (hx2 : x2 = nI k0) (hk0 : 42 + 4 * tn a1 ≤ k0) (hk : k0 ≤ 118) (hw : w = drF (42 + 4 * tn a1) k0 f) (hn_4 : 118 - k0 < n_2) (H : Heap) (locs : List Loc) (hP : va_P G vwCl [aI y h 154 w] H) (hD : va_D A [aI y h 154 w]) (hS : va_S A s.heap H locs) (ls : Array Slot) (hl : lv_has ls 3 [(2, .int x2), (0, .ref h)]), W p l e (headSpec wsX12_dropSwing rmX12_dropSwing).room s m ([.ref h, .int a1] : List Value).toArray below meth c H locs 0 0 QQ (F0 m 7 ls []) := by
    intro n_2
    induction n_2 with
    | zero => intro k0 x2 w hx2 hk0 hk hw hn_4 H locs hP hD hS ls hl; exact absurd hn_4 (Nat.not_lt_zero _)
    | succ n_2 ih_3 =>
      intro k0 x2 w hx2 hk0 hk hw hn_4 H locs hP hD hS ls hl
      refine lv_iload_n hx hb dX12_dropSwing_7 rfl (lv_at hl 0 rfl) ?_
      refine lv_iconst (v := 4) hx hb dX12_dropSwing_8 (by decide) ?_
      refine lv_iadd hx hb dX12_dropSwing_9 ?_
      refine lv_bipush (v := 122) hx hb dX12_dropSwing_10 (by decide) ?_
      refine lv_icmp_ge (tgt := 29) hx hb dX12_dropSwing_12 (by decide) (fun c_5 => ?_) (fun c_5 => ?_)
      · have hk9 : 122 ≤ k0 + 4 := kge (x := x2 + 4) (by rw [hx2]; exact nI_add k0 4) rfl (by omega) (by decide) c_5
        have hw2 : w = drF (42 + 4 * tn a1) 118 f := by rw [hw, show k0 = 118 by omega]
        subst hw2
        refine lv_aload_n hx hb dX12_dropSwing_29 rfl (lv_at hl 1 rfl) ?_
        refine lv_bipush (v := 16) hx hb dX12_dropSwing_30 (by decide) ?_
        refine lv_dup2_11 hx hb dX12_dropSwing_32 rfl rfl ?_
        refine al_i (D := G) (n := 154) (f := (drF (42 + 4 * tn a1) 118 f)) hx hb hK hP 0 0 rfl rfl 16 rfl (by decide) (by first | decide | omega) dX12_dropSwing_33 ?_
        refine rw_i (x' := (f 16)) (drF_out (by omega)) ?_
        refine lv_iconst (v := 1) hx hb dX12_dropSwing_34 (by decide) ?_
        refine lv_isub hx hb dX12_dropSwing_35 ?_
        refine as_i (D := G) (n := 154) (f := (drF (42 + 4 * tn a1) 118 f)) hx hb hK hP hD hS 0 0 rfl rfl 16 rfl (by decide) (by first | decide | omega) dX12_dropSwing_36 (fun H locs hP hD hS => ?_)
        have hP : va_P G vwCl [aI y h 154 (upd (drF (42 + 4 * tn a1) 118 f) 16 ((f 16) - 1))] H := hP
        have hD : va_D A [aI y h 154 (upd (drF (42 + 4 * tn a1) 118 f) 16 ((f 16) - 1))] := hD
        rw [hQQ]
        exact W.vret hx hb hr (end_Hv () hP hD hS rfl) hS.2.2 dX12_dropSwing_37
      · have hk9 : k0 + 4 < 122 := klt (x := x2 + 4) (by rw [hx2]; exact nI_add k0 4) rfl (by omega) (by decide) c_5
        refine lv_aload_n hx hb dX12_dropSwing_15 rfl (lv_at hl 1 rfl) ?_
        refine lv_iload_n hx hb dX12_dropSwing_16 rfl (lv_at hl 0 rfl) ?_
        refine lv_aload_n hx hb dX12_dropSwing_17 rfl (lv_at hl 1 rfl) ?_
        refine lv_iload_n hx hb dX12_dropSwing_18 rfl (lv_at hl 0 rfl) ?_
        refine lv_iconst (v := 4) hx hb dX12_dropSwing_19 (by decide) ?_
        refine lv_iadd hx hb dX12_dropSwing_20 ?_
        refine al_i (D := G) (n := 154) (f := w) hx hb hK hP 0 0 rfl rfl (k0 + 4) (by rw [hx2]; exact nI_add k0 4) (by omega) (by first | decide | omega) dX12_dropSwing_21 ?_
        refine as_i (D := G) (n := 154) (f := w) hx hb hK hP hD hS 0 0 rfl rfl k0 hx2 (by omega) (by first | decide | omega) dX12_dropSwing_22 (fun H locs hP hD hS => ?_)
        have hP : va_P G vwCl [aI y h 154 (upd w k0 (w (k0 + 4)))] H := hP
        have hD : va_D A [aI y h 154 (upd w k0 (w (k0 + 4)))] := hD
        refine lv_iinc (v := (x2 + 1)) (lv' := [(2, .int (x2 + 1)), (0, .ref h)]) hx hb dX12_dropSwing_23 hl (k := 0) rfl (by first | rfl | decide) (by decide) rfl (fun ls hl => ?_)
        refine lv_goto (tgt := 7) hx hb dX12_dropSwing_26 (by decide) ?_
        exact ih_3 (k0 + 1) (x2 + 1) (upd w k0 (w (k0 + 4))) (by rw [hx2]; exact nI_1 k0) (by omega) (by omega) (by rw [hw]; exact drF_s _ k0 hk0 f) (by omega) H locs hP hD hS ls (lv_sub hl [0, 1] rfl)
  exact LOOP7_1 (118 - (42 + 4 * tn a1) + 1) (42 + 4 * tn a1) (42 + (4 * a1)) f (ix40 _ ha1) (by omega) (by omega) (drF_0 _ f).symm (Nat.lt_succ_self _) s.heap [] hP hD hS ls (lv_sub hl [0, 1] rfl)

theorem add_16 {f v : Nat → Int32} (h16 : vp_in (f 16) 21) (e : v = (if (f 16) = 20 then (s_X12_dropSwing_w0 0 f) else f)) : vp_in (v 16) 20 := by
  rw [e]
  obtain ⟨j, hj, h⟩ := vp_in_of h16 (by decide)
  split
  · next h2 =>
    have e2 : s_X12_dropSwing_w0 0 f 16 = nI 19 := by
      show drF (42 + 4 * tn 0) 118 f 16 - 1 = nI 19
      simp only [drF]
      rw [if_neg (by omega), h2]
      rfl
    rw [e2]
    exact vp_in_nI (by decide) (by decide)
  · next h2 =>
    rw [h]
    refine vp_in_nI ?_ (by decide)
    rcases Nat.lt_or_ge j 20 with q | q
    · exact q
    · exact absurd (by rw [h, show j = 20 by omega]; rfl) h2

def s_X12_addSwing_w0 (f : Nat → Int32) : Nat → Int32 := (let v_2 : Nat → Int32 := (if (f 16) = 20 then (s_X12_dropSwing_w0 0 f) else f); (upd (upd (upd (upd (upd v_2 (42 + 4 * tn (v_2 16)) (v_2 22)) (42 + 4 * tn (v_2 16) + 1) (v_2 23)) (42 + 4 * tn (v_2 16) + 2) (v_2 24)) (42 + 4 * tn (v_2 16) + 3) (v_2 13)) 16 ((v_2 16) + 1)))
abbrev rmX12_addSwing : Room := ({ frames := 1, cells := 0, slots := 0, locals := 22 } : Room)
set_option maxHeartbeats 4000000 in
set_option maxRecDepth 100000 in
theorem c_X12_addSwing (l : Launch) (G : va_G) (y : Nat → ClassId) (h : Nat) (f : Nat → Int32) (sz : Nat) (h16 : vp_in (f 16) 21) : Met l yX12_addSwing wsX12_addSwing rmX12_addSwing (PH G y [.ref h] [aI y h 154 f] sz) (QHv G (fun _ : Unit => [aI y h 154 (s_X12_addSwing_w0 f)]) (va_A [aI y h 154 f] sz)) 0 0 (va_A [aI y h 154 f] sz) := by
  refine Met.ofW (cc := cX12_addSwing) (maxL := 2) (ret := none) (by decide) rfl ?_
  intro p e s m args below meth c s₁ B hml hv
  obtain ⟨rfl, hsz, hP, ⟨hK, hN⟩, hD0⟩ := hv
  have hx := B.exec
  have hb := B.bytes
  have hr := B.returns
  have hts := atoms_spec (ws := wsX12_addSwing) B.pre
  have hown : s.vm.findClass RX12 = some m.cls := findClass_of_methodNamed B.named
  have hlocks := B.notSynchronized
  subst hsz
  have hD := hD0.self (sz := s.heap.size)
  generalize hAe : va_A [aI y h 154 f] s.heap.size = A at hD ⊢
  have hA : ∀ q : Nat, s.heap.size ≤ q → A q := fun q h => by rw [← hAe]; exact Or.inr h
  have hS : va_S A s.heap s.heap [] := va_S.rf
  have hP : va_P G vwCl [aI y h 154 f] s.heap := hP
  have hl := lv_entry ([.ref h]) (n := 2) (Nat.le_of_ble_eq_true rfl)
  rw [lg_entry_eq]
  generalize (lg_sl ([.ref h]) ++ List.replicate (2 - (lg_sl ([.ref h])).length) Slot.unset).toArray = ls at hl ⊢
  have hl : lv_has ls 2 [(0, .ref h)] := hl
  obtain ⟨QQ, hQQ⟩ : ∃ zq9, zq9 = MQ below (QHv G (fun _ : Unit => [aI y h 154 (s_X12_addSwing_w0 f)]) A) ([.ref h] : List Value).toArray s 0 0 A := ⟨_, rfl⟩
  rw [← hQQ]
  refine lv_aload_n hx hb dX12_addSwing_0 rfl (lv_at hl 0 rfl) ?_
  refine lv_bipush (v := 16) hx hb dX12_addSwing_1 (by decide) ?_
  refine al_i (D := G) (n := 154) (f := f) hx hb hK hP 0 0 rfl rfl 16 rfl (by decide) (by first | decide | omega) dX12_addSwing_3 ?_
  refine lv_bipush (v := 20) hx hb dX12_addSwing_4 (by decide) ?_
  have J14_3 : ∀ (v_2 : Nat → Int32) (e_v_2 : v_2 = (if (f 16) = 20 then (s_X12_dropSwing_w0 0 f) else f)) (H : Heap) (locs : List Loc) (hP : va_P G vwCl [aI y h 154 v_2] H) (hD : va_D A [aI y h 154 v_2]) (hS : va_S A s.heap H locs) (ls : Array Slot) (hl : lv_has ls 2 [(0, .ref h)]), W p l e (headSpec wsX12_addSwing rmX12_addSwing).room s m ([.ref h] : List Value).toArray below meth c H locs 0 0 QQ (F0 m 14 ls []) := by
    intro v_2 e_v_2 H locs hP hD hS ls hl
    have hv16 : vp_in (v_2 16) 20 := add_16 h16 e_v_2
    obtain ⟨hk1, hk2⟩ := in_tn hv16 (by decide)
    refine lv_bipush (v := 42) hx hb dX12_addSwing_14 (by decide) ?_
    refine lv_iconst (v := 4) hx hb dX12_addSwing_16 (by decide) ?_
    refine lv_aload_n hx hb dX12_addSwing_17 rfl (lv_at hl 0 rfl) ?_
    refine lv_bipush (v := 16) hx hb dX12_addSwing_18 (by decide) ?_
    refine al_i (D := G) (n := 154) (f := v_2) hx hb hK hP 0 0 rfl rfl 16 rfl (by decide) (by first | decide | omega) dX12_addSwing_20 ?_
    refine lv_imul hx hb dX12_addSwing_21 ?_
    refine lv_iadd hx hb dX12_addSwing_22 ?_
    refine lv_istore_n (lv' := [(1, .int (42 + (4 * (v_2 16)))), (0, .ref h)]) hx hb dX12_addSwing_23 rfl hl (by decide) rfl (fun ls hl => ?_)
    refine lv_aload_n hx hb dX12_addSwing_24 rfl (lv_at hl 1 rfl) ?_
    refine lv_iload_n hx hb dX12_addSwing_25 rfl (lv_at hl 0 rfl) ?_
    refine lv_aload_n hx hb dX12_addSwing_26 rfl (lv_at hl 1 rfl) ?_
    refine lv_bipush (v := 22) hx hb dX12_addSwing_27 (by decide) ?_
    refine al_i (D := G) (n := 154) (f := v_2) hx hb hK hP 0 0 rfl rfl 22 rfl (by decide) (by first | decide | omega) dX12_addSwing_29 ?_
    refine as_i (D := G) (n := 154) (f := v_2) hx hb hK hP hD hS 0 0 rfl rfl (42 + 4 * tn (v_2 16)) (ix40 (tn (v_2 16)) hk1) (by omega) (by first | decide | omega) dX12_addSwing_30 (fun H locs hP hD hS => ?_)
    have hP : va_P G vwCl [aI y h 154 (upd v_2 (42 + 4 * tn (v_2 16)) (v_2 22))] H := hP
    have hD : va_D A [aI y h 154 (upd v_2 (42 + 4 * tn (v_2 16)) (v_2 22))] := hD
    refine lv_aload_n hx hb dX12_addSwing_31 rfl (lv_at hl 1 rfl) ?_
    refine lv_iload_n hx hb dX12_addSwing_32 rfl (lv_at hl 0 rfl) ?_
    refine lv_iconst (v := 1) hx hb dX12_addSwing_33 (by decide) ?_
    refine lv_iadd hx hb dX12_addSwing_34 ?_
    refine lv_aload_n hx hb dX12_addSwing_35 rfl (lv_at hl 1 rfl) ?_
    refine lv_bipush (v := 23) hx hb dX12_addSwing_36 (by decide) ?_
    refine al_i (D := G) (n := 154) (f := (upd v_2 (42 + 4 * tn (v_2 16)) (v_2 22))) hx hb hK hP 0 0 rfl rfl 23 rfl (by decide) (by first | decide | omega) dX12_addSwing_38 ?_
    refine rw_i (x' := (v_2 23)) (upd_ne (by omega)) ?_
    refine as_i (D := G) (n := 154) (f := (upd v_2 (42 + 4 * tn (v_2 16)) (v_2 22))) hx hb hK hP hD hS 0 0 rfl rfl (42 + 4 * tn (v_2 16) + 1) (ix4 1 (tn (v_2 16)) hk1) (by omega) (by first | decide | omega) dX12_addSwing_39 (fun H locs hP hD hS => ?_)
    have hP : va_P G vwCl [aI y h 154 (upd (upd v_2 (42 + 4 * tn (v_2 16)) (v_2 22)) (42 + 4 * tn (v_2 16) + 1) (v_2 23))] H := hP
    have hD : va_D A [aI y h 154 (upd (upd v_2 (42 + 4 * tn (v_2 16)) (v_2 22)) (42 + 4 * tn (v_2 16) + 1) (v_2 23))] := hD
    refine lv_aload_n hx hb dX12_addSwing_40 rfl (lv_at hl 1 rfl) ?_
    refine lv_iload_n hx hb dX12_addSwing_41 rfl (lv_at hl 0 rfl) ?_
    refine lv_iconst (v := 2) hx hb dX12_addSwing_42 (by decide) ?_
    refine lv_iadd hx hb dX12_addSwing_43 ?_
    refine lv_aload_n hx hb dX12_addSwing_44 rfl (lv_at hl 1 rfl) ?_
    refine lv_bipush (v := 24) hx hb dX12_addSwing_45 (by decide) ?_
    refine al_i (D := G) (n := 154) (f := (upd (upd v_2 (42 + 4 * tn (v_2 16)) (v_2 22)) (42 + 4 * tn (v_2 16) + 1) (v_2 23))) hx hb hK hP 0 0 rfl rfl 24 rfl (by decide) (by first | decide | omega) dX12_addSwing_47 ?_
    refine rw_i (x' := (v_2 24)) ((upd_ne (by omega)).trans (upd_ne (by omega))) ?_
    refine as_i (D := G) (n := 154) (f := (upd (upd v_2 (42 + 4 * tn (v_2 16)) (v_2 22)) (42 + 4 * tn (v_2 16) + 1) (v_2 23))) hx hb hK hP hD hS 0 0 rfl rfl (42 + 4 * tn (v_2 16) + 2) (ix4 2 (tn (v_2 16)) hk1) (by omega) (by first | decide | omega) dX12_addSwing_48 (fun H locs hP hD hS => ?_)
    have hP : va_P G vwCl [aI y h 154 (upd (upd (upd v_2 (42 + 4 * tn (v_2 16)) (v_2 22)) (42 + 4 * tn (v_2 16) + 1) (v_2 23)) (42 + 4 * tn (v_2 16) + 2) (v_2 24))] H := hP
    have hD : va_D A [aI y h 154 (upd (upd (upd v_2 (42 + 4 * tn (v_2 16)) (v_2 22)) (42 + 4 * tn (v_2 16) + 1) (v_2 23)) (42 + 4 * tn (v_2 16) + 2) (v_2 24))] := hD
    refine lv_aload_n hx hb dX12_addSwing_49 rfl (lv_at hl 1 rfl) ?_
    refine lv_iload_n hx hb dX12_addSwing_50 rfl (lv_at hl 0 rfl) ?_
    refine lv_iconst (v := 3) hx hb dX12_addSwing_51 (by decide) ?_
    refine lv_iadd hx hb dX12_addSwing_52 ?_
    refine lv_aload_n hx hb dX12_addSwing_53 rfl (lv_at hl 1 rfl) ?_
    refine lv_bipush (v := 13) hx hb dX12_addSwing_54 (by decide) ?_
    refine al_i (D := G) (n := 154) (f := (upd (upd (upd v_2 (42 + 4 * tn (v_2 16)) (v_2 22)) (42 + 4 * tn (v_2 16) + 1) (v_2 23)) (42 + 4 * tn (v_2 16) + 2) (v_2 24))) hx hb hK hP 0 0 rfl rfl 13 rfl (by decide) (by first | decide | omega) dX12_addSwing_56 ?_
    refine rw_i (x' := (v_2 13)) ((upd_ne (by omega)).trans ((upd_ne (by omega)).trans (upd_ne (by omega)))) ?_
    refine as_i (D := G) (n := 154) (f := (upd (upd (upd v_2 (42 + 4 * tn (v_2 16)) (v_2 22)) (42 + 4 * tn (v_2 16) + 1) (v_2 23)) (42 + 4 * tn (v_2 16) + 2) (v_2 24))) hx hb hK hP hD hS 0 0 rfl rfl (42 + 4 * tn (v_2 16) + 3) (ix4 3 (tn (v_2 16)) hk1) (by omega) (by first | decide | omega) dX12_addSwing_57 (fun H locs hP hD hS => ?_)
    have hP : va_P G vwCl [aI y h 154 (upd (upd (upd (upd v_2 (42 + 4 * tn (v_2 16)) (v_2 22)) (42 + 4 * tn (v_2 16) + 1) (v_2 23)) (42 + 4 * tn (v_2 16) + 2) (v_2 24)) (42 + 4 * tn (v_2 16) + 3) (v_2 13))] H := hP
    have hD : va_D A [aI y h 154 (upd (upd (upd (upd v_2 (42 + 4 * tn (v_2 16)) (v_2 22)) (42 + 4 * tn (v_2 16) + 1) (v_2 23)) (42 + 4 * tn (v_2 16) + 2) (v_2 24)) (42 + 4 * tn (v_2 16) + 3) (v_2 13))] := hD
    refine lv_aload_n hx hb dX12_addSwing_58 rfl (lv_at hl 1 rfl) ?_
    refine lv_bipush (v := 16) hx hb dX12_addSwing_59 (by decide) ?_
    refine lv_dup2_11 hx hb dX12_addSwing_61 rfl rfl ?_
    refine al_i (D := G) (n := 154) (f := (upd (upd (upd (upd v_2 (42 + 4 * tn (v_2 16)) (v_2 22)) (42 + 4 * tn (v_2 16) + 1) (v_2 23)) (42 + 4 * tn (v_2 16) + 2) (v_2 24)) (42 + 4 * tn (v_2 16) + 3) (v_2 13))) hx hb hK hP 0 0 rfl rfl 16 rfl (by decide) (by first | decide | omega) dX12_addSwing_62 ?_
    refine rw_i (x' := (v_2 16)) ((upd_ne (by omega)).trans ((upd_ne (by omega)).trans ((upd_ne (by omega)).trans (upd_ne (by omega))))) ?_
    refine lv_iconst (v := 1) hx hb dX12_addSwing_63 (by decide) ?_
    refine lv_iadd hx hb dX12_addSwing_64 ?_
    refine as_i (D := G) (n := 154) (f := (upd (upd (upd (upd v_2 (42 + 4 * tn (v_2 16)) (v_2 22)) (42 + 4 * tn (v_2 16) + 1) (v_2 23)) (42 + 4 * tn (v_2 16) + 2) (v_2 24)) (42 + 4 * tn (v_2 16) + 3) (v_2 13))) hx hb hK hP hD hS 0 0 rfl rfl 16 rfl (by decide) (by first | decide | omega) dX12_addSwing_65 (fun H locs hP hD hS => ?_)
    have hP : va_P G vwCl [aI y h 154 (upd (upd (upd (upd (upd v_2 (42 + 4 * tn (v_2 16)) (v_2 22)) (42 + 4 * tn (v_2 16) + 1) (v_2 23)) (42 + 4 * tn (v_2 16) + 2) (v_2 24)) (42 + 4 * tn (v_2 16) + 3) (v_2 13)) 16 ((v_2 16) + 1))] H := hP
    have hD : va_D A [aI y h 154 (upd (upd (upd (upd (upd v_2 (42 + 4 * tn (v_2 16)) (v_2 22)) (42 + 4 * tn (v_2 16) + 1) (v_2 23)) (42 + 4 * tn (v_2 16) + 2) (v_2 24)) (42 + 4 * tn (v_2 16) + 3) (v_2 13)) 16 ((v_2 16) + 1))] := hD
    rw [hQQ]
    exact W.vret hx hb hr (end_Hv () hP hD hS (congrArg (fun (z0 : Nat → Int32) => [aI y h 154 z0]) (by subst e_v_2; unfold s_X12_addSwing_w0; exact rfl))) hS.2.2 dX12_addSwing_66
  refine lv_icmp_ne (tgt := 14) hx hb dX12_addSwing_6 (by decide) (fun c_1 => ?_) (fun c_1 => ?_)
  · exact J14_3 _ (if_neg c_1).symm s.heap [] hP hD hS ls (lv_sub hl [0] rfl)
  · refine lv_aload_n hx hb dX12_addSwing_9 rfl (lv_at hl 0 rfl) ?_
    refine lv_iconst (v := 0) hx hb dX12_addSwing_10 (by decide) ?_
    refine cl_Hv (wr := []) (fun _ : Unit => [aI y h 154 (s_X12_dropSwing_w0 0 f)]) [0] [] [0] (va_runS (As := [.ref h, .int 0]) (rest := []) ⟨hx, hb, hml, hown, hts⟩ (c_X12_dropSwing l G y h 0 f s.heap.size (vp_in_nI (n := 0) (by decide) (by decide))) (va_cwS 2 hts gX12_addSwing_X12_dropSwing rfl rfl rfl (by decide +kernel) ⟨Nat.le_of_ble_eq_true rfl, Nat.le_of_ble_eq_true rfl⟩) (PH_S (hP.sub (ws' := [aI y h 154 f]) [0] rfl) hK hN (hD.sub (ws' := [aI y h 154 f]) [0] (by decide) rfl)) rfl rfl hl.1 rfl (lv_room (Nat.le_of_ble_eq_true rfl)) dX12_addSwing_11 ⟨Nat.le_of_ble_eq_true rfl, Nat.le_of_ble_eq_true rfl⟩) hP hD hS hA rfl rfl rfl (by decide) rfl (fun _ => rfl) (fun _ H locs hP hD hS => ?_)
    have hP : va_P G vwCl [aI y h 154 (s_X12_dropSwing_w0 0 f)] H := hP
    have hD : va_D A [aI y h 154 (s_X12_dropSwing_w0 0 f)] := hD
    exact J14_3 _ (if_pos c_1).symm H locs hP hD hS ls (lv_sub hl [0] rfl)

def s_X12_cross_w0 (a1 : Int32) (f : Nat → Int32) : Nat → Int32 := (let v_2 : Nat → Int32 := (if (f 21) = 1 then (let v_3 : Int32 := (if (f 22) = 0 then (f 12) else (if (f 12) ≤ (f 23) then (f 23) else (f 12))); (let v_6 : Int32 := (if (f 22) = 0 then (f 12) else (if (f 24) ≤ (f 12) then (f 24) else (f 12))); (upd (upd (upd f 23 v_3) 24 v_6) 22 ((f 22) + 1)))) else f); (let v_5 : Nat → Int32 := (if (v_2 5) ≤ a1 then v_2 else (if (v_2 12) < (v_2 5) then v_2 else (let v_7 : Nat → Int32 := (if (v_2 21) = 1 then (s_X12_addSwing_w0 (upd v_2 40 ((v_2 40) + 1))) else (upd v_2 40 ((v_2 40) + 1))); (upd (upd v_7 21 1) 22 0)))); v_5))
abbrev rmX12_cross : Room := ({ frames := 2, cells := 0, slots := 0, locals := 43 } : Room)
set_option maxHeartbeats 4000000 in
set_option maxRecDepth 100000 in
theorem c_X12_cross (l : Launch) (G : va_G) (y : Nat → ClassId) (h : Nat) (a1 : Int32) (f : Nat → Int32) (sz : Nat) (h16 : vp_in (f 16) 21) : Met l yX12_cross wsX12_cross rmX12_cross (PH G y [.ref h, .int a1] [aI y h 154 f] sz) (QHv G (fun _ : Unit => [aI y h 154 (s_X12_cross_w0 a1 f)]) (va_A [aI y h 154 f] sz)) 0 0 (va_A [aI y h 154 f] sz) := by
  refine Met.ofW (cc := cX12_cross) (maxL := 2) (ret := none) (by decide) rfl ?_
  intro p e s m args below meth c s₁ B hml hv
  obtain ⟨rfl, hsz, hP, ⟨hK, hN⟩, hD0⟩ := hv
  have hx := B.exec
  have hb := B.bytes
  have hr := B.returns
  have hts := atoms_spec (ws := wsX12_cross) B.pre
  have hown : s.vm.findClass RX12 = some m.cls := findClass_of_methodNamed B.named
  have hlocks := B.notSynchronized
  subst hsz
  have hD := hD0.self (sz := s.heap.size)
  generalize hAe : va_A [aI y h 154 f] s.heap.size = A at hD ⊢
  have hA : ∀ q : Nat, s.heap.size ≤ q → A q := fun q h => by rw [← hAe]; exact Or.inr h
  have hS : va_S A s.heap s.heap [] := va_S.rf
  have hP : va_P G vwCl [aI y h 154 f] s.heap := hP
  have hl := lv_entry ([.ref h, .int a1]) (n := 2) (Nat.le_of_ble_eq_true rfl)
  rw [lg_entry_eq]
  generalize (lg_sl ([.ref h, .int a1]) ++ List.replicate (2 - (lg_sl ([.ref h, .int a1])).length) Slot.unset).toArray = ls at hl ⊢
  have hl : lv_has ls 2 [(0, .ref h), (1, .int a1)] := hl
  obtain ⟨QQ, hQQ⟩ : ∃ zq9, zq9 = MQ below (QHv G (fun _ : Unit => [aI y h 154 (s_X12_cross_w0 a1 f)]) A) ([.ref h, .int a1] : List Value).toArray s 0 0 A := ⟨_, rfl⟩
  rw [← hQQ]
  refine lv_aload_n hx hb dX12_cross_0 rfl (lv_at hl 0 rfl) ?_
  refine lv_bipush (v := 21) hx hb dX12_cross_1 (by decide) ?_
  refine al_i (D := G) (n := 154) (f := f) hx hb hK hP 0 0 rfl rfl 21 rfl (by decide) (by first | decide | omega) dX12_cross_3 ?_
  refine lv_iconst (v := 1) hx hb dX12_cross_4 (by decide) ?_
  have J82_3 : ∀ (v_2 : Nat → Int32) (e_v_2 : v_2 = (if (f 21) = 1 then (let v_3 : Int32 := (if (f 22) = 0 then (f 12) else (if (f 12) ≤ (f 23) then (f 23) else (f 12))); (let v_6 : Int32 := (if (f 22) = 0 then (f 12) else (if (f 24) ≤ (f 12) then (f 24) else (f 12))); (upd (upd (upd f 23 v_3) 24 v_6) 22 ((f 22) + 1)))) else f)) (H : Heap) (locs : List Loc) (hP : va_P G vwCl [aI y h 154 v_2] H) (hD : va_D A [aI y h 154 v_2]) (hS : va_S A s.heap H locs) (ls : Array Slot) (hl : lv_has ls 2 [(0, .ref h), (1, .int a1)]), W p l e (headSpec wsX12_cross rmX12_cross).room s m ([.ref h, .int a1] : List Value).toArray below meth c H locs 0 0 QQ (F0 m 82 ls []) := by
    intro v_2 e_v_2 H locs hP hD hS ls hl
    refine lv_iload_n hx hb dX12_cross_82 rfl (lv_at hl 1 rfl) ?_
    refine lv_aload_n hx hb dX12_cross_83 rfl (lv_at hl 0 rfl) ?_
    refine lv_iconst (v := 5) hx hb dX12_cross_84 (by decide) ?_
    refine al_i (D := G) (n := 154) (f := v_2) hx hb hK hP 0 0 rfl rfl 5 rfl (by decide) (by first | decide | omega) dX12_cross_85 ?_
    have J129_6 : ∀ (v_5 : Nat → Int32) (e_v_5 : v_5 = (if (v_2 5) ≤ a1 then v_2 else (if (v_2 12) < (v_2 5) then v_2 else (let v_7 : Nat → Int32 := (if (v_2 21) = 1 then (s_X12_addSwing_w0 (upd v_2 40 ((v_2 40) + 1))) else (upd v_2 40 ((v_2 40) + 1))); (upd (upd v_7 21 1) 22 0))))) (H : Heap) (locs : List Loc) (hP : va_P G vwCl [aI y h 154 v_5] H) (hD : va_D A [aI y h 154 v_5]) (hS : va_S A s.heap H locs) (ls : Array Slot) (hl : lv_has ls 2 []), W p l e (headSpec wsX12_cross rmX12_cross).room s m ([.ref h, .int a1] : List Value).toArray below meth c H locs 0 0 QQ (F0 m 129 ls []) := by
      intro v_5 e_v_5 H locs hP hD hS ls hl
      rw [hQQ]
      exact W.vret hx hb hr (end_Hv () hP hD hS (congrArg (fun (z0 : Nat → Int32) => [aI y h 154 z0]) (by subst e_v_5; subst e_v_2; unfold s_X12_cross_w0; exact rfl))) hS.2.2 dX12_cross_129
    refine lv_icmp_ge (tgt := 129) hx hb dX12_cross_86 (by decide) (fun c_4 => ?_) (fun c_4 => ?_)
    · exact J129_6 _ (if_pos c_4).symm H locs hP hD hS ls (lv_sub hl [] rfl)
    · refine lv_aload_n hx hb dX12_cross_89 rfl (lv_at hl 0 rfl) ?_
      refine lv_bipush (v := 12) hx hb dX12_cross_90 (by decide) ?_
      refine al_i (D := G) (n := 154) (f := v_2) hx hb hK hP 0 0 rfl rfl 12 rfl (by decide) (by first | decide | omega) dX12_cross_92 ?_
      refine lv_aload_n hx hb dX12_cross_93 rfl (lv_at hl 0 rfl) ?_
      refine lv_iconst (v := 5) hx hb dX12_cross_94 (by decide) ?_
      refine al_i (D := G) (n := 154) (f := v_2) hx hb hK hP 0 0 rfl rfl 5 rfl (by decide) (by first | decide | omega) dX12_cross_95 ?_
      refine lv_icmp_lt (tgt := 129) hx hb dX12_cross_96 (by decide) (fun c_7 => ?_) (fun c_7 => ?_)
      · exact J129_6 _ ((if_neg c_4).trans (if_pos c_7)).symm H locs hP hD hS ls (lv_sub hl [] rfl)
      · refine lv_aload_n hx hb dX12_cross_99 rfl (lv_at hl 0 rfl) ?_
        refine lv_bipush (v := 40) hx hb dX12_cross_100 (by decide) ?_
        refine lv_dup2_11 hx hb dX12_cross_102 rfl rfl ?_
        refine al_i (D := G) (n := 154) (f := v_2) hx hb hK hP 0 0 rfl rfl 40 rfl (by decide) (by first | decide | omega) dX12_cross_103 ?_
        refine lv_iconst (v := 1) hx hb dX12_cross_104 (by decide) ?_
        refine lv_iadd hx hb dX12_cross_105 ?_
        refine as_i (D := G) (n := 154) (f := v_2) hx hb hK hP hD hS 0 0 rfl rfl 40 rfl (by decide) (by first | decide | omega) dX12_cross_106 (fun H locs hP hD hS => ?_)
        have hP : va_P G vwCl [aI y h 154 (upd v_2 40 ((v_2 40) + 1))] H := hP
        have hD : va_D A [aI y h 154 (upd v_2 40 ((v_2 40) + 1))] := hD
        refine lv_aload_n hx hb dX12_cross_107 rfl (lv_at hl 0 rfl) ?_
        refine lv_bipush (v := 21) hx hb dX12_cross_108 (by decide) ?_
        refine al_i (D := G) (n := 154) (f := (upd v_2 40 ((v_2 40) + 1))) hx hb hK hP 0 0 rfl rfl 21 rfl (by decide) (by first | decide | omega) dX12_cross_110 ?_
        refine rw_i (x' := (v_2 21)) rfl ?_
        refine lv_iconst (v := 1) hx hb dX12_cross_111 (by decide) ?_
        have J119_10 : ∀ (v_9 : Nat → Int32) (e_v_9 : v_9 = (if (v_2 21) = 1 then (s_X12_addSwing_w0 (upd v_2 40 ((v_2 40) + 1))) else (upd v_2 40 ((v_2 40) + 1)))) (H : Heap) (locs : List Loc) (hP : va_P G vwCl [aI y h 154 v_9] H) (hD : va_D A [aI y h 154 v_9]) (hS : va_S A s.heap H locs) (ls : Array Slot) (hl : lv_has ls 2 [(0, .ref h)]), W p l e (headSpec wsX12_cross rmX12_cross).room s m ([.ref h, .int a1] : List Value).toArray below meth c H locs 0 0 QQ (F0 m 119 ls []) := by
          intro v_9 e_v_9 H locs hP hD hS ls hl
          refine lv_aload_n hx hb dX12_cross_119 rfl (lv_at hl 0 rfl) ?_
          refine lv_bipush (v := 21) hx hb dX12_cross_120 (by decide) ?_
          refine lv_iconst (v := 1) hx hb dX12_cross_122 (by decide) ?_
          refine as_i (D := G) (n := 154) (f := v_9) hx hb hK hP hD hS 0 0 rfl rfl 21 rfl (by decide) (by first | decide | omega) dX12_cross_123 (fun H locs hP hD hS => ?_)
          have hP : va_P G vwCl [aI y h 154 (upd v_9 21 1)] H := hP
          have hD : va_D A [aI y h 154 (upd v_9 21 1)] := hD
          refine lv_aload_n hx hb dX12_cross_124 rfl (lv_at hl 0 rfl) ?_
          refine lv_bipush (v := 22) hx hb dX12_cross_125 (by decide) ?_
          refine lv_iconst (v := 0) hx hb dX12_cross_127 (by decide) ?_
          refine as_i (D := G) (n := 154) (f := (upd v_9 21 1)) hx hb hK hP hD hS 0 0 rfl rfl 22 rfl (by decide) (by first | decide | omega) dX12_cross_128 (fun H locs hP hD hS => ?_)
          have hP : va_P G vwCl [aI y h 154 (upd (upd v_9 21 1) 22 0)] H := hP
          have hD : va_D A [aI y h 154 (upd (upd v_9 21 1) 22 0)] := hD
          subst e_v_9
          exact J129_6 _ ((if_neg c_4).trans (if_neg c_7)).symm H locs hP hD hS ls (lv_sub hl [] rfl)
        refine lv_icmp_ne (tgt := 119) hx hb dX12_cross_112 (by decide) (fun c_8 => ?_) (fun c_8 => ?_)
        · exact J119_10 _ (if_neg c_8).symm H locs hP hD hS ls (lv_sub hl [0] rfl)
        · refine lv_aload_n hx hb dX12_cross_115 rfl (lv_at hl 0 rfl) ?_
          refine cl_Hv (wr := []) (fun _ : Unit => [aI y h 154 (s_X12_addSwing_w0 (upd v_2 40 ((v_2 40) + 1)))]) [0] [] [0] (va_runS (As := [.ref h]) (rest := []) ⟨hx, hb, hml, hown, hts⟩ (c_X12_addSwing l G y h (upd v_2 40 ((v_2 40) + 1)) H.size (by show vp_in (v_2 16) 21; rw [e_v_2]; split <;> exact h16)) (va_cwS 1 hts gX12_cross_X12_addSwing rfl rfl rfl (by decide +kernel) ⟨Nat.le_of_ble_eq_true rfl, Nat.le_of_ble_eq_true rfl⟩) (PH_S (hP.sub (ws' := [aI y h 154 (upd v_2 40 ((v_2 40) + 1))]) [0] rfl) hK hN (hD.sub (ws' := [aI y h 154 (upd v_2 40 ((v_2 40) + 1))]) [0] (by decide) rfl)) rfl rfl hl.1 rfl (lv_room (Nat.le_of_ble_eq_true rfl)) dX12_cross_116 ⟨Nat.le_of_ble_eq_true rfl, Nat.le_of_ble_eq_true rfl⟩) hP hD hS hA rfl rfl rfl (by decide) rfl (fun _ => rfl) (fun _ H locs hP hD hS => ?_)
          have hP : va_P G vwCl [aI y h 154 (s_X12_addSwing_w0 (upd v_2 40 ((v_2 40) + 1)))] H := hP
          have hD : va_D A [aI y h 154 (s_X12_addSwing_w0 (upd v_2 40 ((v_2 40) + 1)))] := hD
          exact J119_10 _ (if_pos c_8).symm H locs hP hD hS ls (lv_sub hl [0] rfl)
  refine lv_icmp_ne (tgt := 82) hx hb dX12_cross_5 (by decide) (fun c_1 => ?_) (fun c_1 => ?_)
  · exact J82_3 _ (if_neg c_1).symm s.heap [] hP hD hS ls (lv_sub hl [0, 1] rfl)
  · refine lv_aload_n hx hb dX12_cross_8 rfl (lv_at hl 0 rfl) ?_
    refine lv_bipush (v := 23) hx hb dX12_cross_9 (by decide) ?_
    refine lv_aload_n hx hb dX12_cross_11 rfl (lv_at hl 0 rfl) ?_
    refine lv_bipush (v := 22) hx hb dX12_cross_12 (by decide) ?_
    refine al_i (D := G) (n := 154) (f := f) hx hb hK hP 0 0 rfl rfl 22 rfl (by decide) (by first | decide | omega) dX12_cross_14 ?_
    have J40_13 : ∀ (v_12 : Int32) (e_v_12 : v_12 = (if (f 22) = 0 then (f 12) else (if (f 12) ≤ (f 23) then (f 23) else (f 12)))) (ls : Array Slot) (hl : lv_has ls 2 [(0, .ref h), (1, .int a1)]), W p l e (headSpec wsX12_cross rmX12_cross).room s m ([.ref h, .int a1] : List Value).toArray below meth c s.heap [] 0 0 QQ (F0 m 40 ls [.int v_12, .int 23, .ref h]) := by
      intro v_12 e_v_12 ls hl
      refine as_i (D := G) (n := 154) (f := f) hx hb hK hP hD hS 0 0 rfl rfl 23 rfl (by decide) (by first | decide | omega) dX12_cross_40 (fun H locs hP hD hS => ?_)
      have hP : va_P G vwCl [aI y h 154 (upd f 23 v_12)] H := hP
      have hD : va_D A [aI y h 154 (upd f 23 v_12)] := hD
      refine lv_aload_n hx hb dX12_cross_41 rfl (lv_at hl 0 rfl) ?_
      refine lv_bipush (v := 24) hx hb dX12_cross_42 (by decide) ?_
      refine lv_aload_n hx hb dX12_cross_44 rfl (lv_at hl 0 rfl) ?_
      refine lv_bipush (v := 22) hx hb dX12_cross_45 (by decide) ?_
      refine al_i (D := G) (n := 154) (f := (upd f 23 v_12)) hx hb hK hP 0 0 rfl rfl 22 rfl (by decide) (by first | decide | omega) dX12_cross_47 ?_
      refine rw_i (x' := (f 22)) rfl ?_
      have J73_16 : ∀ (v_15 : Int32) (e_v_15 : v_15 = (if (f 22) = 0 then (f 12) else (if (f 24) ≤ (f 12) then (f 24) else (f 12)))) (ls : Array Slot) (hl : lv_has ls 2 [(0, .ref h), (1, .int a1)]), W p l e (headSpec wsX12_cross rmX12_cross).room s m ([.ref h, .int a1] : List Value).toArray below meth c H locs 0 0 QQ (F0 m 73 ls [.int v_15, .int 24, .ref h]) := by
        intro v_15 e_v_15 ls hl
        refine as_i (D := G) (n := 154) (f := (upd f 23 v_12)) hx hb hK hP hD hS 0 0 rfl rfl 24 rfl (by decide) (by first | decide | omega) dX12_cross_73 (fun H locs hP hD hS => ?_)
        have hP : va_P G vwCl [aI y h 154 (upd (upd f 23 v_12) 24 v_15)] H := hP
        have hD : va_D A [aI y h 154 (upd (upd f 23 v_12) 24 v_15)] := hD
        refine lv_aload_n hx hb dX12_cross_74 rfl (lv_at hl 0 rfl) ?_
        refine lv_bipush (v := 22) hx hb dX12_cross_75 (by decide) ?_
        refine lv_dup2_11 hx hb dX12_cross_77 rfl rfl ?_
        refine al_i (D := G) (n := 154) (f := (upd (upd f 23 v_12) 24 v_15)) hx hb hK hP 0 0 rfl rfl 22 rfl (by decide) (by first | decide | omega) dX12_cross_78 ?_
        refine rw_i (x' := (f 22)) rfl ?_
        refine lv_iconst (v := 1) hx hb dX12_cross_79 (by decide) ?_
        refine lv_iadd hx hb dX12_cross_80 ?_
        refine as_i (D := G) (n := 154) (f := (upd (upd f 23 v_12) 24 v_15)) hx hb hK hP hD hS 0 0 rfl rfl 22 rfl (by decide) (by first | decide | omega) dX12_cross_81 (fun H locs hP hD hS => ?_)
        have hP : va_P G vwCl [aI y h 154 (upd (upd (upd f 23 v_12) 24 v_15) 22 ((f 22) + 1))] H := hP
        have hD : va_D A [aI y h 154 (upd (upd (upd f 23 v_12) 24 v_15) 22 ((f 22) + 1))] := hD
        subst e_v_15
        subst e_v_12
        exact J82_3 _ (if_pos c_1).symm H locs hP hD hS ls (lv_sub hl [0, 1] rfl)
      refine lv_if_eq (tgt := 62) hx hb dX12_cross_48 (by decide) (fun c_14 => ?_) (fun c_14 => ?_)
      · refine lv_aload_n hx hb dX12_cross_62 rfl (lv_at hl 0 rfl) ?_
        refine lv_bipush (v := 12) hx hb dX12_cross_63 (by decide) ?_
        refine al_i (D := G) (n := 154) (f := (upd f 23 v_12)) hx hb hK hP 0 0 rfl rfl 12 rfl (by decide) (by first | decide | omega) dX12_cross_65 ?_
        refine rw_i (x' := (f 12)) rfl ?_
        refine lv_goto (tgt := 73) hx hb dX12_cross_66 (by decide) ?_
        exact J73_16 _ (if_pos c_14).symm ls (lv_sub hl [0, 1] rfl)
      · refine lv_aload_n hx hb dX12_cross_51 rfl (lv_at hl 0 rfl) ?_
        refine lv_bipush (v := 12) hx hb dX12_cross_52 (by decide) ?_
        refine al_i (D := G) (n := 154) (f := (upd f 23 v_12)) hx hb hK hP 0 0 rfl rfl 12 rfl (by decide) (by first | decide | omega) dX12_cross_54 ?_
        refine rw_i (x' := (f 12)) rfl ?_
        refine lv_aload_n hx hb dX12_cross_55 rfl (lv_at hl 0 rfl) ?_
        refine lv_bipush (v := 24) hx hb dX12_cross_56 (by decide) ?_
        refine al_i (D := G) (n := 154) (f := (upd f 23 v_12)) hx hb hK hP 0 0 rfl rfl 24 rfl (by decide) (by first | decide | omega) dX12_cross_58 ?_
        refine rw_i (x' := (f 24)) rfl ?_
        refine lv_icmp_ge (tgt := 69) hx hb dX12_cross_59 (by decide) (fun c_17 => ?_) (fun c_17 => ?_)
        · refine lv_aload_n hx hb dX12_cross_69 rfl (lv_at hl 0 rfl) ?_
          refine lv_bipush (v := 24) hx hb dX12_cross_70 (by decide) ?_
          refine al_i (D := G) (n := 154) (f := (upd f 23 v_12)) hx hb hK hP 0 0 rfl rfl 24 rfl (by decide) (by first | decide | omega) dX12_cross_72 ?_
          refine rw_i (x' := (f 24)) rfl ?_
          exact J73_16 _ ((if_neg c_14).trans (if_pos c_17)).symm ls (lv_sub hl [0, 1] rfl)
        · refine lv_aload_n hx hb dX12_cross_62 rfl (lv_at hl 0 rfl) ?_
          refine lv_bipush (v := 12) hx hb dX12_cross_63 (by decide) ?_
          refine al_i (D := G) (n := 154) (f := (upd f 23 v_12)) hx hb hK hP 0 0 rfl rfl 12 rfl (by decide) (by first | decide | omega) dX12_cross_65 ?_
          refine rw_i (x' := (f 12)) rfl ?_
          refine lv_goto (tgt := 73) hx hb dX12_cross_66 (by decide) ?_
          exact J73_16 _ ((if_neg c_14).trans (if_neg c_17)).symm ls (lv_sub hl [0, 1] rfl)
    refine lv_if_eq (tgt := 29) hx hb dX12_cross_15 (by decide) (fun c_11 => ?_) (fun c_11 => ?_)
    · refine lv_aload_n hx hb dX12_cross_29 rfl (lv_at hl 0 rfl) ?_
      refine lv_bipush (v := 12) hx hb dX12_cross_30 (by decide) ?_
      refine al_i (D := G) (n := 154) (f := f) hx hb hK hP 0 0 rfl rfl 12 rfl (by decide) (by first | decide | omega) dX12_cross_32 ?_
      refine lv_goto (tgt := 40) hx hb dX12_cross_33 (by decide) ?_
      exact J40_13 _ (if_pos c_11).symm ls (lv_sub hl [0, 1] rfl)
    · refine lv_aload_n hx hb dX12_cross_18 rfl (lv_at hl 0 rfl) ?_
      refine lv_bipush (v := 12) hx hb dX12_cross_19 (by decide) ?_
      refine al_i (D := G) (n := 154) (f := f) hx hb hK hP 0 0 rfl rfl 12 rfl (by decide) (by first | decide | omega) dX12_cross_21 ?_
      refine lv_aload_n hx hb dX12_cross_22 rfl (lv_at hl 0 rfl) ?_
      refine lv_bipush (v := 23) hx hb dX12_cross_23 (by decide) ?_
      refine al_i (D := G) (n := 154) (f := f) hx hb hK hP 0 0 rfl rfl 23 rfl (by decide) (by first | decide | omega) dX12_cross_25 ?_
      refine lv_icmp_le (tgt := 36) hx hb dX12_cross_26 (by decide) (fun c_18 => ?_) (fun c_18 => ?_)
      · refine lv_aload_n hx hb dX12_cross_36 rfl (lv_at hl 0 rfl) ?_
        refine lv_bipush (v := 23) hx hb dX12_cross_37 (by decide) ?_
        refine al_i (D := G) (n := 154) (f := f) hx hb hK hP 0 0 rfl rfl 23 rfl (by decide) (by first | decide | omega) dX12_cross_39 ?_
        exact J40_13 _ ((if_neg c_11).trans (if_pos c_18)).symm ls (lv_sub hl [0, 1] rfl)
      · refine lv_aload_n hx hb dX12_cross_29 rfl (lv_at hl 0 rfl) ?_
        refine lv_bipush (v := 12) hx hb dX12_cross_30 (by decide) ?_
        refine al_i (D := G) (n := 154) (f := f) hx hb hK hP 0 0 rfl rfl 12 rfl (by decide) (by first | decide | omega) dX12_cross_32 ?_
        refine lv_goto (tgt := 40) hx hb dX12_cross_33 (by decide) ?_
        exact J40_13 _ ((if_neg c_11).trans (if_neg c_18)).symm ls (lv_sub hl [0, 1] rfl)

theorem relay_keep {f : Nat → Int32} {j : Nat} (h : j ≠ 14) : s_X12_relayOutput_w0 f j = f j := by
  unfold s_X12_relayOutput_w0
  try dsimp only
  (repeat' split) <;> first | rfl | exact upd_ne h
theorem control_keep {f : Nat → Int32} {j : Nat} (h : j ≠ 15) (h2 : j ≠ 19) (h3 : j ≠ 20) : s_X12_controlOutput_w0 f j = f j := by
  unfold s_X12_controlOutput_w0
  try dsimp only
  rw [upd_ne h3, upd_ne h2, upd_ne h]
theorem warm_keep {f : Nat → Int32} {j : Nat} (h : j ≠ 12) : s_X12_warm_w0 f j = f j := by
  unfold s_X12_warm_w0
  try dsimp only
  exact upd_ne h
theorem out_keep {f v : Nat → Int32} {j : Nat} (h : j ≠ 14) (h1 : j ≠ 15) (h2 : j ≠ 19) (h3 : j ≠ 20) (e : v = (if (f 11) = 0 then f else (if (f 11) = 1 then (s_X12_relayOutput_w0 f) else (s_X12_controlOutput_w0 f)))) : v j = f j := by
  rw [e]
  split
  · rfl
  · split
    · exact relay_keep h
    · exact control_keep h1 h2 h3

def s_X12_tickOn_w0 (f : Nat → Int32) : Nat → Int32 := (let v_2 : Int32 := (if (f 11) = 0 then 0 else (if (f 11) = 1 then (s_X12_relayOutput_r f) else (s_X12_controlOutput_r f))); (let v_3 : Nat → Int32 := (if (f 11) = 0 then f else (if (f 11) = 1 then (s_X12_relayOutput_w0 f) else (s_X12_controlOutput_w0 f))); (let v_6 : Int32 := (if v_2 = (v_3 18) then 0 else 1); (let v_15 : Nat → Int32 := (if ((s_X12_warm_w0 (upd (shF 0 (upd (upd (upd (upd v_3 39 ((v_3 39) + v_6)) 38 ((v_3 38) + v_2)) (35 + tn (v_3 11)) (((upd (upd v_3 39 ((v_3 39) + v_6)) 38 ((v_3 38) + v_2)) (35 + tn (v_3 11))) + 1)) 18 v_2)) 25 v_2)) 11) = 1 then (s_X12_cross_w0 (f 12) (upd (s_X12_warm_w0 (upd (shF 0 (upd (upd (upd (upd v_3 39 ((v_3 39) + v_6)) 38 ((v_3 38) + v_2)) (35 + tn (v_3 11)) (((upd (upd v_3 39 ((v_3 39) + v_6)) 38 ((v_3 38) + v_2)) (35 + tn (v_3 11))) + 1)) 18 v_2)) 25 v_2)) 13 (((s_X12_warm_w0 (upd (shF 0 (upd (upd (upd (upd v_3 39 ((v_3 39) + v_6)) 38 ((v_3 38) + v_2)) (35 + tn (v_3 11)) (((upd (upd v_3 39 ((v_3 39) + v_6)) 38 ((v_3 38) + v_2)) (35 + tn (v_3 11))) + 1)) 18 v_2)) 25 v_2)) 13) + 1))) else (upd (s_X12_warm_w0 (upd (shF 0 (upd (upd (upd (upd v_3 39 ((v_3 39) + v_6)) 38 ((v_3 38) + v_2)) (35 + tn (v_3 11)) (((upd (upd v_3 39 ((v_3 39) + v_6)) 38 ((v_3 38) + v_2)) (35 + tn (v_3 11))) + 1)) 18 v_2)) 25 v_2)) 13 (((s_X12_warm_w0 (upd (shF 0 (upd (upd (upd (upd v_3 39 ((v_3 39) + v_6)) 38 ((v_3 38) + v_2)) (35 + tn (v_3 11)) (((upd (upd v_3 39 ((v_3 39) + v_6)) 38 ((v_3 38) + v_2)) (35 + tn (v_3 11))) + 1)) 18 v_2)) 25 v_2)) 13) + 1))); v_15))))
abbrev rmX12_tickOn : Room := ({ frames := 3, cells := 0, slots := 0, locals := 64 } : Room)
set_option maxHeartbeats 4000000 in
set_option maxRecDepth 100000 in
theorem c_X12_tickOn (l : Launch) (G : va_G) (y : Nat → ClassId) (h : Nat) (f : Nat → Int32) (sz : Nat) (h1 : ¬ f 1 = 0) (h2 : vp_in (f 2) 10) (h11 : vp_in (f 11) 3) (h16 : vp_in (f 16) 21) : Met l yX12_tickOn wsX12_tickOn rmX12_tickOn (PH G y [.ref h] [aI y h 154 f] sz) (QHv G (fun _ : Unit => [aI y h 154 (s_X12_tickOn_w0 f)]) (va_A [aI y h 154 f] sz)) 0 0 (va_A [aI y h 154 f] sz) := by
  refine Met.ofW (cc := cX12_tickOn) (maxL := 4) (ret := none) (by decide) rfl ?_
  intro p e s m args below meth c s₁ B hml hv
  obtain ⟨rfl, hsz, hP, ⟨hK, hN⟩, hD0⟩ := hv
  have hx := B.exec
  have hb := B.bytes
  have hr := B.returns
  have hts := atoms_spec (ws := wsX12_tickOn) B.pre
  have hown : s.vm.findClass RX12 = some m.cls := findClass_of_methodNamed B.named
  have hlocks := B.notSynchronized
  subst hsz
  have hD := hD0.self (sz := s.heap.size)
  generalize hAe : va_A [aI y h 154 f] s.heap.size = A at hD ⊢
  have hA : ∀ q : Nat, s.heap.size ≤ q → A q := fun q h => by rw [← hAe]; exact Or.inr h
  have hS : va_S A s.heap s.heap [] := va_S.rf
  have hP : va_P G vwCl [aI y h 154 f] s.heap := hP
  have hl := lv_entry ([.ref h]) (n := 4) (Nat.le_of_ble_eq_true rfl)
  rw [lg_entry_eq]
  generalize (lg_sl ([.ref h]) ++ List.replicate (4 - (lg_sl ([.ref h])).length) Slot.unset).toArray = ls at hl ⊢
  have hl : lv_has ls 4 [(0, .ref h)] := hl
  obtain ⟨QQ, hQQ⟩ : ∃ zq9, zq9 = MQ below (QHv G (fun _ : Unit => [aI y h 154 (s_X12_tickOn_w0 f)]) A) ([.ref h] : List Value).toArray s 0 0 A := ⟨_, rfl⟩
  rw [← hQQ]
  refine lv_aload_n hx hb dX12_tickOn_0 rfl (lv_at hl 0 rfl) ?_
  refine lv_bipush (v := 12) hx hb dX12_tickOn_1 (by decide) ?_
  refine al_i (D := G) (n := 154) (f := f) hx hb hK hP 0 0 rfl rfl 12 rfl (by decide) (by first | decide | omega) dX12_tickOn_3 ?_
  refine lv_istore_n (lv' := [(1, .int (f 12)), (0, .ref h)]) hx hb dX12_tickOn_4 rfl hl (by decide) rfl (fun ls hl => ?_)
  refine lv_aload_n hx hb dX12_tickOn_5 rfl (lv_at hl 1 rfl) ?_
  refine lv_bipush (v := 11) hx hb dX12_tickOn_6 (by decide) ?_
  refine al_i (D := G) (n := 154) (f := f) hx hb hK hP 0 0 rfl rfl 11 rfl (by decide) (by first | decide | omega) dX12_tickOn_8 ?_
  have J35_4 : ∀ (v_2 : Int32) (v_3 : Nat → Int32) (e_v_2 : v_2 = (if (f 11) = 0 then 0 else (if (f 11) = 1 then (s_X12_relayOutput_r f) else (s_X12_controlOutput_r f)))) (e_v_3 : v_3 = (if (f 11) = 0 then f else (if (f 11) = 1 then (s_X12_relayOutput_w0 f) else (s_X12_controlOutput_w0 f)))) (H : Heap) (locs : List Loc) (hP : va_P G vwCl [aI y h 154 v_3] H) (hD : va_D A [aI y h 154 v_3]) (hS : va_S A s.heap H locs) (ls : Array Slot) (hl : lv_has ls 4 [(1, .int (f 12)), (0, .ref h)]), W p l e (headSpec wsX12_tickOn rmX12_tickOn).room s m ([.ref h] : List Value).toArray below meth c H locs 0 0 QQ (F0 m 35 ls [.int v_2]) := by
    intro v_2 v_3 e_v_2 e_v_3 H locs hP hD hS ls hl
    have hj1 : v_3 1 = f 1 := out_keep (by decide) (by decide) (by decide) (by decide) e_v_3
    have hj2 : v_3 2 = f 2 := out_keep (by decide) (by decide) (by decide) (by decide) e_v_3
    have hj11 : v_3 11 = f 11 := out_keep (by decide) (by decide) (by decide) (by decide) e_v_3
    have hj16 : v_3 16 = f 16 := out_keep (by decide) (by decide) (by decide) (by decide) e_v_3
    have h11v : vp_in (v_3 11) 3 := by rw [hj11]; exact h11
    refine lv_istore_n (lv' := [(2, .int v_2), (1, .int (f 12)), (0, .ref h)]) hx hb dX12_tickOn_35 rfl hl (by decide) rfl (fun ls hl => ?_)
    refine lv_aload_n hx hb dX12_tickOn_36 rfl (lv_at hl 2 rfl) ?_
    refine lv_bipush (v := 39) hx hb dX12_tickOn_37 (by decide) ?_
    refine lv_dup2_11 hx hb dX12_tickOn_39 rfl rfl ?_
    refine al_i (D := G) (n := 154) (f := v_3) hx hb hK hP 0 0 rfl rfl 39 rfl (by decide) (by first | decide | omega) dX12_tickOn_40 ?_
    refine lv_iload_n hx hb dX12_tickOn_41 rfl (lv_at hl 0 rfl) ?_
    refine lv_aload_n hx hb dX12_tickOn_42 rfl (lv_at hl 2 rfl) ?_
    refine lv_bipush (v := 18) hx hb dX12_tickOn_43 (by decide) ?_
    refine al_i (D := G) (n := 154) (f := v_3) hx hb hK hP 0 0 rfl rfl 18 rfl (by decide) (by first | decide | omega) dX12_tickOn_45 ?_
    have J54_8 : ∀ (v_6 : Int32) (e_v_6 : v_6 = (if v_2 = (v_3 18) then 0 else 1)) (z_7 : v_6 = 0 ∨ v_6 = 1) (ls : Array Slot) (hl : lv_has ls 4 [(2, .int v_2), (1, .int (f 12)), (0, .ref h)]), W p l e (headSpec wsX12_tickOn rmX12_tickOn).room s m ([.ref h] : List Value).toArray below meth c H locs 0 0 QQ (F0 m 54 ls [.int v_6, .int (v_3 39), .int 39, .ref h]) := by
      intro v_6 e_v_6 z_7 ls hl
      refine lv_iadd hx hb dX12_tickOn_54 ?_
      refine as_i (D := G) (n := 154) (f := v_3) hx hb hK hP hD hS 0 0 rfl rfl 39 rfl (by decide) (by first | decide | omega) dX12_tickOn_55 (fun H locs hP hD hS => ?_)
      have hP : va_P G vwCl [aI y h 154 (upd v_3 39 ((v_3 39) + v_6))] H := hP
      have hD : va_D A [aI y h 154 (upd v_3 39 ((v_3 39) + v_6))] := hD
      refine lv_aload_n hx hb dX12_tickOn_56 rfl (lv_at hl 2 rfl) ?_
      refine lv_bipush (v := 38) hx hb dX12_tickOn_57 (by decide) ?_
      refine lv_dup2_11 hx hb dX12_tickOn_59 rfl rfl ?_
      refine al_i (D := G) (n := 154) (f := (upd v_3 39 ((v_3 39) + v_6))) hx hb hK hP 0 0 rfl rfl 38 rfl (by decide) (by first | decide | omega) dX12_tickOn_60 ?_
      refine rw_i (x' := (v_3 38)) rfl ?_
      refine lv_iload_n hx hb dX12_tickOn_61 rfl (lv_at hl 0 rfl) ?_
      refine lv_iadd hx hb dX12_tickOn_62 ?_
      refine as_i (D := G) (n := 154) (f := (upd v_3 39 ((v_3 39) + v_6))) hx hb hK hP hD hS 0 0 rfl rfl 38 rfl (by decide) (by first | decide | omega) dX12_tickOn_63 (fun H locs hP hD hS => ?_)
      have hP : va_P G vwCl [aI y h 154 (upd (upd v_3 39 ((v_3 39) + v_6)) 38 ((v_3 38) + v_2))] H := hP
      have hD : va_D A [aI y h 154 (upd (upd v_3 39 ((v_3 39) + v_6)) 38 ((v_3 38) + v_2))] := hD
      refine lv_aload_n hx hb dX12_tickOn_64 rfl (lv_at hl 2 rfl) ?_
      refine lv_bipush (v := 35) hx hb dX12_tickOn_65 (by decide) ?_
      refine lv_aload_n hx hb dX12_tickOn_67 rfl (lv_at hl 2 rfl) ?_
      refine lv_bipush (v := 11) hx hb dX12_tickOn_68 (by decide) ?_
      refine al_i (D := G) (n := 154) (f := (upd (upd v_3 39 ((v_3 39) + v_6)) 38 ((v_3 38) + v_2))) hx hb hK hP 0 0 rfl rfl 11 rfl (by decide) (by first | decide | omega) dX12_tickOn_70 ?_
      refine rw_i (x' := (v_3 11)) rfl ?_
      refine lv_iadd hx hb dX12_tickOn_71 ?_
      refine lv_dup2_11 hx hb dX12_tickOn_72 rfl rfl ?_
      refine al_i (D := G) (n := 154) (f := (upd (upd v_3 39 ((v_3 39) + v_6)) 38 ((v_3 38) + v_2))) hx hb hK hP 0 0 rfl rfl (35 + tn (v_3 11)) (nI_plus 35 h11v (by decide)) (by have := (in_tn h11v (by decide)).2; omega) (by first | decide | omega) dX12_tickOn_73 ?_
      refine lv_iconst (v := 1) hx hb dX12_tickOn_74 (by decide) ?_
      refine lv_iadd hx hb dX12_tickOn_75 ?_
      refine as_i (D := G) (n := 154) (f := (upd (upd v_3 39 ((v_3 39) + v_6)) 38 ((v_3 38) + v_2))) hx hb hK hP hD hS 0 0 rfl rfl (35 + tn (v_3 11)) (nI_plus 35 h11v (by decide)) (by have := (in_tn h11v (by decide)).2; omega) (by first | decide | omega) dX12_tickOn_76 (fun H locs hP hD hS => ?_)
      have hP : va_P G vwCl [aI y h 154 (upd (upd (upd v_3 39 ((v_3 39) + v_6)) 38 ((v_3 38) + v_2)) (35 + tn (v_3 11)) (((upd (upd v_3 39 ((v_3 39) + v_6)) 38 ((v_3 38) + v_2)) (35 + tn (v_3 11))) + 1))] H := hP
      have hD : va_D A [aI y h 154 (upd (upd (upd v_3 39 ((v_3 39) + v_6)) 38 ((v_3 38) + v_2)) (35 + tn (v_3 11)) (((upd (upd v_3 39 ((v_3 39) + v_6)) 38 ((v_3 38) + v_2)) (35 + tn (v_3 11))) + 1))] := hD
      refine lv_aload_n hx hb dX12_tickOn_77 rfl (lv_at hl 2 rfl) ?_
      refine lv_bipush (v := 18) hx hb dX12_tickOn_78 (by decide) ?_
      refine lv_iload_n hx hb dX12_tickOn_80 rfl (lv_at hl 0 rfl) ?_
      refine as_i (D := G) (n := 154) (f := (upd (upd (upd v_3 39 ((v_3 39) + v_6)) 38 ((v_3 38) + v_2)) (35 + tn (v_3 11)) (((upd (upd v_3 39 ((v_3 39) + v_6)) 38 ((v_3 38) + v_2)) (35 + tn (v_3 11))) + 1))) hx hb hK hP hD hS 0 0 rfl rfl 18 rfl (by decide) (by first | decide | omega) dX12_tickOn_81 (fun H locs hP hD hS => ?_)
      have hP : va_P G vwCl [aI y h 154 (upd (upd (upd (upd v_3 39 ((v_3 39) + v_6)) 38 ((v_3 38) + v_2)) (35 + tn (v_3 11)) (((upd (upd v_3 39 ((v_3 39) + v_6)) 38 ((v_3 38) + v_2)) (35 + tn (v_3 11))) + 1)) 18 v_2)] H := hP
      have hD : va_D A [aI y h 154 (upd (upd (upd (upd v_3 39 ((v_3 39) + v_6)) 38 ((v_3 38) + v_2)) (35 + tn (v_3 11)) (((upd (upd v_3 39 ((v_3 39) + v_6)) 38 ((v_3 38) + v_2)) (35 + tn (v_3 11))) + 1)) 18 v_2)] := hD
      refine lv_bipush (v := 9) hx hb dX12_tickOn_82 (by decide) ?_
      refine lv_istore_n (lv' := [(3, .int 9), (2, .int v_2), (1, .int (f 12)), (0, .ref h)]) hx hb dX12_tickOn_84 rfl hl (by decide) rfl (fun ls hl => ?_)
      have LOOP85_9 : ∀ (n_10 : Nat) (k0 : Nat) (x3 : Int32) (w : Nat → Int32) (hx3 : x3 = nI k0) (hk : k0 ≤ 9) (hw : w = shF k0 (upd (upd (upd (upd v_3 39 ((v_3 39) + v_6)) 38 ((v_3 38) + v_2)) (35 + tn (v_3 11)) (((upd (upd v_3 39 ((v_3 39) + v_6)) 38 ((v_3 38) + v_2)) (35 + tn (v_3 11))) + 1)) 18 v_2)) (hn_12 : k0 < n_10) (H : Heap) (locs : List Loc) (hP : va_P G vwCl [aI y h 154 w] H) (hD : va_D A [aI y h 154 w]) (hS : va_S A s.heap H locs) (ls : Array Slot) (hl : lv_has ls 4 [(3, .int x3), (2, .int v_2), (1, .int (f 12)), (0, .ref h)]), W p l e (headSpec wsX12_tickOn rmX12_tickOn).room s m ([.ref h] : List Value).toArray below meth c H locs 0 0 QQ (F0 m 85 ls []) := by
        intro n_10
        induction n_10 with
        | zero => intro k0 x3 w hx3 hk hw hn_12 H locs hP hD hS ls hl; exact absurd hn_12 (Nat.not_lt_zero _)
        | succ n_10 ih_11 =>
          intro k0 x3 w hx3 hk hw hn_12 H locs hP hD hS ls hl
          refine lv_iload_n hx hb dX12_tickOn_85 rfl (lv_at hl 0 rfl) ?_
          refine lv_if_le (tgt := 109) hx hb dX12_tickOn_86 (by decide) (fun c_13 => ?_) (fun c_13 => ?_)
          · have hk9 : k0 = 0 := zero_of_le0 hx3 (by omega) c_13
            have hw2 : w = shF 0 (upd (upd (upd (upd v_3 39 ((v_3 39) + v_6)) 38 ((v_3 38) + v_2)) (35 + tn (v_3 11)) (((upd (upd v_3 39 ((v_3 39) + v_6)) 38 ((v_3 38) + v_2)) (35 + tn (v_3 11))) + 1)) 18 v_2) := by rw [hw, hk9]
            subst hw2
            refine lv_aload_n hx hb dX12_tickOn_109 rfl (lv_at hl 3 rfl) ?_
            refine lv_bipush (v := 25) hx hb dX12_tickOn_110 (by decide) ?_
            refine lv_iload_n hx hb dX12_tickOn_112 rfl (lv_at hl 1 rfl) ?_
            refine as_i (D := G) (n := 154) (f := (shF 0 (upd (upd (upd (upd v_3 39 ((v_3 39) + v_6)) 38 ((v_3 38) + v_2)) (35 + tn (v_3 11)) (((upd (upd v_3 39 ((v_3 39) + v_6)) 38 ((v_3 38) + v_2)) (35 + tn (v_3 11))) + 1)) 18 v_2))) hx hb hK hP hD hS 0 0 rfl rfl 25 rfl (by decide) (by first | decide | omega) dX12_tickOn_113 (fun H locs hP hD hS => ?_)
            have hP : va_P G vwCl [aI y h 154 (upd (shF 0 (upd (upd (upd (upd v_3 39 ((v_3 39) + v_6)) 38 ((v_3 38) + v_2)) (35 + tn (v_3 11)) (((upd (upd v_3 39 ((v_3 39) + v_6)) 38 ((v_3 38) + v_2)) (35 + tn (v_3 11))) + 1)) 18 v_2)) 25 v_2)] H := hP
            have hD : va_D A [aI y h 154 (upd (shF 0 (upd (upd (upd (upd v_3 39 ((v_3 39) + v_6)) 38 ((v_3 38) + v_2)) (35 + tn (v_3 11)) (((upd (upd v_3 39 ((v_3 39) + v_6)) 38 ((v_3 38) + v_2)) (35 + tn (v_3 11))) + 1)) 18 v_2)) 25 v_2)] := hD
            refine lv_aload_n hx hb dX12_tickOn_114 rfl (lv_at hl 3 rfl) ?_
            refine cl_Hv (wr := []) (fun _ : Unit => [aI y h 154 (s_X12_warm_w0 (upd (shF 0 (upd (upd (upd (upd v_3 39 ((v_3 39) + v_6)) 38 ((v_3 38) + v_2)) (35 + tn (v_3 11)) (((upd (upd v_3 39 ((v_3 39) + v_6)) 38 ((v_3 38) + v_2)) (35 + tn (v_3 11))) + 1)) 18 v_2)) 25 v_2))]) [0] [] [0] (va_runS (As := [.ref h]) (rest := []) ⟨hx, hb, hml, hown, hts⟩ (c_X12_warm l G y h (upd (shF 0 (upd (upd (upd (upd v_3 39 ((v_3 39) + v_6)) 38 ((v_3 38) + v_2)) (35 + tn (v_3 11)) (((upd (upd v_3 39 ((v_3 39) + v_6)) 38 ((v_3 38) + v_2)) (35 + tn (v_3 11))) + 1)) 18 v_2)) 25 v_2) H.size (by have e9 : (upd (shF 0 (upd (upd (upd (upd v_3 39 ((v_3 39) + v_6)) 38 ((v_3 38) + v_2)) (35 + tn (v_3 11)) (((upd (upd v_3 39 ((v_3 39) + v_6)) 38 ((v_3 38) + v_2)) (35 + tn (v_3 11))) + 1)) 18 v_2)) 25 v_2) 1 = (v_3 1) := ((upd_ne (by omega)).trans ((shF_out (by omega)).trans ((upd_ne (by omega)).trans ((upd_ne (by omega)).trans ((upd_ne (by omega)).trans (upd_ne (by omega))))))); rw [e9, hj1]; exact h1) (by have e9 : (upd (shF 0 (upd (upd (upd (upd v_3 39 ((v_3 39) + v_6)) 38 ((v_3 38) + v_2)) (35 + tn (v_3 11)) (((upd (upd v_3 39 ((v_3 39) + v_6)) 38 ((v_3 38) + v_2)) (35 + tn (v_3 11))) + 1)) 18 v_2)) 25 v_2) 2 = (v_3 2) := ((upd_ne (by omega)).trans ((shF_out (by omega)).trans ((upd_ne (by omega)).trans ((upd_ne (by omega)).trans ((upd_ne (by omega)).trans (upd_ne (by omega))))))); rw [e9, hj2]; exact h2)) (va_cwS 1 hts gX12_tickOn_X12_warm rfl rfl rfl (by decide +kernel) ⟨Nat.le_of_ble_eq_true rfl, Nat.le_of_ble_eq_true rfl⟩) (PH_S (hP.sub (ws' := [aI y h 154 (upd (shF 0 (upd (upd (upd (upd v_3 39 ((v_3 39) + v_6)) 38 ((v_3 38) + v_2)) (35 + tn (v_3 11)) (((upd (upd v_3 39 ((v_3 39) + v_6)) 38 ((v_3 38) + v_2)) (35 + tn (v_3 11))) + 1)) 18 v_2)) 25 v_2)]) [0] rfl) hK hN (hD.sub (ws' := [aI y h 154 (upd (shF 0 (upd (upd (upd (upd v_3 39 ((v_3 39) + v_6)) 38 ((v_3 38) + v_2)) (35 + tn (v_3 11)) (((upd (upd v_3 39 ((v_3 39) + v_6)) 38 ((v_3 38) + v_2)) (35 + tn (v_3 11))) + 1)) 18 v_2)) 25 v_2)]) [0] (by decide) rfl)) rfl rfl hl.1 rfl (lv_room (Nat.le_of_ble_eq_true rfl)) dX12_tickOn_115 ⟨Nat.le_of_ble_eq_true rfl, Nat.le_of_ble_eq_true rfl⟩) hP hD hS hA rfl rfl rfl (by decide) rfl (fun _ => rfl) (fun _ H locs hP hD hS => ?_)
            have hP : va_P G vwCl [aI y h 154 (s_X12_warm_w0 (upd (shF 0 (upd (upd (upd (upd v_3 39 ((v_3 39) + v_6)) 38 ((v_3 38) + v_2)) (35 + tn (v_3 11)) (((upd (upd v_3 39 ((v_3 39) + v_6)) 38 ((v_3 38) + v_2)) (35 + tn (v_3 11))) + 1)) 18 v_2)) 25 v_2))] H := hP
            have hD : va_D A [aI y h 154 (s_X12_warm_w0 (upd (shF 0 (upd (upd (upd (upd v_3 39 ((v_3 39) + v_6)) 38 ((v_3 38) + v_2)) (35 + tn (v_3 11)) (((upd (upd v_3 39 ((v_3 39) + v_6)) 38 ((v_3 38) + v_2)) (35 + tn (v_3 11))) + 1)) 18 v_2)) 25 v_2))] := hD
            refine lv_aload_n hx hb dX12_tickOn_118 rfl (lv_at hl 3 rfl) ?_
            refine lv_bipush (v := 13) hx hb dX12_tickOn_119 (by decide) ?_
            refine lv_dup2_11 hx hb dX12_tickOn_121 rfl rfl ?_
            refine al_i (D := G) (n := 154) (f := (s_X12_warm_w0 (upd (shF 0 (upd (upd (upd (upd v_3 39 ((v_3 39) + v_6)) 38 ((v_3 38) + v_2)) (35 + tn (v_3 11)) (((upd (upd v_3 39 ((v_3 39) + v_6)) 38 ((v_3 38) + v_2)) (35 + tn (v_3 11))) + 1)) 18 v_2)) 25 v_2))) hx hb hK hP 0 0 rfl rfl 13 rfl (by decide) (by first | decide | omega) dX12_tickOn_122 ?_
            refine lv_iconst (v := 1) hx hb dX12_tickOn_123 (by decide) ?_
            refine lv_iadd hx hb dX12_tickOn_124 ?_
            refine as_i (D := G) (n := 154) (f := (s_X12_warm_w0 (upd (shF 0 (upd (upd (upd (upd v_3 39 ((v_3 39) + v_6)) 38 ((v_3 38) + v_2)) (35 + tn (v_3 11)) (((upd (upd v_3 39 ((v_3 39) + v_6)) 38 ((v_3 38) + v_2)) (35 + tn (v_3 11))) + 1)) 18 v_2)) 25 v_2))) hx hb hK hP hD hS 0 0 rfl rfl 13 rfl (by decide) (by first | decide | omega) dX12_tickOn_125 (fun H locs hP hD hS => ?_)
            have hP : va_P G vwCl [aI y h 154 (upd (s_X12_warm_w0 (upd (shF 0 (upd (upd (upd (upd v_3 39 ((v_3 39) + v_6)) 38 ((v_3 38) + v_2)) (35 + tn (v_3 11)) (((upd (upd v_3 39 ((v_3 39) + v_6)) 38 ((v_3 38) + v_2)) (35 + tn (v_3 11))) + 1)) 18 v_2)) 25 v_2)) 13 (((s_X12_warm_w0 (upd (shF 0 (upd (upd (upd (upd v_3 39 ((v_3 39) + v_6)) 38 ((v_3 38) + v_2)) (35 + tn (v_3 11)) (((upd (upd v_3 39 ((v_3 39) + v_6)) 38 ((v_3 38) + v_2)) (35 + tn (v_3 11))) + 1)) 18 v_2)) 25 v_2)) 13) + 1))] H := hP
            have hD : va_D A [aI y h 154 (upd (s_X12_warm_w0 (upd (shF 0 (upd (upd (upd (upd v_3 39 ((v_3 39) + v_6)) 38 ((v_3 38) + v_2)) (35 + tn (v_3 11)) (((upd (upd v_3 39 ((v_3 39) + v_6)) 38 ((v_3 38) + v_2)) (35 + tn (v_3 11))) + 1)) 18 v_2)) 25 v_2)) 13 (((s_X12_warm_w0 (upd (shF 0 (upd (upd (upd (upd v_3 39 ((v_3 39) + v_6)) 38 ((v_3 38) + v_2)) (35 + tn (v_3 11)) (((upd (upd v_3 39 ((v_3 39) + v_6)) 38 ((v_3 38) + v_2)) (35 + tn (v_3 11))) + 1)) 18 v_2)) 25 v_2)) 13) + 1))] := hD
            refine lv_aload_n hx hb dX12_tickOn_126 rfl (lv_at hl 3 rfl) ?_
            refine lv_bipush (v := 11) hx hb dX12_tickOn_127 (by decide) ?_
            refine al_i (D := G) (n := 154) (f := (upd (s_X12_warm_w0 (upd (shF 0 (upd (upd (upd (upd v_3 39 ((v_3 39) + v_6)) 38 ((v_3 38) + v_2)) (35 + tn (v_3 11)) (((upd (upd v_3 39 ((v_3 39) + v_6)) 38 ((v_3 38) + v_2)) (35 + tn (v_3 11))) + 1)) 18 v_2)) 25 v_2)) 13 (((s_X12_warm_w0 (upd (shF 0 (upd (upd (upd (upd v_3 39 ((v_3 39) + v_6)) 38 ((v_3 38) + v_2)) (35 + tn (v_3 11)) (((upd (upd v_3 39 ((v_3 39) + v_6)) 38 ((v_3 38) + v_2)) (35 + tn (v_3 11))) + 1)) 18 v_2)) 25 v_2)) 13) + 1))) hx hb hK hP 0 0 rfl rfl 11 rfl (by decide) (by first | decide | omega) dX12_tickOn_129 ?_
            refine rw_i (x' := ((s_X12_warm_w0 (upd (shF 0 (upd (upd (upd (upd v_3 39 ((v_3 39) + v_6)) 38 ((v_3 38) + v_2)) (35 + tn (v_3 11)) (((upd (upd v_3 39 ((v_3 39) + v_6)) 38 ((v_3 38) + v_2)) (35 + tn (v_3 11))) + 1)) 18 v_2)) 25 v_2)) 11)) rfl ?_
            refine lv_iconst (v := 1) hx hb dX12_tickOn_130 (by decide) ?_
            have J139_16 : ∀ (v_15 : Nat → Int32) (e_v_15 : v_15 = (if ((s_X12_warm_w0 (upd (shF 0 (upd (upd (upd (upd v_3 39 ((v_3 39) + v_6)) 38 ((v_3 38) + v_2)) (35 + tn (v_3 11)) (((upd (upd v_3 39 ((v_3 39) + v_6)) 38 ((v_3 38) + v_2)) (35 + tn (v_3 11))) + 1)) 18 v_2)) 25 v_2)) 11) = 1 then (s_X12_cross_w0 (f 12) (upd (s_X12_warm_w0 (upd (shF 0 (upd (upd (upd (upd v_3 39 ((v_3 39) + v_6)) 38 ((v_3 38) + v_2)) (35 + tn (v_3 11)) (((upd (upd v_3 39 ((v_3 39) + v_6)) 38 ((v_3 38) + v_2)) (35 + tn (v_3 11))) + 1)) 18 v_2)) 25 v_2)) 13 (((s_X12_warm_w0 (upd (shF 0 (upd (upd (upd (upd v_3 39 ((v_3 39) + v_6)) 38 ((v_3 38) + v_2)) (35 + tn (v_3 11)) (((upd (upd v_3 39 ((v_3 39) + v_6)) 38 ((v_3 38) + v_2)) (35 + tn (v_3 11))) + 1)) 18 v_2)) 25 v_2)) 13) + 1))) else (upd (s_X12_warm_w0 (upd (shF 0 (upd (upd (upd (upd v_3 39 ((v_3 39) + v_6)) 38 ((v_3 38) + v_2)) (35 + tn (v_3 11)) (((upd (upd v_3 39 ((v_3 39) + v_6)) 38 ((v_3 38) + v_2)) (35 + tn (v_3 11))) + 1)) 18 v_2)) 25 v_2)) 13 (((s_X12_warm_w0 (upd (shF 0 (upd (upd (upd (upd v_3 39 ((v_3 39) + v_6)) 38 ((v_3 38) + v_2)) (35 + tn (v_3 11)) (((upd (upd v_3 39 ((v_3 39) + v_6)) 38 ((v_3 38) + v_2)) (35 + tn (v_3 11))) + 1)) 18 v_2)) 25 v_2)) 13) + 1)))) (H : Heap) (locs : List Loc) (hP : va_P G vwCl [aI y h 154 v_15] H) (hD : va_D A [aI y h 154 v_15]) (hS : va_S A s.heap H locs) (ls : Array Slot) (hl : lv_has ls 4 []), W p l e (headSpec wsX12_tickOn rmX12_tickOn).room s m ([.ref h] : List Value).toArray below meth c H locs 0 0 QQ (F0 m 139 ls []) := by
              intro v_15 e_v_15 H locs hP hD hS ls hl
              rw [hQQ]
              exact W.vret hx hb hr (end_Hv () hP hD hS (congrArg (fun (z0 : Nat → Int32) => [aI y h 154 z0]) (by subst e_v_15; subst e_v_6; subst e_v_3; subst e_v_2; unfold s_X12_tickOn_w0; exact rfl))) hS.2.2 dX12_tickOn_139
            refine lv_icmp_ne (tgt := 139) hx hb dX12_tickOn_131 (by decide) (fun c_14 => ?_) (fun c_14 => ?_)
            · exact J139_16 _ (if_neg c_14).symm H locs hP hD hS ls (lv_sub hl [] rfl)
            · refine lv_aload_n hx hb dX12_tickOn_134 rfl (lv_at hl 3 rfl) ?_
              refine lv_iload_n hx hb dX12_tickOn_135 rfl (lv_at hl 2 rfl) ?_
              refine cl_Hv (wr := []) (fun _ : Unit => [aI y h 154 (s_X12_cross_w0 (f 12) (upd (s_X12_warm_w0 (upd (shF 0 (upd (upd (upd (upd v_3 39 ((v_3 39) + v_6)) 38 ((v_3 38) + v_2)) (35 + tn (v_3 11)) (((upd (upd v_3 39 ((v_3 39) + v_6)) 38 ((v_3 38) + v_2)) (35 + tn (v_3 11))) + 1)) 18 v_2)) 25 v_2)) 13 (((s_X12_warm_w0 (upd (shF 0 (upd (upd (upd (upd v_3 39 ((v_3 39) + v_6)) 38 ((v_3 38) + v_2)) (35 + tn (v_3 11)) (((upd (upd v_3 39 ((v_3 39) + v_6)) 38 ((v_3 38) + v_2)) (35 + tn (v_3 11))) + 1)) 18 v_2)) 25 v_2)) 13) + 1)))]) [0] [] [0] (va_runS (As := [.ref h, .int (f 12)]) (rest := []) ⟨hx, hb, hml, hown, hts⟩ (c_X12_cross l G y h (f 12) (upd (s_X12_warm_w0 (upd (shF 0 (upd (upd (upd (upd v_3 39 ((v_3 39) + v_6)) 38 ((v_3 38) + v_2)) (35 + tn (v_3 11)) (((upd (upd v_3 39 ((v_3 39) + v_6)) 38 ((v_3 38) + v_2)) (35 + tn (v_3 11))) + 1)) 18 v_2)) 25 v_2)) 13 (((s_X12_warm_w0 (upd (shF 0 (upd (upd (upd (upd v_3 39 ((v_3 39) + v_6)) 38 ((v_3 38) + v_2)) (35 + tn (v_3 11)) (((upd (upd v_3 39 ((v_3 39) + v_6)) 38 ((v_3 38) + v_2)) (35 + tn (v_3 11))) + 1)) 18 v_2)) 25 v_2)) 13) + 1)) H.size (by have e8 : (upd (shF 0 (upd (upd (upd (upd v_3 39 ((v_3 39) + v_6)) 38 ((v_3 38) + v_2)) (35 + tn (v_3 11)) (((upd (upd v_3 39 ((v_3 39) + v_6)) 38 ((v_3 38) + v_2)) (35 + tn (v_3 11))) + 1)) 18 v_2)) 25 v_2) 16 = (v_3 16) := ((upd_ne (by omega)).trans ((shF_out (by omega)).trans ((upd_ne (by omega)).trans ((upd_ne (by omega)).trans ((upd_ne (by omega)).trans (upd_ne (by omega))))))); have e9 : (upd (s_X12_warm_w0 (upd (shF 0 (upd (upd (upd (upd v_3 39 ((v_3 39) + v_6)) 38 ((v_3 38) + v_2)) (35 + tn (v_3 11)) (((upd (upd v_3 39 ((v_3 39) + v_6)) 38 ((v_3 38) + v_2)) (35 + tn (v_3 11))) + 1)) 18 v_2)) 25 v_2)) 13 (((s_X12_warm_w0 (upd (shF 0 (upd (upd (upd (upd v_3 39 ((v_3 39) + v_6)) 38 ((v_3 38) + v_2)) (35 + tn (v_3 11)) (((upd (upd v_3 39 ((v_3 39) + v_6)) 38 ((v_3 38) + v_2)) (35 + tn (v_3 11))) + 1)) 18 v_2)) 25 v_2)) 13) + 1)) 16 = (upd (shF 0 (upd (upd (upd (upd v_3 39 ((v_3 39) + v_6)) 38 ((v_3 38) + v_2)) (35 + tn (v_3 11)) (((upd (upd v_3 39 ((v_3 39) + v_6)) 38 ((v_3 38) + v_2)) (35 + tn (v_3 11))) + 1)) 18 v_2)) 25 v_2) 16 := (upd_ne (by omega)).trans (warm_keep (by decide)); rw [e9, e8, hj16]; exact h16)) (va_cwS 2 hts gX12_tickOn_X12_cross rfl rfl rfl (by decide +kernel) ⟨Nat.le_of_ble_eq_true rfl, Nat.le_of_ble_eq_true rfl⟩) (PH_S (hP.sub (ws' := [aI y h 154 (upd (s_X12_warm_w0 (upd (shF 0 (upd (upd (upd (upd v_3 39 ((v_3 39) + v_6)) 38 ((v_3 38) + v_2)) (35 + tn (v_3 11)) (((upd (upd v_3 39 ((v_3 39) + v_6)) 38 ((v_3 38) + v_2)) (35 + tn (v_3 11))) + 1)) 18 v_2)) 25 v_2)) 13 (((s_X12_warm_w0 (upd (shF 0 (upd (upd (upd (upd v_3 39 ((v_3 39) + v_6)) 38 ((v_3 38) + v_2)) (35 + tn (v_3 11)) (((upd (upd v_3 39 ((v_3 39) + v_6)) 38 ((v_3 38) + v_2)) (35 + tn (v_3 11))) + 1)) 18 v_2)) 25 v_2)) 13) + 1))]) [0] rfl) hK hN (hD.sub (ws' := [aI y h 154 (upd (s_X12_warm_w0 (upd (shF 0 (upd (upd (upd (upd v_3 39 ((v_3 39) + v_6)) 38 ((v_3 38) + v_2)) (35 + tn (v_3 11)) (((upd (upd v_3 39 ((v_3 39) + v_6)) 38 ((v_3 38) + v_2)) (35 + tn (v_3 11))) + 1)) 18 v_2)) 25 v_2)) 13 (((s_X12_warm_w0 (upd (shF 0 (upd (upd (upd (upd v_3 39 ((v_3 39) + v_6)) 38 ((v_3 38) + v_2)) (35 + tn (v_3 11)) (((upd (upd v_3 39 ((v_3 39) + v_6)) 38 ((v_3 38) + v_2)) (35 + tn (v_3 11))) + 1)) 18 v_2)) 25 v_2)) 13) + 1))]) [0] (by decide) rfl)) rfl rfl hl.1 rfl (lv_room (Nat.le_of_ble_eq_true rfl)) dX12_tickOn_136 ⟨Nat.le_of_ble_eq_true rfl, Nat.le_of_ble_eq_true rfl⟩) hP hD hS hA rfl rfl rfl (by decide) rfl (fun _ => rfl) (fun _ H locs hP hD hS => ?_)
              have hP : va_P G vwCl [aI y h 154 (s_X12_cross_w0 (f 12) (upd (s_X12_warm_w0 (upd (shF 0 (upd (upd (upd (upd v_3 39 ((v_3 39) + v_6)) 38 ((v_3 38) + v_2)) (35 + tn (v_3 11)) (((upd (upd v_3 39 ((v_3 39) + v_6)) 38 ((v_3 38) + v_2)) (35 + tn (v_3 11))) + 1)) 18 v_2)) 25 v_2)) 13 (((s_X12_warm_w0 (upd (shF 0 (upd (upd (upd (upd v_3 39 ((v_3 39) + v_6)) 38 ((v_3 38) + v_2)) (35 + tn (v_3 11)) (((upd (upd v_3 39 ((v_3 39) + v_6)) 38 ((v_3 38) + v_2)) (35 + tn (v_3 11))) + 1)) 18 v_2)) 25 v_2)) 13) + 1)))] H := hP
              have hD : va_D A [aI y h 154 (s_X12_cross_w0 (f 12) (upd (s_X12_warm_w0 (upd (shF 0 (upd (upd (upd (upd v_3 39 ((v_3 39) + v_6)) 38 ((v_3 38) + v_2)) (35 + tn (v_3 11)) (((upd (upd v_3 39 ((v_3 39) + v_6)) 38 ((v_3 38) + v_2)) (35 + tn (v_3 11))) + 1)) 18 v_2)) 25 v_2)) 13 (((s_X12_warm_w0 (upd (shF 0 (upd (upd (upd (upd v_3 39 ((v_3 39) + v_6)) 38 ((v_3 38) + v_2)) (35 + tn (v_3 11)) (((upd (upd v_3 39 ((v_3 39) + v_6)) 38 ((v_3 38) + v_2)) (35 + tn (v_3 11))) + 1)) 18 v_2)) 25 v_2)) 13) + 1)))] := hD
              exact J139_16 _ (if_pos c_14).symm H locs hP hD hS ls (lv_sub hl [] rfl)
          · have hk9 : 0 < k0 := pos_of_nle0 hx3 c_13
            refine lv_aload_n hx hb dX12_tickOn_89 rfl (lv_at hl 3 rfl) ?_
            refine lv_bipush (v := 25) hx hb dX12_tickOn_90 (by decide) ?_
            refine lv_iload_n hx hb dX12_tickOn_92 rfl (lv_at hl 0 rfl) ?_
            refine lv_iadd hx hb dX12_tickOn_93 ?_
            refine lv_aload_n hx hb dX12_tickOn_94 rfl (lv_at hl 3 rfl) ?_
            refine lv_bipush (v := 25) hx hb dX12_tickOn_95 (by decide) ?_
            refine lv_iload_n hx hb dX12_tickOn_97 rfl (lv_at hl 0 rfl) ?_
            refine lv_iadd hx hb dX12_tickOn_98 ?_
            refine lv_iconst (v := 1) hx hb dX12_tickOn_99 (by decide) ?_
            refine lv_isub hx hb dX12_tickOn_100 ?_
            refine al_i (D := G) (n := 154) (f := w) hx hb hK hP 0 0 rfl rfl (25 + (k0 - 1)) (sh_ix hx3 hk9) (by omega) (by first | decide | omega) dX12_tickOn_101 ?_
            refine as_i (D := G) (n := 154) (f := w) hx hb hK hP hD hS 0 0 rfl rfl (25 + k0) (by rw [hx3]; exact nI_add 25 k0) (by omega) (by first | decide | omega) dX12_tickOn_102 (fun H locs hP hD hS => ?_)
            have hP : va_P G vwCl [aI y h 154 (upd w (25 + k0) (w (25 + (k0 - 1))))] H := hP
            have hD : va_D A [aI y h 154 (upd w (25 + k0) (w (25 + (k0 - 1))))] := hD
            refine lv_iinc (v := (x3 + (-1))) (lv' := [(3, .int (x3 + (-1))), (2, .int v_2), (1, .int (f 12)), (0, .ref h)]) hx hb dX12_tickOn_103 hl (k := 0) rfl (by first | rfl | decide) (by decide) rfl (fun ls hl => ?_)
            refine lv_goto (tgt := 85) hx hb dX12_tickOn_106 (by decide) ?_
            exact ih_11 (k0 - 1) (x3 + (-1)) (upd w (25 + k0) (w (25 + (k0 - 1)))) (dec_ix hx3 hk9) (by omega) (by rw [hw]; exact shF_t hk9 hk _) (by omega) H locs hP hD hS ls (lv_sub hl [0, 1, 2, 3] rfl)
      exact LOOP85_9 (9 + 1) 9 9 (upd (upd (upd (upd v_3 39 ((v_3 39) + v_6)) 38 ((v_3 38) + v_2)) (35 + tn (v_3 11)) (((upd (upd v_3 39 ((v_3 39) + v_6)) 38 ((v_3 38) + v_2)) (35 + tn (v_3 11))) + 1)) 18 v_2) rfl (by omega) (shF_9 _).symm (Nat.lt_succ_self _) H locs hP hD hS ls (lv_sub hl [0, 1, 2, 3] rfl)
    refine lv_icmp_eq (tgt := 53) hx hb dX12_tickOn_46 (by decide) (fun c_5 => ?_) (fun c_5 => ?_)
    · refine lv_iconst (v := 0) hx hb dX12_tickOn_53 (by decide) ?_
      exact J54_8 _ (if_pos c_5).symm (Or.inl rfl) ls (lv_sub hl [0, 1, 2] rfl)
    · refine lv_iconst (v := 1) hx hb dX12_tickOn_49 (by decide) ?_
      refine lv_goto (tgt := 54) hx hb dX12_tickOn_50 (by decide) ?_
      exact J54_8 _ (if_neg c_5).symm (Or.inr rfl) ls (lv_sub hl [0, 1, 2] rfl)
  refine lv_if_ne (tgt := 16) hx hb dX12_tickOn_9 (by decide) (fun c_1 => ?_) (fun c_1 => ?_)
  · refine lv_aload_n hx hb dX12_tickOn_16 rfl (lv_at hl 1 rfl) ?_
    refine lv_bipush (v := 11) hx hb dX12_tickOn_17 (by decide) ?_
    refine al_i (D := G) (n := 154) (f := f) hx hb hK hP 0 0 rfl rfl 11 rfl (by decide) (by first | decide | omega) dX12_tickOn_19 ?_
    refine lv_iconst (v := 1) hx hb dX12_tickOn_20 (by decide) ?_
    refine lv_icmp_ne (tgt := 31) hx hb dX12_tickOn_21 (by decide) (fun c_17 => ?_) (fun c_17 => ?_)
    · refine lv_aload_n hx hb dX12_tickOn_31 rfl (lv_at hl 1 rfl) ?_
      refine cl_Hi (wr := []) (fun _ : Unit => [aI y h 154 (s_X12_controlOutput_w0 f)]) [0] [] [0] (va_runS (As := [.ref h]) (rest := []) ⟨hx, hb, hml, hown, hts⟩ (c_X12_controlOutput l G y h f s.heap.size) (va_cwS 1 hts gX12_tickOn_X12_controlOutput rfl rfl rfl (by decide +kernel) ⟨Nat.le_of_ble_eq_true rfl, Nat.le_of_ble_eq_true rfl⟩) (PH_S (hP.sub (ws' := [aI y h 154 f]) [0] rfl) hK hN (hD.sub (ws' := [aI y h 154 f]) [0] (by decide) rfl)) rfl rfl hl.1 rfl (lv_room (Nat.le_of_ble_eq_true rfl)) dX12_tickOn_32 ⟨Nat.le_of_ble_eq_true rfl, Nat.le_of_ble_eq_true rfl⟩) hP hD hS hA rfl rfl rfl (by decide) rfl (fun _ => rfl) (fun _ H locs hP hD hS => ?_)
      have hP : va_P G vwCl [aI y h 154 (s_X12_controlOutput_w0 f)] H := hP
      have hD : va_D A [aI y h 154 (s_X12_controlOutput_w0 f)] := hD
      exact J35_4 _ _ ((if_neg c_1).trans (if_neg c_17)).symm ((if_neg c_1).trans (if_neg c_17)).symm H locs hP hD hS ls (lv_sub hl [0, 1] rfl)
    · refine lv_aload_n hx hb dX12_tickOn_24 rfl (lv_at hl 1 rfl) ?_
      refine cl_Hi (wr := []) (fun _ : Unit => [aI y h 154 (s_X12_relayOutput_w0 f)]) [0] [] [0] (va_runS (As := [.ref h]) (rest := []) ⟨hx, hb, hml, hown, hts⟩ (c_X12_relayOutput l G y h f s.heap.size) (va_cwS 1 hts gX12_tickOn_X12_relayOutput rfl rfl rfl (by decide +kernel) ⟨Nat.le_of_ble_eq_true rfl, Nat.le_of_ble_eq_true rfl⟩) (PH_S (hP.sub (ws' := [aI y h 154 f]) [0] rfl) hK hN (hD.sub (ws' := [aI y h 154 f]) [0] (by decide) rfl)) rfl rfl hl.1 rfl (lv_room (Nat.le_of_ble_eq_true rfl)) dX12_tickOn_25 ⟨Nat.le_of_ble_eq_true rfl, Nat.le_of_ble_eq_true rfl⟩) hP hD hS hA rfl rfl rfl (by decide) rfl (fun _ => rfl) (fun _ H locs hP hD hS => ?_)
      have hP : va_P G vwCl [aI y h 154 (s_X12_relayOutput_w0 f)] H := hP
      have hD : va_D A [aI y h 154 (s_X12_relayOutput_w0 f)] := hD
      refine lv_goto (tgt := 35) hx hb dX12_tickOn_28 (by decide) ?_
      exact J35_4 _ _ ((if_neg c_1).trans (if_pos c_17)).symm ((if_neg c_1).trans (if_pos c_17)).symm H locs hP hD hS ls (lv_sub hl [0, 1] rfl)
  · refine lv_iconst (v := 0) hx hb dX12_tickOn_12 (by decide) ?_
    refine lv_goto (tgt := 35) hx hb dX12_tickOn_13 (by decide) ?_
    exact J35_4 _ _ (if_pos c_1).symm (if_pos c_1).symm s.heap [] hP hD hS ls (lv_sub hl [0, 1] rfl)

theorem cross_keep_lemma : True := trivial

def s_X12_spanOf_r (a1 : Int32) (f : Nat → Int32) : Int32 := ((f (42 + 4 * tn a1 + 1)) - (f (42 + 4 * tn a1 + 2)))
abbrev rmX12_spanOf : Room := ({ frames := 0, cells := 0, slots := 0, locals := 0 } : Room)
set_option maxHeartbeats 4000000 in
set_option maxRecDepth 100000 in
theorem c_X12_spanOf (l : Launch) (G : va_G) (y : Nat → ClassId) (h : Nat) (a1 : Int32) (f : Nat → Int32) (h1 : vp_in a1 20) : Met l yX12_spanOf wsX12_spanOf rmX12_spanOf (PR G y [.ref h, .int a1] [aI y h 154 f]) (QRi (s_X12_spanOf_r a1 f)) 0 0 (fun _ => False) := by
  refine Met.ofW (cc := cX12_spanOf) (maxL := 2) (ret := (some .int)) (by decide) rfl ?_
  intro p e s m args below meth c s₁ B hml hv
  obtain ⟨rfl, hP, hK, hN⟩ := hv
  have hx := B.exec
  have hb := B.bytes
  have hr := B.returns
  have hts := atoms_spec (ws := wsX12_spanOf) B.pre
  have hown : s.vm.findClass RX12 = some m.cls := findClass_of_methodNamed B.named
  have hlocks := B.notSynchronized
  obtain ⟨ha1, hb1⟩ := in_tn h1 (by decide)
  have hl := lv_entry ([.ref h, .int a1]) (n := 2) (Nat.le_of_ble_eq_true rfl)
  rw [lg_entry_eq]
  generalize (lg_sl ([.ref h, .int a1]) ++ List.replicate (2 - (lg_sl ([.ref h, .int a1])).length) Slot.unset).toArray = ls at hl ⊢
  have hl : lv_has ls 2 [(0, .ref h), (1, .int a1)] := hl
  refine lv_aload_n hx hb dX12_spanOf_0 rfl (lv_at hl 0 rfl) ?_
  refine lv_bipush (v := 42) hx hb dX12_spanOf_1 (by decide) ?_
  refine lv_iconst (v := 4) hx hb dX12_spanOf_3 (by decide) ?_
  refine lv_iload_n hx hb dX12_spanOf_4 rfl (lv_at hl 1 rfl) ?_
  refine lv_imul hx hb dX12_spanOf_5 ?_
  refine lv_iadd hx hb dX12_spanOf_6 ?_
  refine lv_iconst (v := 1) hx hb dX12_spanOf_7 (by decide) ?_
  refine lv_iadd hx hb dX12_spanOf_8 ?_
  refine al_i (D := G) (n := 154) (f := f) hx hb hK hP 0 0 rfl rfl (42 + 4 * tn a1 + 1) (ix4 1 _ ha1) (by omega) (by first | decide | omega) dX12_spanOf_9 ?_
  refine lv_aload_n hx hb dX12_spanOf_10 rfl (lv_at hl 0 rfl) ?_
  refine lv_bipush (v := 42) hx hb dX12_spanOf_11 (by decide) ?_
  refine lv_iconst (v := 4) hx hb dX12_spanOf_13 (by decide) ?_
  refine lv_iload_n hx hb dX12_spanOf_14 rfl (lv_at hl 1 rfl) ?_
  refine lv_imul hx hb dX12_spanOf_15 ?_
  refine lv_iadd hx hb dX12_spanOf_16 ?_
  refine lv_iconst (v := 2) hx hb dX12_spanOf_17 (by decide) ?_
  refine lv_iadd hx hb dX12_spanOf_18 ?_
  refine al_i (D := G) (n := 154) (f := f) hx hb hK hP 0 0 rfl rfl (42 + 4 * tn a1 + 2) (ix4 2 _ ha1) (by omega) (by first | decide | omega) dX12_spanOf_19 ?_
  refine lv_isub hx hb dX12_spanOf_20 ?_
  exact W.iret hx hb hr (end_Ri rfl) (fun _ h => nomatch h) dX12_spanOf_21

theorem span_sP {f : Nat → Int32} {x : Int32} {k : Nat} (hx : x = nI k) (hk : k < 1000000) : s_X12_spanOf_r x f = sP f k := by
  have e : tn x = k := by rw [hx]; exact nI_clamp (by omega)
  unfold s_X12_spanOf_r
  rw [e]
  rfl
theorem mid_val {f : Nat → Int32} {a1 x v : Int32} {k : Nat} (hx : x = nI k) (hk : k < 1000000) (e : v = (if a1 = 0 then (f (42 + 4 * k)) else (s_X12_spanOf_r x f))) : v = vP a1 f k := by
  rw [e]
  simp only [vP]
  split
  · rfl
  · exact span_sP hx hk
theorem ins_end0 {w : Nat → Int32} {v : Int32} {t : Nat} (h : t = 0) : upd w t v = insF w v t := by subst h; rfl
theorem ins_end1 {w : Nat → Int32} {v : Int32} {t : Nat} (h0 : 0 < t) (h : w (t - 1) ≤ v) : upd w t v = insF w v t := by
  obtain ⟨k, rfl⟩ : ∃ k, t = k + 1 := ⟨t - 1, by omega⟩
  have h : w k ≤ v := h
  simp only [insF]
  rw [if_neg (by rw [Int32.not_lt]; exact h)]
theorem ins_step {w : Nat → Int32} {v : Int32} {t : Nat} (h0 : 0 < t) (h : ¬ w (t - 1) ≤ v) : insF (upd w t (w (t - 1))) v (t - 1) = insF w v t := by
  obtain ⟨k, rfl⟩ : ∃ k, t = k + 1 := ⟨t - 1, by omega⟩
  have h : ¬ w k ≤ v := h
  show insF (upd w (k + 1) (w k)) v k = insF w v (k + 1)
  simp only [insF]
  rw [if_pos (by rw [← Int32.not_le]; exact h)]

theorem mid_n {x : Int32} {n : Nat} (hn1 : x = nI n) (hn2 : n < 21) (h : 1 ≤ x - 1) : 2 ≤ n := by
  rcases Nat.lt_or_ge n 2 with q | q
  · have : n = 0 ∨ n = 1 := by omega
    subst hn1
    rcases this with rfl | rfl
    · exact absurd h (by decide)
    · exact absurd h (by decide)
  · exact q
theorem mid_ix {x : Int32} {n : Nat} (hn1 : x = nI n) (hn2 : n < 21) (h : 1 ≤ x - 1) : ((x - nI 1) - nI 1) / nI 2 = nI ((n - 2) / 2) := by
  have h2 := mid_n hn1 hn2 h
  rw [hn1, pk_sub (by omega), pk_sub (by omega), pk_div (by omega) (by omega) (by omega)]
  congr 1
theorem mid_end {f o9 : Nat → Int32} {a1 v : Int32} (hn1 : f 16 = nI (nP f)) (hn2 : nP f < 21) (e : v = (if 1 ≤ ((f 16) - 1) then (o9 ((nP f - 2) / 2)) else (-99999))) (hw9 : ∀ h2 : ¬ nP f < 2, o9 ((nP f - 2) / 2) = midP f a1) : v = midP f a1 := by
  rw [e]
  rcases Nat.lt_or_ge (nP f) 2 with q | q
  · have h1 : ¬ 1 ≤ (f 16) - 1 := fun h => absurd (mid_n hn1 hn2 h) (by omega)
    rw [if_neg h1]
    simp only [midP, midG]
    rw [if_pos q]
  · have h1 : 1 ≤ (f 16) - 1 := by
      rw [hn1]
      have e9 : nI (nP f) - nI 1 = nI (nP f - 1) := pk_sub (by omega)
      show nI 1 ≤ nI (nP f) - nI 1
      rw [e9]
      exact nI_le (by omega) (by omega)
    rw [if_pos h1]
    exact hw9 (by omega)

abbrev rmX12_middleOf : Room := ({ frames := 1, cells := 0, slots := 0, locals := 21 } : Room)
set_option maxHeartbeats 4000000 in
set_option maxRecDepth 100000 in
theorem c_X12_middleOf (l : Launch) (G : va_G) (y : Nat → ClassId) (h : Nat) (r : Nat) (a1 : Int32) (q1 : Nat) (q4 : Nat) (q5 : Nat) (q6 : Nat) (q7 : Nat) (q9 : Nat) (q10 : Nat) (q11 : Nat) (x : Nat → Int32) (f : Nat → Int32) (o : Nat → Int32) (sz : Nat) (h16 : vp_in (f 16) 21) : Met l yX12_middleOf wsX12_middleOf rmX12_middleOf (PH G y [.ref h, .ref r, .int a1] [kX12 h q1 q4 q5 q6 q7 q9 q10 q11 x, aI y r 154 f, aI y q11 20 o] sz) (QHi G (midP f a1) (fun u : (Nat → Int32) => [kX12 h q1 q4 q5 q6 q7 q9 q10 q11 x, aI y r 154 f, aI y q11 20 u]) (va_A [kX12 h q1 q4 q5 q6 q7 q9 q10 q11 x, aI y r 154 f, aI y q11 20 o] sz)) 0 0 (va_A [kX12 h q1 q4 q5 q6 q7 q9 q10 q11 x, aI y r 154 f, aI y q11 20 o] sz) := by
  refine Met.ofW (cc := cX12_middleOf) (maxL := 7) (ret := (some .int)) (by decide) rfl ?_
  intro p e s m args below meth c s₁ B hml hv
  obtain ⟨rfl, hsz, hP, ⟨hK, hN⟩, hD0⟩ := hv
  have hx := B.exec
  have hb := B.bytes
  have hr := B.returns
  have hts := atoms_spec (ws := wsX12_middleOf) B.pre
  have hown : s.vm.findClass RX12 = some m.cls := findClass_of_methodNamed B.named
  have hlocks := B.notSynchronized
  have i_X12 : ∀ w ∈ u_ws RX12 TX12 15, w ∈ wsX12_middleOf := by decide +kernel
  subst hsz
  have hD := hD0.self (sz := s.heap.size)
  generalize hAe : va_A [kX12 h q1 q4 q5 q6 q7 q9 q10 q11 x, aI y r 154 f, aI y q11 20 o] s.heap.size = A at hD ⊢
  have hA : ∀ q : Nat, s.heap.size ≤ q → A q := fun q h => by rw [← hAe]; exact Or.inr h
  have hS : va_S A s.heap s.heap [] := va_S.rf
  have hP : va_P G vwCl [kX12 h q1 q4 q5 q6 q7 q9 q10 q11 x, aI y r 154 f, aI y q11 20 o] s.heap := hP
  obtain ⟨hn1, hn2⟩ := in_tn h16 (by decide)
  have hn1 : f 16 = nI (nP f) := hn1
  have hn2 : nP f < 21 := hn2
  have hl := lv_entry ([.ref h, .ref r, .int a1]) (n := 7) (Nat.le_of_ble_eq_true rfl)
  rw [lg_entry_eq]
  generalize (lg_sl ([.ref h, .ref r, .int a1]) ++ List.replicate (7 - (lg_sl ([.ref h, .ref r, .int a1])).length) Slot.unset).toArray = ls at hl ⊢
  have hl : lv_has ls 7 [(0, .ref h), (1, .ref r), (2, .int a1)] := hl
  obtain ⟨QQ, hQQ⟩ : ∃ zq9, zq9 = MQ below (QHi G (midP f a1) (fun u : (Nat → Int32) => [kX12 h q1 q4 q5 q6 q7 q9 q10 q11 x, aI y r 154 f, aI y q11 20 u]) A) ([.ref h, .ref r, .int a1] : List Value).toArray s 0 0 A := ⟨_, rfl⟩
  rw [← hQQ]
  refine lv_aload_n hx hb dX12_middleOf_0 rfl (lv_at hl 1 rfl) ?_
  refine lv_bipush (v := 16) hx hb dX12_middleOf_1 (by decide) ?_
  refine al_i (D := G) (n := 154) (f := f) hx hb hK hP 1 0 rfl rfl 16 rfl (by decide) (by first | decide | omega) dX12_middleOf_3 ?_
  refine lv_iconst (v := 1) hx hb dX12_middleOf_4 (by decide) ?_
  refine lv_isub hx hb dX12_middleOf_5 ?_
  refine lv_istore_n (lv' := [(3, .int ((f 16) - 1)), (0, .ref h), (1, .ref r), (2, .int a1)]) hx hb dX12_middleOf_6 rfl hl (by decide) rfl (fun ls hl => ?_)
  refine lv_iconst (v := 1) hx hb dX12_middleOf_7 (by decide) ?_
  refine lv_istore (lv' := [(4, .int 1), (3, .int ((f 16) - 1)), (0, .ref h), (1, .ref r), (2, .int a1)]) hx hb dX12_middleOf_8 hl (by decide) rfl (fun ls hl => ?_)
  have LOOP10_1 : ∀ (n_2 : Nat) (k0 : Nat) (x4 : Int32) (w : Nat → Int32) (hx4 : x4 = nI (k0 + 1)) (hk : k0 + 1 ≤ nP f ∨ k0 = 0) (hw : w = midS (vP a1 f) k0 o) (hn_4 : 21 - k0 < n_2) (H : Heap) (locs : List Loc) (hP : va_P G vwCl [kX12 h q1 q4 q5 q6 q7 q9 q10 q11 x, aI y r 154 f, aI y q11 20 w] H) (hD : va_D A [kX12 h q1 q4 q5 q6 q7 q9 q10 q11 x, aI y r 154 f, aI y q11 20 w]) (hS : va_S A s.heap H locs) (ls : Array Slot) (hl : lv_has ls 7 [(4, .int x4), (3, .int ((f 16) - 1)), (0, .ref h), (1, .ref r), (2, .int a1)]), W p l e (headSpec wsX12_middleOf rmX12_middleOf).room s m ([.ref h, .ref r, .int a1] : List Value).toArray below meth c H locs 0 0 QQ (F0 m 10 ls []) := by
    intro n_2
    induction n_2 with
    | zero => intro k0 x4 w hx4 hk hw hn_4 H locs hP hD hS ls hl; exact absurd hn_4 (Nat.not_lt_zero _)
    | succ n_2 ih_3 =>
      intro k0 x4 w hx4 hk hw hn_4 H locs hP hD hS ls hl
      refine lv_iload hx hb dX12_middleOf_10 (lv_at hl 0 rfl) ?_
      refine lv_aload_n hx hb dX12_middleOf_12 rfl (lv_at hl 3 rfl) ?_
      refine lv_bipush (v := 16) hx hb dX12_middleOf_13 (by decide) ?_
      refine al_i (D := G) (n := 154) (f := f) hx hb hK hP 1 0 rfl rfl 16 rfl (by decide) (by first | decide | omega) dX12_middleOf_15 ?_
      refine lv_icmp_ge (tgt := 105) hx hb dX12_middleOf_16 (by decide) (fun c_5 => ?_) (fun c_5 => ?_)
      · have hk9 : nP f ≤ k0 + 1 := kge hx4 hn1 (by omega) (by omega) c_5
        obtain ⟨o9, ho9⟩ : ∃ z, z = w := ⟨_, rfl⟩
        rw [← ho9] at hP hD
        have hw9 : ∀ h2 : ¬ nP f < 2, o9 ((nP f - 2) / 2) = midP f a1 := fun h2 => by rw [ho9, hw, show k0 = nP f - 1 by omega]; exact midG_of h2 o
        refine lv_iload_n hx hb dX12_middleOf_105 rfl (lv_at hl 1 rfl) ?_
        refine lv_iconst (v := 1) hx hb dX12_middleOf_106 (by decide) ?_
        have J125_8 : ∀ (v_7 : Int32) (e_v_7 : v_7 = (if 1 ≤ ((f 16) - 1) then (o9 ((nP f - 2) / 2)) else (-99999))) (ls : Array Slot) (hl : lv_has ls 7 []), W p l e (headSpec wsX12_middleOf rmX12_middleOf).room s m ([.ref h, .ref r, .int a1] : List Value).toArray below meth c H locs 0 0 QQ (F0 m 125 ls [.int v_7]) := by
          intro v_7 e_v_7 ls hl
          rw [hQQ]
          exact W.iret hx hb hr (end_Hi o9 hP hD hS (mid_end hn1 hn2 e_v_7 hw9) rfl) hS.2.2 dX12_middleOf_125
        refine lv_icmp_ge (tgt := 115) hx hb dX12_middleOf_107 (by decide) (fun c_6 => ?_) (fun c_6 => ?_)
        · refine lv_aload_n hx hb dX12_middleOf_115 rfl (lv_at hl 2 rfl) ?_
          refine va_get (D := G) (ci := 10) (v := .ref q11) (C := RX12) (T := TX12) (N := 15) hx hb hts i_X12 hown hK hP 0 rfl rfl 11 (by decide) (hts (.fieldLink RX12 32 "RelayTunerModel" "sorted" "[I") (by decide +kernel)) (fun _ h9 => h9) rfl dX12_middleOf_116 ?_
          refine lv_iload_n hx hb dX12_middleOf_119 rfl (lv_at hl 1 rfl) ?_
          refine lv_iconst (v := 1) hx hb dX12_middleOf_120 (by decide) ?_
          refine lv_isub hx hb dX12_middleOf_121 ?_
          refine lv_iconst (v := 2) hx hb dX12_middleOf_122 (by decide) ?_
          refine lv_idiv hx hb dX12_middleOf_123 (by decide) ?_
          refine al_i (D := G) (n := 20) (f := o9) hx hb hK hP 2 0 rfl rfl ((nP f - 2) / 2) (mid_ix hn1 hn2 c_6) (by omega) (by first | decide | omega) dX12_middleOf_124 ?_
          exact J125_8 _ (if_pos c_6).symm ls (lv_sub hl [] rfl)
        · refine lv_ldc (v := (-99999)) hx hb hown (hts (.constant RX12 74 (-99999)) (by decide +kernel)) dX12_middleOf_110 ?_
          refine lv_goto (tgt := 125) hx hb dX12_middleOf_112 (by decide) ?_
          exact J125_8 _ (if_neg c_6).symm ls (lv_sub hl [] rfl)
      · have hk9 : k0 + 1 < nP f := klt hx4 hn1 (by omega) (by omega) c_5
        refine lv_iload_n hx hb dX12_middleOf_19 rfl (lv_at hl 4 rfl) ?_
        have J41_11 : ∀ (v_10 : Int32) (e_v_10 : v_10 = (if a1 = 0 then (f (42 + 4 * (k0 + 1))) else (s_X12_spanOf_r x4 f))) (ls : Array Slot) (hl : lv_has ls 7 [(4, .int x4), (3, .int ((f 16) - 1)), (0, .ref h), (1, .ref r), (2, .int a1)]), W p l e (headSpec wsX12_middleOf rmX12_middleOf).room s m ([.ref h, .ref r, .int a1] : List Value).toArray below meth c H locs 0 0 QQ (F0 m 41 ls [.int v_10]) := by
          intro v_10 e_v_10 ls hl
          have hval : v_10 = vP a1 f (k0 + 1) := mid_val hx4 (by omega) e_v_10
          refine lv_istore (lv' := [(5, .int v_10), (4, .int x4), (3, .int ((f 16) - 1)), (0, .ref h), (1, .ref r), (2, .int a1)]) hx hb dX12_middleOf_41 hl (by decide) rfl (fun ls hl => ?_)
          refine lv_iload hx hb dX12_middleOf_43 (lv_at hl 1 rfl) ?_
          refine lv_iconst (v := 1) hx hb dX12_middleOf_45 (by decide) ?_
          refine lv_isub hx hb dX12_middleOf_46 ?_
          refine lv_istore (lv' := [(6, .int (x4 - 1)), (5, .int v_10), (4, .int x4), (3, .int ((f 16) - 1)), (0, .ref h), (1, .ref r), (2, .int a1)]) hx hb dX12_middleOf_47 hl (by decide) rfl (fun ls hl => ?_)
          have LOOP49_12 : ∀ (n_13 : Nat) (t0 : Nat) (x6 : Int32) (w2 : Nat → Int32) (hx6 : x6 = nI t0) (ht : t0 ≤ k0) (hw2 : insF w2 v_10 t0 = insF w v_10 k0) (hn_15 : t0 < n_13) (H : Heap) (locs : List Loc) (hP : va_P G vwCl [kX12 h q1 q4 q5 q6 q7 q9 q10 q11 x, aI y r 154 f, aI y q11 20 w2] H) (hD : va_D A [kX12 h q1 q4 q5 q6 q7 q9 q10 q11 x, aI y r 154 f, aI y q11 20 w2]) (hS : va_S A s.heap H locs) (ls : Array Slot) (hl : lv_has ls 7 [(6, .int x6), (5, .int v_10), (4, .int x4), (3, .int ((f 16) - 1)), (0, .ref h), (1, .ref r), (2, .int a1)]), W p l e (headSpec wsX12_middleOf rmX12_middleOf).room s m ([.ref h, .ref r, .int a1] : List Value).toArray below meth c H locs 0 0 QQ (F0 m 49 ls []) := by
            intro n_13
            induction n_13 with
            | zero => intro t0 x6 w2 hx6 ht hw2 hn_15 H locs hP hD hS ls hl; exact absurd hn_15 (Nat.not_lt_zero _)
            | succ n_13 ih_14 =>
              intro t0 x6 w2 hx6 ht hw2 hn_15 H locs hP hD hS ls hl
              refine lv_iload hx hb dX12_middleOf_49 (lv_at hl 0 rfl) ?_
              refine lv_if_le (tgt := 90) hx hb dX12_middleOf_51 (by decide) (fun c_16 => ?_) (fun c_16 => ?_)
              · have hfin9 := (ins_end0 (w := w2) (v := v_10) (zero_of_le0 hx6 (by omega) c_16)).trans hw2
                refine lv_aload_n hx hb dX12_middleOf_90 rfl (lv_at hl 4 rfl) ?_
                refine va_get (D := G) (ci := 10) (v := .ref q11) (C := RX12) (T := TX12) (N := 15) hx hb hts i_X12 hown hK hP 0 rfl rfl 11 (by decide) (hts (.fieldLink RX12 32 "RelayTunerModel" "sorted" "[I") (by decide +kernel)) (fun _ h9 => h9) rfl dX12_middleOf_91 ?_
                refine lv_iload hx hb dX12_middleOf_94 (lv_at hl 0 rfl) ?_
                refine lv_iload hx hb dX12_middleOf_96 (lv_at hl 1 rfl) ?_
                refine as_i (D := G) (n := 20) (f := w2) hx hb hK hP hD hS 2 0 rfl rfl t0 hx6 (by omega) (by first | decide | omega) dX12_middleOf_98 (fun H locs hP hD hS => ?_)
                have hP : va_P G vwCl [kX12 h q1 q4 q5 q6 q7 q9 q10 q11 x, aI y r 154 f, aI y q11 20 (upd w2 t0 v_10)] H := hP
                have hD : va_D A [kX12 h q1 q4 q5 q6 q7 q9 q10 q11 x, aI y r 154 f, aI y q11 20 (upd w2 t0 v_10)] := hD
                have hfin : (upd w2 t0 v_10) = insF w v_10 k0 := hfin9
                refine lv_iinc (v := (x4 + 1)) (lv' := [(4, .int (x4 + 1)), (6, .int x6), (5, .int v_10), (3, .int ((f 16) - 1)), (0, .ref h), (1, .ref r), (2, .int a1)]) hx hb dX12_middleOf_99 hl (k := 2) rfl (by first | rfl | decide) (by decide) rfl (fun ls hl => ?_)
                refine lv_goto (tgt := 10) hx hb dX12_middleOf_102 (by decide) ?_
                exact ih_3 (k0 + 1) (x4 + 1) (upd w2 t0 v_10) (by rw [hx4]; exact nI_1 (k0 + 1)) (Or.inl (by omega)) (by rw [hfin, hval, hw]; rfl) (by omega) H locs hP hD hS ls (lv_sub hl [0, 3, 4, 5, 6] rfl)
              · have hk6 : 0 < t0 := pos_of_nle0 hx6 c_16
                refine lv_aload_n hx hb dX12_middleOf_54 rfl (lv_at hl 4 rfl) ?_
                refine va_get (D := G) (ci := 10) (v := .ref q11) (C := RX12) (T := TX12) (N := 15) hx hb hts i_X12 hown hK hP 0 rfl rfl 11 (by decide) (hts (.fieldLink RX12 32 "RelayTunerModel" "sorted" "[I") (by decide +kernel)) (fun _ h9 => h9) rfl dX12_middleOf_55 ?_
                refine lv_iload hx hb dX12_middleOf_58 (lv_at hl 0 rfl) ?_
                refine lv_iconst (v := 1) hx hb dX12_middleOf_60 (by decide) ?_
                refine lv_isub hx hb dX12_middleOf_61 ?_
                refine al_i (D := G) (n := 20) (f := w2) hx hb hK hP 2 0 rfl rfl (t0 - 1) (sub1_ix hx6 hk6) (by omega) (by first | decide | omega) dX12_middleOf_62 ?_
                refine lv_iload hx hb dX12_middleOf_63 (lv_at hl 1 rfl) ?_
                refine lv_icmp_le (tgt := 90) hx hb dX12_middleOf_65 (by decide) (fun c_17 => ?_) (fun c_17 => ?_)
                · have hfin9 := (ins_end1 (w := w2) (v := v_10) hk6 c_17).trans hw2
                  refine lv_aload_n hx hb dX12_middleOf_90 rfl (lv_at hl 4 rfl) ?_
                  refine va_get (D := G) (ci := 10) (v := .ref q11) (C := RX12) (T := TX12) (N := 15) hx hb hts i_X12 hown hK hP 0 rfl rfl 11 (by decide) (hts (.fieldLink RX12 32 "RelayTunerModel" "sorted" "[I") (by decide +kernel)) (fun _ h9 => h9) rfl dX12_middleOf_91 ?_
                  refine lv_iload hx hb dX12_middleOf_94 (lv_at hl 0 rfl) ?_
                  refine lv_iload hx hb dX12_middleOf_96 (lv_at hl 1 rfl) ?_
                  refine as_i (D := G) (n := 20) (f := w2) hx hb hK hP hD hS 2 0 rfl rfl t0 hx6 (by omega) (by first | decide | omega) dX12_middleOf_98 (fun H locs hP hD hS => ?_)
                  have hP : va_P G vwCl [kX12 h q1 q4 q5 q6 q7 q9 q10 q11 x, aI y r 154 f, aI y q11 20 (upd w2 t0 v_10)] H := hP
                  have hD : va_D A [kX12 h q1 q4 q5 q6 q7 q9 q10 q11 x, aI y r 154 f, aI y q11 20 (upd w2 t0 v_10)] := hD
                  have hfin : (upd w2 t0 v_10) = insF w v_10 k0 := hfin9
                  refine lv_iinc (v := (x4 + 1)) (lv' := [(4, .int (x4 + 1)), (6, .int x6), (5, .int v_10), (3, .int ((f 16) - 1)), (0, .ref h), (1, .ref r), (2, .int a1)]) hx hb dX12_middleOf_99 hl (k := 2) rfl (by first | rfl | decide) (by decide) rfl (fun ls hl => ?_)
                  refine lv_goto (tgt := 10) hx hb dX12_middleOf_102 (by decide) ?_
                  exact ih_3 (k0 + 1) (x4 + 1) (upd w2 t0 v_10) (by rw [hx4]; exact nI_1 (k0 + 1)) (Or.inl (by omega)) (by rw [hfin, hval, hw]; rfl) (by omega) H locs hP hD hS ls (lv_sub hl [0, 3, 4, 5, 6] rfl)
                · refine lv_aload_n hx hb dX12_middleOf_68 rfl (lv_at hl 4 rfl) ?_
                  refine va_get (D := G) (ci := 10) (v := .ref q11) (C := RX12) (T := TX12) (N := 15) hx hb hts i_X12 hown hK hP 0 rfl rfl 11 (by decide) (hts (.fieldLink RX12 32 "RelayTunerModel" "sorted" "[I") (by decide +kernel)) (fun _ h9 => h9) rfl dX12_middleOf_69 ?_
                  refine lv_iload hx hb dX12_middleOf_72 (lv_at hl 0 rfl) ?_
                  refine lv_aload_n hx hb dX12_middleOf_74 rfl (lv_at hl 4 rfl) ?_
                  refine va_get (D := G) (ci := 10) (v := .ref q11) (C := RX12) (T := TX12) (N := 15) hx hb hts i_X12 hown hK hP 0 rfl rfl 11 (by decide) (hts (.fieldLink RX12 32 "RelayTunerModel" "sorted" "[I") (by decide +kernel)) (fun _ h9 => h9) rfl dX12_middleOf_75 ?_
                  refine lv_iload hx hb dX12_middleOf_78 (lv_at hl 0 rfl) ?_
                  refine lv_iconst (v := 1) hx hb dX12_middleOf_80 (by decide) ?_
                  refine lv_isub hx hb dX12_middleOf_81 ?_
                  refine al_i (D := G) (n := 20) (f := w2) hx hb hK hP 2 0 rfl rfl (t0 - 1) (sub1_ix hx6 hk6) (by omega) (by first | decide | omega) dX12_middleOf_82 ?_
                  refine as_i (D := G) (n := 20) (f := w2) hx hb hK hP hD hS 2 0 rfl rfl t0 hx6 (by omega) (by first | decide | omega) dX12_middleOf_83 (fun H locs hP hD hS => ?_)
                  have hP : va_P G vwCl [kX12 h q1 q4 q5 q6 q7 q9 q10 q11 x, aI y r 154 f, aI y q11 20 (upd w2 t0 (w2 (t0 - 1)))] H := hP
                  have hD : va_D A [kX12 h q1 q4 q5 q6 q7 q9 q10 q11 x, aI y r 154 f, aI y q11 20 (upd w2 t0 (w2 (t0 - 1)))] := hD
                  refine lv_iinc (v := (x6 + (-1))) (lv' := [(6, .int (x6 + (-1))), (5, .int v_10), (4, .int x4), (3, .int ((f 16) - 1)), (0, .ref h), (1, .ref r), (2, .int a1)]) hx hb dX12_middleOf_84 hl (k := 0) rfl (by first | rfl | decide) (by decide) rfl (fun ls hl => ?_)
                  refine lv_goto (tgt := 49) hx hb dX12_middleOf_87 (by decide) ?_
                  exact ih_14 (t0 - 1) (x6 + (-1)) (upd w2 t0 (w2 (t0 - 1))) (dec_ix hx6 hk6) (by omega) ((ins_step hk6 c_17).trans hw2) (by omega) H locs hP hD hS ls (lv_sub hl [0, 1, 2, 3, 4, 5, 6] rfl)
          exact LOOP49_12 (k0 + 1) k0 (x4 - 1) w (by rw [hx4]; show nI (k0 + 1) - nI 1 = nI k0; exact pk_sub (by omega)) (by omega) rfl (Nat.lt_succ_self _) H locs hP hD hS ls (lv_sub hl [0, 1, 2, 3, 4, 5, 6] rfl)
        refine lv_if_eq (tgt := 32) hx hb dX12_middleOf_20 (by decide) (fun c_9 => ?_) (fun c_9 => ?_)
        · refine lv_aload_n hx hb dX12_middleOf_32 rfl (lv_at hl 3 rfl) ?_
          refine lv_bipush (v := 42) hx hb dX12_middleOf_33 (by decide) ?_
          refine lv_iconst (v := 4) hx hb dX12_middleOf_35 (by decide) ?_
          refine lv_iload hx hb dX12_middleOf_36 (lv_at hl 0 rfl) ?_
          refine lv_imul hx hb dX12_middleOf_38 ?_
          refine lv_iadd hx hb dX12_middleOf_39 ?_
          refine al_i (D := G) (n := 154) (f := f) hx hb hK hP 1 0 rfl rfl (42 + 4 * (k0 + 1)) (ix40 (k0 + 1) hx4) (by omega) (by first | decide | omega) dX12_middleOf_40 ?_
          exact J41_11 _ (if_pos c_9).symm ls (lv_sub hl [0, 1, 2, 3, 4] rfl)
        · refine lv_aload_n hx hb dX12_middleOf_23 rfl (lv_at hl 3 rfl) ?_
          refine lv_iload hx hb dX12_middleOf_24 (lv_at hl 0 rfl) ?_
          refine cl_Ri (va_runS (As := [.ref r, .int x4]) (rest := []) ⟨hx, hb, hml, hown, hts⟩ (c_X12_spanOf l G y r x4 f (by rw [hx4]; exact vp_in_nI (by omega) (by decide))) (va_cwS 2 hts gX12_middleOf_X12_spanOf rfl rfl rfl (by decide +kernel) ⟨Nat.le_of_ble_eq_true rfl, Nat.le_of_ble_eq_true rfl⟩) (PR_S (hP.sub (ws' := [aI y r 154 f]) [1] rfl) hK hN) rfl rfl hl.1 rfl (lv_room (Nat.le_of_ble_eq_true rfl)) dX12_middleOf_26 ⟨Nat.le_of_ble_eq_true rfl, Nat.le_of_ble_eq_true rfl⟩) ?_
          refine lv_goto (tgt := 41) hx hb dX12_middleOf_29 (by decide) ?_
          exact J41_11 _ (if_neg c_9).symm ls (lv_sub hl [0, 1, 2, 3, 4] rfl)
  exact LOOP10_1 (21 - 0 + 1) 0 1 o rfl (Or.inr rfl) rfl (Nat.lt_succ_self _) s.heap [] hP hD hS ls (lv_sub hl [0, 1, 2, 3, 4] rfl)

def s_X12_oddOf_r (a1 : Int32) (f : Nat → Int32) : Int32 := (if a1 = 0 then 1 else (if (s_X12_isFar_r (f (42 + 4 * tn a1)) (midP f 0) (f 7)) = 0 then (let v_6 : Int32 := (if (s_X12_isFar_r (s_X12_spanOf_r a1 f) (midP f 1) (f 7)) = 0 then 0 else 3); v_6) else 2))
abbrev rmX12_oddOf : Room := ({ frames := 2, cells := 0, slots := 0, locals := 47 } : Room)
set_option maxHeartbeats 4000000 in
set_option maxRecDepth 100000 in
theorem c_X12_oddOf (l : Launch) (G : va_G) (y : Nat → ClassId) (h : Nat) (r : Nat) (a1 : Int32) (q1 : Nat) (q4 : Nat) (q5 : Nat) (q6 : Nat) (q7 : Nat) (q9 : Nat) (q10 : Nat) (q11 : Nat) (x : Nat → Int32) (f : Nat → Int32) (o : Nat → Int32) (sz : Nat) (h1 : vp_in a1 20) (h16 : vp_in (f 16) 21) : Met l yX12_oddOf wsX12_oddOf rmX12_oddOf (PH G y [.ref h, .ref r, .int a1] [kX12 h q1 q4 q5 q6 q7 q9 q10 q11 x, aI y r 154 f, aI y q11 20 o] sz) (QHi G (s_X12_oddOf_r a1 f) (fun u : (Nat → Int32) => [kX12 h q1 q4 q5 q6 q7 q9 q10 q11 x, aI y r 154 f, aI y q11 20 u]) (va_A [kX12 h q1 q4 q5 q6 q7 q9 q10 q11 x, aI y r 154 f, aI y q11 20 o] sz)) 0 0 (va_A [kX12 h q1 q4 q5 q6 q7 q9 q10 q11 x, aI y r 154 f, aI y q11 20 o] sz) := by
  refine Met.ofW (cc := cX12_oddOf) (maxL := 4) (ret := (some .int)) (by decide) rfl ?_
  intro p e s m args below meth c s₁ B hml hv
  obtain ⟨rfl, hsz, hP, ⟨hK, hN⟩, hD0⟩ := hv
  have hx := B.exec
  have hb := B.bytes
  have hr := B.returns
  have hts := atoms_spec (ws := wsX12_oddOf) B.pre
  have hown : s.vm.findClass RX12 = some m.cls := findClass_of_methodNamed B.named
  have hlocks := B.notSynchronized
  subst hsz
  have hD := hD0.self (sz := s.heap.size)
  generalize hAe : va_A [kX12 h q1 q4 q5 q6 q7 q9 q10 q11 x, aI y r 154 f, aI y q11 20 o] s.heap.size = A at hD ⊢
  have hA : ∀ q : Nat, s.heap.size ≤ q → A q := fun q h => by rw [← hAe]; exact Or.inr h
  have hS : va_S A s.heap s.heap [] := va_S.rf
  have hP : va_P G vwCl [kX12 h q1 q4 q5 q6 q7 q9 q10 q11 x, aI y r 154 f, aI y q11 20 o] s.heap := hP
  obtain ⟨ha1, hb1⟩ := in_tn h1 (by decide)
  have hl := lv_entry ([.ref h, .ref r, .int a1]) (n := 4) (Nat.le_of_ble_eq_true rfl)
  rw [lg_entry_eq]
  generalize (lg_sl ([.ref h, .ref r, .int a1]) ++ List.replicate (4 - (lg_sl ([.ref h, .ref r, .int a1])).length) Slot.unset).toArray = ls at hl ⊢
  have hl : lv_has ls 4 [(0, .ref h), (1, .ref r), (2, .int a1)] := hl
  obtain ⟨QQ, hQQ⟩ : ∃ zq9, zq9 = MQ below (QHi G (s_X12_oddOf_r a1 f) (fun u : (Nat → Int32) => [kX12 h q1 q4 q5 q6 q7 q9 q10 q11 x, aI y r 154 f, aI y q11 20 u]) A) ([.ref h, .ref r, .int a1] : List Value).toArray s 0 0 A := ⟨_, rfl⟩
  rw [← hQQ]
  refine lv_iload_n hx hb dX12_oddOf_0 rfl (lv_at hl 2 rfl) ?_
  refine lv_if_ne (tgt := 6) hx hb dX12_oddOf_1 (by decide) (fun c_1 => ?_) (fun c_1 => ?_)
  · refine lv_aload_n hx hb dX12_oddOf_6 rfl (lv_at hl 1 rfl) ?_
    refine lv_bipush (v := 7) hx hb dX12_oddOf_7 (by decide) ?_
    refine al_i (D := G) (n := 154) (f := f) hx hb hK hP 1 0 rfl rfl 7 rfl (by decide) (by first | decide | omega) dX12_oddOf_9 ?_
    refine lv_istore_n (lv' := [(3, .int (f 7)), (0, .ref h), (1, .ref r), (2, .int a1)]) hx hb dX12_oddOf_10 rfl hl (by decide) rfl (fun ls hl => ?_)
    refine lv_aload_n hx hb dX12_oddOf_11 rfl (lv_at hl 2 rfl) ?_
    refine lv_bipush (v := 42) hx hb dX12_oddOf_12 (by decide) ?_
    refine lv_iconst (v := 4) hx hb dX12_oddOf_14 (by decide) ?_
    refine lv_iload_n hx hb dX12_oddOf_15 rfl (lv_at hl 3 rfl) ?_
    refine lv_imul hx hb dX12_oddOf_16 ?_
    refine lv_iadd hx hb dX12_oddOf_17 ?_
    refine al_i (D := G) (n := 154) (f := f) hx hb hK hP 1 0 rfl rfl (42 + 4 * tn a1) (ix40 _ ha1) (by omega) (by first | decide | omega) dX12_oddOf_18 ?_
    refine lv_aload_n hx hb dX12_oddOf_19 rfl (lv_at hl 1 rfl) ?_
    refine lv_aload_n hx hb dX12_oddOf_20 rfl (lv_at hl 2 rfl) ?_
    refine lv_iconst (v := 0) hx hb dX12_oddOf_21 (by decide) ?_
    refine cl_Hi (wr := []) (fun u : (Nat → Int32) => [kX12 h q1 q4 q5 q6 q7 q9 q10 q11 x, aI y r 154 f, aI y q11 20 u]) [0, 1, 2] [] [0, 1, 2] (va_runV (As := [.ref r, .int 0]) (rest := [.int (f (42 + 4 * tn a1))]) ⟨hx, hb, hml, hown, hts⟩ (c_X12_middleOf l G y h r 0 q1 q4 q5 q6 q7 q9 q10 q11 x f o s.heap.size h16) (cwV 2 hts gX12_oddOf_X12_middleOf rfl rfl rfl (by decide +kernel) ⟨Nat.le_of_ble_eq_true rfl, Nat.le_of_ble_eq_true rfl⟩) (PH_V (hP.sub (ws' := [kX12 h q1 q4 q5 q6 q7 q9 q10 q11 x, aI y r 154 f, aI y q11 20 o]) [0, 1, 2] rfl) hK hN (hD.sub (ws' := [kX12 h q1 q4 q5 q6 q7 q9 q10 q11 x, aI y r 154 f, aI y q11 20 o]) [0, 1, 2] (by decide) rfl) (ci := 10) (q0 := 0) rfl rfl) rfl rfl hl.1 rfl (lv_room (Nat.le_of_ble_eq_true rfl)) dX12_oddOf_22 ⟨Nat.le_of_ble_eq_true rfl, Nat.le_of_ble_eq_true rfl⟩) hP hD hS hA rfl rfl rfl (by decide) rfl (fun _ => rfl) (fun u H locs hP hD hS => ?_)
    obtain ⟨o_2, rfl⟩ : ∃ zq9, zq9 = u := ⟨_, rfl⟩
    have hP : va_P G vwCl [kX12 h q1 q4 q5 q6 q7 q9 q10 q11 x, aI y r 154 f, aI y q11 20 o_2] H := hP
    have hD : va_D A [kX12 h q1 q4 q5 q6 q7 q9 q10 q11 x, aI y r 154 f, aI y q11 20 o_2] := hD
    refine lv_iload_n hx hb dX12_oddOf_25 rfl (lv_at hl 0 rfl) ?_
    refine cl_Ri (va_runS (As := [.int (f (42 + 4 * tn a1)), .int (midP f 0), .int (f 7)]) (rest := []) ⟨hx, hb, hml, hown, hts⟩ (c_X12_isFar l G y (f (42 + 4 * tn a1)) (midP f 0) (f 7)) (va_cwS 3 hts gX12_oddOf_X12_isFar rfl rfl rfl (by decide +kernel) ⟨Nat.le_of_ble_eq_true rfl, Nat.le_of_ble_eq_true rfl⟩) (PR_S pnil hK hN) rfl rfl hl.1 rfl (lv_room (Nat.le_of_ble_eq_true rfl)) dX12_oddOf_26 ⟨Nat.le_of_ble_eq_true rfl, Nat.le_of_ble_eq_true rfl⟩) ?_
    refine lv_if_eq (tgt := 34) hx hb dX12_oddOf_29 (by decide) (fun c_3 => ?_) (fun c_3 => ?_)
    · refine lv_aload_n hx hb dX12_oddOf_34 rfl (lv_at hl 2 rfl) ?_
      refine lv_iload_n hx hb dX12_oddOf_35 rfl (lv_at hl 3 rfl) ?_
      refine cl_Ri (va_runS (As := [.ref r, .int a1]) (rest := []) ⟨hx, hb, hml, hown, hts⟩ (c_X12_spanOf l G y r a1 f h1) (va_cwS 2 hts gX12_oddOf_X12_spanOf rfl rfl rfl (by decide +kernel) ⟨Nat.le_of_ble_eq_true rfl, Nat.le_of_ble_eq_true rfl⟩) (PR_S (hP.sub (ws' := [aI y r 154 f]) [1] rfl) hK hN) rfl rfl hl.1 rfl (lv_room (Nat.le_of_ble_eq_true rfl)) dX12_oddOf_36 ⟨Nat.le_of_ble_eq_true rfl, Nat.le_of_ble_eq_true rfl⟩) ?_
      refine lv_aload_n hx hb dX12_oddOf_39 rfl (lv_at hl 1 rfl) ?_
      refine lv_aload_n hx hb dX12_oddOf_40 rfl (lv_at hl 2 rfl) ?_
      refine lv_iconst (v := 1) hx hb dX12_oddOf_41 (by decide) ?_
      refine cl_Hi (wr := []) (fun u : (Nat → Int32) => [kX12 h q1 q4 q5 q6 q7 q9 q10 q11 x, aI y r 154 f, aI y q11 20 u]) [0, 1, 2] [] [0, 1, 2] (va_runV (As := [.ref r, .int 1]) (rest := [.int (s_X12_spanOf_r a1 f)]) ⟨hx, hb, hml, hown, hts⟩ (c_X12_middleOf l G y h r 1 q1 q4 q5 q6 q7 q9 q10 q11 x f o_2 H.size h16) (cwV 2 hts gX12_oddOf_X12_middleOf rfl rfl rfl (by decide +kernel) ⟨Nat.le_of_ble_eq_true rfl, Nat.le_of_ble_eq_true rfl⟩) (PH_V (hP.sub (ws' := [kX12 h q1 q4 q5 q6 q7 q9 q10 q11 x, aI y r 154 f, aI y q11 20 o_2]) [0, 1, 2] rfl) hK hN (hD.sub (ws' := [kX12 h q1 q4 q5 q6 q7 q9 q10 q11 x, aI y r 154 f, aI y q11 20 o_2]) [0, 1, 2] (by decide) rfl) (ci := 10) (q0 := 0) rfl rfl) rfl rfl hl.1 rfl (lv_room (Nat.le_of_ble_eq_true rfl)) dX12_oddOf_42 ⟨Nat.le_of_ble_eq_true rfl, Nat.le_of_ble_eq_true rfl⟩) hP hD hS hA rfl rfl rfl (by decide) rfl (fun _ => rfl) (fun u H locs hP hD hS => ?_)
      obtain ⟨o_4, rfl⟩ : ∃ zq9, zq9 = u := ⟨_, rfl⟩
      have hP : va_P G vwCl [kX12 h q1 q4 q5 q6 q7 q9 q10 q11 x, aI y r 154 f, aI y q11 20 o_4] H := hP
      have hD : va_D A [kX12 h q1 q4 q5 q6 q7 q9 q10 q11 x, aI y r 154 f, aI y q11 20 o_4] := hD
      refine lv_iload_n hx hb dX12_oddOf_45 rfl (lv_at hl 0 rfl) ?_
      refine cl_Ri (va_runS (As := [.int (s_X12_spanOf_r a1 f), .int (midP f 1), .int (f 7)]) (rest := []) ⟨hx, hb, hml, hown, hts⟩ (c_X12_isFar l G y (s_X12_spanOf_r a1 f) (midP f 1) (f 7)) (va_cwS 3 hts gX12_oddOf_X12_isFar rfl rfl rfl (by decide +kernel) ⟨Nat.le_of_ble_eq_true rfl, Nat.le_of_ble_eq_true rfl⟩) (PR_S pnil hK hN) rfl rfl hl.1 rfl (lv_room (Nat.le_of_ble_eq_true rfl)) dX12_oddOf_46 ⟨Nat.le_of_ble_eq_true rfl, Nat.le_of_ble_eq_true rfl⟩) ?_
      have J57_7 : ∀ (v_6 : Int32) (e_v_6 : v_6 = (if (s_X12_isFar_r (s_X12_spanOf_r a1 f) (midP f 1) (f 7)) = 0 then 0 else 3)) (ls : Array Slot) (hl : lv_has ls 4 []), W p l e (headSpec wsX12_oddOf rmX12_oddOf).room s m ([.ref h, .ref r, .int a1] : List Value).toArray below meth c H locs 0 0 QQ (F0 m 57 ls [.int v_6]) := by
        intro v_6 e_v_6 ls hl
        rw [hQQ]
        exact W.iret hx hb hr (end_Hi o_4 hP hD hS (by subst e_v_6; unfold s_X12_oddOf_r; exact ((if_neg c_1).trans (if_pos c_3)).symm) (by subst e_v_6; exact rfl)) hS.2.2 dX12_oddOf_57
      refine lv_if_eq (tgt := 56) hx hb dX12_oddOf_49 (by decide) (fun c_5 => ?_) (fun c_5 => ?_)
      · refine lv_iconst (v := 0) hx hb dX12_oddOf_56 (by decide) ?_
        exact J57_7 _ (if_pos c_5).symm ls (lv_sub hl [] rfl)
      · refine lv_iconst (v := 3) hx hb dX12_oddOf_52 (by decide) ?_
        refine lv_goto (tgt := 57) hx hb dX12_oddOf_53 (by decide) ?_
        exact J57_7 _ (if_neg c_5).symm ls (lv_sub hl [] rfl)
    · refine lv_iconst (v := 2) hx hb dX12_oddOf_32 (by decide) ?_
      rw [hQQ]
      exact W.iret hx hb hr (end_Hi o_2 hP hD hS (by unfold s_X12_oddOf_r; exact ((if_neg c_1).trans (if_neg c_3)).symm) rfl) hS.2.2 dX12_oddOf_33
  · refine lv_iconst (v := 1) hx hb dX12_oddOf_4 (by decide) ?_
    rw [hQQ]
    exact W.iret hx hb hr (end_Hi o hP hD hS (by unfold s_X12_oddOf_r; exact (if_pos c_1).symm) rfl) hS.2.2 dX12_oddOf_5

theorem size_eq (a : Int32) : s_X12_size_r a = sizeG a := by
  unfold s_X12_size_r sizeG
  try dsimp only
  rw [neg_sub0]
theorem far_eq (v m t : Int32) : s_X12_isFar_r v m t = if sizeG (v - m) * 100 ≤ t * m then 0 else 1 := by
  unfold s_X12_isFar_r
  try dsimp only
  rw [size_eq]
theorem far_eq2 {A : Type} (v m t : Int32) (a b : A) : (if s_X12_isFar_r v m t = 0 then a else b) = if sizeG (v - m) * 100 ≤ t * m then a else b := by
  rw [far_eq]
  by_cases h : sizeG (v - m) * 100 ≤ t * m
  · rw [if_pos h, if_pos h, if_pos rfl]
  · rw [if_neg h, if_neg h, if_neg (by decide)]
theorem odd_eq (a1 : Int32) (f : Nat → Int32) (h1 : vp_in a1 20) : s_X12_oddOf_r a1 f = oddP f (tn a1) := by
  obtain ⟨ha, hb⟩ := in_tn h1 (by decide)
  unfold s_X12_oddOf_r
  try dsimp only
  rw [far_eq2, far_eq2, span_sP ha (by omega)]
  have h0 : a1 = 0 ↔ tn a1 = 0 := by
    constructor
    · intro h; rw [h]; rfl
    · intro h; rw [ha, h]; rfl
  show _ = oddG (pP f) (sP f) (nP f) (f 7) (tn a1)
  unfold oddG
  by_cases h2 : a1 = 0
  · rw [if_pos h2, if_pos (h0.mp h2)]
  · rw [if_neg h2, if_neg (fun h => h2 (h0.mpr h))]
    rfl

theorem c_X12_oddOf' (l : Launch) (G : va_G) (y : Nat → ClassId) (h : Nat) (r : Nat) (a1 : Int32) (q1 : Nat) (q4 : Nat) (q5 : Nat) (q6 : Nat) (q7 : Nat) (q9 : Nat) (q10 : Nat) (q11 : Nat) (x : Nat → Int32) (f : Nat → Int32) (o : Nat → Int32) (sz : Nat) (h1 : vp_in a1 20) (h16 : vp_in (f 16) 21) : Met l yX12_oddOf wsX12_oddOf rmX12_oddOf (PH G y [.ref h, .ref r, .int a1] [kX12 h q1 q4 q5 q6 q7 q9 q10 q11 x, aI y r 154 f, aI y q11 20 o] sz) (QHi G (oddP f (tn a1)) (fun u : (Nat → Int32) => [kX12 h q1 q4 q5 q6 q7 q9 q10 q11 x, aI y r 154 f, aI y q11 20 u]) (va_A [kX12 h q1 q4 q5 q6 q7 q9 q10 q11 x, aI y r 154 f, aI y q11 20 o] sz)) 0 0 (va_A [kX12 h q1 q4 q5 q6 q7 q9 q10 q11 x, aI y r 154 f, aI y q11 20 o] sz) := by
  rw [← (odd_eq a1 f h1)]
  exact c_X12_oddOf l G y h r a1 q1 q4 q5 q6 q7 q9 q10 q11 x f o sz h1 h16

theorem good_step {p s : Nat → Int32} {n k : Nat} {tol g x3 v : Int32} (hg : g = nI (goodG p s n tol k)) (hx : x3 = nI k) (hk : k < 1000000) (e : v = (if (oddG p s n tol (tn x3)) = 0 then 1 else 0)) : g + v = nI (goodG p s n tol (k + 1)) := by
  have e2 : tn x3 = k := by rw [hx]; exact nI_clamp (by omega)
  rw [e2] at e
  rw [hg, e]
  simp only [goodG]
  split
  · exact nI_1 _
  · simp
theorem tn_of {x : Int32} {k : Nat} (hx : x = nI k) (hk : k < 1000000) : tn x = k := by rw [hx]; exact nI_clamp (by omega)

abbrev rmX12_goodOf : Room := ({ frames := 3, cells := 0, slots := 0, locals := 70 } : Room)
set_option maxHeartbeats 4000000 in
set_option maxRecDepth 100000 in
theorem c_X12_goodOf (l : Launch) (G : va_G) (y : Nat → ClassId) (h : Nat) (r : Nat) (q1 : Nat) (q4 : Nat) (q5 : Nat) (q6 : Nat) (q7 : Nat) (q9 : Nat) (q10 : Nat) (q11 : Nat) (x : Nat → Int32) (f : Nat → Int32) (o : Nat → Int32) (sz : Nat) (h16 : vp_in (f 16) 21) : Met l yX12_goodOf wsX12_goodOf rmX12_goodOf (PH G y [.ref h, .ref r] [kX12 h q1 q4 q5 q6 q7 q9 q10 q11 x, aI y r 154 f, aI y q11 20 o] sz) (QHi G (nI (goodP f)) (fun u : (Nat → Int32) => [kX12 h q1 q4 q5 q6 q7 q9 q10 q11 x, aI y r 154 f, aI y q11 20 u]) (va_A [kX12 h q1 q4 q5 q6 q7 q9 q10 q11 x, aI y r 154 f, aI y q11 20 o] sz)) 0 0 (va_A [kX12 h q1 q4 q5 q6 q7 q9 q10 q11 x, aI y r 154 f, aI y q11 20 o] sz) := by
  refine Met.ofW (cc := cX12_goodOf) (maxL := 4) (ret := (some .int)) (by decide) rfl ?_
  intro p e s m args below meth c s₁ B hml hv
  obtain ⟨rfl, hsz, hP, ⟨hK, hN⟩, hD0⟩ := hv
  have hx := B.exec
  have hb := B.bytes
  have hr := B.returns
  have hts := atoms_spec (ws := wsX12_goodOf) B.pre
  have hown : s.vm.findClass RX12 = some m.cls := findClass_of_methodNamed B.named
  have hlocks := B.notSynchronized
  subst hsz
  have hD := hD0.self (sz := s.heap.size)
  generalize hAe : va_A [kX12 h q1 q4 q5 q6 q7 q9 q10 q11 x, aI y r 154 f, aI y q11 20 o] s.heap.size = A at hD ⊢
  have hA : ∀ q : Nat, s.heap.size ≤ q → A q := fun q h => by rw [← hAe]; exact Or.inr h
  have hS : va_S A s.heap s.heap [] := va_S.rf
  have hP : va_P G vwCl [kX12 h q1 q4 q5 q6 q7 q9 q10 q11 x, aI y r 154 f, aI y q11 20 o] s.heap := hP
  obtain ⟨hn1, hn2⟩ := in_tn h16 (by decide)
  have hn1 : f 16 = nI (nP f) := hn1
  have hn2 : nP f < 21 := hn2
  have hl := lv_entry ([.ref h, .ref r]) (n := 4) (Nat.le_of_ble_eq_true rfl)
  rw [lg_entry_eq]
  generalize (lg_sl ([.ref h, .ref r]) ++ List.replicate (4 - (lg_sl ([.ref h, .ref r])).length) Slot.unset).toArray = ls at hl ⊢
  have hl : lv_has ls 4 [(0, .ref h), (1, .ref r)] := hl
  obtain ⟨QQ, hQQ⟩ : ∃ zq9, zq9 = MQ below (QHi G (nI (goodP f)) (fun u : (Nat → Int32) => [kX12 h q1 q4 q5 q6 q7 q9 q10 q11 x, aI y r 154 f, aI y q11 20 u]) A) ([.ref h, .ref r] : List Value).toArray s 0 0 A := ⟨_, rfl⟩
  rw [← hQQ]
  refine lv_iconst (v := 0) hx hb dX12_goodOf_0 (by decide) ?_
  refine lv_istore_n (lv' := [(2, .int 0), (0, .ref h), (1, .ref r)]) hx hb dX12_goodOf_1 rfl hl (by decide) rfl (fun ls hl => ?_)
  refine lv_iconst (v := 0) hx hb dX12_goodOf_2 (by decide) ?_
  refine lv_istore_n (lv' := [(3, .int 0), (2, .int 0), (0, .ref h), (1, .ref r)]) hx hb dX12_goodOf_3 rfl hl (by decide) rfl (fun ls hl => ?_)
  have LOOP4_1 : ∀ (n_2 : Nat) (k0 : Nat) (x2 : Int32) (x3 : Int32) (w : Nat → Int32) (hx2 : x2 = nI (goodG (pP f) (sP f) (nP f) (f 7) k0)) (hx3 : x3 = nI k0) (hk : k0 ≤ nP f) (hn_4 : 21 - k0 < n_2) (H : Heap) (locs : List Loc) (hP : va_P G vwCl [kX12 h q1 q4 q5 q6 q7 q9 q10 q11 x, aI y r 154 f, aI y q11 20 w] H) (hD : va_D A [kX12 h q1 q4 q5 q6 q7 q9 q10 q11 x, aI y r 154 f, aI y q11 20 w]) (hS : va_S A s.heap H locs) (ls : Array Slot) (hl : lv_has ls 4 [(3, .int x3), (2, .int x2), (0, .ref h), (1, .ref r)]), W p l e (headSpec wsX12_goodOf rmX12_goodOf).room s m ([.ref h, .ref r] : List Value).toArray below meth c H locs 0 0 QQ (F0 m 4 ls []) := by
    intro n_2
    induction n_2 with
    | zero => intro k0 x2 x3 w hx2 hx3 hk hn_4 H locs hP hD hS ls hl; exact absurd hn_4 (Nat.not_lt_zero _)
    | succ n_2 ih_3 =>
      intro k0 x2 x3 w hx2 hx3 hk hn_4 H locs hP hD hS ls hl
      refine lv_iload_n hx hb dX12_goodOf_4 rfl (lv_at hl 0 rfl) ?_
      refine lv_aload_n hx hb dX12_goodOf_5 rfl (lv_at hl 3 rfl) ?_
      refine lv_bipush (v := 16) hx hb dX12_goodOf_6 (by decide) ?_
      refine al_i (D := G) (n := 154) (f := f) hx hb hK hP 1 0 rfl rfl 16 rfl (by decide) (by first | decide | omega) dX12_goodOf_8 ?_
      refine lv_icmp_ge (tgt := 35) hx hb dX12_goodOf_9 (by decide) (fun c_5 => ?_) (fun c_5 => ?_)
      · have hk9 : nP f ≤ k0 := kge hx3 hn1 (by omega) (by omega) c_5
        refine lv_iload_n hx hb dX12_goodOf_35 rfl (lv_at hl 1 rfl) ?_
        rw [hQQ]
        exact W.iret hx hb hr (end_Hi w hP hD hS (by rw [hx2, show k0 = nP f by omega]; rfl) rfl) hS.2.2 dX12_goodOf_36
      · have hk9 : k0 < nP f := klt hx3 hn1 (by omega) (by omega) c_5
        refine lv_iload_n hx hb dX12_goodOf_12 rfl (lv_at hl 1 rfl) ?_
        refine lv_aload_n hx hb dX12_goodOf_13 rfl (lv_at hl 2 rfl) ?_
        refine lv_aload_n hx hb dX12_goodOf_14 rfl (lv_at hl 3 rfl) ?_
        refine lv_iload_n hx hb dX12_goodOf_15 rfl (lv_at hl 0 rfl) ?_
        refine cl_Hi (wr := []) (fun u : (Nat → Int32) => [kX12 h q1 q4 q5 q6 q7 q9 q10 q11 x, aI y r 154 f, aI y q11 20 u]) [0, 1, 2] [] [0, 1, 2] (va_runV (As := [.ref r, .int x3]) (rest := [.int x2]) ⟨hx, hb, hml, hown, hts⟩ (c_X12_oddOf' l G y h r x3 q1 q4 q5 q6 q7 q9 q10 q11 x f w H.size (by rw [hx3]; exact vp_in_nI (by omega) (by decide)) h16) (cwV 2 hts gX12_goodOf_X12_oddOf rfl rfl rfl (by decide +kernel) ⟨Nat.le_of_ble_eq_true rfl, Nat.le_of_ble_eq_true rfl⟩) (PH_V (hP.sub (ws' := [kX12 h q1 q4 q5 q6 q7 q9 q10 q11 x, aI y r 154 f, aI y q11 20 w]) [0, 1, 2] rfl) hK hN (hD.sub (ws' := [kX12 h q1 q4 q5 q6 q7 q9 q10 q11 x, aI y r 154 f, aI y q11 20 w]) [0, 1, 2] (by decide) rfl) (ci := 10) (q0 := 0) rfl rfl) rfl rfl hl.1 rfl (lv_room (Nat.le_of_ble_eq_true rfl)) dX12_goodOf_16 ⟨Nat.le_of_ble_eq_true rfl, Nat.le_of_ble_eq_true rfl⟩) hP hD hS hA rfl rfl rfl (by decide) rfl (fun _ => rfl) (fun u H locs hP hD hS => ?_)
        obtain ⟨o_6, rfl⟩ : ∃ zq9, zq9 = u := ⟨_, rfl⟩
        have hP : va_P G vwCl [kX12 h q1 q4 q5 q6 q7 q9 q10 q11 x, aI y r 154 f, aI y q11 20 o_6] H := hP
        have hD : va_D A [kX12 h q1 q4 q5 q6 q7 q9 q10 q11 x, aI y r 154 f, aI y q11 20 o_6] := hD
        have J27_10 : ∀ (v_8 : Int32) (e_v_8 : v_8 = (if (oddP f (tn x3)) = 0 then 1 else 0)) (z_9 : v_8 = 0 ∨ v_8 = 1) (ls : Array Slot) (hl : lv_has ls 4 [(3, .int x3), (0, .ref h), (1, .ref r)]), W p l e (headSpec wsX12_goodOf rmX12_goodOf).room s m ([.ref h, .ref r] : List Value).toArray below meth c H locs 0 0 QQ (F0 m 27 ls [.int v_8, .int x2]) := by
          intro v_8 e_v_8 z_9 ls hl
          refine lv_iadd hx hb dX12_goodOf_27 ?_
          refine lv_istore_n (lv' := [(2, .int (x2 + v_8)), (3, .int x3), (0, .ref h), (1, .ref r)]) hx hb dX12_goodOf_28 rfl hl (by decide) rfl (fun ls hl => ?_)
          refine lv_iinc (v := (x3 + 1)) (lv' := [(3, .int (x3 + 1)), (2, .int (x2 + v_8)), (0, .ref h), (1, .ref r)]) hx hb dX12_goodOf_29 hl (k := 1) rfl (by first | rfl | decide) (by decide) rfl (fun ls hl => ?_)
          refine lv_goto (tgt := 4) hx hb dX12_goodOf_32 (by decide) ?_
          exact ih_3 (k0 + 1) (x2 + v_8) (x3 + 1) o_6 (good_step hx2 hx3 (by omega) e_v_8) (by rw [hx3]; exact nI_1 k0) (by omega) (by omega) H locs hP hD hS ls (lv_sub hl [0, 1, 2, 3] rfl)
        refine lv_if_ne (tgt := 26) hx hb dX12_goodOf_19 (by decide) (fun c_7 => ?_) (fun c_7 => ?_)
        · refine lv_iconst (v := 0) hx hb dX12_goodOf_26 (by decide) ?_
          exact J27_10 _ (if_neg c_7).symm (Or.inl rfl) ls (lv_sub hl [0, 2, 3] rfl)
        · refine lv_iconst (v := 1) hx hb dX12_goodOf_22 (by decide) ?_
          refine lv_goto (tgt := 27) hx hb dX12_goodOf_23 (by decide) ?_
          exact J27_10 _ (if_pos c_7).symm (Or.inr rfl) ls (lv_sub hl [0, 2, 3] rfl)
  exact LOOP4_1 (21 - 0 + 1) 0 0 0 o rfl rfl (by omega) (Nat.lt_succ_self _) s.heap [] hP hD hS ls (lv_sub hl [0, 1, 2, 3] rfl)

abbrev rmX12_meanOf : Room := ({ frames := 3, cells := 0, slots := 0, locals := 70 } : Room)
set_option maxHeartbeats 4000000 in
set_option maxRecDepth 100000 in
theorem c_X12_meanOf (l : Launch) (G : va_G) (y : Nat → ClassId) (h : Nat) (r : Nat) (a1 : Int32) (q1 : Nat) (q4 : Nat) (q5 : Nat) (q6 : Nat) (q7 : Nat) (q9 : Nat) (q10 : Nat) (q11 : Nat) (x : Nat → Int32) (f : Nat → Int32) (o : Nat → Int32) (sz : Nat) (h16 : vp_in (f 16) 21) (hg : ¬ goodP f = 0) : Met l yX12_meanOf wsX12_meanOf rmX12_meanOf (PH G y [.ref h, .ref r, .int a1] [kX12 h q1 q4 q5 q6 q7 q9 q10 q11 x, aI y r 154 f, aI y q11 20 o] sz) (QHi G (meanP f a1) (fun u : (Nat → Int32) => [kX12 h q1 q4 q5 q6 q7 q9 q10 q11 x, aI y r 154 f, aI y q11 20 u]) (va_A [kX12 h q1 q4 q5 q6 q7 q9 q10 q11 x, aI y r 154 f, aI y q11 20 o] sz)) 0 0 (va_A [kX12 h q1 q4 q5 q6 q7 q9 q10 q11 x, aI y r 154 f, aI y q11 20 o] sz) := by
  refine Met.ofW (cc := cX12_meanOf) (maxL := 6) (ret := (some .int)) (by decide) rfl ?_
  intro p e s m args below meth c s₁ B hml hv
  obtain ⟨rfl, hsz, hP, ⟨hK, hN⟩, hD0⟩ := hv
  have hx := B.exec
  have hb := B.bytes
  have hr := B.returns
  have hts := atoms_spec (ws := wsX12_meanOf) B.pre
  have hown : s.vm.findClass RX12 = some m.cls := findClass_of_methodNamed B.named
  have hlocks := B.notSynchronized
  subst hsz
  have hD := hD0.self (sz := s.heap.size)
  generalize hAe : va_A [kX12 h q1 q4 q5 q6 q7 q9 q10 q11 x, aI y r 154 f, aI y q11 20 o] s.heap.size = A at hD ⊢
  have hA : ∀ q : Nat, s.heap.size ≤ q → A q := fun q h => by rw [← hAe]; exact Or.inr h
  have hS : va_S A s.heap s.heap [] := va_S.rf
  have hP : va_P G vwCl [kX12 h q1 q4 q5 q6 q7 q9 q10 q11 x, aI y r 154 f, aI y q11 20 o] s.heap := hP
  obtain ⟨hn1, hn2⟩ := in_tn h16 (by decide)
  have hn1 : f 16 = nI (nP f) := hn1
  have hn2 : nP f < 21 := hn2
  have hl := lv_entry ([.ref h, .ref r, .int a1]) (n := 6) (Nat.le_of_ble_eq_true rfl)
  rw [lg_entry_eq]
  generalize (lg_sl ([.ref h, .ref r, .int a1]) ++ List.replicate (6 - (lg_sl ([.ref h, .ref r, .int a1])).length) Slot.unset).toArray = ls at hl ⊢
  have hl : lv_has ls 6 [(0, .ref h), (1, .ref r), (2, .int a1)] := hl
  obtain ⟨QQ, hQQ⟩ : ∃ zq9, zq9 = MQ below (QHi G (meanP f a1) (fun u : (Nat → Int32) => [kX12 h q1 q4 q5 q6 q7 q9 q10 q11 x, aI y r 154 f, aI y q11 20 u]) A) ([.ref h, .ref r, .int a1] : List Value).toArray s 0 0 A := ⟨_, rfl⟩
  rw [← hQQ]
  refine lv_iconst (v := 0) hx hb dX12_meanOf_0 (by decide) ?_
  refine lv_istore_n (lv' := [(3, .int 0), (0, .ref h), (1, .ref r), (2, .int a1)]) hx hb dX12_meanOf_1 rfl hl (by decide) rfl (fun ls hl => ?_)
  refine lv_iconst (v := 0) hx hb dX12_meanOf_2 (by decide) ?_
  refine lv_istore (lv' := [(4, .int 0), (3, .int 0), (0, .ref h), (1, .ref r), (2, .int a1)]) hx hb dX12_meanOf_3 hl (by decide) rfl (fun ls hl => ?_)
  refine lv_iconst (v := 0) hx hb dX12_meanOf_5 (by decide) ?_
  refine lv_istore (lv' := [(5, .int 0), (4, .int 0), (3, .int 0), (0, .ref h), (1, .ref r), (2, .int a1)]) hx hb dX12_meanOf_6 hl (by decide) rfl (fun ls hl => ?_)
  have LOOP8_1 : ∀ (n_2 : Nat) (k0 : Nat) (x3 : Int32) (x4 : Int32) (x5 : Int32) (w : Nat → Int32) (hx3 : x3 = sumG (pP f) (sP f) (nP f) (f 7) (vP a1 f) k0) (hx4 : x4 = nI (goodG (pP f) (sP f) (nP f) (f 7) k0)) (hx5 : x5 = nI k0) (hk : k0 ≤ nP f) (hn_4 : 21 - k0 < n_2) (H : Heap) (locs : List Loc) (hP : va_P G vwCl [kX12 h q1 q4 q5 q6 q7 q9 q10 q11 x, aI y r 154 f, aI y q11 20 w] H) (hD : va_D A [kX12 h q1 q4 q5 q6 q7 q9 q10 q11 x, aI y r 154 f, aI y q11 20 w]) (hS : va_S A s.heap H locs) (ls : Array Slot) (hl : lv_has ls 6 [(5, .int x5), (4, .int x4), (3, .int x3), (0, .ref h), (1, .ref r), (2, .int a1)]), W p l e (headSpec wsX12_meanOf rmX12_meanOf).room s m ([.ref h, .ref r, .int a1] : List Value).toArray below meth c H locs 0 0 QQ (F0 m 8 ls []) := by
    intro n_2
    induction n_2 with
    | zero => intro k0 x3 x4 x5 w hx3 hx4 hx5 hk hn_4 H locs hP hD hS ls hl; exact absurd hn_4 (Nat.not_lt_zero _)
    | succ n_2 ih_3 =>
      intro k0 x3 x4 x5 w hx3 hx4 hx5 hk hn_4 H locs hP hD hS ls hl
      refine lv_iload hx hb dX12_meanOf_8 (lv_at hl 0 rfl) ?_
      refine lv_aload_n hx hb dX12_meanOf_10 rfl (lv_at hl 4 rfl) ?_
      refine lv_bipush (v := 16) hx hb dX12_meanOf_11 (by decide) ?_
      refine al_i (D := G) (n := 154) (f := f) hx hb hK hP 1 0 rfl rfl 16 rfl (by decide) (by first | decide | omega) dX12_meanOf_13 ?_
      refine lv_icmp_ge (tgt := 61) hx hb dX12_meanOf_14 (by decide) (fun c_5 => ?_) (fun c_5 => ?_)
      · have hk9 : k0 = nP f := by have := kge hx5 hn1 (by omega) (by omega) c_5; omega
        have hne : ¬ x4 = 0 := by rw [hx4, hk9]; exact nI_ne0 (Nat.pos_of_ne_zero hg) (Nat.lt_of_le_of_lt (goodG_le _ _ _ _ _) (by omega))
        refine lv_iload_n hx hb dX12_meanOf_61 rfl (lv_at hl 2 rfl) ?_
        refine lv_iload hx hb dX12_meanOf_62 (lv_at hl 1 rfl) ?_
        refine lv_idiv hx hb dX12_meanOf_64 hne ?_
        refine lv_iconst (v := 1) hx hb dX12_meanOf_65 (by decide) ?_
        have J77_8 : ∀ (v_7 : Int32) (e_v_7 : v_7 = (if 1 ≤ (x3 / x4) then (x3 / x4) else 1)) (ls : Array Slot) (hl : lv_has ls 6 []), W p l e (headSpec wsX12_meanOf rmX12_meanOf).room s m ([.ref h, .ref r, .int a1] : List Value).toArray below meth c H locs 0 0 QQ (F0 m 77 ls [.int v_7]) := by
          intro v_7 e_v_7 ls hl
          rw [hQQ]
          exact W.iret hx hb hr (end_Hi w hP hD hS (by rw [e_v_7, hx3, hx4, hk9]; rfl) rfl) hS.2.2 dX12_meanOf_77
        refine lv_icmp_ge (tgt := 73) hx hb dX12_meanOf_66 (by decide) (fun c_6 => ?_) (fun c_6 => ?_)
        · refine lv_iload_n hx hb dX12_meanOf_73 rfl (lv_at hl 2 rfl) ?_
          refine lv_iload hx hb dX12_meanOf_74 (lv_at hl 1 rfl) ?_
          refine lv_idiv hx hb dX12_meanOf_76 hne ?_
          exact J77_8 _ (if_pos c_6).symm ls (lv_sub hl [] rfl)
        · refine lv_iconst (v := 1) hx hb dX12_meanOf_69 (by decide) ?_
          refine lv_goto (tgt := 77) hx hb dX12_meanOf_70 (by decide) ?_
          exact J77_8 _ (if_neg c_6).symm ls (lv_sub hl [] rfl)
      · have hk9 : k0 < nP f := klt hx5 hn1 (by omega) (by omega) c_5
        have hodd : oddP f (tn x5) = oddG (pP f) (sP f) (nP f) (f 7) k0 := by rw [tn_of hx5 (by omega)]; rfl
        refine lv_aload_n hx hb dX12_meanOf_17 rfl (lv_at hl 3 rfl) ?_
        refine lv_aload_n hx hb dX12_meanOf_18 rfl (lv_at hl 4 rfl) ?_
        refine lv_iload hx hb dX12_meanOf_19 (lv_at hl 0 rfl) ?_
        refine cl_Hi (wr := []) (fun u : (Nat → Int32) => [kX12 h q1 q4 q5 q6 q7 q9 q10 q11 x, aI y r 154 f, aI y q11 20 u]) [0, 1, 2] [] [0, 1, 2] (va_runV (As := [.ref r, .int x5]) (rest := []) ⟨hx, hb, hml, hown, hts⟩ (c_X12_oddOf' l G y h r x5 q1 q4 q5 q6 q7 q9 q10 q11 x f w H.size (by rw [hx5]; exact vp_in_nI (by omega) (by decide)) h16) (cwV 2 hts gX12_meanOf_X12_oddOf rfl rfl rfl (by decide +kernel) ⟨Nat.le_of_ble_eq_true rfl, Nat.le_of_ble_eq_true rfl⟩) (PH_V (hP.sub (ws' := [kX12 h q1 q4 q5 q6 q7 q9 q10 q11 x, aI y r 154 f, aI y q11 20 w]) [0, 1, 2] rfl) hK hN (hD.sub (ws' := [kX12 h q1 q4 q5 q6 q7 q9 q10 q11 x, aI y r 154 f, aI y q11 20 w]) [0, 1, 2] (by decide) rfl) (ci := 10) (q0 := 0) rfl rfl) rfl rfl hl.1 rfl (lv_room (Nat.le_of_ble_eq_true rfl)) dX12_meanOf_21 ⟨Nat.le_of_ble_eq_true rfl, Nat.le_of_ble_eq_true rfl⟩) hP hD hS hA rfl rfl rfl (by decide) rfl (fun _ => rfl) (fun u H locs hP hD hS => ?_)
        obtain ⟨o_9, rfl⟩ : ∃ zq9, zq9 = u := ⟨_, rfl⟩
        have hP : va_P G vwCl [kX12 h q1 q4 q5 q6 q7 q9 q10 q11 x, aI y r 154 f, aI y q11 20 o_9] H := hP
        have hD : va_D A [kX12 h q1 q4 q5 q6 q7 q9 q10 q11 x, aI y r 154 f, aI y q11 20 o_9] := hD
        have J55_13 : ∀ (v_11 : Int32) (v_12 : Int32) (e_v_11 : v_11 = (if (oddP f (tn x5)) = 0 then (x4 + 1) else x4)) (e_v_12 : v_12 = (if (oddP f (tn x5)) = 0 then (let v_12 : Int32 := (if a1 = 0 then (f (42 + 4 * k0)) else (s_X12_spanOf_r x5 f)); (x3 + v_12)) else x3)) (ls : Array Slot) (hl : lv_has ls 6 [(5, .int x5), (4, .int v_11), (3, .int v_12), (0, .ref h), (1, .ref r), (2, .int a1)]), W p l e (headSpec wsX12_meanOf rmX12_meanOf).room s m ([.ref h, .ref r, .int a1] : List Value).toArray below meth c H locs 0 0 QQ (F0 m 55 ls []) := by
          intro v_11 v_12 e_v_11 e_v_12 ls hl
          refine lv_iinc (v := (x5 + 1)) (lv' := [(5, .int (x5 + 1)), (4, .int v_11), (3, .int v_12), (0, .ref h), (1, .ref r), (2, .int a1)]) hx hb dX12_meanOf_55 hl (k := 0) rfl (by first | rfl | decide) (by decide) rfl (fun ls hl => ?_)
          refine lv_goto (tgt := 8) hx hb dX12_meanOf_58 (by decide) ?_
          exact ih_3 (k0 + 1) v_12 v_11 (x5 + 1) o_9 (sum_step hx3 hodd (mid_val hx5 (by omega) rfl) e_v_12) (good_step2 hx4 hodd e_v_11) (by rw [hx5]; exact nI_1 k0) (by omega) (by omega) H locs hP hD hS ls (lv_sub hl [0, 1, 2, 3, 4, 5] rfl)
        refine lv_if_ne (tgt := 55) hx hb dX12_meanOf_24 (by decide) (fun c_10 => ?_) (fun c_10 => ?_)
        · exact J55_13 _ _ (if_neg c_10).symm (if_neg c_10).symm ls (lv_sub hl [0, 1, 2, 3, 4, 5] rfl)
        · refine lv_iload_n hx hb dX12_meanOf_27 rfl (lv_at hl 2 rfl) ?_
          refine lv_iload_n hx hb dX12_meanOf_28 rfl (lv_at hl 5 rfl) ?_
          have J50_16 : ∀ (v_15 : Int32) (e_v_15 : v_15 = (if a1 = 0 then (f (42 + 4 * k0)) else (s_X12_spanOf_r x5 f))) (ls : Array Slot) (hl : lv_has ls 6 [(5, .int x5), (4, .int x4), (0, .ref h), (1, .ref r), (2, .int a1)]), W p l e (headSpec wsX12_meanOf rmX12_meanOf).room s m ([.ref h, .ref r, .int a1] : List Value).toArray below meth c H locs 0 0 QQ (F0 m 50 ls [.int v_15, .int x3]) := by
            intro v_15 e_v_15 ls hl
            have hval : v_15 = vP a1 f k0 := mid_val hx5 (by omega) e_v_15
            refine lv_iadd hx hb dX12_meanOf_50 ?_
            refine lv_istore_n (lv' := [(3, .int (x3 + v_15)), (5, .int x5), (4, .int x4), (0, .ref h), (1, .ref r), (2, .int a1)]) hx hb dX12_meanOf_51 rfl hl (by decide) rfl (fun ls hl => ?_)
            refine lv_iinc (v := (x4 + 1)) (lv' := [(4, .int (x4 + 1)), (3, .int (x3 + v_15)), (5, .int x5), (0, .ref h), (1, .ref r), (2, .int a1)]) hx hb dX12_meanOf_52 hl (k := 2) rfl (by first | rfl | decide) (by decide) rfl (fun ls hl => ?_)
            subst e_v_15
            exact J55_13 _ _ (if_pos c_10).symm (if_pos c_10).symm ls (lv_sub hl [2, 0, 1, 3, 4, 5] rfl)
          refine lv_if_eq (tgt := 41) hx hb dX12_meanOf_29 (by decide) (fun c_14 => ?_) (fun c_14 => ?_)
          · refine lv_aload_n hx hb dX12_meanOf_41 rfl (lv_at hl 4 rfl) ?_
            refine lv_bipush (v := 42) hx hb dX12_meanOf_42 (by decide) ?_
            refine lv_iconst (v := 4) hx hb dX12_meanOf_44 (by decide) ?_
            refine lv_iload hx hb dX12_meanOf_45 (lv_at hl 0 rfl) ?_
            refine lv_imul hx hb dX12_meanOf_47 ?_
            refine lv_iadd hx hb dX12_meanOf_48 ?_
            refine al_i (D := G) (n := 154) (f := f) hx hb hK hP 1 0 rfl rfl (42 + 4 * k0) (ix40 k0 hx5) (by omega) (by first | decide | omega) dX12_meanOf_49 ?_
            exact J50_16 _ (if_pos c_14).symm ls (lv_sub hl [0, 1, 3, 4, 5] rfl)
          · refine lv_aload_n hx hb dX12_meanOf_32 rfl (lv_at hl 4 rfl) ?_
            refine lv_iload hx hb dX12_meanOf_33 (lv_at hl 0 rfl) ?_
            refine cl_Ri (va_runS (As := [.ref r, .int x5]) (rest := [.int x3]) ⟨hx, hb, hml, hown, hts⟩ (c_X12_spanOf l G y r x5 f (by rw [hx5]; exact vp_in_nI (by omega) (by decide))) (va_cwS 2 hts gX12_meanOf_X12_spanOf rfl rfl rfl (by decide +kernel) ⟨Nat.le_of_ble_eq_true rfl, Nat.le_of_ble_eq_true rfl⟩) (PR_S (hP.sub (ws' := [aI y r 154 f]) [1] rfl) hK hN) rfl rfl hl.1 rfl (lv_room (Nat.le_of_ble_eq_true rfl)) dX12_meanOf_35 ⟨Nat.le_of_ble_eq_true rfl, Nat.le_of_ble_eq_true rfl⟩) ?_
            refine lv_goto (tgt := 50) hx hb dX12_meanOf_38 (by decide) ?_
            exact J50_16 _ (if_neg c_14).symm ls (lv_sub hl [0, 1, 3, 4, 5] rfl)
  exact LOOP8_1 (21 - 0 + 1) 0 0 0 0 o rfl rfl rfl (by omega) (Nat.lt_succ_self _) s.heap [] hP hD hS ls (lv_sub hl [0, 1, 2, 3, 4, 5] rfl)

theorem drop_keep {a : Int32} {f : Nat → Int32} {j : Nat} (h : j < 42) (h2 : j ≠ 16) : s_X12_dropSwing_w0 a f j = f j := by
  unfold s_X12_dropSwing_w0
  rw [upd_ne h2, drF_out (by omega)]
theorem add_keep {f : Nat → Int32} {j : Nat} (h : j < 42) (h2 : j ≠ 16) : s_X12_addSwing_w0 f j = f j := by
  unfold s_X12_addSwing_w0
  try dsimp only
  rw [upd_ne h2, upd_ne (by omega), upd_ne (by omega), upd_ne (by omega), upd_ne (by omega)]
  split
  · exact drop_keep h h2
  · rfl
theorem add_many {f : Nat → Int32} (h16 : vp_in (f 16) 21) : vp_in (s_X12_addSwing_w0 f 16) 21 := by
  have h := add_16 h16 rfl
  unfold s_X12_addSwing_w0
  try dsimp only
  rw [pk_us]
  obtain ⟨k, hk, e⟩ := vp_in_of h (by decide)
  rw [e, nI_1]
  exact vp_in_nI (by omega) (by decide)
/-- a crossing's look, in steps -/
def crA (f : Nat → Int32) : Nat → Int32 := if (f 21) = 1 then (upd (upd (upd f 23 (if (f 22) = 0 then (f 12) else (if (f 12) ≤ (f 23) then (f 23) else (f 12)))) 24 (if (f 22) = 0 then (f 12) else (if (f 24) ≤ (f 12) then (f 24) else (f 12)))) 22 ((f 22) + 1)) else f
def crB (v : Nat → Int32) : Nat → Int32 := upd (upd (if (v 21) = 1 then (s_X12_addSwing_w0 (upd v 40 ((v 40) + 1))) else (upd v 40 ((v 40) + 1))) 21 1) 22 0
theorem cross_def (a : Int32) (f : Nat → Int32) : s_X12_cross_w0 a f = if (crA f 5) ≤ a then crA f else if (crA f 12) < (crA f 5) then crA f else crB (crA f) := rfl
theorem crA_keep {f : Nat → Int32} {j : Nat} (h1 : j ≠ 22) (h2 : j ≠ 23) (h3 : j ≠ 24) : crA f j = f j := by
  unfold crA
  split
  · rw [upd_ne h1, upd_ne h3, upd_ne h2]
  · rfl
theorem crB_keep {f : Nat → Int32} {j : Nat} (h : j < 40) (h1 : j ≠ 16) (h2 : j ≠ 21) (h3 : j ≠ 22) : crB f j = f j := by
  unfold crB
  rw [upd_ne h3, upd_ne h2]
  split
  · rw [add_keep (by omega) h1, upd_ne (by omega)]
  · rw [upd_ne (by omega)]
theorem crB_many {f : Nat → Int32} (h16 : vp_in (f 16) 21) : vp_in (crB f 16) 21 := by
  unfold crB
  rw [upd_ne (by decide), upd_ne (by decide)]
  split
  · refine add_many ?_
    rw [upd_ne (by decide)]
    exact h16
  · rw [upd_ne (by decide)]
    exact h16
theorem cross_keep {a : Int32} {f : Nat → Int32} {j : Nat} (h : j < 21) (h1 : j ≠ 16) : s_X12_cross_w0 a f j = f j := by
  rw [cross_def]
  have e := crA_keep (f := f) (j := j) (by omega) (by omega) (by omega)
  split
  · exact e
  · split
    · exact e
    · rw [crB_keep (by omega) h1 (by omega) (by omega), e]
theorem cross_many {a : Int32} {f : Nat → Int32} (h16 : vp_in (f 16) 21) : vp_in (s_X12_cross_w0 a f 16) 21 := by
  rw [cross_def]
  have e : vp_in (crA f 16) 21 := by rw [crA_keep (by decide) (by decide) (by decide)]; exact h16
  split
  · exact e
  · split
    · exact e
    · exact crB_many e
/-- a tick, in steps -/
def tkR (f : Nat → Int32) : Int32 := (if (f 11) = 0 then 0 else (if (f 11) = 1 then (s_X12_relayOutput_r f) else (s_X12_controlOutput_r f)))
def tkA (f : Nat → Int32) : Nat → Int32 := (if (f 11) = 0 then f else (if (f 11) = 1 then (s_X12_relayOutput_w0 f) else (s_X12_controlOutput_w0 f)))
def tkB (v : Nat → Int32) (r : Int32) : Nat → Int32 := upd (shF 0 (upd (upd (upd (upd v 39 ((v 39) + (if r = (v 18) then 0 else 1))) 38 ((v 38) + r)) (35 + tn (v 11)) (((upd (upd v 39 ((v 39) + (if r = (v 18) then 0 else 1))) 38 ((v 38) + r)) (35 + tn (v 11))) + 1)) 18 r)) 25 r
def tkC (w : Nat → Int32) : Nat → Int32 := upd (s_X12_warm_w0 w) 13 ((s_X12_warm_w0 w 13) + 1)
theorem tick_def (f : Nat → Int32) : s_X12_tickOn_w0 f = if (s_X12_warm_w0 (tkB (tkA f) (tkR f)) 11) = 1 then s_X12_cross_w0 (f 12) (tkC (tkB (tkA f) (tkR f))) else tkC (tkB (tkA f) (tkR f)) := rfl
theorem tkA_keep {f : Nat → Int32} {j : Nat} (h : j ≠ 14) (h1 : j ≠ 15) (h2 : j ≠ 19) (h3 : j ≠ 20) : tkA f j = f j := out_keep h h1 h2 h3 rfl
theorem tkB_keep {v : Nat → Int32} {r : Int32} {j : Nat} (h : j < 25) (h1 : j ≠ 18) : tkB v r j = v j := by
  unfold tkB
  rw [upd_ne (by omega), shF_out (by omega), upd_ne h1, upd_ne (by omega), upd_ne (by omega), upd_ne (by omega)]
theorem tkB_high {v : Nat → Int32} {r : Int32} {j : Nat} (h : 40 ≤ j) (h1 : vp_in (v 11) 3) : tkB v r j = v j := by
  have h3 := (in_tn h1 (by decide)).2
  unfold tkB
  rw [upd_ne (by omega), shF_out (by omega), upd_ne (by omega), upd_ne (by omega), upd_ne (by omega), upd_ne (by omega)]
theorem tkC_keep {w : Nat → Int32} {j : Nat} (h : j ≠ 12) (h1 : j ≠ 13) : tkC w j = w j := by
  unfold tkC
  rw [upd_ne h1, warm_keep h]
theorem tkAll_keep {f : Nat → Int32} {j : Nat} (hj : j < 25) (h : j ≠ 14) (h1 : j ≠ 15) (h2 : j ≠ 19) (h3 : j ≠ 20) (h4 : j ≠ 18) (h5 : j ≠ 12) (h6 : j ≠ 13) : tkC (tkB (tkA f) (tkR f)) j = f j := by
  rw [tkC_keep h5 h6, tkB_keep hj h4, tkA_keep h h1 h2 h3]
/-- what a tick needs of a page -/
def TK (f : Nat → Int32) : Prop := ¬ f 1 = 0 ∧ vp_in (f 2) 10 ∧ vp_in (f 11) 3 ∧ vp_in (f 16) 21
theorem tick_low {f : Nat → Int32} {j : Nat} (h : j < 12) : s_X12_tickOn_w0 f j = f j := by
  rw [tick_def]
  have e := tkAll_keep (f := f) (j := j) (by omega) (by omega) (by omega) (by omega) (by omega) (by omega) (by omega) (by omega)
  split
  · rw [cross_keep (by omega) (by omega), e]
  · exact e
theorem tick_many {f : Nat → Int32} (h16 : vp_in (f 16) 21) : vp_in (s_X12_tickOn_w0 f 16) 21 := by
  rw [tick_def]
  have e : vp_in (tkC (tkB (tkA f) (tkR f)) 16) 21 := by
    rw [tkAll_keep (by decide) (by decide) (by decide) (by decide) (by decide) (by decide) (by decide) (by decide)]
    exact h16
  split
  · exact cross_many e
  · exact e
theorem tick_TK {f : Nat → Int32} (h : TK f) : TK (s_X12_tickOn_w0 f) := by
  obtain ⟨h1, h2, h3, h4⟩ := h
  refine ⟨?_, ?_, ?_, tick_many h4⟩
  · rw [tick_low (by omega)]; exact h1
  · rw [tick_low (by omega)]; exact h2
  · rw [tick_low (by omega)]; exact h3
theorem it_TK {f : Nat → Int32} (h : TK f) : ∀ k, TK (itF s_X12_tickOn_w0 k f)
  | 0 => h
  | k + 1 => tick_TK (it_TK h k)

abbrev rmX12_ticksOn : Room := ({ frames := 4, cells := 0, slots := 0, locals := 87 } : Room)
set_option maxHeartbeats 4000000 in
set_option maxRecDepth 100000 in
theorem c_X12_ticksOn (l : Launch) (G : va_G) (y : Nat → ClassId) (h : Nat) (a1 : Int32) (f : Nat → Int32) (M : Nat) (sz : Nat) (hg : TK f) (hm : a1 = nI M) (hM : M < 1000000) : Met l yX12_ticksOn wsX12_ticksOn rmX12_ticksOn (PH G y [.ref h, .int a1] [aI y h 154 f] sz) (QHv G (fun _ : Unit => [aI y h 154 (itF s_X12_tickOn_w0 M f)]) (va_A [aI y h 154 f] sz)) 0 0 (va_A [aI y h 154 f] sz) := by
  refine Met.ofW (cc := cX12_ticksOn) (maxL := 3) (ret := none) (by decide) rfl ?_
  intro p e s m args below meth c s₁ B hml hv
  obtain ⟨rfl, hsz, hP, ⟨hK, hN⟩, hD0⟩ := hv
  have hx := B.exec
  have hb := B.bytes
  have hr := B.returns
  have hts := atoms_spec (ws := wsX12_ticksOn) B.pre
  have hown : s.vm.findClass RX12 = some m.cls := findClass_of_methodNamed B.named
  have hlocks := B.notSynchronized
  subst hsz
  have hD := hD0.self (sz := s.heap.size)
  generalize hAe : va_A [aI y h 154 f] s.heap.size = A at hD ⊢
  have hA : ∀ q : Nat, s.heap.size ≤ q → A q := fun q h => by rw [← hAe]; exact Or.inr h
  have hS : va_S A s.heap s.heap [] := va_S.rf
  have hP : va_P G vwCl [aI y h 154 f] s.heap := hP
  have hl := lv_entry ([.ref h, .int a1]) (n := 3) (Nat.le_of_ble_eq_true rfl)
  rw [lg_entry_eq]
  generalize (lg_sl ([.ref h, .int a1]) ++ List.replicate (3 - (lg_sl ([.ref h, .int a1])).length) Slot.unset).toArray = ls at hl ⊢
  have hl : lv_has ls 3 [(0, .ref h), (1, .int a1)] := hl
  obtain ⟨QQ, hQQ⟩ : ∃ zq9, zq9 = MQ below (QHv G (fun _ : Unit => [aI y h 154 (itF s_X12_tickOn_w0 M f)]) A) ([.ref h, .int a1] : List Value).toArray s 0 0 A := ⟨_, rfl⟩
  rw [← hQQ]
  refine lv_iconst (v := 0) hx hb dX12_ticksOn_0 (by decide) ?_
  refine lv_istore_n (lv' := [(2, .int 0), (0, .ref h), (1, .int a1)]) hx hb dX12_ticksOn_1 rfl hl (by decide) rfl (fun ls hl => ?_)
  have LOOP2_1 : ∀ (n_2 : Nat) (k0 : Nat) (x2 : Int32) (w : Nat → Int32) (hx2 : x2 = nI k0) (hk : k0 ≤ M) (hw : w = itF s_X12_tickOn_w0 k0 f) (hn_4 : M - k0 < n_2) (H : Heap) (locs : List Loc) (hP : va_P G vwCl [aI y h 154 w] H) (hD : va_D A [aI y h 154 w]) (hS : va_S A s.heap H locs) (ls : Array Slot) (hl : lv_has ls 3 [(2, .int x2), (0, .ref h), (1, .int a1)]), W p l e (headSpec wsX12_ticksOn rmX12_ticksOn).room s m ([.ref h, .int a1] : List Value).toArray below meth c H locs 0 0 QQ (F0 m 2 ls []) := by
    intro n_2
    induction n_2 with
    | zero => intro k0 x2 w hx2 hk hw hn_4 H locs hP hD hS ls hl; exact absurd hn_4 (Nat.not_lt_zero _)
    | succ n_2 ih_3 =>
      intro k0 x2 w hx2 hk hw hn_4 H locs hP hD hS ls hl
      refine lv_iload_n hx hb dX12_ticksOn_2 rfl (lv_at hl 0 rfl) ?_
      refine lv_iload_n hx hb dX12_ticksOn_3 rfl (lv_at hl 2 rfl) ?_
      refine lv_icmp_ge (tgt := 17) hx hb dX12_ticksOn_4 (by decide) (fun c_5 => ?_) (fun c_5 => ?_)
      · have hk9 : M ≤ k0 := kge hx2 hm (by omega) (by omega) c_5
        rw [hQQ]
        exact W.vret hx hb hr (end_Hv () hP hD hS (by rw [hw, show k0 = M by omega])) hS.2.2 dX12_ticksOn_17
      · have hk9 : k0 < M := klt hx2 hm (by omega) (by omega) c_5
        obtain ⟨ht1, ht2, ht3, ht4⟩ : TK w := by rw [hw]; exact it_TK hg k0
        refine lv_aload_n hx hb dX12_ticksOn_7 rfl (lv_at hl 1 rfl) ?_
        refine cl_Hv (wr := []) (fun _ : Unit => [aI y h 154 (s_X12_tickOn_w0 w)]) [0] [] [0] (va_runS (As := [.ref h]) (rest := []) ⟨hx, hb, hml, hown, hts⟩ (c_X12_tickOn l G y h w H.size ht1 ht2 ht3 ht4) (va_cwS 1 hts gX12_ticksOn_X12_tickOn rfl rfl rfl (by decide +kernel) ⟨Nat.le_of_ble_eq_true rfl, Nat.le_of_ble_eq_true rfl⟩) (PH_S (hP.sub (ws' := [aI y h 154 w]) [0] rfl) hK hN (hD.sub (ws' := [aI y h 154 w]) [0] (by decide) rfl)) rfl rfl hl.1 rfl (lv_room (Nat.le_of_ble_eq_true rfl)) dX12_ticksOn_8 ⟨Nat.le_of_ble_eq_true rfl, Nat.le_of_ble_eq_true rfl⟩) hP hD hS hA rfl rfl rfl (by decide) rfl (fun _ => rfl) (fun _ H locs hP hD hS => ?_)
        have hP : va_P G vwCl [aI y h 154 (s_X12_tickOn_w0 w)] H := hP
        have hD : va_D A [aI y h 154 (s_X12_tickOn_w0 w)] := hD
        refine lv_iinc (v := (x2 + 1)) (lv' := [(2, .int (x2 + 1)), (0, .ref h), (1, .int a1)]) hx hb dX12_ticksOn_11 hl (k := 0) rfl (by first | rfl | decide) (by decide) rfl (fun ls hl => ?_)
        refine lv_goto (tgt := 2) hx hb dX12_ticksOn_14 (by decide) ?_
        exact ih_3 (k0 + 1) (x2 + 1) (s_X12_tickOn_w0 w) (by rw [hx2]; exact nI_1 k0) (by omega) (by rw [hw]; rfl) (by omega) H locs hP hD hS ls (lv_sub hl [0, 1, 2] rfl)
  exact LOOP2_1 (M - 0 + 1) 0 0 f rfl (by omega) rfl (Nat.lt_succ_self _) s.heap [] hP hD hS ls (lv_sub hl [0, 1, 2] rfl)

def s_X12_proposalOf_r (a1 : Int32) (a2 : Int32) (f : Nat → Int32) : Int32 := (let v_4 : Int32 := (if a1 = 0 then (((127 * (f 4)) / (meanP f 1)) / 2) else (if a1 = 1 then ((((127 * (f 4)) / (meanP f 1)) * 45) / 100) else (if a1 = 2 then ((((127 * (f 4)) / (meanP f 1)) * 6) / 10) else ((((127 * (f 4)) / (meanP f 1)) * 2) / 10)))); (if a2 = 0 then (s_X12_capped_r v_4) else (if a2 = 1 then (let v_15 : Int32 := (if a1 = 0 then 0 else (let v_16 : Int32 := (if a1 = 1 then ((v_4 * 12) / (10 * (meanP f 0))) else ((v_4 * 2) / (meanP f 0))); (s_X12_capped_r v_16))); v_15) else (let v_9 : Int32 := (if 2 ≤ a1 then (let v_10 : Int32 := (if a1 = 2 then 8 else 3); (s_X12_capped_r ((v_4 * (meanP f 0)) / v_10))) else 0); v_9))))
abbrev rmX12_proposalOf : Room := ({ frames := 4, cells := 0, slots := 0, locals := 95 } : Room)
set_option maxHeartbeats 4000000 in
set_option maxRecDepth 100000 in
theorem c_X12_proposalOf (l : Launch) (G : va_G) (y : Nat → ClassId) (h : Nat) (r : Nat) (a1 : Int32) (a2 : Int32) (q1 : Nat) (q4 : Nat) (q5 : Nat) (q6 : Nat) (q7 : Nat) (q9 : Nat) (q10 : Nat) (q11 : Nat) (x : Nat → Int32) (f : Nat → Int32) (o : Nat → Int32) (sz : Nat) (h16 : vp_in (f 16) 21) (hg : ¬ goodP f = 0) : Met l yX12_proposalOf wsX12_proposalOf rmX12_proposalOf (PH G y [.ref h, .ref r, .int a1, .int a2] [kX12 h q1 q4 q5 q6 q7 q9 q10 q11 x, aI y r 154 f, aI y q11 20 o] sz) (QHi G (s_X12_proposalOf_r a1 a2 f) (fun u : (Nat → Int32) => [kX12 h q1 q4 q5 q6 q7 q9 q10 q11 x, aI y r 154 f, aI y q11 20 u]) (va_A [kX12 h q1 q4 q5 q6 q7 q9 q10 q11 x, aI y r 154 f, aI y q11 20 o] sz)) 0 0 (va_A [kX12 h q1 q4 q5 q6 q7 q9 q10 q11 x, aI y r 154 f, aI y q11 20 o] sz) := by
  refine Met.ofW (cc := cX12_proposalOf) (maxL := 7) (ret := (some .int)) (by decide) rfl ?_
  intro p e s m args below meth c s₁ B hml hv
  obtain ⟨rfl, hsz, hP, ⟨hK, hN⟩, hD0⟩ := hv
  have hx := B.exec
  have hb := B.bytes
  have hr := B.returns
  have hts := atoms_spec (ws := wsX12_proposalOf) B.pre
  have hown : s.vm.findClass RX12 = some m.cls := findClass_of_methodNamed B.named
  have hlocks := B.notSynchronized
  subst hsz
  have hD := hD0.self (sz := s.heap.size)
  generalize hAe : va_A [kX12 h q1 q4 q5 q6 q7 q9 q10 q11 x, aI y r 154 f, aI y q11 20 o] s.heap.size = A at hD ⊢
  have hA : ∀ q : Nat, s.heap.size ≤ q → A q := fun q h => by rw [← hAe]; exact Or.inr h
  have hS : va_S A s.heap s.heap [] := va_S.rf
  have hP : va_P G vwCl [kX12 h q1 q4 q5 q6 q7 q9 q10 q11 x, aI y r 154 f, aI y q11 20 o] s.heap := hP
  have hl := lv_entry ([.ref h, .ref r, .int a1, .int a2]) (n := 7) (Nat.le_of_ble_eq_true rfl)
  rw [lg_entry_eq]
  generalize (lg_sl ([.ref h, .ref r, .int a1, .int a2]) ++ List.replicate (7 - (lg_sl ([.ref h, .ref r, .int a1, .int a2])).length) Slot.unset).toArray = ls at hl ⊢
  have hl : lv_has ls 7 [(0, .ref h), (1, .ref r), (2, .int a1), (3, .int a2)] := hl
  obtain ⟨QQ, hQQ⟩ : ∃ zq9, zq9 = MQ below (QHi G (s_X12_proposalOf_r a1 a2 f) (fun u : (Nat → Int32) => [kX12 h q1 q4 q5 q6 q7 q9 q10 q11 x, aI y r 154 f, aI y q11 20 u]) A) ([.ref h, .ref r, .int a1, .int a2] : List Value).toArray s 0 0 A := ⟨_, rfl⟩
  rw [← hQQ]
  refine lv_bipush (v := 127) hx hb dX12_proposalOf_0 (by decide) ?_
  refine lv_aload_n hx hb dX12_proposalOf_2 rfl (lv_at hl 1 rfl) ?_
  refine lv_iconst (v := 4) hx hb dX12_proposalOf_3 (by decide) ?_
  refine al_i (D := G) (n := 154) (f := f) hx hb hK hP 1 0 rfl rfl 4 rfl (by decide) (by first | decide | omega) dX12_proposalOf_4 ?_
  refine lv_imul hx hb dX12_proposalOf_5 ?_
  refine lv_aload_n hx hb dX12_proposalOf_6 rfl (lv_at hl 0 rfl) ?_
  refine lv_aload_n hx hb dX12_proposalOf_7 rfl (lv_at hl 1 rfl) ?_
  refine lv_iconst (v := 1) hx hb dX12_proposalOf_8 (by decide) ?_
  refine cl_Hi (wr := []) (fun u : (Nat → Int32) => [kX12 h q1 q4 q5 q6 q7 q9 q10 q11 x, aI y r 154 f, aI y q11 20 u]) [0, 1, 2] [] [0, 1, 2] (va_runV (As := [.ref r, .int 1]) (rest := [.int (127 * (f 4))]) ⟨hx, hb, hml, hown, hts⟩ (c_X12_meanOf l G y h r 1 q1 q4 q5 q6 q7 q9 q10 q11 x f o s.heap.size h16 hg) (cwV 2 hts gX12_proposalOf_X12_meanOf rfl rfl rfl (by decide +kernel) ⟨Nat.le_of_ble_eq_true rfl, Nat.le_of_ble_eq_true rfl⟩) (PH_V (hP.sub (ws' := [kX12 h q1 q4 q5 q6 q7 q9 q10 q11 x, aI y r 154 f, aI y q11 20 o]) [0, 1, 2] rfl) hK hN (hD.sub (ws' := [kX12 h q1 q4 q5 q6 q7 q9 q10 q11 x, aI y r 154 f, aI y q11 20 o]) [0, 1, 2] (by decide) rfl) (ci := 10) (q0 := 0) rfl rfl) rfl rfl hl.1 rfl (lv_room (Nat.le_of_ble_eq_true rfl)) dX12_proposalOf_9 ⟨Nat.le_of_ble_eq_true rfl, Nat.le_of_ble_eq_true rfl⟩) hP hD hS hA rfl rfl rfl (by decide) rfl (fun _ => rfl) (fun u H locs hP hD hS => ?_)
  obtain ⟨o_1, rfl⟩ : ∃ zq9, zq9 = u := ⟨_, rfl⟩
  have hP : va_P G vwCl [kX12 h q1 q4 q5 q6 q7 q9 q10 q11 x, aI y r 154 f, aI y q11 20 o_1] H := hP
  have hD : va_D A [kX12 h q1 q4 q5 q6 q7 q9 q10 q11 x, aI y r 154 f, aI y q11 20 o_1] := hD
  refine lv_idiv hx hb dX12_proposalOf_12 (ne0_of_pos (meanG_pos _ _ _ _ _)) ?_
  refine lv_istore (lv' := [(4, .int ((127 * (f 4)) / (meanP f 1))), (0, .ref h), (1, .ref r), (2, .int a1), (3, .int a2)]) hx hb dX12_proposalOf_13 hl (by decide) rfl (fun ls hl => ?_)
  refine lv_aload_n hx hb dX12_proposalOf_15 rfl (lv_at hl 1 rfl) ?_
  refine lv_aload_n hx hb dX12_proposalOf_16 rfl (lv_at hl 2 rfl) ?_
  refine lv_iconst (v := 0) hx hb dX12_proposalOf_17 (by decide) ?_
  refine cl_Hi (wr := []) (fun u : (Nat → Int32) => [kX12 h q1 q4 q5 q6 q7 q9 q10 q11 x, aI y r 154 f, aI y q11 20 u]) [0, 1, 2] [] [0, 1, 2] (va_runV (As := [.ref r, .int 0]) (rest := []) ⟨hx, hb, hml, hown, hts⟩ (c_X12_meanOf l G y h r 0 q1 q4 q5 q6 q7 q9 q10 q11 x f o_1 H.size h16 hg) (cwV 2 hts gX12_proposalOf_X12_meanOf rfl rfl rfl (by decide +kernel) ⟨Nat.le_of_ble_eq_true rfl, Nat.le_of_ble_eq_true rfl⟩) (PH_V (hP.sub (ws' := [kX12 h q1 q4 q5 q6 q7 q9 q10 q11 x, aI y r 154 f, aI y q11 20 o_1]) [0, 1, 2] rfl) hK hN (hD.sub (ws' := [kX12 h q1 q4 q5 q6 q7 q9 q10 q11 x, aI y r 154 f, aI y q11 20 o_1]) [0, 1, 2] (by decide) rfl) (ci := 10) (q0 := 0) rfl rfl) rfl rfl hl.1 rfl (lv_room (Nat.le_of_ble_eq_true rfl)) dX12_proposalOf_18 ⟨Nat.le_of_ble_eq_true rfl, Nat.le_of_ble_eq_true rfl⟩) hP hD hS hA rfl rfl rfl (by decide) rfl (fun _ => rfl) (fun u H locs hP hD hS => ?_)
  obtain ⟨o_2, rfl⟩ : ∃ zq9, zq9 = u := ⟨_, rfl⟩
  have hP : va_P G vwCl [kX12 h q1 q4 q5 q6 q7 q9 q10 q11 x, aI y r 154 f, aI y q11 20 o_2] H := hP
  have hD : va_D A [kX12 h q1 q4 q5 q6 q7 q9 q10 q11 x, aI y r 154 f, aI y q11 20 o_2] := hD
  refine lv_istore (lv' := [(5, .int (meanP f 0)), (4, .int ((127 * (f 4)) / (meanP f 1))), (0, .ref h), (1, .ref r), (2, .int a1), (3, .int a2)]) hx hb dX12_proposalOf_21 hl (by decide) rfl (fun ls hl => ?_)
  refine lv_iload_n hx hb dX12_proposalOf_23 rfl (lv_at hl 4 rfl) ?_
  have J73_5 : ∀ (v_4 : Int32) (e_v_4 : v_4 = (if a1 = 0 then (((127 * (f 4)) / (meanP f 1)) / 2) else (if a1 = 1 then ((((127 * (f 4)) / (meanP f 1)) * 45) / 100) else (if a1 = 2 then ((((127 * (f 4)) / (meanP f 1)) * 6) / 10) else ((((127 * (f 4)) / (meanP f 1)) * 2) / 10))))) (ls : Array Slot) (hl : lv_has ls 7 [(5, .int (meanP f 0)), (2, .int a1), (3, .int a2)]), W p l e (headSpec wsX12_proposalOf rmX12_proposalOf).room s m ([.ref h, .ref r, .int a1, .int a2] : List Value).toArray below meth c H locs 0 0 QQ (F0 m 73 ls [.int v_4]) := by
    intro v_4 e_v_4 ls hl
    refine lv_istore (lv' := [(6, .int v_4), (5, .int (meanP f 0)), (2, .int a1), (3, .int a2)]) hx hb dX12_proposalOf_73 hl (by decide) rfl (fun ls hl => ?_)
    refine lv_iload_n hx hb dX12_proposalOf_75 rfl (lv_at hl 3 rfl) ?_
    refine lv_if_ne (tgt := 85) hx hb dX12_proposalOf_76 (by decide) (fun c_6 => ?_) (fun c_6 => ?_)
    · refine lv_iload_n hx hb dX12_proposalOf_85 rfl (lv_at hl 3 rfl) ?_
      refine lv_iconst (v := 1) hx hb dX12_proposalOf_86 (by decide) ?_
      refine lv_icmp_ne (tgt := 128) hx hb dX12_proposalOf_87 (by decide) (fun c_7 => ?_) (fun c_7 => ?_)
      · refine lv_iload_n hx hb dX12_proposalOf_128 rfl (lv_at hl 2 rfl) ?_
        refine lv_iconst (v := 2) hx hb dX12_proposalOf_129 (by decide) ?_
        have J157_10 : ∀ (v_9 : Int32) (e_v_9 : v_9 = (if 2 ≤ a1 then (let v_10 : Int32 := (if a1 = 2 then 8 else 3); (s_X12_capped_r ((v_4 * (meanP f 0)) / v_10))) else 0)) (ls : Array Slot) (hl : lv_has ls 7 []), W p l e (headSpec wsX12_proposalOf rmX12_proposalOf).room s m ([.ref h, .ref r, .int a1, .int a2] : List Value).toArray below meth c H locs 0 0 QQ (F0 m 157 ls [.int v_9]) := by
          intro v_9 e_v_9 ls hl
          rw [hQQ]
          exact W.iret hx hb hr (end_Hi o_2 hP hD hS (by subst e_v_9; subst e_v_4; unfold s_X12_proposalOf_r; exact ((if_neg c_6).trans (if_neg c_7)).symm) (by subst e_v_9; subst e_v_4; exact rfl)) hS.2.2 dX12_proposalOf_157
        refine lv_icmp_ge (tgt := 137) hx hb dX12_proposalOf_130 (by decide) (fun c_8 => ?_) (fun c_8 => ?_)
        · refine lv_iload hx hb dX12_proposalOf_137 (lv_at hl 0 rfl) ?_
          refine lv_iload hx hb dX12_proposalOf_139 (lv_at hl 1 rfl) ?_
          refine lv_imul hx hb dX12_proposalOf_141 ?_
          refine lv_iload_n hx hb dX12_proposalOf_142 rfl (lv_at hl 2 rfl) ?_
          refine lv_iconst (v := 2) hx hb dX12_proposalOf_143 (by decide) ?_
          have J153_13 : ∀ (v_12 : Int32) (e_v_12 : v_12 = (if a1 = 2 then 8 else 3)) (ls : Array Slot) (hl : lv_has ls 7 []), W p l e (headSpec wsX12_proposalOf rmX12_proposalOf).room s m ([.ref h, .ref r, .int a1, .int a2] : List Value).toArray below meth c H locs 0 0 QQ (F0 m 153 ls [.int v_12, .int (v_4 * (meanP f 0))]) := by
            intro v_12 e_v_12 ls hl
            refine lv_idiv hx hb dX12_proposalOf_153 (by rw [e_v_12]; split <;> decide) ?_
            refine cl_Ri (va_runS (As := [.int ((v_4 * (meanP f 0)) / v_12)]) (rest := []) ⟨hx, hb, hml, hown, hts⟩ (c_X12_capped l G y ((v_4 * (meanP f 0)) / v_12)) (va_cwS 1 hts gX12_proposalOf_X12_capped rfl rfl rfl (by decide +kernel) ⟨Nat.le_of_ble_eq_true rfl, Nat.le_of_ble_eq_true rfl⟩) (PR_S pnil hK hN) rfl rfl hl.1 rfl (lv_room (Nat.le_of_ble_eq_true rfl)) dX12_proposalOf_154 ⟨Nat.le_of_ble_eq_true rfl, Nat.le_of_ble_eq_true rfl⟩) ?_
            subst e_v_12
            exact J157_10 _ (if_pos c_8).symm ls (lv_sub hl [] rfl)
          refine lv_icmp_ne (tgt := 152) hx hb dX12_proposalOf_144 (by decide) (fun c_11 => ?_) (fun c_11 => ?_)
          · refine lv_iconst (v := 3) hx hb dX12_proposalOf_152 (by decide) ?_
            exact J153_13 _ (if_neg c_11).symm ls (lv_sub hl [] rfl)
          · refine lv_bipush (v := 8) hx hb dX12_proposalOf_147 (by decide) ?_
            refine lv_goto (tgt := 153) hx hb dX12_proposalOf_149 (by decide) ?_
            exact J153_13 _ (if_pos c_11).symm ls (lv_sub hl [] rfl)
        · refine lv_iconst (v := 0) hx hb dX12_proposalOf_133 (by decide) ?_
          refine lv_goto (tgt := 157) hx hb dX12_proposalOf_134 (by decide) ?_
          exact J157_10 _ (if_neg c_8).symm ls (lv_sub hl [] rfl)
      · refine lv_iload_n hx hb dX12_proposalOf_90 rfl (lv_at hl 2 rfl) ?_
        have J127_16 : ∀ (v_15 : Int32) (e_v_15 : v_15 = (if a1 = 0 then 0 else (let v_16 : Int32 := (if a1 = 1 then ((v_4 * 12) / (10 * (meanP f 0))) else ((v_4 * 2) / (meanP f 0))); (s_X12_capped_r v_16)))) (ls : Array Slot) (hl : lv_has ls 7 []), W p l e (headSpec wsX12_proposalOf rmX12_proposalOf).room s m ([.ref h, .ref r, .int a1, .int a2] : List Value).toArray below meth c H locs 0 0 QQ (F0 m 127 ls [.int v_15]) := by
          intro v_15 e_v_15 ls hl
          rw [hQQ]
          exact W.iret hx hb hr (end_Hi o_2 hP hD hS (by subst e_v_15; subst e_v_4; unfold s_X12_proposalOf_r; exact ((if_neg c_6).trans (if_pos c_7)).symm) (by subst e_v_15; subst e_v_4; exact rfl)) hS.2.2 dX12_proposalOf_127
        refine lv_if_ne (tgt := 98) hx hb dX12_proposalOf_91 (by decide) (fun c_14 => ?_) (fun c_14 => ?_)
        · refine lv_iload_n hx hb dX12_proposalOf_98 rfl (lv_at hl 2 rfl) ?_
          refine lv_iconst (v := 1) hx hb dX12_proposalOf_99 (by decide) ?_
          have J124_19 : ∀ (v_18 : Int32) (e_v_18 : v_18 = (if a1 = 1 then ((v_4 * 12) / (10 * (meanP f 0))) else ((v_4 * 2) / (meanP f 0)))) (ls : Array Slot) (hl : lv_has ls 7 []), W p l e (headSpec wsX12_proposalOf rmX12_proposalOf).room s m ([.ref h, .ref r, .int a1, .int a2] : List Value).toArray below meth c H locs 0 0 QQ (F0 m 124 ls [.int v_18]) := by
            intro v_18 e_v_18 ls hl
            refine cl_Ri (va_runS (As := [.int v_18]) (rest := []) ⟨hx, hb, hml, hown, hts⟩ (c_X12_capped l G y v_18) (va_cwS 1 hts gX12_proposalOf_X12_capped rfl rfl rfl (by decide +kernel) ⟨Nat.le_of_ble_eq_true rfl, Nat.le_of_ble_eq_true rfl⟩) (PR_S pnil hK hN) rfl rfl hl.1 rfl (lv_room (Nat.le_of_ble_eq_true rfl)) dX12_proposalOf_124 ⟨Nat.le_of_ble_eq_true rfl, Nat.le_of_ble_eq_true rfl⟩) ?_
            subst e_v_18
            exact J127_16 _ (if_neg c_14).symm ls (lv_sub hl [] rfl)
          refine lv_icmp_ne (tgt := 117) hx hb dX12_proposalOf_100 (by decide) (fun c_17 => ?_) (fun c_17 => ?_)
          · refine lv_iload hx hb dX12_proposalOf_117 (lv_at hl 0 rfl) ?_
            refine lv_iconst (v := 2) hx hb dX12_proposalOf_119 (by decide) ?_
            refine lv_imul hx hb dX12_proposalOf_120 ?_
            refine lv_iload hx hb dX12_proposalOf_121 (lv_at hl 1 rfl) ?_
            refine lv_idiv hx hb dX12_proposalOf_123 (ne0_of_pos (meanG_pos _ _ _ _ _)) ?_
            exact J124_19 _ (if_neg c_17).symm ls (lv_sub hl [] rfl)
          · refine lv_iload hx hb dX12_proposalOf_103 (lv_at hl 0 rfl) ?_
            refine lv_bipush (v := 12) hx hb dX12_proposalOf_105 (by decide) ?_
            refine lv_imul hx hb dX12_proposalOf_107 ?_
            refine lv_bipush (v := 10) hx hb dX12_proposalOf_108 (by decide) ?_
            refine lv_iload hx hb dX12_proposalOf_110 (lv_at hl 1 rfl) ?_
            refine lv_imul hx hb dX12_proposalOf_112 ?_
            refine lv_idiv hx hb dX12_proposalOf_113 (ten_ne0 (meanG_pos _ _ _ _ _)) ?_
            refine lv_goto (tgt := 124) hx hb dX12_proposalOf_114 (by decide) ?_
            exact J124_19 _ (if_pos c_17).symm ls (lv_sub hl [] rfl)
        · refine lv_iconst (v := 0) hx hb dX12_proposalOf_94 (by decide) ?_
          refine lv_goto (tgt := 127) hx hb dX12_proposalOf_95 (by decide) ?_
          exact J127_16 _ (if_pos c_14).symm ls (lv_sub hl [] rfl)
    · refine lv_iload hx hb dX12_proposalOf_79 (lv_at hl 0 rfl) ?_
      refine cl_Ri (va_runS (As := [.int v_4]) (rest := []) ⟨hx, hb, hml, hown, hts⟩ (c_X12_capped l G y v_4) (va_cwS 1 hts gX12_proposalOf_X12_capped rfl rfl rfl (by decide +kernel) ⟨Nat.le_of_ble_eq_true rfl, Nat.le_of_ble_eq_true rfl⟩) (PR_S pnil hK hN) rfl rfl hl.1 rfl (lv_room (Nat.le_of_ble_eq_true rfl)) dX12_proposalOf_81 ⟨Nat.le_of_ble_eq_true rfl, Nat.le_of_ble_eq_true rfl⟩) ?_
      rw [hQQ]
      exact W.iret hx hb hr (end_Hi o_2 hP hD hS (by subst e_v_4; unfold s_X12_proposalOf_r; exact (if_pos c_6).symm) (by subst e_v_4; exact rfl)) hS.2.2 dX12_proposalOf_84
  refine lv_if_ne (tgt := 34) hx hb dX12_proposalOf_24 (by decide) (fun c_3 => ?_) (fun c_3 => ?_)
  · refine lv_iload_n hx hb dX12_proposalOf_34 rfl (lv_at hl 4 rfl) ?_
    refine lv_iconst (v := 1) hx hb dX12_proposalOf_35 (by decide) ?_
    refine lv_icmp_ne (tgt := 50) hx hb dX12_proposalOf_36 (by decide) (fun c_20 => ?_) (fun c_20 => ?_)
    · refine lv_iload_n hx hb dX12_proposalOf_50 rfl (lv_at hl 4 rfl) ?_
      refine lv_iconst (v := 2) hx hb dX12_proposalOf_51 (by decide) ?_
      refine lv_icmp_ne (tgt := 66) hx hb dX12_proposalOf_52 (by decide) (fun c_21 => ?_) (fun c_21 => ?_)
      · refine lv_iload hx hb dX12_proposalOf_66 (lv_at hl 1 rfl) ?_
        refine lv_iconst (v := 2) hx hb dX12_proposalOf_68 (by decide) ?_
        refine lv_imul hx hb dX12_proposalOf_69 ?_
        refine lv_bipush (v := 10) hx hb dX12_proposalOf_70 (by decide) ?_
        refine lv_idiv hx hb dX12_proposalOf_72 (by decide) ?_
        exact J73_5 _ ((if_neg c_3).trans ((if_neg c_20).trans (if_neg c_21))).symm ls (lv_sub hl [0, 4, 5] rfl)
      · refine lv_iload hx hb dX12_proposalOf_55 (lv_at hl 1 rfl) ?_
        refine lv_bipush (v := 6) hx hb dX12_proposalOf_57 (by decide) ?_
        refine lv_imul hx hb dX12_proposalOf_59 ?_
        refine lv_bipush (v := 10) hx hb dX12_proposalOf_60 (by decide) ?_
        refine lv_idiv hx hb dX12_proposalOf_62 (by decide) ?_
        refine lv_goto (tgt := 73) hx hb dX12_proposalOf_63 (by decide) ?_
        exact J73_5 _ ((if_neg c_3).trans ((if_neg c_20).trans (if_pos c_21))).symm ls (lv_sub hl [0, 4, 5] rfl)
    · refine lv_iload hx hb dX12_proposalOf_39 (lv_at hl 1 rfl) ?_
      refine lv_bipush (v := 45) hx hb dX12_proposalOf_41 (by decide) ?_
      refine lv_imul hx hb dX12_proposalOf_43 ?_
      refine lv_bipush (v := 100) hx hb dX12_proposalOf_44 (by decide) ?_
      refine lv_idiv hx hb dX12_proposalOf_46 (by decide) ?_
      refine lv_goto (tgt := 73) hx hb dX12_proposalOf_47 (by decide) ?_
      exact J73_5 _ ((if_neg c_3).trans (if_pos c_20)).symm ls (lv_sub hl [0, 4, 5] rfl)
  · refine lv_iload hx hb dX12_proposalOf_27 (lv_at hl 1 rfl) ?_
    refine lv_iconst (v := 2) hx hb dX12_proposalOf_29 (by decide) ?_
    refine lv_idiv hx hb dX12_proposalOf_30 (by decide) ?_
    refine lv_goto (tgt := 73) hx hb dX12_proposalOf_31 (by decide) ?_
    exact J73_5 _ (if_pos c_3).symm ls (lv_sub hl [0, 4, 5] rfl)

def s_X12_ruleOn_w1 (a1 : Int32) (f : Nat → Int32) : Nat → Int32 := (s_X12_modeOn_w0 2 (upd (upd (upd f 8 (s_X12_proposalOf_r a1 0 f)) 9 (s_X12_proposalOf_r a1 1 f)) 10 (s_X12_proposalOf_r a1 2 f)))
abbrev rmX12_ruleOn : Room := ({ frames := 5, cells := 0, slots := 0, locals := 121 } : Room)
set_option maxHeartbeats 4000000 in
set_option maxRecDepth 100000 in
theorem c_X12_ruleOn (l : Launch) (G : va_G) (y : Nat → ClassId) (h : Nat) (r : Nat) (a1 : Int32) (q1 : Nat) (q4 : Nat) (q5 : Nat) (q6 : Nat) (q7 : Nat) (q9 : Nat) (q10 : Nat) (q11 : Nat) (x : Nat → Int32) (f : Nat → Int32) (o : Nat → Int32) (sz : Nat) (h16 : vp_in (f 16) 21) (hg : ¬ goodP f = 0) : Met l yX12_ruleOn wsX12_ruleOn rmX12_ruleOn (PH G y [.ref h, .ref r, .int a1] [kX12 h q1 q4 q5 q6 q7 q9 q10 q11 x, aI y r 154 f, aI y q11 20 o] sz) (QHv G (fun u : (Nat → Int32) => [kX12 h q1 q4 q5 q6 q7 q9 q10 q11 x, aI y r 154 (s_X12_ruleOn_w1 a1 f), aI y q11 20 u]) (va_A [kX12 h q1 q4 q5 q6 q7 q9 q10 q11 x, aI y r 154 f, aI y q11 20 o] sz)) 0 0 (va_A [kX12 h q1 q4 q5 q6 q7 q9 q10 q11 x, aI y r 154 f, aI y q11 20 o] sz) := by
  refine Met.ofW (cc := cX12_ruleOn) (maxL := 6) (ret := none) (by decide) rfl ?_
  intro p e s m args below meth c s₁ B hml hv
  obtain ⟨rfl, hsz, hP, ⟨hK, hN⟩, hD0⟩ := hv
  have hx := B.exec
  have hb := B.bytes
  have hr := B.returns
  have hts := atoms_spec (ws := wsX12_ruleOn) B.pre
  have hown : s.vm.findClass RX12 = some m.cls := findClass_of_methodNamed B.named
  have hlocks := B.notSynchronized
  subst hsz
  have hD := hD0.self (sz := s.heap.size)
  generalize hAe : va_A [kX12 h q1 q4 q5 q6 q7 q9 q10 q11 x, aI y r 154 f, aI y q11 20 o] s.heap.size = A at hD ⊢
  have hA : ∀ q : Nat, s.heap.size ≤ q → A q := fun q h => by rw [← hAe]; exact Or.inr h
  have hS : va_S A s.heap s.heap [] := va_S.rf
  have hP : va_P G vwCl [kX12 h q1 q4 q5 q6 q7 q9 q10 q11 x, aI y r 154 f, aI y q11 20 o] s.heap := hP
  have hl := lv_entry ([.ref h, .ref r, .int a1]) (n := 6) (Nat.le_of_ble_eq_true rfl)
  rw [lg_entry_eq]
  generalize (lg_sl ([.ref h, .ref r, .int a1]) ++ List.replicate (6 - (lg_sl ([.ref h, .ref r, .int a1])).length) Slot.unset).toArray = ls at hl ⊢
  have hl : lv_has ls 6 [(0, .ref h), (1, .ref r), (2, .int a1)] := hl
  refine lv_aload_n hx hb dX12_ruleOn_0 rfl (lv_at hl 0 rfl) ?_
  refine lv_aload_n hx hb dX12_ruleOn_1 rfl (lv_at hl 1 rfl) ?_
  refine lv_iload_n hx hb dX12_ruleOn_2 rfl (lv_at hl 2 rfl) ?_
  refine lv_iconst (v := 0) hx hb dX12_ruleOn_3 (by decide) ?_
  refine cl_Hi (wr := []) (fun u : (Nat → Int32) => [kX12 h q1 q4 q5 q6 q7 q9 q10 q11 x, aI y r 154 f, aI y q11 20 u]) [0, 1, 2] [] [0, 1, 2] (va_runV (As := [.ref r, .int a1, .int 0]) (rest := []) ⟨hx, hb, hml, hown, hts⟩ (c_X12_proposalOf l G y h r a1 0 q1 q4 q5 q6 q7 q9 q10 q11 x f o s.heap.size h16 hg) (cwV 3 hts gX12_ruleOn_X12_proposalOf rfl rfl rfl (by decide +kernel) ⟨Nat.le_of_ble_eq_true rfl, Nat.le_of_ble_eq_true rfl⟩) (PH_V (hP.sub (ws' := [kX12 h q1 q4 q5 q6 q7 q9 q10 q11 x, aI y r 154 f, aI y q11 20 o]) [0, 1, 2] rfl) hK hN (hD.sub (ws' := [kX12 h q1 q4 q5 q6 q7 q9 q10 q11 x, aI y r 154 f, aI y q11 20 o]) [0, 1, 2] (by decide) rfl) (ci := 10) (q0 := 0) rfl rfl) rfl rfl hl.1 rfl (lv_room (Nat.le_of_ble_eq_true rfl)) dX12_ruleOn_4 ⟨Nat.le_of_ble_eq_true rfl, Nat.le_of_ble_eq_true rfl⟩) hP hD hS hA rfl rfl rfl (by decide) rfl (fun _ => rfl) (fun u H locs hP hD hS => ?_)
  obtain ⟨o_1, rfl⟩ : ∃ zq9, zq9 = u := ⟨_, rfl⟩
  have hP : va_P G vwCl [kX12 h q1 q4 q5 q6 q7 q9 q10 q11 x, aI y r 154 f, aI y q11 20 o_1] H := hP
  have hD : va_D A [kX12 h q1 q4 q5 q6 q7 q9 q10 q11 x, aI y r 154 f, aI y q11 20 o_1] := hD
  refine lv_istore_n (lv' := [(3, .int (s_X12_proposalOf_r a1 0 f)), (0, .ref h), (1, .ref r), (2, .int a1)]) hx hb dX12_ruleOn_7 rfl hl (by decide) rfl (fun ls hl => ?_)
  refine lv_aload_n hx hb dX12_ruleOn_8 rfl (lv_at hl 1 rfl) ?_
  refine lv_aload_n hx hb dX12_ruleOn_9 rfl (lv_at hl 2 rfl) ?_
  refine lv_iload_n hx hb dX12_ruleOn_10 rfl (lv_at hl 3 rfl) ?_
  refine lv_iconst (v := 1) hx hb dX12_ruleOn_11 (by decide) ?_
  refine cl_Hi (wr := []) (fun u : (Nat → Int32) => [kX12 h q1 q4 q5 q6 q7 q9 q10 q11 x, aI y r 154 f, aI y q11 20 u]) [0, 1, 2] [] [0, 1, 2] (va_runV (As := [.ref r, .int a1, .int 1]) (rest := []) ⟨hx, hb, hml, hown, hts⟩ (c_X12_proposalOf l G y h r a1 1 q1 q4 q5 q6 q7 q9 q10 q11 x f o_1 H.size h16 hg) (cwV 3 hts gX12_ruleOn_X12_proposalOf rfl rfl rfl (by decide +kernel) ⟨Nat.le_of_ble_eq_true rfl, Nat.le_of_ble_eq_true rfl⟩) (PH_V (hP.sub (ws' := [kX12 h q1 q4 q5 q6 q7 q9 q10 q11 x, aI y r 154 f, aI y q11 20 o_1]) [0, 1, 2] rfl) hK hN (hD.sub (ws' := [kX12 h q1 q4 q5 q6 q7 q9 q10 q11 x, aI y r 154 f, aI y q11 20 o_1]) [0, 1, 2] (by decide) rfl) (ci := 10) (q0 := 0) rfl rfl) rfl rfl hl.1 rfl (lv_room (Nat.le_of_ble_eq_true rfl)) dX12_ruleOn_12 ⟨Nat.le_of_ble_eq_true rfl, Nat.le_of_ble_eq_true rfl⟩) hP hD hS hA rfl rfl rfl (by decide) rfl (fun _ => rfl) (fun u H locs hP hD hS => ?_)
  obtain ⟨o_2, rfl⟩ : ∃ zq9, zq9 = u := ⟨_, rfl⟩
  have hP : va_P G vwCl [kX12 h q1 q4 q5 q6 q7 q9 q10 q11 x, aI y r 154 f, aI y q11 20 o_2] H := hP
  have hD : va_D A [kX12 h q1 q4 q5 q6 q7 q9 q10 q11 x, aI y r 154 f, aI y q11 20 o_2] := hD
  refine lv_istore (lv' := [(4, .int (s_X12_proposalOf_r a1 1 f)), (3, .int (s_X12_proposalOf_r a1 0 f)), (0, .ref h), (1, .ref r), (2, .int a1)]) hx hb dX12_ruleOn_15 hl (by decide) rfl (fun ls hl => ?_)
  refine lv_aload_n hx hb dX12_ruleOn_17 rfl (lv_at hl 2 rfl) ?_
  refine lv_aload_n hx hb dX12_ruleOn_18 rfl (lv_at hl 3 rfl) ?_
  refine lv_iload_n hx hb dX12_ruleOn_19 rfl (lv_at hl 4 rfl) ?_
  refine lv_iconst (v := 2) hx hb dX12_ruleOn_20 (by decide) ?_
  refine cl_Hi (wr := []) (fun u : (Nat → Int32) => [kX12 h q1 q4 q5 q6 q7 q9 q10 q11 x, aI y r 154 f, aI y q11 20 u]) [0, 1, 2] [] [0, 1, 2] (va_runV (As := [.ref r, .int a1, .int 2]) (rest := []) ⟨hx, hb, hml, hown, hts⟩ (c_X12_proposalOf l G y h r a1 2 q1 q4 q5 q6 q7 q9 q10 q11 x f o_2 H.size h16 hg) (cwV 3 hts gX12_ruleOn_X12_proposalOf rfl rfl rfl (by decide +kernel) ⟨Nat.le_of_ble_eq_true rfl, Nat.le_of_ble_eq_true rfl⟩) (PH_V (hP.sub (ws' := [kX12 h q1 q4 q5 q6 q7 q9 q10 q11 x, aI y r 154 f, aI y q11 20 o_2]) [0, 1, 2] rfl) hK hN (hD.sub (ws' := [kX12 h q1 q4 q5 q6 q7 q9 q10 q11 x, aI y r 154 f, aI y q11 20 o_2]) [0, 1, 2] (by decide) rfl) (ci := 10) (q0 := 0) rfl rfl) rfl rfl hl.1 rfl (lv_room (Nat.le_of_ble_eq_true rfl)) dX12_ruleOn_21 ⟨Nat.le_of_ble_eq_true rfl, Nat.le_of_ble_eq_true rfl⟩) hP hD hS hA rfl rfl rfl (by decide) rfl (fun _ => rfl) (fun u H locs hP hD hS => ?_)
  obtain ⟨o_3, rfl⟩ : ∃ zq9, zq9 = u := ⟨_, rfl⟩
  have hP : va_P G vwCl [kX12 h q1 q4 q5 q6 q7 q9 q10 q11 x, aI y r 154 f, aI y q11 20 o_3] H := hP
  have hD : va_D A [kX12 h q1 q4 q5 q6 q7 q9 q10 q11 x, aI y r 154 f, aI y q11 20 o_3] := hD
  refine lv_istore (lv' := [(5, .int (s_X12_proposalOf_r a1 2 f)), (4, .int (s_X12_proposalOf_r a1 1 f)), (3, .int (s_X12_proposalOf_r a1 0 f)), (0, .ref h), (1, .ref r), (2, .int a1)]) hx hb dX12_ruleOn_24 hl (by decide) rfl (fun ls hl => ?_)
  refine lv_aload_n hx hb dX12_ruleOn_26 rfl (lv_at hl 4 rfl) ?_
  refine lv_bipush (v := 8) hx hb dX12_ruleOn_27 (by decide) ?_
  refine lv_iload_n hx hb dX12_ruleOn_29 rfl (lv_at hl 2 rfl) ?_
  refine as_i (D := G) (n := 154) (f := f) hx hb hK hP hD hS 1 0 rfl rfl 8 rfl (by decide) (by first | decide | omega) dX12_ruleOn_30 (fun H locs hP hD hS => ?_)
  have hP : va_P G vwCl [kX12 h q1 q4 q5 q6 q7 q9 q10 q11 x, aI y r 154 (upd f 8 (s_X12_proposalOf_r a1 0 f)), aI y q11 20 o_3] H := hP
  have hD : va_D A [kX12 h q1 q4 q5 q6 q7 q9 q10 q11 x, aI y r 154 (upd f 8 (s_X12_proposalOf_r a1 0 f)), aI y q11 20 o_3] := hD
  refine lv_aload_n hx hb dX12_ruleOn_31 rfl (lv_at hl 4 rfl) ?_
  refine lv_bipush (v := 9) hx hb dX12_ruleOn_32 (by decide) ?_
  refine lv_iload hx hb dX12_ruleOn_34 (lv_at hl 1 rfl) ?_
  refine as_i (D := G) (n := 154) (f := (upd f 8 (s_X12_proposalOf_r a1 0 f))) hx hb hK hP hD hS 1 0 rfl rfl 9 rfl (by decide) (by first | decide | omega) dX12_ruleOn_36 (fun H locs hP hD hS => ?_)
  have hP : va_P G vwCl [kX12 h q1 q4 q5 q6 q7 q9 q10 q11 x, aI y r 154 (upd (upd f 8 (s_X12_proposalOf_r a1 0 f)) 9 (s_X12_proposalOf_r a1 1 f)), aI y q11 20 o_3] H := hP
  have hD : va_D A [kX12 h q1 q4 q5 q6 q7 q9 q10 q11 x, aI y r 154 (upd (upd f 8 (s_X12_proposalOf_r a1 0 f)) 9 (s_X12_proposalOf_r a1 1 f)), aI y q11 20 o_3] := hD
  refine lv_aload_n hx hb dX12_ruleOn_37 rfl (lv_at hl 4 rfl) ?_
  refine lv_bipush (v := 10) hx hb dX12_ruleOn_38 (by decide) ?_
  refine lv_iload hx hb dX12_ruleOn_40 (lv_at hl 0 rfl) ?_
  refine as_i (D := G) (n := 154) (f := (upd (upd f 8 (s_X12_proposalOf_r a1 0 f)) 9 (s_X12_proposalOf_r a1 1 f))) hx hb hK hP hD hS 1 0 rfl rfl 10 rfl (by decide) (by first | decide | omega) dX12_ruleOn_42 (fun H locs hP hD hS => ?_)
  have hP : va_P G vwCl [kX12 h q1 q4 q5 q6 q7 q9 q10 q11 x, aI y r 154 (upd (upd (upd f 8 (s_X12_proposalOf_r a1 0 f)) 9 (s_X12_proposalOf_r a1 1 f)) 10 (s_X12_proposalOf_r a1 2 f)), aI y q11 20 o_3] H := hP
  have hD : va_D A [kX12 h q1 q4 q5 q6 q7 q9 q10 q11 x, aI y r 154 (upd (upd (upd f 8 (s_X12_proposalOf_r a1 0 f)) 9 (s_X12_proposalOf_r a1 1 f)) 10 (s_X12_proposalOf_r a1 2 f)), aI y q11 20 o_3] := hD
  refine lv_aload_n hx hb dX12_ruleOn_43 rfl (lv_at hl 4 rfl) ?_
  refine lv_iconst (v := 2) hx hb dX12_ruleOn_44 (by decide) ?_
  refine cl_Hv (wr := [kX12 h q1 q4 q5 q6 q7 q9 q10 q11 x, aI y q11 20 o_3]) (fun _ : Unit => [kX12 h q1 q4 q5 q6 q7 q9 q10 q11 x, aI y r 154 (s_X12_modeOn_w0 2 (upd (upd (upd f 8 (s_X12_proposalOf_r a1 0 f)) 9 (s_X12_proposalOf_r a1 1 f)) 10 (s_X12_proposalOf_r a1 2 f))), aI y q11 20 o_3]) [1] [0, 2] [0, 2, 1] (va_runS (As := [.ref r, .int 2]) (rest := []) ⟨hx, hb, hml, hown, hts⟩ (c_X12_modeOn l G y r 2 (upd (upd (upd f 8 (s_X12_proposalOf_r a1 0 f)) 9 (s_X12_proposalOf_r a1 1 f)) 10 (s_X12_proposalOf_r a1 2 f)) H.size) (va_cwS 2 hts gX12_ruleOn_X12_modeOn rfl rfl rfl (by decide +kernel) ⟨Nat.le_of_ble_eq_true rfl, Nat.le_of_ble_eq_true rfl⟩) (PH_S (hP.sub (ws' := [aI y r 154 (upd (upd (upd f 8 (s_X12_proposalOf_r a1 0 f)) 9 (s_X12_proposalOf_r a1 1 f)) 10 (s_X12_proposalOf_r a1 2 f))]) [1] rfl) hK hN (hD.sub (ws' := [aI y r 154 (upd (upd (upd f 8 (s_X12_proposalOf_r a1 0 f)) 9 (s_X12_proposalOf_r a1 1 f)) 10 (s_X12_proposalOf_r a1 2 f))]) [1] (by decide) rfl)) rfl rfl hl.1 rfl (lv_room (Nat.le_of_ble_eq_true rfl)) dX12_ruleOn_45 ⟨Nat.le_of_ble_eq_true rfl, Nat.le_of_ble_eq_true rfl⟩) hP hD hS hA rfl rfl rfl (by decide) rfl (fun _ => rfl) (fun _ H locs hP hD hS => ?_)
  have hP : va_P G vwCl [kX12 h q1 q4 q5 q6 q7 q9 q10 q11 x, aI y r 154 (s_X12_modeOn_w0 2 (upd (upd (upd f 8 (s_X12_proposalOf_r a1 0 f)) 9 (s_X12_proposalOf_r a1 1 f)) 10 (s_X12_proposalOf_r a1 2 f))), aI y q11 20 o_3] H := hP
  have hD : va_D A [kX12 h q1 q4 q5 q6 q7 q9 q10 q11 x, aI y r 154 (s_X12_modeOn_w0 2 (upd (upd (upd f 8 (s_X12_proposalOf_r a1 0 f)) 9 (s_X12_proposalOf_r a1 1 f)) 10 (s_X12_proposalOf_r a1 2 f))), aI y q11 20 o_3] := hD
  exact W.vret hx hb hr (end_Hv o_3 hP hD hS rfl) hS.2.2 dX12_ruleOn_48

def s_X12_canTry_r (f : Nat → Int32) : Int32 := (let v_2 : Int32 := (if 8 ≤ (f 17) then 0 else (if (nI (goodP f)) ≤ 0 then 0 else 1)); v_2)
theorem z_X12_canTry (f : Nat → Int32) : s_X12_canTry_r f = 0 ∨ s_X12_canTry_r f = 1 := by unfold s_X12_canTry_r; (try dsimp only); exact (z_ite (Or.inl rfl) (z_ite (Or.inl rfl) (Or.inr rfl)))
abbrev rmX12_canTry : Room := ({ frames := 4, cells := 0, slots := 0, locals := 93 } : Room)
set_option maxHeartbeats 4000000 in
set_option maxRecDepth 100000 in
theorem c_X12_canTry (l : Launch) (G : va_G) (y : Nat → ClassId) (h : Nat) (r : Nat) (q1 : Nat) (q4 : Nat) (q5 : Nat) (q6 : Nat) (q7 : Nat) (q9 : Nat) (q10 : Nat) (q11 : Nat) (x : Nat → Int32) (f : Nat → Int32) (o : Nat → Int32) (sz : Nat) (h16 : vp_in (f 16) 21) : Met l yX12_canTry wsX12_canTry rmX12_canTry (PH G y [.ref h, .ref r] [kX12 h q1 q4 q5 q6 q7 q9 q10 q11 x, aI y r 154 f, aI y q11 20 o] sz) (QHi G (s_X12_canTry_r f) (fun u : (Nat → Int32) => [kX12 h q1 q4 q5 q6 q7 q9 q10 q11 x, aI y r 154 f, aI y q11 20 u]) (va_A [kX12 h q1 q4 q5 q6 q7 q9 q10 q11 x, aI y r 154 f, aI y q11 20 o] sz)) 0 0 (va_A [kX12 h q1 q4 q5 q6 q7 q9 q10 q11 x, aI y r 154 f, aI y q11 20 o] sz) := by
  refine Met.ofW (cc := cX12_canTry) (maxL := 2) (ret := (some .boolean)) (by decide) rfl ?_
  intro p e s m args below meth c s₁ B hml hv
  obtain ⟨rfl, hsz, hP, ⟨hK, hN⟩, hD0⟩ := hv
  have hx := B.exec
  have hb := B.bytes
  have hr := B.returns
  have hts := atoms_spec (ws := wsX12_canTry) B.pre
  have hown : s.vm.findClass RX12 = some m.cls := findClass_of_methodNamed B.named
  have hlocks := B.notSynchronized
  subst hsz
  have hD := hD0.self (sz := s.heap.size)
  generalize hAe : va_A [kX12 h q1 q4 q5 q6 q7 q9 q10 q11 x, aI y r 154 f, aI y q11 20 o] s.heap.size = A at hD ⊢
  have hA : ∀ q : Nat, s.heap.size ≤ q → A q := fun q h => by rw [← hAe]; exact Or.inr h
  have hS : va_S A s.heap s.heap [] := va_S.rf
  have hP : va_P G vwCl [kX12 h q1 q4 q5 q6 q7 q9 q10 q11 x, aI y r 154 f, aI y q11 20 o] s.heap := hP
  have hl := lv_entry ([.ref h, .ref r]) (n := 2) (Nat.le_of_ble_eq_true rfl)
  rw [lg_entry_eq]
  generalize (lg_sl ([.ref h, .ref r]) ++ List.replicate (2 - (lg_sl ([.ref h, .ref r])).length) Slot.unset).toArray = ls at hl ⊢
  have hl : lv_has ls 2 [(0, .ref h), (1, .ref r)] := hl
  obtain ⟨QQ, hQQ⟩ : ∃ zq9, zq9 = MQ below (QHi G (s_X12_canTry_r f) (fun u : (Nat → Int32) => [kX12 h q1 q4 q5 q6 q7 q9 q10 q11 x, aI y r 154 f, aI y q11 20 u]) A) ([.ref h, .ref r] : List Value).toArray s 0 0 A := ⟨_, rfl⟩
  rw [← hQQ]
  refine lv_aload_n hx hb dX12_canTry_0 rfl (lv_at hl 1 rfl) ?_
  refine lv_bipush (v := 17) hx hb dX12_canTry_1 (by decide) ?_
  refine al_i (D := G) (n := 154) (f := f) hx hb hK hP 1 0 rfl rfl 17 rfl (by decide) (by first | decide | omega) dX12_canTry_3 ?_
  refine lv_bipush (v := 8) hx hb dX12_canTry_4 (by decide) ?_
  have J22_5 : ∀ (o_3 : Nat → Int32) (v_2 : Int32) (e_v_2 : v_2 = (if 8 ≤ (f 17) then 0 else (if (nI (goodP f)) ≤ 0 then 0 else 1))) (z_4 : v_2 = 0 ∨ v_2 = 1) (H : Heap) (locs : List Loc) (hP : va_P G vwCl [kX12 h q1 q4 q5 q6 q7 q9 q10 q11 x, aI y r 154 f, aI y q11 20 o_3] H) (hD : va_D A [kX12 h q1 q4 q5 q6 q7 q9 q10 q11 x, aI y r 154 f, aI y q11 20 o_3]) (hS : va_S A s.heap H locs) (ls : Array Slot) (hl : lv_has ls 2 []), W p l e (headSpec wsX12_canTry rmX12_canTry).room s m ([.ref h, .ref r] : List Value).toArray below meth c H locs 0 0 QQ (F0 m 22 ls [.int v_2]) := by
    intro o_3 v_2 e_v_2 z_4 H locs hP hD hS ls hl
    rw [hQQ]
    exact W.zret hx hb hr (nz_bool z_4) (end_Hi o_3 hP hD hS (by subst e_v_2; unfold s_X12_canTry_r; exact rfl) (by subst e_v_2; exact rfl)) hS.2.2 dX12_canTry_22
  refine lv_icmp_ge (tgt := 21) hx hb dX12_canTry_6 (by decide) (fun c_1 => ?_) (fun c_1 => ?_)
  · refine lv_iconst (v := 0) hx hb dX12_canTry_21 (by decide) ?_
    exact J22_5 _ _ (if_pos c_1).symm (Or.inl rfl) s.heap [] hP hD hS ls (lv_sub hl [] rfl)
  · refine lv_aload_n hx hb dX12_canTry_9 rfl (lv_at hl 0 rfl) ?_
    refine lv_aload_n hx hb dX12_canTry_10 rfl (lv_at hl 1 rfl) ?_
    refine cl_Hi (wr := []) (fun u : (Nat → Int32) => [kX12 h q1 q4 q5 q6 q7 q9 q10 q11 x, aI y r 154 f, aI y q11 20 u]) [0, 1, 2] [] [0, 1, 2] (va_runV (As := [.ref r]) (rest := []) ⟨hx, hb, hml, hown, hts⟩ (c_X12_goodOf l G y h r q1 q4 q5 q6 q7 q9 q10 q11 x f o s.heap.size h16) (cwV 1 hts gX12_canTry_X12_goodOf rfl rfl rfl (by decide +kernel) ⟨Nat.le_of_ble_eq_true rfl, Nat.le_of_ble_eq_true rfl⟩) (PH_V (hP.sub (ws' := [kX12 h q1 q4 q5 q6 q7 q9 q10 q11 x, aI y r 154 f, aI y q11 20 o]) [0, 1, 2] rfl) hK hN (hD.sub (ws' := [kX12 h q1 q4 q5 q6 q7 q9 q10 q11 x, aI y r 154 f, aI y q11 20 o]) [0, 1, 2] (by decide) rfl) (ci := 10) (q0 := 0) rfl rfl) rfl rfl hl.1 rfl (lv_room (Nat.le_of_ble_eq_true rfl)) dX12_canTry_11 ⟨Nat.le_of_ble_eq_true rfl, Nat.le_of_ble_eq_true rfl⟩) hP hD hS hA rfl rfl rfl (by decide) rfl (fun _ => rfl) (fun u H locs hP hD hS => ?_)
    obtain ⟨o_6, rfl⟩ : ∃ zq9, zq9 = u := ⟨_, rfl⟩
    have hP : va_P G vwCl [kX12 h q1 q4 q5 q6 q7 q9 q10 q11 x, aI y r 154 f, aI y q11 20 o_6] H := hP
    have hD : va_D A [kX12 h q1 q4 q5 q6 q7 q9 q10 q11 x, aI y r 154 f, aI y q11 20 o_6] := hD
    refine lv_if_le (tgt := 21) hx hb dX12_canTry_14 (by decide) (fun c_7 => ?_) (fun c_7 => ?_)
    · refine lv_iconst (v := 0) hx hb dX12_canTry_21 (by decide) ?_
      exact J22_5 _ _ ((if_neg c_1).trans (if_pos c_7)).symm (Or.inl rfl) H locs hP hD hS ls (lv_sub hl [] rfl)
    · refine lv_iconst (v := 1) hx hb dX12_canTry_17 (by decide) ?_
      refine lv_goto (tgt := 22) hx hb dX12_canTry_18 (by decide) ?_
      exact J22_5 _ _ ((if_neg c_1).trans (if_neg c_7)).symm (Or.inr rfl) H locs hP hD hS ls (lv_sub hl [] rfl)

def s_X12_tryOn_w1 (a1 : Int32) (f : Nat → Int32) : Nat → Int32 := (s_X12_ruleOn_w1 a1 (upd (upd (upd (upd (upd f (122 + 4 * tn (f 17)) (f 8)) (122 + 4 * tn (f 17) + 1) (f 9)) (122 + 4 * tn (f 17) + 2) (f 10)) (122 + 4 * tn (f 17) + 3) (f 11)) 17 ((f 17) + 1)))
abbrev rmX12_tryOn : Room := ({ frames := 6, cells := 0, slots := 0, locals := 146 } : Room)
set_option maxHeartbeats 4000000 in
set_option maxRecDepth 100000 in
theorem c_X12_tryOn (l : Launch) (G : va_G) (y : Nat → ClassId) (h : Nat) (r : Nat) (a1 : Int32) (q1 : Nat) (q4 : Nat) (q5 : Nat) (q6 : Nat) (q7 : Nat) (q9 : Nat) (q10 : Nat) (q11 : Nat) (x : Nat → Int32) (f : Nat → Int32) (o : Nat → Int32) (sz : Nat) (h16 : vp_in (f 16) 21) (h17 : vp_in (f 17) 8) (hg : ¬ goodP f = 0) : Met l yX12_tryOn wsX12_tryOn rmX12_tryOn (PH G y [.ref h, .ref r, .int a1] [kX12 h q1 q4 q5 q6 q7 q9 q10 q11 x, aI y r 154 f, aI y q11 20 o] sz) (QHv G (fun u : (Nat → Int32) => [kX12 h q1 q4 q5 q6 q7 q9 q10 q11 x, aI y r 154 (s_X12_tryOn_w1 a1 f), aI y q11 20 u]) (va_A [kX12 h q1 q4 q5 q6 q7 q9 q10 q11 x, aI y r 154 f, aI y q11 20 o] sz)) 0 0 (va_A [kX12 h q1 q4 q5 q6 q7 q9 q10 q11 x, aI y r 154 f, aI y q11 20 o] sz) := by
  refine Met.ofW (cc := cX12_tryOn) (maxL := 4) (ret := none) (by decide) rfl ?_
  intro p e s m args below meth c s₁ B hml hv
  obtain ⟨rfl, hsz, hP, ⟨hK, hN⟩, hD0⟩ := hv
  have hx := B.exec
  have hb := B.bytes
  have hr := B.returns
  have hts := atoms_spec (ws := wsX12_tryOn) B.pre
  have hown : s.vm.findClass RX12 = some m.cls := findClass_of_methodNamed B.named
  have hlocks := B.notSynchronized
  subst hsz
  have hD := hD0.self (sz := s.heap.size)
  generalize hAe : va_A [kX12 h q1 q4 q5 q6 q7 q9 q10 q11 x, aI y r 154 f, aI y q11 20 o] s.heap.size = A at hD ⊢
  have hA : ∀ q : Nat, s.heap.size ≤ q → A q := fun q h => by rw [← hAe]; exact Or.inr h
  have hS : va_S A s.heap s.heap [] := va_S.rf
  have hP : va_P G vwCl [kX12 h q1 q4 q5 q6 q7 q9 q10 q11 x, aI y r 154 f, aI y q11 20 o] s.heap := hP
  obtain ⟨hn1, hn2⟩ := in_tn h17 (by decide)
  have hn2 : tn (f 17) < 8 := hn2
  have hl := lv_entry ([.ref h, .ref r, .int a1]) (n := 4) (Nat.le_of_ble_eq_true rfl)
  rw [lg_entry_eq]
  generalize (lg_sl ([.ref h, .ref r, .int a1]) ++ List.replicate (4 - (lg_sl ([.ref h, .ref r, .int a1])).length) Slot.unset).toArray = ls at hl ⊢
  have hl : lv_has ls 4 [(0, .ref h), (1, .ref r), (2, .int a1)] := hl
  refine lv_bipush (v := 122) hx hb dX12_tryOn_0 (by decide) ?_
  refine lv_iconst (v := 4) hx hb dX12_tryOn_2 (by decide) ?_
  refine lv_aload_n hx hb dX12_tryOn_3 rfl (lv_at hl 1 rfl) ?_
  refine lv_bipush (v := 17) hx hb dX12_tryOn_4 (by decide) ?_
  refine al_i (D := G) (n := 154) (f := f) hx hb hK hP 1 0 rfl rfl 17 rfl (by decide) (by first | decide | omega) dX12_tryOn_6 ?_
  refine lv_imul hx hb dX12_tryOn_7 ?_
  refine lv_iadd hx hb dX12_tryOn_8 ?_
  refine lv_istore_n (lv' := [(3, .int (122 + (4 * (f 17)))), (0, .ref h), (1, .ref r), (2, .int a1)]) hx hb dX12_tryOn_9 rfl hl (by decide) rfl (fun ls hl => ?_)
  refine lv_aload_n hx hb dX12_tryOn_10 rfl (lv_at hl 2 rfl) ?_
  refine lv_iload_n hx hb dX12_tryOn_11 rfl (lv_at hl 0 rfl) ?_
  refine lv_aload_n hx hb dX12_tryOn_12 rfl (lv_at hl 2 rfl) ?_
  refine lv_bipush (v := 8) hx hb dX12_tryOn_13 (by decide) ?_
  refine al_i (D := G) (n := 154) (f := f) hx hb hK hP 1 0 rfl rfl 8 rfl (by decide) (by first | decide | omega) dX12_tryOn_15 ?_
  refine as_i (D := G) (n := 154) (f := f) hx hb hK hP hD hS 1 0 rfl rfl (122 + 4 * tn (f 17)) (tr_ix0 _ hn1) (by omega) (by first | decide | omega) dX12_tryOn_16 (fun H locs hP hD hS => ?_)
  have hP : va_P G vwCl [kX12 h q1 q4 q5 q6 q7 q9 q10 q11 x, aI y r 154 (upd f (122 + 4 * tn (f 17)) (f 8)), aI y q11 20 o] H := hP
  have hD : va_D A [kX12 h q1 q4 q5 q6 q7 q9 q10 q11 x, aI y r 154 (upd f (122 + 4 * tn (f 17)) (f 8)), aI y q11 20 o] := hD
  refine lv_aload_n hx hb dX12_tryOn_17 rfl (lv_at hl 2 rfl) ?_
  refine lv_iload_n hx hb dX12_tryOn_18 rfl (lv_at hl 0 rfl) ?_
  refine lv_iconst (v := 1) hx hb dX12_tryOn_19 (by decide) ?_
  refine lv_iadd hx hb dX12_tryOn_20 ?_
  refine lv_aload_n hx hb dX12_tryOn_21 rfl (lv_at hl 2 rfl) ?_
  refine lv_bipush (v := 9) hx hb dX12_tryOn_22 (by decide) ?_
  refine al_i (D := G) (n := 154) (f := (upd f (122 + 4 * tn (f 17)) (f 8))) hx hb hK hP 1 0 rfl rfl 9 rfl (by decide) (by first | decide | omega) dX12_tryOn_24 ?_
  refine rw_i (x' := (f 9)) (upd_ne (by omega)) ?_
  refine as_i (D := G) (n := 154) (f := (upd f (122 + 4 * tn (f 17)) (f 8))) hx hb hK hP hD hS 1 0 rfl rfl (122 + 4 * tn (f 17) + 1) (tr_ix 1 _ hn1) (by omega) (by first | decide | omega) dX12_tryOn_25 (fun H locs hP hD hS => ?_)
  have hP : va_P G vwCl [kX12 h q1 q4 q5 q6 q7 q9 q10 q11 x, aI y r 154 (upd (upd f (122 + 4 * tn (f 17)) (f 8)) (122 + 4 * tn (f 17) + 1) (f 9)), aI y q11 20 o] H := hP
  have hD : va_D A [kX12 h q1 q4 q5 q6 q7 q9 q10 q11 x, aI y r 154 (upd (upd f (122 + 4 * tn (f 17)) (f 8)) (122 + 4 * tn (f 17) + 1) (f 9)), aI y q11 20 o] := hD
  refine lv_aload_n hx hb dX12_tryOn_26 rfl (lv_at hl 2 rfl) ?_
  refine lv_iload_n hx hb dX12_tryOn_27 rfl (lv_at hl 0 rfl) ?_
  refine lv_iconst (v := 2) hx hb dX12_tryOn_28 (by decide) ?_
  refine lv_iadd hx hb dX12_tryOn_29 ?_
  refine lv_aload_n hx hb dX12_tryOn_30 rfl (lv_at hl 2 rfl) ?_
  refine lv_bipush (v := 10) hx hb dX12_tryOn_31 (by decide) ?_
  refine al_i (D := G) (n := 154) (f := (upd (upd f (122 + 4 * tn (f 17)) (f 8)) (122 + 4 * tn (f 17) + 1) (f 9))) hx hb hK hP 1 0 rfl rfl 10 rfl (by decide) (by first | decide | omega) dX12_tryOn_33 ?_
  refine rw_i (x' := (f 10)) ((upd_ne (by omega)).trans (upd_ne (by omega))) ?_
  refine as_i (D := G) (n := 154) (f := (upd (upd f (122 + 4 * tn (f 17)) (f 8)) (122 + 4 * tn (f 17) + 1) (f 9))) hx hb hK hP hD hS 1 0 rfl rfl (122 + 4 * tn (f 17) + 2) (tr_ix 2 _ hn1) (by omega) (by first | decide | omega) dX12_tryOn_34 (fun H locs hP hD hS => ?_)
  have hP : va_P G vwCl [kX12 h q1 q4 q5 q6 q7 q9 q10 q11 x, aI y r 154 (upd (upd (upd f (122 + 4 * tn (f 17)) (f 8)) (122 + 4 * tn (f 17) + 1) (f 9)) (122 + 4 * tn (f 17) + 2) (f 10)), aI y q11 20 o] H := hP
  have hD : va_D A [kX12 h q1 q4 q5 q6 q7 q9 q10 q11 x, aI y r 154 (upd (upd (upd f (122 + 4 * tn (f 17)) (f 8)) (122 + 4 * tn (f 17) + 1) (f 9)) (122 + 4 * tn (f 17) + 2) (f 10)), aI y q11 20 o] := hD
  refine lv_aload_n hx hb dX12_tryOn_35 rfl (lv_at hl 2 rfl) ?_
  refine lv_iload_n hx hb dX12_tryOn_36 rfl (lv_at hl 0 rfl) ?_
  refine lv_iconst (v := 3) hx hb dX12_tryOn_37 (by decide) ?_
  refine lv_iadd hx hb dX12_tryOn_38 ?_
  refine lv_aload_n hx hb dX12_tryOn_39 rfl (lv_at hl 2 rfl) ?_
  refine lv_bipush (v := 11) hx hb dX12_tryOn_40 (by decide) ?_
  refine al_i (D := G) (n := 154) (f := (upd (upd (upd f (122 + 4 * tn (f 17)) (f 8)) (122 + 4 * tn (f 17) + 1) (f 9)) (122 + 4 * tn (f 17) + 2) (f 10))) hx hb hK hP 1 0 rfl rfl 11 rfl (by decide) (by first | decide | omega) dX12_tryOn_42 ?_
  refine rw_i (x' := (f 11)) ((upd_ne (by omega)).trans ((upd_ne (by omega)).trans (upd_ne (by omega)))) ?_
  refine as_i (D := G) (n := 154) (f := (upd (upd (upd f (122 + 4 * tn (f 17)) (f 8)) (122 + 4 * tn (f 17) + 1) (f 9)) (122 + 4 * tn (f 17) + 2) (f 10))) hx hb hK hP hD hS 1 0 rfl rfl (122 + 4 * tn (f 17) + 3) (tr_ix 3 _ hn1) (by omega) (by first | decide | omega) dX12_tryOn_43 (fun H locs hP hD hS => ?_)
  have hP : va_P G vwCl [kX12 h q1 q4 q5 q6 q7 q9 q10 q11 x, aI y r 154 (upd (upd (upd (upd f (122 + 4 * tn (f 17)) (f 8)) (122 + 4 * tn (f 17) + 1) (f 9)) (122 + 4 * tn (f 17) + 2) (f 10)) (122 + 4 * tn (f 17) + 3) (f 11)), aI y q11 20 o] H := hP
  have hD : va_D A [kX12 h q1 q4 q5 q6 q7 q9 q10 q11 x, aI y r 154 (upd (upd (upd (upd f (122 + 4 * tn (f 17)) (f 8)) (122 + 4 * tn (f 17) + 1) (f 9)) (122 + 4 * tn (f 17) + 2) (f 10)) (122 + 4 * tn (f 17) + 3) (f 11)), aI y q11 20 o] := hD
  refine lv_aload_n hx hb dX12_tryOn_44 rfl (lv_at hl 2 rfl) ?_
  refine lv_bipush (v := 17) hx hb dX12_tryOn_45 (by decide) ?_
  refine lv_dup2_11 hx hb dX12_tryOn_47 rfl rfl ?_
  refine al_i (D := G) (n := 154) (f := (upd (upd (upd (upd f (122 + 4 * tn (f 17)) (f 8)) (122 + 4 * tn (f 17) + 1) (f 9)) (122 + 4 * tn (f 17) + 2) (f 10)) (122 + 4 * tn (f 17) + 3) (f 11))) hx hb hK hP 1 0 rfl rfl 17 rfl (by decide) (by first | decide | omega) dX12_tryOn_48 ?_
  refine rw_i (x' := (f 17)) ((upd_ne (by omega)).trans ((upd_ne (by omega)).trans ((upd_ne (by omega)).trans (upd_ne (by omega))))) ?_
  refine lv_iconst (v := 1) hx hb dX12_tryOn_49 (by decide) ?_
  refine lv_iadd hx hb dX12_tryOn_50 ?_
  refine as_i (D := G) (n := 154) (f := (upd (upd (upd (upd f (122 + 4 * tn (f 17)) (f 8)) (122 + 4 * tn (f 17) + 1) (f 9)) (122 + 4 * tn (f 17) + 2) (f 10)) (122 + 4 * tn (f 17) + 3) (f 11))) hx hb hK hP hD hS 1 0 rfl rfl 17 rfl (by decide) (by first | decide | omega) dX12_tryOn_51 (fun H locs hP hD hS => ?_)
  have hP : va_P G vwCl [kX12 h q1 q4 q5 q6 q7 q9 q10 q11 x, aI y r 154 (upd (upd (upd (upd (upd f (122 + 4 * tn (f 17)) (f 8)) (122 + 4 * tn (f 17) + 1) (f 9)) (122 + 4 * tn (f 17) + 2) (f 10)) (122 + 4 * tn (f 17) + 3) (f 11)) 17 ((f 17) + 1)), aI y q11 20 o] H := hP
  have hD : va_D A [kX12 h q1 q4 q5 q6 q7 q9 q10 q11 x, aI y r 154 (upd (upd (upd (upd (upd f (122 + 4 * tn (f 17)) (f 8)) (122 + 4 * tn (f 17) + 1) (f 9)) (122 + 4 * tn (f 17) + 2) (f 10)) (122 + 4 * tn (f 17) + 3) (f 11)) 17 ((f 17) + 1)), aI y q11 20 o] := hD
  refine lv_aload_n hx hb dX12_tryOn_52 rfl (lv_at hl 1 rfl) ?_
  refine lv_aload_n hx hb dX12_tryOn_53 rfl (lv_at hl 2 rfl) ?_
  refine lv_iload_n hx hb dX12_tryOn_54 rfl (lv_at hl 3 rfl) ?_
  refine cl_Hv (wr := []) (fun u : (Nat → Int32) => [kX12 h q1 q4 q5 q6 q7 q9 q10 q11 x, aI y r 154 (s_X12_ruleOn_w1 a1 (upd (upd (upd (upd (upd f (122 + 4 * tn (f 17)) (f 8)) (122 + 4 * tn (f 17) + 1) (f 9)) (122 + 4 * tn (f 17) + 2) (f 10)) (122 + 4 * tn (f 17) + 3) (f 11)) 17 ((f 17) + 1))), aI y q11 20 u]) [0, 1, 2] [] [0, 1, 2] (va_runV (As := [.ref r, .int a1]) (rest := []) ⟨hx, hb, hml, hown, hts⟩ (c_X12_ruleOn l G y h r a1 q1 q4 q5 q6 q7 q9 q10 q11 x (upd (upd (upd (upd (upd f (122 + 4 * tn (f 17)) (f 8)) (122 + 4 * tn (f 17) + 1) (f 9)) (122 + 4 * tn (f 17) + 2) (f 10)) (122 + 4 * tn (f 17) + 3) (f 11)) 17 ((f 17) + 1)) o H.size (by rw [upd_ne (by omega), upd_ne (by omega), upd_ne (by omega), upd_ne (by omega), upd_ne (by omega)]; exact h16) (by rw [← same_good (f := f) (try_same (by omega)) h16]; exact hg)) (cwV 2 hts gX12_tryOn_X12_ruleOn rfl rfl rfl (by decide +kernel) ⟨Nat.le_of_ble_eq_true rfl, Nat.le_of_ble_eq_true rfl⟩) (PH_V (hP.sub (ws' := [kX12 h q1 q4 q5 q6 q7 q9 q10 q11 x, aI y r 154 (upd (upd (upd (upd (upd f (122 + 4 * tn (f 17)) (f 8)) (122 + 4 * tn (f 17) + 1) (f 9)) (122 + 4 * tn (f 17) + 2) (f 10)) (122 + 4 * tn (f 17) + 3) (f 11)) 17 ((f 17) + 1)), aI y q11 20 o]) [0, 1, 2] rfl) hK hN (hD.sub (ws' := [kX12 h q1 q4 q5 q6 q7 q9 q10 q11 x, aI y r 154 (upd (upd (upd (upd (upd f (122 + 4 * tn (f 17)) (f 8)) (122 + 4 * tn (f 17) + 1) (f 9)) (122 + 4 * tn (f 17) + 2) (f 10)) (122 + 4 * tn (f 17) + 3) (f 11)) 17 ((f 17) + 1)), aI y q11 20 o]) [0, 1, 2] (by decide) rfl) (ci := 10) (q0 := 0) rfl rfl) rfl rfl hl.1 rfl (lv_room (Nat.le_of_ble_eq_true rfl)) dX12_tryOn_55 ⟨Nat.le_of_ble_eq_true rfl, Nat.le_of_ble_eq_true rfl⟩) hP hD hS hA rfl rfl rfl (by decide) rfl (fun _ => rfl) (fun u H locs hP hD hS => ?_)
  obtain ⟨o_1, rfl⟩ : ∃ zq9, zq9 = u := ⟨_, rfl⟩
  have hP : va_P G vwCl [kX12 h q1 q4 q5 q6 q7 q9 q10 q11 x, aI y r 154 (s_X12_ruleOn_w1 a1 (upd (upd (upd (upd (upd f (122 + 4 * tn (f 17)) (f 8)) (122 + 4 * tn (f 17) + 1) (f 9)) (122 + 4 * tn (f 17) + 2) (f 10)) (122 + 4 * tn (f 17) + 3) (f 11)) 17 ((f 17) + 1))), aI y q11 20 o_1] H := hP
  have hD : va_D A [kX12 h q1 q4 q5 q6 q7 q9 q10 q11 x, aI y r 154 (s_X12_ruleOn_w1 a1 (upd (upd (upd (upd (upd f (122 + 4 * tn (f 17)) (f 8)) (122 + 4 * tn (f 17) + 1) (f 9)) (122 + 4 * tn (f 17) + 2) (f 10)) (122 + 4 * tn (f 17) + 3) (f 11)) 17 ((f 17) + 1))), aI y q11 20 o_1] := hD
  exact W.vret hx hb hr (end_Hv o_1 hP hD hS rfl) hS.2.2 dX12_tryOn_58

def s_X12_takeBackOn_w0 (f : Nat → Int32) : Nat → Int32 := (s_X12_modeOn_w0 (f (122 + 4 * tn ((f 17) - 1) + 3)) (upd (upd (upd (upd f 17 ((f 17) - 1)) 8 (f (122 + 4 * tn ((f 17) - 1)))) 9 (f (122 + 4 * tn ((f 17) - 1) + 1))) 10 (f (122 + 4 * tn ((f 17) - 1) + 2))))
abbrev rmX12_takeBackOn : Room := ({ frames := 1, cells := 0, slots := 0, locals := 21 } : Room)
set_option maxHeartbeats 4000000 in
set_option maxRecDepth 100000 in
theorem c_X12_takeBackOn (l : Launch) (G : va_G) (y : Nat → ClassId) (h : Nat) (f : Nat → Int32) (sz : Nat) (h17 : vp_in ((f 17) - 1) 8) : Met l yX12_takeBackOn wsX12_takeBackOn rmX12_takeBackOn (PH G y [.ref h] [aI y h 154 f] sz) (QHv G (fun _ : Unit => [aI y h 154 (s_X12_takeBackOn_w0 f)]) (va_A [aI y h 154 f] sz)) 0 0 (va_A [aI y h 154 f] sz) := by
  refine Met.ofW (cc := cX12_takeBackOn) (maxL := 2) (ret := none) (by decide) rfl ?_
  intro p e s m args below meth c s₁ B hml hv
  obtain ⟨rfl, hsz, hP, ⟨hK, hN⟩, hD0⟩ := hv
  have hx := B.exec
  have hb := B.bytes
  have hr := B.returns
  have hts := atoms_spec (ws := wsX12_takeBackOn) B.pre
  have hown : s.vm.findClass RX12 = some m.cls := findClass_of_methodNamed B.named
  have hlocks := B.notSynchronized
  subst hsz
  have hD := hD0.self (sz := s.heap.size)
  generalize hAe : va_A [aI y h 154 f] s.heap.size = A at hD ⊢
  have hA : ∀ q : Nat, s.heap.size ≤ q → A q := fun q h => by rw [← hAe]; exact Or.inr h
  have hS : va_S A s.heap s.heap [] := va_S.rf
  have hP : va_P G vwCl [aI y h 154 f] s.heap := hP
  obtain ⟨hn1, hn2⟩ := in_tn h17 (by decide)
  have hn2 : tn ((f 17) - 1) < 8 := hn2
  have hl := lv_entry ([.ref h]) (n := 2) (Nat.le_of_ble_eq_true rfl)
  rw [lg_entry_eq]
  generalize (lg_sl ([.ref h]) ++ List.replicate (2 - (lg_sl ([.ref h])).length) Slot.unset).toArray = ls at hl ⊢
  have hl : lv_has ls 2 [(0, .ref h)] := hl
  refine lv_aload_n hx hb dX12_takeBackOn_0 rfl (lv_at hl 0 rfl) ?_
  refine lv_bipush (v := 17) hx hb dX12_takeBackOn_1 (by decide) ?_
  refine lv_dup2_11 hx hb dX12_takeBackOn_3 rfl rfl ?_
  refine al_i (D := G) (n := 154) (f := f) hx hb hK hP 0 0 rfl rfl 17 rfl (by decide) (by first | decide | omega) dX12_takeBackOn_4 ?_
  refine lv_iconst (v := 1) hx hb dX12_takeBackOn_5 (by decide) ?_
  refine lv_isub hx hb dX12_takeBackOn_6 ?_
  refine as_i (D := G) (n := 154) (f := f) hx hb hK hP hD hS 0 0 rfl rfl 17 rfl (by decide) (by first | decide | omega) dX12_takeBackOn_7 (fun H locs hP hD hS => ?_)
  have hP : va_P G vwCl [aI y h 154 (upd f 17 ((f 17) - 1))] H := hP
  have hD : va_D A [aI y h 154 (upd f 17 ((f 17) - 1))] := hD
  refine lv_bipush (v := 122) hx hb dX12_takeBackOn_8 (by decide) ?_
  refine lv_iconst (v := 4) hx hb dX12_takeBackOn_10 (by decide) ?_
  refine lv_aload_n hx hb dX12_takeBackOn_11 rfl (lv_at hl 0 rfl) ?_
  refine lv_bipush (v := 17) hx hb dX12_takeBackOn_12 (by decide) ?_
  refine al_i (D := G) (n := 154) (f := (upd f 17 ((f 17) - 1))) hx hb hK hP 0 0 rfl rfl 17 rfl (by decide) (by first | decide | omega) dX12_takeBackOn_14 ?_
  refine rw_i (x' := ((f 17) - 1)) rfl ?_
  refine lv_imul hx hb dX12_takeBackOn_15 ?_
  refine lv_iadd hx hb dX12_takeBackOn_16 ?_
  refine lv_istore_n (lv' := [(1, .int (122 + (4 * ((f 17) - 1)))), (0, .ref h)]) hx hb dX12_takeBackOn_17 rfl hl (by decide) rfl (fun ls hl => ?_)
  refine lv_aload_n hx hb dX12_takeBackOn_18 rfl (lv_at hl 1 rfl) ?_
  refine lv_bipush (v := 8) hx hb dX12_takeBackOn_19 (by decide) ?_
  refine lv_aload_n hx hb dX12_takeBackOn_21 rfl (lv_at hl 1 rfl) ?_
  refine lv_iload_n hx hb dX12_takeBackOn_22 rfl (lv_at hl 0 rfl) ?_
  refine al_i (D := G) (n := 154) (f := (upd f 17 ((f 17) - 1))) hx hb hK hP 0 0 rfl rfl (122 + 4 * tn ((f 17) - 1)) (tr_ix0 _ hn1) (by omega) (by first | decide | omega) dX12_takeBackOn_23 ?_
  refine rw_i (x' := (f (122 + 4 * tn ((f 17) - 1)))) (upd_ne (by omega)) ?_
  refine as_i (D := G) (n := 154) (f := (upd f 17 ((f 17) - 1))) hx hb hK hP hD hS 0 0 rfl rfl 8 rfl (by decide) (by first | decide | omega) dX12_takeBackOn_24 (fun H locs hP hD hS => ?_)
  have hP : va_P G vwCl [aI y h 154 (upd (upd f 17 ((f 17) - 1)) 8 (f (122 + 4 * tn ((f 17) - 1))))] H := hP
  have hD : va_D A [aI y h 154 (upd (upd f 17 ((f 17) - 1)) 8 (f (122 + 4 * tn ((f 17) - 1))))] := hD
  refine lv_aload_n hx hb dX12_takeBackOn_25 rfl (lv_at hl 1 rfl) ?_
  refine lv_bipush (v := 9) hx hb dX12_takeBackOn_26 (by decide) ?_
  refine lv_aload_n hx hb dX12_takeBackOn_28 rfl (lv_at hl 1 rfl) ?_
  refine lv_iload_n hx hb dX12_takeBackOn_29 rfl (lv_at hl 0 rfl) ?_
  refine lv_iconst (v := 1) hx hb dX12_takeBackOn_30 (by decide) ?_
  refine lv_iadd hx hb dX12_takeBackOn_31 ?_
  refine al_i (D := G) (n := 154) (f := (upd (upd f 17 ((f 17) - 1)) 8 (f (122 + 4 * tn ((f 17) - 1))))) hx hb hK hP 0 0 rfl rfl (122 + 4 * tn ((f 17) - 1) + 1) (tr_ix 1 _ hn1) (by omega) (by first | decide | omega) dX12_takeBackOn_32 ?_
  refine rw_i (x' := (f (122 + 4 * tn ((f 17) - 1) + 1))) ((upd_ne (by omega)).trans (upd_ne (by omega))) ?_
  refine as_i (D := G) (n := 154) (f := (upd (upd f 17 ((f 17) - 1)) 8 (f (122 + 4 * tn ((f 17) - 1))))) hx hb hK hP hD hS 0 0 rfl rfl 9 rfl (by decide) (by first | decide | omega) dX12_takeBackOn_33 (fun H locs hP hD hS => ?_)
  have hP : va_P G vwCl [aI y h 154 (upd (upd (upd f 17 ((f 17) - 1)) 8 (f (122 + 4 * tn ((f 17) - 1)))) 9 (f (122 + 4 * tn ((f 17) - 1) + 1)))] H := hP
  have hD : va_D A [aI y h 154 (upd (upd (upd f 17 ((f 17) - 1)) 8 (f (122 + 4 * tn ((f 17) - 1)))) 9 (f (122 + 4 * tn ((f 17) - 1) + 1)))] := hD
  refine lv_aload_n hx hb dX12_takeBackOn_34 rfl (lv_at hl 1 rfl) ?_
  refine lv_bipush (v := 10) hx hb dX12_takeBackOn_35 (by decide) ?_
  refine lv_aload_n hx hb dX12_takeBackOn_37 rfl (lv_at hl 1 rfl) ?_
  refine lv_iload_n hx hb dX12_takeBackOn_38 rfl (lv_at hl 0 rfl) ?_
  refine lv_iconst (v := 2) hx hb dX12_takeBackOn_39 (by decide) ?_
  refine lv_iadd hx hb dX12_takeBackOn_40 ?_
  refine al_i (D := G) (n := 154) (f := (upd (upd (upd f 17 ((f 17) - 1)) 8 (f (122 + 4 * tn ((f 17) - 1)))) 9 (f (122 + 4 * tn ((f 17) - 1) + 1)))) hx hb hK hP 0 0 rfl rfl (122 + 4 * tn ((f 17) - 1) + 2) (tr_ix 2 _ hn1) (by omega) (by first | decide | omega) dX12_takeBackOn_41 ?_
  refine rw_i (x' := (f (122 + 4 * tn ((f 17) - 1) + 2))) ((upd_ne (by omega)).trans ((upd_ne (by omega)).trans (upd_ne (by omega)))) ?_
  refine as_i (D := G) (n := 154) (f := (upd (upd (upd f 17 ((f 17) - 1)) 8 (f (122 + 4 * tn ((f 17) - 1)))) 9 (f (122 + 4 * tn ((f 17) - 1) + 1)))) hx hb hK hP hD hS 0 0 rfl rfl 10 rfl (by decide) (by first | decide | omega) dX12_takeBackOn_42 (fun H locs hP hD hS => ?_)
  have hP : va_P G vwCl [aI y h 154 (upd (upd (upd (upd f 17 ((f 17) - 1)) 8 (f (122 + 4 * tn ((f 17) - 1)))) 9 (f (122 + 4 * tn ((f 17) - 1) + 1))) 10 (f (122 + 4 * tn ((f 17) - 1) + 2)))] H := hP
  have hD : va_D A [aI y h 154 (upd (upd (upd (upd f 17 ((f 17) - 1)) 8 (f (122 + 4 * tn ((f 17) - 1)))) 9 (f (122 + 4 * tn ((f 17) - 1) + 1))) 10 (f (122 + 4 * tn ((f 17) - 1) + 2)))] := hD
  refine lv_aload_n hx hb dX12_takeBackOn_43 rfl (lv_at hl 1 rfl) ?_
  refine lv_aload_n hx hb dX12_takeBackOn_44 rfl (lv_at hl 1 rfl) ?_
  refine lv_iload_n hx hb dX12_takeBackOn_45 rfl (lv_at hl 0 rfl) ?_
  refine lv_iconst (v := 3) hx hb dX12_takeBackOn_46 (by decide) ?_
  refine lv_iadd hx hb dX12_takeBackOn_47 ?_
  refine al_i (D := G) (n := 154) (f := (upd (upd (upd (upd f 17 ((f 17) - 1)) 8 (f (122 + 4 * tn ((f 17) - 1)))) 9 (f (122 + 4 * tn ((f 17) - 1) + 1))) 10 (f (122 + 4 * tn ((f 17) - 1) + 2)))) hx hb hK hP 0 0 rfl rfl (122 + 4 * tn ((f 17) - 1) + 3) (tr_ix 3 _ hn1) (by omega) (by first | decide | omega) dX12_takeBackOn_48 ?_
  refine rw_i (x' := (f (122 + 4 * tn ((f 17) - 1) + 3))) ((upd_ne (by omega)).trans ((upd_ne (by omega)).trans ((upd_ne (by omega)).trans (upd_ne (by omega))))) ?_
  refine cl_Hv (wr := []) (fun _ : Unit => [aI y h 154 (s_X12_modeOn_w0 (f (122 + 4 * tn ((f 17) - 1) + 3)) (upd (upd (upd (upd f 17 ((f 17) - 1)) 8 (f (122 + 4 * tn ((f 17) - 1)))) 9 (f (122 + 4 * tn ((f 17) - 1) + 1))) 10 (f (122 + 4 * tn ((f 17) - 1) + 2))))]) [0] [] [0] (va_runS (As := [.ref h, .int (f (122 + 4 * tn ((f 17) - 1) + 3))]) (rest := []) ⟨hx, hb, hml, hown, hts⟩ (c_X12_modeOn l G y h (f (122 + 4 * tn ((f 17) - 1) + 3)) (upd (upd (upd (upd f 17 ((f 17) - 1)) 8 (f (122 + 4 * tn ((f 17) - 1)))) 9 (f (122 + 4 * tn ((f 17) - 1) + 1))) 10 (f (122 + 4 * tn ((f 17) - 1) + 2))) H.size) (va_cwS 2 hts gX12_takeBackOn_X12_modeOn rfl rfl rfl (by decide +kernel) ⟨Nat.le_of_ble_eq_true rfl, Nat.le_of_ble_eq_true rfl⟩) (PH_S (hP.sub (ws' := [aI y h 154 (upd (upd (upd (upd f 17 ((f 17) - 1)) 8 (f (122 + 4 * tn ((f 17) - 1)))) 9 (f (122 + 4 * tn ((f 17) - 1) + 1))) 10 (f (122 + 4 * tn ((f 17) - 1) + 2)))]) [0] rfl) hK hN (hD.sub (ws' := [aI y h 154 (upd (upd (upd (upd f 17 ((f 17) - 1)) 8 (f (122 + 4 * tn ((f 17) - 1)))) 9 (f (122 + 4 * tn ((f 17) - 1) + 1))) 10 (f (122 + 4 * tn ((f 17) - 1) + 2)))]) [0] (by decide) rfl)) rfl rfl hl.1 rfl (lv_room (Nat.le_of_ble_eq_true rfl)) dX12_takeBackOn_49 ⟨Nat.le_of_ble_eq_true rfl, Nat.le_of_ble_eq_true rfl⟩) hP hD hS hA rfl rfl rfl (by decide) rfl (fun _ => rfl) (fun _ H locs hP hD hS => ?_)
  have hP : va_P G vwCl [aI y h 154 (s_X12_modeOn_w0 (f (122 + 4 * tn ((f 17) - 1) + 3)) (upd (upd (upd (upd f 17 ((f 17) - 1)) 8 (f (122 + 4 * tn ((f 17) - 1)))) 9 (f (122 + 4 * tn ((f 17) - 1) + 1))) 10 (f (122 + 4 * tn ((f 17) - 1) + 2))))] H := hP
  have hD : va_D A [aI y h 154 (s_X12_modeOn_w0 (f (122 + 4 * tn ((f 17) - 1) + 3)) (upd (upd (upd (upd f 17 ((f 17) - 1)) 8 (f (122 + 4 * tn ((f 17) - 1)))) 9 (f (122 + 4 * tn ((f 17) - 1) + 1))) 10 (f (122 + 4 * tn ((f 17) - 1) + 2))))] := hD
  exact W.vret hx hb hr (end_Hv () hP hD hS rfl) hS.2.2 dX12_takeBackOn_52

theorem in_yes {a b c : Int64} : s_X12_in_r a b c = 1 ↔ b.toInt ≤ a.toInt ∧ a.toInt ≤ c.toInt := by
  have e1 : (lg_cmp a b < 0) ↔ ¬ b.toInt ≤ a.toInt := by
    rw [lg_cmp_lt, Int64.lt_iff_toInt_lt]
    omega
  have e2 : (0 < lg_cmp a c) ↔ ¬ a.toInt ≤ c.toInt := by
    rw [lg_cmp_gt, Int64.lt_iff_toInt_lt]
    omega
  unfold s_X12_in_r
  try dsimp only
  by_cases h1 : lg_cmp a b < 0
  · rw [if_pos h1]
    exact ⟨fun h => absurd h (by decide), fun h => absurd h.1 (e1.mp h1)⟩
  · rw [if_neg h1]
    by_cases h2 : 0 < lg_cmp a c
    · rw [if_pos h2]
      exact ⟨fun h => absurd h (by decide), fun h => absurd h.2 (e2.mp h2)⟩
    · rw [if_neg h2]
      refine ⟨fun _ => ⟨?_, ?_⟩, fun _ => rfl⟩
      · rcases Decidable.em (b.toInt ≤ a.toInt) with q | q
        · exact q
        · exact absurd (e1.mpr q) h1
      · rcases Decidable.em (a.toInt ≤ c.toInt) with q | q
        · exact q
        · exact absurd (e2.mpr q) h2
theorem in_no {a b c : Int64} : s_X12_in_r a b c = 0 ↔ ¬ (b.toInt ≤ a.toInt ∧ a.toInt ≤ c.toInt) := by
  rw [← in_yes]
  rcases z_X12_in a b c with h | h
  · rw [h]; exact ⟨fun _ => by decide, fun _ => rfl⟩
  · rw [h]; exact ⟨fun h => absurd h (by decide), fun h => absurd rfl h⟩
theorem in_vp {a : Int32} {b c : Int64} {n : Nat} (h : ¬ s_X12_in_r a.toInt64 b c = 0) (hb : 0 ≤ b.toInt) (hc : c.toInt < n) : vp_in a n := by
  have h2 : s_X12_in_r a.toInt64 b c = 1 := by
    rcases z_X12_in a.toInt64 b c with q | q
    · exact absurd q h
    · exact q
  have h3 := in_yes.mp h2
  rw [i64_of] at h3
  exact vp_in_iff.mpr ⟨by omega, by omega⟩

def s_X12_refused_r (a1 : Int32) : Int32 := (let v_2 : Int32 := (if a1 ≤ 0 then 0 else 1); v_2)
theorem z_X12_refused (a1 : Int32) : s_X12_refused_r a1 = 0 ∨ s_X12_refused_r a1 = 1 := by unfold s_X12_refused_r; (try dsimp only); exact (z_ite (Or.inl rfl) (Or.inr rfl))
abbrev rmX12_refused : Room := ({ frames := 0, cells := 0, slots := 0, locals := 0 } : Room)
set_option maxHeartbeats 4000000 in
set_option maxRecDepth 100000 in
theorem c_X12_refused (l : Launch) (G : va_G) (y : Nat → ClassId) (h : Nat) (a1 : Int32) (q1 : Nat) (q4 : Nat) (q5 : Nat) (q6 : Nat) (q7 : Nat) (q9 : Nat) (q10 : Nat) (q11 : Nat) (x : Nat → Int32) (sz : Nat) : Met l yX12_refused wsX12_refused rmX12_refused (PH G y [.ref h, .int a1] [kX12 h q1 q4 q5 q6 q7 q9 q10 q11 x] sz) (QHi G (s_X12_refused_r a1) (fun _ : Unit => [kX12 h q1 q4 q5 q6 q7 q9 q10 q11 (upd x 0 a1)]) (va_A [kX12 h q1 q4 q5 q6 q7 q9 q10 q11 x] sz)) 0 0 (va_A [kX12 h q1 q4 q5 q6 q7 q9 q10 q11 x] sz) := by
  refine Met.ofW (cc := cX12_refused) (maxL := 2) (ret := (some .boolean)) (by decide) rfl ?_
  intro p e s m args below meth c s₁ B hml hv
  obtain ⟨rfl, hsz, hP, ⟨hK, hN⟩, hD0⟩ := hv
  have hx := B.exec
  have hb := B.bytes
  have hr := B.returns
  have hts := atoms_spec (ws := wsX12_refused) B.pre
  have hown : s.vm.findClass RX12 = some m.cls := findClass_of_methodNamed B.named
  have hlocks := B.notSynchronized
  have i_X12 : ∀ w ∈ u_ws RX12 TX12 15, w ∈ wsX12_refused := by decide +kernel
  subst hsz
  have hD := hD0.self (sz := s.heap.size)
  generalize hAe : va_A [kX12 h q1 q4 q5 q6 q7 q9 q10 q11 x] s.heap.size = A at hD ⊢
  have hA : ∀ q : Nat, s.heap.size ≤ q → A q := fun q h => by rw [← hAe]; exact Or.inr h
  have hS : va_S A s.heap s.heap [] := va_S.rf
  have hP : va_P G vwCl [kX12 h q1 q4 q5 q6 q7 q9 q10 q11 x] s.heap := hP
  have hl := lv_entry ([.ref h, .int a1]) (n := 2) (Nat.le_of_ble_eq_true rfl)
  rw [lg_entry_eq]
  generalize (lg_sl ([.ref h, .int a1]) ++ List.replicate (2 - (lg_sl ([.ref h, .int a1])).length) Slot.unset).toArray = ls at hl ⊢
  have hl : lv_has ls 2 [(0, .ref h), (1, .int a1)] := hl
  obtain ⟨QQ, hQQ⟩ : ∃ zq9, zq9 = MQ below (QHi G (s_X12_refused_r a1) (fun _ : Unit => [kX12 h q1 q4 q5 q6 q7 q9 q10 q11 (upd x 0 a1)]) A) ([.ref h, .int a1] : List Value).toArray s 0 0 A := ⟨_, rfl⟩
  rw [← hQQ]
  refine lv_aload_n hx hb dX12_refused_0 rfl (lv_at hl 0 rfl) ?_
  refine lv_iload_n hx hb dX12_refused_1 rfl (lv_at hl 1 rfl) ?_
  refine va_put (D := G) (ci := 10) (v := .int a1) (ty := .int) (C := RX12) (T := TX12) (N := 15) hx hb hts i_X12 tyX12 tyX12_ok nmX12 hown hK hP hD hS 0 rfl rfl 0 (by decide) (hts (.fieldLink RX12 39 "RelayTunerModel" "refusal" "I") (by decide +kernel)) (fun _ h9 => h9) rfl (by decide +kernel) rfl rfl (Nat.le_of_ble_eq_true rfl) dX12_refused_2 (fun H locs hP hD hS => ?_)
  have hP : va_P G vwCl [kX12 h q1 q4 q5 q6 q7 q9 q10 q11 (upd x 0 a1)] H := hP
  have hD : va_D A [kX12 h q1 q4 q5 q6 q7 q9 q10 q11 (upd x 0 a1)] := hD
  refine lv_iload_n hx hb dX12_refused_5 rfl (lv_at hl 1 rfl) ?_
  have J14_4 : ∀ (v_2 : Int32) (e_v_2 : v_2 = (if a1 ≤ 0 then 0 else 1)) (z_3 : v_2 = 0 ∨ v_2 = 1) (ls : Array Slot) (hl : lv_has ls 2 []), W p l e (headSpec wsX12_refused rmX12_refused).room s m ([.ref h, .int a1] : List Value).toArray below meth c H locs 0 0 QQ (F0 m 14 ls [.int v_2]) := by
    intro v_2 e_v_2 z_3 ls hl
    rw [hQQ]
    exact W.zret hx hb hr (nz_bool z_3) (end_Hi () hP hD hS (by subst e_v_2; unfold s_X12_refused_r; exact rfl) (congrArg (fun (z0 : Nat → Int32) => [kX12 h q1 q4 q5 q6 q7 q9 q10 q11 z0]) (by subst e_v_2; exact rfl))) hS.2.2 dX12_refused_14
  refine lv_if_le (tgt := 13) hx hb dX12_refused_6 (by decide) (fun c_1 => ?_) (fun c_1 => ?_)
  · refine lv_iconst (v := 0) hx hb dX12_refused_13 (by decide) ?_
    exact J14_4 _ (if_pos c_1).symm (Or.inl rfl) ls (lv_sub hl [] rfl)
  · refine lv_iconst (v := 1) hx hb dX12_refused_9 (by decide) ?_
    refine lv_goto (tgt := 14) hx hb dX12_refused_10 (by decide) ?_
    exact J14_4 _ (if_neg c_1).symm (Or.inr rfl) ls (lv_sub hl [] rfl)

theorem refused_no {v : Int32} (h : s_X12_refused_r v = 0) : v ≤ 0 := by
  unfold s_X12_refused_r at h
  dsimp only at h
  rcases Decidable.em (v ≤ 0) with q | q
  · exact q
  · rw [if_neg q] at h; exact absurd h (by decide)

def s_X12_thrown_r (x : Nat → Int32) : Int32 := (x 0)
abbrev rmX12_thrown : Room := ({ frames := 0, cells := 0, slots := 0, locals := 0 } : Room)
set_option maxHeartbeats 4000000 in
set_option maxRecDepth 100000 in
theorem c_X12_thrown (l : Launch) (G : va_G) (y : Nat → ClassId) (h : Nat) (q1 : Nat) (q4 : Nat) (q5 : Nat) (q6 : Nat) (q7 : Nat) (q9 : Nat) (q10 : Nat) (q11 : Nat) (x : Nat → Int32) : Met l yX12_thrown wsX12_thrown rmX12_thrown (PR G y [.ref h] [kX12 h q1 q4 q5 q6 q7 q9 q10 q11 x]) (QRi (s_X12_thrown_r x)) 0 0 (fun _ => False) := by
  refine Met.ofW (cc := cX12_thrown) (maxL := 1) (ret := (some .int)) (by decide) rfl ?_
  intro p e s m args below meth c s₁ B hml hv
  obtain ⟨rfl, hP, hK, hN⟩ := hv
  have hx := B.exec
  have hb := B.bytes
  have hr := B.returns
  have hts := atoms_spec (ws := wsX12_thrown) B.pre
  have hown : s.vm.findClass RX12 = some m.cls := findClass_of_methodNamed B.named
  have hlocks := B.notSynchronized
  have i_X12 : ∀ w ∈ u_ws RX12 TX12 15, w ∈ wsX12_thrown := by decide +kernel
  have hl := lv_entry ([.ref h]) (n := 1) (Nat.le_of_ble_eq_true rfl)
  rw [lg_entry_eq]
  generalize (lg_sl ([.ref h]) ++ List.replicate (1 - (lg_sl ([.ref h])).length) Slot.unset).toArray = ls at hl ⊢
  have hl : lv_has ls 1 [(0, .ref h)] := hl
  refine lv_aload_n hx hb dX12_thrown_0 rfl (lv_at hl 0 rfl) ?_
  refine va_get (D := G) (ci := 10) (v := .int (x 0)) (C := RX12) (T := TX12) (N := 15) hx hb hts i_X12 hown hK hP 0 rfl rfl 0 (by decide) (hts (.fieldLink RX12 39 "RelayTunerModel" "refusal" "I") (by decide +kernel)) (fun _ h9 => h9) rfl dX12_thrown_1 ?_
  exact W.iret hx hb hr (end_Ri rfl) (fun _ h => nomatch h) dX12_thrown_4

theorem app_lt {x : Nat → Int32} {a v : Int32} (ht : vp_in (x 2) 61) (e : v = (if (s_X12_in_r a.toInt64 0 255) = 0 then 1 else (if (x 2) = 60 then 2 else 0))) (c : s_X12_refused_r v = 0) : vp_in (x 2) 60 := by
  have h := refused_no c
  rw [e] at h
  split at h
  · exact absurd h (by decide)
  · split at h
    · exact absurd h (by decide)
    · next h2 =>
      obtain ⟨j, hj, e2⟩ := vp_in_of ht (by decide)
      rw [e2]
      refine vp_in_nI ?_ (by decide)
      rcases Nat.lt_or_ge j 60 with q | q
      · exact q
      · exact absurd (by rw [e2, show j = 60 by omega]; rfl) h2

def s_X12_append_r (a1 : Int32) (x : Nat → Int32) : Int32 := (let v_2 : Int32 := (if (s_X12_in_r a1.toInt64 0 255) = 0 then 1 else (if (x 2) = 60 then 2 else 0)); (if (s_X12_refused_r v_2) = 0 then ((x 2) + 1) else 0))
def s_X12_append_w0 (a1 : Int32) (x : Nat → Int32) : Nat → Int32 := (let v_2 : Int32 := (if (s_X12_in_r a1.toInt64 0 255) = 0 then 1 else (if (x 2) = 60 then 2 else 0)); (if (s_X12_refused_r v_2) = 0 then (upd (upd x 0 v_2) 2 ((x 2) + 1)) else (upd x 0 v_2)))
def s_X12_append_w1 (a1 : Int32) (x : Nat → Int32) (ft : Nat → Int32) : Nat → Int32 := (let v_2 : Int32 := (if (s_X12_in_r a1.toInt64 0 255) = 0 then 1 else (if (x 2) = 60 then 2 else 0)); (if (s_X12_refused_r v_2) = 0 then (upd ft (tn (x 2)) a1) else ft))
abbrev rmX12_append : Room := ({ frames := 1, cells := 0, slots := 0, locals := 25 } : Room)
set_option maxHeartbeats 4000000 in
set_option maxRecDepth 100000 in
theorem c_X12_append (l : Launch) (G : va_G) (y : Nat → ClassId) (h : Nat) (a1 : Int32) (q1 : Nat) (q4 : Nat) (q5 : Nat) (q6 : Nat) (q7 : Nat) (q9 : Nat) (q10 : Nat) (q11 : Nat) (x : Nat → Int32) (ft : Nat → Int32) (sz : Nat) (ht : vp_in (x 2) 61) : Met l yX12_append wsX12_append rmX12_append (PH G y [.ref h, .int a1] [kX12 h q1 q4 q5 q6 q7 q9 q10 q11 x, aI y q1 60 ft] sz) (QHi G (s_X12_append_r a1 x) (fun _ : Unit => [kX12 h q1 q4 q5 q6 q7 q9 q10 q11 (s_X12_append_w0 a1 x), aI y q1 60 (s_X12_append_w1 a1 x ft)]) (va_A [kX12 h q1 q4 q5 q6 q7 q9 q10 q11 x, aI y q1 60 ft] sz)) 0 0 (va_A [kX12 h q1 q4 q5 q6 q7 q9 q10 q11 x, aI y q1 60 ft] sz) := by
  refine Met.ofW (cc := cX12_append) (maxL := 2) (ret := (some .int)) (by decide) rfl ?_
  intro p e s m args below meth c s₁ B hml hv
  obtain ⟨rfl, hsz, hP, ⟨hK, hN⟩, hD0⟩ := hv
  have hx := B.exec
  have hb := B.bytes
  have hr := B.returns
  have hts := atoms_spec (ws := wsX12_append) B.pre
  have hown : s.vm.findClass RX12 = some m.cls := findClass_of_methodNamed B.named
  have hlocks := B.notSynchronized
  have i_X12 : ∀ w ∈ u_ws RX12 TX12 15, w ∈ wsX12_append := by decide +kernel
  subst hsz
  have hD := hD0.self (sz := s.heap.size)
  generalize hAe : va_A [kX12 h q1 q4 q5 q6 q7 q9 q10 q11 x, aI y q1 60 ft] s.heap.size = A at hD ⊢
  have hA : ∀ q : Nat, s.heap.size ≤ q → A q := fun q h => by rw [← hAe]; exact Or.inr h
  have hS : va_S A s.heap s.heap [] := va_S.rf
  have hP : va_P G vwCl [kX12 h q1 q4 q5 q6 q7 q9 q10 q11 x, aI y q1 60 ft] s.heap := hP
  have hl := lv_entry ([.ref h, .int a1]) (n := 2) (Nat.le_of_ble_eq_true rfl)
  rw [lg_entry_eq]
  generalize (lg_sl ([.ref h, .int a1]) ++ List.replicate (2 - (lg_sl ([.ref h, .int a1])).length) Slot.unset).toArray = ls at hl ⊢
  have hl : lv_has ls 2 [(0, .ref h), (1, .int a1)] := hl
  obtain ⟨QQ, hQQ⟩ : ∃ zq9, zq9 = MQ below (QHi G (s_X12_append_r a1 x) (fun _ : Unit => [kX12 h q1 q4 q5 q6 q7 q9 q10 q11 (s_X12_append_w0 a1 x), aI y q1 60 (s_X12_append_w1 a1 x ft)]) A) ([.ref h, .int a1] : List Value).toArray s 0 0 A := ⟨_, rfl⟩
  rw [← hQQ]
  refine lv_aload_n hx hb dX12_append_0 rfl (lv_at hl 0 rfl) ?_
  refine lv_iload_n hx hb dX12_append_1 rfl (lv_at hl 1 rfl) ?_
  refine lv_i2l (v := a1.toInt64) hx hb dX12_append_2 rfl ?_
  refine lv_lconst (v := 0) hx hb dX12_append_3 rfl ?_
  refine lv_ldc2 (v := 255) hx hb hown (hts (.constantLong RX12 109 255) (by decide +kernel)) dX12_append_4 ?_
  refine cl_Ri (va_runS (As := [.long a1.toInt64, .long 0, .long 255]) (rest := [.ref h]) ⟨hx, hb, hml, hown, hts⟩ (c_X12_in l G y a1.toInt64 0 255) (va_cwS 3 hts gX12_append_X12_in rfl rfl rfl (by decide +kernel) ⟨Nat.le_of_ble_eq_true rfl, Nat.le_of_ble_eq_true rfl⟩) (PR_S pnil hK hN) rfl rfl hl.1 rfl (lv_room (Nat.le_of_ble_eq_true rfl)) dX12_append_7 ⟨Nat.le_of_ble_eq_true rfl, Nat.le_of_ble_eq_true rfl⟩) ?_
  have J31_3 : ∀ (v_2 : Int32) (e_v_2 : v_2 = (if (s_X12_in_r a1.toInt64 0 255) = 0 then 1 else (if (x 2) = 60 then 2 else 0))) (ls : Array Slot) (hl : lv_has ls 2 [(0, .ref h), (1, .int a1)]), W p l e (headSpec wsX12_append rmX12_append).room s m ([.ref h, .int a1] : List Value).toArray below meth c s.heap [] 0 0 QQ (F0 m 31 ls [.int v_2, .ref h]) := by
    intro v_2 e_v_2 ls hl
    refine cl_Hi (wr := [aI y q1 60 ft]) (fun _ : Unit => [kX12 h q1 q4 q5 q6 q7 q9 q10 q11 (upd x 0 v_2), aI y q1 60 ft]) [0] [1] [1, 0] (va_runV (As := [.int v_2]) (rest := []) ⟨hx, hb, hml, hown, hts⟩ (c_X12_refused l G y h v_2 q1 q4 q5 q6 q7 q9 q10 q11 x s.heap.size) (cwV 1 hts gX12_append_X12_refused rfl rfl rfl (by decide +kernel) ⟨Nat.le_of_ble_eq_true rfl, Nat.le_of_ble_eq_true rfl⟩) (PH_V (hP.sub (ws' := [kX12 h q1 q4 q5 q6 q7 q9 q10 q11 x]) [0] rfl) hK hN (hD.sub (ws' := [kX12 h q1 q4 q5 q6 q7 q9 q10 q11 x]) [0] (by decide) rfl) (ci := 10) (q0 := 0) rfl rfl) rfl rfl hl.1 rfl (lv_room (Nat.le_of_ble_eq_true rfl)) dX12_append_31 ⟨Nat.le_of_ble_eq_true rfl, Nat.le_of_ble_eq_true rfl⟩) hP hD hS hA rfl rfl rfl (by decide) rfl (fun _ => rfl) (fun _ H locs hP hD hS => ?_)
    have hP : va_P G vwCl [kX12 h q1 q4 q5 q6 q7 q9 q10 q11 (upd x 0 v_2), aI y q1 60 ft] H := hP
    have hD : va_D A [kX12 h q1 q4 q5 q6 q7 q9 q10 q11 (upd x 0 v_2), aI y q1 60 ft] := hD
    refine lv_if_eq (tgt := 39) hx hb dX12_append_34 (by decide) (fun c_4 => ?_) (fun c_4 => ?_)
    · have hlt := app_lt ht e_v_2 c_4
      obtain ⟨hn1, hn2⟩ := in_tn hlt (by decide)
      refine lv_aload_n hx hb dX12_append_39 rfl (lv_at hl 0 rfl) ?_
      refine va_get (D := G) (ci := 10) (v := .ref q1) (C := RX12) (T := TX12) (N := 15) hx hb hts i_X12 hown hK hP 0 rfl rfl 1 (by decide) (hts (.fieldLink RX12 7 "RelayTunerModel" "text" "[I") (by decide +kernel)) (fun _ h9 => h9) rfl dX12_append_40 ?_
      refine lv_aload_n hx hb dX12_append_43 rfl (lv_at hl 0 rfl) ?_
      refine va_get (D := G) (ci := 10) (v := .int (x 2)) (C := RX12) (T := TX12) (N := 15) hx hb hts i_X12 hown hK hP 0 rfl rfl 2 (by decide) (hts (.fieldLink RX12 115 "RelayTunerModel" "textSize" "I") (by decide +kernel)) (fun _ h9 => h9) rfl dX12_append_44 ?_
      refine lv_iload_n hx hb dX12_append_47 rfl (lv_at hl 1 rfl) ?_
      refine as_i (D := G) (n := 60) (f := ft) hx hb hK hP hD hS 1 0 rfl rfl (tn (x 2)) hn1 hn2 (by first | decide | omega) dX12_append_48 (fun H locs hP hD hS => ?_)
      have hP : va_P G vwCl [kX12 h q1 q4 q5 q6 q7 q9 q10 q11 (upd x 0 v_2), aI y q1 60 (upd ft (tn (x 2)) a1)] H := hP
      have hD : va_D A [kX12 h q1 q4 q5 q6 q7 q9 q10 q11 (upd x 0 v_2), aI y q1 60 (upd ft (tn (x 2)) a1)] := hD
      refine lv_aload_n hx hb dX12_append_49 rfl (lv_at hl 0 rfl) ?_
      refine lv_dup hx hb dX12_append_50 rfl ?_
      refine va_get (D := G) (ci := 10) (v := .int (x 2)) (C := RX12) (T := TX12) (N := 15) hx hb hts i_X12 hown hK hP 0 rfl rfl 2 (by decide) (hts (.fieldLink RX12 115 "RelayTunerModel" "textSize" "I") (by decide +kernel)) (fun _ h9 => h9) rfl dX12_append_51 ?_
      refine lv_iconst (v := 1) hx hb dX12_append_54 (by decide) ?_
      refine lv_iadd hx hb dX12_append_55 ?_
      refine va_put (D := G) (ci := 10) (v := .int ((x 2) + 1)) (ty := .int) (C := RX12) (T := TX12) (N := 15) hx hb hts i_X12 tyX12 tyX12_ok nmX12 hown hK hP hD hS 0 rfl rfl 2 (by decide) (hts (.fieldLink RX12 115 "RelayTunerModel" "textSize" "I") (by decide +kernel)) (fun _ h9 => h9) rfl (by decide +kernel) rfl rfl (Nat.le_of_ble_eq_true rfl) dX12_append_56 (fun H locs hP hD hS => ?_)
      have hP : va_P G vwCl [kX12 h q1 q4 q5 q6 q7 q9 q10 q11 (upd (upd x 0 v_2) 2 ((x 2) + 1)), aI y q1 60 (upd ft (tn (x 2)) a1)] H := hP
      have hD : va_D A [kX12 h q1 q4 q5 q6 q7 q9 q10 q11 (upd (upd x 0 v_2) 2 ((x 2) + 1)), aI y q1 60 (upd ft (tn (x 2)) a1)] := hD
      refine lv_aload_n hx hb dX12_append_59 rfl (lv_at hl 0 rfl) ?_
      refine va_get (D := G) (ci := 10) (v := .int ((x 2) + 1)) (C := RX12) (T := TX12) (N := 15) hx hb hts i_X12 hown hK hP 0 rfl rfl 2 (by decide) (hts (.fieldLink RX12 115 "RelayTunerModel" "textSize" "I") (by decide +kernel)) (fun _ h9 => h9) rfl dX12_append_60 ?_
      rw [hQQ]
      exact W.iret hx hb hr (end_Hi () hP hD hS (by subst e_v_2; unfold s_X12_append_r; exact (if_pos c_4).symm) (congr (congrArg (fun (z0 : Nat → Int32) (z1 : Nat → Int32) => [kX12 h q1 q4 q5 q6 q7 q9 q10 q11 z0, aI y q1 60 z1]) (by subst e_v_2; unfold s_X12_append_w0; exact (if_pos c_4).symm)) (by subst e_v_2; unfold s_X12_append_w1; exact (if_pos c_4).symm))) hS.2.2 dX12_append_63
    · refine lv_iconst (v := 0) hx hb dX12_append_37 (by decide) ?_
      rw [hQQ]
      exact W.iret hx hb hr (end_Hi () hP hD hS (by subst e_v_2; unfold s_X12_append_r; exact (if_neg c_4).symm) (congr (congrArg (fun (z0 : Nat → Int32) (z1 : Nat → Int32) => [kX12 h q1 q4 q5 q6 q7 q9 q10 q11 z0, aI y q1 60 z1]) (by subst e_v_2; unfold s_X12_append_w0; exact (if_neg c_4).symm)) (by subst e_v_2; unfold s_X12_append_w1; exact (if_neg c_4).symm))) hS.2.2 dX12_append_38
  refine lv_if_ne (tgt := 17) hx hb dX12_append_10 (by decide) (fun c_1 => ?_) (fun c_1 => ?_)
  · refine lv_aload_n hx hb dX12_append_17 rfl (lv_at hl 0 rfl) ?_
    refine va_get (D := G) (ci := 10) (v := .int (x 2)) (C := RX12) (T := TX12) (N := 15) hx hb hts i_X12 hown hK hP 0 rfl rfl 2 (by decide) (hts (.fieldLink RX12 115 "RelayTunerModel" "textSize" "I") (by decide +kernel)) (fun _ h9 => h9) rfl dX12_append_18 ?_
    refine lv_bipush (v := 60) hx hb dX12_append_21 (by decide) ?_
    refine lv_icmp_ne (tgt := 30) hx hb dX12_append_23 (by decide) (fun c_5 => ?_) (fun c_5 => ?_)
    · refine lv_iconst (v := 0) hx hb dX12_append_30 (by decide) ?_
      exact J31_3 _ ((if_neg c_1).trans (if_neg c_5)).symm ls (lv_sub hl [0, 1] rfl)
    · refine lv_iconst (v := 2) hx hb dX12_append_26 (by decide) ?_
      refine lv_goto (tgt := 31) hx hb dX12_append_27 (by decide) ?_
      exact J31_3 _ ((if_neg c_1).trans (if_pos c_5)).symm ls (lv_sub hl [0, 1] rfl)
  · refine lv_iconst (v := 1) hx hb dX12_append_13 (by decide) ?_
    refine lv_goto (tgt := 31) hx hb dX12_append_14 (by decide) ?_
    exact J31_3 _ (if_pos c_1).symm ls (lv_sub hl [0, 1] rfl)

def s_X12_clearText_r (x : Nat → Int32) : Int32 := (x 2)
def s_X12_clearText_w0 (x : Nat → Int32) : Nat → Int32 := (upd (upd x 0 0) 2 0)
abbrev rmX12_clearText : Room := ({ frames := 0, cells := 0, slots := 0, locals := 0 } : Room)
set_option maxHeartbeats 4000000 in
set_option maxRecDepth 100000 in
theorem c_X12_clearText (l : Launch) (G : va_G) (y : Nat → ClassId) (h : Nat) (q1 : Nat) (q4 : Nat) (q5 : Nat) (q6 : Nat) (q7 : Nat) (q9 : Nat) (q10 : Nat) (q11 : Nat) (x : Nat → Int32) (sz : Nat) : Met l yX12_clearText wsX12_clearText rmX12_clearText (PH G y [.ref h] [kX12 h q1 q4 q5 q6 q7 q9 q10 q11 x] sz) (QHi G (s_X12_clearText_r x) (fun _ : Unit => [kX12 h q1 q4 q5 q6 q7 q9 q10 q11 (s_X12_clearText_w0 x)]) (va_A [kX12 h q1 q4 q5 q6 q7 q9 q10 q11 x] sz)) 0 0 (va_A [kX12 h q1 q4 q5 q6 q7 q9 q10 q11 x] sz) := by
  refine Met.ofW (cc := cX12_clearText) (maxL := 2) (ret := (some .int)) (by decide) rfl ?_
  intro p e s m args below meth c s₁ B hml hv
  obtain ⟨rfl, hsz, hP, ⟨hK, hN⟩, hD0⟩ := hv
  have hx := B.exec
  have hb := B.bytes
  have hr := B.returns
  have hts := atoms_spec (ws := wsX12_clearText) B.pre
  have hown : s.vm.findClass RX12 = some m.cls := findClass_of_methodNamed B.named
  have hlocks := B.notSynchronized
  have i_X12 : ∀ w ∈ u_ws RX12 TX12 15, w ∈ wsX12_clearText := by decide +kernel
  subst hsz
  have hD := hD0.self (sz := s.heap.size)
  generalize hAe : va_A [kX12 h q1 q4 q5 q6 q7 q9 q10 q11 x] s.heap.size = A at hD ⊢
  have hA : ∀ q : Nat, s.heap.size ≤ q → A q := fun q h => by rw [← hAe]; exact Or.inr h
  have hS : va_S A s.heap s.heap [] := va_S.rf
  have hP : va_P G vwCl [kX12 h q1 q4 q5 q6 q7 q9 q10 q11 x] s.heap := hP
  have hl := lv_entry ([.ref h]) (n := 2) (Nat.le_of_ble_eq_true rfl)
  rw [lg_entry_eq]
  generalize (lg_sl ([.ref h]) ++ List.replicate (2 - (lg_sl ([.ref h])).length) Slot.unset).toArray = ls at hl ⊢
  have hl : lv_has ls 2 [(0, .ref h)] := hl
  refine lv_aload_n hx hb dX12_clearText_0 rfl (lv_at hl 0 rfl) ?_
  refine lv_iconst (v := 0) hx hb dX12_clearText_1 (by decide) ?_
  refine va_put (D := G) (ci := 10) (v := .int 0) (ty := .int) (C := RX12) (T := TX12) (N := 15) hx hb hts i_X12 tyX12 tyX12_ok nmX12 hown hK hP hD hS 0 rfl rfl 0 (by decide) (hts (.fieldLink RX12 39 "RelayTunerModel" "refusal" "I") (by decide +kernel)) (fun _ h9 => h9) rfl (by decide +kernel) rfl rfl (Nat.le_of_ble_eq_true rfl) dX12_clearText_2 (fun H locs hP hD hS => ?_)
  have hP : va_P G vwCl [kX12 h q1 q4 q5 q6 q7 q9 q10 q11 (upd x 0 0)] H := hP
  have hD : va_D A [kX12 h q1 q4 q5 q6 q7 q9 q10 q11 (upd x 0 0)] := hD
  refine lv_aload_n hx hb dX12_clearText_5 rfl (lv_at hl 0 rfl) ?_
  refine va_get (D := G) (ci := 10) (v := .int (x 2)) (C := RX12) (T := TX12) (N := 15) hx hb hts i_X12 hown hK hP 0 rfl rfl 2 (by decide) (hts (.fieldLink RX12 115 "RelayTunerModel" "textSize" "I") (by decide +kernel)) (fun _ h9 => h9) rfl dX12_clearText_6 ?_
  refine lv_istore_n (lv' := [(1, .int (x 2)), (0, .ref h)]) hx hb dX12_clearText_9 rfl hl (by decide) rfl (fun ls hl => ?_)
  refine lv_aload_n hx hb dX12_clearText_10 rfl (lv_at hl 1 rfl) ?_
  refine lv_iconst (v := 0) hx hb dX12_clearText_11 (by decide) ?_
  refine va_put (D := G) (ci := 10) (v := .int 0) (ty := .int) (C := RX12) (T := TX12) (N := 15) hx hb hts i_X12 tyX12 tyX12_ok nmX12 hown hK hP hD hS 0 rfl rfl 2 (by decide) (hts (.fieldLink RX12 115 "RelayTunerModel" "textSize" "I") (by decide +kernel)) (fun _ h9 => h9) rfl (by decide +kernel) rfl rfl (Nat.le_of_ble_eq_true rfl) dX12_clearText_12 (fun H locs hP hD hS => ?_)
  have hP : va_P G vwCl [kX12 h q1 q4 q5 q6 q7 q9 q10 q11 (upd (upd x 0 0) 2 0)] H := hP
  have hD : va_D A [kX12 h q1 q4 q5 q6 q7 q9 q10 q11 (upd (upd x 0 0) 2 0)] := hD
  refine lv_iload_n hx hb dX12_clearText_15 rfl (lv_at hl 0 rfl) ?_
  exact W.iret hx hb hr (end_Hi () hP hD hS rfl rfl) hS.2.2 dX12_clearText_16

def s_X12_isSwing_r (a1 : Int32) (f : Nat → Int32) : Int32 := (s_X12_in_r a1.toInt64 0 (((f 16) - 1).toInt64))
theorem z_X12_isSwing (a1 : Int32) (f : Nat → Int32) : s_X12_isSwing_r a1 f = 0 ∨ s_X12_isSwing_r a1 f = 1 := by unfold s_X12_isSwing_r; (try dsimp only); exact (z_X12_in _ _ _)
abbrev rmX12_isSwing : Room := ({ frames := 1, cells := 0, slots := 0, locals := 25 } : Room)
set_option maxHeartbeats 4000000 in
set_option maxRecDepth 100000 in
theorem c_X12_isSwing (l : Launch) (G : va_G) (y : Nat → ClassId) (h : Nat) (a1 : Int32) (q1 : Nat) (q4 : Nat) (q5 : Nat) (q6 : Nat) (q7 : Nat) (q9 : Nat) (q10 : Nat) (q11 : Nat) (x : Nat → Int32) (f : Nat → Int32) : Met l yX12_isSwing wsX12_isSwing rmX12_isSwing (PR G y [.ref h, .int a1] [kX12 h q1 q4 q5 q6 q7 q9 q10 q11 x, aI y q5 154 f]) (QRi (s_X12_isSwing_r a1 f)) 0 0 (fun _ => False) := by
  refine Met.ofW (cc := cX12_isSwing) (maxL := 2) (ret := (some .boolean)) (by decide) rfl ?_
  intro p e s m args below meth c s₁ B hml hv
  obtain ⟨rfl, hP, hK, hN⟩ := hv
  have hx := B.exec
  have hb := B.bytes
  have hr := B.returns
  have hts := atoms_spec (ws := wsX12_isSwing) B.pre
  have hown : s.vm.findClass RX12 = some m.cls := findClass_of_methodNamed B.named
  have hlocks := B.notSynchronized
  have i_X12 : ∀ w ∈ u_ws RX12 TX12 15, w ∈ wsX12_isSwing := by decide +kernel
  have hl := lv_entry ([.ref h, .int a1]) (n := 2) (Nat.le_of_ble_eq_true rfl)
  rw [lg_entry_eq]
  generalize (lg_sl ([.ref h, .int a1]) ++ List.replicate (2 - (lg_sl ([.ref h, .int a1])).length) Slot.unset).toArray = ls at hl ⊢
  have hl : lv_has ls 2 [(0, .ref h), (1, .int a1)] := hl
  refine lv_iload_n hx hb dX12_isSwing_0 rfl (lv_at hl 1 rfl) ?_
  refine lv_i2l (v := a1.toInt64) hx hb dX12_isSwing_1 rfl ?_
  refine lv_lconst (v := 0) hx hb dX12_isSwing_2 rfl ?_
  refine lv_aload_n hx hb dX12_isSwing_3 rfl (lv_at hl 0 rfl) ?_
  refine va_get (D := G) (ci := 10) (v := .ref q5) (C := RX12) (T := TX12) (N := 15) hx hb hts i_X12 hown hK hP 0 rfl rfl 5 (by decide) (hts (.fieldLink RX12 16 "RelayTunerModel" "now" "[I") (by decide +kernel)) (fun _ h9 => h9) rfl dX12_isSwing_4 ?_
  refine lv_bipush (v := 16) hx hb dX12_isSwing_7 (by decide) ?_
  refine al_i (D := G) (n := 154) (f := f) hx hb hK hP 1 0 rfl rfl 16 rfl (by decide) (by first | decide | omega) dX12_isSwing_9 ?_
  refine lv_iconst (v := 1) hx hb dX12_isSwing_10 (by decide) ?_
  refine lv_isub hx hb dX12_isSwing_11 ?_
  refine lv_i2l (v := ((f 16) - 1).toInt64) hx hb dX12_isSwing_12 rfl ?_
  refine cl_Ri (va_runS (As := [.long a1.toInt64, .long 0, .long (((f 16) - 1).toInt64)]) (rest := []) ⟨hx, hb, hml, hown, hts⟩ (c_X12_in l G y a1.toInt64 0 (((f 16) - 1).toInt64)) (va_cwS 3 hts gX12_isSwing_X12_in rfl rfl rfl (by decide +kernel) ⟨Nat.le_of_ble_eq_true rfl, Nat.le_of_ble_eq_true rfl⟩) (PR_S pnil hK hN) rfl rfl hl.1 rfl (lv_room (Nat.le_of_ble_eq_true rfl)) dX12_isSwing_13 ⟨Nat.le_of_ble_eq_true rfl, Nat.le_of_ble_eq_true rfl⟩) ?_
  exact W.zret hx hb hr (nz_bool (z_X12_in a1.toInt64 0 (((f 16) - 1).toInt64))) (end_Ri rfl) (fun _ h => nomatch h) dX12_isSwing_16

theorem note_8 {x v : Nat → Int32} (h : vp_in (x 8) 15) (e : v = (if (x 8) = 14 then (upd x 8 ((x 8) - 1)) else x)) : vp_in (v 8) 14 := by
  obtain ⟨j, hj, e2⟩ := vp_in_of h (by decide)
  rw [e]
  split
  · next h2 => rw [pk_us, h2]; exact vp_in_nI (n := 13) (by decide) (by decide)
  · next h2 =>
    rw [e2]
    refine vp_in_nI ?_ (by decide)
    rcases Nat.lt_or_ge j 14 with q | q
    · exact q
    · exact absurd (by rw [e2, show j = 14 by omega]; rfl) h2
theorem ref01 {P : Prop} [Decidable P] {v : Int32} (e : v = (if P then 1 else 0)) (c : s_X12_refused_r v = 0) : ¬ P := by
  intro hp
  rw [if_pos hp] at e
  rw [e] at c
  exact absurd (refused_no c) (by decide)

theorem set_in {a b : Int32} (h : ¬ s_X12_isSetting_r a b = 0) : vp_in a 11 := by
  unfold s_X12_isSetting_r at h
  dsimp only at h
  split at h
  · next q => rw [q]; exact vp_in_nI (n := 5) (by decide) (by decide)
  · split at h
    · next q => rw [q]; exact vp_in_nI (n := 6) (by decide) (by decide)
    · split at h
      · next q => rw [q]; exact vp_in_nI (n := 7) (by decide) (by decide)
      · split at h
        · exact absurd rfl h
        · next q => exact in_vp q (by decide) (by decide)
theorem swing_in {a : Int32} {f : Nat → Int32} (h16 : vp_in (f 16) 21) (h : ¬ s_X12_isSwing_r a f = 0) : vp_in a 20 := by
  obtain ⟨n, hn, e⟩ := vp_in_of h16 (by decide)
  have h2 : s_X12_in_r a.toInt64 0 ((f 16) - 1).toInt64 = 1 := by
    rcases z_X12_in a.toInt64 0 ((f 16) - 1).toInt64 with q | q
    · exact absurd q h
    · exact q
  have h3 := in_yes.mp h2
  rw [i64_of, i64_of, e] at h3
  have e9 : (nI n - nI 1).toInt = (n : Int) - 1 := pk_sub_toInt (by omega) (by omega)
  have h4 : a.toInt ≤ (nI n - nI 1).toInt := h3.2
  rw [e9] at h4
  have h5 : (0 : Int) ≤ a.toInt := h3.1
  exact vp_in_iff.mpr ⟨h5, by omega⟩
theorem sub1_in {x : Int32} {n : Nat} (h : vp_in x (n + 1)) (h0 : ¬ x = 0) (hn : n < 1000000) : vp_in (x - 1) n := by
  obtain ⟨j, hj, e⟩ := vp_in_of h (by omega)
  rw [e]
  have h1 : 0 < j := by
    rcases Nat.eq_zero_or_pos j with q | q
    · exact absurd (by rw [e, q]; rfl) h0
    · exact q
  have e9 : nI j - 1 = nI (j - 1) := pk_sub h1
  rw [e9]
  exact vp_in_nI (by omega) (by omega)
theorem open_in {f : Nat → Int32} (h17 : vp_in (f 17) 9) (h : ¬ (f 17) = 0) : vp_in ((f 17) - 1) 8 := sub1_in h17 h (by decide)
theorem act_in {x : Nat → Int32} (h8 : vp_in (x 8) 15) (h : ¬ (x 8) = 0) : vp_in ((x 8) - 1) 14 := sub1_in h8 h (by decide)
theorem good_ne {f : Nat → Int32} (_ : vp_in (f 16) 21) (c : ¬ (nI (goodP f)) = 0) : ¬ goodP f = 0 := fun h => c (by rw [h]; rfl)
theorem can_in {f : Nat → Int32} (h17 : vp_in (f 17) 9) (h : ¬ s_X12_canTry_r f = 0) : vp_in (f 17) 8 ∧ ¬ goodP f = 0 := by
  unfold s_X12_canTry_r at h
  dsimp only at h
  split at h
  · exact absurd rfl h
  · next q =>
    split at h
    · exact absurd rfl h
    · next q2 =>
      refine ⟨?_, fun h3 => q2 (by rw [h3]; decide)⟩
      obtain ⟨j, hj, e⟩ := vp_in_of h17 (by decide)
      rw [e]
      refine vp_in_nI ?_ (by decide)
      exact klt (x := f 17) (B := 8) e rfl (by omega) (by decide) q
theorem try_in {f : Nat → Int32} {a v : Int32} (_ : vp_in (f 16) 21) (h17 : vp_in (f 17) 9) (e : v = (if (s_X12_isRule_r a) = 0 then 1 else (if (s_X12_canTry_r f) = 0 then 2 else 0))) (c : s_X12_refused_r v = 0) : vp_in (f 17) 8 ∧ ¬ goodP f = 0 := by
  have h := refused_no c
  rw [e] at h
  split at h
  · exact absurd h (by decide)
  · split at h
    · exact absurd h (by decide)
    · next q => exact can_in h17 q
theorem rest_in {a v z : Int32} (e : v = (if (s_X12_in_r a.toInt64 0 1) = 0 then 1 else (if z = 0 then 2 else 0))) (c : s_X12_refused_r v = 0) : vp_in a 2 := by
  have h := refused_no c
  rw [e] at h
  split at h
  · exact absurd h (by decide)
  · next q => exact in_vp q (by decide) (by decide)

def s_X12_note_w0 (x : Nat → Int32) : Nat → Int32 := (let v_2 : Nat → Int32 := (if (x 8) = 14 then (upd x 8 ((x 8) - 1)) else x); (upd v_2 8 ((v_2 8) + 1)))
def s_X12_note_w2 (x : Nat → Int32) (f : Nat → Int32) (fd : Nat → Int32) : Nat → Int32 := (let v_2 : Nat → Int32 := (if (x 8) = 14 then (upd x 8 ((x 8) - 1)) else x); (let v_3 : Nat → Int32 := (if (x 8) = 14 then (shD 2002 fd) else fd); (va_cpy f v_3 0 (154 * tn (v_2 8)) 154)))
abbrev rmX12_note : Room := ({ frames := 1, cells := 0, slots := 0, locals := 24 } : Room)
set_option maxHeartbeats 4000000 in
set_option maxRecDepth 100000 in
theorem c_X12_note (l : Launch) (G : va_G) (y : Nat → ClassId) (h : Nat) (q1 : Nat) (q4 : Nat) (q5 : Nat) (q6 : Nat) (q7 : Nat) (q9 : Nat) (q10 : Nat) (q11 : Nat) (x : Nat → Int32) (f : Nat → Int32) (fd : Nat → Int32) (sz : Nat) (h8 : vp_in (x 8) 15) : Met l yX12_note wsX12_note rmX12_note (PH G y [.ref h] [kX12 h q1 q4 q5 q6 q7 q9 q10 q11 x, aI y q5 154 f, aI y q7 2156 fd] sz) (QHv G (fun _ : Unit => [kX12 h q1 q4 q5 q6 q7 q9 q10 q11 (s_X12_note_w0 x), aI y q5 154 f, aI y q7 2156 (s_X12_note_w2 x f fd)]) (va_A [kX12 h q1 q4 q5 q6 q7 q9 q10 q11 x, aI y q5 154 f, aI y q7 2156 fd] sz)) 0 0 (va_A [kX12 h q1 q4 q5 q6 q7 q9 q10 q11 x, aI y q5 154 f, aI y q7 2156 fd] sz) := by
  refine Met.ofW (cc := cX12_note) (maxL := 2) (ret := none) (by decide) rfl ?_
  intro p e s m args below meth c s₁ B hml hv
  obtain ⟨rfl, hsz, hP, ⟨hK, hN⟩, hD0⟩ := hv
  have hx := B.exec
  have hb := B.bytes
  have hr := B.returns
  have hts := atoms_spec (ws := wsX12_note) B.pre
  have hown : s.vm.findClass RX12 = some m.cls := findClass_of_methodNamed B.named
  have hlocks := B.notSynchronized
  have i_X12 : ∀ w ∈ u_ws RX12 TX12 15, w ∈ wsX12_note := by decide +kernel
  subst hsz
  have hD := hD0.self (sz := s.heap.size)
  generalize hAe : va_A [kX12 h q1 q4 q5 q6 q7 q9 q10 q11 x, aI y q5 154 f, aI y q7 2156 fd] s.heap.size = A at hD ⊢
  have hA : ∀ q : Nat, s.heap.size ≤ q → A q := fun q h => by rw [← hAe]; exact Or.inr h
  have hS : va_S A s.heap s.heap [] := va_S.rf
  have hP : va_P G vwCl [kX12 h q1 q4 q5 q6 q7 q9 q10 q11 x, aI y q5 154 f, aI y q7 2156 fd] s.heap := hP
  have hl := lv_entry ([.ref h]) (n := 2) (Nat.le_of_ble_eq_true rfl)
  rw [lg_entry_eq]
  generalize (lg_sl ([.ref h]) ++ List.replicate (2 - (lg_sl ([.ref h])).length) Slot.unset).toArray = ls at hl ⊢
  have hl : lv_has ls 2 [(0, .ref h)] := hl
  obtain ⟨QQ, hQQ⟩ : ∃ zq9, zq9 = MQ below (QHv G (fun _ : Unit => [kX12 h q1 q4 q5 q6 q7 q9 q10 q11 (s_X12_note_w0 x), aI y q5 154 f, aI y q7 2156 (s_X12_note_w2 x f fd)]) A) ([.ref h] : List Value).toArray s 0 0 A := ⟨_, rfl⟩
  rw [← hQQ]
  refine lv_aload_n hx hb dX12_note_0 rfl (lv_at hl 0 rfl) ?_
  refine va_get (D := G) (ci := 10) (v := .int (x 8)) (C := RX12) (T := TX12) (N := 15) hx hb hts i_X12 hown hK hP 0 rfl rfl 8 (by decide) (hts (.fieldLink RX12 145 "RelayTunerModel" "acts" "I") (by decide +kernel)) (fun _ h9 => h9) rfl dX12_note_1 ?_
  refine lv_bipush (v := 14) hx hb dX12_note_4 (by decide) ?_
  have J50_4 : ∀ (v_2 : Nat → Int32) (v_3 : Nat → Int32) (e_v_2 : v_2 = (if (x 8) = 14 then (upd x 8 ((x 8) - 1)) else x)) (e_v_3 : v_3 = (if (x 8) = 14 then (shD 2002 fd) else fd)) (H : Heap) (locs : List Loc) (hP : va_P G vwCl [kX12 h q1 q4 q5 q6 q7 q9 q10 q11 v_2, aI y q5 154 f, aI y q7 2156 v_3] H) (hD : va_D A [kX12 h q1 q4 q5 q6 q7 q9 q10 q11 v_2, aI y q5 154 f, aI y q7 2156 v_3]) (hS : va_S A s.heap H locs) (ls : Array Slot) (hl : lv_has ls 2 [(0, .ref h)]), W p l e (headSpec wsX12_note rmX12_note).room s m ([.ref h] : List Value).toArray below meth c H locs 0 0 QQ (F0 m 50 ls []) := by
    intro v_2 v_3 e_v_2 e_v_3 H locs hP hD hS ls hl
    have h14 := note_8 h8 e_v_2
    obtain ⟨hm1, hm2⟩ := in_tn h14 (by decide)
    refine lv_aload_n hx hb dX12_note_50 rfl (lv_at hl 0 rfl) ?_
    refine va_get (D := G) (ci := 10) (v := .ref q5) (C := RX12) (T := TX12) (N := 15) hx hb hts i_X12 hown hK hP 0 rfl rfl 5 (by decide) (hts (.fieldLink RX12 16 "RelayTunerModel" "now" "[I") (by decide +kernel)) (fun _ h9 => h9) rfl dX12_note_51 ?_
    refine lv_iconst (v := 0) hx hb dX12_note_54 (by decide) ?_
    refine lv_aload_n hx hb dX12_note_55 rfl (lv_at hl 0 rfl) ?_
    refine va_get (D := G) (ci := 10) (v := .ref q7) (C := RX12) (T := TX12) (N := 15) hx hb hts i_X12 hown hK hP 0 rfl rfl 7 (by decide) (hts (.fieldLink RX12 22 "RelayTunerModel" "diary" "[I") (by decide +kernel)) (fun _ h9 => h9) rfl dX12_note_56 ?_
    refine lv_sipush (v := 154) hx hb dX12_note_59 (by decide) ?_
    refine lv_aload_n hx hb dX12_note_62 rfl (lv_at hl 0 rfl) ?_
    refine va_get (D := G) (ci := 10) (v := .int (v_2 8)) (C := RX12) (T := TX12) (N := 15) hx hb hts i_X12 hown hK hP 0 rfl rfl 8 (by decide) (hts (.fieldLink RX12 145 "RelayTunerModel" "acts" "I") (by decide +kernel)) (fun _ h9 => h9) rfl dX12_note_63 ?_
    refine lv_imul hx hb dX12_note_66 ?_
    refine cl_Hv (wr := [kX12 h q1 q4 q5 q6 q7 q9 q10 q11 v_2]) (fun _ : Unit => [kX12 h q1 q4 q5 q6 q7 q9 q10 q11 v_2, aI y q5 154 f, aI y q7 2156 (va_cpy f v_3 0 (154 * tn (v_2 8)) 154)]) [1, 2] [0] [0, 1, 2] (va_runS (As := [.ref q5, .int 0, .ref q7, .int (154 * (v_2 8))]) (rest := []) ⟨hx, hb, hml, hown, hts⟩ (c_X12_copyPage l G y q5 0 q7 (154 * (v_2 8)) f v_3 0 (154 * tn (v_2 8)) 154 2156 H.size rfl (by decide) (by decide) (pg_ix _ hm1) (by omega) (by decide)) (va_cwS 4 hts gX12_note_X12_copyPage rfl rfl rfl (by decide +kernel) ⟨Nat.le_of_ble_eq_true rfl, Nat.le_of_ble_eq_true rfl⟩) (PH_S (hP.sub (ws' := [aI y q5 154 f, aI y q7 2156 v_3]) [1, 2] rfl) hK hN (hD.sub (ws' := [aI y q5 154 f, aI y q7 2156 v_3]) [1, 2] (by decide) rfl)) rfl rfl hl.1 rfl (lv_room (Nat.le_of_ble_eq_true rfl)) dX12_note_67 ⟨Nat.le_of_ble_eq_true rfl, Nat.le_of_ble_eq_true rfl⟩) hP hD hS hA rfl rfl rfl (by decide) rfl (fun _ => rfl) (fun _ H locs hP hD hS => ?_)
    have hP : va_P G vwCl [kX12 h q1 q4 q5 q6 q7 q9 q10 q11 v_2, aI y q5 154 f, aI y q7 2156 (va_cpy f v_3 0 (154 * tn (v_2 8)) 154)] H := hP
    have hD : va_D A [kX12 h q1 q4 q5 q6 q7 q9 q10 q11 v_2, aI y q5 154 f, aI y q7 2156 (va_cpy f v_3 0 (154 * tn (v_2 8)) 154)] := hD
    refine lv_aload_n hx hb dX12_note_70 rfl (lv_at hl 0 rfl) ?_
    refine lv_dup hx hb dX12_note_71 rfl ?_
    refine va_get (D := G) (ci := 10) (v := .int (v_2 8)) (C := RX12) (T := TX12) (N := 15) hx hb hts i_X12 hown hK hP 0 rfl rfl 8 (by decide) (hts (.fieldLink RX12 145 "RelayTunerModel" "acts" "I") (by decide +kernel)) (fun _ h9 => h9) rfl dX12_note_72 ?_
    refine lv_iconst (v := 1) hx hb dX12_note_75 (by decide) ?_
    refine lv_iadd hx hb dX12_note_76 ?_
    refine va_put (D := G) (ci := 10) (v := .int ((v_2 8) + 1)) (ty := .int) (C := RX12) (T := TX12) (N := 15) hx hb hts i_X12 tyX12 tyX12_ok nmX12 hown hK hP hD hS 0 rfl rfl 8 (by decide) (hts (.fieldLink RX12 145 "RelayTunerModel" "acts" "I") (by decide +kernel)) (fun _ h9 => h9) rfl (by decide +kernel) rfl rfl (Nat.le_of_ble_eq_true rfl) dX12_note_77 (fun H locs hP hD hS => ?_)
    have hP : va_P G vwCl [kX12 h q1 q4 q5 q6 q7 q9 q10 q11 (upd v_2 8 ((v_2 8) + 1)), aI y q5 154 f, aI y q7 2156 (va_cpy f v_3 0 (154 * tn (v_2 8)) 154)] H := hP
    have hD : va_D A [kX12 h q1 q4 q5 q6 q7 q9 q10 q11 (upd v_2 8 ((v_2 8) + 1)), aI y q5 154 f, aI y q7 2156 (va_cpy f v_3 0 (154 * tn (v_2 8)) 154)] := hD
    rw [hQQ]
    exact W.vret hx hb hr (end_Hv () hP hD hS (congr (congrArg (fun (z0 : Nat → Int32) (z2 : Nat → Int32) => [kX12 h q1 q4 q5 q6 q7 q9 q10 q11 z0, aI y q5 154 f, aI y q7 2156 z2]) (by subst e_v_3; subst e_v_2; unfold s_X12_note_w0; exact rfl)) (by subst e_v_3; subst e_v_2; unfold s_X12_note_w2; exact rfl))) hS.2.2 dX12_note_80
  refine lv_icmp_ne (tgt := 50) hx hb dX12_note_6 (by decide) (fun c_1 => ?_) (fun c_1 => ?_)
  · exact J50_4 _ _ (if_neg c_1).symm (if_neg c_1).symm s.heap [] hP hD hS ls (lv_sub hl [0] rfl)
  · refine lv_iconst (v := 0) hx hb dX12_note_9 (by decide) ?_
    refine lv_istore_n (lv' := [(1, .int 0), (0, .ref h)]) hx hb dX12_note_10 rfl hl (by decide) rfl (fun ls hl => ?_)
    have LOOP11_5 : ∀ (n_6 : Nat) (k0 : Nat) (x1 : Int32) (w : Nat → Int32) (hx1 : x1 = nI k0) (hk : k0 ≤ 2002) (hw : w = shD k0 fd) (hn_8 : 2002 - k0 < n_6) (H : Heap) (locs : List Loc) (hP : va_P G vwCl [kX12 h q1 q4 q5 q6 q7 q9 q10 q11 x, aI y q5 154 f, aI y q7 2156 w] H) (hD : va_D A [kX12 h q1 q4 q5 q6 q7 q9 q10 q11 x, aI y q5 154 f, aI y q7 2156 w]) (hS : va_S A s.heap H locs) (ls : Array Slot) (hl : lv_has ls 2 [(1, .int x1), (0, .ref h)]), W p l e (headSpec wsX12_note rmX12_note).room s m ([.ref h] : List Value).toArray below meth c H locs 0 0 QQ (F0 m 11 ls []) := by
      intro n_6
      induction n_6 with
      | zero => intro k0 x1 w hx1 hk hw hn_8 H locs hP hD hS ls hl; exact absurd hn_8 (Nat.not_lt_zero _)
      | succ n_6 ih_7 =>
        intro k0 x1 w hx1 hk hw hn_8 H locs hP hD hS ls hl
        refine lv_iload_n hx hb dX12_note_11 rfl (lv_at hl 0 rfl) ?_
        refine lv_sipush (v := 2002) hx hb dX12_note_12 (by decide) ?_
        refine lv_icmp_ge (tgt := 40) hx hb dX12_note_15 (by decide) (fun c_9 => ?_) (fun c_9 => ?_)
        · have hk9 : 2002 ≤ k0 := kge hx1 rfl (by omega) (by decide) c_9
          have hw2 : w = shD 2002 fd := by rw [hw, show k0 = 2002 by omega]
          subst hw2
          refine lv_aload_n hx hb dX12_note_40 rfl (lv_at hl 1 rfl) ?_
          refine lv_dup hx hb dX12_note_41 rfl ?_
          refine va_get (D := G) (ci := 10) (v := .int (x 8)) (C := RX12) (T := TX12) (N := 15) hx hb hts i_X12 hown hK hP 0 rfl rfl 8 (by decide) (hts (.fieldLink RX12 145 "RelayTunerModel" "acts" "I") (by decide +kernel)) (fun _ h9 => h9) rfl dX12_note_42 ?_
          refine lv_iconst (v := 1) hx hb dX12_note_45 (by decide) ?_
          refine lv_isub hx hb dX12_note_46 ?_
          refine va_put (D := G) (ci := 10) (v := .int ((x 8) - 1)) (ty := .int) (C := RX12) (T := TX12) (N := 15) hx hb hts i_X12 tyX12 tyX12_ok nmX12 hown hK hP hD hS 0 rfl rfl 8 (by decide) (hts (.fieldLink RX12 145 "RelayTunerModel" "acts" "I") (by decide +kernel)) (fun _ h9 => h9) rfl (by decide +kernel) rfl rfl (Nat.le_of_ble_eq_true rfl) dX12_note_47 (fun H locs hP hD hS => ?_)
          have hP : va_P G vwCl [kX12 h q1 q4 q5 q6 q7 q9 q10 q11 (upd x 8 ((x 8) - 1)), aI y q5 154 f, aI y q7 2156 (shD 2002 fd)] H := hP
          have hD : va_D A [kX12 h q1 q4 q5 q6 q7 q9 q10 q11 (upd x 8 ((x 8) - 1)), aI y q5 154 f, aI y q7 2156 (shD 2002 fd)] := hD
          exact J50_4 _ _ (if_pos c_1).symm (if_pos c_1).symm H locs hP hD hS ls (lv_sub hl [1] rfl)
        · have hk9 : k0 < 2002 := klt hx1 rfl (by omega) (by decide) c_9
          refine lv_aload_n hx hb dX12_note_18 rfl (lv_at hl 1 rfl) ?_
          refine va_get (D := G) (ci := 10) (v := .ref q7) (C := RX12) (T := TX12) (N := 15) hx hb hts i_X12 hown hK hP 0 rfl rfl 7 (by decide) (hts (.fieldLink RX12 22 "RelayTunerModel" "diary" "[I") (by decide +kernel)) (fun _ h9 => h9) rfl dX12_note_19 ?_
          refine lv_iload_n hx hb dX12_note_22 rfl (lv_at hl 0 rfl) ?_
          refine lv_aload_n hx hb dX12_note_23 rfl (lv_at hl 1 rfl) ?_
          refine va_get (D := G) (ci := 10) (v := .ref q7) (C := RX12) (T := TX12) (N := 15) hx hb hts i_X12 hown hK hP 0 rfl rfl 7 (by decide) (hts (.fieldLink RX12 22 "RelayTunerModel" "diary" "[I") (by decide +kernel)) (fun _ h9 => h9) rfl dX12_note_24 ?_
          refine lv_iload_n hx hb dX12_note_27 rfl (lv_at hl 0 rfl) ?_
          refine lv_sipush (v := 154) hx hb dX12_note_28 (by decide) ?_
          refine lv_iadd hx hb dX12_note_31 ?_
          refine al_i (D := G) (n := 2156) (f := w) hx hb hK hP 2 0 rfl rfl (k0 + 154) (by rw [hx1]; exact nI_add k0 154) (by omega) (by first | decide | omega) dX12_note_32 ?_
          refine as_i (D := G) (n := 2156) (f := w) hx hb hK hP hD hS 2 0 rfl rfl k0 hx1 (by omega) (by first | decide | omega) dX12_note_33 (fun H locs hP hD hS => ?_)
          have hP : va_P G vwCl [kX12 h q1 q4 q5 q6 q7 q9 q10 q11 x, aI y q5 154 f, aI y q7 2156 (upd w k0 (w (k0 + 154)))] H := hP
          have hD : va_D A [kX12 h q1 q4 q5 q6 q7 q9 q10 q11 x, aI y q5 154 f, aI y q7 2156 (upd w k0 (w (k0 + 154)))] := hD
          refine lv_iinc (v := (x1 + 1)) (lv' := [(1, .int (x1 + 1)), (0, .ref h)]) hx hb dX12_note_34 hl (k := 0) rfl (by first | rfl | decide) (by decide) rfl (fun ls hl => ?_)
          refine lv_goto (tgt := 11) hx hb dX12_note_37 (by decide) ?_
          exact ih_7 (k0 + 1) (x1 + 1) (upd w k0 (w (k0 + 154))) (by rw [hx1]; exact nI_1 k0) (by omega) (by rw [hw]; exact shD_s k0 fd) (by omega) H locs hP hD hS ls (lv_sub hl [0, 1] rfl)
    exact LOOP11_5 (2002 - 0 + 1) 0 0 fd rfl (by omega) (shD_0 fd).symm (Nat.lt_succ_self _) s.heap [] hP hD hS ls (lv_sub hl [0, 1] rfl)

def s_X12_tick_r (a1 : Int32) (f : Nat → Int32) : Int32 := (let v_2 : Int32 := (if (s_X12_in_r a1.toInt64 1 200) = 0 then 1 else 0); (if (s_X12_refused_r v_2) = 0 then ((itF s_X12_tickOn_w0 (tn a1) f) 12) else 0))
def s_X12_tick_w0 (a1 : Int32) (x : Nat → Int32) : Nat → Int32 := (let v_2 : Int32 := (if (s_X12_in_r a1.toInt64 1 200) = 0 then 1 else 0); (if (s_X12_refused_r v_2) = 0 then (s_X12_note_w0 (upd x 0 v_2)) else (upd x 0 v_2)))
def s_X12_tick_w1 (a1 : Int32) (f : Nat → Int32) : Nat → Int32 := (let v_2 : Int32 := (if (s_X12_in_r a1.toInt64 1 200) = 0 then 1 else 0); (if (s_X12_refused_r v_2) = 0 then (itF s_X12_tickOn_w0 (tn a1) f) else f))
def s_X12_tick_w2 (a1 : Int32) (x : Nat → Int32) (f : Nat → Int32) (fd : Nat → Int32) : Nat → Int32 := (let v_2 : Int32 := (if (s_X12_in_r a1.toInt64 1 200) = 0 then 1 else 0); (if (s_X12_refused_r v_2) = 0 then (s_X12_note_w2 (upd x 0 v_2) f fd) else fd))
abbrev rmX12_tick : Room := ({ frames := 5, cells := 0, slots := 0, locals := 109 } : Room)
set_option maxHeartbeats 4000000 in
set_option maxRecDepth 100000 in
theorem c_X12_tick (l : Launch) (G : va_G) (y : Nat → ClassId) (h : Nat) (a1 : Int32) (q1 : Nat) (q4 : Nat) (q5 : Nat) (q6 : Nat) (q7 : Nat) (q9 : Nat) (q10 : Nat) (q11 : Nat) (x : Nat → Int32) (f : Nat → Int32) (fd : Nat → Int32) (sz : Nat) (h8 : vp_in (x 8) 15) (hg : TK f) : Met l yX12_tick wsX12_tick rmX12_tick (PH G y [.ref h, .int a1] [kX12 h q1 q4 q5 q6 q7 q9 q10 q11 x, aI y q5 154 f, aI y q7 2156 fd] sz) (QHi G (s_X12_tick_r a1 f) (fun _ : Unit => [kX12 h q1 q4 q5 q6 q7 q9 q10 q11 (s_X12_tick_w0 a1 x), aI y q5 154 (s_X12_tick_w1 a1 f), aI y q7 2156 (s_X12_tick_w2 a1 x f fd)]) (va_A [kX12 h q1 q4 q5 q6 q7 q9 q10 q11 x, aI y q5 154 f, aI y q7 2156 fd] sz)) 0 0 (va_A [kX12 h q1 q4 q5 q6 q7 q9 q10 q11 x, aI y q5 154 f, aI y q7 2156 fd] sz) := by
  refine Met.ofW (cc := cX12_tick) (maxL := 2) (ret := (some .int)) (by decide) rfl ?_
  intro p e s m args below meth c s₁ B hml hv
  obtain ⟨rfl, hsz, hP, ⟨hK, hN⟩, hD0⟩ := hv
  have hx := B.exec
  have hb := B.bytes
  have hr := B.returns
  have hts := atoms_spec (ws := wsX12_tick) B.pre
  have hown : s.vm.findClass RX12 = some m.cls := findClass_of_methodNamed B.named
  have hlocks := B.notSynchronized
  have i_X12 : ∀ w ∈ u_ws RX12 TX12 15, w ∈ wsX12_tick := by decide +kernel
  subst hsz
  have hD := hD0.self (sz := s.heap.size)
  generalize hAe : va_A [kX12 h q1 q4 q5 q6 q7 q9 q10 q11 x, aI y q5 154 f, aI y q7 2156 fd] s.heap.size = A at hD ⊢
  have hA : ∀ q : Nat, s.heap.size ≤ q → A q := fun q h => by rw [← hAe]; exact Or.inr h
  have hS : va_S A s.heap s.heap [] := va_S.rf
  have hP : va_P G vwCl [kX12 h q1 q4 q5 q6 q7 q9 q10 q11 x, aI y q5 154 f, aI y q7 2156 fd] s.heap := hP
  have hl := lv_entry ([.ref h, .int a1]) (n := 2) (Nat.le_of_ble_eq_true rfl)
  rw [lg_entry_eq]
  generalize (lg_sl ([.ref h, .int a1]) ++ List.replicate (2 - (lg_sl ([.ref h, .int a1])).length) Slot.unset).toArray = ls at hl ⊢
  have hl : lv_has ls 2 [(0, .ref h), (1, .int a1)] := hl
  obtain ⟨QQ, hQQ⟩ : ∃ zq9, zq9 = MQ below (QHi G (s_X12_tick_r a1 f) (fun _ : Unit => [kX12 h q1 q4 q5 q6 q7 q9 q10 q11 (s_X12_tick_w0 a1 x), aI y q5 154 (s_X12_tick_w1 a1 f), aI y q7 2156 (s_X12_tick_w2 a1 x f fd)]) A) ([.ref h, .int a1] : List Value).toArray s 0 0 A := ⟨_, rfl⟩
  rw [← hQQ]
  refine lv_aload_n hx hb dX12_tick_0 rfl (lv_at hl 0 rfl) ?_
  refine lv_iload_n hx hb dX12_tick_1 rfl (lv_at hl 1 rfl) ?_
  refine lv_i2l (v := a1.toInt64) hx hb dX12_tick_2 rfl ?_
  refine lv_lconst (v := 1) hx hb dX12_tick_3 rfl ?_
  refine lv_ldc2 (v := 200) hx hb hown (hts (.constantLong RX12 157 200) (by decide +kernel)) dX12_tick_4 ?_
  refine cl_Ri (va_runS (As := [.long a1.toInt64, .long 1, .long 200]) (rest := [.ref h]) ⟨hx, hb, hml, hown, hts⟩ (c_X12_in l G y a1.toInt64 1 200) (va_cwS 3 hts gX12_tick_X12_in rfl rfl rfl (by decide +kernel) ⟨Nat.le_of_ble_eq_true rfl, Nat.le_of_ble_eq_true rfl⟩) (PR_S pnil hK hN) rfl rfl hl.1 rfl (lv_room (Nat.le_of_ble_eq_true rfl)) dX12_tick_7 ⟨Nat.le_of_ble_eq_true rfl, Nat.le_of_ble_eq_true rfl⟩) ?_
  have J18_4 : ∀ (v_2 : Int32) (e_v_2 : v_2 = (if (s_X12_in_r a1.toInt64 1 200) = 0 then 1 else 0)) (z_3 : v_2 = 0 ∨ v_2 = 1) (ls : Array Slot) (hl : lv_has ls 2 [(0, .ref h), (1, .int a1)]), W p l e (headSpec wsX12_tick rmX12_tick).room s m ([.ref h, .int a1] : List Value).toArray below meth c s.heap [] 0 0 QQ (F0 m 18 ls [.int v_2, .ref h]) := by
    intro v_2 e_v_2 z_3 ls hl
    refine cl_Hi (wr := [aI y q5 154 f, aI y q7 2156 fd]) (fun _ : Unit => [kX12 h q1 q4 q5 q6 q7 q9 q10 q11 (upd x 0 v_2), aI y q5 154 f, aI y q7 2156 fd]) [0] [1, 2] [2, 0, 1] (va_runV (As := [.int v_2]) (rest := []) ⟨hx, hb, hml, hown, hts⟩ (c_X12_refused l G y h v_2 q1 q4 q5 q6 q7 q9 q10 q11 x s.heap.size) (cwV 1 hts gX12_tick_X12_refused rfl rfl rfl (by decide +kernel) ⟨Nat.le_of_ble_eq_true rfl, Nat.le_of_ble_eq_true rfl⟩) (PH_V (hP.sub (ws' := [kX12 h q1 q4 q5 q6 q7 q9 q10 q11 x]) [0] rfl) hK hN (hD.sub (ws' := [kX12 h q1 q4 q5 q6 q7 q9 q10 q11 x]) [0] (by decide) rfl) (ci := 10) (q0 := 0) rfl rfl) rfl rfl hl.1 rfl (lv_room (Nat.le_of_ble_eq_true rfl)) dX12_tick_18 ⟨Nat.le_of_ble_eq_true rfl, Nat.le_of_ble_eq_true rfl⟩) hP hD hS hA rfl rfl rfl (by decide) rfl (fun _ => rfl) (fun _ H locs hP hD hS => ?_)
    have hP : va_P G vwCl [kX12 h q1 q4 q5 q6 q7 q9 q10 q11 (upd x 0 v_2), aI y q5 154 f, aI y q7 2156 fd] H := hP
    have hD : va_D A [kX12 h q1 q4 q5 q6 q7 q9 q10 q11 (upd x 0 v_2), aI y q5 154 f, aI y q7 2156 fd] := hD
    refine lv_if_eq (tgt := 26) hx hb dX12_tick_21 (by decide) (fun c_5 => ?_) (fun c_5 => ?_)
    · have hin : vp_in a1 201 := in_vp (ref01 e_v_2 c_5) (by decide) (by decide)
      refine lv_aload_n hx hb dX12_tick_26 rfl (lv_at hl 0 rfl) ?_
      refine cl_Hv (wr := []) (fun _ : Unit => [kX12 h q1 q4 q5 q6 q7 q9 q10 q11 (s_X12_note_w0 (upd x 0 v_2)), aI y q5 154 f, aI y q7 2156 (s_X12_note_w2 (upd x 0 v_2) f fd)]) [0, 1, 2] [] [0, 1, 2] (va_runV (As := []) (rest := []) ⟨hx, hb, hml, hown, hts⟩ (c_X12_note l G y h q1 q4 q5 q6 q7 q9 q10 q11 (upd x 0 v_2) f fd H.size (by show vp_in (x 8) 15; exact h8)) (cwV 0 hts gX12_tick_X12_note rfl rfl rfl (by decide +kernel) ⟨Nat.le_of_ble_eq_true rfl, Nat.le_of_ble_eq_true rfl⟩) (PH_V (hP.sub (ws' := [kX12 h q1 q4 q5 q6 q7 q9 q10 q11 (upd x 0 v_2), aI y q5 154 f, aI y q7 2156 fd]) [0, 1, 2] rfl) hK hN (hD.sub (ws' := [kX12 h q1 q4 q5 q6 q7 q9 q10 q11 (upd x 0 v_2), aI y q5 154 f, aI y q7 2156 fd]) [0, 1, 2] (by decide) rfl) (ci := 10) (q0 := 0) rfl rfl) rfl rfl hl.1 rfl (lv_room (Nat.le_of_ble_eq_true rfl)) dX12_tick_27 ⟨Nat.le_of_ble_eq_true rfl, Nat.le_of_ble_eq_true rfl⟩) hP hD hS hA rfl rfl rfl (by decide) rfl (fun _ => rfl) (fun _ H locs hP hD hS => ?_)
      have hP : va_P G vwCl [kX12 h q1 q4 q5 q6 q7 q9 q10 q11 (s_X12_note_w0 (upd x 0 v_2)), aI y q5 154 f, aI y q7 2156 (s_X12_note_w2 (upd x 0 v_2) f fd)] H := hP
      have hD : va_D A [kX12 h q1 q4 q5 q6 q7 q9 q10 q11 (s_X12_note_w0 (upd x 0 v_2)), aI y q5 154 f, aI y q7 2156 (s_X12_note_w2 (upd x 0 v_2) f fd)] := hD
      refine lv_aload_n hx hb dX12_tick_30 rfl (lv_at hl 0 rfl) ?_
      refine va_get (D := G) (ci := 10) (v := .ref q5) (C := RX12) (T := TX12) (N := 15) hx hb hts i_X12 hown hK hP 0 rfl rfl 5 (by decide) (hts (.fieldLink RX12 16 "RelayTunerModel" "now" "[I") (by decide +kernel)) (fun _ h9 => h9) rfl dX12_tick_31 ?_
      refine lv_iload_n hx hb dX12_tick_34 rfl (lv_at hl 1 rfl) ?_
      refine cl_Hv (wr := [kX12 h q1 q4 q5 q6 q7 q9 q10 q11 (s_X12_note_w0 (upd x 0 v_2)), aI y q7 2156 (s_X12_note_w2 (upd x 0 v_2) f fd)]) (fun _ : Unit => [kX12 h q1 q4 q5 q6 q7 q9 q10 q11 (s_X12_note_w0 (upd x 0 v_2)), aI y q5 154 (itF s_X12_tickOn_w0 (tn a1) f), aI y q7 2156 (s_X12_note_w2 (upd x 0 v_2) f fd)]) [1] [0, 2] [0, 2, 1] (va_runS (As := [.ref q5, .int a1]) (rest := []) ⟨hx, hb, hml, hown, hts⟩ (c_X12_ticksOn l G y q5 a1 f (tn a1) H.size hg (in_tn hin (by decide)).1 (by have := (in_tn hin (by decide)).2; omega)) (va_cwS 2 hts gX12_tick_X12_ticksOn rfl rfl rfl (by decide +kernel) ⟨Nat.le_of_ble_eq_true rfl, Nat.le_of_ble_eq_true rfl⟩) (PH_S (hP.sub (ws' := [aI y q5 154 f]) [1] rfl) hK hN (hD.sub (ws' := [aI y q5 154 f]) [1] (by decide) rfl)) rfl rfl hl.1 rfl (lv_room (Nat.le_of_ble_eq_true rfl)) dX12_tick_35 ⟨Nat.le_of_ble_eq_true rfl, Nat.le_of_ble_eq_true rfl⟩) hP hD hS hA rfl rfl rfl (by decide) rfl (fun _ => rfl) (fun _ H locs hP hD hS => ?_)
      have hP : va_P G vwCl [kX12 h q1 q4 q5 q6 q7 q9 q10 q11 (s_X12_note_w0 (upd x 0 v_2)), aI y q5 154 (itF s_X12_tickOn_w0 (tn a1) f), aI y q7 2156 (s_X12_note_w2 (upd x 0 v_2) f fd)] H := hP
      have hD : va_D A [kX12 h q1 q4 q5 q6 q7 q9 q10 q11 (s_X12_note_w0 (upd x 0 v_2)), aI y q5 154 (itF s_X12_tickOn_w0 (tn a1) f), aI y q7 2156 (s_X12_note_w2 (upd x 0 v_2) f fd)] := hD
      refine lv_aload_n hx hb dX12_tick_38 rfl (lv_at hl 0 rfl) ?_
      refine va_get (D := G) (ci := 10) (v := .ref q5) (C := RX12) (T := TX12) (N := 15) hx hb hts i_X12 hown hK hP 0 rfl rfl 5 (by decide) (hts (.fieldLink RX12 16 "RelayTunerModel" "now" "[I") (by decide +kernel)) (fun _ h9 => h9) rfl dX12_tick_39 ?_
      refine lv_bipush (v := 12) hx hb dX12_tick_42 (by decide) ?_
      refine al_i (D := G) (n := 154) (f := (itF s_X12_tickOn_w0 (tn a1) f)) hx hb hK hP 1 0 rfl rfl 12 rfl (by decide) (by first | decide | omega) dX12_tick_44 ?_
      rw [hQQ]
      exact W.iret hx hb hr (end_Hi () hP hD hS (by subst e_v_2; unfold s_X12_tick_r; exact (if_pos c_5).symm) (congr (congr (congrArg (fun (z0 : Nat → Int32) (z1 : Nat → Int32) (z2 : Nat → Int32) => [kX12 h q1 q4 q5 q6 q7 q9 q10 q11 z0, aI y q5 154 z1, aI y q7 2156 z2]) (by subst e_v_2; unfold s_X12_tick_w0; exact (if_pos c_5).symm)) (by subst e_v_2; unfold s_X12_tick_w1; exact (if_pos c_5).symm)) (by subst e_v_2; unfold s_X12_tick_w2; exact (if_pos c_5).symm))) hS.2.2 dX12_tick_45
    · refine lv_iconst (v := 0) hx hb dX12_tick_24 (by decide) ?_
      rw [hQQ]
      exact W.iret hx hb hr (end_Hi () hP hD hS (by subst e_v_2; unfold s_X12_tick_r; exact (if_neg c_5).symm) (congr (congr (congrArg (fun (z0 : Nat → Int32) (z1 : Nat → Int32) (z2 : Nat → Int32) => [kX12 h q1 q4 q5 q6 q7 q9 q10 q11 z0, aI y q5 154 z1, aI y q7 2156 z2]) (by subst e_v_2; unfold s_X12_tick_w0; exact (if_neg c_5).symm)) (by subst e_v_2; unfold s_X12_tick_w1; exact (if_neg c_5).symm)) (by subst e_v_2; unfold s_X12_tick_w2; exact (if_neg c_5).symm))) hS.2.2 dX12_tick_25
  refine lv_if_eq (tgt := 17) hx hb dX12_tick_10 (by decide) (fun c_1 => ?_) (fun c_1 => ?_)
  · refine lv_iconst (v := 1) hx hb dX12_tick_17 (by decide) ?_
    exact J18_4 _ (if_pos c_1).symm (Or.inr rfl) ls (lv_sub hl [0, 1] rfl)
  · refine lv_iconst (v := 0) hx hb dX12_tick_13 (by decide) ?_
    refine lv_goto (tgt := 18) hx hb dX12_tick_14 (by decide) ?_
    exact J18_4 _ (if_neg c_1).symm (Or.inl rfl) ls (lv_sub hl [0, 1] rfl)

def s_X12_mode_r (a1 : Int32) (f : Nat → Int32) : Int32 := (let v_2 : Int32 := (if (s_X12_isMode_r a1) = 0 then 1 else 0); (if (s_X12_refused_r v_2) = 0 then (f 11) else 0))
def s_X12_mode_w0 (a1 : Int32) (x : Nat → Int32) : Nat → Int32 := (let v_2 : Int32 := (if (s_X12_isMode_r a1) = 0 then 1 else 0); (if (s_X12_refused_r v_2) = 0 then (s_X12_note_w0 (upd x 0 v_2)) else (upd x 0 v_2)))
def s_X12_mode_w1 (a1 : Int32) (f : Nat → Int32) : Nat → Int32 := (let v_2 : Int32 := (if (s_X12_isMode_r a1) = 0 then 1 else 0); (if (s_X12_refused_r v_2) = 0 then (s_X12_modeOn_w0 a1 f) else f))
def s_X12_mode_w2 (a1 : Int32) (x : Nat → Int32) (f : Nat → Int32) (fd : Nat → Int32) : Nat → Int32 := (let v_2 : Int32 := (if (s_X12_isMode_r a1) = 0 then 1 else 0); (if (s_X12_refused_r v_2) = 0 then (s_X12_note_w2 (upd x 0 v_2) f fd) else fd))
abbrev rmX12_mode : Room := ({ frames := 2, cells := 0, slots := 0, locals := 45 } : Room)
set_option maxHeartbeats 4000000 in
set_option maxRecDepth 100000 in
theorem c_X12_mode (l : Launch) (G : va_G) (y : Nat → ClassId) (h : Nat) (a1 : Int32) (q1 : Nat) (q4 : Nat) (q5 : Nat) (q6 : Nat) (q7 : Nat) (q9 : Nat) (q10 : Nat) (q11 : Nat) (x : Nat → Int32) (f : Nat → Int32) (fd : Nat → Int32) (sz : Nat) (h8 : vp_in (x 8) 15) : Met l yX12_mode wsX12_mode rmX12_mode (PH G y [.ref h, .int a1] [kX12 h q1 q4 q5 q6 q7 q9 q10 q11 x, aI y q5 154 f, aI y q7 2156 fd] sz) (QHi G (s_X12_mode_r a1 f) (fun _ : Unit => [kX12 h q1 q4 q5 q6 q7 q9 q10 q11 (s_X12_mode_w0 a1 x), aI y q5 154 (s_X12_mode_w1 a1 f), aI y q7 2156 (s_X12_mode_w2 a1 x f fd)]) (va_A [kX12 h q1 q4 q5 q6 q7 q9 q10 q11 x, aI y q5 154 f, aI y q7 2156 fd] sz)) 0 0 (va_A [kX12 h q1 q4 q5 q6 q7 q9 q10 q11 x, aI y q5 154 f, aI y q7 2156 fd] sz) := by
  refine Met.ofW (cc := cX12_mode) (maxL := 3) (ret := (some .int)) (by decide) rfl ?_
  intro p e s m args below meth c s₁ B hml hv
  obtain ⟨rfl, hsz, hP, ⟨hK, hN⟩, hD0⟩ := hv
  have hx := B.exec
  have hb := B.bytes
  have hr := B.returns
  have hts := atoms_spec (ws := wsX12_mode) B.pre
  have hown : s.vm.findClass RX12 = some m.cls := findClass_of_methodNamed B.named
  have hlocks := B.notSynchronized
  have i_X12 : ∀ w ∈ u_ws RX12 TX12 15, w ∈ wsX12_mode := by decide +kernel
  subst hsz
  have hD := hD0.self (sz := s.heap.size)
  generalize hAe : va_A [kX12 h q1 q4 q5 q6 q7 q9 q10 q11 x, aI y q5 154 f, aI y q7 2156 fd] s.heap.size = A at hD ⊢
  have hA : ∀ q : Nat, s.heap.size ≤ q → A q := fun q h => by rw [← hAe]; exact Or.inr h
  have hS : va_S A s.heap s.heap [] := va_S.rf
  have hP : va_P G vwCl [kX12 h q1 q4 q5 q6 q7 q9 q10 q11 x, aI y q5 154 f, aI y q7 2156 fd] s.heap := hP
  have hl := lv_entry ([.ref h, .int a1]) (n := 3) (Nat.le_of_ble_eq_true rfl)
  rw [lg_entry_eq]
  generalize (lg_sl ([.ref h, .int a1]) ++ List.replicate (3 - (lg_sl ([.ref h, .int a1])).length) Slot.unset).toArray = ls at hl ⊢
  have hl : lv_has ls 3 [(0, .ref h), (1, .int a1)] := hl
  obtain ⟨QQ, hQQ⟩ : ∃ zq9, zq9 = MQ below (QHi G (s_X12_mode_r a1 f) (fun _ : Unit => [kX12 h q1 q4 q5 q6 q7 q9 q10 q11 (s_X12_mode_w0 a1 x), aI y q5 154 (s_X12_mode_w1 a1 f), aI y q7 2156 (s_X12_mode_w2 a1 x f fd)]) A) ([.ref h, .int a1] : List Value).toArray s 0 0 A := ⟨_, rfl⟩
  rw [← hQQ]
  refine lv_aload_n hx hb dX12_mode_0 rfl (lv_at hl 0 rfl) ?_
  refine lv_iload_n hx hb dX12_mode_1 rfl (lv_at hl 1 rfl) ?_
  refine cl_Ri (va_runS (As := [.int a1]) (rest := [.ref h]) ⟨hx, hb, hml, hown, hts⟩ (c_X12_isMode l G y a1) (va_cwS 1 hts gX12_mode_X12_isMode rfl rfl rfl (by decide +kernel) ⟨Nat.le_of_ble_eq_true rfl, Nat.le_of_ble_eq_true rfl⟩) (PR_S pnil hK hN) rfl rfl hl.1 rfl (lv_room (Nat.le_of_ble_eq_true rfl)) dX12_mode_2 ⟨Nat.le_of_ble_eq_true rfl, Nat.le_of_ble_eq_true rfl⟩) ?_
  have J13_4 : ∀ (v_2 : Int32) (e_v_2 : v_2 = (if (s_X12_isMode_r a1) = 0 then 1 else 0)) (z_3 : v_2 = 0 ∨ v_2 = 1) (ls : Array Slot) (hl : lv_has ls 3 [(0, .ref h), (1, .int a1)]), W p l e (headSpec wsX12_mode rmX12_mode).room s m ([.ref h, .int a1] : List Value).toArray below meth c s.heap [] 0 0 QQ (F0 m 13 ls [.int v_2, .ref h]) := by
    intro v_2 e_v_2 z_3 ls hl
    refine cl_Hi (wr := [aI y q5 154 f, aI y q7 2156 fd]) (fun _ : Unit => [kX12 h q1 q4 q5 q6 q7 q9 q10 q11 (upd x 0 v_2), aI y q5 154 f, aI y q7 2156 fd]) [0] [1, 2] [2, 0, 1] (va_runV (As := [.int v_2]) (rest := []) ⟨hx, hb, hml, hown, hts⟩ (c_X12_refused l G y h v_2 q1 q4 q5 q6 q7 q9 q10 q11 x s.heap.size) (cwV 1 hts gX12_mode_X12_refused rfl rfl rfl (by decide +kernel) ⟨Nat.le_of_ble_eq_true rfl, Nat.le_of_ble_eq_true rfl⟩) (PH_V (hP.sub (ws' := [kX12 h q1 q4 q5 q6 q7 q9 q10 q11 x]) [0] rfl) hK hN (hD.sub (ws' := [kX12 h q1 q4 q5 q6 q7 q9 q10 q11 x]) [0] (by decide) rfl) (ci := 10) (q0 := 0) rfl rfl) rfl rfl hl.1 rfl (lv_room (Nat.le_of_ble_eq_true rfl)) dX12_mode_13 ⟨Nat.le_of_ble_eq_true rfl, Nat.le_of_ble_eq_true rfl⟩) hP hD hS hA rfl rfl rfl (by decide) rfl (fun _ => rfl) (fun _ H locs hP hD hS => ?_)
    have hP : va_P G vwCl [kX12 h q1 q4 q5 q6 q7 q9 q10 q11 (upd x 0 v_2), aI y q5 154 f, aI y q7 2156 fd] H := hP
    have hD : va_D A [kX12 h q1 q4 q5 q6 q7 q9 q10 q11 (upd x 0 v_2), aI y q5 154 f, aI y q7 2156 fd] := hD
    refine lv_if_eq (tgt := 21) hx hb dX12_mode_16 (by decide) (fun c_5 => ?_) (fun c_5 => ?_)
    · refine lv_aload_n hx hb dX12_mode_21 rfl (lv_at hl 0 rfl) ?_
      refine cl_Hv (wr := []) (fun _ : Unit => [kX12 h q1 q4 q5 q6 q7 q9 q10 q11 (s_X12_note_w0 (upd x 0 v_2)), aI y q5 154 f, aI y q7 2156 (s_X12_note_w2 (upd x 0 v_2) f fd)]) [0, 1, 2] [] [0, 1, 2] (va_runV (As := []) (rest := []) ⟨hx, hb, hml, hown, hts⟩ (c_X12_note l G y h q1 q4 q5 q6 q7 q9 q10 q11 (upd x 0 v_2) f fd H.size (by show vp_in (x 8) 15; exact h8)) (cwV 0 hts gX12_mode_X12_note rfl rfl rfl (by decide +kernel) ⟨Nat.le_of_ble_eq_true rfl, Nat.le_of_ble_eq_true rfl⟩) (PH_V (hP.sub (ws' := [kX12 h q1 q4 q5 q6 q7 q9 q10 q11 (upd x 0 v_2), aI y q5 154 f, aI y q7 2156 fd]) [0, 1, 2] rfl) hK hN (hD.sub (ws' := [kX12 h q1 q4 q5 q6 q7 q9 q10 q11 (upd x 0 v_2), aI y q5 154 f, aI y q7 2156 fd]) [0, 1, 2] (by decide) rfl) (ci := 10) (q0 := 0) rfl rfl) rfl rfl hl.1 rfl (lv_room (Nat.le_of_ble_eq_true rfl)) dX12_mode_22 ⟨Nat.le_of_ble_eq_true rfl, Nat.le_of_ble_eq_true rfl⟩) hP hD hS hA rfl rfl rfl (by decide) rfl (fun _ => rfl) (fun _ H locs hP hD hS => ?_)
      have hP : va_P G vwCl [kX12 h q1 q4 q5 q6 q7 q9 q10 q11 (s_X12_note_w0 (upd x 0 v_2)), aI y q5 154 f, aI y q7 2156 (s_X12_note_w2 (upd x 0 v_2) f fd)] H := hP
      have hD : va_D A [kX12 h q1 q4 q5 q6 q7 q9 q10 q11 (s_X12_note_w0 (upd x 0 v_2)), aI y q5 154 f, aI y q7 2156 (s_X12_note_w2 (upd x 0 v_2) f fd)] := hD
      refine lv_aload_n hx hb dX12_mode_25 rfl (lv_at hl 0 rfl) ?_
      refine va_get (D := G) (ci := 10) (v := .ref q5) (C := RX12) (T := TX12) (N := 15) hx hb hts i_X12 hown hK hP 0 rfl rfl 5 (by decide) (hts (.fieldLink RX12 16 "RelayTunerModel" "now" "[I") (by decide +kernel)) (fun _ h9 => h9) rfl dX12_mode_26 ?_
      refine lv_bipush (v := 11) hx hb dX12_mode_29 (by decide) ?_
      refine al_i (D := G) (n := 154) (f := f) hx hb hK hP 1 0 rfl rfl 11 rfl (by decide) (by first | decide | omega) dX12_mode_31 ?_
      refine lv_istore_n (lv' := [(2, .int (f 11)), (0, .ref h), (1, .int a1)]) hx hb dX12_mode_32 rfl hl (by decide) rfl (fun ls hl => ?_)
      refine lv_aload_n hx hb dX12_mode_33 rfl (lv_at hl 1 rfl) ?_
      refine va_get (D := G) (ci := 10) (v := .ref q5) (C := RX12) (T := TX12) (N := 15) hx hb hts i_X12 hown hK hP 0 rfl rfl 5 (by decide) (hts (.fieldLink RX12 16 "RelayTunerModel" "now" "[I") (by decide +kernel)) (fun _ h9 => h9) rfl dX12_mode_34 ?_
      refine lv_iload_n hx hb dX12_mode_37 rfl (lv_at hl 2 rfl) ?_
      refine cl_Hv (wr := [kX12 h q1 q4 q5 q6 q7 q9 q10 q11 (s_X12_note_w0 (upd x 0 v_2)), aI y q7 2156 (s_X12_note_w2 (upd x 0 v_2) f fd)]) (fun _ : Unit => [kX12 h q1 q4 q5 q6 q7 q9 q10 q11 (s_X12_note_w0 (upd x 0 v_2)), aI y q5 154 (s_X12_modeOn_w0 a1 f), aI y q7 2156 (s_X12_note_w2 (upd x 0 v_2) f fd)]) [1] [0, 2] [0, 2, 1] (va_runS (As := [.ref q5, .int a1]) (rest := []) ⟨hx, hb, hml, hown, hts⟩ (c_X12_modeOn l G y q5 a1 f H.size) (va_cwS 2 hts gX12_mode_X12_modeOn rfl rfl rfl (by decide +kernel) ⟨Nat.le_of_ble_eq_true rfl, Nat.le_of_ble_eq_true rfl⟩) (PH_S (hP.sub (ws' := [aI y q5 154 f]) [1] rfl) hK hN (hD.sub (ws' := [aI y q5 154 f]) [1] (by decide) rfl)) rfl rfl hl.1 rfl (lv_room (Nat.le_of_ble_eq_true rfl)) dX12_mode_38 ⟨Nat.le_of_ble_eq_true rfl, Nat.le_of_ble_eq_true rfl⟩) hP hD hS hA rfl rfl rfl (by decide) rfl (fun _ => rfl) (fun _ H locs hP hD hS => ?_)
      have hP : va_P G vwCl [kX12 h q1 q4 q5 q6 q7 q9 q10 q11 (s_X12_note_w0 (upd x 0 v_2)), aI y q5 154 (s_X12_modeOn_w0 a1 f), aI y q7 2156 (s_X12_note_w2 (upd x 0 v_2) f fd)] H := hP
      have hD : va_D A [kX12 h q1 q4 q5 q6 q7 q9 q10 q11 (s_X12_note_w0 (upd x 0 v_2)), aI y q5 154 (s_X12_modeOn_w0 a1 f), aI y q7 2156 (s_X12_note_w2 (upd x 0 v_2) f fd)] := hD
      refine lv_iload_n hx hb dX12_mode_41 rfl (lv_at hl 0 rfl) ?_
      rw [hQQ]
      exact W.iret hx hb hr (end_Hi () hP hD hS (by subst e_v_2; unfold s_X12_mode_r; exact (if_pos c_5).symm) (congr (congr (congrArg (fun (z0 : Nat → Int32) (z1 : Nat → Int32) (z2 : Nat → Int32) => [kX12 h q1 q4 q5 q6 q7 q9 q10 q11 z0, aI y q5 154 z1, aI y q7 2156 z2]) (by subst e_v_2; unfold s_X12_mode_w0; exact (if_pos c_5).symm)) (by subst e_v_2; unfold s_X12_mode_w1; exact (if_pos c_5).symm)) (by subst e_v_2; unfold s_X12_mode_w2; exact (if_pos c_5).symm))) hS.2.2 dX12_mode_42
    · refine lv_iconst (v := 0) hx hb dX12_mode_19 (by decide) ?_
      rw [hQQ]
      exact W.iret hx hb hr (end_Hi () hP hD hS (by subst e_v_2; unfold s_X12_mode_r; exact (if_neg c_5).symm) (congr (congr (congrArg (fun (z0 : Nat → Int32) (z1 : Nat → Int32) (z2 : Nat → Int32) => [kX12 h q1 q4 q5 q6 q7 q9 q10 q11 z0, aI y q5 154 z1, aI y q7 2156 z2]) (by subst e_v_2; unfold s_X12_mode_w0; exact (if_neg c_5).symm)) (by subst e_v_2; unfold s_X12_mode_w1; exact (if_neg c_5).symm)) (by subst e_v_2; unfold s_X12_mode_w2; exact (if_neg c_5).symm))) hS.2.2 dX12_mode_20
  refine lv_if_eq (tgt := 12) hx hb dX12_mode_5 (by decide) (fun c_1 => ?_) (fun c_1 => ?_)
  · refine lv_iconst (v := 1) hx hb dX12_mode_12 (by decide) ?_
    exact J13_4 _ (if_pos c_1).symm (Or.inr rfl) ls (lv_sub hl [0, 1] rfl)
  · refine lv_iconst (v := 0) hx hb dX12_mode_8 (by decide) ?_
    refine lv_goto (tgt := 13) hx hb dX12_mode_9 (by decide) ?_
    exact J13_4 _ (if_neg c_1).symm (Or.inl rfl) ls (lv_sub hl [0, 1] rfl)

def s_X12_set_r (a1 : Int32) (a2 : Int32) (f : Nat → Int32) : Int32 := (let v_2 : Int32 := (if (s_X12_isSetting_r a1 a2) = 0 then 1 else 0); (if (s_X12_refused_r v_2) = 0 then (f (tn a1)) else 0))
def s_X12_set_w0 (a1 : Int32) (a2 : Int32) (x : Nat → Int32) : Nat → Int32 := (let v_2 : Int32 := (if (s_X12_isSetting_r a1 a2) = 0 then 1 else 0); (if (s_X12_refused_r v_2) = 0 then (s_X12_note_w0 (upd x 0 v_2)) else (upd x 0 v_2)))
def s_X12_set_w1 (a1 : Int32) (a2 : Int32) (f : Nat → Int32) : Nat → Int32 := (let v_2 : Int32 := (if (s_X12_isSetting_r a1 a2) = 0 then 1 else 0); (if (s_X12_refused_r v_2) = 0 then (upd f (tn a1) a2) else f))
def s_X12_set_w2 (a1 : Int32) (a2 : Int32) (x : Nat → Int32) (f : Nat → Int32) (fd : Nat → Int32) : Nat → Int32 := (let v_2 : Int32 := (if (s_X12_isSetting_r a1 a2) = 0 then 1 else 0); (if (s_X12_refused_r v_2) = 0 then (s_X12_note_w2 (upd x 0 v_2) f fd) else fd))
abbrev rmX12_set : Room := ({ frames := 2, cells := 0, slots := 0, locals := 46 } : Room)
set_option maxHeartbeats 4000000 in
set_option maxRecDepth 100000 in
theorem c_X12_set (l : Launch) (G : va_G) (y : Nat → ClassId) (h : Nat) (a1 : Int32) (a2 : Int32) (q1 : Nat) (q4 : Nat) (q5 : Nat) (q6 : Nat) (q7 : Nat) (q9 : Nat) (q10 : Nat) (q11 : Nat) (x : Nat → Int32) (f : Nat → Int32) (fd : Nat → Int32) (sz : Nat) (h8 : vp_in (x 8) 15) : Met l yX12_set wsX12_set rmX12_set (PH G y [.ref h, .int a1, .int a2] [kX12 h q1 q4 q5 q6 q7 q9 q10 q11 x, aI y q5 154 f, aI y q7 2156 fd] sz) (QHi G (s_X12_set_r a1 a2 f) (fun _ : Unit => [kX12 h q1 q4 q5 q6 q7 q9 q10 q11 (s_X12_set_w0 a1 a2 x), aI y q5 154 (s_X12_set_w1 a1 a2 f), aI y q7 2156 (s_X12_set_w2 a1 a2 x f fd)]) (va_A [kX12 h q1 q4 q5 q6 q7 q9 q10 q11 x, aI y q5 154 f, aI y q7 2156 fd] sz)) 0 0 (va_A [kX12 h q1 q4 q5 q6 q7 q9 q10 q11 x, aI y q5 154 f, aI y q7 2156 fd] sz) := by
  refine Met.ofW (cc := cX12_set) (maxL := 4) (ret := (some .int)) (by decide) rfl ?_
  intro p e s m args below meth c s₁ B hml hv
  obtain ⟨rfl, hsz, hP, ⟨hK, hN⟩, hD0⟩ := hv
  have hx := B.exec
  have hb := B.bytes
  have hr := B.returns
  have hts := atoms_spec (ws := wsX12_set) B.pre
  have hown : s.vm.findClass RX12 = some m.cls := findClass_of_methodNamed B.named
  have hlocks := B.notSynchronized
  have i_X12 : ∀ w ∈ u_ws RX12 TX12 15, w ∈ wsX12_set := by decide +kernel
  subst hsz
  have hD := hD0.self (sz := s.heap.size)
  generalize hAe : va_A [kX12 h q1 q4 q5 q6 q7 q9 q10 q11 x, aI y q5 154 f, aI y q7 2156 fd] s.heap.size = A at hD ⊢
  have hA : ∀ q : Nat, s.heap.size ≤ q → A q := fun q h => by rw [← hAe]; exact Or.inr h
  have hS : va_S A s.heap s.heap [] := va_S.rf
  have hP : va_P G vwCl [kX12 h q1 q4 q5 q6 q7 q9 q10 q11 x, aI y q5 154 f, aI y q7 2156 fd] s.heap := hP
  have hl := lv_entry ([.ref h, .int a1, .int a2]) (n := 4) (Nat.le_of_ble_eq_true rfl)
  rw [lg_entry_eq]
  generalize (lg_sl ([.ref h, .int a1, .int a2]) ++ List.replicate (4 - (lg_sl ([.ref h, .int a1, .int a2])).length) Slot.unset).toArray = ls at hl ⊢
  have hl : lv_has ls 4 [(0, .ref h), (1, .int a1), (2, .int a2)] := hl
  obtain ⟨QQ, hQQ⟩ : ∃ zq9, zq9 = MQ below (QHi G (s_X12_set_r a1 a2 f) (fun _ : Unit => [kX12 h q1 q4 q5 q6 q7 q9 q10 q11 (s_X12_set_w0 a1 a2 x), aI y q5 154 (s_X12_set_w1 a1 a2 f), aI y q7 2156 (s_X12_set_w2 a1 a2 x f fd)]) A) ([.ref h, .int a1, .int a2] : List Value).toArray s 0 0 A := ⟨_, rfl⟩
  rw [← hQQ]
  refine lv_aload_n hx hb dX12_set_0 rfl (lv_at hl 0 rfl) ?_
  refine lv_iload_n hx hb dX12_set_1 rfl (lv_at hl 1 rfl) ?_
  refine lv_iload_n hx hb dX12_set_2 rfl (lv_at hl 2 rfl) ?_
  refine cl_Ri (va_runS (As := [.int a1, .int a2]) (rest := [.ref h]) ⟨hx, hb, hml, hown, hts⟩ (c_X12_isSetting l G y a1 a2) (va_cwS 2 hts gX12_set_X12_isSetting rfl rfl rfl (by decide +kernel) ⟨Nat.le_of_ble_eq_true rfl, Nat.le_of_ble_eq_true rfl⟩) (PR_S pnil hK hN) rfl rfl hl.1 rfl (lv_room (Nat.le_of_ble_eq_true rfl)) dX12_set_3 ⟨Nat.le_of_ble_eq_true rfl, Nat.le_of_ble_eq_true rfl⟩) ?_
  have J14_4 : ∀ (v_2 : Int32) (e_v_2 : v_2 = (if (s_X12_isSetting_r a1 a2) = 0 then 1 else 0)) (z_3 : v_2 = 0 ∨ v_2 = 1) (ls : Array Slot) (hl : lv_has ls 4 [(0, .ref h), (1, .int a1), (2, .int a2)]), W p l e (headSpec wsX12_set rmX12_set).room s m ([.ref h, .int a1, .int a2] : List Value).toArray below meth c s.heap [] 0 0 QQ (F0 m 14 ls [.int v_2, .ref h]) := by
    intro v_2 e_v_2 z_3 ls hl
    refine cl_Hi (wr := [aI y q5 154 f, aI y q7 2156 fd]) (fun _ : Unit => [kX12 h q1 q4 q5 q6 q7 q9 q10 q11 (upd x 0 v_2), aI y q5 154 f, aI y q7 2156 fd]) [0] [1, 2] [2, 0, 1] (va_runV (As := [.int v_2]) (rest := []) ⟨hx, hb, hml, hown, hts⟩ (c_X12_refused l G y h v_2 q1 q4 q5 q6 q7 q9 q10 q11 x s.heap.size) (cwV 1 hts gX12_set_X12_refused rfl rfl rfl (by decide +kernel) ⟨Nat.le_of_ble_eq_true rfl, Nat.le_of_ble_eq_true rfl⟩) (PH_V (hP.sub (ws' := [kX12 h q1 q4 q5 q6 q7 q9 q10 q11 x]) [0] rfl) hK hN (hD.sub (ws' := [kX12 h q1 q4 q5 q6 q7 q9 q10 q11 x]) [0] (by decide) rfl) (ci := 10) (q0 := 0) rfl rfl) rfl rfl hl.1 rfl (lv_room (Nat.le_of_ble_eq_true rfl)) dX12_set_14 ⟨Nat.le_of_ble_eq_true rfl, Nat.le_of_ble_eq_true rfl⟩) hP hD hS hA rfl rfl rfl (by decide) rfl (fun _ => rfl) (fun _ H locs hP hD hS => ?_)
    have hP : va_P G vwCl [kX12 h q1 q4 q5 q6 q7 q9 q10 q11 (upd x 0 v_2), aI y q5 154 f, aI y q7 2156 fd] H := hP
    have hD : va_D A [kX12 h q1 q4 q5 q6 q7 q9 q10 q11 (upd x 0 v_2), aI y q5 154 f, aI y q7 2156 fd] := hD
    refine lv_if_eq (tgt := 22) hx hb dX12_set_17 (by decide) (fun c_5 => ?_) (fun c_5 => ?_)
    · have hin : vp_in a1 11 := set_in (ref01 e_v_2 c_5)
      obtain ⟨ha1, ha2⟩ := in_tn hin (by decide)
      refine lv_aload_n hx hb dX12_set_22 rfl (lv_at hl 0 rfl) ?_
      refine cl_Hv (wr := []) (fun _ : Unit => [kX12 h q1 q4 q5 q6 q7 q9 q10 q11 (s_X12_note_w0 (upd x 0 v_2)), aI y q5 154 f, aI y q7 2156 (s_X12_note_w2 (upd x 0 v_2) f fd)]) [0, 1, 2] [] [0, 1, 2] (va_runV (As := []) (rest := []) ⟨hx, hb, hml, hown, hts⟩ (c_X12_note l G y h q1 q4 q5 q6 q7 q9 q10 q11 (upd x 0 v_2) f fd H.size (by show vp_in (x 8) 15; exact h8)) (cwV 0 hts gX12_set_X12_note rfl rfl rfl (by decide +kernel) ⟨Nat.le_of_ble_eq_true rfl, Nat.le_of_ble_eq_true rfl⟩) (PH_V (hP.sub (ws' := [kX12 h q1 q4 q5 q6 q7 q9 q10 q11 (upd x 0 v_2), aI y q5 154 f, aI y q7 2156 fd]) [0, 1, 2] rfl) hK hN (hD.sub (ws' := [kX12 h q1 q4 q5 q6 q7 q9 q10 q11 (upd x 0 v_2), aI y q5 154 f, aI y q7 2156 fd]) [0, 1, 2] (by decide) rfl) (ci := 10) (q0 := 0) rfl rfl) rfl rfl hl.1 rfl (lv_room (Nat.le_of_ble_eq_true rfl)) dX12_set_23 ⟨Nat.le_of_ble_eq_true rfl, Nat.le_of_ble_eq_true rfl⟩) hP hD hS hA rfl rfl rfl (by decide) rfl (fun _ => rfl) (fun _ H locs hP hD hS => ?_)
      have hP : va_P G vwCl [kX12 h q1 q4 q5 q6 q7 q9 q10 q11 (s_X12_note_w0 (upd x 0 v_2)), aI y q5 154 f, aI y q7 2156 (s_X12_note_w2 (upd x 0 v_2) f fd)] H := hP
      have hD : va_D A [kX12 h q1 q4 q5 q6 q7 q9 q10 q11 (s_X12_note_w0 (upd x 0 v_2)), aI y q5 154 f, aI y q7 2156 (s_X12_note_w2 (upd x 0 v_2) f fd)] := hD
      refine lv_aload_n hx hb dX12_set_26 rfl (lv_at hl 0 rfl) ?_
      refine va_get (D := G) (ci := 10) (v := .ref q5) (C := RX12) (T := TX12) (N := 15) hx hb hts i_X12 hown hK hP 0 rfl rfl 5 (by decide) (hts (.fieldLink RX12 16 "RelayTunerModel" "now" "[I") (by decide +kernel)) (fun _ h9 => h9) rfl dX12_set_27 ?_
      refine lv_iload_n hx hb dX12_set_30 rfl (lv_at hl 1 rfl) ?_
      refine al_i (D := G) (n := 154) (f := f) hx hb hK hP 1 0 rfl rfl (tn a1) ha1 (by omega) (by first | decide | omega) dX12_set_31 ?_
      refine lv_istore_n (lv' := [(3, .int (f (tn a1))), (0, .ref h), (1, .int a1), (2, .int a2)]) hx hb dX12_set_32 rfl hl (by decide) rfl (fun ls hl => ?_)
      refine lv_aload_n hx hb dX12_set_33 rfl (lv_at hl 1 rfl) ?_
      refine va_get (D := G) (ci := 10) (v := .ref q5) (C := RX12) (T := TX12) (N := 15) hx hb hts i_X12 hown hK hP 0 rfl rfl 5 (by decide) (hts (.fieldLink RX12 16 "RelayTunerModel" "now" "[I") (by decide +kernel)) (fun _ h9 => h9) rfl dX12_set_34 ?_
      refine lv_iload_n hx hb dX12_set_37 rfl (lv_at hl 2 rfl) ?_
      refine lv_iload_n hx hb dX12_set_38 rfl (lv_at hl 3 rfl) ?_
      refine as_i (D := G) (n := 154) (f := f) hx hb hK hP hD hS 1 0 rfl rfl (tn a1) ha1 (by omega) (by first | decide | omega) dX12_set_39 (fun H locs hP hD hS => ?_)
      have hP : va_P G vwCl [kX12 h q1 q4 q5 q6 q7 q9 q10 q11 (s_X12_note_w0 (upd x 0 v_2)), aI y q5 154 (upd f (tn a1) a2), aI y q7 2156 (s_X12_note_w2 (upd x 0 v_2) f fd)] H := hP
      have hD : va_D A [kX12 h q1 q4 q5 q6 q7 q9 q10 q11 (s_X12_note_w0 (upd x 0 v_2)), aI y q5 154 (upd f (tn a1) a2), aI y q7 2156 (s_X12_note_w2 (upd x 0 v_2) f fd)] := hD
      refine lv_iload_n hx hb dX12_set_40 rfl (lv_at hl 0 rfl) ?_
      rw [hQQ]
      exact W.iret hx hb hr (end_Hi () hP hD hS (by subst e_v_2; unfold s_X12_set_r; exact (if_pos c_5).symm) (congr (congr (congrArg (fun (z0 : Nat → Int32) (z1 : Nat → Int32) (z2 : Nat → Int32) => [kX12 h q1 q4 q5 q6 q7 q9 q10 q11 z0, aI y q5 154 z1, aI y q7 2156 z2]) (by subst e_v_2; unfold s_X12_set_w0; exact (if_pos c_5).symm)) (by subst e_v_2; unfold s_X12_set_w1; exact (if_pos c_5).symm)) (by subst e_v_2; unfold s_X12_set_w2; exact (if_pos c_5).symm))) hS.2.2 dX12_set_41
    · refine lv_iconst (v := 0) hx hb dX12_set_20 (by decide) ?_
      rw [hQQ]
      exact W.iret hx hb hr (end_Hi () hP hD hS (by subst e_v_2; unfold s_X12_set_r; exact (if_neg c_5).symm) (congr (congr (congrArg (fun (z0 : Nat → Int32) (z1 : Nat → Int32) (z2 : Nat → Int32) => [kX12 h q1 q4 q5 q6 q7 q9 q10 q11 z0, aI y q5 154 z1, aI y q7 2156 z2]) (by subst e_v_2; unfold s_X12_set_w0; exact (if_neg c_5).symm)) (by subst e_v_2; unfold s_X12_set_w1; exact (if_neg c_5).symm)) (by subst e_v_2; unfold s_X12_set_w2; exact (if_neg c_5).symm))) hS.2.2 dX12_set_21
  refine lv_if_eq (tgt := 13) hx hb dX12_set_6 (by decide) (fun c_1 => ?_) (fun c_1 => ?_)
  · refine lv_iconst (v := 1) hx hb dX12_set_13 (by decide) ?_
    exact J14_4 _ (if_pos c_1).symm (Or.inr rfl) ls (lv_sub hl [0, 1, 2] rfl)
  · refine lv_iconst (v := 0) hx hb dX12_set_9 (by decide) ?_
    refine lv_goto (tgt := 14) hx hb dX12_set_10 (by decide) ?_
    exact J14_4 _ (if_neg c_1).symm (Or.inl rfl) ls (lv_sub hl [0, 1, 2] rfl)

def s_X12_disturb_r (a1 : Int32) (f : Nat → Int32) : Int32 := (let v_2 : Int32 := (if (s_X12_in_r a1.toInt64 (-500) 500) = 0 then 1 else 0); (if (s_X12_refused_r v_2) = 0 then ((s_X12_disturbOn_w0 a1 f) 12) else 0))
def s_X12_disturb_w0 (a1 : Int32) (x : Nat → Int32) : Nat → Int32 := (let v_2 : Int32 := (if (s_X12_in_r a1.toInt64 (-500) 500) = 0 then 1 else 0); (if (s_X12_refused_r v_2) = 0 then (s_X12_note_w0 (upd x 0 v_2)) else (upd x 0 v_2)))
def s_X12_disturb_w1 (a1 : Int32) (f : Nat → Int32) : Nat → Int32 := (let v_2 : Int32 := (if (s_X12_in_r a1.toInt64 (-500) 500) = 0 then 1 else 0); (if (s_X12_refused_r v_2) = 0 then (s_X12_disturbOn_w0 a1 f) else f))
def s_X12_disturb_w2 (a1 : Int32) (x : Nat → Int32) (f : Nat → Int32) (fd : Nat → Int32) : Nat → Int32 := (let v_2 : Int32 := (if (s_X12_in_r a1.toInt64 (-500) 500) = 0 then 1 else 0); (if (s_X12_refused_r v_2) = 0 then (s_X12_note_w2 (upd x 0 v_2) f fd) else fd))
abbrev rmX12_disturb : Room := ({ frames := 2, cells := 0, slots := 0, locals := 45 } : Room)
set_option maxHeartbeats 4000000 in
set_option maxRecDepth 100000 in
theorem c_X12_disturb (l : Launch) (G : va_G) (y : Nat → ClassId) (h : Nat) (a1 : Int32) (q1 : Nat) (q4 : Nat) (q5 : Nat) (q6 : Nat) (q7 : Nat) (q9 : Nat) (q10 : Nat) (q11 : Nat) (x : Nat → Int32) (f : Nat → Int32) (fd : Nat → Int32) (sz : Nat) (h8 : vp_in (x 8) 15) : Met l yX12_disturb wsX12_disturb rmX12_disturb (PH G y [.ref h, .int a1] [kX12 h q1 q4 q5 q6 q7 q9 q10 q11 x, aI y q5 154 f, aI y q7 2156 fd] sz) (QHi G (s_X12_disturb_r a1 f) (fun _ : Unit => [kX12 h q1 q4 q5 q6 q7 q9 q10 q11 (s_X12_disturb_w0 a1 x), aI y q5 154 (s_X12_disturb_w1 a1 f), aI y q7 2156 (s_X12_disturb_w2 a1 x f fd)]) (va_A [kX12 h q1 q4 q5 q6 q7 q9 q10 q11 x, aI y q5 154 f, aI y q7 2156 fd] sz)) 0 0 (va_A [kX12 h q1 q4 q5 q6 q7 q9 q10 q11 x, aI y q5 154 f, aI y q7 2156 fd] sz) := by
  refine Met.ofW (cc := cX12_disturb) (maxL := 2) (ret := (some .int)) (by decide) rfl ?_
  intro p e s m args below meth c s₁ B hml hv
  obtain ⟨rfl, hsz, hP, ⟨hK, hN⟩, hD0⟩ := hv
  have hx := B.exec
  have hb := B.bytes
  have hr := B.returns
  have hts := atoms_spec (ws := wsX12_disturb) B.pre
  have hown : s.vm.findClass RX12 = some m.cls := findClass_of_methodNamed B.named
  have hlocks := B.notSynchronized
  have i_X12 : ∀ w ∈ u_ws RX12 TX12 15, w ∈ wsX12_disturb := by decide +kernel
  subst hsz
  have hD := hD0.self (sz := s.heap.size)
  generalize hAe : va_A [kX12 h q1 q4 q5 q6 q7 q9 q10 q11 x, aI y q5 154 f, aI y q7 2156 fd] s.heap.size = A at hD ⊢
  have hA : ∀ q : Nat, s.heap.size ≤ q → A q := fun q h => by rw [← hAe]; exact Or.inr h
  have hS : va_S A s.heap s.heap [] := va_S.rf
  have hP : va_P G vwCl [kX12 h q1 q4 q5 q6 q7 q9 q10 q11 x, aI y q5 154 f, aI y q7 2156 fd] s.heap := hP
  have hl := lv_entry ([.ref h, .int a1]) (n := 2) (Nat.le_of_ble_eq_true rfl)
  rw [lg_entry_eq]
  generalize (lg_sl ([.ref h, .int a1]) ++ List.replicate (2 - (lg_sl ([.ref h, .int a1])).length) Slot.unset).toArray = ls at hl ⊢
  have hl : lv_has ls 2 [(0, .ref h), (1, .int a1)] := hl
  obtain ⟨QQ, hQQ⟩ : ∃ zq9, zq9 = MQ below (QHi G (s_X12_disturb_r a1 f) (fun _ : Unit => [kX12 h q1 q4 q5 q6 q7 q9 q10 q11 (s_X12_disturb_w0 a1 x), aI y q5 154 (s_X12_disturb_w1 a1 f), aI y q7 2156 (s_X12_disturb_w2 a1 x f fd)]) A) ([.ref h, .int a1] : List Value).toArray s 0 0 A := ⟨_, rfl⟩
  rw [← hQQ]
  refine lv_aload_n hx hb dX12_disturb_0 rfl (lv_at hl 0 rfl) ?_
  refine lv_iload_n hx hb dX12_disturb_1 rfl (lv_at hl 1 rfl) ?_
  refine lv_i2l (v := a1.toInt64) hx hb dX12_disturb_2 rfl ?_
  refine lv_ldc2 (v := (-500)) hx hb hown (hts (.constantLong RX12 186 (-500)) (by decide +kernel)) dX12_disturb_3 ?_
  refine lv_ldc2 (v := 500) hx hb hown (hts (.constantLong RX12 188 500) (by decide +kernel)) dX12_disturb_6 ?_
  refine cl_Ri (va_runS (As := [.long a1.toInt64, .long (-500), .long 500]) (rest := [.ref h]) ⟨hx, hb, hml, hown, hts⟩ (c_X12_in l G y a1.toInt64 (-500) 500) (va_cwS 3 hts gX12_disturb_X12_in rfl rfl rfl (by decide +kernel) ⟨Nat.le_of_ble_eq_true rfl, Nat.le_of_ble_eq_true rfl⟩) (PR_S pnil hK hN) rfl rfl hl.1 rfl (lv_room (Nat.le_of_ble_eq_true rfl)) dX12_disturb_9 ⟨Nat.le_of_ble_eq_true rfl, Nat.le_of_ble_eq_true rfl⟩) ?_
  have J20_4 : ∀ (v_2 : Int32) (e_v_2 : v_2 = (if (s_X12_in_r a1.toInt64 (-500) 500) = 0 then 1 else 0)) (z_3 : v_2 = 0 ∨ v_2 = 1) (ls : Array Slot) (hl : lv_has ls 2 [(0, .ref h), (1, .int a1)]), W p l e (headSpec wsX12_disturb rmX12_disturb).room s m ([.ref h, .int a1] : List Value).toArray below meth c s.heap [] 0 0 QQ (F0 m 20 ls [.int v_2, .ref h]) := by
    intro v_2 e_v_2 z_3 ls hl
    refine cl_Hi (wr := [aI y q5 154 f, aI y q7 2156 fd]) (fun _ : Unit => [kX12 h q1 q4 q5 q6 q7 q9 q10 q11 (upd x 0 v_2), aI y q5 154 f, aI y q7 2156 fd]) [0] [1, 2] [2, 0, 1] (va_runV (As := [.int v_2]) (rest := []) ⟨hx, hb, hml, hown, hts⟩ (c_X12_refused l G y h v_2 q1 q4 q5 q6 q7 q9 q10 q11 x s.heap.size) (cwV 1 hts gX12_disturb_X12_refused rfl rfl rfl (by decide +kernel) ⟨Nat.le_of_ble_eq_true rfl, Nat.le_of_ble_eq_true rfl⟩) (PH_V (hP.sub (ws' := [kX12 h q1 q4 q5 q6 q7 q9 q10 q11 x]) [0] rfl) hK hN (hD.sub (ws' := [kX12 h q1 q4 q5 q6 q7 q9 q10 q11 x]) [0] (by decide) rfl) (ci := 10) (q0 := 0) rfl rfl) rfl rfl hl.1 rfl (lv_room (Nat.le_of_ble_eq_true rfl)) dX12_disturb_20 ⟨Nat.le_of_ble_eq_true rfl, Nat.le_of_ble_eq_true rfl⟩) hP hD hS hA rfl rfl rfl (by decide) rfl (fun _ => rfl) (fun _ H locs hP hD hS => ?_)
    have hP : va_P G vwCl [kX12 h q1 q4 q5 q6 q7 q9 q10 q11 (upd x 0 v_2), aI y q5 154 f, aI y q7 2156 fd] H := hP
    have hD : va_D A [kX12 h q1 q4 q5 q6 q7 q9 q10 q11 (upd x 0 v_2), aI y q5 154 f, aI y q7 2156 fd] := hD
    refine lv_if_eq (tgt := 28) hx hb dX12_disturb_23 (by decide) (fun c_5 => ?_) (fun c_5 => ?_)
    · refine lv_aload_n hx hb dX12_disturb_28 rfl (lv_at hl 0 rfl) ?_
      refine cl_Hv (wr := []) (fun _ : Unit => [kX12 h q1 q4 q5 q6 q7 q9 q10 q11 (s_X12_note_w0 (upd x 0 v_2)), aI y q5 154 f, aI y q7 2156 (s_X12_note_w2 (upd x 0 v_2) f fd)]) [0, 1, 2] [] [0, 1, 2] (va_runV (As := []) (rest := []) ⟨hx, hb, hml, hown, hts⟩ (c_X12_note l G y h q1 q4 q5 q6 q7 q9 q10 q11 (upd x 0 v_2) f fd H.size (by show vp_in (x 8) 15; exact h8)) (cwV 0 hts gX12_disturb_X12_note rfl rfl rfl (by decide +kernel) ⟨Nat.le_of_ble_eq_true rfl, Nat.le_of_ble_eq_true rfl⟩) (PH_V (hP.sub (ws' := [kX12 h q1 q4 q5 q6 q7 q9 q10 q11 (upd x 0 v_2), aI y q5 154 f, aI y q7 2156 fd]) [0, 1, 2] rfl) hK hN (hD.sub (ws' := [kX12 h q1 q4 q5 q6 q7 q9 q10 q11 (upd x 0 v_2), aI y q5 154 f, aI y q7 2156 fd]) [0, 1, 2] (by decide) rfl) (ci := 10) (q0 := 0) rfl rfl) rfl rfl hl.1 rfl (lv_room (Nat.le_of_ble_eq_true rfl)) dX12_disturb_29 ⟨Nat.le_of_ble_eq_true rfl, Nat.le_of_ble_eq_true rfl⟩) hP hD hS hA rfl rfl rfl (by decide) rfl (fun _ => rfl) (fun _ H locs hP hD hS => ?_)
      have hP : va_P G vwCl [kX12 h q1 q4 q5 q6 q7 q9 q10 q11 (s_X12_note_w0 (upd x 0 v_2)), aI y q5 154 f, aI y q7 2156 (s_X12_note_w2 (upd x 0 v_2) f fd)] H := hP
      have hD : va_D A [kX12 h q1 q4 q5 q6 q7 q9 q10 q11 (s_X12_note_w0 (upd x 0 v_2)), aI y q5 154 f, aI y q7 2156 (s_X12_note_w2 (upd x 0 v_2) f fd)] := hD
      refine lv_aload_n hx hb dX12_disturb_32 rfl (lv_at hl 0 rfl) ?_
      refine va_get (D := G) (ci := 10) (v := .ref q5) (C := RX12) (T := TX12) (N := 15) hx hb hts i_X12 hown hK hP 0 rfl rfl 5 (by decide) (hts (.fieldLink RX12 16 "RelayTunerModel" "now" "[I") (by decide +kernel)) (fun _ h9 => h9) rfl dX12_disturb_33 ?_
      refine lv_iload_n hx hb dX12_disturb_36 rfl (lv_at hl 1 rfl) ?_
      refine cl_Hv (wr := [kX12 h q1 q4 q5 q6 q7 q9 q10 q11 (s_X12_note_w0 (upd x 0 v_2)), aI y q7 2156 (s_X12_note_w2 (upd x 0 v_2) f fd)]) (fun _ : Unit => [kX12 h q1 q4 q5 q6 q7 q9 q10 q11 (s_X12_note_w0 (upd x 0 v_2)), aI y q5 154 (s_X12_disturbOn_w0 a1 f), aI y q7 2156 (s_X12_note_w2 (upd x 0 v_2) f fd)]) [1] [0, 2] [0, 2, 1] (va_runS (As := [.ref q5, .int a1]) (rest := []) ⟨hx, hb, hml, hown, hts⟩ (c_X12_disturbOn l G y q5 a1 f H.size) (va_cwS 2 hts gX12_disturb_X12_disturbOn rfl rfl rfl (by decide +kernel) ⟨Nat.le_of_ble_eq_true rfl, Nat.le_of_ble_eq_true rfl⟩) (PH_S (hP.sub (ws' := [aI y q5 154 f]) [1] rfl) hK hN (hD.sub (ws' := [aI y q5 154 f]) [1] (by decide) rfl)) rfl rfl hl.1 rfl (lv_room (Nat.le_of_ble_eq_true rfl)) dX12_disturb_37 ⟨Nat.le_of_ble_eq_true rfl, Nat.le_of_ble_eq_true rfl⟩) hP hD hS hA rfl rfl rfl (by decide) rfl (fun _ => rfl) (fun _ H locs hP hD hS => ?_)
      have hP : va_P G vwCl [kX12 h q1 q4 q5 q6 q7 q9 q10 q11 (s_X12_note_w0 (upd x 0 v_2)), aI y q5 154 (s_X12_disturbOn_w0 a1 f), aI y q7 2156 (s_X12_note_w2 (upd x 0 v_2) f fd)] H := hP
      have hD : va_D A [kX12 h q1 q4 q5 q6 q7 q9 q10 q11 (s_X12_note_w0 (upd x 0 v_2)), aI y q5 154 (s_X12_disturbOn_w0 a1 f), aI y q7 2156 (s_X12_note_w2 (upd x 0 v_2) f fd)] := hD
      refine lv_aload_n hx hb dX12_disturb_40 rfl (lv_at hl 0 rfl) ?_
      refine va_get (D := G) (ci := 10) (v := .ref q5) (C := RX12) (T := TX12) (N := 15) hx hb hts i_X12 hown hK hP 0 rfl rfl 5 (by decide) (hts (.fieldLink RX12 16 "RelayTunerModel" "now" "[I") (by decide +kernel)) (fun _ h9 => h9) rfl dX12_disturb_41 ?_
      refine lv_bipush (v := 12) hx hb dX12_disturb_44 (by decide) ?_
      refine al_i (D := G) (n := 154) (f := (s_X12_disturbOn_w0 a1 f)) hx hb hK hP 1 0 rfl rfl 12 rfl (by decide) (by first | decide | omega) dX12_disturb_46 ?_
      rw [hQQ]
      exact W.iret hx hb hr (end_Hi () hP hD hS (by subst e_v_2; unfold s_X12_disturb_r; exact (if_pos c_5).symm) (congr (congr (congrArg (fun (z0 : Nat → Int32) (z1 : Nat → Int32) (z2 : Nat → Int32) => [kX12 h q1 q4 q5 q6 q7 q9 q10 q11 z0, aI y q5 154 z1, aI y q7 2156 z2]) (by subst e_v_2; unfold s_X12_disturb_w0; exact (if_pos c_5).symm)) (by subst e_v_2; unfold s_X12_disturb_w1; exact (if_pos c_5).symm)) (by subst e_v_2; unfold s_X12_disturb_w2; exact (if_pos c_5).symm))) hS.2.2 dX12_disturb_47
    · refine lv_iconst (v := 0) hx hb dX12_disturb_26 (by decide) ?_
      rw [hQQ]
      exact W.iret hx hb hr (end_Hi () hP hD hS (by subst e_v_2; unfold s_X12_disturb_r; exact (if_neg c_5).symm) (congr (congr (congrArg (fun (z0 : Nat → Int32) (z1 : Nat → Int32) (z2 : Nat → Int32) => [kX12 h q1 q4 q5 q6 q7 q9 q10 q11 z0, aI y q5 154 z1, aI y q7 2156 z2]) (by subst e_v_2; unfold s_X12_disturb_w0; exact (if_neg c_5).symm)) (by subst e_v_2; unfold s_X12_disturb_w1; exact (if_neg c_5).symm)) (by subst e_v_2; unfold s_X12_disturb_w2; exact (if_neg c_5).symm))) hS.2.2 dX12_disturb_27
  refine lv_if_eq (tgt := 19) hx hb dX12_disturb_12 (by decide) (fun c_1 => ?_) (fun c_1 => ?_)
  · refine lv_iconst (v := 1) hx hb dX12_disturb_19 (by decide) ?_
    exact J20_4 _ (if_pos c_1).symm (Or.inr rfl) ls (lv_sub hl [0, 1] rfl)
  · refine lv_iconst (v := 0) hx hb dX12_disturb_15 (by decide) ?_
    refine lv_goto (tgt := 20) hx hb dX12_disturb_16 (by decide) ?_
    exact J20_4 _ (if_neg c_1).symm (Or.inl rfl) ls (lv_sub hl [0, 1] rfl)

def s_X12_discard_r (a1 : Int32) (f : Nat → Int32) : Int32 := (let v_2 : Int32 := (if (s_X12_isSwing_r a1 f) = 0 then 1 else 0); (if (s_X12_refused_r v_2) = 0 then (f (42 + 4 * tn a1)) else 0))
def s_X12_discard_w0 (a1 : Int32) (x : Nat → Int32) (f : Nat → Int32) : Nat → Int32 := (let v_2 : Int32 := (if (s_X12_isSwing_r a1 f) = 0 then 1 else 0); (if (s_X12_refused_r v_2) = 0 then (s_X12_note_w0 (upd x 0 v_2)) else (upd x 0 v_2)))
def s_X12_discard_w1 (a1 : Int32) (f : Nat → Int32) : Nat → Int32 := (let v_2 : Int32 := (if (s_X12_isSwing_r a1 f) = 0 then 1 else 0); (if (s_X12_refused_r v_2) = 0 then (s_X12_dropSwing_w0 a1 f) else f))
def s_X12_discard_w2 (a1 : Int32) (x : Nat → Int32) (f : Nat → Int32) (fd : Nat → Int32) : Nat → Int32 := (let v_2 : Int32 := (if (s_X12_isSwing_r a1 f) = 0 then 1 else 0); (if (s_X12_refused_r v_2) = 0 then (s_X12_note_w2 (upd x 0 v_2) f fd) else fd))
abbrev rmX12_discard : Room := ({ frames := 2, cells := 0, slots := 0, locals := 46 } : Room)
set_option maxHeartbeats 4000000 in
set_option maxRecDepth 100000 in
theorem c_X12_discard (l : Launch) (G : va_G) (y : Nat → ClassId) (h : Nat) (a1 : Int32) (q1 : Nat) (q4 : Nat) (q5 : Nat) (q6 : Nat) (q7 : Nat) (q9 : Nat) (q10 : Nat) (q11 : Nat) (x : Nat → Int32) (f : Nat → Int32) (fd : Nat → Int32) (sz : Nat) (h8 : vp_in (x 8) 15) (h16 : vp_in (f 16) 21) : Met l yX12_discard wsX12_discard rmX12_discard (PH G y [.ref h, .int a1] [kX12 h q1 q4 q5 q6 q7 q9 q10 q11 x, aI y q5 154 f, aI y q7 2156 fd] sz) (QHi G (s_X12_discard_r a1 f) (fun _ : Unit => [kX12 h q1 q4 q5 q6 q7 q9 q10 q11 (s_X12_discard_w0 a1 x f), aI y q5 154 (s_X12_discard_w1 a1 f), aI y q7 2156 (s_X12_discard_w2 a1 x f fd)]) (va_A [kX12 h q1 q4 q5 q6 q7 q9 q10 q11 x, aI y q5 154 f, aI y q7 2156 fd] sz)) 0 0 (va_A [kX12 h q1 q4 q5 q6 q7 q9 q10 q11 x, aI y q5 154 f, aI y q7 2156 fd] sz) := by
  refine Met.ofW (cc := cX12_discard) (maxL := 3) (ret := (some .int)) (by decide) rfl ?_
  intro p e s m args below meth c s₁ B hml hv
  obtain ⟨rfl, hsz, hP, ⟨hK, hN⟩, hD0⟩ := hv
  have hx := B.exec
  have hb := B.bytes
  have hr := B.returns
  have hts := atoms_spec (ws := wsX12_discard) B.pre
  have hown : s.vm.findClass RX12 = some m.cls := findClass_of_methodNamed B.named
  have hlocks := B.notSynchronized
  have i_X12 : ∀ w ∈ u_ws RX12 TX12 15, w ∈ wsX12_discard := by decide +kernel
  subst hsz
  have hD := hD0.self (sz := s.heap.size)
  generalize hAe : va_A [kX12 h q1 q4 q5 q6 q7 q9 q10 q11 x, aI y q5 154 f, aI y q7 2156 fd] s.heap.size = A at hD ⊢
  have hA : ∀ q : Nat, s.heap.size ≤ q → A q := fun q h => by rw [← hAe]; exact Or.inr h
  have hS : va_S A s.heap s.heap [] := va_S.rf
  have hP : va_P G vwCl [kX12 h q1 q4 q5 q6 q7 q9 q10 q11 x, aI y q5 154 f, aI y q7 2156 fd] s.heap := hP
  have hl := lv_entry ([.ref h, .int a1]) (n := 3) (Nat.le_of_ble_eq_true rfl)
  rw [lg_entry_eq]
  generalize (lg_sl ([.ref h, .int a1]) ++ List.replicate (3 - (lg_sl ([.ref h, .int a1])).length) Slot.unset).toArray = ls at hl ⊢
  have hl : lv_has ls 3 [(0, .ref h), (1, .int a1)] := hl
  obtain ⟨QQ, hQQ⟩ : ∃ zq9, zq9 = MQ below (QHi G (s_X12_discard_r a1 f) (fun _ : Unit => [kX12 h q1 q4 q5 q6 q7 q9 q10 q11 (s_X12_discard_w0 a1 x f), aI y q5 154 (s_X12_discard_w1 a1 f), aI y q7 2156 (s_X12_discard_w2 a1 x f fd)]) A) ([.ref h, .int a1] : List Value).toArray s 0 0 A := ⟨_, rfl⟩
  rw [← hQQ]
  refine lv_aload_n hx hb dX12_discard_0 rfl (lv_at hl 0 rfl) ?_
  refine lv_aload_n hx hb dX12_discard_1 rfl (lv_at hl 0 rfl) ?_
  refine lv_iload_n hx hb dX12_discard_2 rfl (lv_at hl 1 rfl) ?_
  refine cl_Ri (va_runV (As := [.int a1]) (rest := [.ref h]) ⟨hx, hb, hml, hown, hts⟩ (c_X12_isSwing l G y h a1 q1 q4 q5 q6 q7 q9 q10 q11 x f) (cwV 1 hts gX12_discard_X12_isSwing rfl rfl rfl (by decide +kernel) ⟨Nat.le_of_ble_eq_true rfl, Nat.le_of_ble_eq_true rfl⟩) (PR_V (hP.sub (ws' := [kX12 h q1 q4 q5 q6 q7 q9 q10 q11 x, aI y q5 154 f]) [0, 1] rfl) hK hN (ci := 10) (q0 := 0) rfl rfl) rfl rfl hl.1 rfl (lv_room (Nat.le_of_ble_eq_true rfl)) dX12_discard_3 ⟨Nat.le_of_ble_eq_true rfl, Nat.le_of_ble_eq_true rfl⟩) ?_
  have J14_4 : ∀ (v_2 : Int32) (e_v_2 : v_2 = (if (s_X12_isSwing_r a1 f) = 0 then 1 else 0)) (z_3 : v_2 = 0 ∨ v_2 = 1) (ls : Array Slot) (hl : lv_has ls 3 [(0, .ref h), (1, .int a1)]), W p l e (headSpec wsX12_discard rmX12_discard).room s m ([.ref h, .int a1] : List Value).toArray below meth c s.heap [] 0 0 QQ (F0 m 14 ls [.int v_2, .ref h]) := by
    intro v_2 e_v_2 z_3 ls hl
    refine cl_Hi (wr := [aI y q5 154 f, aI y q7 2156 fd]) (fun _ : Unit => [kX12 h q1 q4 q5 q6 q7 q9 q10 q11 (upd x 0 v_2), aI y q5 154 f, aI y q7 2156 fd]) [0] [1, 2] [2, 0, 1] (va_runV (As := [.int v_2]) (rest := []) ⟨hx, hb, hml, hown, hts⟩ (c_X12_refused l G y h v_2 q1 q4 q5 q6 q7 q9 q10 q11 x s.heap.size) (cwV 1 hts gX12_discard_X12_refused rfl rfl rfl (by decide +kernel) ⟨Nat.le_of_ble_eq_true rfl, Nat.le_of_ble_eq_true rfl⟩) (PH_V (hP.sub (ws' := [kX12 h q1 q4 q5 q6 q7 q9 q10 q11 x]) [0] rfl) hK hN (hD.sub (ws' := [kX12 h q1 q4 q5 q6 q7 q9 q10 q11 x]) [0] (by decide) rfl) (ci := 10) (q0 := 0) rfl rfl) rfl rfl hl.1 rfl (lv_room (Nat.le_of_ble_eq_true rfl)) dX12_discard_14 ⟨Nat.le_of_ble_eq_true rfl, Nat.le_of_ble_eq_true rfl⟩) hP hD hS hA rfl rfl rfl (by decide) rfl (fun _ => rfl) (fun _ H locs hP hD hS => ?_)
    have hP : va_P G vwCl [kX12 h q1 q4 q5 q6 q7 q9 q10 q11 (upd x 0 v_2), aI y q5 154 f, aI y q7 2156 fd] H := hP
    have hD : va_D A [kX12 h q1 q4 q5 q6 q7 q9 q10 q11 (upd x 0 v_2), aI y q5 154 f, aI y q7 2156 fd] := hD
    refine lv_if_eq (tgt := 22) hx hb dX12_discard_17 (by decide) (fun c_5 => ?_) (fun c_5 => ?_)
    · have hin : vp_in a1 20 := swing_in h16 (ref01 e_v_2 c_5)
      obtain ⟨ha1, ha2⟩ := in_tn hin (by decide)
      refine lv_aload_n hx hb dX12_discard_22 rfl (lv_at hl 0 rfl) ?_
      refine cl_Hv (wr := []) (fun _ : Unit => [kX12 h q1 q4 q5 q6 q7 q9 q10 q11 (s_X12_note_w0 (upd x 0 v_2)), aI y q5 154 f, aI y q7 2156 (s_X12_note_w2 (upd x 0 v_2) f fd)]) [0, 1, 2] [] [0, 1, 2] (va_runV (As := []) (rest := []) ⟨hx, hb, hml, hown, hts⟩ (c_X12_note l G y h q1 q4 q5 q6 q7 q9 q10 q11 (upd x 0 v_2) f fd H.size (by show vp_in (x 8) 15; exact h8)) (cwV 0 hts gX12_discard_X12_note rfl rfl rfl (by decide +kernel) ⟨Nat.le_of_ble_eq_true rfl, Nat.le_of_ble_eq_true rfl⟩) (PH_V (hP.sub (ws' := [kX12 h q1 q4 q5 q6 q7 q9 q10 q11 (upd x 0 v_2), aI y q5 154 f, aI y q7 2156 fd]) [0, 1, 2] rfl) hK hN (hD.sub (ws' := [kX12 h q1 q4 q5 q6 q7 q9 q10 q11 (upd x 0 v_2), aI y q5 154 f, aI y q7 2156 fd]) [0, 1, 2] (by decide) rfl) (ci := 10) (q0 := 0) rfl rfl) rfl rfl hl.1 rfl (lv_room (Nat.le_of_ble_eq_true rfl)) dX12_discard_23 ⟨Nat.le_of_ble_eq_true rfl, Nat.le_of_ble_eq_true rfl⟩) hP hD hS hA rfl rfl rfl (by decide) rfl (fun _ => rfl) (fun _ H locs hP hD hS => ?_)
      have hP : va_P G vwCl [kX12 h q1 q4 q5 q6 q7 q9 q10 q11 (s_X12_note_w0 (upd x 0 v_2)), aI y q5 154 f, aI y q7 2156 (s_X12_note_w2 (upd x 0 v_2) f fd)] H := hP
      have hD : va_D A [kX12 h q1 q4 q5 q6 q7 q9 q10 q11 (s_X12_note_w0 (upd x 0 v_2)), aI y q5 154 f, aI y q7 2156 (s_X12_note_w2 (upd x 0 v_2) f fd)] := hD
      refine lv_aload_n hx hb dX12_discard_26 rfl (lv_at hl 0 rfl) ?_
      refine va_get (D := G) (ci := 10) (v := .ref q5) (C := RX12) (T := TX12) (N := 15) hx hb hts i_X12 hown hK hP 0 rfl rfl 5 (by decide) (hts (.fieldLink RX12 16 "RelayTunerModel" "now" "[I") (by decide +kernel)) (fun _ h9 => h9) rfl dX12_discard_27 ?_
      refine lv_bipush (v := 42) hx hb dX12_discard_30 (by decide) ?_
      refine lv_iconst (v := 4) hx hb dX12_discard_32 (by decide) ?_
      refine lv_iload_n hx hb dX12_discard_33 rfl (lv_at hl 1 rfl) ?_
      refine lv_imul hx hb dX12_discard_34 ?_
      refine lv_iadd hx hb dX12_discard_35 ?_
      refine al_i (D := G) (n := 154) (f := f) hx hb hK hP 1 0 rfl rfl (42 + 4 * tn a1) (ix40 _ ha1) (by omega) (by first | decide | omega) dX12_discard_36 ?_
      refine lv_istore_n (lv' := [(2, .int (f (42 + 4 * tn a1))), (0, .ref h), (1, .int a1)]) hx hb dX12_discard_37 rfl hl (by decide) rfl (fun ls hl => ?_)
      refine lv_aload_n hx hb dX12_discard_38 rfl (lv_at hl 1 rfl) ?_
      refine va_get (D := G) (ci := 10) (v := .ref q5) (C := RX12) (T := TX12) (N := 15) hx hb hts i_X12 hown hK hP 0 rfl rfl 5 (by decide) (hts (.fieldLink RX12 16 "RelayTunerModel" "now" "[I") (by decide +kernel)) (fun _ h9 => h9) rfl dX12_discard_39 ?_
      refine lv_iload_n hx hb dX12_discard_42 rfl (lv_at hl 2 rfl) ?_
      refine cl_Hv (wr := [kX12 h q1 q4 q5 q6 q7 q9 q10 q11 (s_X12_note_w0 (upd x 0 v_2)), aI y q7 2156 (s_X12_note_w2 (upd x 0 v_2) f fd)]) (fun _ : Unit => [kX12 h q1 q4 q5 q6 q7 q9 q10 q11 (s_X12_note_w0 (upd x 0 v_2)), aI y q5 154 (s_X12_dropSwing_w0 a1 f), aI y q7 2156 (s_X12_note_w2 (upd x 0 v_2) f fd)]) [1] [0, 2] [0, 2, 1] (va_runS (As := [.ref q5, .int a1]) (rest := []) ⟨hx, hb, hml, hown, hts⟩ (c_X12_dropSwing l G y q5 a1 f H.size hin) (va_cwS 2 hts gX12_discard_X12_dropSwing rfl rfl rfl (by decide +kernel) ⟨Nat.le_of_ble_eq_true rfl, Nat.le_of_ble_eq_true rfl⟩) (PH_S (hP.sub (ws' := [aI y q5 154 f]) [1] rfl) hK hN (hD.sub (ws' := [aI y q5 154 f]) [1] (by decide) rfl)) rfl rfl hl.1 rfl (lv_room (Nat.le_of_ble_eq_true rfl)) dX12_discard_43 ⟨Nat.le_of_ble_eq_true rfl, Nat.le_of_ble_eq_true rfl⟩) hP hD hS hA rfl rfl rfl (by decide) rfl (fun _ => rfl) (fun _ H locs hP hD hS => ?_)
      have hP : va_P G vwCl [kX12 h q1 q4 q5 q6 q7 q9 q10 q11 (s_X12_note_w0 (upd x 0 v_2)), aI y q5 154 (s_X12_dropSwing_w0 a1 f), aI y q7 2156 (s_X12_note_w2 (upd x 0 v_2) f fd)] H := hP
      have hD : va_D A [kX12 h q1 q4 q5 q6 q7 q9 q10 q11 (s_X12_note_w0 (upd x 0 v_2)), aI y q5 154 (s_X12_dropSwing_w0 a1 f), aI y q7 2156 (s_X12_note_w2 (upd x 0 v_2) f fd)] := hD
      refine lv_iload_n hx hb dX12_discard_46 rfl (lv_at hl 0 rfl) ?_
      rw [hQQ]
      exact W.iret hx hb hr (end_Hi () hP hD hS (by subst e_v_2; unfold s_X12_discard_r; exact (if_pos c_5).symm) (congr (congr (congrArg (fun (z0 : Nat → Int32) (z1 : Nat → Int32) (z2 : Nat → Int32) => [kX12 h q1 q4 q5 q6 q7 q9 q10 q11 z0, aI y q5 154 z1, aI y q7 2156 z2]) (by subst e_v_2; unfold s_X12_discard_w0; exact (if_pos c_5).symm)) (by subst e_v_2; unfold s_X12_discard_w1; exact (if_pos c_5).symm)) (by subst e_v_2; unfold s_X12_discard_w2; exact (if_pos c_5).symm))) hS.2.2 dX12_discard_47
    · refine lv_iconst (v := 0) hx hb dX12_discard_20 (by decide) ?_
      rw [hQQ]
      exact W.iret hx hb hr (end_Hi () hP hD hS (by subst e_v_2; unfold s_X12_discard_r; exact (if_neg c_5).symm) (congr (congr (congrArg (fun (z0 : Nat → Int32) (z1 : Nat → Int32) (z2 : Nat → Int32) => [kX12 h q1 q4 q5 q6 q7 q9 q10 q11 z0, aI y q5 154 z1, aI y q7 2156 z2]) (by subst e_v_2; unfold s_X12_discard_w0; exact (if_neg c_5).symm)) (by subst e_v_2; unfold s_X12_discard_w1; exact (if_neg c_5).symm)) (by subst e_v_2; unfold s_X12_discard_w2; exact (if_neg c_5).symm))) hS.2.2 dX12_discard_21
  refine lv_if_eq (tgt := 13) hx hb dX12_discard_6 (by decide) (fun c_1 => ?_) (fun c_1 => ?_)
  · refine lv_iconst (v := 1) hx hb dX12_discard_13 (by decide) ?_
    exact J14_4 _ (if_pos c_1).symm (Or.inr rfl) ls (lv_sub hl [0, 1] rfl)
  · refine lv_iconst (v := 0) hx hb dX12_discard_9 (by decide) ?_
    refine lv_goto (tgt := 14) hx hb dX12_discard_10 (by decide) ?_
    exact J14_4 _ (if_neg c_1).symm (Or.inl rfl) ls (lv_sub hl [0, 1] rfl)

def s_X12_takeBack_r (f : Nat → Int32) : Int32 := (let v_2 : Int32 := (if (f 17) = 0 then 1 else 0); (if (s_X12_refused_r v_2) = 0 then ((s_X12_takeBackOn_w0 f) 17) else 0))
def s_X12_takeBack_w0 (x : Nat → Int32) (f : Nat → Int32) : Nat → Int32 := (let v_2 : Int32 := (if (f 17) = 0 then 1 else 0); (if (s_X12_refused_r v_2) = 0 then (s_X12_note_w0 (upd x 0 v_2)) else (upd x 0 v_2)))
def s_X12_takeBack_w1 (f : Nat → Int32) : Nat → Int32 := (let v_2 : Int32 := (if (f 17) = 0 then 1 else 0); (if (s_X12_refused_r v_2) = 0 then (s_X12_takeBackOn_w0 f) else f))
def s_X12_takeBack_w2 (x : Nat → Int32) (f : Nat → Int32) (fd : Nat → Int32) : Nat → Int32 := (let v_2 : Int32 := (if (f 17) = 0 then 1 else 0); (if (s_X12_refused_r v_2) = 0 then (s_X12_note_w2 (upd x 0 v_2) f fd) else fd))
abbrev rmX12_takeBack : Room := ({ frames := 2, cells := 0, slots := 0, locals := 45 } : Room)
set_option maxHeartbeats 4000000 in
set_option maxRecDepth 100000 in
theorem c_X12_takeBack (l : Launch) (G : va_G) (y : Nat → ClassId) (h : Nat) (q1 : Nat) (q4 : Nat) (q5 : Nat) (q6 : Nat) (q7 : Nat) (q9 : Nat) (q10 : Nat) (q11 : Nat) (x : Nat → Int32) (f : Nat → Int32) (fd : Nat → Int32) (sz : Nat) (h8 : vp_in (x 8) 15) (h17 : vp_in (f 17) 9) : Met l yX12_takeBack wsX12_takeBack rmX12_takeBack (PH G y [.ref h] [kX12 h q1 q4 q5 q6 q7 q9 q10 q11 x, aI y q5 154 f, aI y q7 2156 fd] sz) (QHi G (s_X12_takeBack_r f) (fun _ : Unit => [kX12 h q1 q4 q5 q6 q7 q9 q10 q11 (s_X12_takeBack_w0 x f), aI y q5 154 (s_X12_takeBack_w1 f), aI y q7 2156 (s_X12_takeBack_w2 x f fd)]) (va_A [kX12 h q1 q4 q5 q6 q7 q9 q10 q11 x, aI y q5 154 f, aI y q7 2156 fd] sz)) 0 0 (va_A [kX12 h q1 q4 q5 q6 q7 q9 q10 q11 x, aI y q5 154 f, aI y q7 2156 fd] sz) := by
  refine Met.ofW (cc := cX12_takeBack) (maxL := 1) (ret := (some .int)) (by decide) rfl ?_
  intro p e s m args below meth c s₁ B hml hv
  obtain ⟨rfl, hsz, hP, ⟨hK, hN⟩, hD0⟩ := hv
  have hx := B.exec
  have hb := B.bytes
  have hr := B.returns
  have hts := atoms_spec (ws := wsX12_takeBack) B.pre
  have hown : s.vm.findClass RX12 = some m.cls := findClass_of_methodNamed B.named
  have hlocks := B.notSynchronized
  have i_X12 : ∀ w ∈ u_ws RX12 TX12 15, w ∈ wsX12_takeBack := by decide +kernel
  subst hsz
  have hD := hD0.self (sz := s.heap.size)
  generalize hAe : va_A [kX12 h q1 q4 q5 q6 q7 q9 q10 q11 x, aI y q5 154 f, aI y q7 2156 fd] s.heap.size = A at hD ⊢
  have hA : ∀ q : Nat, s.heap.size ≤ q → A q := fun q h => by rw [← hAe]; exact Or.inr h
  have hS : va_S A s.heap s.heap [] := va_S.rf
  have hP : va_P G vwCl [kX12 h q1 q4 q5 q6 q7 q9 q10 q11 x, aI y q5 154 f, aI y q7 2156 fd] s.heap := hP
  have hl := lv_entry ([.ref h]) (n := 1) (Nat.le_of_ble_eq_true rfl)
  rw [lg_entry_eq]
  generalize (lg_sl ([.ref h]) ++ List.replicate (1 - (lg_sl ([.ref h])).length) Slot.unset).toArray = ls at hl ⊢
  have hl : lv_has ls 1 [(0, .ref h)] := hl
  obtain ⟨QQ, hQQ⟩ : ∃ zq9, zq9 = MQ below (QHi G (s_X12_takeBack_r f) (fun _ : Unit => [kX12 h q1 q4 q5 q6 q7 q9 q10 q11 (s_X12_takeBack_w0 x f), aI y q5 154 (s_X12_takeBack_w1 f), aI y q7 2156 (s_X12_takeBack_w2 x f fd)]) A) ([.ref h] : List Value).toArray s 0 0 A := ⟨_, rfl⟩
  rw [← hQQ]
  refine lv_aload_n hx hb dX12_takeBack_0 rfl (lv_at hl 0 rfl) ?_
  refine lv_aload_n hx hb dX12_takeBack_1 rfl (lv_at hl 0 rfl) ?_
  refine va_get (D := G) (ci := 10) (v := .ref q5) (C := RX12) (T := TX12) (N := 15) hx hb hts i_X12 hown hK hP 0 rfl rfl 5 (by decide) (hts (.fieldLink RX12 16 "RelayTunerModel" "now" "[I") (by decide +kernel)) (fun _ h9 => h9) rfl dX12_takeBack_2 ?_
  refine lv_bipush (v := 17) hx hb dX12_takeBack_5 (by decide) ?_
  refine al_i (D := G) (n := 154) (f := f) hx hb hK hP 1 0 rfl rfl 17 rfl (by decide) (by first | decide | omega) dX12_takeBack_7 ?_
  have J16_4 : ∀ (v_2 : Int32) (e_v_2 : v_2 = (if (f 17) = 0 then 1 else 0)) (z_3 : v_2 = 0 ∨ v_2 = 1) (ls : Array Slot) (hl : lv_has ls 1 [(0, .ref h)]), W p l e (headSpec wsX12_takeBack rmX12_takeBack).room s m ([.ref h] : List Value).toArray below meth c s.heap [] 0 0 QQ (F0 m 16 ls [.int v_2, .ref h]) := by
    intro v_2 e_v_2 z_3 ls hl
    refine cl_Hi (wr := [aI y q5 154 f, aI y q7 2156 fd]) (fun _ : Unit => [kX12 h q1 q4 q5 q6 q7 q9 q10 q11 (upd x 0 v_2), aI y q5 154 f, aI y q7 2156 fd]) [0] [1, 2] [2, 0, 1] (va_runV (As := [.int v_2]) (rest := []) ⟨hx, hb, hml, hown, hts⟩ (c_X12_refused l G y h v_2 q1 q4 q5 q6 q7 q9 q10 q11 x s.heap.size) (cwV 1 hts gX12_takeBack_X12_refused rfl rfl rfl (by decide +kernel) ⟨Nat.le_of_ble_eq_true rfl, Nat.le_of_ble_eq_true rfl⟩) (PH_V (hP.sub (ws' := [kX12 h q1 q4 q5 q6 q7 q9 q10 q11 x]) [0] rfl) hK hN (hD.sub (ws' := [kX12 h q1 q4 q5 q6 q7 q9 q10 q11 x]) [0] (by decide) rfl) (ci := 10) (q0 := 0) rfl rfl) rfl rfl hl.1 rfl (lv_room (Nat.le_of_ble_eq_true rfl)) dX12_takeBack_16 ⟨Nat.le_of_ble_eq_true rfl, Nat.le_of_ble_eq_true rfl⟩) hP hD hS hA rfl rfl rfl (by decide) rfl (fun _ => rfl) (fun _ H locs hP hD hS => ?_)
    have hP : va_P G vwCl [kX12 h q1 q4 q5 q6 q7 q9 q10 q11 (upd x 0 v_2), aI y q5 154 f, aI y q7 2156 fd] H := hP
    have hD : va_D A [kX12 h q1 q4 q5 q6 q7 q9 q10 q11 (upd x 0 v_2), aI y q5 154 f, aI y q7 2156 fd] := hD
    refine lv_if_eq (tgt := 24) hx hb dX12_takeBack_19 (by decide) (fun c_5 => ?_) (fun c_5 => ?_)
    · refine lv_aload_n hx hb dX12_takeBack_24 rfl (lv_at hl 0 rfl) ?_
      refine cl_Hv (wr := []) (fun _ : Unit => [kX12 h q1 q4 q5 q6 q7 q9 q10 q11 (s_X12_note_w0 (upd x 0 v_2)), aI y q5 154 f, aI y q7 2156 (s_X12_note_w2 (upd x 0 v_2) f fd)]) [0, 1, 2] [] [0, 1, 2] (va_runV (As := []) (rest := []) ⟨hx, hb, hml, hown, hts⟩ (c_X12_note l G y h q1 q4 q5 q6 q7 q9 q10 q11 (upd x 0 v_2) f fd H.size (by show vp_in (x 8) 15; exact h8)) (cwV 0 hts gX12_takeBack_X12_note rfl rfl rfl (by decide +kernel) ⟨Nat.le_of_ble_eq_true rfl, Nat.le_of_ble_eq_true rfl⟩) (PH_V (hP.sub (ws' := [kX12 h q1 q4 q5 q6 q7 q9 q10 q11 (upd x 0 v_2), aI y q5 154 f, aI y q7 2156 fd]) [0, 1, 2] rfl) hK hN (hD.sub (ws' := [kX12 h q1 q4 q5 q6 q7 q9 q10 q11 (upd x 0 v_2), aI y q5 154 f, aI y q7 2156 fd]) [0, 1, 2] (by decide) rfl) (ci := 10) (q0 := 0) rfl rfl) rfl rfl hl.1 rfl (lv_room (Nat.le_of_ble_eq_true rfl)) dX12_takeBack_25 ⟨Nat.le_of_ble_eq_true rfl, Nat.le_of_ble_eq_true rfl⟩) hP hD hS hA rfl rfl rfl (by decide) rfl (fun _ => rfl) (fun _ H locs hP hD hS => ?_)
      have hP : va_P G vwCl [kX12 h q1 q4 q5 q6 q7 q9 q10 q11 (s_X12_note_w0 (upd x 0 v_2)), aI y q5 154 f, aI y q7 2156 (s_X12_note_w2 (upd x 0 v_2) f fd)] H := hP
      have hD : va_D A [kX12 h q1 q4 q5 q6 q7 q9 q10 q11 (s_X12_note_w0 (upd x 0 v_2)), aI y q5 154 f, aI y q7 2156 (s_X12_note_w2 (upd x 0 v_2) f fd)] := hD
      refine lv_aload_n hx hb dX12_takeBack_28 rfl (lv_at hl 0 rfl) ?_
      refine va_get (D := G) (ci := 10) (v := .ref q5) (C := RX12) (T := TX12) (N := 15) hx hb hts i_X12 hown hK hP 0 rfl rfl 5 (by decide) (hts (.fieldLink RX12 16 "RelayTunerModel" "now" "[I") (by decide +kernel)) (fun _ h9 => h9) rfl dX12_takeBack_29 ?_
      refine cl_Hv (wr := [kX12 h q1 q4 q5 q6 q7 q9 q10 q11 (s_X12_note_w0 (upd x 0 v_2)), aI y q7 2156 (s_X12_note_w2 (upd x 0 v_2) f fd)]) (fun _ : Unit => [kX12 h q1 q4 q5 q6 q7 q9 q10 q11 (s_X12_note_w0 (upd x 0 v_2)), aI y q5 154 (s_X12_takeBackOn_w0 f), aI y q7 2156 (s_X12_note_w2 (upd x 0 v_2) f fd)]) [1] [0, 2] [0, 2, 1] (va_runS (As := [.ref q5]) (rest := []) ⟨hx, hb, hml, hown, hts⟩ (c_X12_takeBackOn l G y q5 f H.size (open_in h17 (ref01 e_v_2 c_5))) (va_cwS 1 hts gX12_takeBack_X12_takeBackOn rfl rfl rfl (by decide +kernel) ⟨Nat.le_of_ble_eq_true rfl, Nat.le_of_ble_eq_true rfl⟩) (PH_S (hP.sub (ws' := [aI y q5 154 f]) [1] rfl) hK hN (hD.sub (ws' := [aI y q5 154 f]) [1] (by decide) rfl)) rfl rfl hl.1 rfl (lv_room (Nat.le_of_ble_eq_true rfl)) dX12_takeBack_32 ⟨Nat.le_of_ble_eq_true rfl, Nat.le_of_ble_eq_true rfl⟩) hP hD hS hA rfl rfl rfl (by decide) rfl (fun _ => rfl) (fun _ H locs hP hD hS => ?_)
      have hP : va_P G vwCl [kX12 h q1 q4 q5 q6 q7 q9 q10 q11 (s_X12_note_w0 (upd x 0 v_2)), aI y q5 154 (s_X12_takeBackOn_w0 f), aI y q7 2156 (s_X12_note_w2 (upd x 0 v_2) f fd)] H := hP
      have hD : va_D A [kX12 h q1 q4 q5 q6 q7 q9 q10 q11 (s_X12_note_w0 (upd x 0 v_2)), aI y q5 154 (s_X12_takeBackOn_w0 f), aI y q7 2156 (s_X12_note_w2 (upd x 0 v_2) f fd)] := hD
      refine lv_aload_n hx hb dX12_takeBack_35 rfl (lv_at hl 0 rfl) ?_
      refine va_get (D := G) (ci := 10) (v := .ref q5) (C := RX12) (T := TX12) (N := 15) hx hb hts i_X12 hown hK hP 0 rfl rfl 5 (by decide) (hts (.fieldLink RX12 16 "RelayTunerModel" "now" "[I") (by decide +kernel)) (fun _ h9 => h9) rfl dX12_takeBack_36 ?_
      refine lv_bipush (v := 17) hx hb dX12_takeBack_39 (by decide) ?_
      refine al_i (D := G) (n := 154) (f := (s_X12_takeBackOn_w0 f)) hx hb hK hP 1 0 rfl rfl 17 rfl (by decide) (by first | decide | omega) dX12_takeBack_41 ?_
      rw [hQQ]
      exact W.iret hx hb hr (end_Hi () hP hD hS (by subst e_v_2; unfold s_X12_takeBack_r; exact (if_pos c_5).symm) (congr (congr (congrArg (fun (z0 : Nat → Int32) (z1 : Nat → Int32) (z2 : Nat → Int32) => [kX12 h q1 q4 q5 q6 q7 q9 q10 q11 z0, aI y q5 154 z1, aI y q7 2156 z2]) (by subst e_v_2; unfold s_X12_takeBack_w0; exact (if_pos c_5).symm)) (by subst e_v_2; unfold s_X12_takeBack_w1; exact (if_pos c_5).symm)) (by subst e_v_2; unfold s_X12_takeBack_w2; exact (if_pos c_5).symm))) hS.2.2 dX12_takeBack_42
    · refine lv_iconst (v := 0) hx hb dX12_takeBack_22 (by decide) ?_
      rw [hQQ]
      exact W.iret hx hb hr (end_Hi () hP hD hS (by subst e_v_2; unfold s_X12_takeBack_r; exact (if_neg c_5).symm) (congr (congr (congrArg (fun (z0 : Nat → Int32) (z1 : Nat → Int32) (z2 : Nat → Int32) => [kX12 h q1 q4 q5 q6 q7 q9 q10 q11 z0, aI y q5 154 z1, aI y q7 2156 z2]) (by subst e_v_2; unfold s_X12_takeBack_w0; exact (if_neg c_5).symm)) (by subst e_v_2; unfold s_X12_takeBack_w1; exact (if_neg c_5).symm)) (by subst e_v_2; unfold s_X12_takeBack_w2; exact (if_neg c_5).symm))) hS.2.2 dX12_takeBack_23
  refine lv_if_ne (tgt := 15) hx hb dX12_takeBack_8 (by decide) (fun c_1 => ?_) (fun c_1 => ?_)
  · refine lv_iconst (v := 0) hx hb dX12_takeBack_15 (by decide) ?_
    exact J16_4 _ (if_neg c_1).symm (Or.inl rfl) ls (lv_sub hl [0] rfl)
  · refine lv_iconst (v := 1) hx hb dX12_takeBack_11 (by decide) ?_
    refine lv_goto (tgt := 16) hx hb dX12_takeBack_12 (by decide) ?_
    exact J16_4 _ (if_pos c_1).symm (Or.inr rfl) ls (lv_sub hl [0] rfl)

def s_X12_accept_r (f : Nat → Int32) : Int32 := (f 17)
def s_X12_accept_w0 (x : Nat → Int32) : Nat → Int32 := (s_X12_note_w0 (upd x 0 0))
def s_X12_accept_w1 (f : Nat → Int32) : Nat → Int32 := (upd f 17 0)
def s_X12_accept_w2 (x : Nat → Int32) (f : Nat → Int32) (fd : Nat → Int32) : Nat → Int32 := (s_X12_note_w2 (upd x 0 0) f fd)
abbrev rmX12_accept : Room := ({ frames := 2, cells := 0, slots := 0, locals := 45 } : Room)
set_option maxHeartbeats 4000000 in
set_option maxRecDepth 100000 in
theorem c_X12_accept (l : Launch) (G : va_G) (y : Nat → ClassId) (h : Nat) (q1 : Nat) (q4 : Nat) (q5 : Nat) (q6 : Nat) (q7 : Nat) (q9 : Nat) (q10 : Nat) (q11 : Nat) (x : Nat → Int32) (f : Nat → Int32) (fd : Nat → Int32) (sz : Nat) (h8 : vp_in (x 8) 15) : Met l yX12_accept wsX12_accept rmX12_accept (PH G y [.ref h] [kX12 h q1 q4 q5 q6 q7 q9 q10 q11 x, aI y q5 154 f, aI y q7 2156 fd] sz) (QHi G (s_X12_accept_r f) (fun _ : Unit => [kX12 h q1 q4 q5 q6 q7 q9 q10 q11 (s_X12_accept_w0 x), aI y q5 154 (s_X12_accept_w1 f), aI y q7 2156 (s_X12_accept_w2 x f fd)]) (va_A [kX12 h q1 q4 q5 q6 q7 q9 q10 q11 x, aI y q5 154 f, aI y q7 2156 fd] sz)) 0 0 (va_A [kX12 h q1 q4 q5 q6 q7 q9 q10 q11 x, aI y q5 154 f, aI y q7 2156 fd] sz) := by
  refine Met.ofW (cc := cX12_accept) (maxL := 2) (ret := (some .int)) (by decide) rfl ?_
  intro p e s m args below meth c s₁ B hml hv
  obtain ⟨rfl, hsz, hP, ⟨hK, hN⟩, hD0⟩ := hv
  have hx := B.exec
  have hb := B.bytes
  have hr := B.returns
  have hts := atoms_spec (ws := wsX12_accept) B.pre
  have hown : s.vm.findClass RX12 = some m.cls := findClass_of_methodNamed B.named
  have hlocks := B.notSynchronized
  have i_X12 : ∀ w ∈ u_ws RX12 TX12 15, w ∈ wsX12_accept := by decide +kernel
  subst hsz
  have hD := hD0.self (sz := s.heap.size)
  generalize hAe : va_A [kX12 h q1 q4 q5 q6 q7 q9 q10 q11 x, aI y q5 154 f, aI y q7 2156 fd] s.heap.size = A at hD ⊢
  have hA : ∀ q : Nat, s.heap.size ≤ q → A q := fun q h => by rw [← hAe]; exact Or.inr h
  have hS : va_S A s.heap s.heap [] := va_S.rf
  have hP : va_P G vwCl [kX12 h q1 q4 q5 q6 q7 q9 q10 q11 x, aI y q5 154 f, aI y q7 2156 fd] s.heap := hP
  have hl := lv_entry ([.ref h]) (n := 2) (Nat.le_of_ble_eq_true rfl)
  rw [lg_entry_eq]
  generalize (lg_sl ([.ref h]) ++ List.replicate (2 - (lg_sl ([.ref h])).length) Slot.unset).toArray = ls at hl ⊢
  have hl : lv_has ls 2 [(0, .ref h)] := hl
  refine lv_aload_n hx hb dX12_accept_0 rfl (lv_at hl 0 rfl) ?_
  refine lv_iconst (v := 0) hx hb dX12_accept_1 (by decide) ?_
  refine va_put (D := G) (ci := 10) (v := .int 0) (ty := .int) (C := RX12) (T := TX12) (N := 15) hx hb hts i_X12 tyX12 tyX12_ok nmX12 hown hK hP hD hS 0 rfl rfl 0 (by decide) (hts (.fieldLink RX12 39 "RelayTunerModel" "refusal" "I") (by decide +kernel)) (fun _ h9 => h9) rfl (by decide +kernel) rfl rfl (Nat.le_of_ble_eq_true rfl) dX12_accept_2 (fun H locs hP hD hS => ?_)
  have hP : va_P G vwCl [kX12 h q1 q4 q5 q6 q7 q9 q10 q11 (upd x 0 0), aI y q5 154 f, aI y q7 2156 fd] H := hP
  have hD : va_D A [kX12 h q1 q4 q5 q6 q7 q9 q10 q11 (upd x 0 0), aI y q5 154 f, aI y q7 2156 fd] := hD
  refine lv_aload_n hx hb dX12_accept_5 rfl (lv_at hl 0 rfl) ?_
  refine cl_Hv (wr := []) (fun _ : Unit => [kX12 h q1 q4 q5 q6 q7 q9 q10 q11 (s_X12_note_w0 (upd x 0 0)), aI y q5 154 f, aI y q7 2156 (s_X12_note_w2 (upd x 0 0) f fd)]) [0, 1, 2] [] [0, 1, 2] (va_runV (As := []) (rest := []) ⟨hx, hb, hml, hown, hts⟩ (c_X12_note l G y h q1 q4 q5 q6 q7 q9 q10 q11 (upd x 0 0) f fd H.size (by show vp_in (x 8) 15; exact h8)) (cwV 0 hts gX12_accept_X12_note rfl rfl rfl (by decide +kernel) ⟨Nat.le_of_ble_eq_true rfl, Nat.le_of_ble_eq_true rfl⟩) (PH_V (hP.sub (ws' := [kX12 h q1 q4 q5 q6 q7 q9 q10 q11 (upd x 0 0), aI y q5 154 f, aI y q7 2156 fd]) [0, 1, 2] rfl) hK hN (hD.sub (ws' := [kX12 h q1 q4 q5 q6 q7 q9 q10 q11 (upd x 0 0), aI y q5 154 f, aI y q7 2156 fd]) [0, 1, 2] (by decide) rfl) (ci := 10) (q0 := 0) rfl rfl) rfl rfl hl.1 rfl (lv_room (Nat.le_of_ble_eq_true rfl)) dX12_accept_6 ⟨Nat.le_of_ble_eq_true rfl, Nat.le_of_ble_eq_true rfl⟩) hP hD hS hA rfl rfl rfl (by decide) rfl (fun _ => rfl) (fun _ H locs hP hD hS => ?_)
  have hP : va_P G vwCl [kX12 h q1 q4 q5 q6 q7 q9 q10 q11 (s_X12_note_w0 (upd x 0 0)), aI y q5 154 f, aI y q7 2156 (s_X12_note_w2 (upd x 0 0) f fd)] H := hP
  have hD : va_D A [kX12 h q1 q4 q5 q6 q7 q9 q10 q11 (s_X12_note_w0 (upd x 0 0)), aI y q5 154 f, aI y q7 2156 (s_X12_note_w2 (upd x 0 0) f fd)] := hD
  refine lv_aload_n hx hb dX12_accept_9 rfl (lv_at hl 0 rfl) ?_
  refine va_get (D := G) (ci := 10) (v := .ref q5) (C := RX12) (T := TX12) (N := 15) hx hb hts i_X12 hown hK hP 0 rfl rfl 5 (by decide) (hts (.fieldLink RX12 16 "RelayTunerModel" "now" "[I") (by decide +kernel)) (fun _ h9 => h9) rfl dX12_accept_10 ?_
  refine lv_bipush (v := 17) hx hb dX12_accept_13 (by decide) ?_
  refine al_i (D := G) (n := 154) (f := f) hx hb hK hP 1 0 rfl rfl 17 rfl (by decide) (by first | decide | omega) dX12_accept_15 ?_
  refine lv_istore_n (lv' := [(1, .int (f 17)), (0, .ref h)]) hx hb dX12_accept_16 rfl hl (by decide) rfl (fun ls hl => ?_)
  refine lv_aload_n hx hb dX12_accept_17 rfl (lv_at hl 1 rfl) ?_
  refine va_get (D := G) (ci := 10) (v := .ref q5) (C := RX12) (T := TX12) (N := 15) hx hb hts i_X12 hown hK hP 0 rfl rfl 5 (by decide) (hts (.fieldLink RX12 16 "RelayTunerModel" "now" "[I") (by decide +kernel)) (fun _ h9 => h9) rfl dX12_accept_18 ?_
  refine lv_bipush (v := 17) hx hb dX12_accept_21 (by decide) ?_
  refine lv_iconst (v := 0) hx hb dX12_accept_23 (by decide) ?_
  refine as_i (D := G) (n := 154) (f := f) hx hb hK hP hD hS 1 0 rfl rfl 17 rfl (by decide) (by first | decide | omega) dX12_accept_24 (fun H locs hP hD hS => ?_)
  have hP : va_P G vwCl [kX12 h q1 q4 q5 q6 q7 q9 q10 q11 (s_X12_note_w0 (upd x 0 0)), aI y q5 154 (upd f 17 0), aI y q7 2156 (s_X12_note_w2 (upd x 0 0) f fd)] H := hP
  have hD : va_D A [kX12 h q1 q4 q5 q6 q7 q9 q10 q11 (s_X12_note_w0 (upd x 0 0)), aI y q5 154 (upd f 17 0), aI y q7 2156 (s_X12_note_w2 (upd x 0 0) f fd)] := hD
  refine lv_iload_n hx hb dX12_accept_25 rfl (lv_at hl 0 rfl) ?_
  exact W.iret hx hb hr (end_Hi () hP hD hS rfl rfl) hS.2.2 dX12_accept_26

def s_X12_middle_r (a1 : Int32) (f : Nat → Int32) : Int32 := (midP f a1)
def s_X12_middle_w0 (x : Nat → Int32) : Nat → Int32 := (upd x 0 0)
abbrev rmX12_middle : Room := ({ frames := 2, cells := 0, slots := 0, locals := 47 } : Room)
set_option maxHeartbeats 4000000 in
set_option maxRecDepth 100000 in
theorem c_X12_middle (l : Launch) (G : va_G) (y : Nat → ClassId) (h : Nat) (a1 : Int32) (q1 : Nat) (q4 : Nat) (q5 : Nat) (q6 : Nat) (q7 : Nat) (q9 : Nat) (q10 : Nat) (q11 : Nat) (x : Nat → Int32) (f : Nat → Int32) (o : Nat → Int32) (sz : Nat) (h16 : vp_in (f 16) 21) : Met l yX12_middle wsX12_middle rmX12_middle (PH G y [.ref h, .int a1] [kX12 h q1 q4 q5 q6 q7 q9 q10 q11 x, aI y q5 154 f, aI y q11 20 o] sz) (QHi G (s_X12_middle_r a1 f) (fun u : (Nat → Int32) => [kX12 h q1 q4 q5 q6 q7 q9 q10 q11 (s_X12_middle_w0 x), aI y q5 154 f, aI y q11 20 u]) (va_A [kX12 h q1 q4 q5 q6 q7 q9 q10 q11 x, aI y q5 154 f, aI y q11 20 o] sz)) 0 0 (va_A [kX12 h q1 q4 q5 q6 q7 q9 q10 q11 x, aI y q5 154 f, aI y q11 20 o] sz) := by
  refine Met.ofW (cc := cX12_middle) (maxL := 2) (ret := (some .int)) (by decide) rfl ?_
  intro p e s m args below meth c s₁ B hml hv
  obtain ⟨rfl, hsz, hP, ⟨hK, hN⟩, hD0⟩ := hv
  have hx := B.exec
  have hb := B.bytes
  have hr := B.returns
  have hts := atoms_spec (ws := wsX12_middle) B.pre
  have hown : s.vm.findClass RX12 = some m.cls := findClass_of_methodNamed B.named
  have hlocks := B.notSynchronized
  have i_X12 : ∀ w ∈ u_ws RX12 TX12 15, w ∈ wsX12_middle := by decide +kernel
  subst hsz
  have hD := hD0.self (sz := s.heap.size)
  generalize hAe : va_A [kX12 h q1 q4 q5 q6 q7 q9 q10 q11 x, aI y q5 154 f, aI y q11 20 o] s.heap.size = A at hD ⊢
  have hA : ∀ q : Nat, s.heap.size ≤ q → A q := fun q h => by rw [← hAe]; exact Or.inr h
  have hS : va_S A s.heap s.heap [] := va_S.rf
  have hP : va_P G vwCl [kX12 h q1 q4 q5 q6 q7 q9 q10 q11 x, aI y q5 154 f, aI y q11 20 o] s.heap := hP
  have hl := lv_entry ([.ref h, .int a1]) (n := 2) (Nat.le_of_ble_eq_true rfl)
  rw [lg_entry_eq]
  generalize (lg_sl ([.ref h, .int a1]) ++ List.replicate (2 - (lg_sl ([.ref h, .int a1])).length) Slot.unset).toArray = ls at hl ⊢
  have hl : lv_has ls 2 [(0, .ref h), (1, .int a1)] := hl
  refine lv_aload_n hx hb dX12_middle_0 rfl (lv_at hl 0 rfl) ?_
  refine lv_iconst (v := 0) hx hb dX12_middle_1 (by decide) ?_
  refine va_put (D := G) (ci := 10) (v := .int 0) (ty := .int) (C := RX12) (T := TX12) (N := 15) hx hb hts i_X12 tyX12 tyX12_ok nmX12 hown hK hP hD hS 0 rfl rfl 0 (by decide) (hts (.fieldLink RX12 39 "RelayTunerModel" "refusal" "I") (by decide +kernel)) (fun _ h9 => h9) rfl (by decide +kernel) rfl rfl (Nat.le_of_ble_eq_true rfl) dX12_middle_2 (fun H locs hP hD hS => ?_)
  have hP : va_P G vwCl [kX12 h q1 q4 q5 q6 q7 q9 q10 q11 (upd x 0 0), aI y q5 154 f, aI y q11 20 o] H := hP
  have hD : va_D A [kX12 h q1 q4 q5 q6 q7 q9 q10 q11 (upd x 0 0), aI y q5 154 f, aI y q11 20 o] := hD
  refine lv_aload_n hx hb dX12_middle_5 rfl (lv_at hl 0 rfl) ?_
  refine lv_aload_n hx hb dX12_middle_6 rfl (lv_at hl 0 rfl) ?_
  refine va_get (D := G) (ci := 10) (v := .ref q5) (C := RX12) (T := TX12) (N := 15) hx hb hts i_X12 hown hK hP 0 rfl rfl 5 (by decide) (hts (.fieldLink RX12 16 "RelayTunerModel" "now" "[I") (by decide +kernel)) (fun _ h9 => h9) rfl dX12_middle_7 ?_
  refine lv_iload_n hx hb dX12_middle_10 rfl (lv_at hl 1 rfl) ?_
  refine cl_Hi (wr := []) (fun u : (Nat → Int32) => [kX12 h q1 q4 q5 q6 q7 q9 q10 q11 (upd x 0 0), aI y q5 154 f, aI y q11 20 u]) [0, 1, 2] [] [0, 1, 2] (va_runV (As := [.ref q5, .int a1]) (rest := []) ⟨hx, hb, hml, hown, hts⟩ (c_X12_middleOf l G y h q5 a1 q1 q4 q5 q6 q7 q9 q10 q11 (upd x 0 0) f o H.size h16) (cwV 2 hts gX12_middle_X12_middleOf rfl rfl rfl (by decide +kernel) ⟨Nat.le_of_ble_eq_true rfl, Nat.le_of_ble_eq_true rfl⟩) (PH_V (hP.sub (ws' := [kX12 h q1 q4 q5 q6 q7 q9 q10 q11 (upd x 0 0), aI y q5 154 f, aI y q11 20 o]) [0, 1, 2] rfl) hK hN (hD.sub (ws' := [kX12 h q1 q4 q5 q6 q7 q9 q10 q11 (upd x 0 0), aI y q5 154 f, aI y q11 20 o]) [0, 1, 2] (by decide) rfl) (ci := 10) (q0 := 0) rfl rfl) rfl rfl hl.1 rfl (lv_room (Nat.le_of_ble_eq_true rfl)) dX12_middle_11 ⟨Nat.le_of_ble_eq_true rfl, Nat.le_of_ble_eq_true rfl⟩) hP hD hS hA rfl rfl rfl (by decide) rfl (fun _ => rfl) (fun u H locs hP hD hS => ?_)
  obtain ⟨o_1, rfl⟩ : ∃ zq9, zq9 = u := ⟨_, rfl⟩
  have hP : va_P G vwCl [kX12 h q1 q4 q5 q6 q7 q9 q10 q11 (upd x 0 0), aI y q5 154 f, aI y q11 20 o_1] H := hP
  have hD : va_D A [kX12 h q1 q4 q5 q6 q7 q9 q10 q11 (upd x 0 0), aI y q5 154 f, aI y q11 20 o_1] := hD
  exact W.iret hx hb hr (end_Hi o_1 hP hD hS rfl rfl) hS.2.2 dX12_middle_14

def s_X12_proposal_r (a1 : Int32) (a2 : Int32) (f : Nat → Int32) : Int32 := (let v_2 : Int32 := (if (s_X12_isRule_r a1) = 0 then 1 else (if (s_X12_in_r a2.toInt64 0 2) = 0 then 2 else 0)); (if (s_X12_refused_r v_2) = 0 then (let v_7 : Int32 := (if (nI (goodP f)) = 0 then (-99999) else (s_X12_proposalOf_r a1 a2 f)); v_7) else 0))
def s_X12_proposal_w0 (a1 : Int32) (a2 : Int32) (x : Nat → Int32) : Nat → Int32 := (let v_2 : Int32 := (if (s_X12_isRule_r a1) = 0 then 1 else (if (s_X12_in_r a2.toInt64 0 2) = 0 then 2 else 0)); (if (s_X12_refused_r v_2) = 0 then (upd x 0 v_2) else (upd x 0 v_2)))
abbrev rmX12_proposal : Room := ({ frames := 5, cells := 0, slots := 0, locals := 121 } : Room)
set_option maxHeartbeats 4000000 in
set_option maxRecDepth 100000 in
theorem c_X12_proposal (l : Launch) (G : va_G) (y : Nat → ClassId) (h : Nat) (a1 : Int32) (a2 : Int32) (q1 : Nat) (q4 : Nat) (q5 : Nat) (q6 : Nat) (q7 : Nat) (q9 : Nat) (q10 : Nat) (q11 : Nat) (x : Nat → Int32) (f : Nat → Int32) (o : Nat → Int32) (sz : Nat) (h16 : vp_in (f 16) 21) : Met l yX12_proposal wsX12_proposal rmX12_proposal (PH G y [.ref h, .int a1, .int a2] [kX12 h q1 q4 q5 q6 q7 q9 q10 q11 x, aI y q5 154 f, aI y q11 20 o] sz) (QHi G (s_X12_proposal_r a1 a2 f) (fun u : (Nat → Int32) => [kX12 h q1 q4 q5 q6 q7 q9 q10 q11 (s_X12_proposal_w0 a1 a2 x), aI y q5 154 f, aI y q11 20 u]) (va_A [kX12 h q1 q4 q5 q6 q7 q9 q10 q11 x, aI y q5 154 f, aI y q11 20 o] sz)) 0 0 (va_A [kX12 h q1 q4 q5 q6 q7 q9 q10 q11 x, aI y q5 154 f, aI y q11 20 o] sz) := by
  refine Met.ofW (cc := cX12_proposal) (maxL := 3) (ret := (some .int)) (by decide) rfl ?_
  intro p e s m args below meth c s₁ B hml hv
  obtain ⟨rfl, hsz, hP, ⟨hK, hN⟩, hD0⟩ := hv
  have hx := B.exec
  have hb := B.bytes
  have hr := B.returns
  have hts := atoms_spec (ws := wsX12_proposal) B.pre
  have hown : s.vm.findClass RX12 = some m.cls := findClass_of_methodNamed B.named
  have hlocks := B.notSynchronized
  have i_X12 : ∀ w ∈ u_ws RX12 TX12 15, w ∈ wsX12_proposal := by decide +kernel
  subst hsz
  have hD := hD0.self (sz := s.heap.size)
  generalize hAe : va_A [kX12 h q1 q4 q5 q6 q7 q9 q10 q11 x, aI y q5 154 f, aI y q11 20 o] s.heap.size = A at hD ⊢
  have hA : ∀ q : Nat, s.heap.size ≤ q → A q := fun q h => by rw [← hAe]; exact Or.inr h
  have hS : va_S A s.heap s.heap [] := va_S.rf
  have hP : va_P G vwCl [kX12 h q1 q4 q5 q6 q7 q9 q10 q11 x, aI y q5 154 f, aI y q11 20 o] s.heap := hP
  have hl := lv_entry ([.ref h, .int a1, .int a2]) (n := 3) (Nat.le_of_ble_eq_true rfl)
  rw [lg_entry_eq]
  generalize (lg_sl ([.ref h, .int a1, .int a2]) ++ List.replicate (3 - (lg_sl ([.ref h, .int a1, .int a2])).length) Slot.unset).toArray = ls at hl ⊢
  have hl : lv_has ls 3 [(0, .ref h), (1, .int a1), (2, .int a2)] := hl
  obtain ⟨QQ, hQQ⟩ : ∃ zq9, zq9 = MQ below (QHi G (s_X12_proposal_r a1 a2 f) (fun u : (Nat → Int32) => [kX12 h q1 q4 q5 q6 q7 q9 q10 q11 (s_X12_proposal_w0 a1 a2 x), aI y q5 154 f, aI y q11 20 u]) A) ([.ref h, .int a1, .int a2] : List Value).toArray s 0 0 A := ⟨_, rfl⟩
  rw [← hQQ]
  refine lv_aload_n hx hb dX12_proposal_0 rfl (lv_at hl 0 rfl) ?_
  refine lv_iload_n hx hb dX12_proposal_1 rfl (lv_at hl 1 rfl) ?_
  refine cl_Ri (va_runS (As := [.int a1]) (rest := [.ref h]) ⟨hx, hb, hml, hown, hts⟩ (c_X12_isRule l G y a1) (va_cwS 1 hts gX12_proposal_X12_isRule rfl rfl rfl (by decide +kernel) ⟨Nat.le_of_ble_eq_true rfl, Nat.le_of_ble_eq_true rfl⟩) (PR_S pnil hK hN) rfl rfl hl.1 rfl (lv_room (Nat.le_of_ble_eq_true rfl)) dX12_proposal_2 ⟨Nat.le_of_ble_eq_true rfl, Nat.le_of_ble_eq_true rfl⟩) ?_
  have J29_3 : ∀ (v_2 : Int32) (e_v_2 : v_2 = (if (s_X12_isRule_r a1) = 0 then 1 else (if (s_X12_in_r a2.toInt64 0 2) = 0 then 2 else 0))) (ls : Array Slot) (hl : lv_has ls 3 [(0, .ref h), (1, .int a1), (2, .int a2)]), W p l e (headSpec wsX12_proposal rmX12_proposal).room s m ([.ref h, .int a1, .int a2] : List Value).toArray below meth c s.heap [] 0 0 QQ (F0 m 29 ls [.int v_2, .ref h]) := by
    intro v_2 e_v_2 ls hl
    refine cl_Hi (wr := [aI y q5 154 f, aI y q11 20 o]) (fun _ : Unit => [kX12 h q1 q4 q5 q6 q7 q9 q10 q11 (upd x 0 v_2), aI y q5 154 f, aI y q11 20 o]) [0] [1, 2] [2, 0, 1] (va_runV (As := [.int v_2]) (rest := []) ⟨hx, hb, hml, hown, hts⟩ (c_X12_refused l G y h v_2 q1 q4 q5 q6 q7 q9 q10 q11 x s.heap.size) (cwV 1 hts gX12_proposal_X12_refused rfl rfl rfl (by decide +kernel) ⟨Nat.le_of_ble_eq_true rfl, Nat.le_of_ble_eq_true rfl⟩) (PH_V (hP.sub (ws' := [kX12 h q1 q4 q5 q6 q7 q9 q10 q11 x]) [0] rfl) hK hN (hD.sub (ws' := [kX12 h q1 q4 q5 q6 q7 q9 q10 q11 x]) [0] (by decide) rfl) (ci := 10) (q0 := 0) rfl rfl) rfl rfl hl.1 rfl (lv_room (Nat.le_of_ble_eq_true rfl)) dX12_proposal_29 ⟨Nat.le_of_ble_eq_true rfl, Nat.le_of_ble_eq_true rfl⟩) hP hD hS hA rfl rfl rfl (by decide) rfl (fun _ => rfl) (fun _ H locs hP hD hS => ?_)
    have hP : va_P G vwCl [kX12 h q1 q4 q5 q6 q7 q9 q10 q11 (upd x 0 v_2), aI y q5 154 f, aI y q11 20 o] H := hP
    have hD : va_D A [kX12 h q1 q4 q5 q6 q7 q9 q10 q11 (upd x 0 v_2), aI y q5 154 f, aI y q11 20 o] := hD
    refine lv_if_eq (tgt := 37) hx hb dX12_proposal_32 (by decide) (fun c_4 => ?_) (fun c_4 => ?_)
    · refine lv_aload_n hx hb dX12_proposal_37 rfl (lv_at hl 0 rfl) ?_
      refine lv_aload_n hx hb dX12_proposal_38 rfl (lv_at hl 0 rfl) ?_
      refine va_get (D := G) (ci := 10) (v := .ref q5) (C := RX12) (T := TX12) (N := 15) hx hb hts i_X12 hown hK hP 0 rfl rfl 5 (by decide) (hts (.fieldLink RX12 16 "RelayTunerModel" "now" "[I") (by decide +kernel)) (fun _ h9 => h9) rfl dX12_proposal_39 ?_
      refine cl_Hi (wr := []) (fun u : (Nat → Int32) => [kX12 h q1 q4 q5 q6 q7 q9 q10 q11 (upd x 0 v_2), aI y q5 154 f, aI y q11 20 u]) [0, 1, 2] [] [0, 1, 2] (va_runV (As := [.ref q5]) (rest := []) ⟨hx, hb, hml, hown, hts⟩ (c_X12_goodOf l G y h q5 q1 q4 q5 q6 q7 q9 q10 q11 (upd x 0 v_2) f o H.size h16) (cwV 1 hts gX12_proposal_X12_goodOf rfl rfl rfl (by decide +kernel) ⟨Nat.le_of_ble_eq_true rfl, Nat.le_of_ble_eq_true rfl⟩) (PH_V (hP.sub (ws' := [kX12 h q1 q4 q5 q6 q7 q9 q10 q11 (upd x 0 v_2), aI y q5 154 f, aI y q11 20 o]) [0, 1, 2] rfl) hK hN (hD.sub (ws' := [kX12 h q1 q4 q5 q6 q7 q9 q10 q11 (upd x 0 v_2), aI y q5 154 f, aI y q11 20 o]) [0, 1, 2] (by decide) rfl) (ci := 10) (q0 := 0) rfl rfl) rfl rfl hl.1 rfl (lv_room (Nat.le_of_ble_eq_true rfl)) dX12_proposal_42 ⟨Nat.le_of_ble_eq_true rfl, Nat.le_of_ble_eq_true rfl⟩) hP hD hS hA rfl rfl rfl (by decide) rfl (fun _ => rfl) (fun u H locs hP hD hS => ?_)
      obtain ⟨o_5, rfl⟩ : ∃ zq9, zq9 = u := ⟨_, rfl⟩
      have hP : va_P G vwCl [kX12 h q1 q4 q5 q6 q7 q9 q10 q11 (upd x 0 v_2), aI y q5 154 f, aI y q11 20 o_5] H := hP
      have hD : va_D A [kX12 h q1 q4 q5 q6 q7 q9 q10 q11 (upd x 0 v_2), aI y q5 154 f, aI y q11 20 o_5] := hD
      have J63_9 : ∀ (o_8 : Nat → Int32) (v_7 : Int32) (e_v_7 : v_7 = (if (nI (goodP f)) = 0 then (-99999) else (s_X12_proposalOf_r a1 a2 f))) (H : Heap) (locs : List Loc) (hP : va_P G vwCl [kX12 h q1 q4 q5 q6 q7 q9 q10 q11 (upd x 0 v_2), aI y q5 154 f, aI y q11 20 o_8] H) (hD : va_D A [kX12 h q1 q4 q5 q6 q7 q9 q10 q11 (upd x 0 v_2), aI y q5 154 f, aI y q11 20 o_8]) (hS : va_S A s.heap H locs) (ls : Array Slot) (hl : lv_has ls 3 []), W p l e (headSpec wsX12_proposal rmX12_proposal).room s m ([.ref h, .int a1, .int a2] : List Value).toArray below meth c H locs 0 0 QQ (F0 m 63 ls [.int v_7]) := by
        intro o_8 v_7 e_v_7 H locs hP hD hS ls hl
        rw [hQQ]
        exact W.iret hx hb hr (end_Hi o_8 hP hD hS (by subst e_v_7; subst e_v_2; unfold s_X12_proposal_r; exact (if_pos c_4).symm) (congrArg (fun (z0 : Nat → Int32) => [kX12 h q1 q4 q5 q6 q7 q9 q10 q11 z0, aI y q5 154 f, aI y q11 20 o_8]) (by subst e_v_7; subst e_v_2; unfold s_X12_proposal_w0; exact (if_pos c_4).symm))) hS.2.2 dX12_proposal_63
      refine lv_if_ne (tgt := 53) hx hb dX12_proposal_45 (by decide) (fun c_6 => ?_) (fun c_6 => ?_)
      · refine lv_aload_n hx hb dX12_proposal_53 rfl (lv_at hl 0 rfl) ?_
        refine lv_aload_n hx hb dX12_proposal_54 rfl (lv_at hl 0 rfl) ?_
        refine va_get (D := G) (ci := 10) (v := .ref q5) (C := RX12) (T := TX12) (N := 15) hx hb hts i_X12 hown hK hP 0 rfl rfl 5 (by decide) (hts (.fieldLink RX12 16 "RelayTunerModel" "now" "[I") (by decide +kernel)) (fun _ h9 => h9) rfl dX12_proposal_55 ?_
        refine lv_iload_n hx hb dX12_proposal_58 rfl (lv_at hl 1 rfl) ?_
        refine lv_iload_n hx hb dX12_proposal_59 rfl (lv_at hl 2 rfl) ?_
        refine cl_Hi (wr := []) (fun u : (Nat → Int32) => [kX12 h q1 q4 q5 q6 q7 q9 q10 q11 (upd x 0 v_2), aI y q5 154 f, aI y q11 20 u]) [0, 1, 2] [] [0, 1, 2] (va_runV (As := [.ref q5, .int a1, .int a2]) (rest := []) ⟨hx, hb, hml, hown, hts⟩ (c_X12_proposalOf l G y h q5 a1 a2 q1 q4 q5 q6 q7 q9 q10 q11 (upd x 0 v_2) f o_5 H.size h16 (good_ne h16 c_6)) (cwV 3 hts gX12_proposal_X12_proposalOf rfl rfl rfl (by decide +kernel) ⟨Nat.le_of_ble_eq_true rfl, Nat.le_of_ble_eq_true rfl⟩) (PH_V (hP.sub (ws' := [kX12 h q1 q4 q5 q6 q7 q9 q10 q11 (upd x 0 v_2), aI y q5 154 f, aI y q11 20 o_5]) [0, 1, 2] rfl) hK hN (hD.sub (ws' := [kX12 h q1 q4 q5 q6 q7 q9 q10 q11 (upd x 0 v_2), aI y q5 154 f, aI y q11 20 o_5]) [0, 1, 2] (by decide) rfl) (ci := 10) (q0 := 0) rfl rfl) rfl rfl hl.1 rfl (lv_room (Nat.le_of_ble_eq_true rfl)) dX12_proposal_60 ⟨Nat.le_of_ble_eq_true rfl, Nat.le_of_ble_eq_true rfl⟩) hP hD hS hA rfl rfl rfl (by decide) rfl (fun _ => rfl) (fun u H locs hP hD hS => ?_)
        obtain ⟨o_10, rfl⟩ : ∃ zq9, zq9 = u := ⟨_, rfl⟩
        have hP : va_P G vwCl [kX12 h q1 q4 q5 q6 q7 q9 q10 q11 (upd x 0 v_2), aI y q5 154 f, aI y q11 20 o_10] H := hP
        have hD : va_D A [kX12 h q1 q4 q5 q6 q7 q9 q10 q11 (upd x 0 v_2), aI y q5 154 f, aI y q11 20 o_10] := hD
        exact J63_9 _ _ (if_neg c_6).symm H locs hP hD hS ls (lv_sub hl [] rfl)
      · refine lv_ldc (v := (-99999)) hx hb hown (hts (.constant RX12 74 (-99999)) (by decide +kernel)) dX12_proposal_48 ?_
        refine lv_goto (tgt := 63) hx hb dX12_proposal_50 (by decide) ?_
        exact J63_9 _ _ (if_pos c_6).symm H locs hP hD hS ls (lv_sub hl [] rfl)
    · refine lv_iconst (v := 0) hx hb dX12_proposal_35 (by decide) ?_
      rw [hQQ]
      exact W.iret hx hb hr (end_Hi o hP hD hS (by subst e_v_2; unfold s_X12_proposal_r; exact (if_neg c_4).symm) (congrArg (fun (z0 : Nat → Int32) => [kX12 h q1 q4 q5 q6 q7 q9 q10 q11 z0, aI y q5 154 f, aI y q11 20 o]) (by subst e_v_2; unfold s_X12_proposal_w0; exact (if_neg c_4).symm))) hS.2.2 dX12_proposal_36
  refine lv_if_ne (tgt := 12) hx hb dX12_proposal_5 (by decide) (fun c_1 => ?_) (fun c_1 => ?_)
  · refine lv_iload_n hx hb dX12_proposal_12 rfl (lv_at hl 2 rfl) ?_
    refine lv_i2l (v := a2.toInt64) hx hb dX12_proposal_13 rfl ?_
    refine lv_lconst (v := 0) hx hb dX12_proposal_14 rfl ?_
    refine lv_ldc2 (v := 2) hx hb hown (hts (.constantLong RX12 165 2) (by decide +kernel)) dX12_proposal_15 ?_
    refine cl_Ri (va_runS (As := [.long a2.toInt64, .long 0, .long 2]) (rest := [.ref h]) ⟨hx, hb, hml, hown, hts⟩ (c_X12_in l G y a2.toInt64 0 2) (va_cwS 3 hts gX12_proposal_X12_in rfl rfl rfl (by decide +kernel) ⟨Nat.le_of_ble_eq_true rfl, Nat.le_of_ble_eq_true rfl⟩) (PR_S pnil hK hN) rfl rfl hl.1 rfl (lv_room (Nat.le_of_ble_eq_true rfl)) dX12_proposal_18 ⟨Nat.le_of_ble_eq_true rfl, Nat.le_of_ble_eq_true rfl⟩) ?_
    refine lv_if_ne (tgt := 28) hx hb dX12_proposal_21 (by decide) (fun c_11 => ?_) (fun c_11 => ?_)
    · refine lv_iconst (v := 0) hx hb dX12_proposal_28 (by decide) ?_
      exact J29_3 _ ((if_neg c_1).trans (if_neg c_11)).symm ls (lv_sub hl [0, 1, 2] rfl)
    · refine lv_iconst (v := 2) hx hb dX12_proposal_24 (by decide) ?_
      refine lv_goto (tgt := 29) hx hb dX12_proposal_25 (by decide) ?_
      exact J29_3 _ ((if_neg c_1).trans (if_pos c_11)).symm ls (lv_sub hl [0, 1, 2] rfl)
  · refine lv_iconst (v := 1) hx hb dX12_proposal_8 (by decide) ?_
    refine lv_goto (tgt := 29) hx hb dX12_proposal_9 (by decide) ?_
    exact J29_3 _ (if_pos c_1).symm ls (lv_sub hl [0, 1, 2] rfl)

def s_X12_tryRule_r (a1 : Int32) (f : Nat → Int32) : Int32 := (let v_2 : Int32 := (if (s_X12_isRule_r a1) = 0 then 1 else (if (s_X12_canTry_r f) = 0 then 2 else 0)); (if (s_X12_refused_r v_2) = 0 then ((s_X12_tryOn_w1 a1 f) 8) else 0))
def s_X12_tryRule_w0 (a1 : Int32) (x : Nat → Int32) (f : Nat → Int32) : Nat → Int32 := (let v_2 : Int32 := (if (s_X12_isRule_r a1) = 0 then 1 else (if (s_X12_canTry_r f) = 0 then 2 else 0)); (if (s_X12_refused_r v_2) = 0 then (s_X12_note_w0 (upd x 0 v_2)) else (upd x 0 v_2)))
def s_X12_tryRule_w1 (a1 : Int32) (f : Nat → Int32) : Nat → Int32 := (let v_2 : Int32 := (if (s_X12_isRule_r a1) = 0 then 1 else (if (s_X12_canTry_r f) = 0 then 2 else 0)); (if (s_X12_refused_r v_2) = 0 then (s_X12_tryOn_w1 a1 f) else f))
def s_X12_tryRule_w2 (a1 : Int32) (x : Nat → Int32) (f : Nat → Int32) (fd : Nat → Int32) : Nat → Int32 := (let v_2 : Int32 := (if (s_X12_isRule_r a1) = 0 then 1 else (if (s_X12_canTry_r f) = 0 then 2 else 0)); (if (s_X12_refused_r v_2) = 0 then (s_X12_note_w2 (upd x 0 v_2) f fd) else fd))
abbrev rmX12_tryRule : Room := ({ frames := 7, cells := 0, slots := 0, locals := 169 } : Room)
set_option maxHeartbeats 4000000 in
set_option maxRecDepth 100000 in
theorem c_X12_tryRule (l : Launch) (G : va_G) (y : Nat → ClassId) (h : Nat) (a1 : Int32) (q1 : Nat) (q4 : Nat) (q5 : Nat) (q6 : Nat) (q7 : Nat) (q9 : Nat) (q10 : Nat) (q11 : Nat) (x : Nat → Int32) (f : Nat → Int32) (fd : Nat → Int32) (o : Nat → Int32) (sz : Nat) (h8 : vp_in (x 8) 15) (h16 : vp_in (f 16) 21) (h17 : vp_in (f 17) 9) : Met l yX12_tryRule wsX12_tryRule rmX12_tryRule (PH G y [.ref h, .int a1] [kX12 h q1 q4 q5 q6 q7 q9 q10 q11 x, aI y q5 154 f, aI y q7 2156 fd, aI y q11 20 o] sz) (QHi G (s_X12_tryRule_r a1 f) (fun u : (Nat → Int32) => [kX12 h q1 q4 q5 q6 q7 q9 q10 q11 (s_X12_tryRule_w0 a1 x f), aI y q5 154 (s_X12_tryRule_w1 a1 f), aI y q7 2156 (s_X12_tryRule_w2 a1 x f fd), aI y q11 20 u]) (va_A [kX12 h q1 q4 q5 q6 q7 q9 q10 q11 x, aI y q5 154 f, aI y q7 2156 fd, aI y q11 20 o] sz)) 0 0 (va_A [kX12 h q1 q4 q5 q6 q7 q9 q10 q11 x, aI y q5 154 f, aI y q7 2156 fd, aI y q11 20 o] sz) := by
  refine Met.ofW (cc := cX12_tryRule) (maxL := 2) (ret := (some .int)) (by decide) rfl ?_
  intro p e s m args below meth c s₁ B hml hv
  obtain ⟨rfl, hsz, hP, ⟨hK, hN⟩, hD0⟩ := hv
  have hx := B.exec
  have hb := B.bytes
  have hr := B.returns
  have hts := atoms_spec (ws := wsX12_tryRule) B.pre
  have hown : s.vm.findClass RX12 = some m.cls := findClass_of_methodNamed B.named
  have hlocks := B.notSynchronized
  have i_X12 : ∀ w ∈ u_ws RX12 TX12 15, w ∈ wsX12_tryRule := by decide +kernel
  subst hsz
  have hD := hD0.self (sz := s.heap.size)
  generalize hAe : va_A [kX12 h q1 q4 q5 q6 q7 q9 q10 q11 x, aI y q5 154 f, aI y q7 2156 fd, aI y q11 20 o] s.heap.size = A at hD ⊢
  have hA : ∀ q : Nat, s.heap.size ≤ q → A q := fun q h => by rw [← hAe]; exact Or.inr h
  have hS : va_S A s.heap s.heap [] := va_S.rf
  have hP : va_P G vwCl [kX12 h q1 q4 q5 q6 q7 q9 q10 q11 x, aI y q5 154 f, aI y q7 2156 fd, aI y q11 20 o] s.heap := hP
  have hl := lv_entry ([.ref h, .int a1]) (n := 2) (Nat.le_of_ble_eq_true rfl)
  rw [lg_entry_eq]
  generalize (lg_sl ([.ref h, .int a1]) ++ List.replicate (2 - (lg_sl ([.ref h, .int a1])).length) Slot.unset).toArray = ls at hl ⊢
  have hl : lv_has ls 2 [(0, .ref h), (1, .int a1)] := hl
  obtain ⟨QQ, hQQ⟩ : ∃ zq9, zq9 = MQ below (QHi G (s_X12_tryRule_r a1 f) (fun u : (Nat → Int32) => [kX12 h q1 q4 q5 q6 q7 q9 q10 q11 (s_X12_tryRule_w0 a1 x f), aI y q5 154 (s_X12_tryRule_w1 a1 f), aI y q7 2156 (s_X12_tryRule_w2 a1 x f fd), aI y q11 20 u]) A) ([.ref h, .int a1] : List Value).toArray s 0 0 A := ⟨_, rfl⟩
  rw [← hQQ]
  refine lv_aload_n hx hb dX12_tryRule_0 rfl (lv_at hl 0 rfl) ?_
  refine lv_iload_n hx hb dX12_tryRule_1 rfl (lv_at hl 1 rfl) ?_
  refine cl_Ri (va_runS (As := [.int a1]) (rest := [.ref h]) ⟨hx, hb, hml, hown, hts⟩ (c_X12_isRule l G y a1) (va_cwS 1 hts gX12_tryRule_X12_isRule rfl rfl rfl (by decide +kernel) ⟨Nat.le_of_ble_eq_true rfl, Nat.le_of_ble_eq_true rfl⟩) (PR_S pnil hK hN) rfl rfl hl.1 rfl (lv_room (Nat.le_of_ble_eq_true rfl)) dX12_tryRule_2 ⟨Nat.le_of_ble_eq_true rfl, Nat.le_of_ble_eq_true rfl⟩) ?_
  have J28_4 : ∀ (o_3 : Nat → Int32) (v_2 : Int32) (e_v_2 : v_2 = (if (s_X12_isRule_r a1) = 0 then 1 else (if (s_X12_canTry_r f) = 0 then 2 else 0))) (H : Heap) (locs : List Loc) (hP : va_P G vwCl [kX12 h q1 q4 q5 q6 q7 q9 q10 q11 x, aI y q5 154 f, aI y q7 2156 fd, aI y q11 20 o_3] H) (hD : va_D A [kX12 h q1 q4 q5 q6 q7 q9 q10 q11 x, aI y q5 154 f, aI y q7 2156 fd, aI y q11 20 o_3]) (hS : va_S A s.heap H locs) (ls : Array Slot) (hl : lv_has ls 2 [(0, .ref h), (1, .int a1)]), W p l e (headSpec wsX12_tryRule rmX12_tryRule).room s m ([.ref h, .int a1] : List Value).toArray below meth c H locs 0 0 QQ (F0 m 28 ls [.int v_2, .ref h]) := by
    intro o_3 v_2 e_v_2 H locs hP hD hS ls hl
    refine cl_Hi (wr := [aI y q5 154 f, aI y q7 2156 fd, aI y q11 20 o_3]) (fun _ : Unit => [kX12 h q1 q4 q5 q6 q7 q9 q10 q11 (upd x 0 v_2), aI y q5 154 f, aI y q7 2156 fd, aI y q11 20 o_3]) [0] [1, 2, 3] [3, 0, 1, 2] (va_runV (As := [.int v_2]) (rest := []) ⟨hx, hb, hml, hown, hts⟩ (c_X12_refused l G y h v_2 q1 q4 q5 q6 q7 q9 q10 q11 x H.size) (cwV 1 hts gX12_tryRule_X12_refused rfl rfl rfl (by decide +kernel) ⟨Nat.le_of_ble_eq_true rfl, Nat.le_of_ble_eq_true rfl⟩) (PH_V (hP.sub (ws' := [kX12 h q1 q4 q5 q6 q7 q9 q10 q11 x]) [0] rfl) hK hN (hD.sub (ws' := [kX12 h q1 q4 q5 q6 q7 q9 q10 q11 x]) [0] (by decide) rfl) (ci := 10) (q0 := 0) rfl rfl) rfl rfl hl.1 rfl (lv_room (Nat.le_of_ble_eq_true rfl)) dX12_tryRule_28 ⟨Nat.le_of_ble_eq_true rfl, Nat.le_of_ble_eq_true rfl⟩) hP hD hS hA rfl rfl rfl (by decide) rfl (fun _ => rfl) (fun _ H locs hP hD hS => ?_)
    have hP : va_P G vwCl [kX12 h q1 q4 q5 q6 q7 q9 q10 q11 (upd x 0 v_2), aI y q5 154 f, aI y q7 2156 fd, aI y q11 20 o_3] H := hP
    have hD : va_D A [kX12 h q1 q4 q5 q6 q7 q9 q10 q11 (upd x 0 v_2), aI y q5 154 f, aI y q7 2156 fd, aI y q11 20 o_3] := hD
    refine lv_if_eq (tgt := 36) hx hb dX12_tryRule_31 (by decide) (fun c_5 => ?_) (fun c_5 => ?_)
    · have hcan := try_in h16 h17 e_v_2 c_5
      refine lv_aload_n hx hb dX12_tryRule_36 rfl (lv_at hl 0 rfl) ?_
      refine cl_Hv (wr := [aI y q11 20 o_3]) (fun _ : Unit => [kX12 h q1 q4 q5 q6 q7 q9 q10 q11 (s_X12_note_w0 (upd x 0 v_2)), aI y q5 154 f, aI y q7 2156 (s_X12_note_w2 (upd x 0 v_2) f fd), aI y q11 20 o_3]) [0, 1, 2] [3] [1, 2, 3, 0] (va_runV (As := []) (rest := []) ⟨hx, hb, hml, hown, hts⟩ (c_X12_note l G y h q1 q4 q5 q6 q7 q9 q10 q11 (upd x 0 v_2) f fd H.size (by show vp_in (x 8) 15; exact h8)) (cwV 0 hts gX12_tryRule_X12_note rfl rfl rfl (by decide +kernel) ⟨Nat.le_of_ble_eq_true rfl, Nat.le_of_ble_eq_true rfl⟩) (PH_V (hP.sub (ws' := [kX12 h q1 q4 q5 q6 q7 q9 q10 q11 (upd x 0 v_2), aI y q5 154 f, aI y q7 2156 fd]) [0, 1, 2] rfl) hK hN (hD.sub (ws' := [kX12 h q1 q4 q5 q6 q7 q9 q10 q11 (upd x 0 v_2), aI y q5 154 f, aI y q7 2156 fd]) [0, 1, 2] (by decide) rfl) (ci := 10) (q0 := 0) rfl rfl) rfl rfl hl.1 rfl (lv_room (Nat.le_of_ble_eq_true rfl)) dX12_tryRule_37 ⟨Nat.le_of_ble_eq_true rfl, Nat.le_of_ble_eq_true rfl⟩) hP hD hS hA rfl rfl rfl (by decide) rfl (fun _ => rfl) (fun _ H locs hP hD hS => ?_)
      have hP : va_P G vwCl [kX12 h q1 q4 q5 q6 q7 q9 q10 q11 (s_X12_note_w0 (upd x 0 v_2)), aI y q5 154 f, aI y q7 2156 (s_X12_note_w2 (upd x 0 v_2) f fd), aI y q11 20 o_3] H := hP
      have hD : va_D A [kX12 h q1 q4 q5 q6 q7 q9 q10 q11 (s_X12_note_w0 (upd x 0 v_2)), aI y q5 154 f, aI y q7 2156 (s_X12_note_w2 (upd x 0 v_2) f fd), aI y q11 20 o_3] := hD
      refine lv_aload_n hx hb dX12_tryRule_40 rfl (lv_at hl 0 rfl) ?_
      refine lv_aload_n hx hb dX12_tryRule_41 rfl (lv_at hl 0 rfl) ?_
      refine va_get (D := G) (ci := 10) (v := .ref q5) (C := RX12) (T := TX12) (N := 15) hx hb hts i_X12 hown hK hP 0 rfl rfl 5 (by decide) (hts (.fieldLink RX12 16 "RelayTunerModel" "now" "[I") (by decide +kernel)) (fun _ h9 => h9) rfl dX12_tryRule_42 ?_
      refine lv_iload_n hx hb dX12_tryRule_45 rfl (lv_at hl 1 rfl) ?_
      refine cl_Hv (wr := [aI y q7 2156 (s_X12_note_w2 (upd x 0 v_2) f fd)]) (fun u : (Nat → Int32) => [kX12 h q1 q4 q5 q6 q7 q9 q10 q11 (s_X12_note_w0 (upd x 0 v_2)), aI y q5 154 (s_X12_tryOn_w1 a1 f), aI y q7 2156 (s_X12_note_w2 (upd x 0 v_2) f fd), aI y q11 20 u]) [0, 1, 3] [2] [1, 2, 0, 3] (va_runV (As := [.ref q5, .int a1]) (rest := []) ⟨hx, hb, hml, hown, hts⟩ (c_X12_tryOn l G y h q5 a1 q1 q4 q5 q6 q7 q9 q10 q11 (s_X12_note_w0 (upd x 0 v_2)) f o_3 H.size h16 hcan.1 hcan.2) (cwV 2 hts gX12_tryRule_X12_tryOn rfl rfl rfl (by decide +kernel) ⟨Nat.le_of_ble_eq_true rfl, Nat.le_of_ble_eq_true rfl⟩) (PH_V (hP.sub (ws' := [kX12 h q1 q4 q5 q6 q7 q9 q10 q11 (s_X12_note_w0 (upd x 0 v_2)), aI y q5 154 f, aI y q11 20 o_3]) [0, 1, 3] rfl) hK hN (hD.sub (ws' := [kX12 h q1 q4 q5 q6 q7 q9 q10 q11 (s_X12_note_w0 (upd x 0 v_2)), aI y q5 154 f, aI y q11 20 o_3]) [0, 1, 3] (by decide) rfl) (ci := 10) (q0 := 0) rfl rfl) rfl rfl hl.1 rfl (lv_room (Nat.le_of_ble_eq_true rfl)) dX12_tryRule_46 ⟨Nat.le_of_ble_eq_true rfl, Nat.le_of_ble_eq_true rfl⟩) hP hD hS hA rfl rfl rfl (by decide) rfl (fun _ => rfl) (fun u H locs hP hD hS => ?_)
      obtain ⟨o_6, rfl⟩ : ∃ zq9, zq9 = u := ⟨_, rfl⟩
      have hP : va_P G vwCl [kX12 h q1 q4 q5 q6 q7 q9 q10 q11 (s_X12_note_w0 (upd x 0 v_2)), aI y q5 154 (s_X12_tryOn_w1 a1 f), aI y q7 2156 (s_X12_note_w2 (upd x 0 v_2) f fd), aI y q11 20 o_6] H := hP
      have hD : va_D A [kX12 h q1 q4 q5 q6 q7 q9 q10 q11 (s_X12_note_w0 (upd x 0 v_2)), aI y q5 154 (s_X12_tryOn_w1 a1 f), aI y q7 2156 (s_X12_note_w2 (upd x 0 v_2) f fd), aI y q11 20 o_6] := hD
      refine lv_aload_n hx hb dX12_tryRule_49 rfl (lv_at hl 0 rfl) ?_
      refine va_get (D := G) (ci := 10) (v := .ref q5) (C := RX12) (T := TX12) (N := 15) hx hb hts i_X12 hown hK hP 0 rfl rfl 5 (by decide) (hts (.fieldLink RX12 16 "RelayTunerModel" "now" "[I") (by decide +kernel)) (fun _ h9 => h9) rfl dX12_tryRule_50 ?_
      refine lv_bipush (v := 8) hx hb dX12_tryRule_53 (by decide) ?_
      refine al_i (D := G) (n := 154) (f := (s_X12_tryOn_w1 a1 f)) hx hb hK hP 1 0 rfl rfl 8 rfl (by decide) (by first | decide | omega) dX12_tryRule_55 ?_
      rw [hQQ]
      exact W.iret hx hb hr (end_Hi o_6 hP hD hS (by subst e_v_2; unfold s_X12_tryRule_r; exact (if_pos c_5).symm) (congr (congr (congrArg (fun (z0 : Nat → Int32) (z1 : Nat → Int32) (z2 : Nat → Int32) => [kX12 h q1 q4 q5 q6 q7 q9 q10 q11 z0, aI y q5 154 z1, aI y q7 2156 z2, aI y q11 20 o_6]) (by subst e_v_2; unfold s_X12_tryRule_w0; exact (if_pos c_5).symm)) (by subst e_v_2; unfold s_X12_tryRule_w1; exact (if_pos c_5).symm)) (by subst e_v_2; unfold s_X12_tryRule_w2; exact (if_pos c_5).symm))) hS.2.2 dX12_tryRule_56
    · refine lv_iconst (v := 0) hx hb dX12_tryRule_34 (by decide) ?_
      rw [hQQ]
      exact W.iret hx hb hr (end_Hi o_3 hP hD hS (by subst e_v_2; unfold s_X12_tryRule_r; exact (if_neg c_5).symm) (congr (congr (congrArg (fun (z0 : Nat → Int32) (z1 : Nat → Int32) (z2 : Nat → Int32) => [kX12 h q1 q4 q5 q6 q7 q9 q10 q11 z0, aI y q5 154 z1, aI y q7 2156 z2, aI y q11 20 o_3]) (by subst e_v_2; unfold s_X12_tryRule_w0; exact (if_neg c_5).symm)) (by subst e_v_2; unfold s_X12_tryRule_w1; exact (if_neg c_5).symm)) (by subst e_v_2; unfold s_X12_tryRule_w2; exact (if_neg c_5).symm))) hS.2.2 dX12_tryRule_35
  refine lv_if_ne (tgt := 12) hx hb dX12_tryRule_5 (by decide) (fun c_1 => ?_) (fun c_1 => ?_)
  · refine lv_aload_n hx hb dX12_tryRule_12 rfl (lv_at hl 0 rfl) ?_
    refine lv_aload_n hx hb dX12_tryRule_13 rfl (lv_at hl 0 rfl) ?_
    refine va_get (D := G) (ci := 10) (v := .ref q5) (C := RX12) (T := TX12) (N := 15) hx hb hts i_X12 hown hK hP 0 rfl rfl 5 (by decide) (hts (.fieldLink RX12 16 "RelayTunerModel" "now" "[I") (by decide +kernel)) (fun _ h9 => h9) rfl dX12_tryRule_14 ?_
    refine cl_Hi (wr := [aI y q7 2156 fd]) (fun u : (Nat → Int32) => [kX12 h q1 q4 q5 q6 q7 q9 q10 q11 x, aI y q5 154 f, aI y q7 2156 fd, aI y q11 20 u]) [0, 1, 3] [2] [1, 2, 0, 3] (va_runV (As := [.ref q5]) (rest := [.ref h]) ⟨hx, hb, hml, hown, hts⟩ (c_X12_canTry l G y h q5 q1 q4 q5 q6 q7 q9 q10 q11 x f o s.heap.size h16) (cwV 1 hts gX12_tryRule_X12_canTry rfl rfl rfl (by decide +kernel) ⟨Nat.le_of_ble_eq_true rfl, Nat.le_of_ble_eq_true rfl⟩) (PH_V (hP.sub (ws' := [kX12 h q1 q4 q5 q6 q7 q9 q10 q11 x, aI y q5 154 f, aI y q11 20 o]) [0, 1, 3] rfl) hK hN (hD.sub (ws' := [kX12 h q1 q4 q5 q6 q7 q9 q10 q11 x, aI y q5 154 f, aI y q11 20 o]) [0, 1, 3] (by decide) rfl) (ci := 10) (q0 := 0) rfl rfl) rfl rfl hl.1 rfl (lv_room (Nat.le_of_ble_eq_true rfl)) dX12_tryRule_17 ⟨Nat.le_of_ble_eq_true rfl, Nat.le_of_ble_eq_true rfl⟩) hP hD hS hA rfl rfl rfl (by decide) rfl (fun _ => rfl) (fun u H locs hP hD hS => ?_)
    obtain ⟨o_7, rfl⟩ : ∃ zq9, zq9 = u := ⟨_, rfl⟩
    have hP : va_P G vwCl [kX12 h q1 q4 q5 q6 q7 q9 q10 q11 x, aI y q5 154 f, aI y q7 2156 fd, aI y q11 20 o_7] H := hP
    have hD : va_D A [kX12 h q1 q4 q5 q6 q7 q9 q10 q11 x, aI y q5 154 f, aI y q7 2156 fd, aI y q11 20 o_7] := hD
    refine lv_if_ne (tgt := 27) hx hb dX12_tryRule_20 (by decide) (fun c_8 => ?_) (fun c_8 => ?_)
    · refine lv_iconst (v := 0) hx hb dX12_tryRule_27 (by decide) ?_
      exact J28_4 _ _ ((if_neg c_1).trans (if_neg c_8)).symm H locs hP hD hS ls (lv_sub hl [0, 1] rfl)
    · refine lv_iconst (v := 2) hx hb dX12_tryRule_23 (by decide) ?_
      refine lv_goto (tgt := 28) hx hb dX12_tryRule_24 (by decide) ?_
      exact J28_4 _ _ ((if_neg c_1).trans (if_pos c_8)).symm H locs hP hD hS ls (lv_sub hl [0, 1] rfl)
  · refine lv_iconst (v := 1) hx hb dX12_tryRule_8 (by decide) ?_
    refine lv_goto (tgt := 28) hx hb dX12_tryRule_9 (by decide) ?_
    exact J28_4 _ _ (if_pos c_1).symm s.heap [] hP hD hS ls (lv_sub hl [0, 1] rfl)

def s_X12_undo_r (x : Nat → Int32) : Int32 := (let v_2 : Int32 := (if (x 8) = 0 then 1 else 0); (if (s_X12_refused_r v_2) = 0 then ((x 8) - 1) else 0))
def s_X12_undo_w0 (x : Nat → Int32) : Nat → Int32 := (let v_2 : Int32 := (if (x 8) = 0 then 1 else 0); (if (s_X12_refused_r v_2) = 0 then (upd (upd x 0 v_2) 8 ((x 8) - 1)) else (upd x 0 v_2)))
def s_X12_undo_w1 (x : Nat → Int32) (f : Nat → Int32) (fd : Nat → Int32) : Nat → Int32 := (let v_2 : Int32 := (if (x 8) = 0 then 1 else 0); (if (s_X12_refused_r v_2) = 0 then (va_cpy fd f (154 * tn ((x 8) - 1)) 0 154) else f))
abbrev rmX12_undo : Room := ({ frames := 1, cells := 0, slots := 0, locals := 24 } : Room)
set_option maxHeartbeats 4000000 in
set_option maxRecDepth 100000 in
theorem c_X12_undo (l : Launch) (G : va_G) (y : Nat → ClassId) (h : Nat) (q1 : Nat) (q4 : Nat) (q5 : Nat) (q6 : Nat) (q7 : Nat) (q9 : Nat) (q10 : Nat) (q11 : Nat) (x : Nat → Int32) (f : Nat → Int32) (fd : Nat → Int32) (sz : Nat) (h8 : vp_in (x 8) 15) : Met l yX12_undo wsX12_undo rmX12_undo (PH G y [.ref h] [kX12 h q1 q4 q5 q6 q7 q9 q10 q11 x, aI y q5 154 f, aI y q7 2156 fd] sz) (QHi G (s_X12_undo_r x) (fun _ : Unit => [kX12 h q1 q4 q5 q6 q7 q9 q10 q11 (s_X12_undo_w0 x), aI y q5 154 (s_X12_undo_w1 x f fd), aI y q7 2156 fd]) (va_A [kX12 h q1 q4 q5 q6 q7 q9 q10 q11 x, aI y q5 154 f, aI y q7 2156 fd] sz)) 0 0 (va_A [kX12 h q1 q4 q5 q6 q7 q9 q10 q11 x, aI y q5 154 f, aI y q7 2156 fd] sz) := by
  refine Met.ofW (cc := cX12_undo) (maxL := 1) (ret := (some .int)) (by decide) rfl ?_
  intro p e s m args below meth c s₁ B hml hv
  obtain ⟨rfl, hsz, hP, ⟨hK, hN⟩, hD0⟩ := hv
  have hx := B.exec
  have hb := B.bytes
  have hr := B.returns
  have hts := atoms_spec (ws := wsX12_undo) B.pre
  have hown : s.vm.findClass RX12 = some m.cls := findClass_of_methodNamed B.named
  have hlocks := B.notSynchronized
  have i_X12 : ∀ w ∈ u_ws RX12 TX12 15, w ∈ wsX12_undo := by decide +kernel
  subst hsz
  have hD := hD0.self (sz := s.heap.size)
  generalize hAe : va_A [kX12 h q1 q4 q5 q6 q7 q9 q10 q11 x, aI y q5 154 f, aI y q7 2156 fd] s.heap.size = A at hD ⊢
  have hA : ∀ q : Nat, s.heap.size ≤ q → A q := fun q h => by rw [← hAe]; exact Or.inr h
  have hS : va_S A s.heap s.heap [] := va_S.rf
  have hP : va_P G vwCl [kX12 h q1 q4 q5 q6 q7 q9 q10 q11 x, aI y q5 154 f, aI y q7 2156 fd] s.heap := hP
  have hl := lv_entry ([.ref h]) (n := 1) (Nat.le_of_ble_eq_true rfl)
  rw [lg_entry_eq]
  generalize (lg_sl ([.ref h]) ++ List.replicate (1 - (lg_sl ([.ref h])).length) Slot.unset).toArray = ls at hl ⊢
  have hl : lv_has ls 1 [(0, .ref h)] := hl
  obtain ⟨QQ, hQQ⟩ : ∃ zq9, zq9 = MQ below (QHi G (s_X12_undo_r x) (fun _ : Unit => [kX12 h q1 q4 q5 q6 q7 q9 q10 q11 (s_X12_undo_w0 x), aI y q5 154 (s_X12_undo_w1 x f fd), aI y q7 2156 fd]) A) ([.ref h] : List Value).toArray s 0 0 A := ⟨_, rfl⟩
  rw [← hQQ]
  refine lv_aload_n hx hb dX12_undo_0 rfl (lv_at hl 0 rfl) ?_
  refine lv_aload_n hx hb dX12_undo_1 rfl (lv_at hl 0 rfl) ?_
  refine va_get (D := G) (ci := 10) (v := .int (x 8)) (C := RX12) (T := TX12) (N := 15) hx hb hts i_X12 hown hK hP 0 rfl rfl 8 (by decide) (hts (.fieldLink RX12 145 "RelayTunerModel" "acts" "I") (by decide +kernel)) (fun _ h9 => h9) rfl dX12_undo_2 ?_
  have J13_4 : ∀ (v_2 : Int32) (e_v_2 : v_2 = (if (x 8) = 0 then 1 else 0)) (z_3 : v_2 = 0 ∨ v_2 = 1) (ls : Array Slot) (hl : lv_has ls 1 [(0, .ref h)]), W p l e (headSpec wsX12_undo rmX12_undo).room s m ([.ref h] : List Value).toArray below meth c s.heap [] 0 0 QQ (F0 m 13 ls [.int v_2, .ref h]) := by
    intro v_2 e_v_2 z_3 ls hl
    refine cl_Hi (wr := [aI y q5 154 f, aI y q7 2156 fd]) (fun _ : Unit => [kX12 h q1 q4 q5 q6 q7 q9 q10 q11 (upd x 0 v_2), aI y q5 154 f, aI y q7 2156 fd]) [0] [1, 2] [2, 0, 1] (va_runV (As := [.int v_2]) (rest := []) ⟨hx, hb, hml, hown, hts⟩ (c_X12_refused l G y h v_2 q1 q4 q5 q6 q7 q9 q10 q11 x s.heap.size) (cwV 1 hts gX12_undo_X12_refused rfl rfl rfl (by decide +kernel) ⟨Nat.le_of_ble_eq_true rfl, Nat.le_of_ble_eq_true rfl⟩) (PH_V (hP.sub (ws' := [kX12 h q1 q4 q5 q6 q7 q9 q10 q11 x]) [0] rfl) hK hN (hD.sub (ws' := [kX12 h q1 q4 q5 q6 q7 q9 q10 q11 x]) [0] (by decide) rfl) (ci := 10) (q0 := 0) rfl rfl) rfl rfl hl.1 rfl (lv_room (Nat.le_of_ble_eq_true rfl)) dX12_undo_13 ⟨Nat.le_of_ble_eq_true rfl, Nat.le_of_ble_eq_true rfl⟩) hP hD hS hA rfl rfl rfl (by decide) rfl (fun _ => rfl) (fun _ H locs hP hD hS => ?_)
    have hP : va_P G vwCl [kX12 h q1 q4 q5 q6 q7 q9 q10 q11 (upd x 0 v_2), aI y q5 154 f, aI y q7 2156 fd] H := hP
    have hD : va_D A [kX12 h q1 q4 q5 q6 q7 q9 q10 q11 (upd x 0 v_2), aI y q5 154 f, aI y q7 2156 fd] := hD
    refine lv_if_eq (tgt := 21) hx hb dX12_undo_16 (by decide) (fun c_5 => ?_) (fun c_5 => ?_)
    · have h14 := act_in h8 (ref01 e_v_2 c_5)
      obtain ⟨hm1, hm2⟩ := in_tn h14 (by decide)
      refine lv_aload_n hx hb dX12_undo_21 rfl (lv_at hl 0 rfl) ?_
      refine lv_dup hx hb dX12_undo_22 rfl ?_
      refine va_get (D := G) (ci := 10) (v := .int (x 8)) (C := RX12) (T := TX12) (N := 15) hx hb hts i_X12 hown hK hP 0 rfl rfl 8 (by decide) (hts (.fieldLink RX12 145 "RelayTunerModel" "acts" "I") (by decide +kernel)) (fun _ h9 => h9) rfl dX12_undo_23 ?_
      refine lv_iconst (v := 1) hx hb dX12_undo_26 (by decide) ?_
      refine lv_isub hx hb dX12_undo_27 ?_
      refine va_put (D := G) (ci := 10) (v := .int ((x 8) - 1)) (ty := .int) (C := RX12) (T := TX12) (N := 15) hx hb hts i_X12 tyX12 tyX12_ok nmX12 hown hK hP hD hS 0 rfl rfl 8 (by decide) (hts (.fieldLink RX12 145 "RelayTunerModel" "acts" "I") (by decide +kernel)) (fun _ h9 => h9) rfl (by decide +kernel) rfl rfl (Nat.le_of_ble_eq_true rfl) dX12_undo_28 (fun H locs hP hD hS => ?_)
      have hP : va_P G vwCl [kX12 h q1 q4 q5 q6 q7 q9 q10 q11 (upd (upd x 0 v_2) 8 ((x 8) - 1)), aI y q5 154 f, aI y q7 2156 fd] H := hP
      have hD : va_D A [kX12 h q1 q4 q5 q6 q7 q9 q10 q11 (upd (upd x 0 v_2) 8 ((x 8) - 1)), aI y q5 154 f, aI y q7 2156 fd] := hD
      refine lv_aload_n hx hb dX12_undo_31 rfl (lv_at hl 0 rfl) ?_
      refine va_get (D := G) (ci := 10) (v := .ref q7) (C := RX12) (T := TX12) (N := 15) hx hb hts i_X12 hown hK hP 0 rfl rfl 7 (by decide) (hts (.fieldLink RX12 22 "RelayTunerModel" "diary" "[I") (by decide +kernel)) (fun _ h9 => h9) rfl dX12_undo_32 ?_
      refine lv_sipush (v := 154) hx hb dX12_undo_35 (by decide) ?_
      refine lv_aload_n hx hb dX12_undo_38 rfl (lv_at hl 0 rfl) ?_
      refine va_get (D := G) (ci := 10) (v := .int ((x 8) - 1)) (C := RX12) (T := TX12) (N := 15) hx hb hts i_X12 hown hK hP 0 rfl rfl 8 (by decide) (hts (.fieldLink RX12 145 "RelayTunerModel" "acts" "I") (by decide +kernel)) (fun _ h9 => h9) rfl dX12_undo_39 ?_
      refine lv_imul hx hb dX12_undo_42 ?_
      refine lv_aload_n hx hb dX12_undo_43 rfl (lv_at hl 0 rfl) ?_
      refine va_get (D := G) (ci := 10) (v := .ref q5) (C := RX12) (T := TX12) (N := 15) hx hb hts i_X12 hown hK hP 0 rfl rfl 5 (by decide) (hts (.fieldLink RX12 16 "RelayTunerModel" "now" "[I") (by decide +kernel)) (fun _ h9 => h9) rfl dX12_undo_44 ?_
      refine lv_iconst (v := 0) hx hb dX12_undo_47 (by decide) ?_
      refine cl_Hv (wr := [kX12 h q1 q4 q5 q6 q7 q9 q10 q11 (upd (upd x 0 v_2) 8 ((x 8) - 1))]) (fun _ : Unit => [kX12 h q1 q4 q5 q6 q7 q9 q10 q11 (upd (upd x 0 v_2) 8 ((x 8) - 1)), aI y q5 154 (va_cpy fd f (154 * tn ((x 8) - 1)) 0 154), aI y q7 2156 fd]) [2, 1] [0] [0, 2, 1] (va_runS (As := [.ref q7, .int (154 * ((x 8) - 1)), .ref q5, .int 0]) (rest := []) ⟨hx, hb, hml, hown, hts⟩ (c_X12_copyPage l G y q7 (154 * ((x 8) - 1)) q5 0 fd f (154 * tn ((x 8) - 1)) 0 2156 154 H.size (pg_ix _ hm1) (by omega) (by decide) rfl (by decide) (by decide)) (va_cwS 4 hts gX12_undo_X12_copyPage rfl rfl rfl (by decide +kernel) ⟨Nat.le_of_ble_eq_true rfl, Nat.le_of_ble_eq_true rfl⟩) (PH_S (hP.sub (ws' := [aI y q7 2156 fd, aI y q5 154 f]) [2, 1] rfl) hK hN (hD.sub (ws' := [aI y q7 2156 fd, aI y q5 154 f]) [2, 1] (by decide) rfl)) rfl rfl hl.1 rfl (lv_room (Nat.le_of_ble_eq_true rfl)) dX12_undo_48 ⟨Nat.le_of_ble_eq_true rfl, Nat.le_of_ble_eq_true rfl⟩) hP hD hS hA rfl rfl rfl (by decide) rfl (fun _ => rfl) (fun _ H locs hP hD hS => ?_)
      have hP : va_P G vwCl [kX12 h q1 q4 q5 q6 q7 q9 q10 q11 (upd (upd x 0 v_2) 8 ((x 8) - 1)), aI y q5 154 (va_cpy fd f (154 * tn ((x 8) - 1)) 0 154), aI y q7 2156 fd] H := hP
      have hD : va_D A [kX12 h q1 q4 q5 q6 q7 q9 q10 q11 (upd (upd x 0 v_2) 8 ((x 8) - 1)), aI y q5 154 (va_cpy fd f (154 * tn ((x 8) - 1)) 0 154), aI y q7 2156 fd] := hD
      refine lv_aload_n hx hb dX12_undo_51 rfl (lv_at hl 0 rfl) ?_
      refine va_get (D := G) (ci := 10) (v := .int ((x 8) - 1)) (C := RX12) (T := TX12) (N := 15) hx hb hts i_X12 hown hK hP 0 rfl rfl 8 (by decide) (hts (.fieldLink RX12 145 "RelayTunerModel" "acts" "I") (by decide +kernel)) (fun _ h9 => h9) rfl dX12_undo_52 ?_
      rw [hQQ]
      exact W.iret hx hb hr (end_Hi () hP hD hS (by subst e_v_2; unfold s_X12_undo_r; exact (if_pos c_5).symm) (congr (congrArg (fun (z0 : Nat → Int32) (z1 : Nat → Int32) => [kX12 h q1 q4 q5 q6 q7 q9 q10 q11 z0, aI y q5 154 z1, aI y q7 2156 fd]) (by subst e_v_2; unfold s_X12_undo_w0; exact (if_pos c_5).symm)) (by subst e_v_2; unfold s_X12_undo_w1; exact (if_pos c_5).symm))) hS.2.2 dX12_undo_55
    · refine lv_iconst (v := 0) hx hb dX12_undo_19 (by decide) ?_
      rw [hQQ]
      exact W.iret hx hb hr (end_Hi () hP hD hS (by subst e_v_2; unfold s_X12_undo_r; exact (if_neg c_5).symm) (congr (congrArg (fun (z0 : Nat → Int32) (z1 : Nat → Int32) => [kX12 h q1 q4 q5 q6 q7 q9 q10 q11 z0, aI y q5 154 z1, aI y q7 2156 fd]) (by subst e_v_2; unfold s_X12_undo_w0; exact (if_neg c_5).symm)) (by subst e_v_2; unfold s_X12_undo_w1; exact (if_neg c_5).symm))) hS.2.2 dX12_undo_20
  refine lv_if_ne (tgt := 12) hx hb dX12_undo_5 (by decide) (fun c_1 => ?_) (fun c_1 => ?_)
  · refine lv_iconst (v := 0) hx hb dX12_undo_12 (by decide) ?_
    exact J13_4 _ (if_neg c_1).symm (Or.inl rfl) ls (lv_sub hl [0] rfl)
  · refine lv_iconst (v := 1) hx hb dX12_undo_8 (by decide) ?_
    refine lv_goto (tgt := 13) hx hb dX12_undo_9 (by decide) ?_
    exact J13_4 _ (if_pos c_1).symm (Or.inr rfl) ls (lv_sub hl [0] rfl)

def s_X12_save_r (a1 : Int32) (f : Nat → Int32) : Int32 := (let v_2 : Int32 := (if (s_X12_in_r a1.toInt64 0 1) = 0 then 1 else 0); (if (s_X12_refused_r v_2) = 0 then (f 13) else 0))
def s_X12_save_w0 (a1 : Int32) (x : Nat → Int32) : Nat → Int32 := (let v_2 : Int32 := (if (s_X12_in_r a1.toInt64 0 1) = 0 then 1 else 0); (upd x 0 v_2))
def s_X12_save_w2 (a1 : Int32) (f : Nat → Int32) (fk : Nat → Int32) : Nat → Int32 := (let v_2 : Int32 := (if (s_X12_in_r a1.toInt64 0 1) = 0 then 1 else 0); (if (s_X12_refused_r v_2) = 0 then (va_cpy f fk 0 (154 * tn a1) 154) else fk))
def s_X12_save_w3 (a1 : Int32) (fz : Nat → Int32) : Nat → Int32 := (let v_2 : Int32 := (if (s_X12_in_r a1.toInt64 0 1) = 0 then 1 else 0); (if (s_X12_refused_r v_2) = 0 then (upd fz (tn a1) (vp_nar .boolean 1)) else fz))
abbrev rmX12_save : Room := ({ frames := 1, cells := 0, slots := 0, locals := 25 } : Room)
set_option maxHeartbeats 4000000 in
set_option maxRecDepth 100000 in
theorem c_X12_save (l : Launch) (G : va_G) (y : Nat → ClassId) (h : Nat) (a1 : Int32) (q1 : Nat) (q4 : Nat) (q5 : Nat) (q6 : Nat) (q7 : Nat) (q9 : Nat) (q10 : Nat) (q11 : Nat) (x : Nat → Int32) (f : Nat → Int32) (fk : Nat → Int32) (fz : Nat → Int32) (sz : Nat) : Met l yX12_save wsX12_save rmX12_save (PH G y [.ref h, .int a1] [kX12 h q1 q4 q5 q6 q7 q9 q10 q11 x, aI y q5 154 f, aI y q9 308 fk, aZ y q10 2 fz] sz) (QHi G (s_X12_save_r a1 f) (fun _ : Unit => [kX12 h q1 q4 q5 q6 q7 q9 q10 q11 (s_X12_save_w0 a1 x), aI y q5 154 f, aI y q9 308 (s_X12_save_w2 a1 f fk), aZ y q10 2 (s_X12_save_w3 a1 fz)]) (va_A [kX12 h q1 q4 q5 q6 q7 q9 q10 q11 x, aI y q5 154 f, aI y q9 308 fk, aZ y q10 2 fz] sz)) 0 0 (va_A [kX12 h q1 q4 q5 q6 q7 q9 q10 q11 x, aI y q5 154 f, aI y q9 308 fk, aZ y q10 2 fz] sz) := by
  refine Met.ofW (cc := cX12_save) (maxL := 2) (ret := (some .int)) (by decide) rfl ?_
  intro p e s m args below meth c s₁ B hml hv
  obtain ⟨rfl, hsz, hP, ⟨hK, hN⟩, hD0⟩ := hv
  have hx := B.exec
  have hb := B.bytes
  have hr := B.returns
  have hts := atoms_spec (ws := wsX12_save) B.pre
  have hown : s.vm.findClass RX12 = some m.cls := findClass_of_methodNamed B.named
  have hlocks := B.notSynchronized
  have i_X12 : ∀ w ∈ u_ws RX12 TX12 15, w ∈ wsX12_save := by decide +kernel
  subst hsz
  have hD := hD0.self (sz := s.heap.size)
  generalize hAe : va_A [kX12 h q1 q4 q5 q6 q7 q9 q10 q11 x, aI y q5 154 f, aI y q9 308 fk, aZ y q10 2 fz] s.heap.size = A at hD ⊢
  have hA : ∀ q : Nat, s.heap.size ≤ q → A q := fun q h => by rw [← hAe]; exact Or.inr h
  have hS : va_S A s.heap s.heap [] := va_S.rf
  have hP : va_P G vwCl [kX12 h q1 q4 q5 q6 q7 q9 q10 q11 x, aI y q5 154 f, aI y q9 308 fk, aZ y q10 2 fz] s.heap := hP
  have hl := lv_entry ([.ref h, .int a1]) (n := 2) (Nat.le_of_ble_eq_true rfl)
  rw [lg_entry_eq]
  generalize (lg_sl ([.ref h, .int a1]) ++ List.replicate (2 - (lg_sl ([.ref h, .int a1])).length) Slot.unset).toArray = ls at hl ⊢
  have hl : lv_has ls 2 [(0, .ref h), (1, .int a1)] := hl
  obtain ⟨QQ, hQQ⟩ : ∃ zq9, zq9 = MQ below (QHi G (s_X12_save_r a1 f) (fun _ : Unit => [kX12 h q1 q4 q5 q6 q7 q9 q10 q11 (s_X12_save_w0 a1 x), aI y q5 154 f, aI y q9 308 (s_X12_save_w2 a1 f fk), aZ y q10 2 (s_X12_save_w3 a1 fz)]) A) ([.ref h, .int a1] : List Value).toArray s 0 0 A := ⟨_, rfl⟩
  rw [← hQQ]
  refine lv_aload_n hx hb dX12_save_0 rfl (lv_at hl 0 rfl) ?_
  refine lv_iload_n hx hb dX12_save_1 rfl (lv_at hl 1 rfl) ?_
  refine lv_i2l (v := a1.toInt64) hx hb dX12_save_2 rfl ?_
  refine lv_lconst (v := 0) hx hb dX12_save_3 rfl ?_
  refine lv_lconst (v := 1) hx hb dX12_save_4 rfl ?_
  refine cl_Ri (va_runS (As := [.long a1.toInt64, .long 0, .long 1]) (rest := [.ref h]) ⟨hx, hb, hml, hown, hts⟩ (c_X12_in l G y a1.toInt64 0 1) (va_cwS 3 hts gX12_save_X12_in rfl rfl rfl (by decide +kernel) ⟨Nat.le_of_ble_eq_true rfl, Nat.le_of_ble_eq_true rfl⟩) (PR_S pnil hK hN) rfl rfl hl.1 rfl (lv_room (Nat.le_of_ble_eq_true rfl)) dX12_save_5 ⟨Nat.le_of_ble_eq_true rfl, Nat.le_of_ble_eq_true rfl⟩) ?_
  have J16_4 : ∀ (v_2 : Int32) (e_v_2 : v_2 = (if (s_X12_in_r a1.toInt64 0 1) = 0 then 1 else 0)) (z_3 : v_2 = 0 ∨ v_2 = 1) (ls : Array Slot) (hl : lv_has ls 2 [(0, .ref h), (1, .int a1)]), W p l e (headSpec wsX12_save rmX12_save).room s m ([.ref h, .int a1] : List Value).toArray below meth c s.heap [] 0 0 QQ (F0 m 16 ls [.int v_2, .ref h]) := by
    intro v_2 e_v_2 z_3 ls hl
    refine cl_Hi (wr := [aI y q5 154 f, aI y q9 308 fk, aZ y q10 2 fz]) (fun _ : Unit => [kX12 h q1 q4 q5 q6 q7 q9 q10 q11 (upd x 0 v_2), aI y q5 154 f, aI y q9 308 fk, aZ y q10 2 fz]) [0] [1, 2, 3] [3, 0, 1, 2] (va_runV (As := [.int v_2]) (rest := []) ⟨hx, hb, hml, hown, hts⟩ (c_X12_refused l G y h v_2 q1 q4 q5 q6 q7 q9 q10 q11 x s.heap.size) (cwV 1 hts gX12_save_X12_refused rfl rfl rfl (by decide +kernel) ⟨Nat.le_of_ble_eq_true rfl, Nat.le_of_ble_eq_true rfl⟩) (PH_V (hP.sub (ws' := [kX12 h q1 q4 q5 q6 q7 q9 q10 q11 x]) [0] rfl) hK hN (hD.sub (ws' := [kX12 h q1 q4 q5 q6 q7 q9 q10 q11 x]) [0] (by decide) rfl) (ci := 10) (q0 := 0) rfl rfl) rfl rfl hl.1 rfl (lv_room (Nat.le_of_ble_eq_true rfl)) dX12_save_16 ⟨Nat.le_of_ble_eq_true rfl, Nat.le_of_ble_eq_true rfl⟩) hP hD hS hA rfl rfl rfl (by decide) rfl (fun _ => rfl) (fun _ H locs hP hD hS => ?_)
    have hP : va_P G vwCl [kX12 h q1 q4 q5 q6 q7 q9 q10 q11 (upd x 0 v_2), aI y q5 154 f, aI y q9 308 fk, aZ y q10 2 fz] H := hP
    have hD : va_D A [kX12 h q1 q4 q5 q6 q7 q9 q10 q11 (upd x 0 v_2), aI y q5 154 f, aI y q9 308 fk, aZ y q10 2 fz] := hD
    refine lv_if_eq (tgt := 24) hx hb dX12_save_19 (by decide) (fun c_5 => ?_) (fun c_5 => ?_)
    · have hin : vp_in a1 2 := in_vp (ref01 e_v_2 c_5) (by decide) (by decide)
      obtain ⟨ha1, ha2⟩ := in_tn hin (by decide)
      refine lv_aload_n hx hb dX12_save_24 rfl (lv_at hl 0 rfl) ?_
      refine va_get (D := G) (ci := 10) (v := .ref q10) (C := RX12) (T := TX12) (N := 15) hx hb hts i_X12 hown hK hP 0 rfl rfl 10 (by decide) (hts (.fieldLink RX12 28 "RelayTunerModel" "isKept" "[Z") (by decide +kernel)) (fun _ h9 => h9) rfl dX12_save_25 ?_
      refine lv_iload_n hx hb dX12_save_28 rfl (lv_at hl 1 rfl) ?_
      refine lv_iconst (v := 1) hx hb dX12_save_29 (by decide) ?_
      refine as_z (D := G) (n := 2) (f := fz) hx hb hK hP hD hS 3 2 rfl rfl (tn a1) ha1 ha2 (by first | decide | omega) dX12_save_30 (fun H locs hP hD hS => ?_)
      have hP : va_P G vwCl [kX12 h q1 q4 q5 q6 q7 q9 q10 q11 (upd x 0 v_2), aI y q5 154 f, aI y q9 308 fk, aZ y q10 2 (upd fz (tn a1) (vp_nar .boolean 1))] H := hP
      have hD : va_D A [kX12 h q1 q4 q5 q6 q7 q9 q10 q11 (upd x 0 v_2), aI y q5 154 f, aI y q9 308 fk, aZ y q10 2 (upd fz (tn a1) (vp_nar .boolean 1))] := hD
      refine lv_aload_n hx hb dX12_save_31 rfl (lv_at hl 0 rfl) ?_
      refine va_get (D := G) (ci := 10) (v := .ref q5) (C := RX12) (T := TX12) (N := 15) hx hb hts i_X12 hown hK hP 0 rfl rfl 5 (by decide) (hts (.fieldLink RX12 16 "RelayTunerModel" "now" "[I") (by decide +kernel)) (fun _ h9 => h9) rfl dX12_save_32 ?_
      refine lv_iconst (v := 0) hx hb dX12_save_35 (by decide) ?_
      refine lv_aload_n hx hb dX12_save_36 rfl (lv_at hl 0 rfl) ?_
      refine va_get (D := G) (ci := 10) (v := .ref q9) (C := RX12) (T := TX12) (N := 15) hx hb hts i_X12 hown hK hP 0 rfl rfl 9 (by decide) (hts (.fieldLink RX12 25 "RelayTunerModel" "kept" "[I") (by decide +kernel)) (fun _ h9 => h9) rfl dX12_save_37 ?_
      refine lv_sipush (v := 154) hx hb dX12_save_40 (by decide) ?_
      refine lv_iload_n hx hb dX12_save_43 rfl (lv_at hl 1 rfl) ?_
      refine lv_imul hx hb dX12_save_44 ?_
      refine cl_Hv (wr := [kX12 h q1 q4 q5 q6 q7 q9 q10 q11 (upd x 0 v_2), aZ y q10 2 (upd fz (tn a1) (vp_nar .boolean 1))]) (fun _ : Unit => [kX12 h q1 q4 q5 q6 q7 q9 q10 q11 (upd x 0 v_2), aI y q5 154 f, aI y q9 308 (va_cpy f fk 0 (154 * tn a1) 154), aZ y q10 2 (upd fz (tn a1) (vp_nar .boolean 1))]) [1, 2] [0, 3] [0, 2, 3, 1] (va_runS (As := [.ref q5, .int 0, .ref q9, .int (154 * a1)]) (rest := []) ⟨hx, hb, hml, hown, hts⟩ (c_X12_copyPage l G y q5 0 q9 (154 * a1) f fk 0 (154 * tn a1) 154 308 H.size rfl (by decide) (by decide) (pg_ix _ ha1) (by omega) (by decide)) (va_cwS 4 hts gX12_save_X12_copyPage rfl rfl rfl (by decide +kernel) ⟨Nat.le_of_ble_eq_true rfl, Nat.le_of_ble_eq_true rfl⟩) (PH_S (hP.sub (ws' := [aI y q5 154 f, aI y q9 308 fk]) [1, 2] rfl) hK hN (hD.sub (ws' := [aI y q5 154 f, aI y q9 308 fk]) [1, 2] (by decide) rfl)) rfl rfl hl.1 rfl (lv_room (Nat.le_of_ble_eq_true rfl)) dX12_save_45 ⟨Nat.le_of_ble_eq_true rfl, Nat.le_of_ble_eq_true rfl⟩) hP hD hS hA rfl rfl rfl (by decide) rfl (fun _ => rfl) (fun _ H locs hP hD hS => ?_)
      have hP : va_P G vwCl [kX12 h q1 q4 q5 q6 q7 q9 q10 q11 (upd x 0 v_2), aI y q5 154 f, aI y q9 308 (va_cpy f fk 0 (154 * tn a1) 154), aZ y q10 2 (upd fz (tn a1) (vp_nar .boolean 1))] H := hP
      have hD : va_D A [kX12 h q1 q4 q5 q6 q7 q9 q10 q11 (upd x 0 v_2), aI y q5 154 f, aI y q9 308 (va_cpy f fk 0 (154 * tn a1) 154), aZ y q10 2 (upd fz (tn a1) (vp_nar .boolean 1))] := hD
      refine lv_aload_n hx hb dX12_save_48 rfl (lv_at hl 0 rfl) ?_
      refine va_get (D := G) (ci := 10) (v := .ref q5) (C := RX12) (T := TX12) (N := 15) hx hb hts i_X12 hown hK hP 0 rfl rfl 5 (by decide) (hts (.fieldLink RX12 16 "RelayTunerModel" "now" "[I") (by decide +kernel)) (fun _ h9 => h9) rfl dX12_save_49 ?_
      refine lv_bipush (v := 13) hx hb dX12_save_52 (by decide) ?_
      refine al_i (D := G) (n := 154) (f := f) hx hb hK hP 1 0 rfl rfl 13 rfl (by decide) (by first | decide | omega) dX12_save_54 ?_
      rw [hQQ]
      exact W.iret hx hb hr (end_Hi () hP hD hS (by subst e_v_2; unfold s_X12_save_r; exact (if_pos c_5).symm) (congr (congr (congrArg (fun (z0 : Nat → Int32) (z2 : Nat → Int32) (z3 : Nat → Int32) => [kX12 h q1 q4 q5 q6 q7 q9 q10 q11 z0, aI y q5 154 f, aI y q9 308 z2, aZ y q10 2 z3]) (by subst e_v_2; unfold s_X12_save_w0; exact rfl)) (by subst e_v_2; unfold s_X12_save_w2; exact (if_pos c_5).symm)) (by subst e_v_2; unfold s_X12_save_w3; exact (if_pos c_5).symm))) hS.2.2 dX12_save_55
    · refine lv_iconst (v := 0) hx hb dX12_save_22 (by decide) ?_
      rw [hQQ]
      exact W.iret hx hb hr (end_Hi () hP hD hS (by subst e_v_2; unfold s_X12_save_r; exact (if_neg c_5).symm) (congr (congr (congrArg (fun (z0 : Nat → Int32) (z2 : Nat → Int32) (z3 : Nat → Int32) => [kX12 h q1 q4 q5 q6 q7 q9 q10 q11 z0, aI y q5 154 f, aI y q9 308 z2, aZ y q10 2 z3]) (by subst e_v_2; unfold s_X12_save_w0; exact rfl)) (by subst e_v_2; unfold s_X12_save_w2; exact (if_neg c_5).symm)) (by subst e_v_2; unfold s_X12_save_w3; exact (if_neg c_5).symm))) hS.2.2 dX12_save_23
  refine lv_if_eq (tgt := 15) hx hb dX12_save_8 (by decide) (fun c_1 => ?_) (fun c_1 => ?_)
  · refine lv_iconst (v := 1) hx hb dX12_save_15 (by decide) ?_
    exact J16_4 _ (if_pos c_1).symm (Or.inr rfl) ls (lv_sub hl [0, 1] rfl)
  · refine lv_iconst (v := 0) hx hb dX12_save_11 (by decide) ?_
    refine lv_goto (tgt := 16) hx hb dX12_save_12 (by decide) ?_
    exact J16_4 _ (if_neg c_1).symm (Or.inl rfl) ls (lv_sub hl [0, 1] rfl)

def s_X12_restore_r (a1 : Int32) (f : Nat → Int32) (fk : Nat → Int32) (fz : Nat → Int32) : Int32 := (let v_2 : Int32 := (if (s_X12_in_r a1.toInt64 0 1) = 0 then 1 else (if (fz (tn a1)) = 0 then 2 else 0)); (if (s_X12_refused_r v_2) = 0 then ((va_cpy fk f (154 * tn a1) 0 154) 13) else 0))
def s_X12_restore_w0 (a1 : Int32) (x : Nat → Int32) (fz : Nat → Int32) : Nat → Int32 := (let v_2 : Int32 := (if (s_X12_in_r a1.toInt64 0 1) = 0 then 1 else (if (fz (tn a1)) = 0 then 2 else 0)); (if (s_X12_refused_r v_2) = 0 then (upd (upd x 0 v_2) 8 0) else (upd x 0 v_2)))
def s_X12_restore_w1 (a1 : Int32) (f : Nat → Int32) (fk : Nat → Int32) (fz : Nat → Int32) : Nat → Int32 := (let v_2 : Int32 := (if (s_X12_in_r a1.toInt64 0 1) = 0 then 1 else (if (fz (tn a1)) = 0 then 2 else 0)); (if (s_X12_refused_r v_2) = 0 then (va_cpy fk f (154 * tn a1) 0 154) else f))
abbrev rmX12_restore : Room := ({ frames := 1, cells := 0, slots := 0, locals := 25 } : Room)
set_option maxHeartbeats 4000000 in
set_option maxRecDepth 100000 in
theorem c_X12_restore (l : Launch) (G : va_G) (y : Nat → ClassId) (h : Nat) (a1 : Int32) (q1 : Nat) (q4 : Nat) (q5 : Nat) (q6 : Nat) (q7 : Nat) (q9 : Nat) (q10 : Nat) (q11 : Nat) (x : Nat → Int32) (f : Nat → Int32) (fk : Nat → Int32) (fz : Nat → Int32) (sz : Nat) : Met l yX12_restore wsX12_restore rmX12_restore (PH G y [.ref h, .int a1] [kX12 h q1 q4 q5 q6 q7 q9 q10 q11 x, aI y q5 154 f, aI y q9 308 fk, aZ y q10 2 fz] sz) (QHi G (s_X12_restore_r a1 f fk fz) (fun _ : Unit => [kX12 h q1 q4 q5 q6 q7 q9 q10 q11 (s_X12_restore_w0 a1 x fz), aI y q5 154 (s_X12_restore_w1 a1 f fk fz), aI y q9 308 fk, aZ y q10 2 fz]) (va_A [kX12 h q1 q4 q5 q6 q7 q9 q10 q11 x, aI y q5 154 f, aI y q9 308 fk, aZ y q10 2 fz] sz)) 0 0 (va_A [kX12 h q1 q4 q5 q6 q7 q9 q10 q11 x, aI y q5 154 f, aI y q9 308 fk, aZ y q10 2 fz] sz) := by
  refine Met.ofW (cc := cX12_restore) (maxL := 2) (ret := (some .int)) (by decide) rfl ?_
  intro p e s m args below meth c s₁ B hml hv
  obtain ⟨rfl, hsz, hP, ⟨hK, hN⟩, hD0⟩ := hv
  have hx := B.exec
  have hb := B.bytes
  have hr := B.returns
  have hts := atoms_spec (ws := wsX12_restore) B.pre
  have hown : s.vm.findClass RX12 = some m.cls := findClass_of_methodNamed B.named
  have hlocks := B.notSynchronized
  have i_X12 : ∀ w ∈ u_ws RX12 TX12 15, w ∈ wsX12_restore := by decide +kernel
  subst hsz
  have hD := hD0.self (sz := s.heap.size)
  generalize hAe : va_A [kX12 h q1 q4 q5 q6 q7 q9 q10 q11 x, aI y q5 154 f, aI y q9 308 fk, aZ y q10 2 fz] s.heap.size = A at hD ⊢
  have hA : ∀ q : Nat, s.heap.size ≤ q → A q := fun q h => by rw [← hAe]; exact Or.inr h
  have hS : va_S A s.heap s.heap [] := va_S.rf
  have hP : va_P G vwCl [kX12 h q1 q4 q5 q6 q7 q9 q10 q11 x, aI y q5 154 f, aI y q9 308 fk, aZ y q10 2 fz] s.heap := hP
  have hl := lv_entry ([.ref h, .int a1]) (n := 2) (Nat.le_of_ble_eq_true rfl)
  rw [lg_entry_eq]
  generalize (lg_sl ([.ref h, .int a1]) ++ List.replicate (2 - (lg_sl ([.ref h, .int a1])).length) Slot.unset).toArray = ls at hl ⊢
  have hl : lv_has ls 2 [(0, .ref h), (1, .int a1)] := hl
  obtain ⟨QQ, hQQ⟩ : ∃ zq9, zq9 = MQ below (QHi G (s_X12_restore_r a1 f fk fz) (fun _ : Unit => [kX12 h q1 q4 q5 q6 q7 q9 q10 q11 (s_X12_restore_w0 a1 x fz), aI y q5 154 (s_X12_restore_w1 a1 f fk fz), aI y q9 308 fk, aZ y q10 2 fz]) A) ([.ref h, .int a1] : List Value).toArray s 0 0 A := ⟨_, rfl⟩
  rw [← hQQ]
  refine lv_aload_n hx hb dX12_restore_0 rfl (lv_at hl 0 rfl) ?_
  refine lv_iload_n hx hb dX12_restore_1 rfl (lv_at hl 1 rfl) ?_
  refine lv_i2l (v := a1.toInt64) hx hb dX12_restore_2 rfl ?_
  refine lv_lconst (v := 0) hx hb dX12_restore_3 rfl ?_
  refine lv_lconst (v := 1) hx hb dX12_restore_4 rfl ?_
  refine cl_Ri (va_runS (As := [.long a1.toInt64, .long 0, .long 1]) (rest := [.ref h]) ⟨hx, hb, hml, hown, hts⟩ (c_X12_in l G y a1.toInt64 0 1) (va_cwS 3 hts gX12_restore_X12_in rfl rfl rfl (by decide +kernel) ⟨Nat.le_of_ble_eq_true rfl, Nat.le_of_ble_eq_true rfl⟩) (PR_S pnil hK hN) rfl rfl hl.1 rfl (lv_room (Nat.le_of_ble_eq_true rfl)) dX12_restore_5 ⟨Nat.le_of_ble_eq_true rfl, Nat.le_of_ble_eq_true rfl⟩) ?_
  have J29_3 : ∀ (v_2 : Int32) (e_v_2 : v_2 = (if (s_X12_in_r a1.toInt64 0 1) = 0 then 1 else (if (fz (tn a1)) = 0 then 2 else 0))) (ls : Array Slot) (hl : lv_has ls 2 [(0, .ref h), (1, .int a1)]), W p l e (headSpec wsX12_restore rmX12_restore).room s m ([.ref h, .int a1] : List Value).toArray below meth c s.heap [] 0 0 QQ (F0 m 29 ls [.int v_2, .ref h]) := by
    intro v_2 e_v_2 ls hl
    refine cl_Hi (wr := [aI y q5 154 f, aI y q9 308 fk, aZ y q10 2 fz]) (fun _ : Unit => [kX12 h q1 q4 q5 q6 q7 q9 q10 q11 (upd x 0 v_2), aI y q5 154 f, aI y q9 308 fk, aZ y q10 2 fz]) [0] [1, 2, 3] [3, 0, 1, 2] (va_runV (As := [.int v_2]) (rest := []) ⟨hx, hb, hml, hown, hts⟩ (c_X12_refused l G y h v_2 q1 q4 q5 q6 q7 q9 q10 q11 x s.heap.size) (cwV 1 hts gX12_restore_X12_refused rfl rfl rfl (by decide +kernel) ⟨Nat.le_of_ble_eq_true rfl, Nat.le_of_ble_eq_true rfl⟩) (PH_V (hP.sub (ws' := [kX12 h q1 q4 q5 q6 q7 q9 q10 q11 x]) [0] rfl) hK hN (hD.sub (ws' := [kX12 h q1 q4 q5 q6 q7 q9 q10 q11 x]) [0] (by decide) rfl) (ci := 10) (q0 := 0) rfl rfl) rfl rfl hl.1 rfl (lv_room (Nat.le_of_ble_eq_true rfl)) dX12_restore_29 ⟨Nat.le_of_ble_eq_true rfl, Nat.le_of_ble_eq_true rfl⟩) hP hD hS hA rfl rfl rfl (by decide) rfl (fun _ => rfl) (fun _ H locs hP hD hS => ?_)
    have hP : va_P G vwCl [kX12 h q1 q4 q5 q6 q7 q9 q10 q11 (upd x 0 v_2), aI y q5 154 f, aI y q9 308 fk, aZ y q10 2 fz] H := hP
    have hD : va_D A [kX12 h q1 q4 q5 q6 q7 q9 q10 q11 (upd x 0 v_2), aI y q5 154 f, aI y q9 308 fk, aZ y q10 2 fz] := hD
    refine lv_if_eq (tgt := 37) hx hb dX12_restore_32 (by decide) (fun c_4 => ?_) (fun c_4 => ?_)
    · have hin : vp_in a1 2 := rest_in e_v_2 c_4
      obtain ⟨ha1, ha2⟩ := in_tn hin (by decide)
      refine lv_aload_n hx hb dX12_restore_37 rfl (lv_at hl 0 rfl) ?_
      refine va_get (D := G) (ci := 10) (v := .ref q9) (C := RX12) (T := TX12) (N := 15) hx hb hts i_X12 hown hK hP 0 rfl rfl 9 (by decide) (hts (.fieldLink RX12 25 "RelayTunerModel" "kept" "[I") (by decide +kernel)) (fun _ h9 => h9) rfl dX12_restore_38 ?_
      refine lv_sipush (v := 154) hx hb dX12_restore_41 (by decide) ?_
      refine lv_iload_n hx hb dX12_restore_44 rfl (lv_at hl 1 rfl) ?_
      refine lv_imul hx hb dX12_restore_45 ?_
      refine lv_aload_n hx hb dX12_restore_46 rfl (lv_at hl 0 rfl) ?_
      refine va_get (D := G) (ci := 10) (v := .ref q5) (C := RX12) (T := TX12) (N := 15) hx hb hts i_X12 hown hK hP 0 rfl rfl 5 (by decide) (hts (.fieldLink RX12 16 "RelayTunerModel" "now" "[I") (by decide +kernel)) (fun _ h9 => h9) rfl dX12_restore_47 ?_
      refine lv_iconst (v := 0) hx hb dX12_restore_50 (by decide) ?_
      refine cl_Hv (wr := [kX12 h q1 q4 q5 q6 q7 q9 q10 q11 (upd x 0 v_2), aZ y q10 2 fz]) (fun _ : Unit => [kX12 h q1 q4 q5 q6 q7 q9 q10 q11 (upd x 0 v_2), aI y q5 154 (va_cpy fk f (154 * tn a1) 0 154), aI y q9 308 fk, aZ y q10 2 fz]) [2, 1] [0, 3] [0, 3, 2, 1] (va_runS (As := [.ref q9, .int (154 * a1), .ref q5, .int 0]) (rest := []) ⟨hx, hb, hml, hown, hts⟩ (c_X12_copyPage l G y q9 (154 * a1) q5 0 fk f (154 * tn a1) 0 308 154 H.size (pg_ix _ ha1) (by omega) (by decide) rfl (by decide) (by decide)) (va_cwS 4 hts gX12_restore_X12_copyPage rfl rfl rfl (by decide +kernel) ⟨Nat.le_of_ble_eq_true rfl, Nat.le_of_ble_eq_true rfl⟩) (PH_S (hP.sub (ws' := [aI y q9 308 fk, aI y q5 154 f]) [2, 1] rfl) hK hN (hD.sub (ws' := [aI y q9 308 fk, aI y q5 154 f]) [2, 1] (by decide) rfl)) rfl rfl hl.1 rfl (lv_room (Nat.le_of_ble_eq_true rfl)) dX12_restore_51 ⟨Nat.le_of_ble_eq_true rfl, Nat.le_of_ble_eq_true rfl⟩) hP hD hS hA rfl rfl rfl (by decide) rfl (fun _ => rfl) (fun _ H locs hP hD hS => ?_)
      have hP : va_P G vwCl [kX12 h q1 q4 q5 q6 q7 q9 q10 q11 (upd x 0 v_2), aI y q5 154 (va_cpy fk f (154 * tn a1) 0 154), aI y q9 308 fk, aZ y q10 2 fz] H := hP
      have hD : va_D A [kX12 h q1 q4 q5 q6 q7 q9 q10 q11 (upd x 0 v_2), aI y q5 154 (va_cpy fk f (154 * tn a1) 0 154), aI y q9 308 fk, aZ y q10 2 fz] := hD
      refine lv_aload_n hx hb dX12_restore_54 rfl (lv_at hl 0 rfl) ?_
      refine lv_iconst (v := 0) hx hb dX12_restore_55 (by decide) ?_
      refine va_put (D := G) (ci := 10) (v := .int 0) (ty := .int) (C := RX12) (T := TX12) (N := 15) hx hb hts i_X12 tyX12 tyX12_ok nmX12 hown hK hP hD hS 0 rfl rfl 8 (by decide) (hts (.fieldLink RX12 145 "RelayTunerModel" "acts" "I") (by decide +kernel)) (fun _ h9 => h9) rfl (by decide +kernel) rfl rfl (Nat.le_of_ble_eq_true rfl) dX12_restore_56 (fun H locs hP hD hS => ?_)
      have hP : va_P G vwCl [kX12 h q1 q4 q5 q6 q7 q9 q10 q11 (upd (upd x 0 v_2) 8 0), aI y q5 154 (va_cpy fk f (154 * tn a1) 0 154), aI y q9 308 fk, aZ y q10 2 fz] H := hP
      have hD : va_D A [kX12 h q1 q4 q5 q6 q7 q9 q10 q11 (upd (upd x 0 v_2) 8 0), aI y q5 154 (va_cpy fk f (154 * tn a1) 0 154), aI y q9 308 fk, aZ y q10 2 fz] := hD
      refine lv_aload_n hx hb dX12_restore_59 rfl (lv_at hl 0 rfl) ?_
      refine va_get (D := G) (ci := 10) (v := .ref q5) (C := RX12) (T := TX12) (N := 15) hx hb hts i_X12 hown hK hP 0 rfl rfl 5 (by decide) (hts (.fieldLink RX12 16 "RelayTunerModel" "now" "[I") (by decide +kernel)) (fun _ h9 => h9) rfl dX12_restore_60 ?_
      refine lv_bipush (v := 13) hx hb dX12_restore_63 (by decide) ?_
      refine al_i (D := G) (n := 154) (f := (va_cpy fk f (154 * tn a1) 0 154)) hx hb hK hP 1 0 rfl rfl 13 rfl (by decide) (by first | decide | omega) dX12_restore_65 ?_
      rw [hQQ]
      exact W.iret hx hb hr (end_Hi () hP hD hS (by subst e_v_2; unfold s_X12_restore_r; exact (if_pos c_4).symm) (congr (congrArg (fun (z0 : Nat → Int32) (z1 : Nat → Int32) => [kX12 h q1 q4 q5 q6 q7 q9 q10 q11 z0, aI y q5 154 z1, aI y q9 308 fk, aZ y q10 2 fz]) (by subst e_v_2; unfold s_X12_restore_w0; exact (if_pos c_4).symm)) (by subst e_v_2; unfold s_X12_restore_w1; exact (if_pos c_4).symm))) hS.2.2 dX12_restore_66
    · refine lv_iconst (v := 0) hx hb dX12_restore_35 (by decide) ?_
      rw [hQQ]
      exact W.iret hx hb hr (end_Hi () hP hD hS (by subst e_v_2; unfold s_X12_restore_r; exact (if_neg c_4).symm) (congr (congrArg (fun (z0 : Nat → Int32) (z1 : Nat → Int32) => [kX12 h q1 q4 q5 q6 q7 q9 q10 q11 z0, aI y q5 154 z1, aI y q9 308 fk, aZ y q10 2 fz]) (by subst e_v_2; unfold s_X12_restore_w0; exact (if_neg c_4).symm)) (by subst e_v_2; unfold s_X12_restore_w1; exact (if_neg c_4).symm))) hS.2.2 dX12_restore_36
  refine lv_if_ne (tgt := 15) hx hb dX12_restore_8 (by decide) (fun c_1 => ?_) (fun c_1 => ?_)
  · have hin : vp_in a1 2 := in_vp c_1 (by decide) (by decide)
    obtain ⟨ha1, ha2⟩ := in_tn hin (by decide)
    refine lv_aload_n hx hb dX12_restore_15 rfl (lv_at hl 0 rfl) ?_
    refine va_get (D := G) (ci := 10) (v := .ref q10) (C := RX12) (T := TX12) (N := 15) hx hb hts i_X12 hown hK hP 0 rfl rfl 10 (by decide) (hts (.fieldLink RX12 28 "RelayTunerModel" "isKept" "[Z") (by decide +kernel)) (fun _ h9 => h9) rfl dX12_restore_16 ?_
    refine lv_iload_n hx hb dX12_restore_19 rfl (lv_at hl 1 rfl) ?_
    refine al_z (D := G) (n := 2) (f := fz) hx hb hK hP 3 2 rfl rfl (tn a1) ha1 ha2 (by first | decide | omega) dX12_restore_20 ?_
    refine lv_if_ne (tgt := 28) hx hb dX12_restore_21 (by decide) (fun c_5 => ?_) (fun c_5 => ?_)
    · refine lv_iconst (v := 0) hx hb dX12_restore_28 (by decide) ?_
      exact J29_3 _ ((if_neg c_1).trans (if_neg c_5)).symm ls (lv_sub hl [0, 1] rfl)
    · refine lv_iconst (v := 2) hx hb dX12_restore_24 (by decide) ?_
      refine lv_goto (tgt := 29) hx hb dX12_restore_25 (by decide) ?_
      exact J29_3 _ ((if_neg c_1).trans (if_pos c_5)).symm ls (lv_sub hl [0, 1] rfl)
  · refine lv_iconst (v := 1) hx hb dX12_restore_11 (by decide) ?_
    refine lv_goto (tgt := 29) hx hb dX12_restore_12 (by decide) ?_
    exact J29_3 _ (if_pos c_1).symm ls (lv_sub hl [0, 1] rfl)

def s_X12_about_r (a1 : Int32) (f : Nat → Int32) : Int32 := (let v_2 : Int32 := (if (s_X12_in_r a1.toInt64 0 19) = 0 then 1 else 0); (if (s_X12_refused_r v_2) = 0 then (let v_7 : Int32 := (if 17 ≤ a1 then (if a1 = 17 then (nI (goodP f)) else (if a1 = 18 then (f 17) else (f 18))) else (f (tn a1))); v_7) else 0))
def s_X12_about_w0 (a1 : Int32) (x : Nat → Int32) : Nat → Int32 := (let v_2 : Int32 := (if (s_X12_in_r a1.toInt64 0 19) = 0 then 1 else 0); (if (s_X12_refused_r v_2) = 0 then (upd x 0 v_2) else (upd x 0 v_2)))
abbrev rmX12_about : Room := ({ frames := 4, cells := 0, slots := 0, locals := 93 } : Room)
set_option maxHeartbeats 4000000 in
set_option maxRecDepth 100000 in
theorem c_X12_about (l : Launch) (G : va_G) (y : Nat → ClassId) (h : Nat) (a1 : Int32) (q1 : Nat) (q4 : Nat) (q5 : Nat) (q6 : Nat) (q7 : Nat) (q9 : Nat) (q10 : Nat) (q11 : Nat) (x : Nat → Int32) (f : Nat → Int32) (o : Nat → Int32) (sz : Nat) (h16 : vp_in (f 16) 21) : Met l yX12_about wsX12_about rmX12_about (PH G y [.ref h, .int a1] [kX12 h q1 q4 q5 q6 q7 q9 q10 q11 x, aI y q5 154 f, aI y q11 20 o] sz) (QHi G (s_X12_about_r a1 f) (fun u : (Nat → Int32) => [kX12 h q1 q4 q5 q6 q7 q9 q10 q11 (s_X12_about_w0 a1 x), aI y q5 154 f, aI y q11 20 u]) (va_A [kX12 h q1 q4 q5 q6 q7 q9 q10 q11 x, aI y q5 154 f, aI y q11 20 o] sz)) 0 0 (va_A [kX12 h q1 q4 q5 q6 q7 q9 q10 q11 x, aI y q5 154 f, aI y q11 20 o] sz) := by
  refine Met.ofW (cc := cX12_about) (maxL := 2) (ret := (some .int)) (by decide) rfl ?_
  intro p e s m args below meth c s₁ B hml hv
  obtain ⟨rfl, hsz, hP, ⟨hK, hN⟩, hD0⟩ := hv
  have hx := B.exec
  have hb := B.bytes
  have hr := B.returns
  have hts := atoms_spec (ws := wsX12_about) B.pre
  have hown : s.vm.findClass RX12 = some m.cls := findClass_of_methodNamed B.named
  have hlocks := B.notSynchronized
  have i_X12 : ∀ w ∈ u_ws RX12 TX12 15, w ∈ wsX12_about := by decide +kernel
  subst hsz
  have hD := hD0.self (sz := s.heap.size)
  generalize hAe : va_A [kX12 h q1 q4 q5 q6 q7 q9 q10 q11 x, aI y q5 154 f, aI y q11 20 o] s.heap.size = A at hD ⊢
  have hA : ∀ q : Nat, s.heap.size ≤ q → A q := fun q h => by rw [← hAe]; exact Or.inr h
  have hS : va_S A s.heap s.heap [] := va_S.rf
  have hP : va_P G vwCl [kX12 h q1 q4 q5 q6 q7 q9 q10 q11 x, aI y q5 154 f, aI y q11 20 o] s.heap := hP
  have hl := lv_entry ([.ref h, .int a1]) (n := 2) (Nat.le_of_ble_eq_true rfl)
  rw [lg_entry_eq]
  generalize (lg_sl ([.ref h, .int a1]) ++ List.replicate (2 - (lg_sl ([.ref h, .int a1])).length) Slot.unset).toArray = ls at hl ⊢
  have hl : lv_has ls 2 [(0, .ref h), (1, .int a1)] := hl
  obtain ⟨QQ, hQQ⟩ : ∃ zq9, zq9 = MQ below (QHi G (s_X12_about_r a1 f) (fun u : (Nat → Int32) => [kX12 h q1 q4 q5 q6 q7 q9 q10 q11 (s_X12_about_w0 a1 x), aI y q5 154 f, aI y q11 20 u]) A) ([.ref h, .int a1] : List Value).toArray s 0 0 A := ⟨_, rfl⟩
  rw [← hQQ]
  refine lv_aload_n hx hb dX12_about_0 rfl (lv_at hl 0 rfl) ?_
  refine lv_iload_n hx hb dX12_about_1 rfl (lv_at hl 1 rfl) ?_
  refine lv_i2l (v := a1.toInt64) hx hb dX12_about_2 rfl ?_
  refine lv_lconst (v := 0) hx hb dX12_about_3 rfl ?_
  refine lv_ldc2 (v := 19) hx hb hown (hts (.constantLong RX12 148 19) (by decide +kernel)) dX12_about_4 ?_
  refine cl_Ri (va_runS (As := [.long a1.toInt64, .long 0, .long 19]) (rest := [.ref h]) ⟨hx, hb, hml, hown, hts⟩ (c_X12_in l G y a1.toInt64 0 19) (va_cwS 3 hts gX12_about_X12_in rfl rfl rfl (by decide +kernel) ⟨Nat.le_of_ble_eq_true rfl, Nat.le_of_ble_eq_true rfl⟩) (PR_S pnil hK hN) rfl rfl hl.1 rfl (lv_room (Nat.le_of_ble_eq_true rfl)) dX12_about_7 ⟨Nat.le_of_ble_eq_true rfl, Nat.le_of_ble_eq_true rfl⟩) ?_
  have J18_4 : ∀ (v_2 : Int32) (e_v_2 : v_2 = (if (s_X12_in_r a1.toInt64 0 19) = 0 then 1 else 0)) (z_3 : v_2 = 0 ∨ v_2 = 1) (ls : Array Slot) (hl : lv_has ls 2 [(0, .ref h), (1, .int a1)]), W p l e (headSpec wsX12_about rmX12_about).room s m ([.ref h, .int a1] : List Value).toArray below meth c s.heap [] 0 0 QQ (F0 m 18 ls [.int v_2, .ref h]) := by
    intro v_2 e_v_2 z_3 ls hl
    refine cl_Hi (wr := [aI y q5 154 f, aI y q11 20 o]) (fun _ : Unit => [kX12 h q1 q4 q5 q6 q7 q9 q10 q11 (upd x 0 v_2), aI y q5 154 f, aI y q11 20 o]) [0] [1, 2] [2, 0, 1] (va_runV (As := [.int v_2]) (rest := []) ⟨hx, hb, hml, hown, hts⟩ (c_X12_refused l G y h v_2 q1 q4 q5 q6 q7 q9 q10 q11 x s.heap.size) (cwV 1 hts gX12_about_X12_refused rfl rfl rfl (by decide +kernel) ⟨Nat.le_of_ble_eq_true rfl, Nat.le_of_ble_eq_true rfl⟩) (PH_V (hP.sub (ws' := [kX12 h q1 q4 q5 q6 q7 q9 q10 q11 x]) [0] rfl) hK hN (hD.sub (ws' := [kX12 h q1 q4 q5 q6 q7 q9 q10 q11 x]) [0] (by decide) rfl) (ci := 10) (q0 := 0) rfl rfl) rfl rfl hl.1 rfl (lv_room (Nat.le_of_ble_eq_true rfl)) dX12_about_18 ⟨Nat.le_of_ble_eq_true rfl, Nat.le_of_ble_eq_true rfl⟩) hP hD hS hA rfl rfl rfl (by decide) rfl (fun _ => rfl) (fun _ H locs hP hD hS => ?_)
    have hP : va_P G vwCl [kX12 h q1 q4 q5 q6 q7 q9 q10 q11 (upd x 0 v_2), aI y q5 154 f, aI y q11 20 o] H := hP
    have hD : va_D A [kX12 h q1 q4 q5 q6 q7 q9 q10 q11 (upd x 0 v_2), aI y q5 154 f, aI y q11 20 o] := hD
    refine lv_if_eq (tgt := 26) hx hb dX12_about_21 (by decide) (fun c_5 => ?_) (fun c_5 => ?_)
    · have hin : vp_in a1 20 := in_vp (ref01 e_v_2 c_5) (by decide) (by decide)
      obtain ⟨ha1, ha2⟩ := in_tn hin (by decide)
      refine lv_iload_n hx hb dX12_about_26 rfl (lv_at hl 1 rfl) ?_
      refine lv_bipush (v := 17) hx hb dX12_about_27 (by decide) ?_
      have J81_9 : ∀ (o_8 : Nat → Int32) (v_7 : Int32) (e_v_7 : v_7 = (if 17 ≤ a1 then (if a1 = 17 then (nI (goodP f)) else (if a1 = 18 then (f 17) else (f 18))) else (f (tn a1)))) (H : Heap) (locs : List Loc) (hP : va_P G vwCl [kX12 h q1 q4 q5 q6 q7 q9 q10 q11 (upd x 0 v_2), aI y q5 154 f, aI y q11 20 o_8] H) (hD : va_D A [kX12 h q1 q4 q5 q6 q7 q9 q10 q11 (upd x 0 v_2), aI y q5 154 f, aI y q11 20 o_8]) (hS : va_S A s.heap H locs) (ls : Array Slot) (hl : lv_has ls 2 []), W p l e (headSpec wsX12_about rmX12_about).room s m ([.ref h, .int a1] : List Value).toArray below meth c H locs 0 0 QQ (F0 m 81 ls [.int v_7]) := by
        intro o_8 v_7 e_v_7 H locs hP hD hS ls hl
        rw [hQQ]
        exact W.iret hx hb hr (end_Hi o_8 hP hD hS (by subst e_v_7; subst e_v_2; unfold s_X12_about_r; exact (if_pos c_5).symm) (congrArg (fun (z0 : Nat → Int32) => [kX12 h q1 q4 q5 q6 q7 q9 q10 q11 z0, aI y q5 154 f, aI y q11 20 o_8]) (by subst e_v_7; subst e_v_2; unfold s_X12_about_w0; exact (if_pos c_5).symm))) hS.2.2 dX12_about_81
      refine lv_icmp_ge (tgt := 41) hx hb dX12_about_29 (by decide) (fun c_6 => ?_) (fun c_6 => ?_)
      · refine lv_iload_n hx hb dX12_about_41 rfl (lv_at hl 1 rfl) ?_
        refine lv_bipush (v := 17) hx hb dX12_about_42 (by decide) ?_
        refine lv_icmp_ne (tgt := 58) hx hb dX12_about_44 (by decide) (fun c_10 => ?_) (fun c_10 => ?_)
        · refine lv_iload_n hx hb dX12_about_58 rfl (lv_at hl 1 rfl) ?_
          refine lv_bipush (v := 18) hx hb dX12_about_59 (by decide) ?_
          refine lv_icmp_ne (tgt := 74) hx hb dX12_about_61 (by decide) (fun c_11 => ?_) (fun c_11 => ?_)
          · refine lv_aload_n hx hb dX12_about_74 rfl (lv_at hl 0 rfl) ?_
            refine va_get (D := G) (ci := 10) (v := .ref q5) (C := RX12) (T := TX12) (N := 15) hx hb hts i_X12 hown hK hP 0 rfl rfl 5 (by decide) (hts (.fieldLink RX12 16 "RelayTunerModel" "now" "[I") (by decide +kernel)) (fun _ h9 => h9) rfl dX12_about_75 ?_
            refine lv_bipush (v := 18) hx hb dX12_about_78 (by decide) ?_
            refine al_i (D := G) (n := 154) (f := f) hx hb hK hP 1 0 rfl rfl 18 rfl (by decide) (by first | decide | omega) dX12_about_80 ?_
            exact J81_9 _ _ ((if_pos c_6).trans ((if_neg c_10).trans (if_neg c_11))).symm H locs hP hD hS ls (lv_sub hl [] rfl)
          · refine lv_aload_n hx hb dX12_about_64 rfl (lv_at hl 0 rfl) ?_
            refine va_get (D := G) (ci := 10) (v := .ref q5) (C := RX12) (T := TX12) (N := 15) hx hb hts i_X12 hown hK hP 0 rfl rfl 5 (by decide) (hts (.fieldLink RX12 16 "RelayTunerModel" "now" "[I") (by decide +kernel)) (fun _ h9 => h9) rfl dX12_about_65 ?_
            refine lv_bipush (v := 17) hx hb dX12_about_68 (by decide) ?_
            refine al_i (D := G) (n := 154) (f := f) hx hb hK hP 1 0 rfl rfl 17 rfl (by decide) (by first | decide | omega) dX12_about_70 ?_
            refine lv_goto (tgt := 81) hx hb dX12_about_71 (by decide) ?_
            exact J81_9 _ _ ((if_pos c_6).trans ((if_neg c_10).trans (if_pos c_11))).symm H locs hP hD hS ls (lv_sub hl [] rfl)
        · refine lv_aload_n hx hb dX12_about_47 rfl (lv_at hl 0 rfl) ?_
          refine lv_aload_n hx hb dX12_about_48 rfl (lv_at hl 0 rfl) ?_
          refine va_get (D := G) (ci := 10) (v := .ref q5) (C := RX12) (T := TX12) (N := 15) hx hb hts i_X12 hown hK hP 0 rfl rfl 5 (by decide) (hts (.fieldLink RX12 16 "RelayTunerModel" "now" "[I") (by decide +kernel)) (fun _ h9 => h9) rfl dX12_about_49 ?_
          refine cl_Hi (wr := []) (fun u : (Nat → Int32) => [kX12 h q1 q4 q5 q6 q7 q9 q10 q11 (upd x 0 v_2), aI y q5 154 f, aI y q11 20 u]) [0, 1, 2] [] [0, 1, 2] (va_runV (As := [.ref q5]) (rest := []) ⟨hx, hb, hml, hown, hts⟩ (c_X12_goodOf l G y h q5 q1 q4 q5 q6 q7 q9 q10 q11 (upd x 0 v_2) f o H.size h16) (cwV 1 hts gX12_about_X12_goodOf rfl rfl rfl (by decide +kernel) ⟨Nat.le_of_ble_eq_true rfl, Nat.le_of_ble_eq_true rfl⟩) (PH_V (hP.sub (ws' := [kX12 h q1 q4 q5 q6 q7 q9 q10 q11 (upd x 0 v_2), aI y q5 154 f, aI y q11 20 o]) [0, 1, 2] rfl) hK hN (hD.sub (ws' := [kX12 h q1 q4 q5 q6 q7 q9 q10 q11 (upd x 0 v_2), aI y q5 154 f, aI y q11 20 o]) [0, 1, 2] (by decide) rfl) (ci := 10) (q0 := 0) rfl rfl) rfl rfl hl.1 rfl (lv_room (Nat.le_of_ble_eq_true rfl)) dX12_about_52 ⟨Nat.le_of_ble_eq_true rfl, Nat.le_of_ble_eq_true rfl⟩) hP hD hS hA rfl rfl rfl (by decide) rfl (fun _ => rfl) (fun u H locs hP hD hS => ?_)
          obtain ⟨o_12, rfl⟩ : ∃ zq9, zq9 = u := ⟨_, rfl⟩
          have hP : va_P G vwCl [kX12 h q1 q4 q5 q6 q7 q9 q10 q11 (upd x 0 v_2), aI y q5 154 f, aI y q11 20 o_12] H := hP
          have hD : va_D A [kX12 h q1 q4 q5 q6 q7 q9 q10 q11 (upd x 0 v_2), aI y q5 154 f, aI y q11 20 o_12] := hD
          refine lv_goto (tgt := 81) hx hb dX12_about_55 (by decide) ?_
          exact J81_9 _ _ ((if_pos c_6).trans (if_pos c_10)).symm H locs hP hD hS ls (lv_sub hl [] rfl)
      · refine lv_aload_n hx hb dX12_about_32 rfl (lv_at hl 0 rfl) ?_
        refine va_get (D := G) (ci := 10) (v := .ref q5) (C := RX12) (T := TX12) (N := 15) hx hb hts i_X12 hown hK hP 0 rfl rfl 5 (by decide) (hts (.fieldLink RX12 16 "RelayTunerModel" "now" "[I") (by decide +kernel)) (fun _ h9 => h9) rfl dX12_about_33 ?_
        refine lv_iload_n hx hb dX12_about_36 rfl (lv_at hl 1 rfl) ?_
        refine al_i (D := G) (n := 154) (f := f) hx hb hK hP 1 0 rfl rfl (tn a1) ha1 (by omega) (by first | decide | omega) dX12_about_37 ?_
        refine lv_goto (tgt := 81) hx hb dX12_about_38 (by decide) ?_
        exact J81_9 _ _ (if_neg c_6).symm H locs hP hD hS ls (lv_sub hl [] rfl)
    · refine lv_iconst (v := 0) hx hb dX12_about_24 (by decide) ?_
      rw [hQQ]
      exact W.iret hx hb hr (end_Hi o hP hD hS (by subst e_v_2; unfold s_X12_about_r; exact (if_neg c_5).symm) (congrArg (fun (z0 : Nat → Int32) => [kX12 h q1 q4 q5 q6 q7 q9 q10 q11 z0, aI y q5 154 f, aI y q11 20 o]) (by subst e_v_2; unfold s_X12_about_w0; exact (if_neg c_5).symm))) hS.2.2 dX12_about_25
  refine lv_if_eq (tgt := 17) hx hb dX12_about_10 (by decide) (fun c_1 => ?_) (fun c_1 => ?_)
  · refine lv_iconst (v := 1) hx hb dX12_about_17 (by decide) ?_
    exact J18_4 _ (if_pos c_1).symm (Or.inr rfl) ls (lv_sub hl [0, 1] rfl)
  · refine lv_iconst (v := 0) hx hb dX12_about_13 (by decide) ?_
    refine lv_goto (tgt := 18) hx hb dX12_about_14 (by decide) ?_
    exact J18_4 _ (if_neg c_1).symm (Or.inl rfl) ls (lv_sub hl [0, 1] rfl)

theorem ref012 {P Q : Prop} [Decidable P] [Decidable Q] {v : Int32} (e : v = (if P then 1 else (if Q then 2 else 0))) (c : s_X12_refused_r v = 0) : ¬ P ∧ ¬ Q := by
  have h := refused_no c
  rw [e] at h
  split at h
  · exact absurd h (by decide)
  · next p =>
    split at h
    · exact absurd h (by decide)
    · next q => exact ⟨p, q⟩
theorem ref021 {P Q : Prop} [Decidable P] [Decidable Q] {v : Int32} (e : v = (if P then 1 else (if Q then 1 else 0))) (c : s_X12_refused_r v = 0) : ¬ P ∧ ¬ Q := by
  have h := refused_no c
  rw [e] at h
  split at h
  · exact absurd h (by decide)
  · next p =>
    split at h
    · exact absurd h (by decide)
    · next q => exact ⟨p, q⟩
theorem ref0122 {P Q S : Prop} [Decidable P] [Decidable Q] [Decidable S] {v : Int32} (e : v = (if P then 1 else (if Q then 2 else (if S then 2 else 0)))) (c : s_X12_refused_r v = 0) : ¬ P ∧ ¬ Q ∧ ¬ S := by
  have h := refused_no c
  rw [e] at h
  split at h
  · exact absurd h (by decide)
  · next p =>
    split at h
    · exact absurd h (by decide)
    · next q =>
      split at h
      · exact absurd h (by decide)
      · next s => exact ⟨p, q, s⟩

def s_X12_swing_r (a1 : Int32) (a2 : Int32) (f : Nat → Int32) : Int32 := (let v_2 : Int32 := (if (s_X12_isSwing_r a1 f) = 0 then 1 else (if (s_X12_in_r a2.toInt64 0 4) = 0 then 2 else 0)); (if (s_X12_refused_r v_2) = 0 then (let v_6 : Int32 := (if 3 ≤ a2 then (if a2 = 3 then (oddP f (tn a1)) else (f (42 + 4 * tn a1 + 3))) else (f (42 + 4 * tn a1 + tn a2))); v_6) else 0))
def s_X12_swing_w0 (a1 : Int32) (a2 : Int32) (x : Nat → Int32) (f : Nat → Int32) : Nat → Int32 := (let v_2 : Int32 := (if (s_X12_isSwing_r a1 f) = 0 then 1 else (if (s_X12_in_r a2.toInt64 0 4) = 0 then 2 else 0)); (if (s_X12_refused_r v_2) = 0 then (upd x 0 v_2) else (upd x 0 v_2)))
abbrev rmX12_swing : Room := ({ frames := 3, cells := 0, slots := 0, locals := 70 } : Room)
set_option maxHeartbeats 4000000 in
set_option maxRecDepth 100000 in
theorem c_X12_swing (l : Launch) (G : va_G) (y : Nat → ClassId) (h : Nat) (a1 : Int32) (a2 : Int32) (q1 : Nat) (q4 : Nat) (q5 : Nat) (q6 : Nat) (q7 : Nat) (q9 : Nat) (q10 : Nat) (q11 : Nat) (x : Nat → Int32) (f : Nat → Int32) (o : Nat → Int32) (sz : Nat) (h16 : vp_in (f 16) 21) : Met l yX12_swing wsX12_swing rmX12_swing (PH G y [.ref h, .int a1, .int a2] [kX12 h q1 q4 q5 q6 q7 q9 q10 q11 x, aI y q5 154 f, aI y q11 20 o] sz) (QHi G (s_X12_swing_r a1 a2 f) (fun u : (Nat → Int32) => [kX12 h q1 q4 q5 q6 q7 q9 q10 q11 (s_X12_swing_w0 a1 a2 x f), aI y q5 154 f, aI y q11 20 u]) (va_A [kX12 h q1 q4 q5 q6 q7 q9 q10 q11 x, aI y q5 154 f, aI y q11 20 o] sz)) 0 0 (va_A [kX12 h q1 q4 q5 q6 q7 q9 q10 q11 x, aI y q5 154 f, aI y q11 20 o] sz) := by
  refine Met.ofW (cc := cX12_swing) (maxL := 3) (ret := (some .int)) (by decide) rfl ?_
  intro p e s m args below meth c s₁ B hml hv
  obtain ⟨rfl, hsz, hP, ⟨hK, hN⟩, hD0⟩ := hv
  have hx := B.exec
  have hb := B.bytes
  have hr := B.returns
  have hts := atoms_spec (ws := wsX12_swing) B.pre
  have hown : s.vm.findClass RX12 = some m.cls := findClass_of_methodNamed B.named
  have hlocks := B.notSynchronized
  have i_X12 : ∀ w ∈ u_ws RX12 TX12 15, w ∈ wsX12_swing := by decide +kernel
  subst hsz
  have hD := hD0.self (sz := s.heap.size)
  generalize hAe : va_A [kX12 h q1 q4 q5 q6 q7 q9 q10 q11 x, aI y q5 154 f, aI y q11 20 o] s.heap.size = A at hD ⊢
  have hA : ∀ q : Nat, s.heap.size ≤ q → A q := fun q h => by rw [← hAe]; exact Or.inr h
  have hS : va_S A s.heap s.heap [] := va_S.rf
  have hP : va_P G vwCl [kX12 h q1 q4 q5 q6 q7 q9 q10 q11 x, aI y q5 154 f, aI y q11 20 o] s.heap := hP
  have hl := lv_entry ([.ref h, .int a1, .int a2]) (n := 3) (Nat.le_of_ble_eq_true rfl)
  rw [lg_entry_eq]
  generalize (lg_sl ([.ref h, .int a1, .int a2]) ++ List.replicate (3 - (lg_sl ([.ref h, .int a1, .int a2])).length) Slot.unset).toArray = ls at hl ⊢
  have hl : lv_has ls 3 [(0, .ref h), (1, .int a1), (2, .int a2)] := hl
  obtain ⟨QQ, hQQ⟩ : ∃ zq9, zq9 = MQ below (QHi G (s_X12_swing_r a1 a2 f) (fun u : (Nat → Int32) => [kX12 h q1 q4 q5 q6 q7 q9 q10 q11 (s_X12_swing_w0 a1 a2 x f), aI y q5 154 f, aI y q11 20 u]) A) ([.ref h, .int a1, .int a2] : List Value).toArray s 0 0 A := ⟨_, rfl⟩
  rw [← hQQ]
  refine lv_aload_n hx hb dX12_swing_0 rfl (lv_at hl 0 rfl) ?_
  refine lv_aload_n hx hb dX12_swing_1 rfl (lv_at hl 0 rfl) ?_
  refine lv_iload_n hx hb dX12_swing_2 rfl (lv_at hl 1 rfl) ?_
  refine cl_Ri (va_runV (As := [.int a1]) (rest := [.ref h]) ⟨hx, hb, hml, hown, hts⟩ (c_X12_isSwing l G y h a1 q1 q4 q5 q6 q7 q9 q10 q11 x f) (cwV 1 hts gX12_swing_X12_isSwing rfl rfl rfl (by decide +kernel) ⟨Nat.le_of_ble_eq_true rfl, Nat.le_of_ble_eq_true rfl⟩) (PR_V (hP.sub (ws' := [kX12 h q1 q4 q5 q6 q7 q9 q10 q11 x, aI y q5 154 f]) [0, 1] rfl) hK hN (ci := 10) (q0 := 0) rfl rfl) rfl rfl hl.1 rfl (lv_room (Nat.le_of_ble_eq_true rfl)) dX12_swing_3 ⟨Nat.le_of_ble_eq_true rfl, Nat.le_of_ble_eq_true rfl⟩) ?_
  have J30_3 : ∀ (v_2 : Int32) (e_v_2 : v_2 = (if (s_X12_isSwing_r a1 f) = 0 then 1 else (if (s_X12_in_r a2.toInt64 0 4) = 0 then 2 else 0))) (ls : Array Slot) (hl : lv_has ls 3 [(0, .ref h), (1, .int a1), (2, .int a2)]), W p l e (headSpec wsX12_swing rmX12_swing).room s m ([.ref h, .int a1, .int a2] : List Value).toArray below meth c s.heap [] 0 0 QQ (F0 m 30 ls [.int v_2, .ref h]) := by
    intro v_2 e_v_2 ls hl
    refine cl_Hi (wr := [aI y q5 154 f, aI y q11 20 o]) (fun _ : Unit => [kX12 h q1 q4 q5 q6 q7 q9 q10 q11 (upd x 0 v_2), aI y q5 154 f, aI y q11 20 o]) [0] [1, 2] [2, 0, 1] (va_runV (As := [.int v_2]) (rest := []) ⟨hx, hb, hml, hown, hts⟩ (c_X12_refused l G y h v_2 q1 q4 q5 q6 q7 q9 q10 q11 x s.heap.size) (cwV 1 hts gX12_swing_X12_refused rfl rfl rfl (by decide +kernel) ⟨Nat.le_of_ble_eq_true rfl, Nat.le_of_ble_eq_true rfl⟩) (PH_V (hP.sub (ws' := [kX12 h q1 q4 q5 q6 q7 q9 q10 q11 x]) [0] rfl) hK hN (hD.sub (ws' := [kX12 h q1 q4 q5 q6 q7 q9 q10 q11 x]) [0] (by decide) rfl) (ci := 10) (q0 := 0) rfl rfl) rfl rfl hl.1 rfl (lv_room (Nat.le_of_ble_eq_true rfl)) dX12_swing_30 ⟨Nat.le_of_ble_eq_true rfl, Nat.le_of_ble_eq_true rfl⟩) hP hD hS hA rfl rfl rfl (by decide) rfl (fun _ => rfl) (fun _ H locs hP hD hS => ?_)
    have hP : va_P G vwCl [kX12 h q1 q4 q5 q6 q7 q9 q10 q11 (upd x 0 v_2), aI y q5 154 f, aI y q11 20 o] H := hP
    have hD : va_D A [kX12 h q1 q4 q5 q6 q7 q9 q10 q11 (upd x 0 v_2), aI y q5 154 f, aI y q11 20 o] := hD
    refine lv_if_eq (tgt := 38) hx hb dX12_swing_33 (by decide) (fun c_4 => ?_) (fun c_4 => ?_)
    · obtain ⟨hq1, hq2⟩ := ref012 e_v_2 c_4
      have hin : vp_in a1 20 := swing_in h16 hq1
      have hin2 : vp_in a2 5 := in_vp hq2 (by decide) (by decide)
      obtain ⟨ha1, ha2⟩ := in_tn hin (by decide)
      obtain ⟨hb1, hb2⟩ := in_tn hin2 (by decide)
      refine lv_iload_n hx hb dX12_swing_38 rfl (lv_at hl 2 rfl) ?_
      refine lv_iconst (v := 3) hx hb dX12_swing_39 (by decide) ?_
      have J89_8 : ∀ (o_7 : Nat → Int32) (v_6 : Int32) (e_v_6 : v_6 = (if 3 ≤ a2 then (if a2 = 3 then (oddP f (tn a1)) else (f (42 + 4 * tn a1 + 3))) else (f (42 + 4 * tn a1 + tn a2)))) (H : Heap) (locs : List Loc) (hP : va_P G vwCl [kX12 h q1 q4 q5 q6 q7 q9 q10 q11 (upd x 0 v_2), aI y q5 154 f, aI y q11 20 o_7] H) (hD : va_D A [kX12 h q1 q4 q5 q6 q7 q9 q10 q11 (upd x 0 v_2), aI y q5 154 f, aI y q11 20 o_7]) (hS : va_S A s.heap H locs) (ls : Array Slot) (hl : lv_has ls 3 []), W p l e (headSpec wsX12_swing rmX12_swing).room s m ([.ref h, .int a1, .int a2] : List Value).toArray below meth c H locs 0 0 QQ (F0 m 89 ls [.int v_6]) := by
        intro o_7 v_6 e_v_6 H locs hP hD hS ls hl
        rw [hQQ]
        exact W.iret hx hb hr (end_Hi o_7 hP hD hS (by subst e_v_6; subst e_v_2; unfold s_X12_swing_r; exact (if_pos c_4).symm) (congrArg (fun (z0 : Nat → Int32) => [kX12 h q1 q4 q5 q6 q7 q9 q10 q11 z0, aI y q5 154 f, aI y q11 20 o_7]) (by subst e_v_6; subst e_v_2; unfold s_X12_swing_w0; exact (if_pos c_4).symm))) hS.2.2 dX12_swing_89
      refine lv_icmp_ge (tgt := 59) hx hb dX12_swing_40 (by decide) (fun c_5 => ?_) (fun c_5 => ?_)
      · refine lv_iload_n hx hb dX12_swing_59 rfl (lv_at hl 2 rfl) ?_
        refine lv_iconst (v := 3) hx hb dX12_swing_60 (by decide) ?_
        refine lv_icmp_ne (tgt := 76) hx hb dX12_swing_61 (by decide) (fun c_9 => ?_) (fun c_9 => ?_)
        · refine lv_aload_n hx hb dX12_swing_76 rfl (lv_at hl 0 rfl) ?_
          refine va_get (D := G) (ci := 10) (v := .ref q5) (C := RX12) (T := TX12) (N := 15) hx hb hts i_X12 hown hK hP 0 rfl rfl 5 (by decide) (hts (.fieldLink RX12 16 "RelayTunerModel" "now" "[I") (by decide +kernel)) (fun _ h9 => h9) rfl dX12_swing_77 ?_
          refine lv_bipush (v := 42) hx hb dX12_swing_80 (by decide) ?_
          refine lv_iconst (v := 4) hx hb dX12_swing_82 (by decide) ?_
          refine lv_iload_n hx hb dX12_swing_83 rfl (lv_at hl 1 rfl) ?_
          refine lv_imul hx hb dX12_swing_84 ?_
          refine lv_iadd hx hb dX12_swing_85 ?_
          refine lv_iconst (v := 3) hx hb dX12_swing_86 (by decide) ?_
          refine lv_iadd hx hb dX12_swing_87 ?_
          refine al_i (D := G) (n := 154) (f := f) hx hb hK hP 1 0 rfl rfl (42 + 4 * tn a1 + 3) (ix4 3 _ ha1) (by omega) (by first | decide | omega) dX12_swing_88 ?_
          exact J89_8 _ _ ((if_pos c_5).trans (if_neg c_9)).symm H locs hP hD hS ls (lv_sub hl [] rfl)
        · refine lv_aload_n hx hb dX12_swing_64 rfl (lv_at hl 0 rfl) ?_
          refine lv_aload_n hx hb dX12_swing_65 rfl (lv_at hl 0 rfl) ?_
          refine va_get (D := G) (ci := 10) (v := .ref q5) (C := RX12) (T := TX12) (N := 15) hx hb hts i_X12 hown hK hP 0 rfl rfl 5 (by decide) (hts (.fieldLink RX12 16 "RelayTunerModel" "now" "[I") (by decide +kernel)) (fun _ h9 => h9) rfl dX12_swing_66 ?_
          refine lv_iload_n hx hb dX12_swing_69 rfl (lv_at hl 1 rfl) ?_
          refine cl_Hi (wr := []) (fun u : (Nat → Int32) => [kX12 h q1 q4 q5 q6 q7 q9 q10 q11 (upd x 0 v_2), aI y q5 154 f, aI y q11 20 u]) [0, 1, 2] [] [0, 1, 2] (va_runV (As := [.ref q5, .int a1]) (rest := []) ⟨hx, hb, hml, hown, hts⟩ (c_X12_oddOf' l G y h q5 a1 q1 q4 q5 q6 q7 q9 q10 q11 (upd x 0 v_2) f o H.size hin h16) (cwV 2 hts gX12_swing_X12_oddOf rfl rfl rfl (by decide +kernel) ⟨Nat.le_of_ble_eq_true rfl, Nat.le_of_ble_eq_true rfl⟩) (PH_V (hP.sub (ws' := [kX12 h q1 q4 q5 q6 q7 q9 q10 q11 (upd x 0 v_2), aI y q5 154 f, aI y q11 20 o]) [0, 1, 2] rfl) hK hN (hD.sub (ws' := [kX12 h q1 q4 q5 q6 q7 q9 q10 q11 (upd x 0 v_2), aI y q5 154 f, aI y q11 20 o]) [0, 1, 2] (by decide) rfl) (ci := 10) (q0 := 0) rfl rfl) rfl rfl hl.1 rfl (lv_room (Nat.le_of_ble_eq_true rfl)) dX12_swing_70 ⟨Nat.le_of_ble_eq_true rfl, Nat.le_of_ble_eq_true rfl⟩) hP hD hS hA rfl rfl rfl (by decide) rfl (fun _ => rfl) (fun u H locs hP hD hS => ?_)
          obtain ⟨o_10, rfl⟩ : ∃ zq9, zq9 = u := ⟨_, rfl⟩
          have hP : va_P G vwCl [kX12 h q1 q4 q5 q6 q7 q9 q10 q11 (upd x 0 v_2), aI y q5 154 f, aI y q11 20 o_10] H := hP
          have hD : va_D A [kX12 h q1 q4 q5 q6 q7 q9 q10 q11 (upd x 0 v_2), aI y q5 154 f, aI y q11 20 o_10] := hD
          refine lv_goto (tgt := 89) hx hb dX12_swing_73 (by decide) ?_
          exact J89_8 _ _ ((if_pos c_5).trans (if_pos c_9)).symm H locs hP hD hS ls (lv_sub hl [] rfl)
      · refine lv_aload_n hx hb dX12_swing_43 rfl (lv_at hl 0 rfl) ?_
        refine va_get (D := G) (ci := 10) (v := .ref q5) (C := RX12) (T := TX12) (N := 15) hx hb hts i_X12 hown hK hP 0 rfl rfl 5 (by decide) (hts (.fieldLink RX12 16 "RelayTunerModel" "now" "[I") (by decide +kernel)) (fun _ h9 => h9) rfl dX12_swing_44 ?_
        refine lv_bipush (v := 42) hx hb dX12_swing_47 (by decide) ?_
        refine lv_iconst (v := 4) hx hb dX12_swing_49 (by decide) ?_
        refine lv_iload_n hx hb dX12_swing_50 rfl (lv_at hl 1 rfl) ?_
        refine lv_imul hx hb dX12_swing_51 ?_
        refine lv_iadd hx hb dX12_swing_52 ?_
        refine lv_iload_n hx hb dX12_swing_53 rfl (lv_at hl 2 rfl) ?_
        refine lv_iadd hx hb dX12_swing_54 ?_
        refine al_i (D := G) (n := 154) (f := f) hx hb hK hP 1 0 rfl rfl (42 + 4 * tn a1 + tn a2) (ix4v _ _ ha1 hb1) (by omega) (by first | decide | omega) dX12_swing_55 ?_
        refine lv_goto (tgt := 89) hx hb dX12_swing_56 (by decide) ?_
        exact J89_8 _ _ (if_neg c_5).symm H locs hP hD hS ls (lv_sub hl [] rfl)
    · refine lv_iconst (v := 0) hx hb dX12_swing_36 (by decide) ?_
      rw [hQQ]
      exact W.iret hx hb hr (end_Hi o hP hD hS (by subst e_v_2; unfold s_X12_swing_r; exact (if_neg c_4).symm) (congrArg (fun (z0 : Nat → Int32) => [kX12 h q1 q4 q5 q6 q7 q9 q10 q11 z0, aI y q5 154 f, aI y q11 20 o]) (by subst e_v_2; unfold s_X12_swing_w0; exact (if_neg c_4).symm))) hS.2.2 dX12_swing_37
  refine lv_if_ne (tgt := 13) hx hb dX12_swing_6 (by decide) (fun c_1 => ?_) (fun c_1 => ?_)
  · refine lv_iload_n hx hb dX12_swing_13 rfl (lv_at hl 2 rfl) ?_
    refine lv_i2l (v := a2.toInt64) hx hb dX12_swing_14 rfl ?_
    refine lv_lconst (v := 0) hx hb dX12_swing_15 rfl ?_
    refine lv_ldc2 (v := 4) hx hb hown (hts (.constantLong RX12 153 4) (by decide +kernel)) dX12_swing_16 ?_
    refine cl_Ri (va_runS (As := [.long a2.toInt64, .long 0, .long 4]) (rest := [.ref h]) ⟨hx, hb, hml, hown, hts⟩ (c_X12_in l G y a2.toInt64 0 4) (va_cwS 3 hts gX12_swing_X12_in rfl rfl rfl (by decide +kernel) ⟨Nat.le_of_ble_eq_true rfl, Nat.le_of_ble_eq_true rfl⟩) (PR_S pnil hK hN) rfl rfl hl.1 rfl (lv_room (Nat.le_of_ble_eq_true rfl)) dX12_swing_19 ⟨Nat.le_of_ble_eq_true rfl, Nat.le_of_ble_eq_true rfl⟩) ?_
    refine lv_if_ne (tgt := 29) hx hb dX12_swing_22 (by decide) (fun c_11 => ?_) (fun c_11 => ?_)
    · refine lv_iconst (v := 0) hx hb dX12_swing_29 (by decide) ?_
      exact J30_3 _ ((if_neg c_1).trans (if_neg c_11)).symm ls (lv_sub hl [0, 1, 2] rfl)
    · refine lv_iconst (v := 2) hx hb dX12_swing_25 (by decide) ?_
      refine lv_goto (tgt := 30) hx hb dX12_swing_26 (by decide) ?_
      exact J30_3 _ ((if_neg c_1).trans (if_pos c_11)).symm ls (lv_sub hl [0, 1, 2] rfl)
  · refine lv_iconst (v := 1) hx hb dX12_swing_9 (by decide) ?_
    refine lv_goto (tgt := 30) hx hb dX12_swing_10 (by decide) ?_
    exact J30_3 _ (if_pos c_1).symm ls (lv_sub hl [0, 1, 2] rfl)

def s_X12_account_r (a1 : Int32) (f : Nat → Int32) : Int32 := (let v_2 : Int32 := (if (s_X12_in_r a1.toInt64 0 6) = 0 then 1 else 0); (let v_6 : Int32 := (if (s_X12_refused_r v_2) = 0 then (f (35 + tn a1)) else 0); v_6))
def s_X12_account_w0 (a1 : Int32) (x : Nat → Int32) : Nat → Int32 := (let v_2 : Int32 := (if (s_X12_in_r a1.toInt64 0 6) = 0 then 1 else 0); (upd x 0 v_2))
abbrev rmX12_account : Room := ({ frames := 1, cells := 0, slots := 0, locals := 25 } : Room)
set_option maxHeartbeats 4000000 in
set_option maxRecDepth 100000 in
theorem c_X12_account (l : Launch) (G : va_G) (y : Nat → ClassId) (h : Nat) (a1 : Int32) (q1 : Nat) (q4 : Nat) (q5 : Nat) (q6 : Nat) (q7 : Nat) (q9 : Nat) (q10 : Nat) (q11 : Nat) (x : Nat → Int32) (f : Nat → Int32) (sz : Nat) : Met l yX12_account wsX12_account rmX12_account (PH G y [.ref h, .int a1] [kX12 h q1 q4 q5 q6 q7 q9 q10 q11 x, aI y q5 154 f] sz) (QHi G (s_X12_account_r a1 f) (fun _ : Unit => [kX12 h q1 q4 q5 q6 q7 q9 q10 q11 (s_X12_account_w0 a1 x), aI y q5 154 f]) (va_A [kX12 h q1 q4 q5 q6 q7 q9 q10 q11 x, aI y q5 154 f] sz)) 0 0 (va_A [kX12 h q1 q4 q5 q6 q7 q9 q10 q11 x, aI y q5 154 f] sz) := by
  refine Met.ofW (cc := cX12_account) (maxL := 2) (ret := (some .int)) (by decide) rfl ?_
  intro p e s m args below meth c s₁ B hml hv
  obtain ⟨rfl, hsz, hP, ⟨hK, hN⟩, hD0⟩ := hv
  have hx := B.exec
  have hb := B.bytes
  have hr := B.returns
  have hts := atoms_spec (ws := wsX12_account) B.pre
  have hown : s.vm.findClass RX12 = some m.cls := findClass_of_methodNamed B.named
  have hlocks := B.notSynchronized
  have i_X12 : ∀ w ∈ u_ws RX12 TX12 15, w ∈ wsX12_account := by decide +kernel
  subst hsz
  have hD := hD0.self (sz := s.heap.size)
  generalize hAe : va_A [kX12 h q1 q4 q5 q6 q7 q9 q10 q11 x, aI y q5 154 f] s.heap.size = A at hD ⊢
  have hA : ∀ q : Nat, s.heap.size ≤ q → A q := fun q h => by rw [← hAe]; exact Or.inr h
  have hS : va_S A s.heap s.heap [] := va_S.rf
  have hP : va_P G vwCl [kX12 h q1 q4 q5 q6 q7 q9 q10 q11 x, aI y q5 154 f] s.heap := hP
  have hl := lv_entry ([.ref h, .int a1]) (n := 2) (Nat.le_of_ble_eq_true rfl)
  rw [lg_entry_eq]
  generalize (lg_sl ([.ref h, .int a1]) ++ List.replicate (2 - (lg_sl ([.ref h, .int a1])).length) Slot.unset).toArray = ls at hl ⊢
  have hl : lv_has ls 2 [(0, .ref h), (1, .int a1)] := hl
  obtain ⟨QQ, hQQ⟩ : ∃ zq9, zq9 = MQ below (QHi G (s_X12_account_r a1 f) (fun _ : Unit => [kX12 h q1 q4 q5 q6 q7 q9 q10 q11 (s_X12_account_w0 a1 x), aI y q5 154 f]) A) ([.ref h, .int a1] : List Value).toArray s 0 0 A := ⟨_, rfl⟩
  rw [← hQQ]
  refine lv_aload_n hx hb dX12_account_0 rfl (lv_at hl 0 rfl) ?_
  refine lv_iload_n hx hb dX12_account_1 rfl (lv_at hl 1 rfl) ?_
  refine lv_i2l (v := a1.toInt64) hx hb dX12_account_2 rfl ?_
  refine lv_lconst (v := 0) hx hb dX12_account_3 rfl ?_
  refine lv_ldc2 (v := 6) hx hb hown (hts (.constantLong RX12 155 6) (by decide +kernel)) dX12_account_4 ?_
  refine cl_Ri (va_runS (As := [.long a1.toInt64, .long 0, .long 6]) (rest := [.ref h]) ⟨hx, hb, hml, hown, hts⟩ (c_X12_in l G y a1.toInt64 0 6) (va_cwS 3 hts gX12_account_X12_in rfl rfl rfl (by decide +kernel) ⟨Nat.le_of_ble_eq_true rfl, Nat.le_of_ble_eq_true rfl⟩) (PR_S pnil hK hN) rfl rfl hl.1 rfl (lv_room (Nat.le_of_ble_eq_true rfl)) dX12_account_7 ⟨Nat.le_of_ble_eq_true rfl, Nat.le_of_ble_eq_true rfl⟩) ?_
  have J18_4 : ∀ (v_2 : Int32) (e_v_2 : v_2 = (if (s_X12_in_r a1.toInt64 0 6) = 0 then 1 else 0)) (z_3 : v_2 = 0 ∨ v_2 = 1) (ls : Array Slot) (hl : lv_has ls 2 [(0, .ref h), (1, .int a1)]), W p l e (headSpec wsX12_account rmX12_account).room s m ([.ref h, .int a1] : List Value).toArray below meth c s.heap [] 0 0 QQ (F0 m 18 ls [.int v_2, .ref h]) := by
    intro v_2 e_v_2 z_3 ls hl
    refine cl_Hi (wr := [aI y q5 154 f]) (fun _ : Unit => [kX12 h q1 q4 q5 q6 q7 q9 q10 q11 (upd x 0 v_2), aI y q5 154 f]) [0] [1] [1, 0] (va_runV (As := [.int v_2]) (rest := []) ⟨hx, hb, hml, hown, hts⟩ (c_X12_refused l G y h v_2 q1 q4 q5 q6 q7 q9 q10 q11 x s.heap.size) (cwV 1 hts gX12_account_X12_refused rfl rfl rfl (by decide +kernel) ⟨Nat.le_of_ble_eq_true rfl, Nat.le_of_ble_eq_true rfl⟩) (PH_V (hP.sub (ws' := [kX12 h q1 q4 q5 q6 q7 q9 q10 q11 x]) [0] rfl) hK hN (hD.sub (ws' := [kX12 h q1 q4 q5 q6 q7 q9 q10 q11 x]) [0] (by decide) rfl) (ci := 10) (q0 := 0) rfl rfl) rfl rfl hl.1 rfl (lv_room (Nat.le_of_ble_eq_true rfl)) dX12_account_18 ⟨Nat.le_of_ble_eq_true rfl, Nat.le_of_ble_eq_true rfl⟩) hP hD hS hA rfl rfl rfl (by decide) rfl (fun _ => rfl) (fun _ H locs hP hD hS => ?_)
    have hP : va_P G vwCl [kX12 h q1 q4 q5 q6 q7 q9 q10 q11 (upd x 0 v_2), aI y q5 154 f] H := hP
    have hD : va_D A [kX12 h q1 q4 q5 q6 q7 q9 q10 q11 (upd x 0 v_2), aI y q5 154 f] := hD
    have J37_7 : ∀ (v_6 : Int32) (e_v_6 : v_6 = (if (s_X12_refused_r v_2) = 0 then (f (35 + tn a1)) else 0)) (ls : Array Slot) (hl : lv_has ls 2 []), W p l e (headSpec wsX12_account rmX12_account).room s m ([.ref h, .int a1] : List Value).toArray below meth c H locs 0 0 QQ (F0 m 37 ls [.int v_6]) := by
      intro v_6 e_v_6 ls hl
      rw [hQQ]
      exact W.iret hx hb hr (end_Hi () hP hD hS (by subst e_v_6; subst e_v_2; unfold s_X12_account_r; exact rfl) (congrArg (fun (z0 : Nat → Int32) => [kX12 h q1 q4 q5 q6 q7 q9 q10 q11 z0, aI y q5 154 f]) (by subst e_v_6; subst e_v_2; unfold s_X12_account_w0; exact rfl))) hS.2.2 dX12_account_37
    refine lv_if_eq (tgt := 28) hx hb dX12_account_21 (by decide) (fun c_5 => ?_) (fun c_5 => ?_)
    · have hin : vp_in a1 7 := in_vp (ref01 e_v_2 c_5) (by decide) (by decide)
      obtain ⟨ha1, ha2⟩ := in_tn hin (by decide)
      refine lv_aload_n hx hb dX12_account_28 rfl (lv_at hl 0 rfl) ?_
      refine va_get (D := G) (ci := 10) (v := .ref q5) (C := RX12) (T := TX12) (N := 15) hx hb hts i_X12 hown hK hP 0 rfl rfl 5 (by decide) (hts (.fieldLink RX12 16 "RelayTunerModel" "now" "[I") (by decide +kernel)) (fun _ h9 => h9) rfl dX12_account_29 ?_
      refine lv_bipush (v := 35) hx hb dX12_account_32 (by decide) ?_
      refine lv_iload_n hx hb dX12_account_34 rfl (lv_at hl 1 rfl) ?_
      refine lv_iadd hx hb dX12_account_35 ?_
      refine al_i (D := G) (n := 154) (f := f) hx hb hK hP 1 0 rfl rfl (35 + tn a1) (nI_plus 35 hin (by decide)) (by omega) (by first | decide | omega) dX12_account_36 ?_
      exact J37_7 _ (if_pos c_5).symm ls (lv_sub hl [] rfl)
    · refine lv_iconst (v := 0) hx hb dX12_account_24 (by decide) ?_
      refine lv_goto (tgt := 37) hx hb dX12_account_25 (by decide) ?_
      exact J37_7 _ (if_neg c_5).symm ls (lv_sub hl [] rfl)
  refine lv_if_eq (tgt := 17) hx hb dX12_account_10 (by decide) (fun c_1 => ?_) (fun c_1 => ?_)
  · refine lv_iconst (v := 1) hx hb dX12_account_17 (by decide) ?_
    exact J18_4 _ (if_pos c_1).symm (Or.inr rfl) ls (lv_sub hl [0, 1] rfl)
  · refine lv_iconst (v := 0) hx hb dX12_account_13 (by decide) ?_
    refine lv_goto (tgt := 18) hx hb dX12_account_14 (by decide) ?_
    exact J18_4 _ (if_neg c_1).symm (Or.inl rfl) ls (lv_sub hl [0, 1] rfl)

def s_X12_toleranceFor_r (a1 : Int32) (f : Nat → Int32) : Int32 := (let v_2 : Int32 := (if (s_X12_in_r a1.toInt64 1 20) = 0 then 1 else 0); (if (s_X12_refused_r v_2) = 0 then (tolS (fun k => goodP (upd f 7 (nI k))) a1 100 0) else 0))
def s_X12_toleranceFor_w0 (a1 : Int32) (x : Nat → Int32) : Nat → Int32 := (let v_2 : Int32 := (if (s_X12_in_r a1.toInt64 1 20) = 0 then 1 else 0); (upd x 0 v_2))
abbrev rmX12_toleranceFor : Room := ({ frames := 4, cells := 0, slots := 0, locals := 93 } : Room)
set_option maxHeartbeats 4000000 in
set_option maxRecDepth 100000 in
theorem c_X12_toleranceFor (l : Launch) (G : va_G) (y : Nat → ClassId) (h : Nat) (a1 : Int32) (q1 : Nat) (q4 : Nat) (q5 : Nat) (q6 : Nat) (q7 : Nat) (q9 : Nat) (q10 : Nat) (q11 : Nat) (x : Nat → Int32) (f : Nat → Int32) (g : Nat → Int32) (o : Nat → Int32) (sz : Nat) (h16 : vp_in (f 16) 21) : Met l yX12_toleranceFor wsX12_toleranceFor rmX12_toleranceFor (PH G y [.ref h, .int a1] [kX12 h q1 q4 q5 q6 q7 q9 q10 q11 x, aI y q5 154 f, aI y q6 154 g, aI y q11 20 o] sz) (QHi G (s_X12_toleranceFor_r a1 f) (fun u : (Nat → Int32) × (Nat → Int32) => [kX12 h q1 q4 q5 q6 q7 q9 q10 q11 (s_X12_toleranceFor_w0 a1 x), aI y q5 154 f, aI y q6 154 u.1, aI y q11 20 u.2]) (va_A [kX12 h q1 q4 q5 q6 q7 q9 q10 q11 x, aI y q5 154 f, aI y q6 154 g, aI y q11 20 o] sz)) 0 0 (va_A [kX12 h q1 q4 q5 q6 q7 q9 q10 q11 x, aI y q5 154 f, aI y q6 154 g, aI y q11 20 o] sz) := by
  refine Met.ofW (cc := cX12_toleranceFor) (maxL := 3) (ret := (some .int)) (by decide) rfl ?_
  intro p e s m args below meth c s₁ B hml hv
  obtain ⟨rfl, hsz, hP, ⟨hK, hN⟩, hD0⟩ := hv
  have hx := B.exec
  have hb := B.bytes
  have hr := B.returns
  have hts := atoms_spec (ws := wsX12_toleranceFor) B.pre
  have hown : s.vm.findClass RX12 = some m.cls := findClass_of_methodNamed B.named
  have hlocks := B.notSynchronized
  have i_X12 : ∀ w ∈ u_ws RX12 TX12 15, w ∈ wsX12_toleranceFor := by decide +kernel
  subst hsz
  have hD := hD0.self (sz := s.heap.size)
  generalize hAe : va_A [kX12 h q1 q4 q5 q6 q7 q9 q10 q11 x, aI y q5 154 f, aI y q6 154 g, aI y q11 20 o] s.heap.size = A at hD ⊢
  have hA : ∀ q : Nat, s.heap.size ≤ q → A q := fun q h => by rw [← hAe]; exact Or.inr h
  have hS : va_S A s.heap s.heap [] := va_S.rf
  have hP : va_P G vwCl [kX12 h q1 q4 q5 q6 q7 q9 q10 q11 x, aI y q5 154 f, aI y q6 154 g, aI y q11 20 o] s.heap := hP
  have hl := lv_entry ([.ref h, .int a1]) (n := 3) (Nat.le_of_ble_eq_true rfl)
  rw [lg_entry_eq]
  generalize (lg_sl ([.ref h, .int a1]) ++ List.replicate (3 - (lg_sl ([.ref h, .int a1])).length) Slot.unset).toArray = ls at hl ⊢
  have hl : lv_has ls 3 [(0, .ref h), (1, .int a1)] := hl
  obtain ⟨QQ, hQQ⟩ : ∃ zq9, zq9 = MQ below (QHi G (s_X12_toleranceFor_r a1 f) (fun u : (Nat → Int32) × (Nat → Int32) => [kX12 h q1 q4 q5 q6 q7 q9 q10 q11 (s_X12_toleranceFor_w0 a1 x), aI y q5 154 f, aI y q6 154 u.1, aI y q11 20 u.2]) A) ([.ref h, .int a1] : List Value).toArray s 0 0 A := ⟨_, rfl⟩
  rw [← hQQ]
  refine lv_aload_n hx hb dX12_toleranceFor_0 rfl (lv_at hl 0 rfl) ?_
  refine lv_iload_n hx hb dX12_toleranceFor_1 rfl (lv_at hl 1 rfl) ?_
  refine lv_i2l (v := a1.toInt64) hx hb dX12_toleranceFor_2 rfl ?_
  refine lv_lconst (v := 1) hx hb dX12_toleranceFor_3 rfl ?_
  refine lv_ldc2 (v := 20) hx hb hown (hts (.constantLong RX12 172 20) (by decide +kernel)) dX12_toleranceFor_4 ?_
  refine cl_Ri (va_runS (As := [.long a1.toInt64, .long 1, .long 20]) (rest := [.ref h]) ⟨hx, hb, hml, hown, hts⟩ (c_X12_in l G y a1.toInt64 1 20) (va_cwS 3 hts gX12_toleranceFor_X12_in rfl rfl rfl (by decide +kernel) ⟨Nat.le_of_ble_eq_true rfl, Nat.le_of_ble_eq_true rfl⟩) (PR_S pnil hK hN) rfl rfl hl.1 rfl (lv_room (Nat.le_of_ble_eq_true rfl)) dX12_toleranceFor_7 ⟨Nat.le_of_ble_eq_true rfl, Nat.le_of_ble_eq_true rfl⟩) ?_
  have J18_4 : ∀ (v_2 : Int32) (e_v_2 : v_2 = (if (s_X12_in_r a1.toInt64 1 20) = 0 then 1 else 0)) (z_3 : v_2 = 0 ∨ v_2 = 1) (ls : Array Slot) (hl : lv_has ls 3 [(0, .ref h), (1, .int a1)]), W p l e (headSpec wsX12_toleranceFor rmX12_toleranceFor).room s m ([.ref h, .int a1] : List Value).toArray below meth c s.heap [] 0 0 QQ (F0 m 18 ls [.int v_2, .ref h]) := by
    intro v_2 e_v_2 z_3 ls hl
    refine cl_Hi (wr := [aI y q5 154 f, aI y q6 154 g, aI y q11 20 o]) (fun _ : Unit => [kX12 h q1 q4 q5 q6 q7 q9 q10 q11 (upd x 0 v_2), aI y q5 154 f, aI y q6 154 g, aI y q11 20 o]) [0] [1, 2, 3] [3, 0, 1, 2] (va_runV (As := [.int v_2]) (rest := []) ⟨hx, hb, hml, hown, hts⟩ (c_X12_refused l G y h v_2 q1 q4 q5 q6 q7 q9 q10 q11 x s.heap.size) (cwV 1 hts gX12_toleranceFor_X12_refused rfl rfl rfl (by decide +kernel) ⟨Nat.le_of_ble_eq_true rfl, Nat.le_of_ble_eq_true rfl⟩) (PH_V (hP.sub (ws' := [kX12 h q1 q4 q5 q6 q7 q9 q10 q11 x]) [0] rfl) hK hN (hD.sub (ws' := [kX12 h q1 q4 q5 q6 q7 q9 q10 q11 x]) [0] (by decide) rfl) (ci := 10) (q0 := 0) rfl rfl) rfl rfl hl.1 rfl (lv_room (Nat.le_of_ble_eq_true rfl)) dX12_toleranceFor_18 ⟨Nat.le_of_ble_eq_true rfl, Nat.le_of_ble_eq_true rfl⟩) hP hD hS hA rfl rfl rfl (by decide) rfl (fun _ => rfl) (fun _ H locs hP hD hS => ?_)
    have hP : va_P G vwCl [kX12 h q1 q4 q5 q6 q7 q9 q10 q11 (upd x 0 v_2), aI y q5 154 f, aI y q6 154 g, aI y q11 20 o] H := hP
    have hD : va_D A [kX12 h q1 q4 q5 q6 q7 q9 q10 q11 (upd x 0 v_2), aI y q5 154 f, aI y q6 154 g, aI y q11 20 o] := hD
    refine lv_if_eq (tgt := 26) hx hb dX12_toleranceFor_21 (by decide) (fun c_5 => ?_) (fun c_5 => ?_)
    · refine lv_aload_n hx hb dX12_toleranceFor_26 rfl (lv_at hl 0 rfl) ?_
      refine va_get (D := G) (ci := 10) (v := .ref q5) (C := RX12) (T := TX12) (N := 15) hx hb hts i_X12 hown hK hP 0 rfl rfl 5 (by decide) (hts (.fieldLink RX12 16 "RelayTunerModel" "now" "[I") (by decide +kernel)) (fun _ h9 => h9) rfl dX12_toleranceFor_27 ?_
      refine lv_iconst (v := 0) hx hb dX12_toleranceFor_30 (by decide) ?_
      refine lv_aload_n hx hb dX12_toleranceFor_31 rfl (lv_at hl 0 rfl) ?_
      refine va_get (D := G) (ci := 10) (v := .ref q6) (C := RX12) (T := TX12) (N := 15) hx hb hts i_X12 hown hK hP 0 rfl rfl 6 (by decide) (hts (.fieldLink RX12 19 "RelayTunerModel" "trial" "[I") (by decide +kernel)) (fun _ h9 => h9) rfl dX12_toleranceFor_32 ?_
      refine lv_iconst (v := 0) hx hb dX12_toleranceFor_35 (by decide) ?_
      refine cl_Hv (wr := [kX12 h q1 q4 q5 q6 q7 q9 q10 q11 (upd x 0 v_2), aI y q11 20 o]) (fun _ : Unit => [kX12 h q1 q4 q5 q6 q7 q9 q10 q11 (upd x 0 v_2), aI y q5 154 f, aI y q6 154 (va_cpy f g 0 0 154), aI y q11 20 o]) [1, 2] [0, 3] [0, 2, 3, 1] (va_runS (As := [.ref q5, .int 0, .ref q6, .int 0]) (rest := []) ⟨hx, hb, hml, hown, hts⟩ (c_X12_copyPage l G y q5 0 q6 0 f g 0 0 154 154 H.size rfl (by decide) (by decide) rfl (by decide) (by decide)) (va_cwS 4 hts gX12_toleranceFor_X12_copyPage rfl rfl rfl (by decide +kernel) ⟨Nat.le_of_ble_eq_true rfl, Nat.le_of_ble_eq_true rfl⟩) (PH_S (hP.sub (ws' := [aI y q5 154 f, aI y q6 154 g]) [1, 2] rfl) hK hN (hD.sub (ws' := [aI y q5 154 f, aI y q6 154 g]) [1, 2] (by decide) rfl)) rfl rfl hl.1 rfl (lv_room (Nat.le_of_ble_eq_true rfl)) dX12_toleranceFor_36 ⟨Nat.le_of_ble_eq_true rfl, Nat.le_of_ble_eq_true rfl⟩) hP hD hS hA rfl rfl rfl (by decide) rfl (fun _ => rfl) (fun _ H locs hP hD hS => ?_)
      have hP : va_P G vwCl [kX12 h q1 q4 q5 q6 q7 q9 q10 q11 (upd x 0 v_2), aI y q5 154 f, aI y q6 154 (va_cpy f g 0 0 154), aI y q11 20 o] H := hP
      have hD : va_D A [kX12 h q1 q4 q5 q6 q7 q9 q10 q11 (upd x 0 v_2), aI y q5 154 f, aI y q6 154 (va_cpy f g 0 0 154), aI y q11 20 o] := hD
      have hD := va_D.set (p := 2) (e := (aI y q6 154 f).2) hD rfl
      have hP := alike1 (i := 2) (g := f) hP rfl (fun j hj => cpy_all hj)
      have hP : va_P G vwCl [kX12 h q1 q4 q5 q6 q7 q9 q10 q11 (upd x 0 v_2), aI y q5 154 f, aI y q6 154 f, aI y q11 20 o] H := hP
      have hD : va_D A [kX12 h q1 q4 q5 q6 q7 q9 q10 q11 (upd x 0 v_2), aI y q5 154 f, aI y q6 154 f, aI y q11 20 o] := hD
      refine lv_iconst (v := 0) hx hb dX12_toleranceFor_39 (by decide) ?_
      refine lv_istore_n (lv' := [(2, .int 0), (0, .ref h), (1, .int a1)]) hx hb dX12_toleranceFor_40 rfl hl (by decide) rfl (fun ls hl => ?_)
      have LOOP41_6 : ∀ (n_7 : Nat) (k0 : Nat) (x2 : Int32) (w : Nat → Int32) (w2 : Nat → Int32) (hx2 : x2 = nI k0) (hk : k0 ≤ 100) (hw : ∀ z : Int32, upd w 7 z = upd f 7 z) (hres : (tolS (fun k => goodP (upd f 7 (nI k))) a1 (100 - k0) k0) = (tolS (fun k => goodP (upd f 7 (nI k))) a1 100 0)) (hn_9 : 100 - k0 < n_7) (H : Heap) (locs : List Loc) (hP : va_P G vwCl [kX12 h q1 q4 q5 q6 q7 q9 q10 q11 (upd x 0 v_2), aI y q5 154 f, aI y q6 154 w, aI y q11 20 w2] H) (hD : va_D A [kX12 h q1 q4 q5 q6 q7 q9 q10 q11 (upd x 0 v_2), aI y q5 154 f, aI y q6 154 w, aI y q11 20 w2]) (hS : va_S A s.heap H locs) (ls : Array Slot) (hl : lv_has ls 3 [(2, .int x2), (0, .ref h), (1, .int a1)]), W p l e (headSpec wsX12_toleranceFor rmX12_toleranceFor).room s m ([.ref h, .int a1] : List Value).toArray below meth c H locs 0 0 QQ (F0 m 41 ls []) := by
        intro n_7
        induction n_7 with
        | zero => intro k0 x2 w w2 hx2 hk hw hres hn_9 H locs hP hD hS ls hl; exact absurd hn_9 (Nat.not_lt_zero _)
        | succ n_7 ih_8 =>
          intro k0 x2 w w2 hx2 hk hw hres hn_9 H locs hP hD hS ls hl
          refine lv_iload_n hx hb dX12_toleranceFor_41 rfl (lv_at hl 0 rfl) ?_
          refine lv_bipush (v := 100) hx hb dX12_toleranceFor_42 (by decide) ?_
          refine lv_icmp_ge (tgt := 75) hx hb dX12_toleranceFor_44 (by decide) (fun c_10 => ?_) (fun c_10 => ?_)
          · have hk9 : k0 = 100 := by have := kge (N := 100) hx2 rfl (by omega) (by decide) c_10; omega
            refine lv_ldc (v := (-99999)) hx hb hown (hts (.constant RX12 74 (-99999)) (by decide +kernel)) dX12_toleranceFor_75 ?_
            refine rw_i (x' := (tolS (fun k => goodP (upd f 7 (nI k))) a1 100 0)) (by rw [← hres, hk9]; rfl) ?_
            rw [hQQ]
            exact W.iret hx hb hr (end_Hi ⟨w, w2⟩ hP hD hS (by subst e_v_2; unfold s_X12_toleranceFor_r; exact (if_pos c_5).symm) (congrArg (fun (z0 : Nat → Int32) => [kX12 h q1 q4 q5 q6 q7 q9 q10 q11 z0, aI y q5 154 f, aI y q6 154 w, aI y q11 20 w2]) (by subst e_v_2; unfold s_X12_toleranceFor_w0; exact rfl))) hS.2.2 dX12_toleranceFor_77
          · have hk9 : k0 < 100 := klt hx2 rfl (by omega) (by decide) c_10
            refine lv_aload_n hx hb dX12_toleranceFor_47 rfl (lv_at hl 1 rfl) ?_
            refine va_get (D := G) (ci := 10) (v := .ref q6) (C := RX12) (T := TX12) (N := 15) hx hb hts i_X12 hown hK hP 0 rfl rfl 6 (by decide) (hts (.fieldLink RX12 19 "RelayTunerModel" "trial" "[I") (by decide +kernel)) (fun _ h9 => h9) rfl dX12_toleranceFor_48 ?_
            refine lv_bipush (v := 7) hx hb dX12_toleranceFor_51 (by decide) ?_
            refine lv_iload_n hx hb dX12_toleranceFor_53 rfl (lv_at hl 0 rfl) ?_
            refine as_i (D := G) (n := 154) (f := w) hx hb hK hP hD hS 2 0 rfl rfl 7 rfl (by decide) (by first | decide | omega) dX12_toleranceFor_54 (fun H locs hP hD hS => ?_)
            have hP : va_P G vwCl [kX12 h q1 q4 q5 q6 q7 q9 q10 q11 (upd x 0 v_2), aI y q5 154 f, aI y q6 154 (upd w 7 x2), aI y q11 20 w2] H := hP
            have hD : va_D A [kX12 h q1 q4 q5 q6 q7 q9 q10 q11 (upd x 0 v_2), aI y q5 154 f, aI y q6 154 (upd w 7 x2), aI y q11 20 w2] := hD
            have hu : vp_in ((upd w 7 x2) 16) 21 := by rw [hw]; exact h16
            refine lv_aload_n hx hb dX12_toleranceFor_55 rfl (lv_at hl 1 rfl) ?_
            refine lv_aload_n hx hb dX12_toleranceFor_56 rfl (lv_at hl 1 rfl) ?_
            refine va_get (D := G) (ci := 10) (v := .ref q6) (C := RX12) (T := TX12) (N := 15) hx hb hts i_X12 hown hK hP 0 rfl rfl 6 (by decide) (hts (.fieldLink RX12 19 "RelayTunerModel" "trial" "[I") (by decide +kernel)) (fun _ h9 => h9) rfl dX12_toleranceFor_57 ?_
            refine cl_Hi (wr := [aI y q5 154 f]) (fun u : (Nat → Int32) => [kX12 h q1 q4 q5 q6 q7 q9 q10 q11 (upd x 0 v_2), aI y q5 154 f, aI y q6 154 (upd w 7 x2), aI y q11 20 u]) [0, 2, 3] [1] [1, 0, 2, 3] (va_runV (As := [.ref q6]) (rest := []) ⟨hx, hb, hml, hown, hts⟩ (c_X12_goodOf l G y h q6 q1 q4 q5 q6 q7 q9 q10 q11 (upd x 0 v_2) (upd w 7 x2) w2 H.size hu) (cwV 1 hts gX12_toleranceFor_X12_goodOf rfl rfl rfl (by decide +kernel) ⟨Nat.le_of_ble_eq_true rfl, Nat.le_of_ble_eq_true rfl⟩) (PH_V (hP.sub (ws' := [kX12 h q1 q4 q5 q6 q7 q9 q10 q11 (upd x 0 v_2), aI y q6 154 (upd w 7 x2), aI y q11 20 w2]) [0, 2, 3] rfl) hK hN (hD.sub (ws' := [kX12 h q1 q4 q5 q6 q7 q9 q10 q11 (upd x 0 v_2), aI y q6 154 (upd w 7 x2), aI y q11 20 w2]) [0, 2, 3] (by decide) rfl) (ci := 10) (q0 := 0) rfl rfl) rfl rfl hl.1 rfl (lv_room (Nat.le_of_ble_eq_true rfl)) dX12_toleranceFor_60 ⟨Nat.le_of_ble_eq_true rfl, Nat.le_of_ble_eq_true rfl⟩) hP hD hS hA rfl rfl rfl (by decide) rfl (fun _ => rfl) (fun u H locs hP hD hS => ?_)
            obtain ⟨o_11, rfl⟩ : ∃ zq9, zq9 = u := ⟨_, rfl⟩
            have hP : va_P G vwCl [kX12 h q1 q4 q5 q6 q7 q9 q10 q11 (upd x 0 v_2), aI y q5 154 f, aI y q6 154 (upd w 7 x2), aI y q11 20 o_11] H := hP
            have hD : va_D A [kX12 h q1 q4 q5 q6 q7 q9 q10 q11 (upd x 0 v_2), aI y q5 154 f, aI y q6 154 (upd w 7 x2), aI y q11 20 o_11] := hD
            refine lv_iload_n hx hb dX12_toleranceFor_63 rfl (lv_at hl 2 rfl) ?_
            refine lv_icmp_lt (tgt := 69) hx hb dX12_toleranceFor_64 (by decide) (fun c_12 => ?_) (fun c_12 => ?_)
            · refine lv_iinc (v := (x2 + 1)) (lv' := [(2, .int (x2 + 1)), (0, .ref h), (1, .int a1)]) hx hb dX12_toleranceFor_69 hl (k := 0) rfl (by first | rfl | decide) (by decide) rfl (fun ls hl => ?_)
              refine lv_goto (tgt := 41) hx hb dX12_toleranceFor_72 (by decide) ?_
              exact ih_8 (k0 + 1) (x2 + 1) (upd w 7 x2) o_11 (by rw [hx2]; exact nI_1 k0) (by omega) (fun z => (upd_twice _ _ _ _).trans (hw z)) ((tol_next hk9 (by have h9 := c_12; rw [hw, hx2] at h9; exact h9)).trans hres) (by omega) H locs hP hD hS ls (lv_sub hl [0, 1, 2] rfl)
            · refine lv_iload_n hx hb dX12_toleranceFor_67 rfl (lv_at hl 0 rfl) ?_
              refine rw_i (x' := (tolS (fun k => goodP (upd f 7 (nI k))) a1 100 0)) (by rw [← hres, hx2]; exact (tol_hit hk9 (by have h9 := c_12; rw [hw, hx2] at h9; exact h9)).symm) ?_
              rw [hQQ]
              exact W.iret hx hb hr (end_Hi ⟨(upd w 7 x2), o_11⟩ hP hD hS (by subst e_v_2; unfold s_X12_toleranceFor_r; exact (if_pos c_5).symm) (congrArg (fun (z0 : Nat → Int32) => [kX12 h q1 q4 q5 q6 q7 q9 q10 q11 z0, aI y q5 154 f, aI y q6 154 (upd w 7 x2), aI y q11 20 o_11]) (by subst e_v_2; unfold s_X12_toleranceFor_w0; exact rfl))) hS.2.2 dX12_toleranceFor_68
      exact LOOP41_6 (100 - 0 + 1) 0 0 f o rfl (by omega) (fun _ => rfl) rfl (Nat.lt_succ_self _) H locs hP hD hS ls (lv_sub hl [0, 1, 2] rfl)
    · refine lv_iconst (v := 0) hx hb dX12_toleranceFor_24 (by decide) ?_
      rw [hQQ]
      exact W.iret hx hb hr (end_Hi ⟨g, o⟩ hP hD hS (by subst e_v_2; unfold s_X12_toleranceFor_r; exact (if_neg c_5).symm) (congrArg (fun (z0 : Nat → Int32) => [kX12 h q1 q4 q5 q6 q7 q9 q10 q11 z0, aI y q5 154 f, aI y q6 154 g, aI y q11 20 o]) (by subst e_v_2; unfold s_X12_toleranceFor_w0; exact rfl))) hS.2.2 dX12_toleranceFor_25
  refine lv_if_eq (tgt := 17) hx hb dX12_toleranceFor_10 (by decide) (fun c_1 => ?_) (fun c_1 => ?_)
  · refine lv_iconst (v := 1) hx hb dX12_toleranceFor_17 (by decide) ?_
    exact J18_4 _ (if_pos c_1).symm (Or.inr rfl) ls (lv_sub hl [0, 1] rfl)
  · refine lv_iconst (v := 0) hx hb dX12_toleranceFor_13 (by decide) ?_
    refine lv_goto (tgt := 18) hx hb dX12_toleranceFor_14 (by decide) ?_
    exact J18_4 _ (if_neg c_1).symm (Or.inl rfl) ls (lv_sub hl [0, 1] rfl)

theorem look_step {x w w1 g : Nat → Int32} {k : Nat} {v : Int32} (hw : w = (upd (upd (upd x 12 (outS (fun k => itF s_X12_tickOn_w0 k g) k)) 13 (greS (fun k => itF s_X12_tickOn_w0 k g) k)) 14 (apaS (fun k => itF s_X12_tickOn_w0 k g) k))) (hw1 : w1 = itF s_X12_tickOn_w0 k g) (e : v = (if (s_X12_tickOn_w0 w1 12) ≤ (w 13) then (w 13) else (s_X12_tickOn_w0 w1 12))) : upd (upd (upd w 12 ((w 12) + (s_X12_tickOn_w0 w1 18))) 13 v) 14 ((w 14) + (s_X12_size_r ((s_X12_tickOn_w0 w1 5) - (s_X12_tickOn_w0 w1 12)))) = (upd (upd (upd x 12 (outS (fun k => itF s_X12_tickOn_w0 k g) (k + 1))) 13 (greS (fun k => itF s_X12_tickOn_w0 k g) (k + 1))) 14 (apaS (fun k => itF s_X12_tickOn_w0 k g) (k + 1))) := by
  subst hw
  subst hw1
  rw [e, upd3, size_eq]
  rfl

abbrev rmX12_look : Room := ({ frames := 4, cells := 0, slots := 0, locals := 87 } : Room)
set_option maxHeartbeats 4000000 in
set_option maxRecDepth 100000 in
theorem c_X12_look (l : Launch) (G : va_G) (y : Nat → ClassId) (h : Nat) (a1 : Int32) (q1 : Nat) (q4 : Nat) (q5 : Nat) (q6 : Nat) (q7 : Nat) (q9 : Nat) (q10 : Nat) (q11 : Nat) (x : Nat → Int32) (g : Nat → Int32) (M : Nat) (sz : Nat) (hg : TK g) (hm : a1 = nI M) (hM : M < 1000000) : Met l yX12_look wsX12_look rmX12_look (PH G y [.ref h, .int a1] [kX12 h q1 q4 q5 q6 q7 q9 q10 q11 x, aI y q6 154 g] sz) (QHv G (fun _ : Unit => [kX12 h q1 q4 q5 q6 q7 q9 q10 q11 (upd (upd (upd x 12 (outS (fun k => itF s_X12_tickOn_w0 k g) M)) 13 (greS (fun k => itF s_X12_tickOn_w0 k g) M)) 14 (apaS (fun k => itF s_X12_tickOn_w0 k g) M)), aI y q6 154 (itF s_X12_tickOn_w0 M g)]) (va_A [kX12 h q1 q4 q5 q6 q7 q9 q10 q11 x, aI y q6 154 g] sz)) 0 0 (va_A [kX12 h q1 q4 q5 q6 q7 q9 q10 q11 x, aI y q6 154 g] sz) := by
  refine Met.ofW (cc := cX12_look) (maxL := 3) (ret := none) (by decide) rfl ?_
  intro p e s m args below meth c s₁ B hml hv
  obtain ⟨rfl, hsz, hP, ⟨hK, hN⟩, hD0⟩ := hv
  have hx := B.exec
  have hb := B.bytes
  have hr := B.returns
  have hts := atoms_spec (ws := wsX12_look) B.pre
  have hown : s.vm.findClass RX12 = some m.cls := findClass_of_methodNamed B.named
  have hlocks := B.notSynchronized
  have i_X12 : ∀ w ∈ u_ws RX12 TX12 15, w ∈ wsX12_look := by decide +kernel
  subst hsz
  have hD := hD0.self (sz := s.heap.size)
  generalize hAe : va_A [kX12 h q1 q4 q5 q6 q7 q9 q10 q11 x, aI y q6 154 g] s.heap.size = A at hD ⊢
  have hA : ∀ q : Nat, s.heap.size ≤ q → A q := fun q h => by rw [← hAe]; exact Or.inr h
  have hS : va_S A s.heap s.heap [] := va_S.rf
  have hP : va_P G vwCl [kX12 h q1 q4 q5 q6 q7 q9 q10 q11 x, aI y q6 154 g] s.heap := hP
  have hl := lv_entry ([.ref h, .int a1]) (n := 3) (Nat.le_of_ble_eq_true rfl)
  rw [lg_entry_eq]
  generalize (lg_sl ([.ref h, .int a1]) ++ List.replicate (3 - (lg_sl ([.ref h, .int a1])).length) Slot.unset).toArray = ls at hl ⊢
  have hl : lv_has ls 3 [(0, .ref h), (1, .int a1)] := hl
  obtain ⟨QQ, hQQ⟩ : ∃ zq9, zq9 = MQ below (QHv G (fun _ : Unit => [kX12 h q1 q4 q5 q6 q7 q9 q10 q11 (upd (upd (upd x 12 (outS (fun k => itF s_X12_tickOn_w0 k g) M)) 13 (greS (fun k => itF s_X12_tickOn_w0 k g) M)) 14 (apaS (fun k => itF s_X12_tickOn_w0 k g) M)), aI y q6 154 (itF s_X12_tickOn_w0 M g)]) A) ([.ref h, .int a1] : List Value).toArray s 0 0 A := ⟨_, rfl⟩
  rw [← hQQ]
  refine lv_aload_n hx hb dX12_look_0 rfl (lv_at hl 0 rfl) ?_
  refine lv_iconst (v := 0) hx hb dX12_look_1 (by decide) ?_
  refine va_put (D := G) (ci := 10) (v := .int 0) (ty := .int) (C := RX12) (T := TX12) (N := 15) hx hb hts i_X12 tyX12 tyX12_ok nmX12 hown hK hP hD hS 0 rfl rfl 12 (by decide) (hts (.fieldLink RX12 208 "RelayTunerModel" "outputs" "I") (by decide +kernel)) (fun _ h9 => h9) rfl (by decide +kernel) rfl rfl (Nat.le_of_ble_eq_true rfl) dX12_look_2 (fun H locs hP hD hS => ?_)
  have hP : va_P G vwCl [kX12 h q1 q4 q5 q6 q7 q9 q10 q11 (upd x 12 0), aI y q6 154 g] H := hP
  have hD : va_D A [kX12 h q1 q4 q5 q6 q7 q9 q10 q11 (upd x 12 0), aI y q6 154 g] := hD
  refine lv_aload_n hx hb dX12_look_5 rfl (lv_at hl 0 rfl) ?_
  refine lv_ldc (v := (-99999)) hx hb hown (hts (.constant RX12 74 (-99999)) (by decide +kernel)) dX12_look_6 ?_
  refine va_put (D := G) (ci := 10) (v := .int (-99999)) (ty := .int) (C := RX12) (T := TX12) (N := 15) hx hb hts i_X12 tyX12 tyX12_ok nmX12 hown hK hP hD hS 0 rfl rfl 13 (by decide) (hts (.fieldLink RX12 211 "RelayTunerModel" "greatest" "I") (by decide +kernel)) (fun _ h9 => h9) rfl (by decide +kernel) rfl rfl (Nat.le_of_ble_eq_true rfl) dX12_look_8 (fun H locs hP hD hS => ?_)
  have hP : va_P G vwCl [kX12 h q1 q4 q5 q6 q7 q9 q10 q11 (upd (upd x 12 0) 13 (-99999)), aI y q6 154 g] H := hP
  have hD : va_D A [kX12 h q1 q4 q5 q6 q7 q9 q10 q11 (upd (upd x 12 0) 13 (-99999)), aI y q6 154 g] := hD
  refine lv_aload_n hx hb dX12_look_11 rfl (lv_at hl 0 rfl) ?_
  refine lv_iconst (v := 0) hx hb dX12_look_12 (by decide) ?_
  refine va_put (D := G) (ci := 10) (v := .int 0) (ty := .int) (C := RX12) (T := TX12) (N := 15) hx hb hts i_X12 tyX12 tyX12_ok nmX12 hown hK hP hD hS 0 rfl rfl 14 (by decide) (hts (.fieldLink RX12 214 "RelayTunerModel" "apart" "I") (by decide +kernel)) (fun _ h9 => h9) rfl (by decide +kernel) rfl rfl (Nat.le_of_ble_eq_true rfl) dX12_look_13 (fun H locs hP hD hS => ?_)
  have hP : va_P G vwCl [kX12 h q1 q4 q5 q6 q7 q9 q10 q11 (upd (upd (upd x 12 0) 13 (-99999)) 14 0), aI y q6 154 g] H := hP
  have hD : va_D A [kX12 h q1 q4 q5 q6 q7 q9 q10 q11 (upd (upd (upd x 12 0) 13 (-99999)) 14 0), aI y q6 154 g] := hD
  refine lv_iconst (v := 0) hx hb dX12_look_16 (by decide) ?_
  refine lv_istore_n (lv' := [(2, .int 0), (0, .ref h), (1, .int a1)]) hx hb dX12_look_17 rfl hl (by decide) rfl (fun ls hl => ?_)
  have LOOP18_1 : ∀ (n_2 : Nat) (k0 : Nat) (x2 : Int32) (w : Nat → Int32) (w1 : Nat → Int32) (hx2 : x2 = nI k0) (hk : k0 ≤ M) (hw : w = (upd (upd (upd x 12 (outS (fun k => itF s_X12_tickOn_w0 k g) k0)) 13 (greS (fun k => itF s_X12_tickOn_w0 k g) k0)) 14 (apaS (fun k => itF s_X12_tickOn_w0 k g) k0))) (hw1 : w1 = itF s_X12_tickOn_w0 k0 g) (hn_4 : M - k0 < n_2) (H : Heap) (locs : List Loc) (hP : va_P G vwCl [kX12 h q1 q4 q5 q6 q7 q9 q10 q11 w, aI y q6 154 w1] H) (hD : va_D A [kX12 h q1 q4 q5 q6 q7 q9 q10 q11 w, aI y q6 154 w1]) (hS : va_S A s.heap H locs) (ls : Array Slot) (hl : lv_has ls 3 [(2, .int x2), (0, .ref h), (1, .int a1)]), W p l e (headSpec wsX12_look rmX12_look).room s m ([.ref h, .int a1] : List Value).toArray below meth c H locs 0 0 QQ (F0 m 18 ls []) := by
    intro n_2
    induction n_2 with
    | zero => intro k0 x2 w w1 hx2 hk hw hw1 hn_4 H locs hP hD hS ls hl; exact absurd hn_4 (Nat.not_lt_zero _)
    | succ n_2 ih_3 =>
      intro k0 x2 w w1 hx2 hk hw hw1 hn_4 H locs hP hD hS ls hl
      refine lv_iload_n hx hb dX12_look_18 rfl (lv_at hl 0 rfl) ?_
      refine lv_iload_n hx hb dX12_look_19 rfl (lv_at hl 2 rfl) ?_
      refine lv_icmp_ge (tgt := 110) hx hb dX12_look_20 (by decide) (fun c_5 => ?_) (fun c_5 => ?_)
      · have hk9 : k0 = M := by have := kge hx2 hm (by omega) (by omega) c_5; omega
        rw [hk9] at hw hw1
        subst hw
        subst hw1
        rw [hQQ]
        exact W.vret hx hb hr (end_Hv () hP hD hS rfl) hS.2.2 dX12_look_110
      · have hk9 : k0 < M := klt hx2 hm (by omega) (by omega) c_5
        obtain ⟨ht1, ht2, ht3, ht4⟩ : TK w1 := by rw [hw1]; exact it_TK hg k0
        refine lv_aload_n hx hb dX12_look_23 rfl (lv_at hl 1 rfl) ?_
        refine va_get (D := G) (ci := 10) (v := .ref q6) (C := RX12) (T := TX12) (N := 15) hx hb hts i_X12 hown hK hP 0 rfl rfl 6 (by decide) (hts (.fieldLink RX12 19 "RelayTunerModel" "trial" "[I") (by decide +kernel)) (fun _ h9 => h9) rfl dX12_look_24 ?_
        refine cl_Hv (wr := [kX12 h q1 q4 q5 q6 q7 q9 q10 q11 w]) (fun _ : Unit => [kX12 h q1 q4 q5 q6 q7 q9 q10 q11 w, aI y q6 154 (s_X12_tickOn_w0 w1)]) [1] [0] [0, 1] (va_runS (As := [.ref q6]) (rest := []) ⟨hx, hb, hml, hown, hts⟩ (c_X12_tickOn l G y q6 w1 H.size ht1 ht2 ht3 ht4) (va_cwS 1 hts gX12_look_X12_tickOn rfl rfl rfl (by decide +kernel) ⟨Nat.le_of_ble_eq_true rfl, Nat.le_of_ble_eq_true rfl⟩) (PH_S (hP.sub (ws' := [aI y q6 154 w1]) [1] rfl) hK hN (hD.sub (ws' := [aI y q6 154 w1]) [1] (by decide) rfl)) rfl rfl hl.1 rfl (lv_room (Nat.le_of_ble_eq_true rfl)) dX12_look_27 ⟨Nat.le_of_ble_eq_true rfl, Nat.le_of_ble_eq_true rfl⟩) hP hD hS hA rfl rfl rfl (by decide) rfl (fun _ => rfl) (fun _ H locs hP hD hS => ?_)
        have hP : va_P G vwCl [kX12 h q1 q4 q5 q6 q7 q9 q10 q11 w, aI y q6 154 (s_X12_tickOn_w0 w1)] H := hP
        have hD : va_D A [kX12 h q1 q4 q5 q6 q7 q9 q10 q11 w, aI y q6 154 (s_X12_tickOn_w0 w1)] := hD
        refine lv_aload_n hx hb dX12_look_30 rfl (lv_at hl 1 rfl) ?_
        refine lv_dup hx hb dX12_look_31 rfl ?_
        refine va_get (D := G) (ci := 10) (v := .int (w 12)) (C := RX12) (T := TX12) (N := 15) hx hb hts i_X12 hown hK hP 0 rfl rfl 12 (by decide) (hts (.fieldLink RX12 208 "RelayTunerModel" "outputs" "I") (by decide +kernel)) (fun _ h9 => h9) rfl dX12_look_32 ?_
        refine lv_aload_n hx hb dX12_look_35 rfl (lv_at hl 1 rfl) ?_
        refine va_get (D := G) (ci := 10) (v := .ref q6) (C := RX12) (T := TX12) (N := 15) hx hb hts i_X12 hown hK hP 0 rfl rfl 6 (by decide) (hts (.fieldLink RX12 19 "RelayTunerModel" "trial" "[I") (by decide +kernel)) (fun _ h9 => h9) rfl dX12_look_36 ?_
        refine lv_bipush (v := 18) hx hb dX12_look_39 (by decide) ?_
        refine al_i (D := G) (n := 154) (f := (s_X12_tickOn_w0 w1)) hx hb hK hP 1 0 rfl rfl 18 rfl (by decide) (by first | decide | omega) dX12_look_41 ?_
        refine lv_iadd hx hb dX12_look_42 ?_
        refine va_put (D := G) (ci := 10) (v := .int ((w 12) + ((s_X12_tickOn_w0 w1) 18))) (ty := .int) (C := RX12) (T := TX12) (N := 15) hx hb hts i_X12 tyX12 tyX12_ok nmX12 hown hK hP hD hS 0 rfl rfl 12 (by decide) (hts (.fieldLink RX12 208 "RelayTunerModel" "outputs" "I") (by decide +kernel)) (fun _ h9 => h9) rfl (by decide +kernel) rfl rfl (Nat.le_of_ble_eq_true rfl) dX12_look_43 (fun H locs hP hD hS => ?_)
        have hP : va_P G vwCl [kX12 h q1 q4 q5 q6 q7 q9 q10 q11 (upd w 12 ((w 12) + ((s_X12_tickOn_w0 w1) 18))), aI y q6 154 (s_X12_tickOn_w0 w1)] H := hP
        have hD : va_D A [kX12 h q1 q4 q5 q6 q7 q9 q10 q11 (upd w 12 ((w 12) + ((s_X12_tickOn_w0 w1) 18))), aI y q6 154 (s_X12_tickOn_w0 w1)] := hD
        refine lv_aload_n hx hb dX12_look_46 rfl (lv_at hl 1 rfl) ?_
        refine lv_aload_n hx hb dX12_look_47 rfl (lv_at hl 1 rfl) ?_
        refine va_get (D := G) (ci := 10) (v := .ref q6) (C := RX12) (T := TX12) (N := 15) hx hb hts i_X12 hown hK hP 0 rfl rfl 6 (by decide) (hts (.fieldLink RX12 19 "RelayTunerModel" "trial" "[I") (by decide +kernel)) (fun _ h9 => h9) rfl dX12_look_48 ?_
        refine lv_bipush (v := 12) hx hb dX12_look_51 (by decide) ?_
        refine al_i (D := G) (n := 154) (f := (s_X12_tickOn_w0 w1)) hx hb hK hP 1 0 rfl rfl 12 rfl (by decide) (by first | decide | omega) dX12_look_53 ?_
        refine lv_aload_n hx hb dX12_look_54 rfl (lv_at hl 1 rfl) ?_
        refine va_get (D := G) (ci := 10) (v := .int (w 13)) (C := RX12) (T := TX12) (N := 15) hx hb hts i_X12 hown hK hP 0 rfl rfl 13 (by decide) (hts (.fieldLink RX12 211 "RelayTunerModel" "greatest" "I") (by decide +kernel)) (fun _ h9 => h9) rfl dX12_look_55 ?_
        have J75_8 : ∀ (v_7 : Int32) (e_v_7 : v_7 = (if ((s_X12_tickOn_w0 w1) 12) ≤ (w 13) then (w 13) else ((s_X12_tickOn_w0 w1) 12))) (ls : Array Slot) (hl : lv_has ls 3 [(2, .int x2), (0, .ref h), (1, .int a1)]), W p l e (headSpec wsX12_look rmX12_look).room s m ([.ref h, .int a1] : List Value).toArray below meth c H locs 0 0 QQ (F0 m 75 ls [.int v_7, .ref h]) := by
          intro v_7 e_v_7 ls hl
          refine va_put (D := G) (ci := 10) (v := .int v_7) (ty := .int) (C := RX12) (T := TX12) (N := 15) hx hb hts i_X12 tyX12 tyX12_ok nmX12 hown hK hP hD hS 0 rfl rfl 13 (by decide) (hts (.fieldLink RX12 211 "RelayTunerModel" "greatest" "I") (by decide +kernel)) (fun _ h9 => h9) rfl (by decide +kernel) rfl rfl (Nat.le_of_ble_eq_true rfl) dX12_look_75 (fun H locs hP hD hS => ?_)
          have hP : va_P G vwCl [kX12 h q1 q4 q5 q6 q7 q9 q10 q11 (upd (upd w 12 ((w 12) + ((s_X12_tickOn_w0 w1) 18))) 13 v_7), aI y q6 154 (s_X12_tickOn_w0 w1)] H := hP
          have hD : va_D A [kX12 h q1 q4 q5 q6 q7 q9 q10 q11 (upd (upd w 12 ((w 12) + ((s_X12_tickOn_w0 w1) 18))) 13 v_7), aI y q6 154 (s_X12_tickOn_w0 w1)] := hD
          refine lv_aload_n hx hb dX12_look_78 rfl (lv_at hl 1 rfl) ?_
          refine lv_dup hx hb dX12_look_79 rfl ?_
          refine va_get (D := G) (ci := 10) (v := .int (w 14)) (C := RX12) (T := TX12) (N := 15) hx hb hts i_X12 hown hK hP 0 rfl rfl 14 (by decide) (hts (.fieldLink RX12 214 "RelayTunerModel" "apart" "I") (by decide +kernel)) (fun _ h9 => h9) rfl dX12_look_80 ?_
          refine lv_aload_n hx hb dX12_look_83 rfl (lv_at hl 1 rfl) ?_
          refine va_get (D := G) (ci := 10) (v := .ref q6) (C := RX12) (T := TX12) (N := 15) hx hb hts i_X12 hown hK hP 0 rfl rfl 6 (by decide) (hts (.fieldLink RX12 19 "RelayTunerModel" "trial" "[I") (by decide +kernel)) (fun _ h9 => h9) rfl dX12_look_84 ?_
          refine lv_iconst (v := 5) hx hb dX12_look_87 (by decide) ?_
          refine al_i (D := G) (n := 154) (f := (s_X12_tickOn_w0 w1)) hx hb hK hP 1 0 rfl rfl 5 rfl (by decide) (by first | decide | omega) dX12_look_88 ?_
          refine lv_aload_n hx hb dX12_look_89 rfl (lv_at hl 1 rfl) ?_
          refine va_get (D := G) (ci := 10) (v := .ref q6) (C := RX12) (T := TX12) (N := 15) hx hb hts i_X12 hown hK hP 0 rfl rfl 6 (by decide) (hts (.fieldLink RX12 19 "RelayTunerModel" "trial" "[I") (by decide +kernel)) (fun _ h9 => h9) rfl dX12_look_90 ?_
          refine lv_bipush (v := 12) hx hb dX12_look_93 (by decide) ?_
          refine al_i (D := G) (n := 154) (f := (s_X12_tickOn_w0 w1)) hx hb hK hP 1 0 rfl rfl 12 rfl (by decide) (by first | decide | omega) dX12_look_95 ?_
          refine lv_isub hx hb dX12_look_96 ?_
          refine cl_Ri (va_runS (As := [.int (((s_X12_tickOn_w0 w1) 5) - ((s_X12_tickOn_w0 w1) 12))]) (rest := [.int (w 14), .ref h]) ⟨hx, hb, hml, hown, hts⟩ (c_X12_size l G y (((s_X12_tickOn_w0 w1) 5) - ((s_X12_tickOn_w0 w1) 12))) (va_cwS 1 hts gX12_look_X12_size rfl rfl rfl (by decide +kernel) ⟨Nat.le_of_ble_eq_true rfl, Nat.le_of_ble_eq_true rfl⟩) (PR_S pnil hK hN) rfl rfl hl.1 rfl (lv_room (Nat.le_of_ble_eq_true rfl)) dX12_look_97 ⟨Nat.le_of_ble_eq_true rfl, Nat.le_of_ble_eq_true rfl⟩) ?_
          refine lv_iadd hx hb dX12_look_100 ?_
          refine va_put (D := G) (ci := 10) (v := .int ((w 14) + (s_X12_size_r (((s_X12_tickOn_w0 w1) 5) - ((s_X12_tickOn_w0 w1) 12))))) (ty := .int) (C := RX12) (T := TX12) (N := 15) hx hb hts i_X12 tyX12 tyX12_ok nmX12 hown hK hP hD hS 0 rfl rfl 14 (by decide) (hts (.fieldLink RX12 214 "RelayTunerModel" "apart" "I") (by decide +kernel)) (fun _ h9 => h9) rfl (by decide +kernel) rfl rfl (Nat.le_of_ble_eq_true rfl) dX12_look_101 (fun H locs hP hD hS => ?_)
          have hP : va_P G vwCl [kX12 h q1 q4 q5 q6 q7 q9 q10 q11 (upd (upd (upd w 12 ((w 12) + ((s_X12_tickOn_w0 w1) 18))) 13 v_7) 14 ((w 14) + (s_X12_size_r (((s_X12_tickOn_w0 w1) 5) - ((s_X12_tickOn_w0 w1) 12))))), aI y q6 154 (s_X12_tickOn_w0 w1)] H := hP
          have hD : va_D A [kX12 h q1 q4 q5 q6 q7 q9 q10 q11 (upd (upd (upd w 12 ((w 12) + ((s_X12_tickOn_w0 w1) 18))) 13 v_7) 14 ((w 14) + (s_X12_size_r (((s_X12_tickOn_w0 w1) 5) - ((s_X12_tickOn_w0 w1) 12))))), aI y q6 154 (s_X12_tickOn_w0 w1)] := hD
          refine lv_iinc (v := (x2 + 1)) (lv' := [(2, .int (x2 + 1)), (0, .ref h), (1, .int a1)]) hx hb dX12_look_104 hl (k := 0) rfl (by first | rfl | decide) (by decide) rfl (fun ls hl => ?_)
          refine lv_goto (tgt := 18) hx hb dX12_look_107 (by decide) ?_
          exact ih_3 (k0 + 1) (x2 + 1) (upd (upd (upd w 12 ((w 12) + ((s_X12_tickOn_w0 w1) 18))) 13 v_7) 14 ((w 14) + (s_X12_size_r (((s_X12_tickOn_w0 w1) 5) - ((s_X12_tickOn_w0 w1) 12))))) (s_X12_tickOn_w0 w1) (by rw [hx2]; exact nI_1 k0) (by omega) (look_step hw hw1 e_v_7) (by rw [hw1]; rfl) (by omega) H locs hP hD hS ls (lv_sub hl [0, 1, 2] rfl)
        refine lv_icmp_le (tgt := 71) hx hb dX12_look_58 (by decide) (fun c_6 => ?_) (fun c_6 => ?_)
        · refine lv_aload_n hx hb dX12_look_71 rfl (lv_at hl 1 rfl) ?_
          refine va_get (D := G) (ci := 10) (v := .int (w 13)) (C := RX12) (T := TX12) (N := 15) hx hb hts i_X12 hown hK hP 0 rfl rfl 13 (by decide) (hts (.fieldLink RX12 211 "RelayTunerModel" "greatest" "I") (by decide +kernel)) (fun _ h9 => h9) rfl dX12_look_72 ?_
          exact J75_8 _ (if_pos c_6).symm ls (lv_sub hl [0, 1, 2] rfl)
        · refine lv_aload_n hx hb dX12_look_61 rfl (lv_at hl 1 rfl) ?_
          refine va_get (D := G) (ci := 10) (v := .ref q6) (C := RX12) (T := TX12) (N := 15) hx hb hts i_X12 hown hK hP 0 rfl rfl 6 (by decide) (hts (.fieldLink RX12 19 "RelayTunerModel" "trial" "[I") (by decide +kernel)) (fun _ h9 => h9) rfl dX12_look_62 ?_
          refine lv_bipush (v := 12) hx hb dX12_look_65 (by decide) ?_
          refine al_i (D := G) (n := 154) (f := (s_X12_tickOn_w0 w1)) hx hb hK hP 1 0 rfl rfl 12 rfl (by decide) (by first | decide | omega) dX12_look_67 ?_
          refine lv_goto (tgt := 75) hx hb dX12_look_68 (by decide) ?_
          exact J75_8 _ (if_neg c_6).symm ls (lv_sub hl [0, 1, 2] rfl)
  exact LOOP18_1 (M - 0 + 1) 0 0 (upd (upd (upd x 12 0) 13 (-99999)) 14 0) g rfl (by omega) rfl rfl (Nat.lt_succ_self _) H locs hP hD hS ls (lv_sub hl [0, 1, 2] rfl)

abbrev rmX12_told : Room := ({ frames := 0, cells := 0, slots := 0, locals := 0 } : Room)
set_option maxHeartbeats 4000000 in
set_option maxRecDepth 100000 in
theorem c_X12_told (l : Launch) (G : va_G) (y : Nat → ClassId) (h : Nat) (a1 : Int32) (q1 : Nat) (q4 : Nat) (q5 : Nat) (q6 : Nat) (q7 : Nat) (q9 : Nat) (q10 : Nat) (q11 : Nat) (x : Nat → Int32) (g : Nat → Int32) : Met l yX12_told wsX12_told rmX12_told (PR G y [.ref h, .int a1] [kX12 h q1 q4 q5 q6 q7 q9 q10 q11 x, aI y q6 154 g]) (QRi (let v_2 : Int32 := (if a1 = 0 then (g 12) else (if a1 = 1 then (x 12) else (if a1 = 2 then (x 13) else (if a1 = 3 then (g 16) else (x 14))))); v_2)) 0 0 (fun _ => False) := by
  refine Met.ofW (cc := cX12_told) (maxL := 2) (ret := (some .int)) (by decide) rfl ?_
  intro p e s m args below meth c s₁ B hml hv
  obtain ⟨rfl, hP, hK, hN⟩ := hv
  have hx := B.exec
  have hb := B.bytes
  have hr := B.returns
  have hts := atoms_spec (ws := wsX12_told) B.pre
  have hown : s.vm.findClass RX12 = some m.cls := findClass_of_methodNamed B.named
  have hlocks := B.notSynchronized
  have i_X12 : ∀ w ∈ u_ws RX12 TX12 15, w ∈ wsX12_told := by decide +kernel
  have hl := lv_entry ([.ref h, .int a1]) (n := 2) (Nat.le_of_ble_eq_true rfl)
  rw [lg_entry_eq]
  generalize (lg_sl ([.ref h, .int a1]) ++ List.replicate (2 - (lg_sl ([.ref h, .int a1])).length) Slot.unset).toArray = ls at hl ⊢
  have hl : lv_has ls 2 [(0, .ref h), (1, .int a1)] := hl
  obtain ⟨QQ, hQQ⟩ : ∃ zq9, zq9 = MQ below (QRi (let v_2 : Int32 := (if a1 = 0 then (g 12) else (if a1 = 1 then (x 12) else (if a1 = 2 then (x 13) else (if a1 = 3 then (g 16) else (x 14))))); v_2)) ([.ref h, .int a1] : List Value).toArray s 0 0 (fun _ => False) := ⟨_, rfl⟩
  rw [← hQQ]
  refine lv_iload_n hx hb dX12_told_0 rfl (lv_at hl 1 rfl) ?_
  have J57_3 : ∀ (v_2 : Int32) (e_v_2 : v_2 = (if a1 = 0 then (g 12) else (if a1 = 1 then (x 12) else (if a1 = 2 then (x 13) else (if a1 = 3 then (g 16) else (x 14)))))) (ls : Array Slot) (hl : lv_has ls 2 []), W p l e (headSpec wsX12_told rmX12_told).room s m ([.ref h, .int a1] : List Value).toArray below meth c s.heap [] 0 0 QQ (F0 m 57 ls [.int v_2]) := by
    intro v_2 e_v_2 ls hl
    rw [hQQ]
    exact W.iret hx hb hr (end_Ri (by subst e_v_2; exact rfl)) (fun _ h => nomatch h) dX12_told_57
  refine lv_if_ne (tgt := 14) hx hb dX12_told_1 (by decide) (fun c_1 => ?_) (fun c_1 => ?_)
  · refine lv_iload_n hx hb dX12_told_14 rfl (lv_at hl 1 rfl) ?_
    refine lv_iconst (v := 1) hx hb dX12_told_15 (by decide) ?_
    refine lv_icmp_ne (tgt := 26) hx hb dX12_told_16 (by decide) (fun c_4 => ?_) (fun c_4 => ?_)
    · refine lv_iload_n hx hb dX12_told_26 rfl (lv_at hl 1 rfl) ?_
      refine lv_iconst (v := 2) hx hb dX12_told_27 (by decide) ?_
      refine lv_icmp_ne (tgt := 38) hx hb dX12_told_28 (by decide) (fun c_5 => ?_) (fun c_5 => ?_)
      · refine lv_iload_n hx hb dX12_told_38 rfl (lv_at hl 1 rfl) ?_
        refine lv_iconst (v := 3) hx hb dX12_told_39 (by decide) ?_
        refine lv_icmp_ne (tgt := 53) hx hb dX12_told_40 (by decide) (fun c_6 => ?_) (fun c_6 => ?_)
        · refine lv_aload_n hx hb dX12_told_53 rfl (lv_at hl 0 rfl) ?_
          refine va_get (D := G) (ci := 10) (v := .int (x 14)) (C := RX12) (T := TX12) (N := 15) hx hb hts i_X12 hown hK hP 0 rfl rfl 14 (by decide) (hts (.fieldLink RX12 214 "RelayTunerModel" "apart" "I") (by decide +kernel)) (fun _ h9 => h9) rfl dX12_told_54 ?_
          exact J57_3 _ ((if_neg c_1).trans ((if_neg c_4).trans ((if_neg c_5).trans (if_neg c_6)))).symm ls (lv_sub hl [] rfl)
        · refine lv_aload_n hx hb dX12_told_43 rfl (lv_at hl 0 rfl) ?_
          refine va_get (D := G) (ci := 10) (v := .ref q6) (C := RX12) (T := TX12) (N := 15) hx hb hts i_X12 hown hK hP 0 rfl rfl 6 (by decide) (hts (.fieldLink RX12 19 "RelayTunerModel" "trial" "[I") (by decide +kernel)) (fun _ h9 => h9) rfl dX12_told_44 ?_
          refine lv_bipush (v := 16) hx hb dX12_told_47 (by decide) ?_
          refine al_i (D := G) (n := 154) (f := g) hx hb hK hP 1 0 rfl rfl 16 rfl (by decide) (by first | decide | omega) dX12_told_49 ?_
          refine lv_goto (tgt := 57) hx hb dX12_told_50 (by decide) ?_
          exact J57_3 _ ((if_neg c_1).trans ((if_neg c_4).trans ((if_neg c_5).trans (if_pos c_6)))).symm ls (lv_sub hl [] rfl)
      · refine lv_aload_n hx hb dX12_told_31 rfl (lv_at hl 0 rfl) ?_
        refine va_get (D := G) (ci := 10) (v := .int (x 13)) (C := RX12) (T := TX12) (N := 15) hx hb hts i_X12 hown hK hP 0 rfl rfl 13 (by decide) (hts (.fieldLink RX12 211 "RelayTunerModel" "greatest" "I") (by decide +kernel)) (fun _ h9 => h9) rfl dX12_told_32 ?_
        refine lv_goto (tgt := 57) hx hb dX12_told_35 (by decide) ?_
        exact J57_3 _ ((if_neg c_1).trans ((if_neg c_4).trans (if_pos c_5))).symm ls (lv_sub hl [] rfl)
    · refine lv_aload_n hx hb dX12_told_19 rfl (lv_at hl 0 rfl) ?_
      refine va_get (D := G) (ci := 10) (v := .int (x 12)) (C := RX12) (T := TX12) (N := 15) hx hb hts i_X12 hown hK hP 0 rfl rfl 12 (by decide) (hts (.fieldLink RX12 208 "RelayTunerModel" "outputs" "I") (by decide +kernel)) (fun _ h9 => h9) rfl dX12_told_20 ?_
      refine lv_goto (tgt := 57) hx hb dX12_told_23 (by decide) ?_
      exact J57_3 _ ((if_neg c_1).trans (if_pos c_4)).symm ls (lv_sub hl [] rfl)
  · refine lv_aload_n hx hb dX12_told_4 rfl (lv_at hl 0 rfl) ?_
    refine va_get (D := G) (ci := 10) (v := .ref q6) (C := RX12) (T := TX12) (N := 15) hx hb hts i_X12 hown hK hP 0 rfl rfl 6 (by decide) (hts (.fieldLink RX12 19 "RelayTunerModel" "trial" "[I") (by decide +kernel)) (fun _ h9 => h9) rfl dX12_told_5 ?_
    refine lv_bipush (v := 12) hx hb dX12_told_8 (by decide) ?_
    refine al_i (D := G) (n := 154) (f := g) hx hb hK hP 1 0 rfl rfl 12 rfl (by decide) (by first | decide | omega) dX12_told_10 ?_
    refine lv_goto (tgt := 57) hx hb dX12_told_11 (by decide) ?_
    exact J57_3 _ (if_pos c_1).symm ls (lv_sub hl [] rfl)

def s_X12_ahead_r (a1 : Int32) (a2 : Int32) (f : Nat → Int32) : Int32 := (let v_2 : Int32 := (if (s_X12_in_r a1.toInt64 0 200) = 0 then 1 else (if (s_X12_in_r a2.toInt64 0 4) = 0 then 1 else 0)); (if (s_X12_refused_r v_2) = 0 then (let v_2 : Int32 := (if a2 = 0 then ((itF s_X12_tickOn_w0 (tn a1) f) 12) else (if a2 = 1 then (outS (fun k => itF s_X12_tickOn_w0 k f) (tn a1)) else (if a2 = 2 then (greS (fun k => itF s_X12_tickOn_w0 k f) (tn a1)) else (if a2 = 3 then ((itF s_X12_tickOn_w0 (tn a1) f) 16) else (apaS (fun k => itF s_X12_tickOn_w0 k f) (tn a1)))))); v_2) else 0))
def s_X12_ahead_w0 (a1 : Int32) (a2 : Int32) (x : Nat → Int32) (f : Nat → Int32) : Nat → Int32 := (let v_2 : Int32 := (if (s_X12_in_r a1.toInt64 0 200) = 0 then 1 else (if (s_X12_in_r a2.toInt64 0 4) = 0 then 1 else 0)); (if (s_X12_refused_r v_2) = 0 then (upd (upd (upd (upd x 0 v_2) 12 (outS (fun k => itF s_X12_tickOn_w0 k f) (tn a1))) 13 (greS (fun k => itF s_X12_tickOn_w0 k f) (tn a1))) 14 (apaS (fun k => itF s_X12_tickOn_w0 k f) (tn a1))) else (upd x 0 v_2)))
abbrev rmX12_ahead : Room := ({ frames := 5, cells := 0, slots := 0, locals := 109 } : Room)
set_option maxHeartbeats 4000000 in
set_option maxRecDepth 100000 in
theorem c_X12_ahead (l : Launch) (G : va_G) (y : Nat → ClassId) (h : Nat) (a1 : Int32) (a2 : Int32) (q1 : Nat) (q4 : Nat) (q5 : Nat) (q6 : Nat) (q7 : Nat) (q9 : Nat) (q10 : Nat) (q11 : Nat) (x : Nat → Int32) (f : Nat → Int32) (g : Nat → Int32) (sz : Nat) (hg : TK f) : Met l yX12_ahead wsX12_ahead rmX12_ahead (PH G y [.ref h, .int a1, .int a2] [kX12 h q1 q4 q5 q6 q7 q9 q10 q11 x, aI y q5 154 f, aI y q6 154 g] sz) (QHi G (s_X12_ahead_r a1 a2 f) (fun u : (Nat → Int32) => [kX12 h q1 q4 q5 q6 q7 q9 q10 q11 (s_X12_ahead_w0 a1 a2 x f), aI y q5 154 f, aI y q6 154 u]) (va_A [kX12 h q1 q4 q5 q6 q7 q9 q10 q11 x, aI y q5 154 f, aI y q6 154 g] sz)) 0 0 (va_A [kX12 h q1 q4 q5 q6 q7 q9 q10 q11 x, aI y q5 154 f, aI y q6 154 g] sz) := by
  refine Met.ofW (cc := cX12_ahead) (maxL := 3) (ret := (some .int)) (by decide) rfl ?_
  intro p e s m args below meth c s₁ B hml hv
  obtain ⟨rfl, hsz, hP, ⟨hK, hN⟩, hD0⟩ := hv
  have hx := B.exec
  have hb := B.bytes
  have hr := B.returns
  have hts := atoms_spec (ws := wsX12_ahead) B.pre
  have hown : s.vm.findClass RX12 = some m.cls := findClass_of_methodNamed B.named
  have hlocks := B.notSynchronized
  have i_X12 : ∀ w ∈ u_ws RX12 TX12 15, w ∈ wsX12_ahead := by decide +kernel
  subst hsz
  have hD := hD0.self (sz := s.heap.size)
  generalize hAe : va_A [kX12 h q1 q4 q5 q6 q7 q9 q10 q11 x, aI y q5 154 f, aI y q6 154 g] s.heap.size = A at hD ⊢
  have hA : ∀ q : Nat, s.heap.size ≤ q → A q := fun q h => by rw [← hAe]; exact Or.inr h
  have hS : va_S A s.heap s.heap [] := va_S.rf
  have hP : va_P G vwCl [kX12 h q1 q4 q5 q6 q7 q9 q10 q11 x, aI y q5 154 f, aI y q6 154 g] s.heap := hP
  have hl := lv_entry ([.ref h, .int a1, .int a2]) (n := 3) (Nat.le_of_ble_eq_true rfl)
  rw [lg_entry_eq]
  generalize (lg_sl ([.ref h, .int a1, .int a2]) ++ List.replicate (3 - (lg_sl ([.ref h, .int a1, .int a2])).length) Slot.unset).toArray = ls at hl ⊢
  have hl : lv_has ls 3 [(0, .ref h), (1, .int a1), (2, .int a2)] := hl
  obtain ⟨QQ, hQQ⟩ : ∃ zq9, zq9 = MQ below (QHi G (s_X12_ahead_r a1 a2 f) (fun u : (Nat → Int32) => [kX12 h q1 q4 q5 q6 q7 q9 q10 q11 (s_X12_ahead_w0 a1 a2 x f), aI y q5 154 f, aI y q6 154 u]) A) ([.ref h, .int a1, .int a2] : List Value).toArray s 0 0 A := ⟨_, rfl⟩
  rw [← hQQ]
  refine lv_aload_n hx hb dX12_ahead_0 rfl (lv_at hl 0 rfl) ?_
  refine lv_iload_n hx hb dX12_ahead_1 rfl (lv_at hl 1 rfl) ?_
  refine lv_i2l (v := a1.toInt64) hx hb dX12_ahead_2 rfl ?_
  refine lv_lconst (v := 0) hx hb dX12_ahead_3 rfl ?_
  refine lv_ldc2 (v := 200) hx hb hown (hts (.constantLong RX12 157 200) (by decide +kernel)) dX12_ahead_4 ?_
  refine cl_Ri (va_runS (As := [.long a1.toInt64, .long 0, .long 200]) (rest := [.ref h]) ⟨hx, hb, hml, hown, hts⟩ (c_X12_in l G y a1.toInt64 0 200) (va_cwS 3 hts gX12_ahead_X12_in rfl rfl rfl (by decide +kernel) ⟨Nat.le_of_ble_eq_true rfl, Nat.le_of_ble_eq_true rfl⟩) (PR_S pnil hK hN) rfl rfl hl.1 rfl (lv_room (Nat.le_of_ble_eq_true rfl)) dX12_ahead_7 ⟨Nat.le_of_ble_eq_true rfl, Nat.le_of_ble_eq_true rfl⟩) ?_
  have J30_4 : ∀ (v_2 : Int32) (e_v_2 : v_2 = (if (s_X12_in_r a1.toInt64 0 200) = 0 then 1 else (if (s_X12_in_r a2.toInt64 0 4) = 0 then 1 else 0))) (z_3 : v_2 = 0 ∨ v_2 = 1) (ls : Array Slot) (hl : lv_has ls 3 [(0, .ref h), (1, .int a1), (2, .int a2)]), W p l e (headSpec wsX12_ahead rmX12_ahead).room s m ([.ref h, .int a1, .int a2] : List Value).toArray below meth c s.heap [] 0 0 QQ (F0 m 30 ls [.int v_2, .ref h]) := by
    intro v_2 e_v_2 z_3 ls hl
    refine cl_Hi (wr := [aI y q5 154 f, aI y q6 154 g]) (fun _ : Unit => [kX12 h q1 q4 q5 q6 q7 q9 q10 q11 (upd x 0 v_2), aI y q5 154 f, aI y q6 154 g]) [0] [1, 2] [2, 0, 1] (va_runV (As := [.int v_2]) (rest := []) ⟨hx, hb, hml, hown, hts⟩ (c_X12_refused l G y h v_2 q1 q4 q5 q6 q7 q9 q10 q11 x s.heap.size) (cwV 1 hts gX12_ahead_X12_refused rfl rfl rfl (by decide +kernel) ⟨Nat.le_of_ble_eq_true rfl, Nat.le_of_ble_eq_true rfl⟩) (PH_V (hP.sub (ws' := [kX12 h q1 q4 q5 q6 q7 q9 q10 q11 x]) [0] rfl) hK hN (hD.sub (ws' := [kX12 h q1 q4 q5 q6 q7 q9 q10 q11 x]) [0] (by decide) rfl) (ci := 10) (q0 := 0) rfl rfl) rfl rfl hl.1 rfl (lv_room (Nat.le_of_ble_eq_true rfl)) dX12_ahead_30 ⟨Nat.le_of_ble_eq_true rfl, Nat.le_of_ble_eq_true rfl⟩) hP hD hS hA rfl rfl rfl (by decide) rfl (fun _ => rfl) (fun _ H locs hP hD hS => ?_)
    have hP : va_P G vwCl [kX12 h q1 q4 q5 q6 q7 q9 q10 q11 (upd x 0 v_2), aI y q5 154 f, aI y q6 154 g] H := hP
    have hD : va_D A [kX12 h q1 q4 q5 q6 q7 q9 q10 q11 (upd x 0 v_2), aI y q5 154 f, aI y q6 154 g] := hD
    refine lv_if_eq (tgt := 38) hx hb dX12_ahead_33 (by decide) (fun c_5 => ?_) (fun c_5 => ?_)
    · obtain ⟨hq1, hq2⟩ := ref021 e_v_2 c_5
      have hin : vp_in a1 201 := in_vp hq1 (by decide) (by decide)
      obtain ⟨ha1, ha2⟩ := in_tn hin (by decide)
      refine lv_aload_n hx hb dX12_ahead_38 rfl (lv_at hl 0 rfl) ?_
      refine va_get (D := G) (ci := 10) (v := .ref q5) (C := RX12) (T := TX12) (N := 15) hx hb hts i_X12 hown hK hP 0 rfl rfl 5 (by decide) (hts (.fieldLink RX12 16 "RelayTunerModel" "now" "[I") (by decide +kernel)) (fun _ h9 => h9) rfl dX12_ahead_39 ?_
      refine lv_iconst (v := 0) hx hb dX12_ahead_42 (by decide) ?_
      refine lv_aload_n hx hb dX12_ahead_43 rfl (lv_at hl 0 rfl) ?_
      refine va_get (D := G) (ci := 10) (v := .ref q6) (C := RX12) (T := TX12) (N := 15) hx hb hts i_X12 hown hK hP 0 rfl rfl 6 (by decide) (hts (.fieldLink RX12 19 "RelayTunerModel" "trial" "[I") (by decide +kernel)) (fun _ h9 => h9) rfl dX12_ahead_44 ?_
      refine lv_iconst (v := 0) hx hb dX12_ahead_47 (by decide) ?_
      refine cl_Hv (wr := [kX12 h q1 q4 q5 q6 q7 q9 q10 q11 (upd x 0 v_2)]) (fun _ : Unit => [kX12 h q1 q4 q5 q6 q7 q9 q10 q11 (upd x 0 v_2), aI y q5 154 f, aI y q6 154 (va_cpy f g 0 0 154)]) [1, 2] [0] [0, 1, 2] (va_runS (As := [.ref q5, .int 0, .ref q6, .int 0]) (rest := []) ⟨hx, hb, hml, hown, hts⟩ (c_X12_copyPage l G y q5 0 q6 0 f g 0 0 154 154 H.size rfl (by decide) (by decide) rfl (by decide) (by decide)) (va_cwS 4 hts gX12_ahead_X12_copyPage rfl rfl rfl (by decide +kernel) ⟨Nat.le_of_ble_eq_true rfl, Nat.le_of_ble_eq_true rfl⟩) (PH_S (hP.sub (ws' := [aI y q5 154 f, aI y q6 154 g]) [1, 2] rfl) hK hN (hD.sub (ws' := [aI y q5 154 f, aI y q6 154 g]) [1, 2] (by decide) rfl)) rfl rfl hl.1 rfl (lv_room (Nat.le_of_ble_eq_true rfl)) dX12_ahead_48 ⟨Nat.le_of_ble_eq_true rfl, Nat.le_of_ble_eq_true rfl⟩) hP hD hS hA rfl rfl rfl (by decide) rfl (fun _ => rfl) (fun _ H locs hP hD hS => ?_)
      have hP : va_P G vwCl [kX12 h q1 q4 q5 q6 q7 q9 q10 q11 (upd x 0 v_2), aI y q5 154 f, aI y q6 154 (va_cpy f g 0 0 154)] H := hP
      have hD : va_D A [kX12 h q1 q4 q5 q6 q7 q9 q10 q11 (upd x 0 v_2), aI y q5 154 f, aI y q6 154 (va_cpy f g 0 0 154)] := hD
      have hD := va_D.set (p := 2) (e := (aI y q6 154 f).2) hD rfl
      have hP := alike1 (i := 2) (g := f) hP rfl (fun j hj => cpy_all hj)
      have hP : va_P G vwCl [kX12 h q1 q4 q5 q6 q7 q9 q10 q11 (upd x 0 v_2), aI y q5 154 f, aI y q6 154 f] H := hP
      have hD : va_D A [kX12 h q1 q4 q5 q6 q7 q9 q10 q11 (upd x 0 v_2), aI y q5 154 f, aI y q6 154 f] := hD
      refine lv_aload_n hx hb dX12_ahead_51 rfl (lv_at hl 0 rfl) ?_
      refine lv_iload_n hx hb dX12_ahead_52 rfl (lv_at hl 1 rfl) ?_
      refine cl_Hv (wr := [aI y q5 154 f]) (fun _ : Unit => [kX12 h q1 q4 q5 q6 q7 q9 q10 q11 (upd (upd (upd (upd x 0 v_2) 12 (outS (fun k => itF s_X12_tickOn_w0 k f) (tn a1))) 13 (greS (fun k => itF s_X12_tickOn_w0 k f) (tn a1))) 14 (apaS (fun k => itF s_X12_tickOn_w0 k f) (tn a1))), aI y q5 154 f, aI y q6 154 (itF s_X12_tickOn_w0 (tn a1) f)]) [0, 2] [1] [1, 0, 2] (va_runV (As := [.int a1]) (rest := []) ⟨hx, hb, hml, hown, hts⟩ (c_X12_look l G y h a1 q1 q4 q5 q6 q7 q9 q10 q11 (upd x 0 v_2) f (tn a1) H.size hg ha1 (by omega)) (cwV 1 hts gX12_ahead_X12_look rfl rfl rfl (by decide +kernel) ⟨Nat.le_of_ble_eq_true rfl, Nat.le_of_ble_eq_true rfl⟩) (PH_V (hP.sub (ws' := [kX12 h q1 q4 q5 q6 q7 q9 q10 q11 (upd x 0 v_2), aI y q6 154 f]) [0, 2] rfl) hK hN (hD.sub (ws' := [kX12 h q1 q4 q5 q6 q7 q9 q10 q11 (upd x 0 v_2), aI y q6 154 f]) [0, 2] (by decide) rfl) (ci := 10) (q0 := 0) rfl rfl) rfl rfl hl.1 rfl (lv_room (Nat.le_of_ble_eq_true rfl)) dX12_ahead_53 ⟨Nat.le_of_ble_eq_true rfl, Nat.le_of_ble_eq_true rfl⟩) hP hD hS hA rfl rfl rfl (by decide) rfl (fun _ => rfl) (fun _ H locs hP hD hS => ?_)
      have hP : va_P G vwCl [kX12 h q1 q4 q5 q6 q7 q9 q10 q11 (upd (upd (upd (upd x 0 v_2) 12 (outS (fun k => itF s_X12_tickOn_w0 k f) (tn a1))) 13 (greS (fun k => itF s_X12_tickOn_w0 k f) (tn a1))) 14 (apaS (fun k => itF s_X12_tickOn_w0 k f) (tn a1))), aI y q5 154 f, aI y q6 154 (itF s_X12_tickOn_w0 (tn a1) f)] H := hP
      have hD : va_D A [kX12 h q1 q4 q5 q6 q7 q9 q10 q11 (upd (upd (upd (upd x 0 v_2) 12 (outS (fun k => itF s_X12_tickOn_w0 k f) (tn a1))) 13 (greS (fun k => itF s_X12_tickOn_w0 k f) (tn a1))) 14 (apaS (fun k => itF s_X12_tickOn_w0 k f) (tn a1))), aI y q5 154 f, aI y q6 154 (itF s_X12_tickOn_w0 (tn a1) f)] := hD
      refine lv_aload_n hx hb dX12_ahead_56 rfl (lv_at hl 0 rfl) ?_
      refine lv_iload_n hx hb dX12_ahead_57 rfl (lv_at hl 2 rfl) ?_
      refine cl_Ri (va_runV (As := [.int a2]) (rest := []) ⟨hx, hb, hml, hown, hts⟩ (c_X12_told l G y h a2 q1 q4 q5 q6 q7 q9 q10 q11 (upd (upd (upd (upd x 0 v_2) 12 (outS (fun k => itF s_X12_tickOn_w0 k f) (tn a1))) 13 (greS (fun k => itF s_X12_tickOn_w0 k f) (tn a1))) 14 (apaS (fun k => itF s_X12_tickOn_w0 k f) (tn a1))) (itF s_X12_tickOn_w0 (tn a1) f)) (cwV 1 hts gX12_ahead_X12_told rfl rfl rfl (by decide +kernel) ⟨Nat.le_of_ble_eq_true rfl, Nat.le_of_ble_eq_true rfl⟩) (PR_V (hP.sub (ws' := [kX12 h q1 q4 q5 q6 q7 q9 q10 q11 (upd (upd (upd (upd x 0 v_2) 12 (outS (fun k => itF s_X12_tickOn_w0 k f) (tn a1))) 13 (greS (fun k => itF s_X12_tickOn_w0 k f) (tn a1))) 14 (apaS (fun k => itF s_X12_tickOn_w0 k f) (tn a1))), aI y q6 154 (itF s_X12_tickOn_w0 (tn a1) f)]) [0, 2] rfl) hK hN (ci := 10) (q0 := 0) rfl rfl) rfl rfl hl.1 rfl (lv_room (Nat.le_of_ble_eq_true rfl)) dX12_ahead_58 ⟨Nat.le_of_ble_eq_true rfl, Nat.le_of_ble_eq_true rfl⟩) ?_
      refine rw_i (x' := (let v_2 : Int32 := (if a2 = 0 then ((itF s_X12_tickOn_w0 (tn a1) f) 12) else (if a2 = 1 then (outS (fun k => itF s_X12_tickOn_w0 k f) (tn a1)) else (if a2 = 2 then (greS (fun k => itF s_X12_tickOn_w0 k f) (tn a1)) else (if a2 = 3 then ((itF s_X12_tickOn_w0 (tn a1) f) 16) else (apaS (fun k => itF s_X12_tickOn_w0 k f) (tn a1)))))); v_2)) rfl ?_
      rw [hQQ]
      exact W.iret hx hb hr (end_Hi (itF s_X12_tickOn_w0 (tn a1) f) hP hD hS (by subst e_v_2; unfold s_X12_ahead_r; exact (if_pos c_5).symm) (congrArg (fun (z0 : Nat → Int32) => [kX12 h q1 q4 q5 q6 q7 q9 q10 q11 z0, aI y q5 154 f, aI y q6 154 (itF s_X12_tickOn_w0 (tn a1) f)]) (by subst e_v_2; unfold s_X12_ahead_w0; exact (if_pos c_5).symm))) hS.2.2 dX12_ahead_61
    · refine lv_iconst (v := 0) hx hb dX12_ahead_36 (by decide) ?_
      rw [hQQ]
      exact W.iret hx hb hr (end_Hi g hP hD hS (by subst e_v_2; unfold s_X12_ahead_r; exact (if_neg c_5).symm) (congrArg (fun (z0 : Nat → Int32) => [kX12 h q1 q4 q5 q6 q7 q9 q10 q11 z0, aI y q5 154 f, aI y q6 154 g]) (by subst e_v_2; unfold s_X12_ahead_w0; exact (if_neg c_5).symm))) hS.2.2 dX12_ahead_37
  refine lv_if_eq (tgt := 29) hx hb dX12_ahead_10 (by decide) (fun c_1 => ?_) (fun c_1 => ?_)
  · refine lv_iconst (v := 1) hx hb dX12_ahead_29 (by decide) ?_
    exact J30_4 _ (if_pos c_1).symm (Or.inr rfl) ls (lv_sub hl [0, 1, 2] rfl)
  · refine lv_iload_n hx hb dX12_ahead_13 rfl (lv_at hl 2 rfl) ?_
    refine lv_i2l (v := a2.toInt64) hx hb dX12_ahead_14 rfl ?_
    refine lv_lconst (v := 0) hx hb dX12_ahead_15 rfl ?_
    refine lv_ldc2 (v := 4) hx hb hown (hts (.constantLong RX12 153 4) (by decide +kernel)) dX12_ahead_16 ?_
    refine cl_Ri (va_runS (As := [.long a2.toInt64, .long 0, .long 4]) (rest := [.ref h]) ⟨hx, hb, hml, hown, hts⟩ (c_X12_in l G y a2.toInt64 0 4) (va_cwS 3 hts gX12_ahead_X12_in rfl rfl rfl (by decide +kernel) ⟨Nat.le_of_ble_eq_true rfl, Nat.le_of_ble_eq_true rfl⟩) (PR_S pnil hK hN) rfl rfl hl.1 rfl (lv_room (Nat.le_of_ble_eq_true rfl)) dX12_ahead_19 ⟨Nat.le_of_ble_eq_true rfl, Nat.le_of_ble_eq_true rfl⟩) ?_
    refine lv_if_eq (tgt := 29) hx hb dX12_ahead_22 (by decide) (fun c_6 => ?_) (fun c_6 => ?_)
    · refine lv_iconst (v := 1) hx hb dX12_ahead_29 (by decide) ?_
      exact J30_4 _ ((if_neg c_1).trans (if_pos c_6)).symm (Or.inr rfl) ls (lv_sub hl [0, 1, 2] rfl)
    · refine lv_iconst (v := 0) hx hb dX12_ahead_25 (by decide) ?_
      refine lv_goto (tgt := 30) hx hb dX12_ahead_26 (by decide) ?_
      exact J30_4 _ ((if_neg c_1).trans (if_neg c_6)).symm (Or.inl rfl) ls (lv_sub hl [0, 1, 2] rfl)

theorem mode_TK {a : Int32} {f : Nat → Int32} (h : TK f) (ha : vp_in a 3) : TK (s_X12_modeOn_w0 a f) := by
  obtain ⟨h1, h2, h3, h4⟩ := h
  unfold s_X12_modeOn_w0
  try dsimp only
  split
  · exact ⟨h1, h2, h3, h4⟩
  · split
    · exact ⟨h1, h2, ha, h4⟩
    · exact ⟨h1, h2, ha, h4⟩
theorem rule_TK {a : Int32} {f : Nat → Int32} (h : TK f) : TK (s_X12_ruleOn_w1 a f) := by
  unfold s_X12_ruleOn_w1
  exact mode_TK ⟨h.1, h.2.1, h.2.2.1, h.2.2.2⟩ (vp_in_nI (n := 2) (by decide) (by decide))

def s_X12_outcomeOf_r (a1 : Int32) (a2 : Int32) (a3 : Int32) (f : Nat → Int32) : Int32 := (let v_2 : Int32 := (if a3 = 0 then ((itF s_X12_tickOn_w0 (tn a2) (s_X12_ruleOn_w1 a1 f)) 12) else (if a3 = 1 then (outS (fun k => itF s_X12_tickOn_w0 k (s_X12_ruleOn_w1 a1 f)) (tn a2)) else (if a3 = 2 then (greS (fun k => itF s_X12_tickOn_w0 k (s_X12_ruleOn_w1 a1 f)) (tn a2)) else (if a3 = 3 then ((itF s_X12_tickOn_w0 (tn a2) (s_X12_ruleOn_w1 a1 f)) 16) else (apaS (fun k => itF s_X12_tickOn_w0 k (s_X12_ruleOn_w1 a1 f)) (tn a2)))))); v_2)
def s_X12_outcomeOf_w0 (a1 : Int32) (a2 : Int32) (x : Nat → Int32) (f : Nat → Int32) : Nat → Int32 := (upd (upd (upd x 12 (outS (fun k => itF s_X12_tickOn_w0 k (s_X12_ruleOn_w1 a1 f)) (tn a2))) 13 (greS (fun k => itF s_X12_tickOn_w0 k (s_X12_ruleOn_w1 a1 f)) (tn a2))) 14 (apaS (fun k => itF s_X12_tickOn_w0 k (s_X12_ruleOn_w1 a1 f)) (tn a2)))
abbrev rmX12_outcomeOf : Room := ({ frames := 6, cells := 0, slots := 0, locals := 146 } : Room)
set_option maxHeartbeats 4000000 in
set_option maxRecDepth 100000 in
theorem c_X12_outcomeOf (l : Launch) (G : va_G) (y : Nat → ClassId) (h : Nat) (a1 : Int32) (a2 : Int32) (a3 : Int32) (q1 : Nat) (q4 : Nat) (q5 : Nat) (q6 : Nat) (q7 : Nat) (q9 : Nat) (q10 : Nat) (q11 : Nat) (x : Nat → Int32) (f : Nat → Int32) (g : Nat → Int32) (o : Nat → Int32) (sz : Nat) (hg : TK f) (hgd : ¬ goodP f = 0) (hin : vp_in a2 201) : Met l yX12_outcomeOf wsX12_outcomeOf rmX12_outcomeOf (PH G y [.ref h, .int a1, .int a2, .int a3] [kX12 h q1 q4 q5 q6 q7 q9 q10 q11 x, aI y q5 154 f, aI y q6 154 g, aI y q11 20 o] sz) (QHi G (s_X12_outcomeOf_r a1 a2 a3 f) (fun u : (Nat → Int32) × (Nat → Int32) => [kX12 h q1 q4 q5 q6 q7 q9 q10 q11 (s_X12_outcomeOf_w0 a1 a2 x f), aI y q5 154 f, aI y q6 154 u.1, aI y q11 20 u.2]) (va_A [kX12 h q1 q4 q5 q6 q7 q9 q10 q11 x, aI y q5 154 f, aI y q6 154 g, aI y q11 20 o] sz)) 0 0 (va_A [kX12 h q1 q4 q5 q6 q7 q9 q10 q11 x, aI y q5 154 f, aI y q6 154 g, aI y q11 20 o] sz) := by
  refine Met.ofW (cc := cX12_outcomeOf) (maxL := 4) (ret := (some .int)) (by decide) rfl ?_
  intro p e s m args below meth c s₁ B hml hv
  obtain ⟨rfl, hsz, hP, ⟨hK, hN⟩, hD0⟩ := hv
  have hx := B.exec
  have hb := B.bytes
  have hr := B.returns
  have hts := atoms_spec (ws := wsX12_outcomeOf) B.pre
  have hown : s.vm.findClass RX12 = some m.cls := findClass_of_methodNamed B.named
  have hlocks := B.notSynchronized
  have i_X12 : ∀ w ∈ u_ws RX12 TX12 15, w ∈ wsX12_outcomeOf := by decide +kernel
  subst hsz
  have hD := hD0.self (sz := s.heap.size)
  generalize hAe : va_A [kX12 h q1 q4 q5 q6 q7 q9 q10 q11 x, aI y q5 154 f, aI y q6 154 g, aI y q11 20 o] s.heap.size = A at hD ⊢
  have hA : ∀ q : Nat, s.heap.size ≤ q → A q := fun q h => by rw [← hAe]; exact Or.inr h
  have hS : va_S A s.heap s.heap [] := va_S.rf
  have hP : va_P G vwCl [kX12 h q1 q4 q5 q6 q7 q9 q10 q11 x, aI y q5 154 f, aI y q6 154 g, aI y q11 20 o] s.heap := hP
  have hl := lv_entry ([.ref h, .int a1, .int a2, .int a3]) (n := 4) (Nat.le_of_ble_eq_true rfl)
  rw [lg_entry_eq]
  generalize (lg_sl ([.ref h, .int a1, .int a2, .int a3]) ++ List.replicate (4 - (lg_sl ([.ref h, .int a1, .int a2, .int a3])).length) Slot.unset).toArray = ls at hl ⊢
  have hl : lv_has ls 4 [(0, .ref h), (1, .int a1), (2, .int a2), (3, .int a3)] := hl
  refine lv_aload_n hx hb dX12_outcomeOf_0 rfl (lv_at hl 0 rfl) ?_
  refine va_get (D := G) (ci := 10) (v := .ref q5) (C := RX12) (T := TX12) (N := 15) hx hb hts i_X12 hown hK hP 0 rfl rfl 5 (by decide) (hts (.fieldLink RX12 16 "RelayTunerModel" "now" "[I") (by decide +kernel)) (fun _ h9 => h9) rfl dX12_outcomeOf_1 ?_
  refine lv_iconst (v := 0) hx hb dX12_outcomeOf_4 (by decide) ?_
  refine lv_aload_n hx hb dX12_outcomeOf_5 rfl (lv_at hl 0 rfl) ?_
  refine va_get (D := G) (ci := 10) (v := .ref q6) (C := RX12) (T := TX12) (N := 15) hx hb hts i_X12 hown hK hP 0 rfl rfl 6 (by decide) (hts (.fieldLink RX12 19 "RelayTunerModel" "trial" "[I") (by decide +kernel)) (fun _ h9 => h9) rfl dX12_outcomeOf_6 ?_
  refine lv_iconst (v := 0) hx hb dX12_outcomeOf_9 (by decide) ?_
  refine cl_Hv (wr := [kX12 h q1 q4 q5 q6 q7 q9 q10 q11 x, aI y q11 20 o]) (fun _ : Unit => [kX12 h q1 q4 q5 q6 q7 q9 q10 q11 x, aI y q5 154 f, aI y q6 154 (va_cpy f g 0 0 154), aI y q11 20 o]) [1, 2] [0, 3] [0, 2, 3, 1] (va_runS (As := [.ref q5, .int 0, .ref q6, .int 0]) (rest := []) ⟨hx, hb, hml, hown, hts⟩ (c_X12_copyPage l G y q5 0 q6 0 f g 0 0 154 154 s.heap.size rfl (by decide) (by decide) rfl (by decide) (by decide)) (va_cwS 4 hts gX12_outcomeOf_X12_copyPage rfl rfl rfl (by decide +kernel) ⟨Nat.le_of_ble_eq_true rfl, Nat.le_of_ble_eq_true rfl⟩) (PH_S (hP.sub (ws' := [aI y q5 154 f, aI y q6 154 g]) [1, 2] rfl) hK hN (hD.sub (ws' := [aI y q5 154 f, aI y q6 154 g]) [1, 2] (by decide) rfl)) rfl rfl hl.1 rfl (lv_room (Nat.le_of_ble_eq_true rfl)) dX12_outcomeOf_10 ⟨Nat.le_of_ble_eq_true rfl, Nat.le_of_ble_eq_true rfl⟩) hP hD hS hA rfl rfl rfl (by decide) rfl (fun _ => rfl) (fun _ H locs hP hD hS => ?_)
  have hP : va_P G vwCl [kX12 h q1 q4 q5 q6 q7 q9 q10 q11 x, aI y q5 154 f, aI y q6 154 (va_cpy f g 0 0 154), aI y q11 20 o] H := hP
  have hD : va_D A [kX12 h q1 q4 q5 q6 q7 q9 q10 q11 x, aI y q5 154 f, aI y q6 154 (va_cpy f g 0 0 154), aI y q11 20 o] := hD
  have hD := va_D.set (p := 2) (e := (aI y q6 154 f).2) hD rfl
  have hP := alike1 (i := 2) (g := f) hP rfl (fun j hj => cpy_all hj)
  have hP : va_P G vwCl [kX12 h q1 q4 q5 q6 q7 q9 q10 q11 x, aI y q5 154 f, aI y q6 154 f, aI y q11 20 o] H := hP
  have hD : va_D A [kX12 h q1 q4 q5 q6 q7 q9 q10 q11 x, aI y q5 154 f, aI y q6 154 f, aI y q11 20 o] := hD
  refine lv_aload_n hx hb dX12_outcomeOf_13 rfl (lv_at hl 0 rfl) ?_
  refine lv_aload_n hx hb dX12_outcomeOf_14 rfl (lv_at hl 0 rfl) ?_
  refine va_get (D := G) (ci := 10) (v := .ref q6) (C := RX12) (T := TX12) (N := 15) hx hb hts i_X12 hown hK hP 0 rfl rfl 6 (by decide) (hts (.fieldLink RX12 19 "RelayTunerModel" "trial" "[I") (by decide +kernel)) (fun _ h9 => h9) rfl dX12_outcomeOf_15 ?_
  refine lv_iload_n hx hb dX12_outcomeOf_18 rfl (lv_at hl 1 rfl) ?_
  refine cl_Hv (wr := [aI y q5 154 f]) (fun u : (Nat → Int32) => [kX12 h q1 q4 q5 q6 q7 q9 q10 q11 x, aI y q5 154 f, aI y q6 154 (s_X12_ruleOn_w1 a1 f), aI y q11 20 u]) [0, 2, 3] [1] [1, 0, 2, 3] (va_runV (As := [.ref q6, .int a1]) (rest := []) ⟨hx, hb, hml, hown, hts⟩ (c_X12_ruleOn l G y h q6 a1 q1 q4 q5 q6 q7 q9 q10 q11 x f o H.size hg.2.2.2 hgd) (cwV 2 hts gX12_outcomeOf_X12_ruleOn rfl rfl rfl (by decide +kernel) ⟨Nat.le_of_ble_eq_true rfl, Nat.le_of_ble_eq_true rfl⟩) (PH_V (hP.sub (ws' := [kX12 h q1 q4 q5 q6 q7 q9 q10 q11 x, aI y q6 154 f, aI y q11 20 o]) [0, 2, 3] rfl) hK hN (hD.sub (ws' := [kX12 h q1 q4 q5 q6 q7 q9 q10 q11 x, aI y q6 154 f, aI y q11 20 o]) [0, 2, 3] (by decide) rfl) (ci := 10) (q0 := 0) rfl rfl) rfl rfl hl.1 rfl (lv_room (Nat.le_of_ble_eq_true rfl)) dX12_outcomeOf_19 ⟨Nat.le_of_ble_eq_true rfl, Nat.le_of_ble_eq_true rfl⟩) hP hD hS hA rfl rfl rfl (by decide) rfl (fun _ => rfl) (fun u H locs hP hD hS => ?_)
  obtain ⟨o_1, rfl⟩ : ∃ zq9, zq9 = u := ⟨_, rfl⟩
  have hP : va_P G vwCl [kX12 h q1 q4 q5 q6 q7 q9 q10 q11 x, aI y q5 154 f, aI y q6 154 (s_X12_ruleOn_w1 a1 f), aI y q11 20 o_1] H := hP
  have hD : va_D A [kX12 h q1 q4 q5 q6 q7 q9 q10 q11 x, aI y q5 154 f, aI y q6 154 (s_X12_ruleOn_w1 a1 f), aI y q11 20 o_1] := hD
  refine lv_aload_n hx hb dX12_outcomeOf_22 rfl (lv_at hl 0 rfl) ?_
  refine lv_iload_n hx hb dX12_outcomeOf_23 rfl (lv_at hl 2 rfl) ?_
  refine cl_Hv (wr := [aI y q5 154 f, aI y q11 20 o_1]) (fun _ : Unit => [kX12 h q1 q4 q5 q6 q7 q9 q10 q11 (upd (upd (upd x 12 (outS (fun k => itF s_X12_tickOn_w0 k (s_X12_ruleOn_w1 a1 f)) (tn a2))) 13 (greS (fun k => itF s_X12_tickOn_w0 k (s_X12_ruleOn_w1 a1 f)) (tn a2))) 14 (apaS (fun k => itF s_X12_tickOn_w0 k (s_X12_ruleOn_w1 a1 f)) (tn a2))), aI y q5 154 f, aI y q6 154 (itF s_X12_tickOn_w0 (tn a2) (s_X12_ruleOn_w1 a1 f)), aI y q11 20 o_1]) [0, 2] [1, 3] [2, 0, 3, 1] (va_runV (As := [.int a2]) (rest := []) ⟨hx, hb, hml, hown, hts⟩ (c_X12_look l G y h a2 q1 q4 q5 q6 q7 q9 q10 q11 x (s_X12_ruleOn_w1 a1 f) (tn a2) H.size (rule_TK hg) (in_tn hin (by decide)).1 (by have := (in_tn hin (by decide)).2; omega)) (cwV 1 hts gX12_outcomeOf_X12_look rfl rfl rfl (by decide +kernel) ⟨Nat.le_of_ble_eq_true rfl, Nat.le_of_ble_eq_true rfl⟩) (PH_V (hP.sub (ws' := [kX12 h q1 q4 q5 q6 q7 q9 q10 q11 x, aI y q6 154 (s_X12_ruleOn_w1 a1 f)]) [0, 2] rfl) hK hN (hD.sub (ws' := [kX12 h q1 q4 q5 q6 q7 q9 q10 q11 x, aI y q6 154 (s_X12_ruleOn_w1 a1 f)]) [0, 2] (by decide) rfl) (ci := 10) (q0 := 0) rfl rfl) rfl rfl hl.1 rfl (lv_room (Nat.le_of_ble_eq_true rfl)) dX12_outcomeOf_24 ⟨Nat.le_of_ble_eq_true rfl, Nat.le_of_ble_eq_true rfl⟩) hP hD hS hA rfl rfl rfl (by decide) rfl (fun _ => rfl) (fun _ H locs hP hD hS => ?_)
  have hP : va_P G vwCl [kX12 h q1 q4 q5 q6 q7 q9 q10 q11 (upd (upd (upd x 12 (outS (fun k => itF s_X12_tickOn_w0 k (s_X12_ruleOn_w1 a1 f)) (tn a2))) 13 (greS (fun k => itF s_X12_tickOn_w0 k (s_X12_ruleOn_w1 a1 f)) (tn a2))) 14 (apaS (fun k => itF s_X12_tickOn_w0 k (s_X12_ruleOn_w1 a1 f)) (tn a2))), aI y q5 154 f, aI y q6 154 (itF s_X12_tickOn_w0 (tn a2) (s_X12_ruleOn_w1 a1 f)), aI y q11 20 o_1] H := hP
  have hD : va_D A [kX12 h q1 q4 q5 q6 q7 q9 q10 q11 (upd (upd (upd x 12 (outS (fun k => itF s_X12_tickOn_w0 k (s_X12_ruleOn_w1 a1 f)) (tn a2))) 13 (greS (fun k => itF s_X12_tickOn_w0 k (s_X12_ruleOn_w1 a1 f)) (tn a2))) 14 (apaS (fun k => itF s_X12_tickOn_w0 k (s_X12_ruleOn_w1 a1 f)) (tn a2))), aI y q5 154 f, aI y q6 154 (itF s_X12_tickOn_w0 (tn a2) (s_X12_ruleOn_w1 a1 f)), aI y q11 20 o_1] := hD
  refine lv_aload_n hx hb dX12_outcomeOf_27 rfl (lv_at hl 0 rfl) ?_
  refine lv_iload_n hx hb dX12_outcomeOf_28 rfl (lv_at hl 3 rfl) ?_
  refine cl_Ri (va_runV (As := [.int a3]) (rest := []) ⟨hx, hb, hml, hown, hts⟩ (c_X12_told l G y h a3 q1 q4 q5 q6 q7 q9 q10 q11 (upd (upd (upd x 12 (outS (fun k => itF s_X12_tickOn_w0 k (s_X12_ruleOn_w1 a1 f)) (tn a2))) 13 (greS (fun k => itF s_X12_tickOn_w0 k (s_X12_ruleOn_w1 a1 f)) (tn a2))) 14 (apaS (fun k => itF s_X12_tickOn_w0 k (s_X12_ruleOn_w1 a1 f)) (tn a2))) (itF s_X12_tickOn_w0 (tn a2) (s_X12_ruleOn_w1 a1 f))) (cwV 1 hts gX12_outcomeOf_X12_told rfl rfl rfl (by decide +kernel) ⟨Nat.le_of_ble_eq_true rfl, Nat.le_of_ble_eq_true rfl⟩) (PR_V (hP.sub (ws' := [kX12 h q1 q4 q5 q6 q7 q9 q10 q11 (upd (upd (upd x 12 (outS (fun k => itF s_X12_tickOn_w0 k (s_X12_ruleOn_w1 a1 f)) (tn a2))) 13 (greS (fun k => itF s_X12_tickOn_w0 k (s_X12_ruleOn_w1 a1 f)) (tn a2))) 14 (apaS (fun k => itF s_X12_tickOn_w0 k (s_X12_ruleOn_w1 a1 f)) (tn a2))), aI y q6 154 (itF s_X12_tickOn_w0 (tn a2) (s_X12_ruleOn_w1 a1 f))]) [0, 2] rfl) hK hN (ci := 10) (q0 := 0) rfl rfl) rfl rfl hl.1 rfl (lv_room (Nat.le_of_ble_eq_true rfl)) dX12_outcomeOf_29 ⟨Nat.le_of_ble_eq_true rfl, Nat.le_of_ble_eq_true rfl⟩) ?_
  refine rw_i (x' := (let v_2 : Int32 := (if a3 = 0 then ((itF s_X12_tickOn_w0 (tn a2) (s_X12_ruleOn_w1 a1 f)) 12) else (if a3 = 1 then (outS (fun k => itF s_X12_tickOn_w0 k (s_X12_ruleOn_w1 a1 f)) (tn a2)) else (if a3 = 2 then (greS (fun k => itF s_X12_tickOn_w0 k (s_X12_ruleOn_w1 a1 f)) (tn a2)) else (if a3 = 3 then ((itF s_X12_tickOn_w0 (tn a2) (s_X12_ruleOn_w1 a1 f)) 16) else (apaS (fun k => itF s_X12_tickOn_w0 k (s_X12_ruleOn_w1 a1 f)) (tn a2)))))); v_2)) rfl ?_
  exact W.iret hx hb hr (end_Hi ⟨(itF s_X12_tickOn_w0 (tn a2) (s_X12_ruleOn_w1 a1 f)), o_1⟩ hP hD hS rfl rfl) hS.2.2 dX12_outcomeOf_32

def s_X12_outcome_r (a1 : Int32) (a2 : Int32) (a3 : Int32) (f : Nat → Int32) : Int32 := (let v_2 : Int32 := (if (s_X12_isRule_r a1) = 0 then 1 else (if (s_X12_in_r a2.toInt64 1 200) = 0 then 2 else (if (s_X12_in_r a3.toInt64 0 4) = 0 then 2 else 0))); (if (s_X12_refused_r v_2) = 0 then (let v_7 : Int32 := (if (nI (goodP f)) = 0 then (-99999) else (s_X12_outcomeOf_r a1 a2 a3 f)); v_7) else 0))
def s_X12_outcome_w0 (a1 : Int32) (a2 : Int32) (a3 : Int32) (x : Nat → Int32) (f : Nat → Int32) : Nat → Int32 := (let v_2 : Int32 := (if (s_X12_isRule_r a1) = 0 then 1 else (if (s_X12_in_r a2.toInt64 1 200) = 0 then 2 else (if (s_X12_in_r a3.toInt64 0 4) = 0 then 2 else 0))); (if (s_X12_refused_r v_2) = 0 then (let v_8 : Nat → Int32 := (if (nI (goodP f)) = 0 then (upd x 0 v_2) else (s_X12_outcomeOf_w0 a1 a2 (upd x 0 v_2) f)); v_8) else (upd x 0 v_2)))
abbrev rmX12_outcome : Room := ({ frames := 7, cells := 0, slots := 0, locals := 169 } : Room)
set_option maxHeartbeats 4000000 in
set_option maxRecDepth 100000 in
theorem c_X12_outcome (l : Launch) (G : va_G) (y : Nat → ClassId) (h : Nat) (a1 : Int32) (a2 : Int32) (a3 : Int32) (q1 : Nat) (q4 : Nat) (q5 : Nat) (q6 : Nat) (q7 : Nat) (q9 : Nat) (q10 : Nat) (q11 : Nat) (x : Nat → Int32) (f : Nat → Int32) (g : Nat → Int32) (o : Nat → Int32) (sz : Nat) (hg : TK f) : Met l yX12_outcome wsX12_outcome rmX12_outcome (PH G y [.ref h, .int a1, .int a2, .int a3] [kX12 h q1 q4 q5 q6 q7 q9 q10 q11 x, aI y q5 154 f, aI y q6 154 g, aI y q11 20 o] sz) (QHi G (s_X12_outcome_r a1 a2 a3 f) (fun u : (Nat → Int32) × (Nat → Int32) => [kX12 h q1 q4 q5 q6 q7 q9 q10 q11 (s_X12_outcome_w0 a1 a2 a3 x f), aI y q5 154 f, aI y q6 154 u.1, aI y q11 20 u.2]) (va_A [kX12 h q1 q4 q5 q6 q7 q9 q10 q11 x, aI y q5 154 f, aI y q6 154 g, aI y q11 20 o] sz)) 0 0 (va_A [kX12 h q1 q4 q5 q6 q7 q9 q10 q11 x, aI y q5 154 f, aI y q6 154 g, aI y q11 20 o] sz) := by
  refine Met.ofW (cc := cX12_outcome) (maxL := 4) (ret := (some .int)) (by decide) rfl ?_
  intro p e s m args below meth c s₁ B hml hv
  obtain ⟨rfl, hsz, hP, ⟨hK, hN⟩, hD0⟩ := hv
  have hx := B.exec
  have hb := B.bytes
  have hr := B.returns
  have hts := atoms_spec (ws := wsX12_outcome) B.pre
  have hown : s.vm.findClass RX12 = some m.cls := findClass_of_methodNamed B.named
  have hlocks := B.notSynchronized
  have i_X12 : ∀ w ∈ u_ws RX12 TX12 15, w ∈ wsX12_outcome := by decide +kernel
  subst hsz
  have hD := hD0.self (sz := s.heap.size)
  generalize hAe : va_A [kX12 h q1 q4 q5 q6 q7 q9 q10 q11 x, aI y q5 154 f, aI y q6 154 g, aI y q11 20 o] s.heap.size = A at hD ⊢
  have hA : ∀ q : Nat, s.heap.size ≤ q → A q := fun q h => by rw [← hAe]; exact Or.inr h
  have hS : va_S A s.heap s.heap [] := va_S.rf
  have hP : va_P G vwCl [kX12 h q1 q4 q5 q6 q7 q9 q10 q11 x, aI y q5 154 f, aI y q6 154 g, aI y q11 20 o] s.heap := hP
  have hl := lv_entry ([.ref h, .int a1, .int a2, .int a3]) (n := 4) (Nat.le_of_ble_eq_true rfl)
  rw [lg_entry_eq]
  generalize (lg_sl ([.ref h, .int a1, .int a2, .int a3]) ++ List.replicate (4 - (lg_sl ([.ref h, .int a1, .int a2, .int a3])).length) Slot.unset).toArray = ls at hl ⊢
  have hl : lv_has ls 4 [(0, .ref h), (1, .int a1), (2, .int a2), (3, .int a3)] := hl
  obtain ⟨QQ, hQQ⟩ : ∃ zq9, zq9 = MQ below (QHi G (s_X12_outcome_r a1 a2 a3 f) (fun u : (Nat → Int32) × (Nat → Int32) => [kX12 h q1 q4 q5 q6 q7 q9 q10 q11 (s_X12_outcome_w0 a1 a2 a3 x f), aI y q5 154 f, aI y q6 154 u.1, aI y q11 20 u.2]) A) ([.ref h, .int a1, .int a2, .int a3] : List Value).toArray s 0 0 A := ⟨_, rfl⟩
  rw [← hQQ]
  refine lv_aload_n hx hb dX12_outcome_0 rfl (lv_at hl 0 rfl) ?_
  refine lv_iload_n hx hb dX12_outcome_1 rfl (lv_at hl 1 rfl) ?_
  refine cl_Ri (va_runS (As := [.int a1]) (rest := [.ref h]) ⟨hx, hb, hml, hown, hts⟩ (c_X12_isRule l G y a1) (va_cwS 1 hts gX12_outcome_X12_isRule rfl rfl rfl (by decide +kernel) ⟨Nat.le_of_ble_eq_true rfl, Nat.le_of_ble_eq_true rfl⟩) (PR_S pnil hK hN) rfl rfl hl.1 rfl (lv_room (Nat.le_of_ble_eq_true rfl)) dX12_outcome_2 ⟨Nat.le_of_ble_eq_true rfl, Nat.le_of_ble_eq_true rfl⟩) ?_
  have J41_3 : ∀ (v_2 : Int32) (e_v_2 : v_2 = (if (s_X12_isRule_r a1) = 0 then 1 else (if (s_X12_in_r a2.toInt64 1 200) = 0 then 2 else (if (s_X12_in_r a3.toInt64 0 4) = 0 then 2 else 0)))) (ls : Array Slot) (hl : lv_has ls 4 [(0, .ref h), (1, .int a1), (2, .int a2), (3, .int a3)]), W p l e (headSpec wsX12_outcome rmX12_outcome).room s m ([.ref h, .int a1, .int a2, .int a3] : List Value).toArray below meth c s.heap [] 0 0 QQ (F0 m 41 ls [.int v_2, .ref h]) := by
    intro v_2 e_v_2 ls hl
    refine cl_Hi (wr := [aI y q5 154 f, aI y q6 154 g, aI y q11 20 o]) (fun _ : Unit => [kX12 h q1 q4 q5 q6 q7 q9 q10 q11 (upd x 0 v_2), aI y q5 154 f, aI y q6 154 g, aI y q11 20 o]) [0] [1, 2, 3] [3, 0, 1, 2] (va_runV (As := [.int v_2]) (rest := []) ⟨hx, hb, hml, hown, hts⟩ (c_X12_refused l G y h v_2 q1 q4 q5 q6 q7 q9 q10 q11 x s.heap.size) (cwV 1 hts gX12_outcome_X12_refused rfl rfl rfl (by decide +kernel) ⟨Nat.le_of_ble_eq_true rfl, Nat.le_of_ble_eq_true rfl⟩) (PH_V (hP.sub (ws' := [kX12 h q1 q4 q5 q6 q7 q9 q10 q11 x]) [0] rfl) hK hN (hD.sub (ws' := [kX12 h q1 q4 q5 q6 q7 q9 q10 q11 x]) [0] (by decide) rfl) (ci := 10) (q0 := 0) rfl rfl) rfl rfl hl.1 rfl (lv_room (Nat.le_of_ble_eq_true rfl)) dX12_outcome_41 ⟨Nat.le_of_ble_eq_true rfl, Nat.le_of_ble_eq_true rfl⟩) hP hD hS hA rfl rfl rfl (by decide) rfl (fun _ => rfl) (fun _ H locs hP hD hS => ?_)
    have hP : va_P G vwCl [kX12 h q1 q4 q5 q6 q7 q9 q10 q11 (upd x 0 v_2), aI y q5 154 f, aI y q6 154 g, aI y q11 20 o] H := hP
    have hD : va_D A [kX12 h q1 q4 q5 q6 q7 q9 q10 q11 (upd x 0 v_2), aI y q5 154 f, aI y q6 154 g, aI y q11 20 o] := hD
    refine lv_if_eq (tgt := 49) hx hb dX12_outcome_44 (by decide) (fun c_4 => ?_) (fun c_4 => ?_)
    · obtain ⟨hq1, hq2, hq3⟩ := ref0122 e_v_2 c_4
      have hin : vp_in a2 201 := in_vp hq2 (by decide) (by decide)
      refine lv_aload_n hx hb dX12_outcome_49 rfl (lv_at hl 0 rfl) ?_
      refine lv_aload_n hx hb dX12_outcome_50 rfl (lv_at hl 0 rfl) ?_
      refine va_get (D := G) (ci := 10) (v := .ref q5) (C := RX12) (T := TX12) (N := 15) hx hb hts i_X12 hown hK hP 0 rfl rfl 5 (by decide) (hts (.fieldLink RX12 16 "RelayTunerModel" "now" "[I") (by decide +kernel)) (fun _ h9 => h9) rfl dX12_outcome_51 ?_
      refine cl_Hi (wr := [aI y q6 154 g]) (fun u : (Nat → Int32) => [kX12 h q1 q4 q5 q6 q7 q9 q10 q11 (upd x 0 v_2), aI y q5 154 f, aI y q6 154 g, aI y q11 20 u]) [0, 1, 3] [2] [1, 2, 0, 3] (va_runV (As := [.ref q5]) (rest := []) ⟨hx, hb, hml, hown, hts⟩ (c_X12_goodOf l G y h q5 q1 q4 q5 q6 q7 q9 q10 q11 (upd x 0 v_2) f o H.size hg.2.2.2) (cwV 1 hts gX12_outcome_X12_goodOf rfl rfl rfl (by decide +kernel) ⟨Nat.le_of_ble_eq_true rfl, Nat.le_of_ble_eq_true rfl⟩) (PH_V (hP.sub (ws' := [kX12 h q1 q4 q5 q6 q7 q9 q10 q11 (upd x 0 v_2), aI y q5 154 f, aI y q11 20 o]) [0, 1, 3] rfl) hK hN (hD.sub (ws' := [kX12 h q1 q4 q5 q6 q7 q9 q10 q11 (upd x 0 v_2), aI y q5 154 f, aI y q11 20 o]) [0, 1, 3] (by decide) rfl) (ci := 10) (q0 := 0) rfl rfl) rfl rfl hl.1 rfl (lv_room (Nat.le_of_ble_eq_true rfl)) dX12_outcome_54 ⟨Nat.le_of_ble_eq_true rfl, Nat.le_of_ble_eq_true rfl⟩) hP hD hS hA rfl rfl rfl (by decide) rfl (fun _ => rfl) (fun u H locs hP hD hS => ?_)
      obtain ⟨o_5, rfl⟩ : ∃ zq9, zq9 = u := ⟨_, rfl⟩
      have hP : va_P G vwCl [kX12 h q1 q4 q5 q6 q7 q9 q10 q11 (upd x 0 v_2), aI y q5 154 f, aI y q6 154 g, aI y q11 20 o_5] H := hP
      have hD : va_D A [kX12 h q1 q4 q5 q6 q7 q9 q10 q11 (upd x 0 v_2), aI y q5 154 f, aI y q6 154 g, aI y q11 20 o_5] := hD
      have J72_11 : ∀ (o_9 : Nat → Int32) (o_10 : Nat → Int32) (v_7 : Int32) (v_8 : Nat → Int32) (e_v_7 : v_7 = (if (nI (goodP f)) = 0 then (-99999) else (s_X12_outcomeOf_r a1 a2 a3 f))) (e_v_8 : v_8 = (if (nI (goodP f)) = 0 then (upd x 0 v_2) else (s_X12_outcomeOf_w0 a1 a2 (upd x 0 v_2) f))) (H : Heap) (locs : List Loc) (hP : va_P G vwCl [kX12 h q1 q4 q5 q6 q7 q9 q10 q11 v_8, aI y q5 154 f, aI y q6 154 o_9, aI y q11 20 o_10] H) (hD : va_D A [kX12 h q1 q4 q5 q6 q7 q9 q10 q11 v_8, aI y q5 154 f, aI y q6 154 o_9, aI y q11 20 o_10]) (hS : va_S A s.heap H locs) (ls : Array Slot) (hl : lv_has ls 4 []), W p l e (headSpec wsX12_outcome rmX12_outcome).room s m ([.ref h, .int a1, .int a2, .int a3] : List Value).toArray below meth c H locs 0 0 QQ (F0 m 72 ls [.int v_7]) := by
        intro o_9 o_10 v_7 v_8 e_v_7 e_v_8 H locs hP hD hS ls hl
        rw [hQQ]
        exact W.iret hx hb hr (end_Hi ⟨o_9, o_10⟩ hP hD hS (by subst e_v_8; subst e_v_7; subst e_v_2; unfold s_X12_outcome_r; exact (if_pos c_4).symm) (congrArg (fun (z0 : Nat → Int32) => [kX12 h q1 q4 q5 q6 q7 q9 q10 q11 z0, aI y q5 154 f, aI y q6 154 o_9, aI y q11 20 o_10]) (by subst e_v_8; subst e_v_7; subst e_v_2; unfold s_X12_outcome_w0; exact (if_pos c_4).symm))) hS.2.2 dX12_outcome_72
      refine lv_if_ne (tgt := 65) hx hb dX12_outcome_57 (by decide) (fun c_6 => ?_) (fun c_6 => ?_)
      · refine lv_aload_n hx hb dX12_outcome_65 rfl (lv_at hl 0 rfl) ?_
        refine lv_iload_n hx hb dX12_outcome_66 rfl (lv_at hl 1 rfl) ?_
        refine lv_iload_n hx hb dX12_outcome_67 rfl (lv_at hl 2 rfl) ?_
        refine lv_iload_n hx hb dX12_outcome_68 rfl (lv_at hl 3 rfl) ?_
        refine cl_Hi (wr := []) (fun u : (Nat → Int32) × (Nat → Int32) => [kX12 h q1 q4 q5 q6 q7 q9 q10 q11 (s_X12_outcomeOf_w0 a1 a2 (upd x 0 v_2) f), aI y q5 154 f, aI y q6 154 u.1, aI y q11 20 u.2]) [0, 1, 2, 3] [] [0, 1, 2, 3] (va_runV (As := [.int a1, .int a2, .int a3]) (rest := []) ⟨hx, hb, hml, hown, hts⟩ (c_X12_outcomeOf l G y h a1 a2 a3 q1 q4 q5 q6 q7 q9 q10 q11 (upd x 0 v_2) f g o_5 H.size hg (good_ne hg.2.2.2 c_6) hin) (cwV 3 hts gX12_outcome_X12_outcomeOf rfl rfl rfl (by decide +kernel) ⟨Nat.le_of_ble_eq_true rfl, Nat.le_of_ble_eq_true rfl⟩) (PH_V (hP.sub (ws' := [kX12 h q1 q4 q5 q6 q7 q9 q10 q11 (upd x 0 v_2), aI y q5 154 f, aI y q6 154 g, aI y q11 20 o_5]) [0, 1, 2, 3] rfl) hK hN (hD.sub (ws' := [kX12 h q1 q4 q5 q6 q7 q9 q10 q11 (upd x 0 v_2), aI y q5 154 f, aI y q6 154 g, aI y q11 20 o_5]) [0, 1, 2, 3] (by decide) rfl) (ci := 10) (q0 := 0) rfl rfl) rfl rfl hl.1 rfl (lv_room (Nat.le_of_ble_eq_true rfl)) dX12_outcome_69 ⟨Nat.le_of_ble_eq_true rfl, Nat.le_of_ble_eq_true rfl⟩) hP hD hS hA rfl rfl rfl (by decide) rfl (fun _ => rfl) (fun u H locs hP hD hS => ?_)
        obtain ⟨o_12, o_13⟩ := u
        have hP : va_P G vwCl [kX12 h q1 q4 q5 q6 q7 q9 q10 q11 (s_X12_outcomeOf_w0 a1 a2 (upd x 0 v_2) f), aI y q5 154 f, aI y q6 154 o_12, aI y q11 20 o_13] H := hP
        have hD : va_D A [kX12 h q1 q4 q5 q6 q7 q9 q10 q11 (s_X12_outcomeOf_w0 a1 a2 (upd x 0 v_2) f), aI y q5 154 f, aI y q6 154 o_12, aI y q11 20 o_13] := hD
        exact J72_11 _ _ _ _ (if_neg c_6).symm (if_neg c_6).symm H locs hP hD hS ls (lv_sub hl [] rfl)
      · refine lv_ldc (v := (-99999)) hx hb hown (hts (.constant RX12 74 (-99999)) (by decide +kernel)) dX12_outcome_60 ?_
        refine lv_goto (tgt := 72) hx hb dX12_outcome_62 (by decide) ?_
        exact J72_11 _ _ _ _ (if_pos c_6).symm (if_pos c_6).symm H locs hP hD hS ls (lv_sub hl [] rfl)
    · refine lv_iconst (v := 0) hx hb dX12_outcome_47 (by decide) ?_
      rw [hQQ]
      exact W.iret hx hb hr (end_Hi ⟨g, o⟩ hP hD hS (by subst e_v_2; unfold s_X12_outcome_r; exact (if_neg c_4).symm) (congrArg (fun (z0 : Nat → Int32) => [kX12 h q1 q4 q5 q6 q7 q9 q10 q11 z0, aI y q5 154 f, aI y q6 154 g, aI y q11 20 o]) (by subst e_v_2; unfold s_X12_outcome_w0; exact (if_neg c_4).symm))) hS.2.2 dX12_outcome_48
  refine lv_if_ne (tgt := 12) hx hb dX12_outcome_5 (by decide) (fun c_1 => ?_) (fun c_1 => ?_)
  · refine lv_iload_n hx hb dX12_outcome_12 rfl (lv_at hl 2 rfl) ?_
    refine lv_i2l (v := a2.toInt64) hx hb dX12_outcome_13 rfl ?_
    refine lv_lconst (v := 1) hx hb dX12_outcome_14 rfl ?_
    refine lv_ldc2 (v := 200) hx hb hown (hts (.constantLong RX12 157 200) (by decide +kernel)) dX12_outcome_15 ?_
    refine cl_Ri (va_runS (As := [.long a2.toInt64, .long 1, .long 200]) (rest := [.ref h]) ⟨hx, hb, hml, hown, hts⟩ (c_X12_in l G y a2.toInt64 1 200) (va_cwS 3 hts gX12_outcome_X12_in rfl rfl rfl (by decide +kernel) ⟨Nat.le_of_ble_eq_true rfl, Nat.le_of_ble_eq_true rfl⟩) (PR_S pnil hK hN) rfl rfl hl.1 rfl (lv_room (Nat.le_of_ble_eq_true rfl)) dX12_outcome_18 ⟨Nat.le_of_ble_eq_true rfl, Nat.le_of_ble_eq_true rfl⟩) ?_
    refine lv_if_eq (tgt := 36) hx hb dX12_outcome_21 (by decide) (fun c_14 => ?_) (fun c_14 => ?_)
    · refine lv_iconst (v := 2) hx hb dX12_outcome_36 (by decide) ?_
      refine lv_goto (tgt := 41) hx hb dX12_outcome_37 (by decide) ?_
      exact J41_3 _ ((if_neg c_1).trans (if_pos c_14)).symm ls (lv_sub hl [0, 1, 2, 3] rfl)
    · refine lv_iload_n hx hb dX12_outcome_24 rfl (lv_at hl 3 rfl) ?_
      refine lv_i2l (v := a3.toInt64) hx hb dX12_outcome_25 rfl ?_
      refine lv_lconst (v := 0) hx hb dX12_outcome_26 rfl ?_
      refine lv_ldc2 (v := 4) hx hb hown (hts (.constantLong RX12 153 4) (by decide +kernel)) dX12_outcome_27 ?_
      refine cl_Ri (va_runS (As := [.long a3.toInt64, .long 0, .long 4]) (rest := [.ref h]) ⟨hx, hb, hml, hown, hts⟩ (c_X12_in l G y a3.toInt64 0 4) (va_cwS 3 hts gX12_outcome_X12_in rfl rfl rfl (by decide +kernel) ⟨Nat.le_of_ble_eq_true rfl, Nat.le_of_ble_eq_true rfl⟩) (PR_S pnil hK hN) rfl rfl hl.1 rfl (lv_room (Nat.le_of_ble_eq_true rfl)) dX12_outcome_30 ⟨Nat.le_of_ble_eq_true rfl, Nat.le_of_ble_eq_true rfl⟩) ?_
      refine lv_if_ne (tgt := 40) hx hb dX12_outcome_33 (by decide) (fun c_15 => ?_) (fun c_15 => ?_)
      · refine lv_iconst (v := 0) hx hb dX12_outcome_40 (by decide) ?_
        exact J41_3 _ ((if_neg c_1).trans ((if_neg c_14).trans (if_neg c_15))).symm ls (lv_sub hl [0, 1, 2, 3] rfl)
      · refine lv_iconst (v := 2) hx hb dX12_outcome_36 (by decide) ?_
        refine lv_goto (tgt := 41) hx hb dX12_outcome_37 (by decide) ?_
        exact J41_3 _ ((if_neg c_1).trans ((if_neg c_14).trans (if_pos c_15))).symm ls (lv_sub hl [0, 1, 2, 3] rfl)
  · refine lv_iconst (v := 1) hx hb dX12_outcome_8 (by decide) ?_
    refine lv_goto (tgt := 41) hx hb dX12_outcome_9 (by decide) ?_
    exact J41_3 _ (if_pos c_1).symm ls (lv_sub hl [0, 1, 2, 3] rfl)

/-- the rule with the least number, among those from k on; the best one so far and its number -/
def bestS (v : Nat → Int32) : Nat → Nat → Int32 → Int32 → Int32
  | 0, _, b, _ => b
  | r + 1, k, b, l => if b = -99999 then bestS v r (k + 1) (nI k) (v k) else if v k < l then bestS v r (k + 1) (nI k) (v k) else bestS v r (k + 1) b l
theorem best_step {V : Nat → Int32} {k : Nat} {x4 x5 b l z b2 l2 : Int32} (hk : k < 4) (hx : x4 = nI k) (hv : x5 = V k) (ez : z = (if b = (-99999) then 1 else (if l ≤ x5 then 0 else 1))) (eb : b2 = (if z = 0 then b else x4)) (el : l2 = (if z = 0 then l else x5)) : bestS V (4 - (k + 1)) (k + 1) b2 l2 = bestS V (4 - k) k b l := by
  rw [show 4 - k = (4 - (k + 1)) + 1 by omega]
  conv => rhs; simp only [bestS]
  subst hv
  by_cases h1 : b = -99999
  · rw [if_pos h1] at ez
    subst ez
    rw [if_neg (by decide)] at eb el
    rw [if_pos h1, eb, el, hx]
  · rw [if_neg h1] at ez
    by_cases h2 : l ≤ V k
    · rw [if_pos h2] at ez
      subst ez
      rw [if_pos rfl] at eb el
      rw [if_neg h1, if_neg (by rw [Int32.not_lt]; exact h2), eb, el]
    · rw [if_neg h2] at ez
      subst ez
      rw [if_neg (by decide)] at eb el
      rw [if_neg h1, if_pos (by rw [← Int32.not_le]; exact h2), eb, el, hx]
theorem outc_low {a b : Int32} {x f : Nat → Int32} {j : Nat} (h : j < 12) : s_X12_outcomeOf_w0 a b x f j = x j := by
  unfold s_X12_outcomeOf_w0
  rw [upd_ne (by omega), upd_ne (by omega), upd_ne (by omega)]
theorem out_tn {a x : Int32} {k : Nat} {f : Nat → Int32} (hx : x = nI k) : s_X12_outcomeOf_r x a 4 f = s_X12_outcomeOf_r (nI k) a 4 f := by rw [hx]

def s_X12_bestRule_r (a1 : Int32) (f : Nat → Int32) : Int32 := (let v_2 : Int32 := (if (s_X12_in_r a1.toInt64 1 200) = 0 then 1 else 0); (if (s_X12_refused_r v_2) = 0 then (if (nI (goodP f)) ≤ 0 then (-99999) else (bestS (fun k => s_X12_outcomeOf_r (nI k) a1 4 f) 4 0 (-99999) 0)) else 0))
abbrev rmX12_bestRule : Room := ({ frames := 7, cells := 0, slots := 0, locals := 169 } : Room)
set_option maxHeartbeats 4000000 in
set_option maxRecDepth 100000 in
theorem c_X12_bestRule (l : Launch) (G : va_G) (y : Nat → ClassId) (h : Nat) (a1 : Int32) (q1 : Nat) (q4 : Nat) (q5 : Nat) (q6 : Nat) (q7 : Nat) (q9 : Nat) (q10 : Nat) (q11 : Nat) (x : Nat → Int32) (f : Nat → Int32) (g : Nat → Int32) (o : Nat → Int32) (sz : Nat) (hg : TK f) : Met l yX12_bestRule wsX12_bestRule rmX12_bestRule (PH G y [.ref h, .int a1] [kX12 h q1 q4 q5 q6 q7 q9 q10 q11 x, aI y q5 154 f, aI y q6 154 g, aI y q11 20 o] sz) (QHi G (s_X12_bestRule_r a1 f) (fun u : (Nat → Int32) × (Nat → Int32) × (Nat → Int32) => [kX12 h q1 q4 q5 q6 q7 q9 q10 q11 (scX (upd x 0 (if (s_X12_in_r a1.toInt64 1 200) = 0 then 1 else 0)) u.1), aI y q5 154 f, aI y q6 154 u.2.1, aI y q11 20 u.2.2]) (va_A [kX12 h q1 q4 q5 q6 q7 q9 q10 q11 x, aI y q5 154 f, aI y q6 154 g, aI y q11 20 o] sz)) 0 0 (va_A [kX12 h q1 q4 q5 q6 q7 q9 q10 q11 x, aI y q5 154 f, aI y q6 154 g, aI y q11 20 o] sz) := by
  refine Met.ofW (cc := cX12_bestRule) (maxL := 7) (ret := (some .int)) (by decide) rfl ?_
  intro p e s m args below meth c s₁ B hml hv
  obtain ⟨rfl, hsz, hP, ⟨hK, hN⟩, hD0⟩ := hv
  have hx := B.exec
  have hb := B.bytes
  have hr := B.returns
  have hts := atoms_spec (ws := wsX12_bestRule) B.pre
  have hown : s.vm.findClass RX12 = some m.cls := findClass_of_methodNamed B.named
  have hlocks := B.notSynchronized
  have i_X12 : ∀ w ∈ u_ws RX12 TX12 15, w ∈ wsX12_bestRule := by decide +kernel
  subst hsz
  have hD := hD0.self (sz := s.heap.size)
  generalize hAe : va_A [kX12 h q1 q4 q5 q6 q7 q9 q10 q11 x, aI y q5 154 f, aI y q6 154 g, aI y q11 20 o] s.heap.size = A at hD ⊢
  have hA : ∀ q : Nat, s.heap.size ≤ q → A q := fun q h => by rw [← hAe]; exact Or.inr h
  have hS : va_S A s.heap s.heap [] := va_S.rf
  have hP : va_P G vwCl [kX12 h q1 q4 q5 q6 q7 q9 q10 q11 x, aI y q5 154 f, aI y q6 154 g, aI y q11 20 o] s.heap := hP
  have hl := lv_entry ([.ref h, .int a1]) (n := 7) (Nat.le_of_ble_eq_true rfl)
  rw [lg_entry_eq]
  generalize (lg_sl ([.ref h, .int a1]) ++ List.replicate (7 - (lg_sl ([.ref h, .int a1])).length) Slot.unset).toArray = ls at hl ⊢
  have hl : lv_has ls 7 [(0, .ref h), (1, .int a1)] := hl
  obtain ⟨QQ, hQQ⟩ : ∃ zq9, zq9 = MQ below (QHi G (s_X12_bestRule_r a1 f) (fun u : (Nat → Int32) × (Nat → Int32) × (Nat → Int32) => [kX12 h q1 q4 q5 q6 q7 q9 q10 q11 (scX (upd x 0 (if (s_X12_in_r a1.toInt64 1 200) = 0 then 1 else 0)) u.1), aI y q5 154 f, aI y q6 154 u.2.1, aI y q11 20 u.2.2]) A) ([.ref h, .int a1] : List Value).toArray s 0 0 A := ⟨_, rfl⟩
  rw [← hQQ]
  refine lv_aload_n hx hb dX12_bestRule_0 rfl (lv_at hl 0 rfl) ?_
  refine lv_iload_n hx hb dX12_bestRule_1 rfl (lv_at hl 1 rfl) ?_
  refine lv_i2l (v := a1.toInt64) hx hb dX12_bestRule_2 rfl ?_
  refine lv_lconst (v := 1) hx hb dX12_bestRule_3 rfl ?_
  refine lv_ldc2 (v := 200) hx hb hown (hts (.constantLong RX12 157 200) (by decide +kernel)) dX12_bestRule_4 ?_
  refine cl_Ri (va_runS (As := [.long a1.toInt64, .long 1, .long 200]) (rest := [.ref h]) ⟨hx, hb, hml, hown, hts⟩ (c_X12_in l G y a1.toInt64 1 200) (va_cwS 3 hts gX12_bestRule_X12_in rfl rfl rfl (by decide +kernel) ⟨Nat.le_of_ble_eq_true rfl, Nat.le_of_ble_eq_true rfl⟩) (PR_S pnil hK hN) rfl rfl hl.1 rfl (lv_room (Nat.le_of_ble_eq_true rfl)) dX12_bestRule_7 ⟨Nat.le_of_ble_eq_true rfl, Nat.le_of_ble_eq_true rfl⟩) ?_
  have J18_4 : ∀ (v_2 : Int32) (e_v_2 : v_2 = (if (s_X12_in_r a1.toInt64 1 200) = 0 then 1 else 0)) (z_3 : v_2 = 0 ∨ v_2 = 1) (ls : Array Slot) (hl : lv_has ls 7 [(0, .ref h), (1, .int a1)]), W p l e (headSpec wsX12_bestRule rmX12_bestRule).room s m ([.ref h, .int a1] : List Value).toArray below meth c s.heap [] 0 0 QQ (F0 m 18 ls [.int v_2, .ref h]) := by
    intro v_2 e_v_2 z_3 ls hl
    refine cl_Hi (wr := [aI y q5 154 f, aI y q6 154 g, aI y q11 20 o]) (fun _ : Unit => [kX12 h q1 q4 q5 q6 q7 q9 q10 q11 (upd x 0 v_2), aI y q5 154 f, aI y q6 154 g, aI y q11 20 o]) [0] [1, 2, 3] [3, 0, 1, 2] (va_runV (As := [.int v_2]) (rest := []) ⟨hx, hb, hml, hown, hts⟩ (c_X12_refused l G y h v_2 q1 q4 q5 q6 q7 q9 q10 q11 x s.heap.size) (cwV 1 hts gX12_bestRule_X12_refused rfl rfl rfl (by decide +kernel) ⟨Nat.le_of_ble_eq_true rfl, Nat.le_of_ble_eq_true rfl⟩) (PH_V (hP.sub (ws' := [kX12 h q1 q4 q5 q6 q7 q9 q10 q11 x]) [0] rfl) hK hN (hD.sub (ws' := [kX12 h q1 q4 q5 q6 q7 q9 q10 q11 x]) [0] (by decide) rfl) (ci := 10) (q0 := 0) rfl rfl) rfl rfl hl.1 rfl (lv_room (Nat.le_of_ble_eq_true rfl)) dX12_bestRule_18 ⟨Nat.le_of_ble_eq_true rfl, Nat.le_of_ble_eq_true rfl⟩) hP hD hS hA rfl rfl rfl (by decide) rfl (fun _ => rfl) (fun _ H locs hP hD hS => ?_)
    have hP : va_P G vwCl [kX12 h q1 q4 q5 q6 q7 q9 q10 q11 (upd x 0 v_2), aI y q5 154 f, aI y q6 154 g, aI y q11 20 o] H := hP
    have hD : va_D A [kX12 h q1 q4 q5 q6 q7 q9 q10 q11 (upd x 0 v_2), aI y q5 154 f, aI y q6 154 g, aI y q11 20 o] := hD
    refine lv_if_eq (tgt := 26) hx hb dX12_bestRule_21 (by decide) (fun c_5 => ?_) (fun c_5 => ?_)
    · have hin : vp_in a1 201 := in_vp (ref01 e_v_2 c_5) (by decide) (by decide)
      refine lv_ldc (v := (-99999)) hx hb hown (hts (.constant RX12 74 (-99999)) (by decide +kernel)) dX12_bestRule_26 ?_
      refine lv_istore_n (lv' := [(2, .int (-99999)), (0, .ref h), (1, .int a1)]) hx hb dX12_bestRule_28 rfl hl (by decide) rfl (fun ls hl => ?_)
      refine lv_iconst (v := 0) hx hb dX12_bestRule_29 (by decide) ?_
      refine lv_istore_n (lv' := [(3, .int 0), (2, .int (-99999)), (0, .ref h), (1, .int a1)]) hx hb dX12_bestRule_30 rfl hl (by decide) rfl (fun ls hl => ?_)
      refine lv_iconst (v := 0) hx hb dX12_bestRule_31 (by decide) ?_
      refine lv_istore (lv' := [(4, .int 0), (3, .int 0), (2, .int (-99999)), (0, .ref h), (1, .int a1)]) hx hb dX12_bestRule_32 hl (by decide) rfl (fun ls hl => ?_)
      have LOOP34_6 : ∀ (n_7 : Nat) (k0 : Nat) (x2 : Int32) (x3 : Int32) (x4 : Int32) (wx : Nat → Int32) (w : Nat → Int32) (w2 : Nat → Int32) (hwx : ∀ j, j < 12 → wx j = (upd x 0 v_2) j) (hx4 : x4 = nI k0) (hk : k0 ≤ 4) (h0 : k0 = 0 → x2 = -99999) (hg0 : 0 < k0 → ¬ (nI (goodP f)) ≤ 0) (hres : (bestS (fun k => s_X12_outcomeOf_r (nI k) a1 4 f) (4 - k0) k0 x2 x3) = (bestS (fun k => s_X12_outcomeOf_r (nI k) a1 4 f) 4 0 (-99999) 0)) (hn_9 : 4 - k0 < n_7) (H : Heap) (locs : List Loc) (hP : va_P G vwCl [kX12 h q1 q4 q5 q6 q7 q9 q10 q11 wx, aI y q5 154 f, aI y q6 154 w, aI y q11 20 w2] H) (hD : va_D A [kX12 h q1 q4 q5 q6 q7 q9 q10 q11 wx, aI y q5 154 f, aI y q6 154 w, aI y q11 20 w2]) (hS : va_S A s.heap H locs) (ls : Array Slot) (hl : lv_has ls 7 [(4, .int x4), (3, .int x3), (2, .int x2), (0, .ref h), (1, .int a1)]), W p l e (headSpec wsX12_bestRule rmX12_bestRule).room s m ([.ref h, .int a1] : List Value).toArray below meth c H locs 0 0 QQ (F0 m 34 ls []) := by
        intro n_7
        induction n_7 with
        | zero => intro k0 x2 x3 x4 wx w w2 hwx hx4 hk h0 hg0 hres hn_9 H locs hP hD hS ls hl; exact absurd hn_9 (Nat.not_lt_zero _)
        | succ n_7 ih_8 =>
          intro k0 x2 x3 x4 wx w w2 hwx hx4 hk h0 hg0 hres hn_9 H locs hP hD hS ls hl
          refine lv_iload hx hb dX12_bestRule_34 (lv_at hl 0 rfl) ?_
          refine lv_iconst (v := 4) hx hb dX12_bestRule_36 (by decide) ?_
          refine lv_icmp_ge (tgt := 110) hx hb dX12_bestRule_37 (by decide) (fun c_10 => ?_) (fun c_10 => ?_)
          · have hk9 : k0 = 4 := by have := kge (N := 4) hx4 rfl (by omega) (by decide) c_10; omega
            rw [show kX12 h q1 q4 q5 q6 q7 q9 q10 q11 wx = kX12 h q1 q4 q5 q6 q7 q9 q10 q11 (scX (upd x 0 v_2) wx) from scX_eq hwx] at hP hD
            refine lv_iload_n hx hb dX12_bestRule_110 rfl (lv_at hl 2 rfl) ?_
            refine rw_i (x' := (if (nI (goodP f)) ≤ 0 then (-99999) else (bestS (fun k => s_X12_outcomeOf_r (nI k) a1 4 f) 4 0 (-99999) 0))) (by rw [if_neg (hg0 (by omega)), ← hres, hk9]; rfl) ?_
            rw [hQQ]
            exact W.iret hx hb hr (end_Hi ⟨wx, w, w2⟩ hP hD hS (by subst e_v_2; unfold s_X12_bestRule_r; exact (if_pos c_5).symm) (by subst e_v_2; exact rfl)) hS.2.2 dX12_bestRule_111
          · have hk9 : k0 < 4 := klt hx4 rfl (by omega) (by decide) c_10
            refine lv_aload_n hx hb dX12_bestRule_40 rfl (lv_at hl 3 rfl) ?_
            refine lv_aload_n hx hb dX12_bestRule_41 rfl (lv_at hl 3 rfl) ?_
            refine va_get (D := G) (ci := 10) (v := .ref q5) (C := RX12) (T := TX12) (N := 15) hx hb hts i_X12 hown hK hP 0 rfl rfl 5 (by decide) (hts (.fieldLink RX12 16 "RelayTunerModel" "now" "[I") (by decide +kernel)) (fun _ h9 => h9) rfl dX12_bestRule_42 ?_
            refine cl_Hi (wr := [aI y q6 154 w]) (fun u : (Nat → Int32) => [kX12 h q1 q4 q5 q6 q7 q9 q10 q11 wx, aI y q5 154 f, aI y q6 154 w, aI y q11 20 u]) [0, 1, 3] [2] [1, 2, 0, 3] (va_runV (As := [.ref q5]) (rest := []) ⟨hx, hb, hml, hown, hts⟩ (c_X12_goodOf l G y h q5 q1 q4 q5 q6 q7 q9 q10 q11 wx f w2 H.size hg.2.2.2) (cwV 1 hts gX12_bestRule_X12_goodOf rfl rfl rfl (by decide +kernel) ⟨Nat.le_of_ble_eq_true rfl, Nat.le_of_ble_eq_true rfl⟩) (PH_V (hP.sub (ws' := [kX12 h q1 q4 q5 q6 q7 q9 q10 q11 wx, aI y q5 154 f, aI y q11 20 w2]) [0, 1, 3] rfl) hK hN (hD.sub (ws' := [kX12 h q1 q4 q5 q6 q7 q9 q10 q11 wx, aI y q5 154 f, aI y q11 20 w2]) [0, 1, 3] (by decide) rfl) (ci := 10) (q0 := 0) rfl rfl) rfl rfl hl.1 rfl (lv_room (Nat.le_of_ble_eq_true rfl)) dX12_bestRule_45 ⟨Nat.le_of_ble_eq_true rfl, Nat.le_of_ble_eq_true rfl⟩) hP hD hS hA rfl rfl rfl (by decide) rfl (fun _ => rfl) (fun u H locs hP hD hS => ?_)
            obtain ⟨o_11, rfl⟩ : ∃ zq9, zq9 = u := ⟨_, rfl⟩
            have hP : va_P G vwCl [kX12 h q1 q4 q5 q6 q7 q9 q10 q11 wx, aI y q5 154 f, aI y q6 154 w, aI y q11 20 o_11] H := hP
            have hD : va_D A [kX12 h q1 q4 q5 q6 q7 q9 q10 q11 wx, aI y q5 154 f, aI y q6 154 w, aI y q11 20 o_11] := hD
            refine lv_if_le (tgt := 110) hx hb dX12_bestRule_48 (by decide) (fun c_12 => ?_) (fun c_12 => ?_)
            · rw [show kX12 h q1 q4 q5 q6 q7 q9 q10 q11 wx = kX12 h q1 q4 q5 q6 q7 q9 q10 q11 (scX (upd x 0 v_2) wx) from scX_eq hwx] at hP hD
              refine lv_iload_n hx hb dX12_bestRule_110 rfl (lv_at hl 2 rfl) ?_
              refine rw_i (x' := (if (nI (goodP f)) ≤ 0 then (-99999) else (bestS (fun k => s_X12_outcomeOf_r (nI k) a1 4 f) 4 0 (-99999) 0))) ((h0 ((Nat.eq_zero_or_pos k0).elim id (fun q => absurd c_12 (hg0 q)))).trans (if_pos c_12).symm) ?_
              rw [hQQ]
              exact W.iret hx hb hr (end_Hi ⟨wx, w, o_11⟩ hP hD hS (by subst e_v_2; unfold s_X12_bestRule_r; exact (if_pos c_5).symm) (by subst e_v_2; exact rfl)) hS.2.2 dX12_bestRule_111
            · refine lv_aload_n hx hb dX12_bestRule_51 rfl (lv_at hl 3 rfl) ?_
              refine lv_iload hx hb dX12_bestRule_52 (lv_at hl 0 rfl) ?_
              refine lv_iload_n hx hb dX12_bestRule_54 rfl (lv_at hl 4 rfl) ?_
              refine lv_iconst (v := 4) hx hb dX12_bestRule_55 (by decide) ?_
              refine cl_Hi (wr := []) (fun u : (Nat → Int32) × (Nat → Int32) => [kX12 h q1 q4 q5 q6 q7 q9 q10 q11 (s_X12_outcomeOf_w0 x4 a1 wx f), aI y q5 154 f, aI y q6 154 u.1, aI y q11 20 u.2]) [0, 1, 2, 3] [] [0, 1, 2, 3] (va_runV (As := [.int x4, .int a1, .int 4]) (rest := []) ⟨hx, hb, hml, hown, hts⟩ (c_X12_outcomeOf l G y h x4 a1 4 q1 q4 q5 q6 q7 q9 q10 q11 wx f w o_11 H.size hg (fun h9 => c_12 (by rw [h9]; decide)) hin) (cwV 3 hts gX12_bestRule_X12_outcomeOf rfl rfl rfl (by decide +kernel) ⟨Nat.le_of_ble_eq_true rfl, Nat.le_of_ble_eq_true rfl⟩) (PH_V (hP.sub (ws' := [kX12 h q1 q4 q5 q6 q7 q9 q10 q11 wx, aI y q5 154 f, aI y q6 154 w, aI y q11 20 o_11]) [0, 1, 2, 3] rfl) hK hN (hD.sub (ws' := [kX12 h q1 q4 q5 q6 q7 q9 q10 q11 wx, aI y q5 154 f, aI y q6 154 w, aI y q11 20 o_11]) [0, 1, 2, 3] (by decide) rfl) (ci := 10) (q0 := 0) rfl rfl) rfl rfl hl.1 rfl (lv_room (Nat.le_of_ble_eq_true rfl)) dX12_bestRule_56 ⟨Nat.le_of_ble_eq_true rfl, Nat.le_of_ble_eq_true rfl⟩) hP hD hS hA rfl rfl rfl (by decide) rfl (fun _ => rfl) (fun u H locs hP hD hS => ?_)
              obtain ⟨o_13, o_14⟩ := u
              have hP : va_P G vwCl [kX12 h q1 q4 q5 q6 q7 q9 q10 q11 (s_X12_outcomeOf_w0 x4 a1 wx f), aI y q5 154 f, aI y q6 154 o_13, aI y q11 20 o_14] H := hP
              have hD : va_D A [kX12 h q1 q4 q5 q6 q7 q9 q10 q11 (s_X12_outcomeOf_w0 x4 a1 wx f), aI y q5 154 f, aI y q6 154 o_13, aI y q11 20 o_14] := hD
              have hx5 : (s_X12_outcomeOf_r x4 a1 4 f) = (fun k => s_X12_outcomeOf_r (nI k) a1 4 f) k0 := out_tn hx4
              refine lv_istore (lv' := [(5, .int (s_X12_outcomeOf_r x4 a1 4 f)), (4, .int x4), (3, .int x3), (2, .int x2), (0, .ref h), (1, .int a1)]) hx hb dX12_bestRule_59 hl (by decide) rfl (fun ls hl => ?_)
              refine lv_iload_n hx hb dX12_bestRule_61 rfl (lv_at hl 3 rfl) ?_
              refine lv_ldc (v := (-99999)) hx hb hown (hts (.constant RX12 74 (-99999)) (by decide +kernel)) dX12_bestRule_62 ?_
              have J78_18 : ∀ (v_16 : Int32) (e_v_16 : v_16 = (if x2 = (-99999) then 1 else (if x3 ≤ (s_X12_outcomeOf_r x4 a1 4 f) then 0 else 1))) (z_17 : v_16 = 0 ∨ v_16 = 1) (ls : Array Slot) (hl : lv_has ls 7 [(5, .int (s_X12_outcomeOf_r x4 a1 4 f)), (4, .int x4), (3, .int x3), (2, .int x2), (0, .ref h), (1, .int a1)]), W p l e (headSpec wsX12_bestRule rmX12_bestRule).room s m ([.ref h, .int a1] : List Value).toArray below meth c H locs 0 0 QQ (F0 m 78 ls [.int v_16]) := by
                intro v_16 e_v_16 z_17 ls hl
                refine lv_istore (lv' := [(6, .int v_16), (5, .int (s_X12_outcomeOf_r x4 a1 4 f)), (4, .int x4), (3, .int x3), (2, .int x2), (0, .ref h), (1, .int a1)]) hx hb dX12_bestRule_78 hl (by decide) rfl (fun ls hl => ?_)
                refine lv_iload hx hb dX12_bestRule_80 (lv_at hl 0 rfl) ?_
                have J91_21 : ∀ (v_20 : Int32) (e_v_20 : v_20 = (if v_16 = 0 then x2 else x4)) (ls : Array Slot) (hl : lv_has ls 7 [(6, .int v_16), (5, .int (s_X12_outcomeOf_r x4 a1 4 f)), (4, .int x4), (3, .int x3), (0, .ref h), (1, .int a1)]), W p l e (headSpec wsX12_bestRule rmX12_bestRule).room s m ([.ref h, .int a1] : List Value).toArray below meth c H locs 0 0 QQ (F0 m 91 ls [.int v_20]) := by
                  intro v_20 e_v_20 ls hl
                  refine lv_istore_n (lv' := [(2, .int v_20), (6, .int v_16), (5, .int (s_X12_outcomeOf_r x4 a1 4 f)), (4, .int x4), (3, .int x3), (0, .ref h), (1, .int a1)]) hx hb dX12_bestRule_91 rfl hl (by decide) rfl (fun ls hl => ?_)
                  refine lv_iload hx hb dX12_bestRule_92 (lv_at hl 1 rfl) ?_
                  have J103_24 : ∀ (v_23 : Int32) (e_v_23 : v_23 = (if v_16 = 0 then x3 else (s_X12_outcomeOf_r x4 a1 4 f))) (ls : Array Slot) (hl : lv_has ls 7 [(2, .int v_20), (4, .int x4), (0, .ref h), (1, .int a1)]), W p l e (headSpec wsX12_bestRule rmX12_bestRule).room s m ([.ref h, .int a1] : List Value).toArray below meth c H locs 0 0 QQ (F0 m 103 ls [.int v_23]) := by
                    intro v_23 e_v_23 ls hl
                    refine lv_istore_n (lv' := [(3, .int v_23), (2, .int v_20), (4, .int x4), (0, .ref h), (1, .int a1)]) hx hb dX12_bestRule_103 rfl hl (by decide) rfl (fun ls hl => ?_)
                    refine lv_iinc (v := (x4 + 1)) (lv' := [(4, .int (x4 + 1)), (3, .int v_23), (2, .int v_20), (0, .ref h), (1, .int a1)]) hx hb dX12_bestRule_104 hl (k := 2) rfl (by first | rfl | decide) (by decide) rfl (fun ls hl => ?_)
                    refine lv_goto (tgt := 34) hx hb dX12_bestRule_107 (by decide) ?_
                    exact ih_8 (k0 + 1) v_20 v_23 (x4 + 1) (s_X12_outcomeOf_w0 x4 a1 wx f) o_13 o_14 (fun j h9 => (outc_low h9).trans (hwx j h9)) (by rw [hx4]; exact nI_1 k0) (by omega) (fun h => absurd h (by omega)) (fun _ => c_12) ((best_step hk9 hx4 hx5 e_v_16 e_v_20 e_v_23).trans hres) (by omega) H locs hP hD hS ls (lv_sub hl [0, 1, 2, 3, 4] rfl)
                  refine lv_if_eq (tgt := 102) hx hb dX12_bestRule_94 (by decide) (fun c_22 => ?_) (fun c_22 => ?_)
                  · refine lv_iload_n hx hb dX12_bestRule_102 rfl (lv_at hl 4 rfl) ?_
                    exact J103_24 _ (if_pos c_22).symm ls (lv_sub hl [0, 3, 5, 6] rfl)
                  · refine lv_iload hx hb dX12_bestRule_97 (lv_at hl 2 rfl) ?_
                    refine lv_goto (tgt := 103) hx hb dX12_bestRule_99 (by decide) ?_
                    exact J103_24 _ (if_neg c_22).symm ls (lv_sub hl [0, 3, 5, 6] rfl)
                refine lv_if_eq (tgt := 90) hx hb dX12_bestRule_82 (by decide) (fun c_19 => ?_) (fun c_19 => ?_)
                · refine lv_iload_n hx hb dX12_bestRule_90 rfl (lv_at hl 4 rfl) ?_
                  exact J91_21 _ (if_pos c_19).symm ls (lv_sub hl [0, 1, 2, 3, 5, 6] rfl)
                · refine lv_iload hx hb dX12_bestRule_85 (lv_at hl 2 rfl) ?_
                  refine lv_goto (tgt := 91) hx hb dX12_bestRule_87 (by decide) ?_
                  exact J91_21 _ (if_neg c_19).symm ls (lv_sub hl [0, 1, 2, 3, 5, 6] rfl)
              refine lv_icmp_eq (tgt := 73) hx hb dX12_bestRule_64 (by decide) (fun c_15 => ?_) (fun c_15 => ?_)
              · refine lv_iconst (v := 1) hx hb dX12_bestRule_73 (by decide) ?_
                refine lv_goto (tgt := 78) hx hb dX12_bestRule_74 (by decide) ?_
                exact J78_18 _ (if_pos c_15).symm (Or.inr rfl) ls (lv_sub hl [0, 1, 2, 3, 4, 5] rfl)
              · refine lv_iload hx hb dX12_bestRule_67 (lv_at hl 0 rfl) ?_
                refine lv_iload_n hx hb dX12_bestRule_69 rfl (lv_at hl 2 rfl) ?_
                refine lv_icmp_ge (tgt := 77) hx hb dX12_bestRule_70 (by decide) (fun c_25 => ?_) (fun c_25 => ?_)
                · refine lv_iconst (v := 0) hx hb dX12_bestRule_77 (by decide) ?_
                  exact J78_18 _ ((if_neg c_15).trans (if_pos c_25)).symm (Or.inl rfl) ls (lv_sub hl [0, 1, 2, 3, 4, 5] rfl)
                · refine lv_iconst (v := 1) hx hb dX12_bestRule_73 (by decide) ?_
                  refine lv_goto (tgt := 78) hx hb dX12_bestRule_74 (by decide) ?_
                  exact J78_18 _ ((if_neg c_15).trans (if_neg c_25)).symm (Or.inr rfl) ls (lv_sub hl [0, 1, 2, 3, 4, 5] rfl)
      exact LOOP34_6 (4 - 0 + 1) 0 (-99999) 0 0 (upd x 0 v_2) g o (fun _ _ => rfl) rfl (by omega) (fun _ => rfl) (fun h => absurd h (Nat.lt_irrefl 0)) rfl (Nat.lt_succ_self _) H locs hP hD hS ls (lv_sub hl [0, 1, 2, 3, 4] rfl)
    · refine lv_iconst (v := 0) hx hb dX12_bestRule_24 (by decide) ?_
      rw [hQQ]
      exact W.iret hx hb hr (end_Hi ⟨(upd x 0 v_2), g, o⟩ hP hD hS (by subst e_v_2; unfold s_X12_bestRule_r; exact (if_neg c_5).symm) (by subst e_v_2; exact rfl)) hS.2.2 dX12_bestRule_25
  refine lv_if_eq (tgt := 17) hx hb dX12_bestRule_10 (by decide) (fun c_1 => ?_) (fun c_1 => ?_)
  · refine lv_iconst (v := 1) hx hb dX12_bestRule_17 (by decide) ?_
    exact J18_4 _ (if_pos c_1).symm (Or.inr rfl) ls (lv_sub hl [0, 1] rfl)
  · refine lv_iconst (v := 0) hx hb dX12_bestRule_13 (by decide) ?_
    refine lv_goto (tgt := 18) hx hb dX12_bestRule_14 (by decide) ?_
    exact J18_4 _ (if_neg c_1).symm (Or.inl rfl) ls (lv_sub hl [0, 1] rfl)

/-- behind which tick the temperature settles, from tick k on; s: the answer so far -/
def setS (T : Nat → Nat → Int32) (a : Int32) : Nat → Nat → Int32 → Int32
  | 0, _, s => s
  | r + 1, k, s => if sizeG (T k 5 - T k 12) ≤ a then setS T a r (k + 1) (if s = -99999 then nI k else s) else setS T a r (k + 1) (-99999)
theorem set_step {w f : Nat → Int32} {a : Int32} {k : Nat} {x3 s z s2 : Int32} (hk : k < 201) (hw : w = itF s_X12_tickOn_w0 k f) (hx : x3 = nI k) (ez : z = (if a < (s_X12_size_r ((w 5) - (w 12))) then 0 else 1)) (es : s2 = (if z = 0 then (-99999) else (if s = (-99999) then x3 else s))) : setS (fun k => itF s_X12_tickOn_w0 k f) a (201 - (k + 1)) (k + 1) s2 = setS (fun k => itF s_X12_tickOn_w0 k f) a (201 - k) k s := by
  rw [show 201 - k = (201 - (k + 1)) + 1 by omega]
  conv => rhs; simp only [setS]
  rw [size_eq, hw] at ez
  by_cases h1 : sizeG (itF s_X12_tickOn_w0 k f 5 - itF s_X12_tickOn_w0 k f 12) ≤ a
  · rw [if_neg (by rw [Int32.not_lt]; exact h1)] at ez
    subst ez
    rw [if_neg (by decide), hx] at es
    rw [if_pos h1, es]
  · rw [if_pos (by rw [← Int32.not_le]; exact h1)] at ez
    subst ez
    rw [if_pos rfl] at es
    rw [if_neg h1, es]

def s_X12_settlesAfter_r (a1 : Int32) (f : Nat → Int32) : Int32 := (let v_2 : Int32 := (if (s_X12_in_r a1.toInt64 0 99) = 0 then 1 else 0); (if (s_X12_refused_r v_2) = 0 then (setS (fun k => itF s_X12_tickOn_w0 k f) a1 201 0 (-99999)) else 0))
def s_X12_settlesAfter_w0 (a1 : Int32) (x : Nat → Int32) : Nat → Int32 := (let v_2 : Int32 := (if (s_X12_in_r a1.toInt64 0 99) = 0 then 1 else 0); (upd x 0 v_2))
abbrev rmX12_settlesAfter : Room := ({ frames := 4, cells := 0, slots := 0, locals := 87 } : Room)
set_option maxHeartbeats 4000000 in
set_option maxRecDepth 100000 in
theorem c_X12_settlesAfter (l : Launch) (G : va_G) (y : Nat → ClassId) (h : Nat) (a1 : Int32) (q1 : Nat) (q4 : Nat) (q5 : Nat) (q6 : Nat) (q7 : Nat) (q9 : Nat) (q10 : Nat) (q11 : Nat) (x : Nat → Int32) (f : Nat → Int32) (g : Nat → Int32) (sz : Nat) (hg : TK f) : Met l yX12_settlesAfter wsX12_settlesAfter rmX12_settlesAfter (PH G y [.ref h, .int a1] [kX12 h q1 q4 q5 q6 q7 q9 q10 q11 x, aI y q5 154 f, aI y q6 154 g] sz) (QHi G (s_X12_settlesAfter_r a1 f) (fun u : (Nat → Int32) => [kX12 h q1 q4 q5 q6 q7 q9 q10 q11 (s_X12_settlesAfter_w0 a1 x), aI y q5 154 f, aI y q6 154 u]) (va_A [kX12 h q1 q4 q5 q6 q7 q9 q10 q11 x, aI y q5 154 f, aI y q6 154 g] sz)) 0 0 (va_A [kX12 h q1 q4 q5 q6 q7 q9 q10 q11 x, aI y q5 154 f, aI y q6 154 g] sz) := by
  refine Met.ofW (cc := cX12_settlesAfter) (maxL := 5) (ret := (some .int)) (by decide) rfl ?_
  intro p e s m args below meth c s₁ B hml hv
  obtain ⟨rfl, hsz, hP, ⟨hK, hN⟩, hD0⟩ := hv
  have hx := B.exec
  have hb := B.bytes
  have hr := B.returns
  have hts := atoms_spec (ws := wsX12_settlesAfter) B.pre
  have hown : s.vm.findClass RX12 = some m.cls := findClass_of_methodNamed B.named
  have hlocks := B.notSynchronized
  have i_X12 : ∀ w ∈ u_ws RX12 TX12 15, w ∈ wsX12_settlesAfter := by decide +kernel
  subst hsz
  have hD := hD0.self (sz := s.heap.size)
  generalize hAe : va_A [kX12 h q1 q4 q5 q6 q7 q9 q10 q11 x, aI y q5 154 f, aI y q6 154 g] s.heap.size = A at hD ⊢
  have hA : ∀ q : Nat, s.heap.size ≤ q → A q := fun q h => by rw [← hAe]; exact Or.inr h
  have hS : va_S A s.heap s.heap [] := va_S.rf
  have hP : va_P G vwCl [kX12 h q1 q4 q5 q6 q7 q9 q10 q11 x, aI y q5 154 f, aI y q6 154 g] s.heap := hP
  have hl := lv_entry ([.ref h, .int a1]) (n := 5) (Nat.le_of_ble_eq_true rfl)
  rw [lg_entry_eq]
  generalize (lg_sl ([.ref h, .int a1]) ++ List.replicate (5 - (lg_sl ([.ref h, .int a1])).length) Slot.unset).toArray = ls at hl ⊢
  have hl : lv_has ls 5 [(0, .ref h), (1, .int a1)] := hl
  obtain ⟨QQ, hQQ⟩ : ∃ zq9, zq9 = MQ below (QHi G (s_X12_settlesAfter_r a1 f) (fun u : (Nat → Int32) => [kX12 h q1 q4 q5 q6 q7 q9 q10 q11 (s_X12_settlesAfter_w0 a1 x), aI y q5 154 f, aI y q6 154 u]) A) ([.ref h, .int a1] : List Value).toArray s 0 0 A := ⟨_, rfl⟩
  rw [← hQQ]
  refine lv_aload_n hx hb dX12_settlesAfter_0 rfl (lv_at hl 0 rfl) ?_
  refine lv_iload_n hx hb dX12_settlesAfter_1 rfl (lv_at hl 1 rfl) ?_
  refine lv_i2l (v := a1.toInt64) hx hb dX12_settlesAfter_2 rfl ?_
  refine lv_lconst (v := 0) hx hb dX12_settlesAfter_3 rfl ?_
  refine lv_ldc2 (v := 99) hx hb hown (hts (.constantLong RX12 174 99) (by decide +kernel)) dX12_settlesAfter_4 ?_
  refine cl_Ri (va_runS (As := [.long a1.toInt64, .long 0, .long 99]) (rest := [.ref h]) ⟨hx, hb, hml, hown, hts⟩ (c_X12_in l G y a1.toInt64 0 99) (va_cwS 3 hts gX12_settlesAfter_X12_in rfl rfl rfl (by decide +kernel) ⟨Nat.le_of_ble_eq_true rfl, Nat.le_of_ble_eq_true rfl⟩) (PR_S pnil hK hN) rfl rfl hl.1 rfl (lv_room (Nat.le_of_ble_eq_true rfl)) dX12_settlesAfter_7 ⟨Nat.le_of_ble_eq_true rfl, Nat.le_of_ble_eq_true rfl⟩) ?_
  have J18_4 : ∀ (v_2 : Int32) (e_v_2 : v_2 = (if (s_X12_in_r a1.toInt64 0 99) = 0 then 1 else 0)) (z_3 : v_2 = 0 ∨ v_2 = 1) (ls : Array Slot) (hl : lv_has ls 5 [(0, .ref h), (1, .int a1)]), W p l e (headSpec wsX12_settlesAfter rmX12_settlesAfter).room s m ([.ref h, .int a1] : List Value).toArray below meth c s.heap [] 0 0 QQ (F0 m 18 ls [.int v_2, .ref h]) := by
    intro v_2 e_v_2 z_3 ls hl
    refine cl_Hi (wr := [aI y q5 154 f, aI y q6 154 g]) (fun _ : Unit => [kX12 h q1 q4 q5 q6 q7 q9 q10 q11 (upd x 0 v_2), aI y q5 154 f, aI y q6 154 g]) [0] [1, 2] [2, 0, 1] (va_runV (As := [.int v_2]) (rest := []) ⟨hx, hb, hml, hown, hts⟩ (c_X12_refused l G y h v_2 q1 q4 q5 q6 q7 q9 q10 q11 x s.heap.size) (cwV 1 hts gX12_settlesAfter_X12_refused rfl rfl rfl (by decide +kernel) ⟨Nat.le_of_ble_eq_true rfl, Nat.le_of_ble_eq_true rfl⟩) (PH_V (hP.sub (ws' := [kX12 h q1 q4 q5 q6 q7 q9 q10 q11 x]) [0] rfl) hK hN (hD.sub (ws' := [kX12 h q1 q4 q5 q6 q7 q9 q10 q11 x]) [0] (by decide) rfl) (ci := 10) (q0 := 0) rfl rfl) rfl rfl hl.1 rfl (lv_room (Nat.le_of_ble_eq_true rfl)) dX12_settlesAfter_18 ⟨Nat.le_of_ble_eq_true rfl, Nat.le_of_ble_eq_true rfl⟩) hP hD hS hA rfl rfl rfl (by decide) rfl (fun _ => rfl) (fun _ H locs hP hD hS => ?_)
    have hP : va_P G vwCl [kX12 h q1 q4 q5 q6 q7 q9 q10 q11 (upd x 0 v_2), aI y q5 154 f, aI y q6 154 g] H := hP
    have hD : va_D A [kX12 h q1 q4 q5 q6 q7 q9 q10 q11 (upd x 0 v_2), aI y q5 154 f, aI y q6 154 g] := hD
    refine lv_if_eq (tgt := 26) hx hb dX12_settlesAfter_21 (by decide) (fun c_5 => ?_) (fun c_5 => ?_)
    · refine lv_aload_n hx hb dX12_settlesAfter_26 rfl (lv_at hl 0 rfl) ?_
      refine va_get (D := G) (ci := 10) (v := .ref q5) (C := RX12) (T := TX12) (N := 15) hx hb hts i_X12 hown hK hP 0 rfl rfl 5 (by decide) (hts (.fieldLink RX12 16 "RelayTunerModel" "now" "[I") (by decide +kernel)) (fun _ h9 => h9) rfl dX12_settlesAfter_27 ?_
      refine lv_iconst (v := 0) hx hb dX12_settlesAfter_30 (by decide) ?_
      refine lv_aload_n hx hb dX12_settlesAfter_31 rfl (lv_at hl 0 rfl) ?_
      refine va_get (D := G) (ci := 10) (v := .ref q6) (C := RX12) (T := TX12) (N := 15) hx hb hts i_X12 hown hK hP 0 rfl rfl 6 (by decide) (hts (.fieldLink RX12 19 "RelayTunerModel" "trial" "[I") (by decide +kernel)) (fun _ h9 => h9) rfl dX12_settlesAfter_32 ?_
      refine lv_iconst (v := 0) hx hb dX12_settlesAfter_35 (by decide) ?_
      refine cl_Hv (wr := [kX12 h q1 q4 q5 q6 q7 q9 q10 q11 (upd x 0 v_2)]) (fun _ : Unit => [kX12 h q1 q4 q5 q6 q7 q9 q10 q11 (upd x 0 v_2), aI y q5 154 f, aI y q6 154 (va_cpy f g 0 0 154)]) [1, 2] [0] [0, 1, 2] (va_runS (As := [.ref q5, .int 0, .ref q6, .int 0]) (rest := []) ⟨hx, hb, hml, hown, hts⟩ (c_X12_copyPage l G y q5 0 q6 0 f g 0 0 154 154 H.size rfl (by decide) (by decide) rfl (by decide) (by decide)) (va_cwS 4 hts gX12_settlesAfter_X12_copyPage rfl rfl rfl (by decide +kernel) ⟨Nat.le_of_ble_eq_true rfl, Nat.le_of_ble_eq_true rfl⟩) (PH_S (hP.sub (ws' := [aI y q5 154 f, aI y q6 154 g]) [1, 2] rfl) hK hN (hD.sub (ws' := [aI y q5 154 f, aI y q6 154 g]) [1, 2] (by decide) rfl)) rfl rfl hl.1 rfl (lv_room (Nat.le_of_ble_eq_true rfl)) dX12_settlesAfter_36 ⟨Nat.le_of_ble_eq_true rfl, Nat.le_of_ble_eq_true rfl⟩) hP hD hS hA rfl rfl rfl (by decide) rfl (fun _ => rfl) (fun _ H locs hP hD hS => ?_)
      have hP : va_P G vwCl [kX12 h q1 q4 q5 q6 q7 q9 q10 q11 (upd x 0 v_2), aI y q5 154 f, aI y q6 154 (va_cpy f g 0 0 154)] H := hP
      have hD : va_D A [kX12 h q1 q4 q5 q6 q7 q9 q10 q11 (upd x 0 v_2), aI y q5 154 f, aI y q6 154 (va_cpy f g 0 0 154)] := hD
      have hD := va_D.set (p := 2) (e := (aI y q6 154 f).2) hD rfl
      have hP := alike1 (i := 2) (g := f) hP rfl (fun j hj => cpy_all hj)
      have hP : va_P G vwCl [kX12 h q1 q4 q5 q6 q7 q9 q10 q11 (upd x 0 v_2), aI y q5 154 f, aI y q6 154 f] H := hP
      have hD : va_D A [kX12 h q1 q4 q5 q6 q7 q9 q10 q11 (upd x 0 v_2), aI y q5 154 f, aI y q6 154 f] := hD
      refine lv_ldc (v := (-99999)) hx hb hown (hts (.constant RX12 74 (-99999)) (by decide +kernel)) dX12_settlesAfter_39 ?_
      refine lv_istore_n (lv' := [(2, .int (-99999)), (0, .ref h), (1, .int a1)]) hx hb dX12_settlesAfter_41 rfl hl (by decide) rfl (fun ls hl => ?_)
      refine lv_iconst (v := 0) hx hb dX12_settlesAfter_42 (by decide) ?_
      refine lv_istore_n (lv' := [(3, .int 0), (2, .int (-99999)), (0, .ref h), (1, .int a1)]) hx hb dX12_settlesAfter_43 rfl hl (by decide) rfl (fun ls hl => ?_)
      have LOOP44_6 : ∀ (n_7 : Nat) (k0 : Nat) (x2 : Int32) (x3 : Int32) (w : Nat → Int32) (hx3 : x3 = nI k0) (hk : k0 ≤ 201) (hw : w = itF s_X12_tickOn_w0 k0 f) (hres : (setS (fun k => itF s_X12_tickOn_w0 k f) a1 (201 - k0) k0 x2) = (setS (fun k => itF s_X12_tickOn_w0 k f) a1 201 0 (-99999))) (hn_9 : 201 - k0 < n_7) (H : Heap) (locs : List Loc) (hP : va_P G vwCl [kX12 h q1 q4 q5 q6 q7 q9 q10 q11 (upd x 0 v_2), aI y q5 154 f, aI y q6 154 w] H) (hD : va_D A [kX12 h q1 q4 q5 q6 q7 q9 q10 q11 (upd x 0 v_2), aI y q5 154 f, aI y q6 154 w]) (hS : va_S A s.heap H locs) (ls : Array Slot) (hl : lv_has ls 5 [(3, .int x3), (2, .int x2), (0, .ref h), (1, .int a1)]), W p l e (headSpec wsX12_settlesAfter rmX12_settlesAfter).room s m ([.ref h, .int a1] : List Value).toArray below meth c H locs 0 0 QQ (F0 m 44 ls []) := by
        intro n_7
        induction n_7 with
        | zero => intro k0 x2 x3 w hx3 hk hw hres hn_9 H locs hP hD hS ls hl; exact absurd hn_9 (Nat.not_lt_zero _)
        | succ n_7 ih_8 =>
          intro k0 x2 x3 w hx3 hk hw hres hn_9 H locs hP hD hS ls hl
          refine lv_iload_n hx hb dX12_settlesAfter_44 rfl (lv_at hl 0 rfl) ?_
          refine lv_sipush (v := 200) hx hb dX12_settlesAfter_45 (by decide) ?_
          refine lv_icmp_gt (tgt := 114) hx hb dX12_settlesAfter_48 (by decide) (fun c_10 => ?_) (fun c_10 => ?_)
          · have hk9 : k0 = 201 := by have := kgt (N := 200) hx3 (by omega) (by decide) c_10; omega
            refine lv_iload_n hx hb dX12_settlesAfter_114 rfl (lv_at hl 1 rfl) ?_
            refine rw_i (x' := (setS (fun k => itF s_X12_tickOn_w0 k f) a1 201 0 (-99999))) (by rw [← hres, hk9]; rfl) ?_
            rw [hQQ]
            exact W.iret hx hb hr (end_Hi w hP hD hS (by subst e_v_2; unfold s_X12_settlesAfter_r; exact (if_pos c_5).symm) (congrArg (fun (z0 : Nat → Int32) => [kX12 h q1 q4 q5 q6 q7 q9 q10 q11 z0, aI y q5 154 f, aI y q6 154 w]) (by subst e_v_2; unfold s_X12_settlesAfter_w0; exact rfl))) hS.2.2 dX12_settlesAfter_115
          · have hk9 : k0 < 201 := kle hx3 (by omega) (by decide) c_10
            obtain ⟨ht1, ht2, ht3, ht4⟩ : TK w := by rw [hw]; exact it_TK hg k0
            refine lv_aload_n hx hb dX12_settlesAfter_51 rfl (lv_at hl 2 rfl) ?_
            refine va_get (D := G) (ci := 10) (v := .ref q6) (C := RX12) (T := TX12) (N := 15) hx hb hts i_X12 hown hK hP 0 rfl rfl 6 (by decide) (hts (.fieldLink RX12 19 "RelayTunerModel" "trial" "[I") (by decide +kernel)) (fun _ h9 => h9) rfl dX12_settlesAfter_52 ?_
            refine lv_iconst (v := 5) hx hb dX12_settlesAfter_55 (by decide) ?_
            refine al_i (D := G) (n := 154) (f := w) hx hb hK hP 2 0 rfl rfl 5 rfl (by decide) (by first | decide | omega) dX12_settlesAfter_56 ?_
            refine lv_aload_n hx hb dX12_settlesAfter_57 rfl (lv_at hl 2 rfl) ?_
            refine va_get (D := G) (ci := 10) (v := .ref q6) (C := RX12) (T := TX12) (N := 15) hx hb hts i_X12 hown hK hP 0 rfl rfl 6 (by decide) (hts (.fieldLink RX12 19 "RelayTunerModel" "trial" "[I") (by decide +kernel)) (fun _ h9 => h9) rfl dX12_settlesAfter_58 ?_
            refine lv_bipush (v := 12) hx hb dX12_settlesAfter_61 (by decide) ?_
            refine al_i (D := G) (n := 154) (f := w) hx hb hK hP 2 0 rfl rfl 12 rfl (by decide) (by first | decide | omega) dX12_settlesAfter_63 ?_
            refine lv_isub hx hb dX12_settlesAfter_64 ?_
            refine cl_Ri (va_runS (As := [.int ((w 5) - (w 12))]) (rest := []) ⟨hx, hb, hml, hown, hts⟩ (c_X12_size l G y ((w 5) - (w 12))) (va_cwS 1 hts gX12_settlesAfter_X12_size rfl rfl rfl (by decide +kernel) ⟨Nat.le_of_ble_eq_true rfl, Nat.le_of_ble_eq_true rfl⟩) (PR_S pnil hK hN) rfl rfl hl.1 rfl (lv_room (Nat.le_of_ble_eq_true rfl)) dX12_settlesAfter_65 ⟨Nat.le_of_ble_eq_true rfl, Nat.le_of_ble_eq_true rfl⟩) ?_
            refine lv_iload_n hx hb dX12_settlesAfter_68 rfl (lv_at hl 3 rfl) ?_
            have J77_14 : ∀ (v_12 : Int32) (e_v_12 : v_12 = (if a1 < (s_X12_size_r ((w 5) - (w 12))) then 0 else 1)) (z_13 : v_12 = 0 ∨ v_12 = 1) (ls : Array Slot) (hl : lv_has ls 5 [(3, .int x3), (2, .int x2), (0, .ref h), (1, .int a1)]), W p l e (headSpec wsX12_settlesAfter rmX12_settlesAfter).room s m ([.ref h, .int a1] : List Value).toArray below meth c H locs 0 0 QQ (F0 m 77 ls [.int v_12]) := by
              intro v_12 e_v_12 z_13 ls hl
              refine lv_istore (lv' := [(4, .int v_12), (3, .int x3), (2, .int x2), (0, .ref h), (1, .int a1)]) hx hb dX12_settlesAfter_77 hl (by decide) rfl (fun ls hl => ?_)
              refine lv_iload hx hb dX12_settlesAfter_79 (lv_at hl 0 rfl) ?_
              have J100_17 : ∀ (v_16 : Int32) (e_v_16 : v_16 = (if v_12 = 0 then (-99999) else (if x2 = (-99999) then x3 else x2))) (ls : Array Slot) (hl : lv_has ls 5 [(3, .int x3), (0, .ref h), (1, .int a1)]), W p l e (headSpec wsX12_settlesAfter rmX12_settlesAfter).room s m ([.ref h, .int a1] : List Value).toArray below meth c H locs 0 0 QQ (F0 m 100 ls [.int v_16]) := by
                intro v_16 e_v_16 ls hl
                refine lv_istore_n (lv' := [(2, .int v_16), (3, .int x3), (0, .ref h), (1, .int a1)]) hx hb dX12_settlesAfter_100 rfl hl (by decide) rfl (fun ls hl => ?_)
                refine lv_aload_n hx hb dX12_settlesAfter_101 rfl (lv_at hl 2 rfl) ?_
                refine va_get (D := G) (ci := 10) (v := .ref q6) (C := RX12) (T := TX12) (N := 15) hx hb hts i_X12 hown hK hP 0 rfl rfl 6 (by decide) (hts (.fieldLink RX12 19 "RelayTunerModel" "trial" "[I") (by decide +kernel)) (fun _ h9 => h9) rfl dX12_settlesAfter_102 ?_
                refine cl_Hv (wr := [kX12 h q1 q4 q5 q6 q7 q9 q10 q11 (upd x 0 v_2), aI y q5 154 f]) (fun _ : Unit => [kX12 h q1 q4 q5 q6 q7 q9 q10 q11 (upd x 0 v_2), aI y q5 154 f, aI y q6 154 (s_X12_tickOn_w0 w)]) [2] [0, 1] [0, 1, 2] (va_runS (As := [.ref q6]) (rest := []) ⟨hx, hb, hml, hown, hts⟩ (c_X12_tickOn l G y q6 w H.size ht1 ht2 ht3 ht4) (va_cwS 1 hts gX12_settlesAfter_X12_tickOn rfl rfl rfl (by decide +kernel) ⟨Nat.le_of_ble_eq_true rfl, Nat.le_of_ble_eq_true rfl⟩) (PH_S (hP.sub (ws' := [aI y q6 154 w]) [2] rfl) hK hN (hD.sub (ws' := [aI y q6 154 w]) [2] (by decide) rfl)) rfl rfl hl.1 rfl (lv_room (Nat.le_of_ble_eq_true rfl)) dX12_settlesAfter_105 ⟨Nat.le_of_ble_eq_true rfl, Nat.le_of_ble_eq_true rfl⟩) hP hD hS hA rfl rfl rfl (by decide) rfl (fun _ => rfl) (fun _ H locs hP hD hS => ?_)
                have hP : va_P G vwCl [kX12 h q1 q4 q5 q6 q7 q9 q10 q11 (upd x 0 v_2), aI y q5 154 f, aI y q6 154 (s_X12_tickOn_w0 w)] H := hP
                have hD : va_D A [kX12 h q1 q4 q5 q6 q7 q9 q10 q11 (upd x 0 v_2), aI y q5 154 f, aI y q6 154 (s_X12_tickOn_w0 w)] := hD
                refine lv_iinc (v := (x3 + 1)) (lv' := [(3, .int (x3 + 1)), (2, .int v_16), (0, .ref h), (1, .int a1)]) hx hb dX12_settlesAfter_108 hl (k := 1) rfl (by first | rfl | decide) (by decide) rfl (fun ls hl => ?_)
                refine lv_goto (tgt := 44) hx hb dX12_settlesAfter_111 (by decide) ?_
                exact ih_8 (k0 + 1) v_16 (x3 + 1) (s_X12_tickOn_w0 w) (by rw [hx3]; exact nI_1 k0) (by omega) (by rw [hw]; rfl) ((set_step hk9 hw hx3 e_v_12 e_v_16).trans hres) (by omega) H locs hP hD hS ls (lv_sub hl [0, 1, 2, 3] rfl)
              refine lv_if_ne (tgt := 89) hx hb dX12_settlesAfter_81 (by decide) (fun c_15 => ?_) (fun c_15 => ?_)
              · refine lv_iload_n hx hb dX12_settlesAfter_89 rfl (lv_at hl 2 rfl) ?_
                refine lv_ldc (v := (-99999)) hx hb hown (hts (.constant RX12 74 (-99999)) (by decide +kernel)) dX12_settlesAfter_90 ?_
                refine lv_icmp_ne (tgt := 99) hx hb dX12_settlesAfter_92 (by decide) (fun c_18 => ?_) (fun c_18 => ?_)
                · refine lv_iload_n hx hb dX12_settlesAfter_99 rfl (lv_at hl 2 rfl) ?_
                  exact J100_17 _ ((if_neg c_15).trans (if_neg c_18)).symm ls (lv_sub hl [1, 3, 4] rfl)
                · refine lv_iload_n hx hb dX12_settlesAfter_95 rfl (lv_at hl 1 rfl) ?_
                  refine lv_goto (tgt := 100) hx hb dX12_settlesAfter_96 (by decide) ?_
                  exact J100_17 _ ((if_neg c_15).trans (if_pos c_18)).symm ls (lv_sub hl [1, 3, 4] rfl)
              · refine lv_ldc (v := (-99999)) hx hb hown (hts (.constant RX12 74 (-99999)) (by decide +kernel)) dX12_settlesAfter_84 ?_
                refine lv_goto (tgt := 100) hx hb dX12_settlesAfter_86 (by decide) ?_
                exact J100_17 _ (if_pos c_15).symm ls (lv_sub hl [1, 3, 4] rfl)
            refine lv_icmp_gt (tgt := 76) hx hb dX12_settlesAfter_69 (by decide) (fun c_11 => ?_) (fun c_11 => ?_)
            · refine lv_iconst (v := 0) hx hb dX12_settlesAfter_76 (by decide) ?_
              exact J77_14 _ (if_pos c_11).symm (Or.inl rfl) ls (lv_sub hl [0, 1, 2, 3] rfl)
            · refine lv_iconst (v := 1) hx hb dX12_settlesAfter_72 (by decide) ?_
              refine lv_goto (tgt := 77) hx hb dX12_settlesAfter_73 (by decide) ?_
              exact J77_14 _ (if_neg c_11).symm (Or.inr rfl) ls (lv_sub hl [0, 1, 2, 3] rfl)
      exact LOOP44_6 (201 - 0 + 1) 0 (-99999) 0 f rfl (by omega) rfl rfl (Nat.lt_succ_self _) H locs hP hD hS ls (lv_sub hl [0, 1, 2, 3] rfl)
    · refine lv_iconst (v := 0) hx hb dX12_settlesAfter_24 (by decide) ?_
      rw [hQQ]
      exact W.iret hx hb hr (end_Hi g hP hD hS (by subst e_v_2; unfold s_X12_settlesAfter_r; exact (if_neg c_5).symm) (congrArg (fun (z0 : Nat → Int32) => [kX12 h q1 q4 q5 q6 q7 q9 q10 q11 z0, aI y q5 154 f, aI y q6 154 g]) (by subst e_v_2; unfold s_X12_settlesAfter_w0; exact rfl))) hS.2.2 dX12_settlesAfter_25
  refine lv_if_eq (tgt := 17) hx hb dX12_settlesAfter_10 (by decide) (fun c_1 => ?_) (fun c_1 => ?_)
  · refine lv_iconst (v := 1) hx hb dX12_settlesAfter_17 (by decide) ?_
    exact J18_4 _ (if_pos c_1).symm (Or.inr rfl) ls (lv_sub hl [0, 1] rfl)
  · refine lv_iconst (v := 0) hx hb dX12_settlesAfter_13 (by decide) ?_
    refine lv_goto (tgt := 18) hx hb dX12_settlesAfter_14 (by decide) ?_
    exact J18_4 _ (if_neg c_1).symm (Or.inl rfl) ls (lv_sub hl [0, 1] rfl)

def s_X12_does_r (a1 : Int32) (a2 : Int32) (a3 : Int32) (f : Nat → Int32) : Int32 := (if a1 = 1 then (if a2 = 0 then (if (s_X12_in_r a3.toInt64 1 200) = 0 then 0 else 1) else 0) else (if a1 = 2 then (if a2 = 0 then (if (s_X12_isMode_r a3) = 0 then 0 else 1) else 0) else (if a1 = 3 then (if 1 < a2 then 0 else (if a3 ≤ 500 then 1 else 0)) else (if a1 = 4 then (if (s_X12_isSetting_r a2 a3) = 0 then 0 else 1) else (if a1 = 5 then (if a2 = 0 then (if (s_X12_isRule_r a3) = 0 then 0 else (if (s_X12_canTry_r f) = 0 then 0 else 1)) else 0) else (if a1 = 6 then (if a2 = 0 then (if a3 = 0 then (if (f 17) = 0 then 0 else 1) else 0) else 0) else (if a1 = 7 then (let v_29 : Int32 := (if 2 ≤ a2 then 0 else (let v_30 : Int32 := (if a2 = 0 then a3 else (-a3)); (if (f 12) < v_30 then 0 else 1))); v_29) else (if a1 = 8 then (let v_37 : Int32 := (if a2 = 0 then (if 100 ≤ a3 then 0 else (if (nI (goodP f)) < a3 then 0 else 1)) else 0); v_37) else (if a1 = 9 then (let v_45 : Int32 := (if a2 = 0 then (if 10 ≤ a3 then 0 else (if (f 17) = a3 then 1 else 0)) else 0); v_45) else 0)))))))))
def s_X12_does_w1 (a1 : Int32) (a2 : Int32) (a3 : Int32) (f : Nat → Int32) : Nat → Int32 := (if a1 = 1 then (if a2 = 0 then (if (s_X12_in_r a3.toInt64 1 200) = 0 then f else (itF s_X12_tickOn_w0 (tn a3) f)) else f) else (if a1 = 2 then (if a2 = 0 then (if (s_X12_isMode_r a3) = 0 then f else (s_X12_modeOn_w0 a3 f)) else f) else (if a1 = 3 then (if 1 < a2 then f else (if a3 ≤ 500 then (let v_17 : Int32 := (if a2 = 0 then a3 else (-a3)); (s_X12_disturbOn_w0 v_17 f)) else f)) else (if a1 = 4 then (if (s_X12_isSetting_r a2 a3) = 0 then f else (upd f (tn a2) a3)) else (if a1 = 5 then (if a2 = 0 then (if (s_X12_isRule_r a3) = 0 then f else (if (s_X12_canTry_r f) = 0 then f else (s_X12_tryOn_w1 a3 f))) else f) else (if a1 = 6 then (if a2 = 0 then (if a3 = 0 then (if (f 17) = 0 then f else (s_X12_takeBackOn_w0 f)) else f) else f) else (if a1 = 7 then f else (if a1 = 8 then f else (if a1 = 9 then f else f)))))))))
theorem z_X12_does (a1 : Int32) (a2 : Int32) (a3 : Int32) (f : Nat → Int32) : s_X12_does_r a1 a2 a3 f = 0 ∨ s_X12_does_r a1 a2 a3 f = 1 := by unfold s_X12_does_r; (try dsimp only); exact (z_ite (z_ite (z_ite (Or.inl rfl) (Or.inr rfl)) (Or.inl rfl)) (z_ite (z_ite (z_ite (Or.inl rfl) (Or.inr rfl)) (Or.inl rfl)) (z_ite (z_ite (Or.inl rfl) (z_ite (Or.inr rfl) (Or.inl rfl))) (z_ite (z_ite (Or.inl rfl) (Or.inr rfl)) (z_ite (z_ite (z_ite (Or.inl rfl) (z_ite (Or.inl rfl) (Or.inr rfl))) (Or.inl rfl)) (z_ite (z_ite (z_ite (z_ite (Or.inl rfl) (Or.inr rfl)) (Or.inl rfl)) (Or.inl rfl)) (z_ite (z_ite (Or.inl rfl) (z_ite (Or.inl rfl) (Or.inr rfl))) (z_ite (z_ite (z_ite (Or.inl rfl) (z_ite (Or.inl rfl) (Or.inr rfl))) (Or.inl rfl)) (z_ite (z_ite (z_ite (Or.inl rfl) (z_ite (Or.inr rfl) (Or.inl rfl))) (Or.inl rfl)) (Or.inl rfl))))))))))
abbrev rmX12_does : Room := ({ frames := 7, cells := 0, slots := 0, locals := 169 } : Room)
set_option maxHeartbeats 4000000 in
set_option maxRecDepth 100000 in
theorem c_X12_does (l : Launch) (G : va_G) (y : Nat → ClassId) (h : Nat) (a1 : Int32) (a2 : Int32) (a3 : Int32) (q1 : Nat) (q4 : Nat) (q5 : Nat) (q6 : Nat) (q7 : Nat) (q9 : Nat) (q10 : Nat) (q11 : Nat) (x : Nat → Int32) (f : Nat → Int32) (o : Nat → Int32) (sz : Nat) (hg : TK f) (h17 : vp_in (f 17) 9) : Met l yX12_does wsX12_does rmX12_does (PH G y [.ref h, .int a1, .int a2, .int a3] [kX12 h q1 q4 q5 q6 q7 q9 q10 q11 x, aI y q6 154 f, aI y q11 20 o] sz) (QHi G (s_X12_does_r a1 a2 a3 f) (fun u : (Nat → Int32) => [kX12 h q1 q4 q5 q6 q7 q9 q10 q11 x, aI y q6 154 (s_X12_does_w1 a1 a2 a3 f), aI y q11 20 u]) (va_A [kX12 h q1 q4 q5 q6 q7 q9 q10 q11 x, aI y q6 154 f, aI y q11 20 o] sz)) 0 0 (va_A [kX12 h q1 q4 q5 q6 q7 q9 q10 q11 x, aI y q6 154 f, aI y q11 20 o] sz) := by
  refine Met.ofW (cc := cX12_does) (maxL := 4) (ret := (some .boolean)) (by decide) rfl ?_
  intro p e s m args below meth c s₁ B hml hv
  obtain ⟨rfl, hsz, hP, ⟨hK, hN⟩, hD0⟩ := hv
  have hx := B.exec
  have hb := B.bytes
  have hr := B.returns
  have hts := atoms_spec (ws := wsX12_does) B.pre
  have hown : s.vm.findClass RX12 = some m.cls := findClass_of_methodNamed B.named
  have hlocks := B.notSynchronized
  have i_X12 : ∀ w ∈ u_ws RX12 TX12 15, w ∈ wsX12_does := by decide +kernel
  subst hsz
  have hD := hD0.self (sz := s.heap.size)
  generalize hAe : va_A [kX12 h q1 q4 q5 q6 q7 q9 q10 q11 x, aI y q6 154 f, aI y q11 20 o] s.heap.size = A at hD ⊢
  have hA : ∀ q : Nat, s.heap.size ≤ q → A q := fun q h => by rw [← hAe]; exact Or.inr h
  have hS : va_S A s.heap s.heap [] := va_S.rf
  have hP : va_P G vwCl [kX12 h q1 q4 q5 q6 q7 q9 q10 q11 x, aI y q6 154 f, aI y q11 20 o] s.heap := hP
  have hl := lv_entry ([.ref h, .int a1, .int a2, .int a3]) (n := 4) (Nat.le_of_ble_eq_true rfl)
  rw [lg_entry_eq]
  generalize (lg_sl ([.ref h, .int a1, .int a2, .int a3]) ++ List.replicate (4 - (lg_sl ([.ref h, .int a1, .int a2, .int a3])).length) Slot.unset).toArray = ls at hl ⊢
  have hl : lv_has ls 4 [(0, .ref h), (1, .int a1), (2, .int a2), (3, .int a3)] := hl
  obtain ⟨QQ, hQQ⟩ : ∃ zq9, zq9 = MQ below (QHi G (s_X12_does_r a1 a2 a3 f) (fun u : (Nat → Int32) => [kX12 h q1 q4 q5 q6 q7 q9 q10 q11 x, aI y q6 154 (s_X12_does_w1 a1 a2 a3 f), aI y q11 20 u]) A) ([.ref h, .int a1, .int a2, .int a3] : List Value).toArray s 0 0 A := ⟨_, rfl⟩
  rw [← hQQ]
  refine lv_iload_n hx hb dX12_does_0 rfl (lv_at hl 1 rfl) ?_
  rcases Decidable.em (a1 = 1) with c_1 | c_1
  · refine lv_tableIn (tgt := 52) hx hb dX12_does_1 (by rw [c_1]; decide) (by rw [c_1]; decide) (by rw [c_1]; first | done | rfl) (by decide) ?_
    refine lv_iload_n hx hb dX12_does_52 rfl (lv_at hl 2 rfl) ?_
    refine lv_if_ne (tgt := 68) hx hb dX12_does_53 (by decide) (fun c_10 => ?_) (fun c_10 => ?_)
    · refine lv_iconst (v := 0) hx hb dX12_does_68 (by decide) ?_
      rw [hQQ]
      exact W.zret hx hb hr (nz_bool (Or.inl rfl)) (end_Hi o hP hD hS (by unfold s_X12_does_r; exact ((if_pos c_1).trans (if_neg c_10)).symm) (congrArg (fun (z1 : Nat → Int32) => [kX12 h q1 q4 q5 q6 q7 q9 q10 q11 x, aI y q6 154 z1, aI y q11 20 o]) (by unfold s_X12_does_w1; exact ((if_pos c_1).trans (if_neg c_10)).symm))) hS.2.2 dX12_does_69
    · refine lv_iload_n hx hb dX12_does_56 rfl (lv_at hl 3 rfl) ?_
      refine lv_i2l (v := a3.toInt64) hx hb dX12_does_57 rfl ?_
      refine lv_lconst (v := 1) hx hb dX12_does_58 rfl ?_
      refine lv_ldc2 (v := 200) hx hb hown (hts (.constantLong RX12 157 200) (by decide +kernel)) dX12_does_59 ?_
      refine cl_Ri (va_runS (As := [.long a3.toInt64, .long 1, .long 200]) (rest := []) ⟨hx, hb, hml, hown, hts⟩ (c_X12_in l G y a3.toInt64 1 200) (va_cwS 3 hts gX12_does_X12_in rfl rfl rfl (by decide +kernel) ⟨Nat.le_of_ble_eq_true rfl, Nat.le_of_ble_eq_true rfl⟩) (PR_S pnil hK hN) rfl rfl hl.1 rfl (lv_room (Nat.le_of_ble_eq_true rfl)) dX12_does_62 ⟨Nat.le_of_ble_eq_true rfl, Nat.le_of_ble_eq_true rfl⟩) ?_
      refine lv_if_ne (tgt := 70) hx hb dX12_does_65 (by decide) (fun c_11 => ?_) (fun c_11 => ?_)
      · have hin : vp_in a3 201 := in_vp c_11 (by decide) (by decide)
        refine lv_aload_n hx hb dX12_does_70 rfl (lv_at hl 0 rfl) ?_
        refine va_get (D := G) (ci := 10) (v := .ref q6) (C := RX12) (T := TX12) (N := 15) hx hb hts i_X12 hown hK hP 0 rfl rfl 6 (by decide) (hts (.fieldLink RX12 19 "RelayTunerModel" "trial" "[I") (by decide +kernel)) (fun _ h9 => h9) rfl dX12_does_71 ?_
        refine lv_iload_n hx hb dX12_does_74 rfl (lv_at hl 3 rfl) ?_
        refine cl_Hv (wr := [kX12 h q1 q4 q5 q6 q7 q9 q10 q11 x, aI y q11 20 o]) (fun _ : Unit => [kX12 h q1 q4 q5 q6 q7 q9 q10 q11 x, aI y q6 154 (itF s_X12_tickOn_w0 (tn a3) f), aI y q11 20 o]) [1] [0, 2] [0, 2, 1] (va_runS (As := [.ref q6, .int a3]) (rest := []) ⟨hx, hb, hml, hown, hts⟩ (c_X12_ticksOn l G y q6 a3 f (tn a3) s.heap.size hg (in_tn hin (by decide)).1 (by have := (in_tn hin (by decide)).2; omega)) (va_cwS 2 hts gX12_does_X12_ticksOn rfl rfl rfl (by decide +kernel) ⟨Nat.le_of_ble_eq_true rfl, Nat.le_of_ble_eq_true rfl⟩) (PH_S (hP.sub (ws' := [aI y q6 154 f]) [1] rfl) hK hN (hD.sub (ws' := [aI y q6 154 f]) [1] (by decide) rfl)) rfl rfl hl.1 rfl (lv_room (Nat.le_of_ble_eq_true rfl)) dX12_does_75 ⟨Nat.le_of_ble_eq_true rfl, Nat.le_of_ble_eq_true rfl⟩) hP hD hS hA rfl rfl rfl (by decide) rfl (fun _ => rfl) (fun _ H locs hP hD hS => ?_)
        have hP : va_P G vwCl [kX12 h q1 q4 q5 q6 q7 q9 q10 q11 x, aI y q6 154 (itF s_X12_tickOn_w0 (tn a3) f), aI y q11 20 o] H := hP
        have hD : va_D A [kX12 h q1 q4 q5 q6 q7 q9 q10 q11 x, aI y q6 154 (itF s_X12_tickOn_w0 (tn a3) f), aI y q11 20 o] := hD
        refine lv_iconst (v := 1) hx hb dX12_does_78 (by decide) ?_
        rw [hQQ]
        exact W.zret hx hb hr (nz_bool (Or.inr rfl)) (end_Hi o hP hD hS (by unfold s_X12_does_r; exact ((if_pos c_1).trans ((if_pos c_10).trans (if_neg c_11))).symm) (congrArg (fun (z1 : Nat → Int32) => [kX12 h q1 q4 q5 q6 q7 q9 q10 q11 x, aI y q6 154 z1, aI y q11 20 o]) (by unfold s_X12_does_w1; exact ((if_pos c_1).trans ((if_pos c_10).trans (if_neg c_11))).symm))) hS.2.2 dX12_does_79
      · refine lv_iconst (v := 0) hx hb dX12_does_68 (by decide) ?_
        rw [hQQ]
        exact W.zret hx hb hr (nz_bool (Or.inl rfl)) (end_Hi o hP hD hS (by unfold s_X12_does_r; exact ((if_pos c_1).trans ((if_pos c_10).trans (if_pos c_11))).symm) (congrArg (fun (z1 : Nat → Int32) => [kX12 h q1 q4 q5 q6 q7 q9 q10 q11 x, aI y q6 154 z1, aI y q11 20 o]) (by unfold s_X12_does_w1; exact ((if_pos c_1).trans ((if_pos c_10).trans (if_pos c_11))).symm))) hS.2.2 dX12_does_69
  rcases Decidable.em (a1 = 2) with c_2 | c_2
  · refine lv_tableIn (tgt := 80) hx hb dX12_does_1 (by rw [c_2]; decide) (by rw [c_2]; decide) (by rw [c_2]; first | done | rfl) (by decide) ?_
    refine lv_iload_n hx hb dX12_does_80 rfl (lv_at hl 2 rfl) ?_
    refine lv_if_ne (tgt := 91) hx hb dX12_does_81 (by decide) (fun c_12 => ?_) (fun c_12 => ?_)
    · refine lv_iconst (v := 0) hx hb dX12_does_91 (by decide) ?_
      rw [hQQ]
      exact W.zret hx hb hr (nz_bool (Or.inl rfl)) (end_Hi o hP hD hS (by unfold s_X12_does_r; exact ((if_neg c_1).trans ((if_pos c_2).trans (if_neg c_12))).symm) (congrArg (fun (z1 : Nat → Int32) => [kX12 h q1 q4 q5 q6 q7 q9 q10 q11 x, aI y q6 154 z1, aI y q11 20 o]) (by unfold s_X12_does_w1; exact ((if_neg c_1).trans ((if_pos c_2).trans (if_neg c_12))).symm))) hS.2.2 dX12_does_92
    · refine lv_iload_n hx hb dX12_does_84 rfl (lv_at hl 3 rfl) ?_
      refine cl_Ri (va_runS (As := [.int a3]) (rest := []) ⟨hx, hb, hml, hown, hts⟩ (c_X12_isMode l G y a3) (va_cwS 1 hts gX12_does_X12_isMode rfl rfl rfl (by decide +kernel) ⟨Nat.le_of_ble_eq_true rfl, Nat.le_of_ble_eq_true rfl⟩) (PR_S pnil hK hN) rfl rfl hl.1 rfl (lv_room (Nat.le_of_ble_eq_true rfl)) dX12_does_85 ⟨Nat.le_of_ble_eq_true rfl, Nat.le_of_ble_eq_true rfl⟩) ?_
      refine lv_if_ne (tgt := 93) hx hb dX12_does_88 (by decide) (fun c_13 => ?_) (fun c_13 => ?_)
      · refine lv_aload_n hx hb dX12_does_93 rfl (lv_at hl 0 rfl) ?_
        refine va_get (D := G) (ci := 10) (v := .ref q6) (C := RX12) (T := TX12) (N := 15) hx hb hts i_X12 hown hK hP 0 rfl rfl 6 (by decide) (hts (.fieldLink RX12 19 "RelayTunerModel" "trial" "[I") (by decide +kernel)) (fun _ h9 => h9) rfl dX12_does_94 ?_
        refine lv_iload_n hx hb dX12_does_97 rfl (lv_at hl 3 rfl) ?_
        refine cl_Hv (wr := [kX12 h q1 q4 q5 q6 q7 q9 q10 q11 x, aI y q11 20 o]) (fun _ : Unit => [kX12 h q1 q4 q5 q6 q7 q9 q10 q11 x, aI y q6 154 (s_X12_modeOn_w0 a3 f), aI y q11 20 o]) [1] [0, 2] [0, 2, 1] (va_runS (As := [.ref q6, .int a3]) (rest := []) ⟨hx, hb, hml, hown, hts⟩ (c_X12_modeOn l G y q6 a3 f s.heap.size) (va_cwS 2 hts gX12_does_X12_modeOn rfl rfl rfl (by decide +kernel) ⟨Nat.le_of_ble_eq_true rfl, Nat.le_of_ble_eq_true rfl⟩) (PH_S (hP.sub (ws' := [aI y q6 154 f]) [1] rfl) hK hN (hD.sub (ws' := [aI y q6 154 f]) [1] (by decide) rfl)) rfl rfl hl.1 rfl (lv_room (Nat.le_of_ble_eq_true rfl)) dX12_does_98 ⟨Nat.le_of_ble_eq_true rfl, Nat.le_of_ble_eq_true rfl⟩) hP hD hS hA rfl rfl rfl (by decide) rfl (fun _ => rfl) (fun _ H locs hP hD hS => ?_)
        have hP : va_P G vwCl [kX12 h q1 q4 q5 q6 q7 q9 q10 q11 x, aI y q6 154 (s_X12_modeOn_w0 a3 f), aI y q11 20 o] H := hP
        have hD : va_D A [kX12 h q1 q4 q5 q6 q7 q9 q10 q11 x, aI y q6 154 (s_X12_modeOn_w0 a3 f), aI y q11 20 o] := hD
        refine lv_iconst (v := 1) hx hb dX12_does_101 (by decide) ?_
        rw [hQQ]
        exact W.zret hx hb hr (nz_bool (Or.inr rfl)) (end_Hi o hP hD hS (by unfold s_X12_does_r; exact ((if_neg c_1).trans ((if_pos c_2).trans ((if_pos c_12).trans (if_neg c_13)))).symm) (congrArg (fun (z1 : Nat → Int32) => [kX12 h q1 q4 q5 q6 q7 q9 q10 q11 x, aI y q6 154 z1, aI y q11 20 o]) (by unfold s_X12_does_w1; exact ((if_neg c_1).trans ((if_pos c_2).trans ((if_pos c_12).trans (if_neg c_13)))).symm))) hS.2.2 dX12_does_102
      · refine lv_iconst (v := 0) hx hb dX12_does_91 (by decide) ?_
        rw [hQQ]
        exact W.zret hx hb hr (nz_bool (Or.inl rfl)) (end_Hi o hP hD hS (by unfold s_X12_does_r; exact ((if_neg c_1).trans ((if_pos c_2).trans ((if_pos c_12).trans (if_pos c_13)))).symm) (congrArg (fun (z1 : Nat → Int32) => [kX12 h q1 q4 q5 q6 q7 q9 q10 q11 x, aI y q6 154 z1, aI y q11 20 o]) (by unfold s_X12_does_w1; exact ((if_neg c_1).trans ((if_pos c_2).trans ((if_pos c_12).trans (if_pos c_13)))).symm))) hS.2.2 dX12_does_92
  rcases Decidable.em (a1 = 3) with c_3 | c_3
  · refine lv_tableIn (tgt := 103) hx hb dX12_does_1 (by rw [c_3]; decide) (by rw [c_3]; decide) (by rw [c_3]; first | done | rfl) (by decide) ?_
    refine lv_iload_n hx hb dX12_does_103 rfl (lv_at hl 2 rfl) ?_
    refine lv_iconst (v := 1) hx hb dX12_does_104 (by decide) ?_
    refine lv_icmp_gt (tgt := 115) hx hb dX12_does_105 (by decide) (fun c_14 => ?_) (fun c_14 => ?_)
    · refine lv_iconst (v := 0) hx hb dX12_does_115 (by decide) ?_
      rw [hQQ]
      exact W.zret hx hb hr (nz_bool (Or.inl rfl)) (end_Hi o hP hD hS (by unfold s_X12_does_r; exact ((if_neg c_1).trans ((if_neg c_2).trans ((if_pos c_3).trans (if_pos c_14)))).symm) (congrArg (fun (z1 : Nat → Int32) => [kX12 h q1 q4 q5 q6 q7 q9 q10 q11 x, aI y q6 154 z1, aI y q11 20 o]) (by unfold s_X12_does_w1; exact ((if_neg c_1).trans ((if_neg c_2).trans ((if_pos c_3).trans (if_pos c_14)))).symm))) hS.2.2 dX12_does_116
    · refine lv_iload_n hx hb dX12_does_108 rfl (lv_at hl 3 rfl) ?_
      refine lv_sipush (v := 500) hx hb dX12_does_109 (by decide) ?_
      refine lv_icmp_le (tgt := 117) hx hb dX12_does_112 (by decide) (fun c_15 => ?_) (fun c_15 => ?_)
      · refine lv_aload_n hx hb dX12_does_117 rfl (lv_at hl 0 rfl) ?_
        refine va_get (D := G) (ci := 10) (v := .ref q6) (C := RX12) (T := TX12) (N := 15) hx hb hts i_X12 hown hK hP 0 rfl rfl 6 (by decide) (hts (.fieldLink RX12 19 "RelayTunerModel" "trial" "[I") (by decide +kernel)) (fun _ h9 => h9) rfl dX12_does_118 ?_
        refine lv_iload_n hx hb dX12_does_121 rfl (lv_at hl 2 rfl) ?_
        have J131_18 : ∀ (v_17 : Int32) (e_v_17 : v_17 = (if a2 = 0 then a3 else (-a3))) (ls : Array Slot) (hl : lv_has ls 4 []), W p l e (headSpec wsX12_does rmX12_does).room s m ([.ref h, .int a1, .int a2, .int a3] : List Value).toArray below meth c s.heap [] 0 0 QQ (F0 m 131 ls [.int v_17, .ref q6]) := by
          intro v_17 e_v_17 ls hl
          refine cl_Hv (wr := [kX12 h q1 q4 q5 q6 q7 q9 q10 q11 x, aI y q11 20 o]) (fun _ : Unit => [kX12 h q1 q4 q5 q6 q7 q9 q10 q11 x, aI y q6 154 (s_X12_disturbOn_w0 v_17 f), aI y q11 20 o]) [1] [0, 2] [0, 2, 1] (va_runS (As := [.ref q6, .int v_17]) (rest := []) ⟨hx, hb, hml, hown, hts⟩ (c_X12_disturbOn l G y q6 v_17 f s.heap.size) (va_cwS 2 hts gX12_does_X12_disturbOn rfl rfl rfl (by decide +kernel) ⟨Nat.le_of_ble_eq_true rfl, Nat.le_of_ble_eq_true rfl⟩) (PH_S (hP.sub (ws' := [aI y q6 154 f]) [1] rfl) hK hN (hD.sub (ws' := [aI y q6 154 f]) [1] (by decide) rfl)) rfl rfl hl.1 rfl (lv_room (Nat.le_of_ble_eq_true rfl)) dX12_does_131 ⟨Nat.le_of_ble_eq_true rfl, Nat.le_of_ble_eq_true rfl⟩) hP hD hS hA rfl rfl rfl (by decide) rfl (fun _ => rfl) (fun _ H locs hP hD hS => ?_)
          have hP : va_P G vwCl [kX12 h q1 q4 q5 q6 q7 q9 q10 q11 x, aI y q6 154 (s_X12_disturbOn_w0 v_17 f), aI y q11 20 o] H := hP
          have hD : va_D A [kX12 h q1 q4 q5 q6 q7 q9 q10 q11 x, aI y q6 154 (s_X12_disturbOn_w0 v_17 f), aI y q11 20 o] := hD
          refine lv_iconst (v := 1) hx hb dX12_does_134 (by decide) ?_
          rw [hQQ]
          exact W.zret hx hb hr (nz_bool (Or.inr rfl)) (end_Hi o hP hD hS (by subst e_v_17; unfold s_X12_does_r; exact ((if_neg c_1).trans ((if_neg c_2).trans ((if_pos c_3).trans ((if_neg c_14).trans (if_pos c_15))))).symm) (congrArg (fun (z1 : Nat → Int32) => [kX12 h q1 q4 q5 q6 q7 q9 q10 q11 x, aI y q6 154 z1, aI y q11 20 o]) (by subst e_v_17; unfold s_X12_does_w1; exact ((if_neg c_1).trans ((if_neg c_2).trans ((if_pos c_3).trans ((if_neg c_14).trans (if_pos c_15))))).symm))) hS.2.2 dX12_does_135
        refine lv_if_ne (tgt := 129) hx hb dX12_does_122 (by decide) (fun c_16 => ?_) (fun c_16 => ?_)
        · refine lv_iload_n hx hb dX12_does_129 rfl (lv_at hl 3 rfl) ?_
          refine lv_ineg hx hb dX12_does_130 ?_
          exact J131_18 _ (if_neg c_16).symm ls (lv_sub hl [] rfl)
        · refine lv_iload_n hx hb dX12_does_125 rfl (lv_at hl 3 rfl) ?_
          refine lv_goto (tgt := 131) hx hb dX12_does_126 (by decide) ?_
          exact J131_18 _ (if_pos c_16).symm ls (lv_sub hl [] rfl)
      · refine lv_iconst (v := 0) hx hb dX12_does_115 (by decide) ?_
        rw [hQQ]
        exact W.zret hx hb hr (nz_bool (Or.inl rfl)) (end_Hi o hP hD hS (by unfold s_X12_does_r; exact ((if_neg c_1).trans ((if_neg c_2).trans ((if_pos c_3).trans ((if_neg c_14).trans (if_neg c_15))))).symm) (congrArg (fun (z1 : Nat → Int32) => [kX12 h q1 q4 q5 q6 q7 q9 q10 q11 x, aI y q6 154 z1, aI y q11 20 o]) (by unfold s_X12_does_w1; exact ((if_neg c_1).trans ((if_neg c_2).trans ((if_pos c_3).trans ((if_neg c_14).trans (if_neg c_15))))).symm))) hS.2.2 dX12_does_116
  rcases Decidable.em (a1 = 4) with c_4 | c_4
  · refine lv_tableIn (tgt := 136) hx hb dX12_does_1 (by rw [c_4]; decide) (by rw [c_4]; decide) (by rw [c_4]; first | done | rfl) (by decide) ?_
    refine lv_iload_n hx hb dX12_does_136 rfl (lv_at hl 2 rfl) ?_
    refine lv_iload_n hx hb dX12_does_137 rfl (lv_at hl 3 rfl) ?_
    refine cl_Ri (va_runS (As := [.int a2, .int a3]) (rest := []) ⟨hx, hb, hml, hown, hts⟩ (c_X12_isSetting l G y a2 a3) (va_cwS 2 hts gX12_does_X12_isSetting rfl rfl rfl (by decide +kernel) ⟨Nat.le_of_ble_eq_true rfl, Nat.le_of_ble_eq_true rfl⟩) (PR_S pnil hK hN) rfl rfl hl.1 rfl (lv_room (Nat.le_of_ble_eq_true rfl)) dX12_does_138 ⟨Nat.le_of_ble_eq_true rfl, Nat.le_of_ble_eq_true rfl⟩) ?_
    refine lv_if_ne (tgt := 146) hx hb dX12_does_141 (by decide) (fun c_19 => ?_) (fun c_19 => ?_)
    · have hin : vp_in a2 11 := set_in c_19
      obtain ⟨ha1, ha2⟩ := in_tn hin (by decide)
      refine lv_aload_n hx hb dX12_does_146 rfl (lv_at hl 0 rfl) ?_
      refine va_get (D := G) (ci := 10) (v := .ref q6) (C := RX12) (T := TX12) (N := 15) hx hb hts i_X12 hown hK hP 0 rfl rfl 6 (by decide) (hts (.fieldLink RX12 19 "RelayTunerModel" "trial" "[I") (by decide +kernel)) (fun _ h9 => h9) rfl dX12_does_147 ?_
      refine lv_iload_n hx hb dX12_does_150 rfl (lv_at hl 2 rfl) ?_
      refine lv_iload_n hx hb dX12_does_151 rfl (lv_at hl 3 rfl) ?_
      refine as_i (D := G) (n := 154) (f := f) hx hb hK hP hD hS 1 0 rfl rfl (tn a2) ha1 (by omega) (by first | decide | omega) dX12_does_152 (fun H locs hP hD hS => ?_)
      have hP : va_P G vwCl [kX12 h q1 q4 q5 q6 q7 q9 q10 q11 x, aI y q6 154 (upd f (tn a2) a3), aI y q11 20 o] H := hP
      have hD : va_D A [kX12 h q1 q4 q5 q6 q7 q9 q10 q11 x, aI y q6 154 (upd f (tn a2) a3), aI y q11 20 o] := hD
      refine lv_iconst (v := 1) hx hb dX12_does_153 (by decide) ?_
      rw [hQQ]
      exact W.zret hx hb hr (nz_bool (Or.inr rfl)) (end_Hi o hP hD hS (by unfold s_X12_does_r; exact ((if_neg c_1).trans ((if_neg c_2).trans ((if_neg c_3).trans ((if_pos c_4).trans (if_neg c_19))))).symm) (congrArg (fun (z1 : Nat → Int32) => [kX12 h q1 q4 q5 q6 q7 q9 q10 q11 x, aI y q6 154 z1, aI y q11 20 o]) (by unfold s_X12_does_w1; exact ((if_neg c_1).trans ((if_neg c_2).trans ((if_neg c_3).trans ((if_pos c_4).trans (if_neg c_19))))).symm))) hS.2.2 dX12_does_154
    · refine lv_iconst (v := 0) hx hb dX12_does_144 (by decide) ?_
      rw [hQQ]
      exact W.zret hx hb hr (nz_bool (Or.inl rfl)) (end_Hi o hP hD hS (by unfold s_X12_does_r; exact ((if_neg c_1).trans ((if_neg c_2).trans ((if_neg c_3).trans ((if_pos c_4).trans (if_pos c_19))))).symm) (congrArg (fun (z1 : Nat → Int32) => [kX12 h q1 q4 q5 q6 q7 q9 q10 q11 x, aI y q6 154 z1, aI y q11 20 o]) (by unfold s_X12_does_w1; exact ((if_neg c_1).trans ((if_neg c_2).trans ((if_neg c_3).trans ((if_pos c_4).trans (if_pos c_19))))).symm))) hS.2.2 dX12_does_145
  rcases Decidable.em (a1 = 5) with c_5 | c_5
  · refine lv_tableIn (tgt := 155) hx hb dX12_does_1 (by rw [c_5]; decide) (by rw [c_5]; decide) (by rw [c_5]; first | done | rfl) (by decide) ?_
    refine lv_iload_n hx hb dX12_does_155 rfl (lv_at hl 2 rfl) ?_
    refine lv_if_ne (tgt := 177) hx hb dX12_does_156 (by decide) (fun c_20 => ?_) (fun c_20 => ?_)
    · refine lv_iconst (v := 0) hx hb dX12_does_177 (by decide) ?_
      rw [hQQ]
      exact W.zret hx hb hr (nz_bool (Or.inl rfl)) (end_Hi o hP hD hS (by unfold s_X12_does_r; exact ((if_neg c_1).trans ((if_neg c_2).trans ((if_neg c_3).trans ((if_neg c_4).trans ((if_pos c_5).trans (if_neg c_20)))))).symm) (congrArg (fun (z1 : Nat → Int32) => [kX12 h q1 q4 q5 q6 q7 q9 q10 q11 x, aI y q6 154 z1, aI y q11 20 o]) (by unfold s_X12_does_w1; exact ((if_neg c_1).trans ((if_neg c_2).trans ((if_neg c_3).trans ((if_neg c_4).trans ((if_pos c_5).trans (if_neg c_20)))))).symm))) hS.2.2 dX12_does_178
    · refine lv_iload_n hx hb dX12_does_159 rfl (lv_at hl 3 rfl) ?_
      refine cl_Ri (va_runS (As := [.int a3]) (rest := []) ⟨hx, hb, hml, hown, hts⟩ (c_X12_isRule l G y a3) (va_cwS 1 hts gX12_does_X12_isRule rfl rfl rfl (by decide +kernel) ⟨Nat.le_of_ble_eq_true rfl, Nat.le_of_ble_eq_true rfl⟩) (PR_S pnil hK hN) rfl rfl hl.1 rfl (lv_room (Nat.le_of_ble_eq_true rfl)) dX12_does_160 ⟨Nat.le_of_ble_eq_true rfl, Nat.le_of_ble_eq_true rfl⟩) ?_
      refine lv_if_eq (tgt := 177) hx hb dX12_does_163 (by decide) (fun c_21 => ?_) (fun c_21 => ?_)
      · refine lv_iconst (v := 0) hx hb dX12_does_177 (by decide) ?_
        rw [hQQ]
        exact W.zret hx hb hr (nz_bool (Or.inl rfl)) (end_Hi o hP hD hS (by unfold s_X12_does_r; exact ((if_neg c_1).trans ((if_neg c_2).trans ((if_neg c_3).trans ((if_neg c_4).trans ((if_pos c_5).trans ((if_pos c_20).trans (if_pos c_21))))))).symm) (congrArg (fun (z1 : Nat → Int32) => [kX12 h q1 q4 q5 q6 q7 q9 q10 q11 x, aI y q6 154 z1, aI y q11 20 o]) (by unfold s_X12_does_w1; exact ((if_neg c_1).trans ((if_neg c_2).trans ((if_neg c_3).trans ((if_neg c_4).trans ((if_pos c_5).trans ((if_pos c_20).trans (if_pos c_21))))))).symm))) hS.2.2 dX12_does_178
      · refine lv_aload_n hx hb dX12_does_166 rfl (lv_at hl 0 rfl) ?_
        refine lv_aload_n hx hb dX12_does_167 rfl (lv_at hl 0 rfl) ?_
        refine va_get (D := G) (ci := 10) (v := .ref q6) (C := RX12) (T := TX12) (N := 15) hx hb hts i_X12 hown hK hP 0 rfl rfl 6 (by decide) (hts (.fieldLink RX12 19 "RelayTunerModel" "trial" "[I") (by decide +kernel)) (fun _ h9 => h9) rfl dX12_does_168 ?_
        refine cl_Hi (wr := []) (fun u : (Nat → Int32) => [kX12 h q1 q4 q5 q6 q7 q9 q10 q11 x, aI y q6 154 f, aI y q11 20 u]) [0, 1, 2] [] [0, 1, 2] (va_runV (As := [.ref q6]) (rest := []) ⟨hx, hb, hml, hown, hts⟩ (c_X12_canTry l G y h q6 q1 q4 q5 q6 q7 q9 q10 q11 x f o s.heap.size hg.2.2.2) (cwV 1 hts gX12_does_X12_canTry rfl rfl rfl (by decide +kernel) ⟨Nat.le_of_ble_eq_true rfl, Nat.le_of_ble_eq_true rfl⟩) (PH_V (hP.sub (ws' := [kX12 h q1 q4 q5 q6 q7 q9 q10 q11 x, aI y q6 154 f, aI y q11 20 o]) [0, 1, 2] rfl) hK hN (hD.sub (ws' := [kX12 h q1 q4 q5 q6 q7 q9 q10 q11 x, aI y q6 154 f, aI y q11 20 o]) [0, 1, 2] (by decide) rfl) (ci := 10) (q0 := 0) rfl rfl) rfl rfl hl.1 rfl (lv_room (Nat.le_of_ble_eq_true rfl)) dX12_does_171 ⟨Nat.le_of_ble_eq_true rfl, Nat.le_of_ble_eq_true rfl⟩) hP hD hS hA rfl rfl rfl (by decide) rfl (fun _ => rfl) (fun u H locs hP hD hS => ?_)
        obtain ⟨o_22, rfl⟩ : ∃ zq9, zq9 = u := ⟨_, rfl⟩
        have hP : va_P G vwCl [kX12 h q1 q4 q5 q6 q7 q9 q10 q11 x, aI y q6 154 f, aI y q11 20 o_22] H := hP
        have hD : va_D A [kX12 h q1 q4 q5 q6 q7 q9 q10 q11 x, aI y q6 154 f, aI y q11 20 o_22] := hD
        refine lv_if_ne (tgt := 179) hx hb dX12_does_174 (by decide) (fun c_23 => ?_) (fun c_23 => ?_)
        · refine lv_aload_n hx hb dX12_does_179 rfl (lv_at hl 0 rfl) ?_
          refine lv_aload_n hx hb dX12_does_180 rfl (lv_at hl 0 rfl) ?_
          refine va_get (D := G) (ci := 10) (v := .ref q6) (C := RX12) (T := TX12) (N := 15) hx hb hts i_X12 hown hK hP 0 rfl rfl 6 (by decide) (hts (.fieldLink RX12 19 "RelayTunerModel" "trial" "[I") (by decide +kernel)) (fun _ h9 => h9) rfl dX12_does_181 ?_
          refine lv_iload_n hx hb dX12_does_184 rfl (lv_at hl 3 rfl) ?_
          refine cl_Hv (wr := []) (fun u : (Nat → Int32) => [kX12 h q1 q4 q5 q6 q7 q9 q10 q11 x, aI y q6 154 (s_X12_tryOn_w1 a3 f), aI y q11 20 u]) [0, 1, 2] [] [0, 1, 2] (va_runV (As := [.ref q6, .int a3]) (rest := []) ⟨hx, hb, hml, hown, hts⟩ (c_X12_tryOn l G y h q6 a3 q1 q4 q5 q6 q7 q9 q10 q11 x f o_22 H.size hg.2.2.2 (can_in h17 c_23).1 (can_in h17 c_23).2) (cwV 2 hts gX12_does_X12_tryOn rfl rfl rfl (by decide +kernel) ⟨Nat.le_of_ble_eq_true rfl, Nat.le_of_ble_eq_true rfl⟩) (PH_V (hP.sub (ws' := [kX12 h q1 q4 q5 q6 q7 q9 q10 q11 x, aI y q6 154 f, aI y q11 20 o_22]) [0, 1, 2] rfl) hK hN (hD.sub (ws' := [kX12 h q1 q4 q5 q6 q7 q9 q10 q11 x, aI y q6 154 f, aI y q11 20 o_22]) [0, 1, 2] (by decide) rfl) (ci := 10) (q0 := 0) rfl rfl) rfl rfl hl.1 rfl (lv_room (Nat.le_of_ble_eq_true rfl)) dX12_does_185 ⟨Nat.le_of_ble_eq_true rfl, Nat.le_of_ble_eq_true rfl⟩) hP hD hS hA rfl rfl rfl (by decide) rfl (fun _ => rfl) (fun u H locs hP hD hS => ?_)
          obtain ⟨o_24, rfl⟩ : ∃ zq9, zq9 = u := ⟨_, rfl⟩
          have hP : va_P G vwCl [kX12 h q1 q4 q5 q6 q7 q9 q10 q11 x, aI y q6 154 (s_X12_tryOn_w1 a3 f), aI y q11 20 o_24] H := hP
          have hD : va_D A [kX12 h q1 q4 q5 q6 q7 q9 q10 q11 x, aI y q6 154 (s_X12_tryOn_w1 a3 f), aI y q11 20 o_24] := hD
          refine lv_iconst (v := 1) hx hb dX12_does_188 (by decide) ?_
          rw [hQQ]
          exact W.zret hx hb hr (nz_bool (Or.inr rfl)) (end_Hi o_24 hP hD hS (by unfold s_X12_does_r; exact ((if_neg c_1).trans ((if_neg c_2).trans ((if_neg c_3).trans ((if_neg c_4).trans ((if_pos c_5).trans ((if_pos c_20).trans ((if_neg c_21).trans (if_neg c_23)))))))).symm) (congrArg (fun (z1 : Nat → Int32) => [kX12 h q1 q4 q5 q6 q7 q9 q10 q11 x, aI y q6 154 z1, aI y q11 20 o_24]) (by unfold s_X12_does_w1; exact ((if_neg c_1).trans ((if_neg c_2).trans ((if_neg c_3).trans ((if_neg c_4).trans ((if_pos c_5).trans ((if_pos c_20).trans ((if_neg c_21).trans (if_neg c_23)))))))).symm))) hS.2.2 dX12_does_189
        · refine lv_iconst (v := 0) hx hb dX12_does_177 (by decide) ?_
          rw [hQQ]
          exact W.zret hx hb hr (nz_bool (Or.inl rfl)) (end_Hi o_22 hP hD hS (by unfold s_X12_does_r; exact ((if_neg c_1).trans ((if_neg c_2).trans ((if_neg c_3).trans ((if_neg c_4).trans ((if_pos c_5).trans ((if_pos c_20).trans ((if_neg c_21).trans (if_pos c_23)))))))).symm) (congrArg (fun (z1 : Nat → Int32) => [kX12 h q1 q4 q5 q6 q7 q9 q10 q11 x, aI y q6 154 z1, aI y q11 20 o_22]) (by unfold s_X12_does_w1; exact ((if_neg c_1).trans ((if_neg c_2).trans ((if_neg c_3).trans ((if_neg c_4).trans ((if_pos c_5).trans ((if_pos c_20).trans ((if_neg c_21).trans (if_pos c_23)))))))).symm))) hS.2.2 dX12_does_178
  rcases Decidable.em (a1 = 6) with c_6 | c_6
  · refine lv_tableIn (tgt := 190) hx hb dX12_does_1 (by rw [c_6]; decide) (by rw [c_6]; decide) (by rw [c_6]; first | done | rfl) (by decide) ?_
    refine lv_iload_n hx hb dX12_does_190 rfl (lv_at hl 2 rfl) ?_
    refine lv_if_ne (tgt := 208) hx hb dX12_does_191 (by decide) (fun c_25 => ?_) (fun c_25 => ?_)
    · refine lv_iconst (v := 0) hx hb dX12_does_208 (by decide) ?_
      rw [hQQ]
      exact W.zret hx hb hr (nz_bool (Or.inl rfl)) (end_Hi o hP hD hS (by unfold s_X12_does_r; exact ((if_neg c_1).trans ((if_neg c_2).trans ((if_neg c_3).trans ((if_neg c_4).trans ((if_neg c_5).trans ((if_pos c_6).trans (if_neg c_25))))))).symm) (congrArg (fun (z1 : Nat → Int32) => [kX12 h q1 q4 q5 q6 q7 q9 q10 q11 x, aI y q6 154 z1, aI y q11 20 o]) (by unfold s_X12_does_w1; exact ((if_neg c_1).trans ((if_neg c_2).trans ((if_neg c_3).trans ((if_neg c_4).trans ((if_neg c_5).trans ((if_pos c_6).trans (if_neg c_25))))))).symm))) hS.2.2 dX12_does_209
    · refine lv_iload_n hx hb dX12_does_194 rfl (lv_at hl 3 rfl) ?_
      refine lv_if_ne (tgt := 208) hx hb dX12_does_195 (by decide) (fun c_26 => ?_) (fun c_26 => ?_)
      · refine lv_iconst (v := 0) hx hb dX12_does_208 (by decide) ?_
        rw [hQQ]
        exact W.zret hx hb hr (nz_bool (Or.inl rfl)) (end_Hi o hP hD hS (by unfold s_X12_does_r; exact ((if_neg c_1).trans ((if_neg c_2).trans ((if_neg c_3).trans ((if_neg c_4).trans ((if_neg c_5).trans ((if_pos c_6).trans ((if_pos c_25).trans (if_neg c_26)))))))).symm) (congrArg (fun (z1 : Nat → Int32) => [kX12 h q1 q4 q5 q6 q7 q9 q10 q11 x, aI y q6 154 z1, aI y q11 20 o]) (by unfold s_X12_does_w1; exact ((if_neg c_1).trans ((if_neg c_2).trans ((if_neg c_3).trans ((if_neg c_4).trans ((if_neg c_5).trans ((if_pos c_6).trans ((if_pos c_25).trans (if_neg c_26)))))))).symm))) hS.2.2 dX12_does_209
      · refine lv_aload_n hx hb dX12_does_198 rfl (lv_at hl 0 rfl) ?_
        refine va_get (D := G) (ci := 10) (v := .ref q6) (C := RX12) (T := TX12) (N := 15) hx hb hts i_X12 hown hK hP 0 rfl rfl 6 (by decide) (hts (.fieldLink RX12 19 "RelayTunerModel" "trial" "[I") (by decide +kernel)) (fun _ h9 => h9) rfl dX12_does_199 ?_
        refine lv_bipush (v := 17) hx hb dX12_does_202 (by decide) ?_
        refine al_i (D := G) (n := 154) (f := f) hx hb hK hP 1 0 rfl rfl 17 rfl (by decide) (by first | decide | omega) dX12_does_204 ?_
        refine lv_if_ne (tgt := 210) hx hb dX12_does_205 (by decide) (fun c_27 => ?_) (fun c_27 => ?_)
        · refine lv_aload_n hx hb dX12_does_210 rfl (lv_at hl 0 rfl) ?_
          refine va_get (D := G) (ci := 10) (v := .ref q6) (C := RX12) (T := TX12) (N := 15) hx hb hts i_X12 hown hK hP 0 rfl rfl 6 (by decide) (hts (.fieldLink RX12 19 "RelayTunerModel" "trial" "[I") (by decide +kernel)) (fun _ h9 => h9) rfl dX12_does_211 ?_
          refine cl_Hv (wr := [kX12 h q1 q4 q5 q6 q7 q9 q10 q11 x, aI y q11 20 o]) (fun _ : Unit => [kX12 h q1 q4 q5 q6 q7 q9 q10 q11 x, aI y q6 154 (s_X12_takeBackOn_w0 f), aI y q11 20 o]) [1] [0, 2] [0, 2, 1] (va_runS (As := [.ref q6]) (rest := []) ⟨hx, hb, hml, hown, hts⟩ (c_X12_takeBackOn l G y q6 f s.heap.size (open_in h17 c_27)) (va_cwS 1 hts gX12_does_X12_takeBackOn rfl rfl rfl (by decide +kernel) ⟨Nat.le_of_ble_eq_true rfl, Nat.le_of_ble_eq_true rfl⟩) (PH_S (hP.sub (ws' := [aI y q6 154 f]) [1] rfl) hK hN (hD.sub (ws' := [aI y q6 154 f]) [1] (by decide) rfl)) rfl rfl hl.1 rfl (lv_room (Nat.le_of_ble_eq_true rfl)) dX12_does_214 ⟨Nat.le_of_ble_eq_true rfl, Nat.le_of_ble_eq_true rfl⟩) hP hD hS hA rfl rfl rfl (by decide) rfl (fun _ => rfl) (fun _ H locs hP hD hS => ?_)
          have hP : va_P G vwCl [kX12 h q1 q4 q5 q6 q7 q9 q10 q11 x, aI y q6 154 (s_X12_takeBackOn_w0 f), aI y q11 20 o] H := hP
          have hD : va_D A [kX12 h q1 q4 q5 q6 q7 q9 q10 q11 x, aI y q6 154 (s_X12_takeBackOn_w0 f), aI y q11 20 o] := hD
          refine lv_iconst (v := 1) hx hb dX12_does_217 (by decide) ?_
          rw [hQQ]
          exact W.zret hx hb hr (nz_bool (Or.inr rfl)) (end_Hi o hP hD hS (by unfold s_X12_does_r; exact ((if_neg c_1).trans ((if_neg c_2).trans ((if_neg c_3).trans ((if_neg c_4).trans ((if_neg c_5).trans ((if_pos c_6).trans ((if_pos c_25).trans ((if_pos c_26).trans (if_neg c_27))))))))).symm) (congrArg (fun (z1 : Nat → Int32) => [kX12 h q1 q4 q5 q6 q7 q9 q10 q11 x, aI y q6 154 z1, aI y q11 20 o]) (by unfold s_X12_does_w1; exact ((if_neg c_1).trans ((if_neg c_2).trans ((if_neg c_3).trans ((if_neg c_4).trans ((if_neg c_5).trans ((if_pos c_6).trans ((if_pos c_25).trans ((if_pos c_26).trans (if_neg c_27))))))))).symm))) hS.2.2 dX12_does_218
        · refine lv_iconst (v := 0) hx hb dX12_does_208 (by decide) ?_
          rw [hQQ]
          exact W.zret hx hb hr (nz_bool (Or.inl rfl)) (end_Hi o hP hD hS (by unfold s_X12_does_r; exact ((if_neg c_1).trans ((if_neg c_2).trans ((if_neg c_3).trans ((if_neg c_4).trans ((if_neg c_5).trans ((if_pos c_6).trans ((if_pos c_25).trans ((if_pos c_26).trans (if_pos c_27))))))))).symm) (congrArg (fun (z1 : Nat → Int32) => [kX12 h q1 q4 q5 q6 q7 q9 q10 q11 x, aI y q6 154 z1, aI y q11 20 o]) (by unfold s_X12_does_w1; exact ((if_neg c_1).trans ((if_neg c_2).trans ((if_neg c_3).trans ((if_neg c_4).trans ((if_neg c_5).trans ((if_pos c_6).trans ((if_pos c_25).trans ((if_pos c_26).trans (if_pos c_27))))))))).symm))) hS.2.2 dX12_does_209
  rcases Decidable.em (a1 = 7) with c_7 | c_7
  · refine lv_tableIn (tgt := 219) hx hb dX12_does_1 (by rw [c_7]; decide) (by rw [c_7]; decide) (by rw [c_7]; first | done | rfl) (by decide) ?_
    refine lv_iload_n hx hb dX12_does_219 rfl (lv_at hl 2 rfl) ?_
    refine lv_iconst (v := 2) hx hb dX12_does_220 (by decide) ?_
    have J249_31 : ∀ (v_29 : Int32) (e_v_29 : v_29 = (if 2 ≤ a2 then 0 else (let v_30 : Int32 := (if a2 = 0 then a3 else (-a3)); (if (f 12) < v_30 then 0 else 1)))) (z_30 : v_29 = 0 ∨ v_29 = 1) (ls : Array Slot) (hl : lv_has ls 4 []), W p l e (headSpec wsX12_does rmX12_does).room s m ([.ref h, .int a1, .int a2, .int a3] : List Value).toArray below meth c s.heap [] 0 0 QQ (F0 m 249 ls [.int v_29]) := by
      intro v_29 e_v_29 z_30 ls hl
      rw [hQQ]
      exact W.zret hx hb hr (nz_bool z_30) (end_Hi o hP hD hS (by subst e_v_29; unfold s_X12_does_r; exact ((if_neg c_1).trans ((if_neg c_2).trans ((if_neg c_3).trans ((if_neg c_4).trans ((if_neg c_5).trans ((if_neg c_6).trans (if_pos c_7))))))).symm) (congrArg (fun (z1 : Nat → Int32) => [kX12 h q1 q4 q5 q6 q7 q9 q10 q11 x, aI y q6 154 z1, aI y q11 20 o]) (by subst e_v_29; unfold s_X12_does_w1; exact ((if_neg c_1).trans ((if_neg c_2).trans ((if_neg c_3).trans ((if_neg c_4).trans ((if_neg c_5).trans ((if_neg c_6).trans (if_pos c_7))))))).symm))) hS.2.2 dX12_does_249
    refine lv_icmp_ge (tgt := 248) hx hb dX12_does_221 (by decide) (fun c_28 => ?_) (fun c_28 => ?_)
    · refine lv_iconst (v := 0) hx hb dX12_does_248 (by decide) ?_
      exact J249_31 _ (if_pos c_28).symm (Or.inl rfl) ls (lv_sub hl [] rfl)
    · refine lv_aload_n hx hb dX12_does_224 rfl (lv_at hl 0 rfl) ?_
      refine va_get (D := G) (ci := 10) (v := .ref q6) (C := RX12) (T := TX12) (N := 15) hx hb hts i_X12 hown hK hP 0 rfl rfl 6 (by decide) (hts (.fieldLink RX12 19 "RelayTunerModel" "trial" "[I") (by decide +kernel)) (fun _ h9 => h9) rfl dX12_does_225 ?_
      refine lv_bipush (v := 12) hx hb dX12_does_228 (by decide) ?_
      refine al_i (D := G) (n := 154) (f := f) hx hb hK hP 1 0 rfl rfl 12 rfl (by decide) (by first | decide | omega) dX12_does_230 ?_
      refine lv_iload_n hx hb dX12_does_231 rfl (lv_at hl 2 rfl) ?_
      have J241_34 : ∀ (v_33 : Int32) (e_v_33 : v_33 = (if a2 = 0 then a3 else (-a3))) (ls : Array Slot) (hl : lv_has ls 4 []), W p l e (headSpec wsX12_does rmX12_does).room s m ([.ref h, .int a1, .int a2, .int a3] : List Value).toArray below meth c s.heap [] 0 0 QQ (F0 m 241 ls [.int v_33, .int (f 12)]) := by
        intro v_33 e_v_33 ls hl
        refine lv_icmp_lt (tgt := 248) hx hb dX12_does_241 (by decide) (fun c_35 => ?_) (fun c_35 => ?_)
        · refine lv_iconst (v := 0) hx hb dX12_does_248 (by decide) ?_
          subst e_v_33
          exact J249_31 _ ((if_neg c_28).trans (if_pos c_35)).symm (Or.inl rfl) ls (lv_sub hl [] rfl)
        · refine lv_iconst (v := 1) hx hb dX12_does_244 (by decide) ?_
          refine lv_goto (tgt := 249) hx hb dX12_does_245 (by decide) ?_
          subst e_v_33
          exact J249_31 _ ((if_neg c_28).trans (if_neg c_35)).symm (Or.inr rfl) ls (lv_sub hl [] rfl)
      refine lv_if_ne (tgt := 239) hx hb dX12_does_232 (by decide) (fun c_32 => ?_) (fun c_32 => ?_)
      · refine lv_iload_n hx hb dX12_does_239 rfl (lv_at hl 3 rfl) ?_
        refine lv_ineg hx hb dX12_does_240 ?_
        exact J241_34 _ (if_neg c_32).symm ls (lv_sub hl [] rfl)
      · refine lv_iload_n hx hb dX12_does_235 rfl (lv_at hl 3 rfl) ?_
        refine lv_goto (tgt := 241) hx hb dX12_does_236 (by decide) ?_
        exact J241_34 _ (if_pos c_32).symm ls (lv_sub hl [] rfl)
  rcases Decidable.em (a1 = 8) with c_8 | c_8
  · refine lv_tableIn (tgt := 250) hx hb dX12_does_1 (by rw [c_8]; decide) (by rw [c_8]; decide) (by rw [c_8]; first | done | rfl) (by decide) ?_
    refine lv_iload_n hx hb dX12_does_250 rfl (lv_at hl 2 rfl) ?_
    have J277_40 : ∀ (o_38 : Nat → Int32) (v_37 : Int32) (e_v_37 : v_37 = (if a2 = 0 then (if 100 ≤ a3 then 0 else (if (nI (goodP f)) < a3 then 0 else 1)) else 0)) (z_39 : v_37 = 0 ∨ v_37 = 1) (H : Heap) (locs : List Loc) (hP : va_P G vwCl [kX12 h q1 q4 q5 q6 q7 q9 q10 q11 x, aI y q6 154 f, aI y q11 20 o_38] H) (hD : va_D A [kX12 h q1 q4 q5 q6 q7 q9 q10 q11 x, aI y q6 154 f, aI y q11 20 o_38]) (hS : va_S A s.heap H locs) (ls : Array Slot) (hl : lv_has ls 4 []), W p l e (headSpec wsX12_does rmX12_does).room s m ([.ref h, .int a1, .int a2, .int a3] : List Value).toArray below meth c H locs 0 0 QQ (F0 m 277 ls [.int v_37]) := by
      intro o_38 v_37 e_v_37 z_39 H locs hP hD hS ls hl
      rw [hQQ]
      exact W.zret hx hb hr (nz_bool z_39) (end_Hi o_38 hP hD hS (by subst e_v_37; unfold s_X12_does_r; exact ((if_neg c_1).trans ((if_neg c_2).trans ((if_neg c_3).trans ((if_neg c_4).trans ((if_neg c_5).trans ((if_neg c_6).trans ((if_neg c_7).trans (if_pos c_8)))))))).symm) (congrArg (fun (z1 : Nat → Int32) => [kX12 h q1 q4 q5 q6 q7 q9 q10 q11 x, aI y q6 154 z1, aI y q11 20 o_38]) (by subst e_v_37; unfold s_X12_does_w1; exact ((if_neg c_1).trans ((if_neg c_2).trans ((if_neg c_3).trans ((if_neg c_4).trans ((if_neg c_5).trans ((if_neg c_6).trans ((if_neg c_7).trans (if_pos c_8)))))))).symm))) hS.2.2 dX12_does_277
    refine lv_if_ne (tgt := 276) hx hb dX12_does_251 (by decide) (fun c_36 => ?_) (fun c_36 => ?_)
    · refine lv_iconst (v := 0) hx hb dX12_does_276 (by decide) ?_
      exact J277_40 _ _ (if_neg c_36).symm (Or.inl rfl) s.heap [] hP hD hS ls (lv_sub hl [] rfl)
    · refine lv_iload_n hx hb dX12_does_254 rfl (lv_at hl 3 rfl) ?_
      refine lv_bipush (v := 100) hx hb dX12_does_255 (by decide) ?_
      refine lv_icmp_ge (tgt := 276) hx hb dX12_does_257 (by decide) (fun c_41 => ?_) (fun c_41 => ?_)
      · refine lv_iconst (v := 0) hx hb dX12_does_276 (by decide) ?_
        exact J277_40 _ _ ((if_pos c_36).trans (if_pos c_41)).symm (Or.inl rfl) s.heap [] hP hD hS ls (lv_sub hl [] rfl)
      · refine lv_aload_n hx hb dX12_does_260 rfl (lv_at hl 0 rfl) ?_
        refine lv_aload_n hx hb dX12_does_261 rfl (lv_at hl 0 rfl) ?_
        refine va_get (D := G) (ci := 10) (v := .ref q6) (C := RX12) (T := TX12) (N := 15) hx hb hts i_X12 hown hK hP 0 rfl rfl 6 (by decide) (hts (.fieldLink RX12 19 "RelayTunerModel" "trial" "[I") (by decide +kernel)) (fun _ h9 => h9) rfl dX12_does_262 ?_
        refine cl_Hi (wr := []) (fun u : (Nat → Int32) => [kX12 h q1 q4 q5 q6 q7 q9 q10 q11 x, aI y q6 154 f, aI y q11 20 u]) [0, 1, 2] [] [0, 1, 2] (va_runV (As := [.ref q6]) (rest := []) ⟨hx, hb, hml, hown, hts⟩ (c_X12_goodOf l G y h q6 q1 q4 q5 q6 q7 q9 q10 q11 x f o s.heap.size hg.2.2.2) (cwV 1 hts gX12_does_X12_goodOf rfl rfl rfl (by decide +kernel) ⟨Nat.le_of_ble_eq_true rfl, Nat.le_of_ble_eq_true rfl⟩) (PH_V (hP.sub (ws' := [kX12 h q1 q4 q5 q6 q7 q9 q10 q11 x, aI y q6 154 f, aI y q11 20 o]) [0, 1, 2] rfl) hK hN (hD.sub (ws' := [kX12 h q1 q4 q5 q6 q7 q9 q10 q11 x, aI y q6 154 f, aI y q11 20 o]) [0, 1, 2] (by decide) rfl) (ci := 10) (q0 := 0) rfl rfl) rfl rfl hl.1 rfl (lv_room (Nat.le_of_ble_eq_true rfl)) dX12_does_265 ⟨Nat.le_of_ble_eq_true rfl, Nat.le_of_ble_eq_true rfl⟩) hP hD hS hA rfl rfl rfl (by decide) rfl (fun _ => rfl) (fun u H locs hP hD hS => ?_)
        obtain ⟨o_42, rfl⟩ : ∃ zq9, zq9 = u := ⟨_, rfl⟩
        have hP : va_P G vwCl [kX12 h q1 q4 q5 q6 q7 q9 q10 q11 x, aI y q6 154 f, aI y q11 20 o_42] H := hP
        have hD : va_D A [kX12 h q1 q4 q5 q6 q7 q9 q10 q11 x, aI y q6 154 f, aI y q11 20 o_42] := hD
        refine lv_iload_n hx hb dX12_does_268 rfl (lv_at hl 3 rfl) ?_
        refine lv_icmp_lt (tgt := 276) hx hb dX12_does_269 (by decide) (fun c_43 => ?_) (fun c_43 => ?_)
        · refine lv_iconst (v := 0) hx hb dX12_does_276 (by decide) ?_
          exact J277_40 _ _ ((if_pos c_36).trans ((if_neg c_41).trans (if_pos c_43))).symm (Or.inl rfl) H locs hP hD hS ls (lv_sub hl [] rfl)
        · refine lv_iconst (v := 1) hx hb dX12_does_272 (by decide) ?_
          refine lv_goto (tgt := 277) hx hb dX12_does_273 (by decide) ?_
          exact J277_40 _ _ ((if_pos c_36).trans ((if_neg c_41).trans (if_neg c_43))).symm (Or.inr rfl) H locs hP hD hS ls (lv_sub hl [] rfl)
  rcases Decidable.em (a1 = 9) with c_9 | c_9
  · refine lv_tableIn (tgt := 278) hx hb dX12_does_1 (by rw [c_9]; decide) (by rw [c_9]; decide) (by rw [c_9]; first | done | rfl) (by decide) ?_
    refine lv_iload_n hx hb dX12_does_278 rfl (lv_at hl 2 rfl) ?_
    have J304_47 : ∀ (v_45 : Int32) (e_v_45 : v_45 = (if a2 = 0 then (if 10 ≤ a3 then 0 else (if (f 17) = a3 then 1 else 0)) else 0)) (z_46 : v_45 = 0 ∨ v_45 = 1) (ls : Array Slot) (hl : lv_has ls 4 []), W p l e (headSpec wsX12_does rmX12_does).room s m ([.ref h, .int a1, .int a2, .int a3] : List Value).toArray below meth c s.heap [] 0 0 QQ (F0 m 304 ls [.int v_45]) := by
      intro v_45 e_v_45 z_46 ls hl
      rw [hQQ]
      exact W.zret hx hb hr (nz_bool z_46) (end_Hi o hP hD hS (by subst e_v_45; unfold s_X12_does_r; exact ((if_neg c_1).trans ((if_neg c_2).trans ((if_neg c_3).trans ((if_neg c_4).trans ((if_neg c_5).trans ((if_neg c_6).trans ((if_neg c_7).trans ((if_neg c_8).trans (if_pos c_9))))))))).symm) (congrArg (fun (z1 : Nat → Int32) => [kX12 h q1 q4 q5 q6 q7 q9 q10 q11 x, aI y q6 154 z1, aI y q11 20 o]) (by subst e_v_45; unfold s_X12_does_w1; exact ((if_neg c_1).trans ((if_neg c_2).trans ((if_neg c_3).trans ((if_neg c_4).trans ((if_neg c_5).trans ((if_neg c_6).trans ((if_neg c_7).trans ((if_neg c_8).trans (if_pos c_9))))))))).symm))) hS.2.2 dX12_does_304
    refine lv_if_ne (tgt := 303) hx hb dX12_does_279 (by decide) (fun c_44 => ?_) (fun c_44 => ?_)
    · refine lv_iconst (v := 0) hx hb dX12_does_303 (by decide) ?_
      exact J304_47 _ (if_neg c_44).symm (Or.inl rfl) ls (lv_sub hl [] rfl)
    · refine lv_iload_n hx hb dX12_does_282 rfl (lv_at hl 3 rfl) ?_
      refine lv_bipush (v := 10) hx hb dX12_does_283 (by decide) ?_
      refine lv_icmp_ge (tgt := 303) hx hb dX12_does_285 (by decide) (fun c_48 => ?_) (fun c_48 => ?_)
      · refine lv_iconst (v := 0) hx hb dX12_does_303 (by decide) ?_
        exact J304_47 _ ((if_pos c_44).trans (if_pos c_48)).symm (Or.inl rfl) ls (lv_sub hl [] rfl)
      · refine lv_aload_n hx hb dX12_does_288 rfl (lv_at hl 0 rfl) ?_
        refine va_get (D := G) (ci := 10) (v := .ref q6) (C := RX12) (T := TX12) (N := 15) hx hb hts i_X12 hown hK hP 0 rfl rfl 6 (by decide) (hts (.fieldLink RX12 19 "RelayTunerModel" "trial" "[I") (by decide +kernel)) (fun _ h9 => h9) rfl dX12_does_289 ?_
        refine lv_bipush (v := 17) hx hb dX12_does_292 (by decide) ?_
        refine al_i (D := G) (n := 154) (f := f) hx hb hK hP 1 0 rfl rfl 17 rfl (by decide) (by first | decide | omega) dX12_does_294 ?_
        refine lv_iload_n hx hb dX12_does_295 rfl (lv_at hl 3 rfl) ?_
        refine lv_icmp_ne (tgt := 303) hx hb dX12_does_296 (by decide) (fun c_49 => ?_) (fun c_49 => ?_)
        · refine lv_iconst (v := 0) hx hb dX12_does_303 (by decide) ?_
          exact J304_47 _ ((if_pos c_44).trans ((if_neg c_48).trans (if_neg c_49))).symm (Or.inl rfl) ls (lv_sub hl [] rfl)
        · refine lv_iconst (v := 1) hx hb dX12_does_299 (by decide) ?_
          refine lv_goto (tgt := 304) hx hb dX12_does_300 (by decide) ?_
          exact J304_47 _ ((if_pos c_44).trans ((if_neg c_48).trans (if_pos c_49))).symm (Or.inr rfl) ls (lv_sub hl [] rfl)
  refine lv_tableOut (tgt := 305) hx hb dX12_does_1 (by have e0 : a1.toInt ≠ 1 := fun h => c_1 (Int32.toInt_inj.mp h); have e1 : a1.toInt ≠ 2 := fun h => c_2 (Int32.toInt_inj.mp h); have e2 : a1.toInt ≠ 3 := fun h => c_3 (Int32.toInt_inj.mp h); have e3 : a1.toInt ≠ 4 := fun h => c_4 (Int32.toInt_inj.mp h); have e4 : a1.toInt ≠ 5 := fun h => c_5 (Int32.toInt_inj.mp h); have e5 : a1.toInt ≠ 6 := fun h => c_6 (Int32.toInt_inj.mp h); have e6 : a1.toInt ≠ 7 := fun h => c_7 (Int32.toInt_inj.mp h); have e7 : a1.toInt ≠ 8 := fun h => c_8 (Int32.toInt_inj.mp h); have e8 : a1.toInt ≠ 9 := fun h => c_9 (Int32.toInt_inj.mp h); omega) (by decide) ?_
  refine lv_iconst (v := 0) hx hb dX12_does_305 (by decide) ?_
  rw [hQQ]
  exact W.zret hx hb hr (nz_bool (Or.inl rfl)) (end_Hi o hP hD hS (by unfold s_X12_does_r; exact ((if_neg c_1).trans ((if_neg c_2).trans ((if_neg c_3).trans ((if_neg c_4).trans ((if_neg c_5).trans ((if_neg c_6).trans ((if_neg c_7).trans ((if_neg c_8).trans (if_neg c_9))))))))).symm) (congrArg (fun (z1 : Nat → Int32) => [kX12 h q1 q4 q5 q6 q7 q9 q10 q11 x, aI y q6 154 z1, aI y q11 20 o]) (by unfold s_X12_does_w1; exact ((if_neg c_1).trans ((if_neg c_2).trans ((if_neg c_3).trans ((if_neg c_4).trans ((if_neg c_5).trans ((if_neg c_6).trans ((if_neg c_7).trans ((if_neg c_8).trans (if_neg c_9))))))))).symm))) hS.2.2 dX12_does_306

theorem tick_open {f : Nat → Int32} : s_X12_tickOn_w0 f 17 = f 17 := by
  rw [tick_def]
  have e := tkAll_keep (f := f) (j := 17) (by decide) (by decide) (by decide) (by decide) (by decide) (by decide) (by decide) (by decide)
  split
  · rw [cross_keep (by decide) (by decide), e]
  · exact e
theorem it_open {f : Nat → Int32} : ∀ k, itF s_X12_tickOn_w0 k f 17 = f 17
  | 0 => rfl
  | k + 1 => tick_open.trans (it_open k)
theorem mode_keep {a : Int32} {f : Nat → Int32} {j : Nat} (h : j ≠ 11) (h1 : j ≠ 14) (h2 : j ≠ 15) (h3 : j ≠ 19) (h4 : j ≠ 21) (h5 : j ≠ 22) : s_X12_modeOn_w0 a f j = f j := by
  unfold s_X12_modeOn_w0
  try dsimp only
  split
  · rfl
  · split
    · rw [upd_ne h3, upd_ne h2, upd_ne h5, upd_ne h4, upd_ne h1, upd_ne h]
    · rw [upd_ne h5, upd_ne h4, upd_ne h1, upd_ne h]
theorem rule_keep {a : Int32} {f : Nat → Int32} {j : Nat} (h : 16 ≤ j) (h3 : j ≠ 19) (h4 : j ≠ 21) (h5 : j ≠ 22) : s_X12_ruleOn_w1 a f j = f j := by
  unfold s_X12_ruleOn_w1
  rw [mode_keep (by omega) (by omega) (by omega) h3 h4 h5, upd_ne (by omega), upd_ne (by omega), upd_ne (by omega)]
/-- pages on which the model runs a script -/
def SK (f : Nat → Int32) : Prop := TK f ∧ vp_in (f 17) 9

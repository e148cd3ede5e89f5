def s_X11_isTicks_r (a1 : Int32) : Int32 := (let v_2 : Int32 := (if a1 < 1 then 0 else (if 200 < a1 then 0 else 1)); v_2)
theorem z_X11_isTicks (a1 : Int32) : s_X11_isTicks_r a1 = 0 ∨ s_X11_isTicks_r a1 = 1 := by unfold s_X11_isTicks_r; (try dsimp only); exact (z_ite (Or.inl rfl) (z_ite (Or.inl rfl) (Or.inr rfl)))
abbrev rmX11_isTicks : Room := ({ frames := 0, cells := 0, slots := 0, locals := 0 } : Room)
set_option maxHeartbeats 4000000 in
set_option maxRecDepth 100000 in
theorem c_X11_isTicks (l : Launch) (G : va_G) (y : Nat → ClassId) (a1 : Int32) : Met l yX11_isTicks wsX11_isTicks rmX11_isTicks (PR G y [.int a1] []) (QRi (s_X11_isTicks_r a1)) 0 0 (fun _ => False) := by
  refine Met.ofW (cc := cX11_isTicks) (maxL := 1) (ret := (some .boolean)) (by decide) rfl ?_
  intro p e s m args below meth c s₁ B hml hv
  obtain ⟨rfl, hP, hK, hN⟩ := hv
  have hx := B.exec
  have hb := B.bytes
  have hr := B.returns
  have hts := atoms_spec (ws := wsX11_isTicks) B.pre
  have hown : s.vm.findClass RX11 = some m.cls := findClass_of_methodNamed B.named
  have hlocks := B.notSynchronized
  have hl := lv_entry ([.int a1]) (n := 1) (Nat.le_of_ble_eq_true rfl)
  rw [lg_entry_eq]
  generalize (lg_sl ([.int a1]) ++ List.replicate (1 - (lg_sl ([.int a1])).length) Slot.unset).toArray = ls at hl ⊢
  have hl : lv_has ls 1 [(0, .int a1)] := hl
  obtain ⟨QQ, hQQ⟩ : ∃ zq9, zq9 = MQ below (QRi (s_X11_isTicks_r a1)) ([.int a1] : List Value).toArray s 0 0 (fun _ => False) := ⟨_, rfl⟩
  rw [← hQQ]
  refine lv_iload_n hx hb dX11_isTicks_0 rfl (lv_at hl 0 rfl) ?_
  refine lv_iconst (v := 1) hx hb dX11_isTicks_1 (by decide) ?_
  have J17_4 : ∀ (v_2 : Int32) (e_v_2 : v_2 = (if a1 < 1 then 0 else (if 200 < a1 then 0 else 1))) (z_3 : v_2 = 0 ∨ v_2 = 1) (ls : Array Slot) (hl : lv_has ls 1 []), W p l e (headSpec wsX11_isTicks rmX11_isTicks).room s m ([.int a1] : List Value).toArray below meth c s.heap [] 0 0 QQ (F0 m 17 ls [.int v_2]) := by
    intro v_2 e_v_2 z_3 ls hl
    rw [hQQ]
    exact W.zret hx hb hr (nz_bool z_3) (end_Ri (by subst e_v_2; unfold s_X11_isTicks_r; exact rfl)) (fun _ h => nomatch h) dX11_isTicks_17
  refine lv_icmp_lt (tgt := 16) hx hb dX11_isTicks_2 (by decide) (fun c_1 => ?_) (fun c_1 => ?_)
  · refine lv_iconst (v := 0) hx hb dX11_isTicks_16 (by decide) ?_
    exact J17_4 _ (if_pos c_1).symm (Or.inl rfl) ls (lv_sub hl [] rfl)
  · refine lv_iload_n hx hb dX11_isTicks_5 rfl (lv_at hl 0 rfl) ?_
    refine lv_sipush (v := 200) hx hb dX11_isTicks_6 (by decide) ?_
    refine lv_icmp_gt (tgt := 16) hx hb dX11_isTicks_9 (by decide) (fun c_5 => ?_) (fun c_5 => ?_)
    · refine lv_iconst (v := 0) hx hb dX11_isTicks_16 (by decide) ?_
      exact J17_4 _ ((if_neg c_1).trans (if_pos c_5)).symm (Or.inl rfl) ls (lv_sub hl [] rfl)
    · refine lv_iconst (v := 1) hx hb dX11_isTicks_12 (by decide) ?_
      refine lv_goto (tgt := 17) hx hb dX11_isTicks_13 (by decide) ?_
      exact J17_4 _ ((if_neg c_1).trans (if_neg c_5)).symm (Or.inr rfl) ls (lv_sub hl [] rfl)

def s_X11_isMode_r (a1 : Int32) : Int32 := (let v_2 : Int32 := (if a1 < 0 then 0 else (if 2 < a1 then 0 else 1)); v_2)
theorem z_X11_isMode (a1 : Int32) : s_X11_isMode_r a1 = 0 ∨ s_X11_isMode_r a1 = 1 := by unfold s_X11_isMode_r; (try dsimp only); exact (z_ite (Or.inl rfl) (z_ite (Or.inl rfl) (Or.inr rfl)))
abbrev rmX11_isMode : Room := ({ frames := 0, cells := 0, slots := 0, locals := 0 } : Room)
set_option maxHeartbeats 4000000 in
set_option maxRecDepth 100000 in
theorem c_X11_isMode (l : Launch) (G : va_G) (y : Nat → ClassId) (a1 : Int32) : Met l yX11_isMode wsX11_isMode rmX11_isMode (PR G y [.int a1] []) (QRi (s_X11_isMode_r a1)) 0 0 (fun _ => False) := by
  refine Met.ofW (cc := cX11_isMode) (maxL := 1) (ret := (some .boolean)) (by decide) rfl ?_
  intro p e s m args below meth c s₁ B hml hv
  obtain ⟨rfl, hP, hK, hN⟩ := hv
  have hx := B.exec
  have hb := B.bytes
  have hr := B.returns
  have hts := atoms_spec (ws := wsX11_isMode) B.pre
  have hown : s.vm.findClass RX11 = some m.cls := findClass_of_methodNamed B.named
  have hlocks := B.notSynchronized
  have hl := lv_entry ([.int a1]) (n := 1) (Nat.le_of_ble_eq_true rfl)
  rw [lg_entry_eq]
  generalize (lg_sl ([.int a1]) ++ List.replicate (1 - (lg_sl ([.int a1])).length) Slot.unset).toArray = ls at hl ⊢
  have hl : lv_has ls 1 [(0, .int a1)] := hl
  obtain ⟨QQ, hQQ⟩ : ∃ zq9, zq9 = MQ below (QRi (s_X11_isMode_r a1)) ([.int a1] : List Value).toArray s 0 0 (fun _ => False) := ⟨_, rfl⟩
  rw [← hQQ]
  refine lv_iload_n hx hb dX11_isMode_0 rfl (lv_at hl 0 rfl) ?_
  have J14_4 : ∀ (v_2 : Int32) (e_v_2 : v_2 = (if a1 < 0 then 0 else (if 2 < a1 then 0 else 1))) (z_3 : v_2 = 0 ∨ v_2 = 1) (ls : Array Slot) (hl : lv_has ls 1 []), W p l e (headSpec wsX11_isMode rmX11_isMode).room s m ([.int a1] : List Value).toArray below meth c s.heap [] 0 0 QQ (F0 m 14 ls [.int v_2]) := by
    intro v_2 e_v_2 z_3 ls hl
    rw [hQQ]
    exact W.zret hx hb hr (nz_bool z_3) (end_Ri (by subst e_v_2; unfold s_X11_isMode_r; exact rfl)) (fun _ h => nomatch h) dX11_isMode_14
  refine lv_if_lt (tgt := 13) hx hb dX11_isMode_1 (by decide) (fun c_1 => ?_) (fun c_1 => ?_)
  · refine lv_iconst (v := 0) hx hb dX11_isMode_13 (by decide) ?_
    exact J14_4 _ (if_pos c_1).symm (Or.inl rfl) ls (lv_sub hl [] rfl)
  · refine lv_iload_n hx hb dX11_isMode_4 rfl (lv_at hl 0 rfl) ?_
    refine lv_iconst (v := 2) hx hb dX11_isMode_5 (by decide) ?_
    refine lv_icmp_gt (tgt := 13) hx hb dX11_isMode_6 (by decide) (fun c_5 => ?_) (fun c_5 => ?_)
    · refine lv_iconst (v := 0) hx hb dX11_isMode_13 (by decide) ?_
      exact J14_4 _ ((if_neg c_1).trans (if_pos c_5)).symm (Or.inl rfl) ls (lv_sub hl [] rfl)
    · refine lv_iconst (v := 1) hx hb dX11_isMode_9 (by decide) ?_
      refine lv_goto (tgt := 14) hx hb dX11_isMode_10 (by decide) ?_
      exact J14_4 _ ((if_neg c_1).trans (if_neg c_5)).symm (Or.inr rfl) ls (lv_sub hl [] rfl)

def s_X11_isDisturbance_r (a1 : Int32) : Int32 := (let v_2 : Int32 := (if a1 < (-500) then 0 else (if 500 < a1 then 0 else 1)); v_2)
theorem z_X11_isDisturbance (a1 : Int32) : s_X11_isDisturbance_r a1 = 0 ∨ s_X11_isDisturbance_r a1 = 1 := by unfold s_X11_isDisturbance_r; (try dsimp only); exact (z_ite (Or.inl rfl) (z_ite (Or.inl rfl) (Or.inr rfl)))
abbrev rmX11_isDisturbance : Room := ({ frames := 0, cells := 0, slots := 0, locals := 0 } : Room)
set_option maxHeartbeats 4000000 in
set_option maxRecDepth 100000 in
theorem c_X11_isDisturbance (l : Launch) (G : va_G) (y : Nat → ClassId) (a1 : Int32) : Met l yX11_isDisturbance wsX11_isDisturbance rmX11_isDisturbance (PR G y [.int a1] []) (QRi (s_X11_isDisturbance_r a1)) 0 0 (fun _ => False) := by
  refine Met.ofW (cc := cX11_isDisturbance) (maxL := 1) (ret := (some .boolean)) (by decide) rfl ?_
  intro p e s m args below meth c s₁ B hml hv
  obtain ⟨rfl, hP, hK, hN⟩ := hv
  have hx := B.exec
  have hb := B.bytes
  have hr := B.returns
  have hts := atoms_spec (ws := wsX11_isDisturbance) B.pre
  have hown : s.vm.findClass RX11 = some m.cls := findClass_of_methodNamed B.named
  have hlocks := B.notSynchronized
  have hl := lv_entry ([.int a1]) (n := 1) (Nat.le_of_ble_eq_true rfl)
  rw [lg_entry_eq]
  generalize (lg_sl ([.int a1]) ++ List.replicate (1 - (lg_sl ([.int a1])).length) Slot.unset).toArray = ls at hl ⊢
  have hl : lv_has ls 1 [(0, .int a1)] := hl
  obtain ⟨QQ, hQQ⟩ : ∃ zq9, zq9 = MQ below (QRi (s_X11_isDisturbance_r a1)) ([.int a1] : List Value).toArray s 0 0 (fun _ => False) := ⟨_, rfl⟩
  rw [← hQQ]
  refine lv_iload_n hx hb dX11_isDisturbance_0 rfl (lv_at hl 0 rfl) ?_
  refine lv_sipush (v := (-500)) hx hb dX11_isDisturbance_1 (by decide) ?_
  have J19_4 : ∀ (v_2 : Int32) (e_v_2 : v_2 = (if a1 < (-500) then 0 else (if 500 < a1 then 0 else 1))) (z_3 : v_2 = 0 ∨ v_2 = 1) (ls : Array Slot) (hl : lv_has ls 1 []), W p l e (headSpec wsX11_isDisturbance rmX11_isDisturbance).room s m ([.int a1] : List Value).toArray below meth c s.heap [] 0 0 QQ (F0 m 19 ls [.int v_2]) := by
    intro v_2 e_v_2 z_3 ls hl
    rw [hQQ]
    exact W.zret hx hb hr (nz_bool z_3) (end_Ri (by subst e_v_2; unfold s_X11_isDisturbance_r; exact rfl)) (fun _ h => nomatch h) dX11_isDisturbance_19
  refine lv_icmp_lt (tgt := 18) hx hb dX11_isDisturbance_4 (by decide) (fun c_1 => ?_) (fun c_1 => ?_)
  · refine lv_iconst (v := 0) hx hb dX11_isDisturbance_18 (by decide) ?_
    exact J19_4 _ (if_pos c_1).symm (Or.inl rfl) ls (lv_sub hl [] rfl)
  · refine lv_iload_n hx hb dX11_isDisturbance_7 rfl (lv_at hl 0 rfl) ?_
    refine lv_sipush (v := 500) hx hb dX11_isDisturbance_8 (by decide) ?_
    refine lv_icmp_gt (tgt := 18) hx hb dX11_isDisturbance_11 (by decide) (fun c_5 => ?_) (fun c_5 => ?_)
    · refine lv_iconst (v := 0) hx hb dX11_isDisturbance_18 (by decide) ?_
      exact J19_4 _ ((if_neg c_1).trans (if_pos c_5)).symm (Or.inl rfl) ls (lv_sub hl [] rfl)
    · refine lv_iconst (v := 1) hx hb dX11_isDisturbance_14 (by decide) ?_
      refine lv_goto (tgt := 19) hx hb dX11_isDisturbance_15 (by decide) ?_
      exact J19_4 _ ((if_neg c_1).trans (if_neg c_5)).symm (Or.inr rfl) ls (lv_sub hl [] rfl)

def s_X11_isRule_r (a1 : Int32) : Int32 := (let v_2 : Int32 := (if a1 < 0 then 0 else (if 4 ≤ a1 then 0 else 1)); v_2)
theorem z_X11_isRule (a1 : Int32) : s_X11_isRule_r a1 = 0 ∨ s_X11_isRule_r a1 = 1 := by unfold s_X11_isRule_r; (try dsimp only); exact (z_ite (Or.inl rfl) (z_ite (Or.inl rfl) (Or.inr rfl)))
abbrev rmX11_isRule : Room := ({ frames := 0, cells := 0, slots := 0, locals := 0 } : Room)
set_option maxHeartbeats 4000000 in
set_option maxRecDepth 100000 in
theorem c_X11_isRule (l : Launch) (G : va_G) (y : Nat → ClassId) (a1 : Int32) : Met l yX11_isRule wsX11_isRule rmX11_isRule (PR G y [.int a1] []) (QRi (s_X11_isRule_r a1)) 0 0 (fun _ => False) := by
  refine Met.ofW (cc := cX11_isRule) (maxL := 1) (ret := (some .boolean)) (by decide) rfl ?_
  intro p e s m args below meth c s₁ B hml hv
  obtain ⟨rfl, hP, hK, hN⟩ := hv
  have hx := B.exec
  have hb := B.bytes
  have hr := B.returns
  have hts := atoms_spec (ws := wsX11_isRule) B.pre
  have hown : s.vm.findClass RX11 = some m.cls := findClass_of_methodNamed B.named
  have hlocks := B.notSynchronized
  have hl := lv_entry ([.int a1]) (n := 1) (Nat.le_of_ble_eq_true rfl)
  rw [lg_entry_eq]
  generalize (lg_sl ([.int a1]) ++ List.replicate (1 - (lg_sl ([.int a1])).length) Slot.unset).toArray = ls at hl ⊢
  have hl : lv_has ls 1 [(0, .int a1)] := hl
  obtain ⟨QQ, hQQ⟩ : ∃ zq9, zq9 = MQ below (QRi (s_X11_isRule_r a1)) ([.int a1] : List Value).toArray s 0 0 (fun _ => False) := ⟨_, rfl⟩
  rw [← hQQ]
  refine lv_iload_n hx hb dX11_isRule_0 rfl (lv_at hl 0 rfl) ?_
  have J14_4 : ∀ (v_2 : Int32) (e_v_2 : v_2 = (if a1 < 0 then 0 else (if 4 ≤ a1 then 0 else 1))) (z_3 : v_2 = 0 ∨ v_2 = 1) (ls : Array Slot) (hl : lv_has ls 1 []), W p l e (headSpec wsX11_isRule rmX11_isRule).room s m ([.int a1] : List Value).toArray below meth c s.heap [] 0 0 QQ (F0 m 14 ls [.int v_2]) := by
    intro v_2 e_v_2 z_3 ls hl
    rw [hQQ]
    exact W.zret hx hb hr (nz_bool z_3) (end_Ri (by subst e_v_2; unfold s_X11_isRule_r; exact rfl)) (fun _ h => nomatch h) dX11_isRule_14
  refine lv_if_lt (tgt := 13) hx hb dX11_isRule_1 (by decide) (fun c_1 => ?_) (fun c_1 => ?_)
  · refine lv_iconst (v := 0) hx hb dX11_isRule_13 (by decide) ?_
    exact J14_4 _ (if_pos c_1).symm (Or.inl rfl) ls (lv_sub hl [] rfl)
  · refine lv_iload_n hx hb dX11_isRule_4 rfl (lv_at hl 0 rfl) ?_
    refine lv_iconst (v := 4) hx hb dX11_isRule_5 (by decide) ?_
    refine lv_icmp_ge (tgt := 13) hx hb dX11_isRule_6 (by decide) (fun c_5 => ?_) (fun c_5 => ?_)
    · refine lv_iconst (v := 0) hx hb dX11_isRule_13 (by decide) ?_
      exact J14_4 _ ((if_neg c_1).trans (if_pos c_5)).symm (Or.inl rfl) ls (lv_sub hl [] rfl)
    · refine lv_iconst (v := 1) hx hb dX11_isRule_9 (by decide) ?_
      refine lv_goto (tgt := 14) hx hb dX11_isRule_10 (by decide) ?_
      exact J14_4 _ ((if_neg c_1).trans (if_neg c_5)).symm (Or.inr rfl) ls (lv_sub hl [] rfl)

def s_X11_isForecast_r (a1 : Int32) : Int32 := (let v_2 : Int32 := (if a1 < 0 then 0 else (if 4 < a1 then 0 else 1)); v_2)
theorem z_X11_isForecast (a1 : Int32) : s_X11_isForecast_r a1 = 0 ∨ s_X11_isForecast_r a1 = 1 := by unfold s_X11_isForecast_r; (try dsimp only); exact (z_ite (Or.inl rfl) (z_ite (Or.inl rfl) (Or.inr rfl)))
abbrev rmX11_isForecast : Room := ({ frames := 0, cells := 0, slots := 0, locals := 0 } : Room)
set_option maxHeartbeats 4000000 in
set_option maxRecDepth 100000 in
theorem c_X11_isForecast (l : Launch) (G : va_G) (y : Nat → ClassId) (a1 : Int32) : Met l yX11_isForecast wsX11_isForecast rmX11_isForecast (PR G y [.int a1] []) (QRi (s_X11_isForecast_r a1)) 0 0 (fun _ => False) := by
  refine Met.ofW (cc := cX11_isForecast) (maxL := 1) (ret := (some .boolean)) (by decide) rfl ?_
  intro p e s m args below meth c s₁ B hml hv
  obtain ⟨rfl, hP, hK, hN⟩ := hv
  have hx := B.exec
  have hb := B.bytes
  have hr := B.returns
  have hts := atoms_spec (ws := wsX11_isForecast) B.pre
  have hown : s.vm.findClass RX11 = some m.cls := findClass_of_methodNamed B.named
  have hlocks := B.notSynchronized
  have hl := lv_entry ([.int a1]) (n := 1) (Nat.le_of_ble_eq_true rfl)
  rw [lg_entry_eq]
  generalize (lg_sl ([.int a1]) ++ List.replicate (1 - (lg_sl ([.int a1])).length) Slot.unset).toArray = ls at hl ⊢
  have hl : lv_has ls 1 [(0, .int a1)] := hl
  obtain ⟨QQ, hQQ⟩ : ∃ zq9, zq9 = MQ below (QRi (s_X11_isForecast_r a1)) ([.int a1] : List Value).toArray s 0 0 (fun _ => False) := ⟨_, rfl⟩
  rw [← hQQ]
  refine lv_iload_n hx hb dX11_isForecast_0 rfl (lv_at hl 0 rfl) ?_
  have J14_4 : ∀ (v_2 : Int32) (e_v_2 : v_2 = (if a1 < 0 then 0 else (if 4 < a1 then 0 else 1))) (z_3 : v_2 = 0 ∨ v_2 = 1) (ls : Array Slot) (hl : lv_has ls 1 []), W p l e (headSpec wsX11_isForecast rmX11_isForecast).room s m ([.int a1] : List Value).toArray below meth c s.heap [] 0 0 QQ (F0 m 14 ls [.int v_2]) := by
    intro v_2 e_v_2 z_3 ls hl
    rw [hQQ]
    exact W.zret hx hb hr (nz_bool z_3) (end_Ri (by subst e_v_2; unfold s_X11_isForecast_r; exact rfl)) (fun _ h => nomatch h) dX11_isForecast_14
  refine lv_if_lt (tgt := 13) hx hb dX11_isForecast_1 (by decide) (fun c_1 => ?_) (fun c_1 => ?_)
  · refine lv_iconst (v := 0) hx hb dX11_isForecast_13 (by decide) ?_
    exact J14_4 _ (if_pos c_1).symm (Or.inl rfl) ls (lv_sub hl [] rfl)
  · refine lv_iload_n hx hb dX11_isForecast_4 rfl (lv_at hl 0 rfl) ?_
    refine lv_iconst (v := 4) hx hb dX11_isForecast_5 (by decide) ?_
    refine lv_icmp_gt (tgt := 13) hx hb dX11_isForecast_6 (by decide) (fun c_5 => ?_) (fun c_5 => ?_)
    · refine lv_iconst (v := 0) hx hb dX11_isForecast_13 (by decide) ?_
      exact J14_4 _ ((if_neg c_1).trans (if_pos c_5)).symm (Or.inl rfl) ls (lv_sub hl [] rfl)
    · refine lv_iconst (v := 1) hx hb dX11_isForecast_9 (by decide) ?_
      refine lv_goto (tgt := 14) hx hb dX11_isForecast_10 (by decide) ?_
      exact J14_4 _ ((if_neg c_1).trans (if_neg c_5)).symm (Or.inr rfl) ls (lv_sub hl [] rfl)

def s_X11_isSlot_r (a1 : Int32) : Int32 := (let v_2 : Int32 := (if a1 < 0 then 0 else (if 2 ≤ a1 then 0 else 1)); v_2)
theorem z_X11_isSlot (a1 : Int32) : s_X11_isSlot_r a1 = 0 ∨ s_X11_isSlot_r a1 = 1 := by unfold s_X11_isSlot_r; (try dsimp only); exact (z_ite (Or.inl rfl) (z_ite (Or.inl rfl) (Or.inr rfl)))
abbrev rmX11_isSlot : Room := ({ frames := 0, cells := 0, slots := 0, locals := 0 } : Room)
set_option maxHeartbeats 4000000 in
set_option maxRecDepth 100000 in
theorem c_X11_isSlot (l : Launch) (G : va_G) (y : Nat → ClassId) (a1 : Int32) : Met l yX11_isSlot wsX11_isSlot rmX11_isSlot (PR G y [.int a1] []) (QRi (s_X11_isSlot_r a1)) 0 0 (fun _ => False) := by
  refine Met.ofW (cc := cX11_isSlot) (maxL := 1) (ret := (some .boolean)) (by decide) rfl ?_
  intro p e s m args below meth c s₁ B hml hv
  obtain ⟨rfl, hP, hK, hN⟩ := hv
  have hx := B.exec
  have hb := B.bytes
  have hr := B.returns
  have hts := atoms_spec (ws := wsX11_isSlot) B.pre
  have hown : s.vm.findClass RX11 = some m.cls := findClass_of_methodNamed B.named
  have hlocks := B.notSynchronized
  have hl := lv_entry ([.int a1]) (n := 1) (Nat.le_of_ble_eq_true rfl)
  rw [lg_entry_eq]
  generalize (lg_sl ([.int a1]) ++ List.replicate (1 - (lg_sl ([.int a1])).length) Slot.unset).toArray = ls at hl ⊢
  have hl : lv_has ls 1 [(0, .int a1)] := hl
  obtain ⟨QQ, hQQ⟩ : ∃ zq9, zq9 = MQ below (QRi (s_X11_isSlot_r a1)) ([.int a1] : List Value).toArray s 0 0 (fun _ => False) := ⟨_, rfl⟩
  rw [← hQQ]
  refine lv_iload_n hx hb dX11_isSlot_0 rfl (lv_at hl 0 rfl) ?_
  have J14_4 : ∀ (v_2 : Int32) (e_v_2 : v_2 = (if a1 < 0 then 0 else (if 2 ≤ a1 then 0 else 1))) (z_3 : v_2 = 0 ∨ v_2 = 1) (ls : Array Slot) (hl : lv_has ls 1 []), W p l e (headSpec wsX11_isSlot rmX11_isSlot).room s m ([.int a1] : List Value).toArray below meth c s.heap [] 0 0 QQ (F0 m 14 ls [.int v_2]) := by
    intro v_2 e_v_2 z_3 ls hl
    rw [hQQ]
    exact W.zret hx hb hr (nz_bool z_3) (end_Ri (by subst e_v_2; unfold s_X11_isSlot_r; exact rfl)) (fun _ h => nomatch h) dX11_isSlot_14
  refine lv_if_lt (tgt := 13) hx hb dX11_isSlot_1 (by decide) (fun c_1 => ?_) (fun c_1 => ?_)
  · refine lv_iconst (v := 0) hx hb dX11_isSlot_13 (by decide) ?_
    exact J14_4 _ (if_pos c_1).symm (Or.inl rfl) ls (lv_sub hl [] rfl)
  · refine lv_iload_n hx hb dX11_isSlot_4 rfl (lv_at hl 0 rfl) ?_
    refine lv_iconst (v := 2) hx hb dX11_isSlot_5 (by decide) ?_
    refine lv_icmp_ge (tgt := 13) hx hb dX11_isSlot_6 (by decide) (fun c_5 => ?_) (fun c_5 => ?_)
    · refine lv_iconst (v := 0) hx hb dX11_isSlot_13 (by decide) ?_
      exact J14_4 _ ((if_neg c_1).trans (if_pos c_5)).symm (Or.inl rfl) ls (lv_sub hl [] rfl)
    · refine lv_iconst (v := 1) hx hb dX11_isSlot_9 (by decide) ?_
      refine lv_goto (tgt := 14) hx hb dX11_isSlot_10 (by decide) ?_
      exact J14_4 _ ((if_neg c_1).trans (if_neg c_5)).symm (Or.inr rfl) ls (lv_sub hl [] rfl)

def s_X11_within_r (a1 : Int32) (a2 : Int32) (a3 : Int32) : Int32 := (if a2 ≤ a1 then (let v_3 : Int32 := (if a1 ≤ a3 then a1 else a3); v_3) else a2)
abbrev rmX11_within : Room := ({ frames := 0, cells := 0, slots := 0, locals := 0 } : Room)
set_option maxHeartbeats 4000000 in
set_option maxRecDepth 100000 in
theorem c_X11_within (l : Launch) (G : va_G) (y : Nat → ClassId) (a1 : Int32) (a2 : Int32) (a3 : Int32) : Met l yX11_within wsX11_within rmX11_within (PR G y [.int a1, .int a2, .int a3] []) (QRi (s_X11_within_r a1 a2 a3)) 0 0 (fun _ => False) := by
  refine Met.ofW (cc := cX11_within) (maxL := 3) (ret := (some .int)) (by decide) rfl ?_
  intro p e s m args below meth c s₁ B hml hv
  obtain ⟨rfl, hP, hK, hN⟩ := hv
  have hx := B.exec
  have hb := B.bytes
  have hr := B.returns
  have hts := atoms_spec (ws := wsX11_within) B.pre
  have hown : s.vm.findClass RX11 = some m.cls := findClass_of_methodNamed B.named
  have hlocks := B.notSynchronized
  have hl := lv_entry ([.int a1, .int a2, .int a3]) (n := 3) (Nat.le_of_ble_eq_true rfl)
  rw [lg_entry_eq]
  generalize (lg_sl ([.int a1, .int a2, .int a3]) ++ List.replicate (3 - (lg_sl ([.int a1, .int a2, .int a3])).length) Slot.unset).toArray = ls at hl ⊢
  have hl : lv_has ls 3 [(0, .int a1), (1, .int a2), (2, .int a3)] := hl
  obtain ⟨QQ, hQQ⟩ : ∃ zq9, zq9 = MQ below (QRi (s_X11_within_r a1 a2 a3)) ([.int a1, .int a2, .int a3] : List Value).toArray s 0 0 (fun _ => False) := ⟨_, rfl⟩
  rw [← hQQ]
  refine lv_iload_n hx hb dX11_within_0 rfl (lv_at hl 0 rfl) ?_
  refine lv_iload_n hx hb dX11_within_1 rfl (lv_at hl 1 rfl) ?_
  refine lv_icmp_ge (tgt := 7) hx hb dX11_within_2 (by decide) (fun c_1 => ?_) (fun c_1 => ?_)
  · refine lv_iload_n hx hb dX11_within_7 rfl (lv_at hl 0 rfl) ?_
    refine lv_iload_n hx hb dX11_within_8 rfl (lv_at hl 2 rfl) ?_
    have J17_4 : ∀ (v_3 : Int32) (e_v_3 : v_3 = (if a1 ≤ a3 then a1 else a3)) (ls : Array Slot) (hl : lv_has ls 3 []), W p l e (headSpec wsX11_within rmX11_within).room s m ([.int a1, .int a2, .int a3] : List Value).toArray below meth c s.heap [] 0 0 QQ (F0 m 17 ls [.int v_3]) := by
      intro v_3 e_v_3 ls hl
      rw [hQQ]
      exact W.iret hx hb hr (end_Ri (by subst e_v_3; unfold s_X11_within_r; exact (if_pos c_1).symm)) (fun _ h => nomatch h) dX11_within_17
    refine lv_icmp_le (tgt := 16) hx hb dX11_within_9 (by decide) (fun c_2 => ?_) (fun c_2 => ?_)
    · refine lv_iload_n hx hb dX11_within_16 rfl (lv_at hl 0 rfl) ?_
      exact J17_4 _ (if_pos c_2).symm ls (lv_sub hl [] rfl)
    · refine lv_iload_n hx hb dX11_within_12 rfl (lv_at hl 2 rfl) ?_
      refine lv_goto (tgt := 17) hx hb dX11_within_13 (by decide) ?_
      exact J17_4 _ (if_neg c_2).symm ls (lv_sub hl [] rfl)
  · refine lv_iload_n hx hb dX11_within_5 rfl (lv_at hl 1 rfl) ?_
    rw [hQQ]
    exact W.iret hx hb hr (end_Ri (by unfold s_X11_within_r; exact (if_neg c_1).symm)) (fun _ h => nomatch h) dX11_within_6

def s_X1_most_r (a1 : Int32) : Int32 := (if a1 = 5 then 999 else (if a1 = 6 then 20 else (if a1 = 7 then 99 else 9999)))
abbrev rmX1_most : Room := ({ frames := 0, cells := 0, slots := 0, locals := 0 } : Room)
set_option maxHeartbeats 4000000 in
set_option maxRecDepth 100000 in
theorem c_X1_most (l : Launch) (G : va_G) (y : Nat → ClassId) (a1 : Int32) : Met l yX1_most wsX1_most rmX1_most (PR G y [.int a1] []) (QRi (s_X1_most_r a1)) 0 0 (fun _ => False) := by
  refine Met.ofW (cc := cX1_most) (maxL := 1) (ret := (some .int)) (by decide) rfl ?_
  intro p e s m args below meth c s₁ B hml hv
  obtain ⟨rfl, hP, hK, hN⟩ := hv
  have hx := B.exec
  have hb := B.bytes
  have hr := B.returns
  have hts := atoms_spec (ws := wsX1_most) B.pre
  have hown : s.vm.findClass RX1 = some m.cls := findClass_of_methodNamed B.named
  have hlocks := B.notSynchronized
  have hl := lv_entry ([.int a1]) (n := 1) (Nat.le_of_ble_eq_true rfl)
  rw [lg_entry_eq]
  generalize (lg_sl ([.int a1]) ++ List.replicate (1 - (lg_sl ([.int a1])).length) Slot.unset).toArray = ls at hl ⊢
  have hl : lv_has ls 1 [(0, .int a1)] := hl
  refine lv_iload_n hx hb dX1_most_0 rfl (lv_at hl 0 rfl) ?_
  rcases Decidable.em (a1 = 5) with c_1 | c_1
  · refine lv_tableIn (tgt := 28) hx hb dX1_most_1 (by rw [c_1]; decide) (by rw [c_1]; decide) (by rw [c_1]; first | done | rfl) (by decide) ?_
    refine lv_sipush (v := 999) hx hb dX1_most_28 (by decide) ?_
    exact W.iret hx hb hr (end_Ri (by unfold s_X1_most_r; exact (if_pos c_1).symm)) (fun _ h => nomatch h) dX1_most_31
  rcases Decidable.em (a1 = 6) with c_2 | c_2
  · refine lv_tableIn (tgt := 32) hx hb dX1_most_1 (by rw [c_2]; decide) (by rw [c_2]; decide) (by rw [c_2]; first | done | rfl) (by decide) ?_
    refine lv_bipush (v := 20) hx hb dX1_most_32 (by decide) ?_
    exact W.iret hx hb hr (end_Ri (by unfold s_X1_most_r; exact ((if_neg c_1).trans (if_pos c_2)).symm)) (fun _ h => nomatch h) dX1_most_34
  rcases Decidable.em (a1 = 7) with c_3 | c_3
  · refine lv_tableIn (tgt := 35) hx hb dX1_most_1 (by rw [c_3]; decide) (by rw [c_3]; decide) (by rw [c_3]; first | done | rfl) (by decide) ?_
    refine lv_bipush (v := 99) hx hb dX1_most_35 (by decide) ?_
    exact W.iret hx hb hr (end_Ri (by unfold s_X1_most_r; exact ((if_neg c_1).trans ((if_neg c_2).trans (if_pos c_3))).symm)) (fun _ h => nomatch h) dX1_most_37
  refine lv_tableOut (tgt := 38) hx hb dX1_most_1 (by have e0 : a1.toInt ≠ 5 := fun h => c_1 (Int32.toInt_inj.mp h); have e1 : a1.toInt ≠ 6 := fun h => c_2 (Int32.toInt_inj.mp h); have e2 : a1.toInt ≠ 7 := fun h => c_3 (Int32.toInt_inj.mp h); omega) (by decide) ?_
  refine lv_sipush (v := 9999) hx hb dX1_most_38 (by decide) ?_
  exact W.iret hx hb hr (end_Ri (by unfold s_X1_most_r; exact ((if_neg c_1).trans ((if_neg c_2).trans (if_neg c_3))).symm)) (fun _ h => nomatch h) dX1_most_41

def s_X11_isSetting_r (a1 : Int32) (a2 : Int32) : Int32 := (let v_2 : Int32 := (if a1 < 5 then 0 else (if 10 < a1 then 0 else (if a2 < 0 then 0 else (if (s_X1_most_r a1) < a2 then 0 else 1)))); v_2)
theorem z_X11_isSetting (a1 : Int32) (a2 : Int32) : s_X11_isSetting_r a1 a2 = 0 ∨ s_X11_isSetting_r a1 a2 = 1 := by unfold s_X11_isSetting_r; (try dsimp only); exact (z_ite (Or.inl rfl) (z_ite (Or.inl rfl) (z_ite (Or.inl rfl) (z_ite (Or.inl rfl) (Or.inr rfl)))))
abbrev rmX11_isSetting : Room := ({ frames := 1, cells := 0, slots := 0, locals := 20 } : Room)
set_option maxHeartbeats 4000000 in
set_option maxRecDepth 100000 in
theorem c_X11_isSetting (l : Launch) (G : va_G) (y : Nat → ClassId) (a1 : Int32) (a2 : Int32) : Met l yX11_isSetting wsX11_isSetting rmX11_isSetting (PR G y [.int a1, .int a2] []) (QRi (s_X11_isSetting_r a1 a2)) 0 0 (fun _ => False) := by
  refine Met.ofW (cc := cX11_isSetting) (maxL := 2) (ret := (some .boolean)) (by decide) rfl ?_
  intro p e s m args below meth c s₁ B hml hv
  obtain ⟨rfl, hP, hK, hN⟩ := hv
  have hx := B.exec
  have hb := B.bytes
  have hr := B.returns
  have hts := atoms_spec (ws := wsX11_isSetting) B.pre
  have hown : s.vm.findClass RX11 = some m.cls := findClass_of_methodNamed B.named
  have hlocks := B.notSynchronized
  have hl := lv_entry ([.int a1, .int a2]) (n := 2) (Nat.le_of_ble_eq_true rfl)
  rw [lg_entry_eq]
  generalize (lg_sl ([.int a1, .int a2]) ++ List.replicate (2 - (lg_sl ([.int a1, .int a2])).length) Slot.unset).toArray = ls at hl ⊢
  have hl : lv_has ls 2 [(0, .int a1), (1, .int a2)] := hl
  obtain ⟨QQ, hQQ⟩ : ∃ zq9, zq9 = MQ below (QRi (s_X11_isSetting_r a1 a2)) ([.int a1, .int a2] : List Value).toArray s 0 0 (fun _ => False) := ⟨_, rfl⟩
  rw [← hQQ]
  refine lv_iload_n hx hb dX11_isSetting_0 rfl (lv_at hl 0 rfl) ?_
  refine lv_iconst (v := 5) hx hb dX11_isSetting_1 (by decide) ?_
  have J28_4 : ∀ (v_2 : Int32) (e_v_2 : v_2 = (if a1 < 5 then 0 else (if 10 < a1 then 0 else (if a2 < 0 then 0 else (if (s_X1_most_r a1) < a2 then 0 else 1))))) (z_3 : v_2 = 0 ∨ v_2 = 1) (ls : Array Slot) (hl : lv_has ls 2 []), W p l e (headSpec wsX11_isSetting rmX11_isSetting).room s m ([.int a1, .int a2] : List Value).toArray below meth c s.heap [] 0 0 QQ (F0 m 28 ls [.int v_2]) := by
    intro v_2 e_v_2 z_3 ls hl
    rw [hQQ]
    exact W.zret hx hb hr (nz_bool z_3) (end_Ri (by subst e_v_2; unfold s_X11_isSetting_r; exact rfl)) (fun _ h => nomatch h) dX11_isSetting_28
  refine lv_icmp_lt (tgt := 27) hx hb dX11_isSetting_2 (by decide) (fun c_1 => ?_) (fun c_1 => ?_)
  · refine lv_iconst (v := 0) hx hb dX11_isSetting_27 (by decide) ?_
    exact J28_4 _ (if_pos c_1).symm (Or.inl rfl) ls (lv_sub hl [] rfl)
  · refine lv_iload_n hx hb dX11_isSetting_5 rfl (lv_at hl 0 rfl) ?_
    refine lv_bipush (v := 10) hx hb dX11_isSetting_6 (by decide) ?_
    refine lv_icmp_gt (tgt := 27) hx hb dX11_isSetting_8 (by decide) (fun c_5 => ?_) (fun c_5 => ?_)
    · refine lv_iconst (v := 0) hx hb dX11_isSetting_27 (by decide) ?_
      exact J28_4 _ ((if_neg c_1).trans (if_pos c_5)).symm (Or.inl rfl) ls (lv_sub hl [] rfl)
    · refine lv_iload_n hx hb dX11_isSetting_11 rfl (lv_at hl 1 rfl) ?_
      refine lv_if_lt (tgt := 27) hx hb dX11_isSetting_12 (by decide) (fun c_6 => ?_) (fun c_6 => ?_)
      · refine lv_iconst (v := 0) hx hb dX11_isSetting_27 (by decide) ?_
        exact J28_4 _ ((if_neg c_1).trans ((if_neg c_5).trans (if_pos c_6))).symm (Or.inl rfl) ls (lv_sub hl [] rfl)
      · refine lv_iload_n hx hb dX11_isSetting_15 rfl (lv_at hl 1 rfl) ?_
        refine lv_iload_n hx hb dX11_isSetting_16 rfl (lv_at hl 0 rfl) ?_
        refine cl_Ri (va_runS (As := [.int a1]) (rest := [.int a2]) ⟨hx, hb, hml, hown, hts⟩ (c_X1_most l G y a1) (va_cwS 1 hts gX11_isSetting_X1_most rfl rfl rfl (by decide +kernel) ⟨Nat.le_of_ble_eq_true rfl, Nat.le_of_ble_eq_true rfl⟩) (PR_S pnil hK hN) rfl rfl hl.1 rfl (lv_room (Nat.le_of_ble_eq_true rfl)) dX11_isSetting_17 ⟨Nat.le_of_ble_eq_true rfl, Nat.le_of_ble_eq_true rfl⟩) ?_
        refine lv_icmp_gt (tgt := 27) hx hb dX11_isSetting_20 (by decide) (fun c_7 => ?_) (fun c_7 => ?_)
        · refine lv_iconst (v := 0) hx hb dX11_isSetting_27 (by decide) ?_
          exact J28_4 _ ((if_neg c_1).trans ((if_neg c_5).trans ((if_neg c_6).trans (if_pos c_7)))).symm (Or.inl rfl) ls (lv_sub hl [] rfl)
        · refine lv_iconst (v := 1) hx hb dX11_isSetting_23 (by decide) ?_
          refine lv_goto (tgt := 28) hx hb dX11_isSetting_24 (by decide) ?_
          exact J28_4 _ ((if_neg c_1).trans ((if_neg c_5).trans ((if_neg c_6).trans (if_neg c_7)))).symm (Or.inr rfl) ls (lv_sub hl [] rfl)

def s_J6_compare_7cf53_r (a1 : Int32) (a2 : Int32) : Int32 := (let v_2 : Int32 := (if a2 ≤ a1 then (if a1 = a2 then 0 else 1) else (-1)); v_2)
abbrev rmJ6_compare_7cf53 : Room := ({ frames := 0, cells := 0, slots := 0, locals := 0 } : Room)
set_option maxHeartbeats 4000000 in
set_option maxRecDepth 100000 in
theorem c_J6_compare_7cf53 (l : Launch) (G : va_G) (y : Nat → ClassId) (a1 : Int32) (a2 : Int32) : Met l yJ6_compare_7cf53 wsJ6_compare_7cf53 rmJ6_compare_7cf53 (PR G y [.int a1, .int a2] []) (QRi (s_J6_compare_7cf53_r a1 a2)) 0 0 (fun _ => False) := by
  refine Met.ofW (cc := cJ6_compare_7cf53) (maxL := 2) (ret := (some .int)) (by decide) rfl ?_
  intro p e s m args below meth c s₁ B hml hv
  obtain ⟨rfl, hP, hK, hN⟩ := hv
  have hx := B.exec
  have hb := B.bytes
  have hr := B.returns
  have hts := atoms_spec (ws := wsJ6_compare_7cf53) B.pre
  have hown : s.vm.findClass RJ6 = some m.cls := findClass_of_methodNamed B.named
  have hlocks := B.notSynchronized
  have hl := lv_entry ([.int a1, .int a2]) (n := 2) (Nat.le_of_ble_eq_true rfl)
  rw [lg_entry_eq]
  generalize (lg_sl ([.int a1, .int a2]) ++ List.replicate (2 - (lg_sl ([.int a1, .int a2])).length) Slot.unset).toArray = ls at hl ⊢
  have hl : lv_has ls 2 [(0, .int a1), (1, .int a2)] := hl
  obtain ⟨QQ, hQQ⟩ : ∃ zq9, zq9 = MQ below (QRi (s_J6_compare_7cf53_r a1 a2)) ([.int a1, .int a2] : List Value).toArray s 0 0 (fun _ => False) := ⟨_, rfl⟩
  rw [← hQQ]
  refine lv_iload_n hx hb dJ6_compare_7cf53_0 rfl (lv_at hl 0 rfl) ?_
  refine lv_iload_n hx hb dJ6_compare_7cf53_1 rfl (lv_at hl 1 rfl) ?_
  have J19_3 : ∀ (v_2 : Int32) (e_v_2 : v_2 = (if a2 ≤ a1 then (if a1 = a2 then 0 else 1) else (-1))) (ls : Array Slot) (hl : lv_has ls 2 []), W p l e (headSpec wsJ6_compare_7cf53 rmJ6_compare_7cf53).room s m ([.int a1, .int a2] : List Value).toArray below meth c s.heap [] 0 0 QQ (F0 m 19 ls [.int v_2]) := by
    intro v_2 e_v_2 ls hl
    rw [hQQ]
    exact W.iret hx hb hr (end_Ri (by subst e_v_2; unfold s_J6_compare_7cf53_r; exact rfl)) (fun _ h => nomatch h) dJ6_compare_7cf53_19
  refine lv_icmp_ge (tgt := 9) hx hb dJ6_compare_7cf53_2 (by decide) (fun c_1 => ?_) (fun c_1 => ?_)
  · refine lv_iload_n hx hb dJ6_compare_7cf53_9 rfl (lv_at hl 0 rfl) ?_
    refine lv_iload_n hx hb dJ6_compare_7cf53_10 rfl (lv_at hl 1 rfl) ?_
    refine lv_icmp_ne (tgt := 18) hx hb dJ6_compare_7cf53_11 (by decide) (fun c_4 => ?_) (fun c_4 => ?_)
    · refine lv_iconst (v := 1) hx hb dJ6_compare_7cf53_18 (by decide) ?_
      exact J19_3 _ ((if_pos c_1).trans (if_neg c_4)).symm ls (lv_sub hl [] rfl)
    · refine lv_iconst (v := 0) hx hb dJ6_compare_7cf53_14 (by decide) ?_
      refine lv_goto (tgt := 19) hx hb dJ6_compare_7cf53_15 (by decide) ?_
      exact J19_3 _ ((if_pos c_1).trans (if_pos c_4)).symm ls (lv_sub hl [] rfl)
  · refine lv_iconst (v := (-1)) hx hb dJ6_compare_7cf53_5 (by decide) ?_
    refine lv_goto (tgt := 19) hx hb dJ6_compare_7cf53_6 (by decide) ?_
    exact J19_3 _ (if_neg c_1).symm ls (lv_sub hl [] rfl)

abbrev rmX0_become : Room := ({ frames := 1, cells := 0, slots := 0, locals := 60 } : Room)
set_option maxHeartbeats 4000000 in
set_option maxRecDepth 100000 in
theorem c_X0_become (l : Launch) (G : va_G) (y : Nat → ClassId) (h : Nat) (k : Nat) (t : Nat) (x : Nat → Int32) (ft : Nat → Int32) (u : Nat) (x2 : Nat → Int32) (fu : Nat → Int32) (sz : Nat) : Met l yX0_become wsX0_become rmX0_become (PH G y [.ref h, .ref k] [kX0 h t x, aI y t 3 ft, kX0 k u x2, aI y u 3 fu] sz) (QHv G (fun _ : Unit => [kX0 h t x2, aI y t 3 fu, kX0 k u x2, aI y u 3 fu]) (va_A [kX0 h t x, aI y t 3 ft, kX0 k u x2, aI y u 3 fu] sz)) 0 0 (va_A [kX0 h t x, aI y t 3 ft, kX0 k u x2, aI y u 3 fu] sz) := by
  refine Met.ofW (cc := cX0_become) (maxL := 2) (ret := none) (by decide) rfl ?_
  intro p e s m args below meth c s₁ B hml hv
  obtain ⟨rfl, hsz, hP, ⟨hK, hN⟩, hD0⟩ := hv
  have hx := B.exec
  have hb := B.bytes
  have hr := B.returns
  have hts := atoms_spec (ws := wsX0_become) B.pre
  have hown : s.vm.findClass RX0 = some m.cls := findClass_of_methodNamed B.named
  have hlocks := B.notSynchronized
  have i_X0 : ∀ w ∈ u_ws RX0 TX0 6, w ∈ wsX0_become := by decide +kernel
  subst hsz
  have hD := hD0.self (sz := s.heap.size)
  generalize hAe : va_A [kX0 h t x, aI y t 3 ft, kX0 k u x2, aI y u 3 fu] s.heap.size = A at hD ⊢
  have hA : ∀ q : Nat, s.heap.size ≤ q → A q := fun q h => by rw [← hAe]; exact Or.inr h
  have hS : va_S A s.heap s.heap [] := va_S.rf
  have hP : va_P G vwCl [kX0 h t x, aI y t 3 ft, kX0 k u x2, aI y u 3 fu] s.heap := hP
  have hl := lv_entry ([.ref h, .ref k]) (n := 2) (Nat.le_of_ble_eq_true rfl)
  rw [lg_entry_eq]
  generalize (lg_sl ([.ref h, .ref k]) ++ List.replicate (2 - (lg_sl ([.ref h, .ref k])).length) Slot.unset).toArray = ls at hl ⊢
  have hl : lv_has ls 2 [(0, .ref h), (1, .ref k)] := hl
  refine lv_aload_n hx hb dX0_become_0 rfl (lv_at hl 1 rfl) ?_
  refine va_get (D := G) (ci := 0) (v := .ref u) (C := RX0) (T := TX0) (N := 6) hx hb hts i_X0 hown hK hP 2 rfl rfl 0 (by decide) (hts (.fieldLink RX0 9 "RelayTuner$Accounts" "ticks" "[I") (by decide +kernel)) (fun _ h9 => h9) rfl dX0_become_1 ?_
  refine lv_iconst (v := 0) hx hb dX0_become_4 (by decide) ?_
  refine lv_aload_n hx hb dX0_become_5 rfl (lv_at hl 0 rfl) ?_
  refine va_get (D := G) (ci := 0) (v := .ref t) (C := RX0) (T := TX0) (N := 6) hx hb hts i_X0 hown hK hP 0 rfl rfl 0 (by decide) (hts (.fieldLink RX0 9 "RelayTuner$Accounts" "ticks" "[I") (by decide +kernel)) (fun _ h9 => h9) rfl dX0_become_6 ?_
  refine lv_iconst (v := 0) hx hb dX0_become_9 (by decide) ?_
  refine lv_iconst (v := 3) hx hb dX0_become_10 (by decide) ?_
  refine va_copyi (D := G) (f := fu) (g := ft) (ty := .int) hx hb (hml.trans hl.1.symm) hown (hts (.methodLink RX0 13 arraycopyName) (by decide +kernel)) (hts (.native arraycopyName) (by decide +kernel)) (hts (.static arraycopyName) (by decide +kernel)) (hts (.initialized "java/lang/System") (by decide +kernel)) hK hP hD hS 3 1 0 0 rfl rfl rfl rfl rfl (by decide) (by decide) (by decide) (by decide) (by decide) (fun _ _ => rfl) (Nat.le_of_ble_eq_true rfl) (Nat.le_of_ble_eq_true rfl) dX0_become_11 (fun H locs hP hD hS => ?_)
  have hP : va_P G vwCl [kX0 h t x, aI y t 3 (va_cpy fu ft 0 0 3), kX0 k u x2, aI y u 3 fu] H := hP
  have hD : va_D A [kX0 h t x, aI y t 3 (va_cpy fu ft 0 0 3), kX0 k u x2, aI y u 3 fu] := hD
  have hD := va_D.set (p := 1) (e := (aI y t 3 fu).2) hD rfl
  have hP := alike1 (i := 1) (g := fu) hP rfl (fun j hj => cpy_all hj)
  have hP : va_P G vwCl [kX0 h t x, aI y t 3 fu, kX0 k u x2, aI y u 3 fu] H := hP
  have hD : va_D A [kX0 h t x, aI y t 3 fu, kX0 k u x2, aI y u 3 fu] := hD
  refine lv_aload_n hx hb dX0_become_14 rfl (lv_at hl 0 rfl) ?_
  refine lv_aload_n hx hb dX0_become_15 rfl (lv_at hl 1 rfl) ?_
  refine va_get (D := G) (ci := 0) (v := .int (x2 1)) (C := RX0) (T := TX0) (N := 6) hx hb hts i_X0 hown hK hP 2 rfl rfl 1 (by decide) (hts (.fieldLink RX0 19 "RelayTuner$Accounts" "output" "I") (by decide +kernel)) (fun _ h9 => h9) rfl dX0_become_16 ?_
  refine va_put (D := G) (ci := 0) (v := .int (x2 1)) (ty := .int) (C := RX0) (T := TX0) (N := 6) hx hb hts i_X0 tyX0 tyX0_ok nmX0 hown hK hP hD hS 0 rfl rfl 1 (by decide) (hts (.fieldLink RX0 19 "RelayTuner$Accounts" "output" "I") (by decide +kernel)) (fun _ h9 => h9) rfl (by decide +kernel) rfl rfl (Nat.le_of_ble_eq_true rfl) dX0_become_19 (fun H locs hP hD hS => ?_)
  have hP : va_P G vwCl [kX0 h t (upd x 1 (x2 1)), aI y t 3 fu, kX0 k u x2, aI y u 3 fu] H := hP
  have hD : va_D A [kX0 h t (upd x 1 (x2 1)), aI y t 3 fu, kX0 k u x2, aI y u 3 fu] := hD
  refine lv_aload_n hx hb dX0_become_22 rfl (lv_at hl 0 rfl) ?_
  refine lv_aload_n hx hb dX0_become_23 rfl (lv_at hl 1 rfl) ?_
  refine va_get (D := G) (ci := 0) (v := .int (x2 2)) (C := RX0) (T := TX0) (N := 6) hx hb hts i_X0 hown hK hP 2 rfl rfl 2 (by decide) (hts (.fieldLink RX0 23 "RelayTuner$Accounts" "outputs" "I") (by decide +kernel)) (fun _ h9 => h9) rfl dX0_become_24 ?_
  refine va_put (D := G) (ci := 0) (v := .int (x2 2)) (ty := .int) (C := RX0) (T := TX0) (N := 6) hx hb hts i_X0 tyX0 tyX0_ok nmX0 hown hK hP hD hS 0 rfl rfl 2 (by decide) (hts (.fieldLink RX0 23 "RelayTuner$Accounts" "outputs" "I") (by decide +kernel)) (fun _ h9 => h9) rfl (by decide +kernel) rfl rfl (Nat.le_of_ble_eq_true rfl) dX0_become_27 (fun H locs hP hD hS => ?_)
  have hP : va_P G vwCl [kX0 h t (upd (upd x 1 (x2 1)) 2 (x2 2)), aI y t 3 fu, kX0 k u x2, aI y u 3 fu] H := hP
  have hD : va_D A [kX0 h t (upd (upd x 1 (x2 1)) 2 (x2 2)), aI y t 3 fu, kX0 k u x2, aI y u 3 fu] := hD
  refine lv_aload_n hx hb dX0_become_30 rfl (lv_at hl 0 rfl) ?_
  refine lv_aload_n hx hb dX0_become_31 rfl (lv_at hl 1 rfl) ?_
  refine va_get (D := G) (ci := 0) (v := .int (x2 3)) (C := RX0) (T := TX0) (N := 6) hx hb hts i_X0 hown hK hP 2 rfl rfl 3 (by decide) (hts (.fieldLink RX0 26 "RelayTuner$Accounts" "outputChanges" "I") (by decide +kernel)) (fun _ h9 => h9) rfl dX0_become_32 ?_
  refine va_put (D := G) (ci := 0) (v := .int (x2 3)) (ty := .int) (C := RX0) (T := TX0) (N := 6) hx hb hts i_X0 tyX0 tyX0_ok nmX0 hown hK hP hD hS 0 rfl rfl 3 (by decide) (hts (.fieldLink RX0 26 "RelayTuner$Accounts" "outputChanges" "I") (by decide +kernel)) (fun _ h9 => h9) rfl (by decide +kernel) rfl rfl (Nat.le_of_ble_eq_true rfl) dX0_become_35 (fun H locs hP hD hS => ?_)
  have hP : va_P G vwCl [kX0 h t (upd (upd (upd x 1 (x2 1)) 2 (x2 2)) 3 (x2 3)), aI y t 3 fu, kX0 k u x2, aI y u 3 fu] H := hP
  have hD : va_D A [kX0 h t (upd (upd (upd x 1 (x2 1)) 2 (x2 2)) 3 (x2 3)), aI y t 3 fu, kX0 k u x2, aI y u 3 fu] := hD
  refine lv_aload_n hx hb dX0_become_38 rfl (lv_at hl 0 rfl) ?_
  refine lv_aload_n hx hb dX0_become_39 rfl (lv_at hl 1 rfl) ?_
  refine va_get (D := G) (ci := 0) (v := .int (x2 4)) (C := RX0) (T := TX0) (N := 6) hx hb hts i_X0 hown hK hP 2 rfl rfl 4 (by decide) (hts (.fieldLink RX0 29 "RelayTuner$Accounts" "crossings" "I") (by decide +kernel)) (fun _ h9 => h9) rfl dX0_become_40 ?_
  refine va_put (D := G) (ci := 0) (v := .int (x2 4)) (ty := .int) (C := RX0) (T := TX0) (N := 6) hx hb hts i_X0 tyX0 tyX0_ok nmX0 hown hK hP hD hS 0 rfl rfl 4 (by decide) (hts (.fieldLink RX0 29 "RelayTuner$Accounts" "crossings" "I") (by decide +kernel)) (fun _ h9 => h9) rfl (by decide +kernel) rfl rfl (Nat.le_of_ble_eq_true rfl) dX0_become_43 (fun H locs hP hD hS => ?_)
  have hP : va_P G vwCl [kX0 h t (upd (upd (upd (upd x 1 (x2 1)) 2 (x2 2)) 3 (x2 3)) 4 (x2 4)), aI y t 3 fu, kX0 k u x2, aI y u 3 fu] H := hP
  have hD : va_D A [kX0 h t (upd (upd (upd (upd x 1 (x2 1)) 2 (x2 2)) 3 (x2 3)) 4 (x2 4)), aI y t 3 fu, kX0 k u x2, aI y u 3 fu] := hD
  refine lv_aload_n hx hb dX0_become_46 rfl (lv_at hl 0 rfl) ?_
  refine lv_aload_n hx hb dX0_become_47 rfl (lv_at hl 1 rfl) ?_
  refine va_get (D := G) (ci := 0) (v := .int (x2 5)) (C := RX0) (T := TX0) (N := 6) hx hb hts i_X0 hown hK hP 2 rfl rfl 5 (by decide) (hts (.fieldLink RX0 32 "RelayTuner$Accounts" "disturbances" "I") (by decide +kernel)) (fun _ h9 => h9) rfl dX0_become_48 ?_
  refine va_put (D := G) (ci := 0) (v := .int (x2 5)) (ty := .int) (C := RX0) (T := TX0) (N := 6) hx hb hts i_X0 tyX0 tyX0_ok nmX0 hown hK hP hD hS 0 rfl rfl 5 (by decide) (hts (.fieldLink RX0 32 "RelayTuner$Accounts" "disturbances" "I") (by decide +kernel)) (fun _ h9 => h9) rfl (by decide +kernel) rfl rfl (Nat.le_of_ble_eq_true rfl) dX0_become_51 (fun H locs hP hD hS => ?_)
  have hP : va_P G vwCl [kX0 h t (upd (upd (upd (upd (upd x 1 (x2 1)) 2 (x2 2)) 3 (x2 3)) 4 (x2 4)) 5 (x2 5)), aI y t 3 fu, kX0 k u x2, aI y u 3 fu] H := hP
  have hD : va_D A [kX0 h t (upd (upd (upd (upd (upd x 1 (x2 1)) 2 (x2 2)) 3 (x2 3)) 4 (x2 4)) 5 (x2 5)), aI y t 3 fu, kX0 k u x2, aI y u 3 fu] := hD
  exact W.vret hx hb hr (end_Hv () hP hD hS rfl) hS.2.2 dX0_become_54

def s_X0_addTick_w0 (a2 : Int32) (x : Nat → Int32) : Nat → Int32 := (let v_5 : Nat → Int32 := (if a2 = (x 1) then (upd x 2 ((x 2) + a2)) else (upd (upd x 2 ((x 2) + a2)) 3 ((x 3) + 1))); (upd v_5 1 a2))
def s_X0_addTick_w1 (a1 : Int32) (ft : Nat → Int32) : Nat → Int32 := (let v_2 : Nat → Int32 := (if a1 < 0 then ft else (if 3 ≤ a1 then ft else (upd ft (tn a1) ((ft (tn a1)) + 1)))); v_2)
abbrev rmX0_addTick : Room := ({ frames := 0, cells := 0, slots := 0, locals := 0 } : Room)
set_option maxHeartbeats 4000000 in
set_option maxRecDepth 100000 in
theorem c_X0_addTick (l : Launch) (G : va_G) (y : Nat → ClassId) (h : Nat) (a1 : Int32) (a2 : Int32) (t : Nat) (x : Nat → Int32) (ft : Nat → Int32) (sz : Nat) : Met l yX0_addTick wsX0_addTick rmX0_addTick (PH G y [.ref h, .int a1, .int a2] [kX0 h t x, aI y t 3 ft] sz) (QHv G (fun _ : Unit => [kX0 h t (s_X0_addTick_w0 a2 x), aI y t 3 (s_X0_addTick_w1 a1 ft)]) (va_A [kX0 h t x, aI y t 3 ft] sz)) 0 0 (va_A [kX0 h t x, aI y t 3 ft] sz) := by
  refine Met.ofW (cc := cX0_addTick) (maxL := 3) (ret := none) (by decide) rfl ?_
  intro p e s m args below meth c s₁ B hml hv
  obtain ⟨rfl, hsz, hP, ⟨hK, hN⟩, hD0⟩ := hv
  have hx := B.exec
  have hb := B.bytes
  have hr := B.returns
  have hts := atoms_spec (ws := wsX0_addTick) B.pre
  have hown : s.vm.findClass RX0 = some m.cls := findClass_of_methodNamed B.named
  have hlocks := B.notSynchronized
  have i_X0 : ∀ w ∈ u_ws RX0 TX0 6, w ∈ wsX0_addTick := by decide +kernel
  subst hsz
  have hD := hD0.self (sz := s.heap.size)
  generalize hAe : va_A [kX0 h t x, aI y t 3 ft] s.heap.size = A at hD ⊢
  have hA : ∀ q : Nat, s.heap.size ≤ q → A q := fun q h => by rw [← hAe]; exact Or.inr h
  have hS : va_S A s.heap s.heap [] := va_S.rf
  have hP : va_P G vwCl [kX0 h t x, aI y t 3 ft] s.heap := hP
  have hl := lv_entry ([.ref h, .int a1, .int a2]) (n := 3) (Nat.le_of_ble_eq_true rfl)
  rw [lg_entry_eq]
  generalize (lg_sl ([.ref h, .int a1, .int a2]) ++ List.replicate (3 - (lg_sl ([.ref h, .int a1, .int a2])).length) Slot.unset).toArray = ls at hl ⊢
  have hl : lv_has ls 3 [(0, .ref h), (1, .int a1), (2, .int a2)] := hl
  obtain ⟨QQ, hQQ⟩ : ∃ zq9, zq9 = MQ below (QHv G (fun _ : Unit => [kX0 h t (s_X0_addTick_w0 a2 x), aI y t 3 (s_X0_addTick_w1 a1 ft)]) A) ([.ref h, .int a1, .int a2] : List Value).toArray s 0 0 A := ⟨_, rfl⟩
  rw [← hQQ]
  refine lv_iload_n hx hb dX0_addTick_0 rfl (lv_at hl 1 rfl) ?_
  have J19_3 : ∀ (v_2 : Nat → Int32) (e_v_2 : v_2 = (if a1 < 0 then ft else (if 3 ≤ a1 then ft else (upd ft (tn a1) ((ft (tn a1)) + 1))))) (H : Heap) (locs : List Loc) (hP : va_P G vwCl [kX0 h t x, aI y t 3 v_2] H) (hD : va_D A [kX0 h t x, aI y t 3 v_2]) (hS : va_S A s.heap H locs) (ls : Array Slot) (hl : lv_has ls 3 [(0, .ref h), (2, .int a2)]), W p l e (headSpec wsX0_addTick rmX0_addTick).room s m ([.ref h, .int a1, .int a2] : List Value).toArray below meth c H locs 0 0 QQ (F0 m 19 ls []) := by
    intro v_2 e_v_2 H locs hP hD hS ls hl
    refine lv_aload_n hx hb dX0_addTick_19 rfl (lv_at hl 0 rfl) ?_
    refine lv_dup hx hb dX0_addTick_20 rfl ?_
    refine va_get (D := G) (ci := 0) (v := .int (x 2)) (C := RX0) (T := TX0) (N := 6) hx hb hts i_X0 hown hK hP 0 rfl rfl 2 (by decide) (hts (.fieldLink RX0 23 "RelayTuner$Accounts" "outputs" "I") (by decide +kernel)) (fun _ h9 => h9) rfl dX0_addTick_21 ?_
    refine lv_iload_n hx hb dX0_addTick_24 rfl (lv_at hl 1 rfl) ?_
    refine lv_iadd hx hb dX0_addTick_25 ?_
    refine va_put (D := G) (ci := 0) (v := .int ((x 2) + a2)) (ty := .int) (C := RX0) (T := TX0) (N := 6) hx hb hts i_X0 tyX0 tyX0_ok nmX0 hown hK hP hD hS 0 rfl rfl 2 (by decide) (hts (.fieldLink RX0 23 "RelayTuner$Accounts" "outputs" "I") (by decide +kernel)) (fun _ h9 => h9) rfl (by decide +kernel) rfl rfl (Nat.le_of_ble_eq_true rfl) dX0_addTick_26 (fun H locs hP hD hS => ?_)
    have hP : va_P G vwCl [kX0 h t (upd x 2 ((x 2) + a2)), aI y t 3 v_2] H := hP
    have hD : va_D A [kX0 h t (upd x 2 ((x 2) + a2)), aI y t 3 v_2] := hD
    refine lv_iload_n hx hb dX0_addTick_29 rfl (lv_at hl 1 rfl) ?_
    refine lv_aload_n hx hb dX0_addTick_30 rfl (lv_at hl 0 rfl) ?_
    refine va_get (D := G) (ci := 0) (v := .int (x 1)) (C := RX0) (T := TX0) (N := 6) hx hb hts i_X0 hown hK hP 0 rfl rfl 1 (by decide) (hts (.fieldLink RX0 19 "RelayTuner$Accounts" "output" "I") (by decide +kernel)) (fun _ h9 => h9) rfl dX0_addTick_31 ?_
    have J47_6 : ∀ (v_5 : Nat → Int32) (e_v_5 : v_5 = (if a2 = (x 1) then (upd x 2 ((x 2) + a2)) else (upd (upd x 2 ((x 2) + a2)) 3 ((x 3) + 1)))) (H : Heap) (locs : List Loc) (hP : va_P G vwCl [kX0 h t v_5, aI y t 3 v_2] H) (hD : va_D A [kX0 h t v_5, aI y t 3 v_2]) (hS : va_S A s.heap H locs) (ls : Array Slot) (hl : lv_has ls 3 [(0, .ref h), (2, .int a2)]), W p l e (headSpec wsX0_addTick rmX0_addTick).room s m ([.ref h, .int a1, .int a2] : List Value).toArray below meth c H locs 0 0 QQ (F0 m 47 ls []) := by
      intro v_5 e_v_5 H locs hP hD hS ls hl
      refine lv_aload_n hx hb dX0_addTick_47 rfl (lv_at hl 0 rfl) ?_
      refine lv_iload_n hx hb dX0_addTick_48 rfl (lv_at hl 1 rfl) ?_
      refine va_put (D := G) (ci := 0) (v := .int a2) (ty := .int) (C := RX0) (T := TX0) (N := 6) hx hb hts i_X0 tyX0 tyX0_ok nmX0 hown hK hP hD hS 0 rfl rfl 1 (by decide) (hts (.fieldLink RX0 19 "RelayTuner$Accounts" "output" "I") (by decide +kernel)) (fun _ h9 => h9) rfl (by decide +kernel) rfl rfl (Nat.le_of_ble_eq_true rfl) dX0_addTick_49 (fun H locs hP hD hS => ?_)
      have hP : va_P G vwCl [kX0 h t (upd v_5 1 a2), aI y t 3 v_2] H := hP
      have hD : va_D A [kX0 h t (upd v_5 1 a2), aI y t 3 v_2] := hD
      rw [hQQ]
      exact W.vret hx hb hr (end_Hv () hP hD hS (congr (congrArg (fun (z0 : Nat → Int32) (z1 : Nat → Int32) => [kX0 h t z0, aI y t 3 z1]) (by subst e_v_5; subst e_v_2; unfold s_X0_addTick_w0; exact rfl)) (by subst e_v_5; subst e_v_2; unfold s_X0_addTick_w1; exact rfl))) hS.2.2 dX0_addTick_52
    refine lv_icmp_eq (tgt := 47) hx hb dX0_addTick_34 (by decide) (fun c_4 => ?_) (fun c_4 => ?_)
    · exact J47_6 _ (if_pos c_4).symm H locs hP hD hS ls (lv_sub hl [0, 1] rfl)
    · refine lv_aload_n hx hb dX0_addTick_37 rfl (lv_at hl 0 rfl) ?_
      refine lv_dup hx hb dX0_addTick_38 rfl ?_
      refine va_get (D := G) (ci := 0) (v := .int (x 3)) (C := RX0) (T := TX0) (N := 6) hx hb hts i_X0 hown hK hP 0 rfl rfl 3 (by decide) (hts (.fieldLink RX0 26 "RelayTuner$Accounts" "outputChanges" "I") (by decide +kernel)) (fun _ h9 => h9) rfl dX0_addTick_39 ?_
      refine lv_iconst (v := 1) hx hb dX0_addTick_42 (by decide) ?_
      refine lv_iadd hx hb dX0_addTick_43 ?_
      refine va_put (D := G) (ci := 0) (v := .int ((x 3) + 1)) (ty := .int) (C := RX0) (T := TX0) (N := 6) hx hb hts i_X0 tyX0 tyX0_ok nmX0 hown hK hP hD hS 0 rfl rfl 3 (by decide) (hts (.fieldLink RX0 26 "RelayTuner$Accounts" "outputChanges" "I") (by decide +kernel)) (fun _ h9 => h9) rfl (by decide +kernel) rfl rfl (Nat.le_of_ble_eq_true rfl) dX0_addTick_44 (fun H locs hP hD hS => ?_)
      have hP : va_P G vwCl [kX0 h t (upd (upd x 2 ((x 2) + a2)) 3 ((x 3) + 1)), aI y t 3 v_2] H := hP
      have hD : va_D A [kX0 h t (upd (upd x 2 ((x 2) + a2)) 3 ((x 3) + 1)), aI y t 3 v_2] := hD
      exact J47_6 _ (if_neg c_4).symm H locs hP hD hS ls (lv_sub hl [0, 1] rfl)
  refine lv_if_lt (tgt := 19) hx hb dX0_addTick_1 (by decide) (fun c_1 => ?_) (fun c_1 => ?_)
  · exact J19_3 _ (if_pos c_1).symm s.heap [] hP hD hS ls (lv_sub hl [0, 2] rfl)
  · refine lv_iload_n hx hb dX0_addTick_4 rfl (lv_at hl 1 rfl) ?_
    refine lv_iconst (v := 3) hx hb dX0_addTick_5 (by decide) ?_
    refine lv_icmp_ge (tgt := 19) hx hb dX0_addTick_6 (by decide) (fun c_7 => ?_) (fun c_7 => ?_)
    · exact J19_3 _ ((if_neg c_1).trans (if_pos c_7)).symm s.heap [] hP hD hS ls (lv_sub hl [0, 2] rfl)
    · refine lv_aload_n hx hb dX0_addTick_9 rfl (lv_at hl 0 rfl) ?_
      refine va_get (D := G) (ci := 0) (v := .ref t) (C := RX0) (T := TX0) (N := 6) hx hb hts i_X0 hown hK hP 0 rfl rfl 0 (by decide) (hts (.fieldLink RX0 9 "RelayTuner$Accounts" "ticks" "[I") (by decide +kernel)) (fun _ h9 => h9) rfl dX0_addTick_10 ?_
      refine lv_iload_n hx hb dX0_addTick_13 rfl (lv_at hl 1 rfl) ?_
      refine lv_dup2_11 hx hb dX0_addTick_14 rfl rfl ?_
      refine al_i (D := G) (n := 3) (f := ft) hx hb hK hP 1 0 rfl rfl (tn a1) ((in_tn (vin2 c_1 c_7 rfl (by decide)) (by decide)).1) ((in_tn (vin2 c_1 c_7 rfl (by decide)) (by decide)).2) (by first | decide | omega) dX0_addTick_15 ?_
      refine lv_iconst (v := 1) hx hb dX0_addTick_16 (by decide) ?_
      refine lv_iadd hx hb dX0_addTick_17 ?_
      refine as_i (D := G) (n := 3) (f := ft) hx hb hK hP hD hS 1 0 rfl rfl (tn a1) ((in_tn (vin2 c_1 c_7 rfl (by decide)) (by decide)).1) ((in_tn (vin2 c_1 c_7 rfl (by decide)) (by decide)).2) (by first | decide | omega) dX0_addTick_18 (fun H locs hP hD hS => ?_)
      have hP : va_P G vwCl [kX0 h t x, aI y t 3 (upd ft (tn a1) ((ft (tn a1)) + 1))] H := hP
      have hD : va_D A [kX0 h t x, aI y t 3 (upd ft (tn a1) ((ft (tn a1)) + 1))] := hD
      exact J19_3 _ ((if_neg c_1).trans (if_neg c_7)).symm H locs hP hD hS ls (lv_sub hl [0, 2] rfl)

def s_X0_number_r (a1 : Int32) (x : Nat → Int32) (ft : Nat → Int32) : Int32 := (if a1 = 0 then (ft 0) else (if a1 = 1 then (ft 1) else (if a1 = 2 then (ft 2) else (if a1 = 3 then (x 2) else (if a1 = 4 then (x 3) else (if a1 = 5 then (x 4) else (x 5)))))))
abbrev rmX0_number : Room := ({ frames := 0, cells := 0, slots := 0, locals := 0 } : Room)
set_option maxHeartbeats 4000000 in
set_option maxRecDepth 100000 in
theorem c_X0_number (l : Launch) (G : va_G) (y : Nat → ClassId) (h : Nat) (a1 : Int32) (t : Nat) (x : Nat → Int32) (ft : Nat → Int32) : Met l yX0_number wsX0_number rmX0_number (PR G y [.ref h, .int a1] [kX0 h t x, aI y t 3 ft]) (QRi (s_X0_number_r a1 x ft)) 0 0 (fun _ => False) := by
  refine Met.ofW (cc := cX0_number) (maxL := 2) (ret := (some .int)) (by decide) rfl ?_
  intro p e s m args below meth c s₁ B hml hv
  obtain ⟨rfl, hP, hK, hN⟩ := hv
  have hx := B.exec
  have hb := B.bytes
  have hr := B.returns
  have hts := atoms_spec (ws := wsX0_number) B.pre
  have hown : s.vm.findClass RX0 = some m.cls := findClass_of_methodNamed B.named
  have hlocks := B.notSynchronized
  have i_X0 : ∀ w ∈ u_ws RX0 TX0 6, w ∈ wsX0_number := by decide +kernel
  have hl := lv_entry ([.ref h, .int a1]) (n := 2) (Nat.le_of_ble_eq_true rfl)
  rw [lg_entry_eq]
  generalize (lg_sl ([.ref h, .int a1]) ++ List.replicate (2 - (lg_sl ([.ref h, .int a1])).length) Slot.unset).toArray = ls at hl ⊢
  have hl : lv_has ls 2 [(0, .ref h), (1, .int a1)] := hl
  refine lv_iload_n hx hb dX0_number_0 rfl (lv_at hl 1 rfl) ?_
  rcases Decidable.em (a1 = 0) with c_1 | c_1
  · refine lv_tableIn (tgt := 40) hx hb dX0_number_1 (by rw [c_1]; decide) (by rw [c_1]; decide) (by rw [c_1]; first | done | rfl) (by decide) ?_
    refine lv_aload_n hx hb dX0_number_40 rfl (lv_at hl 0 rfl) ?_
    refine va_get (D := G) (ci := 0) (v := .ref t) (C := RX0) (T := TX0) (N := 6) hx hb hts i_X0 hown hK hP 0 rfl rfl 0 (by decide) (hts (.fieldLink RX0 9 "RelayTuner$Accounts" "ticks" "[I") (by decide +kernel)) (fun _ h9 => h9) rfl dX0_number_41 ?_
    refine lv_iload_n hx hb dX0_number_44 rfl (lv_at hl 1 rfl) ?_
    refine al_i (D := G) (n := 3) (f := ft) hx hb hK hP 1 0 rfl rfl 0 c_1 (by decide) (by first | decide | omega) dX0_number_45 ?_
    exact W.iret hx hb hr (end_Ri (by unfold s_X0_number_r; exact (if_pos c_1).symm)) (fun _ h => nomatch h) dX0_number_46
  rcases Decidable.em (a1 = 1) with c_2 | c_2
  · refine lv_tableIn (tgt := 40) hx hb dX0_number_1 (by rw [c_2]; decide) (by rw [c_2]; decide) (by rw [c_2]; first | done | rfl) (by decide) ?_
    refine lv_aload_n hx hb dX0_number_40 rfl (lv_at hl 0 rfl) ?_
    refine va_get (D := G) (ci := 0) (v := .ref t) (C := RX0) (T := TX0) (N := 6) hx hb hts i_X0 hown hK hP 0 rfl rfl 0 (by decide) (hts (.fieldLink RX0 9 "RelayTuner$Accounts" "ticks" "[I") (by decide +kernel)) (fun _ h9 => h9) rfl dX0_number_41 ?_
    refine lv_iload_n hx hb dX0_number_44 rfl (lv_at hl 1 rfl) ?_
    refine al_i (D := G) (n := 3) (f := ft) hx hb hK hP 1 0 rfl rfl 1 c_2 (by decide) (by first | decide | omega) dX0_number_45 ?_
    exact W.iret hx hb hr (end_Ri (by unfold s_X0_number_r; exact ((if_neg c_1).trans (if_pos c_2)).symm)) (fun _ h => nomatch h) dX0_number_46
  rcases Decidable.em (a1 = 2) with c_3 | c_3
  · refine lv_tableIn (tgt := 40) hx hb dX0_number_1 (by rw [c_3]; decide) (by rw [c_3]; decide) (by rw [c_3]; first | done | rfl) (by decide) ?_
    refine lv_aload_n hx hb dX0_number_40 rfl (lv_at hl 0 rfl) ?_
    refine va_get (D := G) (ci := 0) (v := .ref t) (C := RX0) (T := TX0) (N := 6) hx hb hts i_X0 hown hK hP 0 rfl rfl 0 (by decide) (hts (.fieldLink RX0 9 "RelayTuner$Accounts" "ticks" "[I") (by decide +kernel)) (fun _ h9 => h9) rfl dX0_number_41 ?_
    refine lv_iload_n hx hb dX0_number_44 rfl (lv_at hl 1 rfl) ?_
    refine al_i (D := G) (n := 3) (f := ft) hx hb hK hP 1 0 rfl rfl 2 c_3 (by decide) (by first | decide | omega) dX0_number_45 ?_
    exact W.iret hx hb hr (end_Ri (by unfold s_X0_number_r; exact ((if_neg c_1).trans ((if_neg c_2).trans (if_pos c_3))).symm)) (fun _ h => nomatch h) dX0_number_46
  rcases Decidable.em (a1 = 3) with c_4 | c_4
  · refine lv_tableIn (tgt := 47) hx hb dX0_number_1 (by rw [c_4]; decide) (by rw [c_4]; decide) (by rw [c_4]; first | done | rfl) (by decide) ?_
    refine lv_aload_n hx hb dX0_number_47 rfl (lv_at hl 0 rfl) ?_
    refine va_get (D := G) (ci := 0) (v := .int (x 2)) (C := RX0) (T := TX0) (N := 6) hx hb hts i_X0 hown hK hP 0 rfl rfl 2 (by decide) (hts (.fieldLink RX0 23 "RelayTuner$Accounts" "outputs" "I") (by decide +kernel)) (fun _ h9 => h9) rfl dX0_number_48 ?_
    exact W.iret hx hb hr (end_Ri (by unfold s_X0_number_r; exact ((if_neg c_1).trans ((if_neg c_2).trans ((if_neg c_3).trans (if_pos c_4)))).symm)) (fun _ h => nomatch h) dX0_number_51
  rcases Decidable.em (a1 = 4) with c_5 | c_5
  · refine lv_tableIn (tgt := 52) hx hb dX0_number_1 (by rw [c_5]; decide) (by rw [c_5]; decide) (by rw [c_5]; first | done | rfl) (by decide) ?_
    refine lv_aload_n hx hb dX0_number_52 rfl (lv_at hl 0 rfl) ?_
    refine va_get (D := G) (ci := 0) (v := .int (x 3)) (C := RX0) (T := TX0) (N := 6) hx hb hts i_X0 hown hK hP 0 rfl rfl 3 (by decide) (hts (.fieldLink RX0 26 "RelayTuner$Accounts" "outputChanges" "I") (by decide +kernel)) (fun _ h9 => h9) rfl dX0_number_53 ?_
    exact W.iret hx hb hr (end_Ri (by unfold s_X0_number_r; exact ((if_neg c_1).trans ((if_neg c_2).trans ((if_neg c_3).trans ((if_neg c_4).trans (if_pos c_5))))).symm)) (fun _ h => nomatch h) dX0_number_56
  rcases Decidable.em (a1 = 5) with c_6 | c_6
  · refine lv_tableIn (tgt := 57) hx hb dX0_number_1 (by rw [c_6]; decide) (by rw [c_6]; decide) (by rw [c_6]; first | done | rfl) (by decide) ?_
    refine lv_aload_n hx hb dX0_number_57 rfl (lv_at hl 0 rfl) ?_
    refine va_get (D := G) (ci := 0) (v := .int (x 4)) (C := RX0) (T := TX0) (N := 6) hx hb hts i_X0 hown hK hP 0 rfl rfl 4 (by decide) (hts (.fieldLink RX0 29 "RelayTuner$Accounts" "crossings" "I") (by decide +kernel)) (fun _ h9 => h9) rfl dX0_number_58 ?_
    exact W.iret hx hb hr (end_Ri (by unfold s_X0_number_r; exact ((if_neg c_1).trans ((if_neg c_2).trans ((if_neg c_3).trans ((if_neg c_4).trans ((if_neg c_5).trans (if_pos c_6)))))).symm)) (fun _ h => nomatch h) dX0_number_61
  refine lv_tableOut (tgt := 62) hx hb dX0_number_1 (by have e0 : a1.toInt ≠ 0 := fun h => c_1 (Int32.toInt_inj.mp h); have e1 : a1.toInt ≠ 1 := fun h => c_2 (Int32.toInt_inj.mp h); have e2 : a1.toInt ≠ 2 := fun h => c_3 (Int32.toInt_inj.mp h); have e3 : a1.toInt ≠ 3 := fun h => c_4 (Int32.toInt_inj.mp h); have e4 : a1.toInt ≠ 4 := fun h => c_5 (Int32.toInt_inj.mp h); have e5 : a1.toInt ≠ 5 := fun h => c_6 (Int32.toInt_inj.mp h); omega) (by decide) ?_
  refine lv_aload_n hx hb dX0_number_62 rfl (lv_at hl 0 rfl) ?_
  refine va_get (D := G) (ci := 0) (v := .int (x 5)) (C := RX0) (T := TX0) (N := 6) hx hb hts i_X0 hown hK hP 0 rfl rfl 5 (by decide) (hts (.fieldLink RX0 32 "RelayTuner$Accounts" "disturbances" "I") (by decide +kernel)) (fun _ h9 => h9) rfl dX0_number_63 ?_
  exact W.iret hx hb hr (end_Ri (by unfold s_X0_number_r; exact ((if_neg c_1).trans ((if_neg c_2).trans ((if_neg c_3).trans ((if_neg c_4).trans ((if_neg c_5).trans (if_neg c_6)))))).symm)) (fun _ h => nomatch h) dX0_number_66

abbrev rmX1_become : Room := ({ frames := 0, cells := 0, slots := 0, locals := 0 } : Room)
set_option maxHeartbeats 4000000 in
set_option maxRecDepth 100000 in
theorem c_X1_become (l : Launch) (G : va_G) (y : Nat → ClassId) (h : Nat) (k : Nat) (x : Nat → Int32) (x2 : Nat → Int32) (sz : Nat) (hz7 : x2 7 = 0 ∨ x2 7 = 1) (hz10 : x2 10 = 0 ∨ x2 10 = 1) : Met l yX1_become wsX1_become rmX1_become (PH G y [.ref h, .ref k] [kX1 h x, kX1 k x2] sz) (QHv G (fun _ : Unit => [kX1 h x2, kX1 k x2]) (va_A [kX1 h x, kX1 k x2] sz)) 0 0 (va_A [kX1 h x, kX1 k x2] sz) := by
  refine Met.ofW (cc := cX1_become) (maxL := 2) (ret := none) (by decide) rfl ?_
  intro p e s m args below meth c s₁ B hml hv
  obtain ⟨rfl, hsz, hP, ⟨hK, hN⟩, hD0⟩ := hv
  have hx := B.exec
  have hb := B.bytes
  have hr := B.returns
  have hts := atoms_spec (ws := wsX1_become) B.pre
  have hown : s.vm.findClass RX1 = some m.cls := findClass_of_methodNamed B.named
  have hlocks := B.notSynchronized
  have i_X1 : ∀ w ∈ u_ws RX1 TX1 11, w ∈ wsX1_become := by decide +kernel
  subst hsz
  have hD := hD0.self (sz := s.heap.size)
  generalize hAe : va_A [kX1 h x, kX1 k x2] s.heap.size = A at hD ⊢
  have hA : ∀ q : Nat, s.heap.size ≤ q → A q := fun q h => by rw [← hAe]; exact Or.inr h
  have hS : va_S A s.heap s.heap [] := va_S.rf
  have hP : va_P G vwCl [kX1 h x, kX1 k x2] s.heap := hP
  have hl := lv_entry ([.ref h, .ref k]) (n := 2) (Nat.le_of_ble_eq_true rfl)
  rw [lg_entry_eq]
  generalize (lg_sl ([.ref h, .ref k]) ++ List.replicate (2 - (lg_sl ([.ref h, .ref k])).length) Slot.unset).toArray = ls at hl ⊢
  have hl : lv_has ls 2 [(0, .ref h), (1, .ref k)] := hl
  refine lv_aload_n hx hb dX1_become_0 rfl (lv_at hl 0 rfl) ?_
  refine lv_aload_n hx hb dX1_become_1 rfl (lv_at hl 1 rfl) ?_
  refine va_get (D := G) (ci := 1) (v := .int (x2 0)) (C := RX1) (T := TX1) (N := 11) hx hb hts i_X1 hown hK hP 1 rfl rfl 0 (by decide) (hts (.fieldLink RX1 9 "RelayTuner$Control" "setPoint" "I") (by decide +kernel)) (fun _ h9 => h9) rfl dX1_become_2 ?_
  refine va_put (D := G) (ci := 1) (v := .int (x2 0)) (ty := .int) (C := RX1) (T := TX1) (N := 11) hx hb hts i_X1 tyX1 tyX1_ok nmX1 hown hK hP hD hS 0 rfl rfl 0 (by decide) (hts (.fieldLink RX1 9 "RelayTuner$Control" "setPoint" "I") (by decide +kernel)) (fun _ h9 => h9) rfl (by decide +kernel) rfl rfl (Nat.le_of_ble_eq_true rfl) dX1_become_5 (fun H locs hP hD hS => ?_)
  have hP : va_P G vwCl [kX1 h (upd x 0 (x2 0)), kX1 k x2] H := hP
  have hD : va_D A [kX1 h (upd x 0 (x2 0)), kX1 k x2] := hD
  refine lv_aload_n hx hb dX1_become_8 rfl (lv_at hl 0 rfl) ?_
  refine lv_aload_n hx hb dX1_become_9 rfl (lv_at hl 1 rfl) ?_
  refine va_get (D := G) (ci := 1) (v := .int (x2 1)) (C := RX1) (T := TX1) (N := 11) hx hb hts i_X1 hown hK hP 1 rfl rfl 1 (by decide) (hts (.fieldLink RX1 15 "RelayTuner$Control" "band" "I") (by decide +kernel)) (fun _ h9 => h9) rfl dX1_become_10 ?_
  refine va_put (D := G) (ci := 1) (v := .int (x2 1)) (ty := .int) (C := RX1) (T := TX1) (N := 11) hx hb hts i_X1 tyX1 tyX1_ok nmX1 hown hK hP hD hS 0 rfl rfl 1 (by decide) (hts (.fieldLink RX1 15 "RelayTuner$Control" "band" "I") (by decide +kernel)) (fun _ h9 => h9) rfl (by decide +kernel) rfl rfl (Nat.le_of_ble_eq_true rfl) dX1_become_13 (fun H locs hP hD hS => ?_)
  have hP : va_P G vwCl [kX1 h (upd (upd x 0 (x2 0)) 1 (x2 1)), kX1 k x2] H := hP
  have hD : va_D A [kX1 h (upd (upd x 0 (x2 0)) 1 (x2 1)), kX1 k x2] := hD
  refine lv_aload_n hx hb dX1_become_16 rfl (lv_at hl 0 rfl) ?_
  refine lv_aload_n hx hb dX1_become_17 rfl (lv_at hl 1 rfl) ?_
  refine va_get (D := G) (ci := 1) (v := .int (x2 2)) (C := RX1) (T := TX1) (N := 11) hx hb hts i_X1 hown hK hP 1 rfl rfl 2 (by decide) (hts (.fieldLink RX1 18 "RelayTuner$Control" "tolerance" "I") (by decide +kernel)) (fun _ h9 => h9) rfl dX1_become_18 ?_
  refine va_put (D := G) (ci := 1) (v := .int (x2 2)) (ty := .int) (C := RX1) (T := TX1) (N := 11) hx hb hts i_X1 tyX1 tyX1_ok nmX1 hown hK hP hD hS 0 rfl rfl 2 (by decide) (hts (.fieldLink RX1 18 "RelayTuner$Control" "tolerance" "I") (by decide +kernel)) (fun _ h9 => h9) rfl (by decide +kernel) rfl rfl (Nat.le_of_ble_eq_true rfl) dX1_become_21 (fun H locs hP hD hS => ?_)
  have hP : va_P G vwCl [kX1 h (upd (upd (upd x 0 (x2 0)) 1 (x2 1)) 2 (x2 2)), kX1 k x2] H := hP
  have hD : va_D A [kX1 h (upd (upd (upd x 0 (x2 0)) 1 (x2 1)) 2 (x2 2)), kX1 k x2] := hD
  refine lv_aload_n hx hb dX1_become_24 rfl (lv_at hl 0 rfl) ?_
  refine lv_aload_n hx hb dX1_become_25 rfl (lv_at hl 1 rfl) ?_
  refine va_get (D := G) (ci := 1) (v := .int (x2 3)) (C := RX1) (T := TX1) (N := 11) hx hb hts i_X1 hown hK hP 1 rfl rfl 3 (by decide) (hts (.fieldLink RX1 21 "RelayTuner$Control" "p" "I") (by decide +kernel)) (fun _ h9 => h9) rfl dX1_become_26 ?_
  refine va_put (D := G) (ci := 1) (v := .int (x2 3)) (ty := .int) (C := RX1) (T := TX1) (N := 11) hx hb hts i_X1 tyX1 tyX1_ok nmX1 hown hK hP hD hS 0 rfl rfl 3 (by decide) (hts (.fieldLink RX1 21 "RelayTuner$Control" "p" "I") (by decide +kernel)) (fun _ h9 => h9) rfl (by decide +kernel) rfl rfl (Nat.le_of_ble_eq_true rfl) dX1_become_29 (fun H locs hP hD hS => ?_)
  have hP : va_P G vwCl [kX1 h (upd (upd (upd (upd x 0 (x2 0)) 1 (x2 1)) 2 (x2 2)) 3 (x2 3)), kX1 k x2] H := hP
  have hD : va_D A [kX1 h (upd (upd (upd (upd x 0 (x2 0)) 1 (x2 1)) 2 (x2 2)) 3 (x2 3)), kX1 k x2] := hD
  refine lv_aload_n hx hb dX1_become_32 rfl (lv_at hl 0 rfl) ?_
  refine lv_aload_n hx hb dX1_become_33 rfl (lv_at hl 1 rfl) ?_
  refine va_get (D := G) (ci := 1) (v := .int (x2 4)) (C := RX1) (T := TX1) (N := 11) hx hb hts i_X1 hown hK hP 1 rfl rfl 4 (by decide) (hts (.fieldLink RX1 24 "RelayTuner$Control" "i" "I") (by decide +kernel)) (fun _ h9 => h9) rfl dX1_become_34 ?_
  refine va_put (D := G) (ci := 1) (v := .int (x2 4)) (ty := .int) (C := RX1) (T := TX1) (N := 11) hx hb hts i_X1 tyX1 tyX1_ok nmX1 hown hK hP hD hS 0 rfl rfl 4 (by decide) (hts (.fieldLink RX1 24 "RelayTuner$Control" "i" "I") (by decide +kernel)) (fun _ h9 => h9) rfl (by decide +kernel) rfl rfl (Nat.le_of_ble_eq_true rfl) dX1_become_37 (fun H locs hP hD hS => ?_)
  have hP : va_P G vwCl [kX1 h (upd (upd (upd (upd (upd x 0 (x2 0)) 1 (x2 1)) 2 (x2 2)) 3 (x2 3)) 4 (x2 4)), kX1 k x2] H := hP
  have hD : va_D A [kX1 h (upd (upd (upd (upd (upd x 0 (x2 0)) 1 (x2 1)) 2 (x2 2)) 3 (x2 3)) 4 (x2 4)), kX1 k x2] := hD
  refine lv_aload_n hx hb dX1_become_40 rfl (lv_at hl 0 rfl) ?_
  refine lv_aload_n hx hb dX1_become_41 rfl (lv_at hl 1 rfl) ?_
  refine va_get (D := G) (ci := 1) (v := .int (x2 5)) (C := RX1) (T := TX1) (N := 11) hx hb hts i_X1 hown hK hP 1 rfl rfl 5 (by decide) (hts (.fieldLink RX1 27 "RelayTuner$Control" "d" "I") (by decide +kernel)) (fun _ h9 => h9) rfl dX1_become_42 ?_
  refine va_put (D := G) (ci := 1) (v := .int (x2 5)) (ty := .int) (C := RX1) (T := TX1) (N := 11) hx hb hts i_X1 tyX1 tyX1_ok nmX1 hown hK hP hD hS 0 rfl rfl 5 (by decide) (hts (.fieldLink RX1 27 "RelayTuner$Control" "d" "I") (by decide +kernel)) (fun _ h9 => h9) rfl (by decide +kernel) rfl rfl (Nat.le_of_ble_eq_true rfl) dX1_become_45 (fun H locs hP hD hS => ?_)
  have hP : va_P G vwCl [kX1 h (upd (upd (upd (upd (upd (upd x 0 (x2 0)) 1 (x2 1)) 2 (x2 2)) 3 (x2 3)) 4 (x2 4)) 5 (x2 5)), kX1 k x2] H := hP
  have hD : va_D A [kX1 h (upd (upd (upd (upd (upd (upd x 0 (x2 0)) 1 (x2 1)) 2 (x2 2)) 3 (x2 3)) 4 (x2 4)) 5 (x2 5)), kX1 k x2] := hD
  refine lv_aload_n hx hb dX1_become_48 rfl (lv_at hl 0 rfl) ?_
  refine lv_aload_n hx hb dX1_become_49 rfl (lv_at hl 1 rfl) ?_
  refine va_get (D := G) (ci := 1) (v := .int (x2 6)) (C := RX1) (T := TX1) (N := 11) hx hb hts i_X1 hown hK hP 1 rfl rfl 6 (by decide) (hts (.fieldLink RX1 30 "RelayTuner$Control" "mode" "I") (by decide +kernel)) (fun _ h9 => h9) rfl dX1_become_50 ?_
  refine va_put (D := G) (ci := 1) (v := .int (x2 6)) (ty := .int) (C := RX1) (T := TX1) (N := 11) hx hb hts i_X1 tyX1 tyX1_ok nmX1 hown hK hP hD hS 0 rfl rfl 6 (by decide) (hts (.fieldLink RX1 30 "RelayTuner$Control" "mode" "I") (by decide +kernel)) (fun _ h9 => h9) rfl (by decide +kernel) rfl rfl (Nat.le_of_ble_eq_true rfl) dX1_become_53 (fun H locs hP hD hS => ?_)
  have hP : va_P G vwCl [kX1 h (upd (upd (upd (upd (upd (upd (upd x 0 (x2 0)) 1 (x2 1)) 2 (x2 2)) 3 (x2 3)) 4 (x2 4)) 5 (x2 5)) 6 (x2 6)), kX1 k x2] H := hP
  have hD : va_D A [kX1 h (upd (upd (upd (upd (upd (upd (upd x 0 (x2 0)) 1 (x2 1)) 2 (x2 2)) 3 (x2 3)) 4 (x2 4)) 5 (x2 5)) 6 (x2 6)), kX1 k x2] := hD
  refine lv_aload_n hx hb dX1_become_56 rfl (lv_at hl 0 rfl) ?_
  refine lv_aload_n hx hb dX1_become_57 rfl (lv_at hl 1 rfl) ?_
  refine va_get (D := G) (ci := 1) (v := .int (x2 7)) (C := RX1) (T := TX1) (N := 11) hx hb hts i_X1 hown hK hP 1 rfl rfl 7 (by decide) (hts (.fieldLink RX1 33 "RelayTuner$Control" "relayOn" "Z") (by decide +kernel)) (fun _ h9 => h9) rfl dX1_become_58 ?_
  refine va_put (D := G) (ci := 1) (v := .int (x2 7)) (ty := .boolean) (C := RX1) (T := TX1) (N := 11) hx hb hts i_X1 tyX1 tyX1_ok nmX1 hown hK hP hD hS 0 rfl rfl 7 (by decide) (hts (.fieldLink RX1 33 "RelayTuner$Control" "relayOn" "Z") (by decide +kernel)) (fun _ h9 => h9) rfl (by decide +kernel) (nz_bool hz7) (fz_bool hz7) (Nat.le_of_ble_eq_true rfl) dX1_become_61 (fun H locs hP hD hS => ?_)
  have hP : va_P G vwCl [kX1 h (upd (upd (upd (upd (upd (upd (upd (upd x 0 (x2 0)) 1 (x2 1)) 2 (x2 2)) 3 (x2 3)) 4 (x2 4)) 5 (x2 5)) 6 (x2 6)) 7 (x2 7)), kX1 k x2] H := hP
  have hD : va_D A [kX1 h (upd (upd (upd (upd (upd (upd (upd (upd x 0 (x2 0)) 1 (x2 1)) 2 (x2 2)) 3 (x2 3)) 4 (x2 4)) 5 (x2 5)) 6 (x2 6)) 7 (x2 7)), kX1 k x2] := hD
  refine lv_aload_n hx hb dX1_become_64 rfl (lv_at hl 0 rfl) ?_
  refine lv_aload_n hx hb dX1_become_65 rfl (lv_at hl 1 rfl) ?_
  refine va_get (D := G) (ci := 1) (v := .int (x2 8)) (C := RX1) (T := TX1) (N := 11) hx hb hts i_X1 hown hK hP 1 rfl rfl 8 (by decide) (hts (.fieldLink RX1 37 "RelayTuner$Control" "sum" "I") (by decide +kernel)) (fun _ h9 => h9) rfl dX1_become_66 ?_
  refine va_put (D := G) (ci := 1) (v := .int (x2 8)) (ty := .int) (C := RX1) (T := TX1) (N := 11) hx hb hts i_X1 tyX1 tyX1_ok nmX1 hown hK hP hD hS 0 rfl rfl 8 (by decide) (hts (.fieldLink RX1 37 "RelayTuner$Control" "sum" "I") (by decide +kernel)) (fun _ h9 => h9) rfl (by decide +kernel) rfl rfl (Nat.le_of_ble_eq_true rfl) dX1_become_69 (fun H locs hP hD hS => ?_)
  have hP : va_P G vwCl [kX1 h (upd (upd (upd (upd (upd (upd (upd (upd (upd x 0 (x2 0)) 1 (x2 1)) 2 (x2 2)) 3 (x2 3)) 4 (x2 4)) 5 (x2 5)) 6 (x2 6)) 7 (x2 7)) 8 (x2 8)), kX1 k x2] H := hP
  have hD : va_D A [kX1 h (upd (upd (upd (upd (upd (upd (upd (upd (upd x 0 (x2 0)) 1 (x2 1)) 2 (x2 2)) 3 (x2 3)) 4 (x2 4)) 5 (x2 5)) 6 (x2 6)) 7 (x2 7)) 8 (x2 8)), kX1 k x2] := hD
  refine lv_aload_n hx hb dX1_become_72 rfl (lv_at hl 0 rfl) ?_
  refine lv_aload_n hx hb dX1_become_73 rfl (lv_at hl 1 rfl) ?_
  refine va_get (D := G) (ci := 1) (v := .int (x2 9)) (C := RX1) (T := TX1) (N := 11) hx hb hts i_X1 hown hK hP 1 rfl rfl 9 (by decide) (hts (.fieldLink RX1 40 "RelayTuner$Control" "lastError" "I") (by decide +kernel)) (fun _ h9 => h9) rfl dX1_become_74 ?_
  refine va_put (D := G) (ci := 1) (v := .int (x2 9)) (ty := .int) (C := RX1) (T := TX1) (N := 11) hx hb hts i_X1 tyX1 tyX1_ok nmX1 hown hK hP hD hS 0 rfl rfl 9 (by decide) (hts (.fieldLink RX1 40 "RelayTuner$Control" "lastError" "I") (by decide +kernel)) (fun _ h9 => h9) rfl (by decide +kernel) rfl rfl (Nat.le_of_ble_eq_true rfl) dX1_become_77 (fun H locs hP hD hS => ?_)
  have hP : va_P G vwCl [kX1 h (upd (upd (upd (upd (upd (upd (upd (upd (upd (upd x 0 (x2 0)) 1 (x2 1)) 2 (x2 2)) 3 (x2 3)) 4 (x2 4)) 5 (x2 5)) 6 (x2 6)) 7 (x2 7)) 8 (x2 8)) 9 (x2 9)), kX1 k x2] H := hP
  have hD : va_D A [kX1 h (upd (upd (upd (upd (upd (upd (upd (upd (upd (upd x 0 (x2 0)) 1 (x2 1)) 2 (x2 2)) 3 (x2 3)) 4 (x2 4)) 5 (x2 5)) 6 (x2 6)) 7 (x2 7)) 8 (x2 8)) 9 (x2 9)), kX1 k x2] := hD
  refine lv_aload_n hx hb dX1_become_80 rfl (lv_at hl 0 rfl) ?_
  refine lv_aload_n hx hb dX1_become_81 rfl (lv_at hl 1 rfl) ?_
  refine va_get (D := G) (ci := 1) (v := .int (x2 10)) (C := RX1) (T := TX1) (N := 11) hx hb hts i_X1 hown hK hP 1 rfl rfl 10 (by decide) (hts (.fieldLink RX1 43 "RelayTuner$Control" "hasLastError" "Z") (by decide +kernel)) (fun _ h9 => h9) rfl dX1_become_82 ?_
  refine va_put (D := G) (ci := 1) (v := .int (x2 10)) (ty := .boolean) (C := RX1) (T := TX1) (N := 11) hx hb hts i_X1 tyX1 tyX1_ok nmX1 hown hK hP hD hS 0 rfl rfl 10 (by decide) (hts (.fieldLink RX1 43 "RelayTuner$Control" "hasLastError" "Z") (by decide +kernel)) (fun _ h9 => h9) rfl (by decide +kernel) (nz_bool hz10) (fz_bool hz10) (Nat.le_of_ble_eq_true rfl) dX1_become_85 (fun H locs hP hD hS => ?_)
  have hP : va_P G vwCl [kX1 h (upd (upd (upd (upd (upd (upd (upd (upd (upd (upd (upd x 0 (x2 0)) 1 (x2 1)) 2 (x2 2)) 3 (x2 3)) 4 (x2 4)) 5 (x2 5)) 6 (x2 6)) 7 (x2 7)) 8 (x2 8)) 9 (x2 9)) 10 (x2 10)), kX1 k x2] H := hP
  have hD : va_D A [kX1 h (upd (upd (upd (upd (upd (upd (upd (upd (upd (upd (upd x 0 (x2 0)) 1 (x2 1)) 2 (x2 2)) 3 (x2 3)) 4 (x2 4)) 5 (x2 5)) 6 (x2 6)) 7 (x2 7)) 8 (x2 8)) 9 (x2 9)) 10 (x2 10)), kX1 k x2] := hD
  exact W.vret hx hb hr (end_Hv () hP hD hS rfl) hS.2.2 dX1_become_88

def s_X1_number_r (a1 : Int32) (x : Nat → Int32) : Int32 := (if a1 = 5 then (x 0) else (if a1 = 6 then (x 1) else (if a1 = 7 then (x 2) else (if a1 = 8 then (x 3) else (if a1 = 9 then (x 4) else (x 5))))))
abbrev rmX1_number : Room := ({ frames := 0, cells := 0, slots := 0, locals := 0 } : Room)
set_option maxHeartbeats 4000000 in
set_option maxRecDepth 100000 in
theorem c_X1_number (l : Launch) (G : va_G) (y : Nat → ClassId) (h : Nat) (a1 : Int32) (x : Nat → Int32) : Met l yX1_number wsX1_number rmX1_number (PR G y [.ref h, .int a1] [kX1 h x]) (QRi (s_X1_number_r a1 x)) 0 0 (fun _ => False) := by
  refine Met.ofW (cc := cX1_number) (maxL := 2) (ret := (some .int)) (by decide) rfl ?_
  intro p e s m args below meth c s₁ B hml hv
  obtain ⟨rfl, hP, hK, hN⟩ := hv
  have hx := B.exec
  have hb := B.bytes
  have hr := B.returns
  have hts := atoms_spec (ws := wsX1_number) B.pre
  have hown : s.vm.findClass RX1 = some m.cls := findClass_of_methodNamed B.named
  have hlocks := B.notSynchronized
  have i_X1 : ∀ w ∈ u_ws RX1 TX1 11, w ∈ wsX1_number := by decide +kernel
  have hl := lv_entry ([.ref h, .int a1]) (n := 2) (Nat.le_of_ble_eq_true rfl)
  rw [lg_entry_eq]
  generalize (lg_sl ([.ref h, .int a1]) ++ List.replicate (2 - (lg_sl ([.ref h, .int a1])).length) Slot.unset).toArray = ls at hl ⊢
  have hl : lv_has ls 2 [(0, .ref h), (1, .int a1)] := hl
  refine lv_iload_n hx hb dX1_number_0 rfl (lv_at hl 1 rfl) ?_
  rcases Decidable.em (a1 = 5) with c_1 | c_1
  · refine lv_tableIn (tgt := 36) hx hb dX1_number_1 (by rw [c_1]; decide) (by rw [c_1]; decide) (by rw [c_1]; first | done | rfl) (by decide) ?_
    refine lv_aload_n hx hb dX1_number_36 rfl (lv_at hl 0 rfl) ?_
    refine va_get (D := G) (ci := 1) (v := .int (x 0)) (C := RX1) (T := TX1) (N := 11) hx hb hts i_X1 hown hK hP 0 rfl rfl 0 (by decide) (hts (.fieldLink RX1 9 "RelayTuner$Control" "setPoint" "I") (by decide +kernel)) (fun _ h9 => h9) rfl dX1_number_37 ?_
    exact W.iret hx hb hr (end_Ri (by unfold s_X1_number_r; exact (if_pos c_1).symm)) (fun _ h => nomatch h) dX1_number_40
  rcases Decidable.em (a1 = 6) with c_2 | c_2
  · refine lv_tableIn (tgt := 41) hx hb dX1_number_1 (by rw [c_2]; decide) (by rw [c_2]; decide) (by rw [c_2]; first | done | rfl) (by decide) ?_
    refine lv_aload_n hx hb dX1_number_41 rfl (lv_at hl 0 rfl) ?_
    refine va_get (D := G) (ci := 1) (v := .int (x 1)) (C := RX1) (T := TX1) (N := 11) hx hb hts i_X1 hown hK hP 0 rfl rfl 1 (by decide) (hts (.fieldLink RX1 15 "RelayTuner$Control" "band" "I") (by decide +kernel)) (fun _ h9 => h9) rfl dX1_number_42 ?_
    exact W.iret hx hb hr (end_Ri (by unfold s_X1_number_r; exact ((if_neg c_1).trans (if_pos c_2)).symm)) (fun _ h => nomatch h) dX1_number_45
  rcases Decidable.em (a1 = 7) with c_3 | c_3
  · refine lv_tableIn (tgt := 46) hx hb dX1_number_1 (by rw [c_3]; decide) (by rw [c_3]; decide) (by rw [c_3]; first | done | rfl) (by decide) ?_
    refine lv_aload_n hx hb dX1_number_46 rfl (lv_at hl 0 rfl) ?_
    refine va_get (D := G) (ci := 1) (v := .int (x 2)) (C := RX1) (T := TX1) (N := 11) hx hb hts i_X1 hown hK hP 0 rfl rfl 2 (by decide) (hts (.fieldLink RX1 18 "RelayTuner$Control" "tolerance" "I") (by decide +kernel)) (fun _ h9 => h9) rfl dX1_number_47 ?_
    exact W.iret hx hb hr (end_Ri (by unfold s_X1_number_r; exact ((if_neg c_1).trans ((if_neg c_2).trans (if_pos c_3))).symm)) (fun _ h => nomatch h) dX1_number_50
  rcases Decidable.em (a1 = 8) with c_4 | c_4
  · refine lv_tableIn (tgt := 51) hx hb dX1_number_1 (by rw [c_4]; decide) (by rw [c_4]; decide) (by rw [c_4]; first | done | rfl) (by decide) ?_
    refine lv_aload_n hx hb dX1_number_51 rfl (lv_at hl 0 rfl) ?_
    refine va_get (D := G) (ci := 1) (v := .int (x 3)) (C := RX1) (T := TX1) (N := 11) hx hb hts i_X1 hown hK hP 0 rfl rfl 3 (by decide) (hts (.fieldLink RX1 21 "RelayTuner$Control" "p" "I") (by decide +kernel)) (fun _ h9 => h9) rfl dX1_number_52 ?_
    exact W.iret hx hb hr (end_Ri (by unfold s_X1_number_r; exact ((if_neg c_1).trans ((if_neg c_2).trans ((if_neg c_3).trans (if_pos c_4)))).symm)) (fun _ h => nomatch h) dX1_number_55
  rcases Decidable.em (a1 = 9) with c_5 | c_5
  · refine lv_tableIn (tgt := 56) hx hb dX1_number_1 (by rw [c_5]; decide) (by rw [c_5]; decide) (by rw [c_5]; first | done | rfl) (by decide) ?_
    refine lv_aload_n hx hb dX1_number_56 rfl (lv_at hl 0 rfl) ?_
    refine va_get (D := G) (ci := 1) (v := .int (x 4)) (C := RX1) (T := TX1) (N := 11) hx hb hts i_X1 hown hK hP 0 rfl rfl 4 (by decide) (hts (.fieldLink RX1 24 "RelayTuner$Control" "i" "I") (by decide +kernel)) (fun _ h9 => h9) rfl dX1_number_57 ?_
    exact W.iret hx hb hr (end_Ri (by unfold s_X1_number_r; exact ((if_neg c_1).trans ((if_neg c_2).trans ((if_neg c_3).trans ((if_neg c_4).trans (if_pos c_5))))).symm)) (fun _ h => nomatch h) dX1_number_60
  refine lv_tableOut (tgt := 61) hx hb dX1_number_1 (by have e0 : a1.toInt ≠ 5 := fun h => c_1 (Int32.toInt_inj.mp h); have e1 : a1.toInt ≠ 6 := fun h => c_2 (Int32.toInt_inj.mp h); have e2 : a1.toInt ≠ 7 := fun h => c_3 (Int32.toInt_inj.mp h); have e3 : a1.toInt ≠ 8 := fun h => c_4 (Int32.toInt_inj.mp h); have e4 : a1.toInt ≠ 9 := fun h => c_5 (Int32.toInt_inj.mp h); omega) (by decide) ?_
  refine lv_aload_n hx hb dX1_number_61 rfl (lv_at hl 0 rfl) ?_
  refine va_get (D := G) (ci := 1) (v := .int (x 5)) (C := RX1) (T := TX1) (N := 11) hx hb hts i_X1 hown hK hP 0 rfl rfl 5 (by decide) (hts (.fieldLink RX1 27 "RelayTuner$Control" "d" "I") (by decide +kernel)) (fun _ h9 => h9) rfl dX1_number_62 ?_
  exact W.iret hx hb hr (end_Ri (by unfold s_X1_number_r; exact ((if_neg c_1).trans ((if_neg c_2).trans ((if_neg c_3).trans ((if_neg c_4).trans (if_neg c_5))))).symm)) (fun _ h => nomatch h) dX1_number_65

def s_X1_put_w0 (a1 : Int32) (a2 : Int32) (x : Nat → Int32) : Nat → Int32 := (let v_6 : Nat → Int32 := (if a1 = 5 then (upd x 0 a2) else (if a1 = 6 then (upd x 1 a2) else (if a1 = 7 then (upd x 2 a2) else (if a1 = 8 then (upd x 3 a2) else (if a1 = 9 then (upd x 4 a2) else (upd x 5 a2)))))); v_6)
abbrev rmX1_put : Room := ({ frames := 0, cells := 0, slots := 0, locals := 0 } : Room)
set_option maxHeartbeats 4000000 in
set_option maxRecDepth 100000 in
theorem c_X1_put (l : Launch) (G : va_G) (y : Nat → ClassId) (h : Nat) (a1 : Int32) (a2 : Int32) (x : Nat → Int32) (sz : Nat) : Met l yX1_put wsX1_put rmX1_put (PH G y [.ref h, .int a1, .int a2] [kX1 h x] sz) (QHv G (fun _ : Unit => [kX1 h (s_X1_put_w0 a1 a2 x)]) (va_A [kX1 h x] sz)) 0 0 (va_A [kX1 h x] sz) := by
  refine Met.ofW (cc := cX1_put) (maxL := 3) (ret := none) (by decide) rfl ?_
  intro p e s m args below meth c s₁ B hml hv
  obtain ⟨rfl, hsz, hP, ⟨hK, hN⟩, hD0⟩ := hv
  have hx := B.exec
  have hb := B.bytes
  have hr := B.returns
  have hts := atoms_spec (ws := wsX1_put) B.pre
  have hown : s.vm.findClass RX1 = some m.cls := findClass_of_methodNamed B.named
  have hlocks := B.notSynchronized
  have i_X1 : ∀ w ∈ u_ws RX1 TX1 11, w ∈ wsX1_put := by decide +kernel
  subst hsz
  have hD := hD0.self (sz := s.heap.size)
  generalize hAe : va_A [kX1 h x] s.heap.size = A at hD ⊢
  have hA : ∀ q : Nat, s.heap.size ≤ q → A q := fun q h => by rw [← hAe]; exact Or.inr h
  have hS : va_S A s.heap s.heap [] := va_S.rf
  have hP : va_P G vwCl [kX1 h x] s.heap := hP
  have hl := lv_entry ([.ref h, .int a1, .int a2]) (n := 3) (Nat.le_of_ble_eq_true rfl)
  rw [lg_entry_eq]
  generalize (lg_sl ([.ref h, .int a1, .int a2]) ++ List.replicate (3 - (lg_sl ([.ref h, .int a1, .int a2])).length) Slot.unset).toArray = ls at hl ⊢
  have hl : lv_has ls 3 [(0, .ref h), (1, .int a1), (2, .int a2)] := hl
  obtain ⟨QQ, hQQ⟩ : ∃ zq9, zq9 = MQ below (QHv G (fun _ : Unit => [kX1 h (s_X1_put_w0 a1 a2 x)]) A) ([.ref h, .int a1, .int a2] : List Value).toArray s 0 0 A := ⟨_, rfl⟩
  rw [← hQQ]
  refine lv_iload_n hx hb dX1_put_0 rfl (lv_at hl 1 rfl) ?_
  have J81_7 : ∀ (v_6 : Nat → Int32) (e_v_6 : v_6 = (if a1 = 5 then (upd x 0 a2) else (if a1 = 6 then (upd x 1 a2) else (if a1 = 7 then (upd x 2 a2) else (if a1 = 8 then (upd x 3 a2) else (if a1 = 9 then (upd x 4 a2) else (upd x 5 a2))))))) (H : Heap) (locs : List Loc) (hP : va_P G vwCl [kX1 h v_6] H) (hD : va_D A [kX1 h v_6]) (hS : va_S A s.heap H locs) (ls : Array Slot) (hl : lv_has ls 3 []), W p l e (headSpec wsX1_put rmX1_put).room s m ([.ref h, .int a1, .int a2] : List Value).toArray below meth c H locs 0 0 QQ (F0 m 81 ls []) := by
    intro v_6 e_v_6 H locs hP hD hS ls hl
    rw [hQQ]
    exact W.vret hx hb hr (end_Hv () hP hD hS (congrArg (fun (z0 : Nat → Int32) => [kX1 h z0]) (by subst e_v_6; unfold s_X1_put_w0; exact rfl))) hS.2.2 dX1_put_81
  rcases Decidable.em (a1 = 5) with c_1 | c_1
  · refine lv_tableIn (tgt := 36) hx hb dX1_put_1 (by rw [c_1]; decide) (by rw [c_1]; decide) (by rw [c_1]; first | done | rfl) (by decide) ?_
    refine lv_aload_n hx hb dX1_put_36 rfl (lv_at hl 0 rfl) ?_
    refine lv_iload_n hx hb dX1_put_37 rfl (lv_at hl 2 rfl) ?_
    refine va_put (D := G) (ci := 1) (v := .int a2) (ty := .int) (C := RX1) (T := TX1) (N := 11) hx hb hts i_X1 tyX1 tyX1_ok nmX1 hown hK hP hD hS 0 rfl rfl 0 (by decide) (hts (.fieldLink RX1 9 "RelayTuner$Control" "setPoint" "I") (by decide +kernel)) (fun _ h9 => h9) rfl (by decide +kernel) rfl rfl (Nat.le_of_ble_eq_true rfl) dX1_put_38 (fun H locs hP hD hS => ?_)
    have hP : va_P G vwCl [kX1 h (upd x 0 a2)] H := hP
    have hD : va_D A [kX1 h (upd x 0 a2)] := hD
    refine lv_goto (tgt := 81) hx hb dX1_put_41 (by decide) ?_
    exact J81_7 _ (if_pos c_1).symm H locs hP hD hS ls (lv_sub hl [] rfl)
  rcases Decidable.em (a1 = 6) with c_2 | c_2
  · refine lv_tableIn (tgt := 44) hx hb dX1_put_1 (by rw [c_2]; decide) (by rw [c_2]; decide) (by rw [c_2]; first | done | rfl) (by decide) ?_
    refine lv_aload_n hx hb dX1_put_44 rfl (lv_at hl 0 rfl) ?_
    refine lv_iload_n hx hb dX1_put_45 rfl (lv_at hl 2 rfl) ?_
    refine va_put (D := G) (ci := 1) (v := .int a2) (ty := .int) (C := RX1) (T := TX1) (N := 11) hx hb hts i_X1 tyX1 tyX1_ok nmX1 hown hK hP hD hS 0 rfl rfl 1 (by decide) (hts (.fieldLink RX1 15 "RelayTuner$Control" "band" "I") (by decide +kernel)) (fun _ h9 => h9) rfl (by decide +kernel) rfl rfl (Nat.le_of_ble_eq_true rfl) dX1_put_46 (fun H locs hP hD hS => ?_)
    have hP : va_P G vwCl [kX1 h (upd x 1 a2)] H := hP
    have hD : va_D A [kX1 h (upd x 1 a2)] := hD
    refine lv_goto (tgt := 81) hx hb dX1_put_49 (by decide) ?_
    exact J81_7 _ ((if_neg c_1).trans (if_pos c_2)).symm H locs hP hD hS ls (lv_sub hl [] rfl)
  rcases Decidable.em (a1 = 7) with c_3 | c_3
  · refine lv_tableIn (tgt := 52) hx hb dX1_put_1 (by rw [c_3]; decide) (by rw [c_3]; decide) (by rw [c_3]; first | done | rfl) (by decide) ?_
    refine lv_aload_n hx hb dX1_put_52 rfl (lv_at hl 0 rfl) ?_
    refine lv_iload_n hx hb dX1_put_53 rfl (lv_at hl 2 rfl) ?_
    refine va_put (D := G) (ci := 1) (v := .int a2) (ty := .int) (C := RX1) (T := TX1) (N := 11) hx hb hts i_X1 tyX1 tyX1_ok nmX1 hown hK hP hD hS 0 rfl rfl 2 (by decide) (hts (.fieldLink RX1 18 "RelayTuner$Control" "tolerance" "I") (by decide +kernel)) (fun _ h9 => h9) rfl (by decide +kernel) rfl rfl (Nat.le_of_ble_eq_true rfl) dX1_put_54 (fun H locs hP hD hS => ?_)
    have hP : va_P G vwCl [kX1 h (upd x 2 a2)] H := hP
    have hD : va_D A [kX1 h (upd x 2 a2)] := hD
    refine lv_goto (tgt := 81) hx hb dX1_put_57 (by decide) ?_
    exact J81_7 _ ((if_neg c_1).trans ((if_neg c_2).trans (if_pos c_3))).symm H locs hP hD hS ls (lv_sub hl [] rfl)
  rcases Decidable.em (a1 = 8) with c_4 | c_4
  · refine lv_tableIn (tgt := 60) hx hb dX1_put_1 (by rw [c_4]; decide) (by rw [c_4]; decide) (by rw [c_4]; first | done | rfl) (by decide) ?_
    refine lv_aload_n hx hb dX1_put_60 rfl (lv_at hl 0 rfl) ?_
    refine lv_iload_n hx hb dX1_put_61 rfl (lv_at hl 2 rfl) ?_
    refine va_put (D := G) (ci := 1) (v := .int a2) (ty := .int) (C := RX1) (T := TX1) (N := 11) hx hb hts i_X1 tyX1 tyX1_ok nmX1 hown hK hP hD hS 0 rfl rfl 3 (by decide) (hts (.fieldLink RX1 21 "RelayTuner$Control" "p" "I") (by decide +kernel)) (fun _ h9 => h9) rfl (by decide +kernel) rfl rfl (Nat.le_of_ble_eq_true rfl) dX1_put_62 (fun H locs hP hD hS => ?_)
    have hP : va_P G vwCl [kX1 h (upd x 3 a2)] H := hP
    have hD : va_D A [kX1 h (upd x 3 a2)] := hD
    refine lv_goto (tgt := 81) hx hb dX1_put_65 (by decide) ?_
    exact J81_7 _ ((if_neg c_1).trans ((if_neg c_2).trans ((if_neg c_3).trans (if_pos c_4)))).symm H locs hP hD hS ls (lv_sub hl [] rfl)
  rcases Decidable.em (a1 = 9) with c_5 | c_5
  · refine lv_tableIn (tgt := 68) hx hb dX1_put_1 (by rw [c_5]; decide) (by rw [c_5]; decide) (by rw [c_5]; first | done | rfl) (by decide) ?_
    refine lv_aload_n hx hb dX1_put_68 rfl (lv_at hl 0 rfl) ?_
    refine lv_iload_n hx hb dX1_put_69 rfl (lv_at hl 2 rfl) ?_
    refine va_put (D := G) (ci := 1) (v := .int a2) (ty := .int) (C := RX1) (T := TX1) (N := 11) hx hb hts i_X1 tyX1 tyX1_ok nmX1 hown hK hP hD hS 0 rfl rfl 4 (by decide) (hts (.fieldLink RX1 24 "RelayTuner$Control" "i" "I") (by decide +kernel)) (fun _ h9 => h9) rfl (by decide +kernel) rfl rfl (Nat.le_of_ble_eq_true rfl) dX1_put_70 (fun H locs hP hD hS => ?_)
    have hP : va_P G vwCl [kX1 h (upd x 4 a2)] H := hP
    have hD : va_D A [kX1 h (upd x 4 a2)] := hD
    refine lv_goto (tgt := 81) hx hb dX1_put_73 (by decide) ?_
    exact J81_7 _ ((if_neg c_1).trans ((if_neg c_2).trans ((if_neg c_3).trans ((if_neg c_4).trans (if_pos c_5))))).symm H locs hP hD hS ls (lv_sub hl [] rfl)
  refine lv_tableOut (tgt := 76) hx hb dX1_put_1 (by have e0 : a1.toInt ≠ 5 := fun h => c_1 (Int32.toInt_inj.mp h); have e1 : a1.toInt ≠ 6 := fun h => c_2 (Int32.toInt_inj.mp h); have e2 : a1.toInt ≠ 7 := fun h => c_3 (Int32.toInt_inj.mp h); have e3 : a1.toInt ≠ 8 := fun h => c_4 (Int32.toInt_inj.mp h); have e4 : a1.toInt ≠ 9 := fun h => c_5 (Int32.toInt_inj.mp h); omega) (by decide) ?_
  refine lv_aload_n hx hb dX1_put_76 rfl (lv_at hl 0 rfl) ?_
  refine lv_iload_n hx hb dX1_put_77 rfl (lv_at hl 2 rfl) ?_
  refine va_put (D := G) (ci := 1) (v := .int a2) (ty := .int) (C := RX1) (T := TX1) (N := 11) hx hb hts i_X1 tyX1 tyX1_ok nmX1 hown hK hP hD hS 0 rfl rfl 5 (by decide) (hts (.fieldLink RX1 27 "RelayTuner$Control" "d" "I") (by decide +kernel)) (fun _ h9 => h9) rfl (by decide +kernel) rfl rfl (Nat.le_of_ble_eq_true rfl) dX1_put_78 (fun H locs hP hD hS => ?_)
  have hP : va_P G vwCl [kX1 h (upd x 5 a2)] H := hP
  have hD : va_D A [kX1 h (upd x 5 a2)] := hD
  exact J81_7 _ ((if_neg c_1).trans ((if_neg c_2).trans ((if_neg c_3).trans ((if_neg c_4).trans (if_neg c_5))))).symm H locs hP hD hS ls (lv_sub hl [] rfl)

def s_X1_enter_w0 (a1 : Int32) (x : Nat → Int32) : Nat → Int32 := (let v_2 : Int32 := (if a1 = 1 then 1 else 0); (let v_6 : Nat → Int32 := (if a1 = 2 then (upd (upd (upd (upd x 6 a1) 7 v_2) 8 0) 10 0) else (upd (upd x 6 a1) 7 v_2)); v_6))
abbrev rmX1_enter : Room := ({ frames := 0, cells := 0, slots := 0, locals := 0 } : Room)
set_option maxHeartbeats 4000000 in
set_option maxRecDepth 100000 in
theorem c_X1_enter (l : Launch) (G : va_G) (y : Nat → ClassId) (h : Nat) (a1 : Int32) (x : Nat → Int32) (sz : Nat) : Met l yX1_enter wsX1_enter rmX1_enter (PH G y [.ref h, .int a1] [kX1 h x] sz) (QHv G (fun _ : Unit => [kX1 h (s_X1_enter_w0 a1 x)]) (va_A [kX1 h x] sz)) 0 0 (va_A [kX1 h x] sz) := by
  refine Met.ofW (cc := cX1_enter) (maxL := 2) (ret := none) (by decide) rfl ?_
  intro p e s m args below meth c s₁ B hml hv
  obtain ⟨rfl, hsz, hP, ⟨hK, hN⟩, hD0⟩ := hv
  have hx := B.exec
  have hb := B.bytes
  have hr := B.returns
  have hts := atoms_spec (ws := wsX1_enter) B.pre
  have hown : s.vm.findClass RX1 = some m.cls := findClass_of_methodNamed B.named
  have hlocks := B.notSynchronized
  have i_X1 : ∀ w ∈ u_ws RX1 TX1 11, w ∈ wsX1_enter := by decide +kernel
  subst hsz
  have hD := hD0.self (sz := s.heap.size)
  generalize hAe : va_A [kX1 h x] s.heap.size = A at hD ⊢
  have hA : ∀ q : Nat, s.heap.size ≤ q → A q := fun q h => by rw [← hAe]; exact Or.inr h
  have hS : va_S A s.heap s.heap [] := va_S.rf
  have hP : va_P G vwCl [kX1 h x] s.heap := hP
  have hl := lv_entry ([.ref h, .int a1]) (n := 2) (Nat.le_of_ble_eq_true rfl)
  rw [lg_entry_eq]
  generalize (lg_sl ([.ref h, .int a1]) ++ List.replicate (2 - (lg_sl ([.ref h, .int a1])).length) Slot.unset).toArray = ls at hl ⊢
  have hl : lv_has ls 2 [(0, .ref h), (1, .int a1)] := hl
  obtain ⟨QQ, hQQ⟩ : ∃ zq9, zq9 = MQ below (QHv G (fun _ : Unit => [kX1 h (s_X1_enter_w0 a1 x)]) A) ([.ref h, .int a1] : List Value).toArray s 0 0 A := ⟨_, rfl⟩
  rw [← hQQ]
  refine lv_aload_n hx hb dX1_enter_0 rfl (lv_at hl 0 rfl) ?_
  refine lv_iload_n hx hb dX1_enter_1 rfl (lv_at hl 1 rfl) ?_
  refine va_put (D := G) (ci := 1) (v := .int a1) (ty := .int) (C := RX1) (T := TX1) (N := 11) hx hb hts i_X1 tyX1 tyX1_ok nmX1 hown hK hP hD hS 0 rfl rfl 6 (by decide) (hts (.fieldLink RX1 30 "RelayTuner$Control" "mode" "I") (by decide +kernel)) (fun _ h9 => h9) rfl (by decide +kernel) rfl rfl (Nat.le_of_ble_eq_true rfl) dX1_enter_2 (fun H locs hP hD hS => ?_)
  have hP : va_P G vwCl [kX1 h (upd x 6 a1)] H := hP
  have hD : va_D A [kX1 h (upd x 6 a1)] := hD
  refine lv_aload_n hx hb dX1_enter_5 rfl (lv_at hl 0 rfl) ?_
  refine lv_iload_n hx hb dX1_enter_6 rfl (lv_at hl 1 rfl) ?_
  refine lv_iconst (v := 1) hx hb dX1_enter_7 (by decide) ?_
  have J16_4 : ∀ (v_2 : Int32) (e_v_2 : v_2 = (if a1 = 1 then 1 else 0)) (z_3 : v_2 = 0 ∨ v_2 = 1) (ls : Array Slot) (hl : lv_has ls 2 [(0, .ref h), (1, .int a1)]), W p l e (headSpec wsX1_enter rmX1_enter).room s m ([.ref h, .int a1] : List Value).toArray below meth c H locs 0 0 QQ (F0 m 16 ls [.int v_2, .ref h]) := by
    intro v_2 e_v_2 z_3 ls hl
    refine va_put (D := G) (ci := 1) (v := .int v_2) (ty := .boolean) (C := RX1) (T := TX1) (N := 11) hx hb hts i_X1 tyX1 tyX1_ok nmX1 hown hK hP hD hS 0 rfl rfl 7 (by decide) (hts (.fieldLink RX1 33 "RelayTuner$Control" "relayOn" "Z") (by decide +kernel)) (fun _ h9 => h9) rfl (by decide +kernel) (nz_bool z_3) (fz_bool z_3) (Nat.le_of_ble_eq_true rfl) dX1_enter_16 (fun H locs hP hD hS => ?_)
    have hP : va_P G vwCl [kX1 h (upd (upd x 6 a1) 7 v_2)] H := hP
    have hD : va_D A [kX1 h (upd (upd x 6 a1) 7 v_2)] := hD
    refine lv_iload_n hx hb dX1_enter_19 rfl (lv_at hl 1 rfl) ?_
    refine lv_iconst (v := 2) hx hb dX1_enter_20 (by decide) ?_
    have J34_7 : ∀ (v_6 : Nat → Int32) (e_v_6 : v_6 = (if a1 = 2 then (upd (upd (upd (upd x 6 a1) 7 v_2) 8 0) 10 0) else (upd (upd x 6 a1) 7 v_2))) (H : Heap) (locs : List Loc) (hP : va_P G vwCl [kX1 h v_6] H) (hD : va_D A [kX1 h v_6]) (hS : va_S A s.heap H locs) (ls : Array Slot) (hl : lv_has ls 2 []), W p l e (headSpec wsX1_enter rmX1_enter).room s m ([.ref h, .int a1] : List Value).toArray below meth c H locs 0 0 QQ (F0 m 34 ls []) := by
      intro v_6 e_v_6 H locs hP hD hS ls hl
      rw [hQQ]
      exact W.vret hx hb hr (end_Hv () hP hD hS (congrArg (fun (z0 : Nat → Int32) => [kX1 h z0]) (by subst e_v_6; subst e_v_2; unfold s_X1_enter_w0; exact rfl))) hS.2.2 dX1_enter_34
    refine lv_icmp_ne (tgt := 34) hx hb dX1_enter_21 (by decide) (fun c_5 => ?_) (fun c_5 => ?_)
    · exact J34_7 _ (if_neg c_5).symm H locs hP hD hS ls (lv_sub hl [] rfl)
    · refine lv_aload_n hx hb dX1_enter_24 rfl (lv_at hl 0 rfl) ?_
      refine lv_iconst (v := 0) hx hb dX1_enter_25 (by decide) ?_
      refine va_put (D := G) (ci := 1) (v := .int 0) (ty := .int) (C := RX1) (T := TX1) (N := 11) hx hb hts i_X1 tyX1 tyX1_ok nmX1 hown hK hP hD hS 0 rfl rfl 8 (by decide) (hts (.fieldLink RX1 37 "RelayTuner$Control" "sum" "I") (by decide +kernel)) (fun _ h9 => h9) rfl (by decide +kernel) rfl rfl (Nat.le_of_ble_eq_true rfl) dX1_enter_26 (fun H locs hP hD hS => ?_)
      have hP : va_P G vwCl [kX1 h (upd (upd (upd x 6 a1) 7 v_2) 8 0)] H := hP
      have hD : va_D A [kX1 h (upd (upd (upd x 6 a1) 7 v_2) 8 0)] := hD
      refine lv_aload_n hx hb dX1_enter_29 rfl (lv_at hl 0 rfl) ?_
      refine lv_iconst (v := 0) hx hb dX1_enter_30 (by decide) ?_
      refine va_put (D := G) (ci := 1) (v := .int 0) (ty := .boolean) (C := RX1) (T := TX1) (N := 11) hx hb hts i_X1 tyX1 tyX1_ok nmX1 hown hK hP hD hS 0 rfl rfl 10 (by decide) (hts (.fieldLink RX1 43 "RelayTuner$Control" "hasLastError" "Z") (by decide +kernel)) (fun _ h9 => h9) rfl (by decide +kernel) (nz_bool (Or.inl rfl)) (fz_bool (Or.inl rfl)) (Nat.le_of_ble_eq_true rfl) dX1_enter_31 (fun H locs hP hD hS => ?_)
      have hP : va_P G vwCl [kX1 h (upd (upd (upd (upd x 6 a1) 7 v_2) 8 0) 10 0)] H := hP
      have hD : va_D A [kX1 h (upd (upd (upd (upd x 6 a1) 7 v_2) 8 0) 10 0)] := hD
      exact J34_7 _ (if_pos c_5).symm H locs hP hD hS ls (lv_sub hl [] rfl)
  refine lv_icmp_ne (tgt := 15) hx hb dX1_enter_8 (by decide) (fun c_1 => ?_) (fun c_1 => ?_)
  · refine lv_iconst (v := 0) hx hb dX1_enter_15 (by decide) ?_
    exact J16_4 _ (if_neg c_1).symm (Or.inl rfl) ls (lv_sub hl [0, 1] rfl)
  · refine lv_iconst (v := 1) hx hb dX1_enter_11 (by decide) ?_
    refine lv_goto (tgt := 16) hx hb dX1_enter_12 (by decide) ?_
    exact J16_4 _ (if_pos c_1).symm (Or.inr rfl) ls (lv_sub hl [0, 1] rfl)

def s_X1_relayAt_r (a1 : Int32) (x : Nat → Int32) : Int32 := (let v_2 : Nat → Int32 := (if a1 < ((x 0) + (x 1)) then (if ((x 0) - (x 1)) < a1 then x else (upd x 7 1)) else (upd x 7 0)); (v_2 7))
def s_X1_relayAt_w0 (a1 : Int32) (x : Nat → Int32) : Nat → Int32 := (let v_2 : Nat → Int32 := (if a1 < ((x 0) + (x 1)) then (if ((x 0) - (x 1)) < a1 then x else (upd x 7 1)) else (upd x 7 0)); v_2)
abbrev rmX1_relayAt : Room := ({ frames := 0, cells := 0, slots := 0, locals := 0 } : Room)
set_option maxHeartbeats 4000000 in
set_option maxRecDepth 100000 in
theorem c_X1_relayAt (l : Launch) (G : va_G) (y : Nat → ClassId) (h : Nat) (a1 : Int32) (x : Nat → Int32) (sz : Nat) (hz7 : x 7 = 0 ∨ x 7 = 1) : Met l yX1_relayAt wsX1_relayAt rmX1_relayAt (PH G y [.ref h, .int a1] [kX1 h x] sz) (QHi G (s_X1_relayAt_r a1 x) (fun _ : Unit => [kX1 h (s_X1_relayAt_w0 a1 x)]) (va_A [kX1 h x] sz)) 0 0 (va_A [kX1 h x] sz) := by
  refine Met.ofW (cc := cX1_relayAt) (maxL := 2) (ret := (some .boolean)) (by decide) rfl ?_
  intro p e s m args below meth c s₁ B hml hv
  obtain ⟨rfl, hsz, hP, ⟨hK, hN⟩, hD0⟩ := hv
  have hx := B.exec
  have hb := B.bytes
  have hr := B.returns
  have hts := atoms_spec (ws := wsX1_relayAt) B.pre
  have hown : s.vm.findClass RX1 = some m.cls := findClass_of_methodNamed B.named
  have hlocks := B.notSynchronized
  have i_X1 : ∀ w ∈ u_ws RX1 TX1 11, w ∈ wsX1_relayAt := by decide +kernel
  subst hsz
  have hD := hD0.self (sz := s.heap.size)
  generalize hAe : va_A [kX1 h x] s.heap.size = A at hD ⊢
  have hA : ∀ q : Nat, s.heap.size ≤ q → A q := fun q h => by rw [← hAe]; exact Or.inr h
  have hS : va_S A s.heap s.heap [] := va_S.rf
  have hP : va_P G vwCl [kX1 h x] s.heap := hP
  have hl := lv_entry ([.ref h, .int a1]) (n := 2) (Nat.le_of_ble_eq_true rfl)
  rw [lg_entry_eq]
  generalize (lg_sl ([.ref h, .int a1]) ++ List.replicate (2 - (lg_sl ([.ref h, .int a1])).length) Slot.unset).toArray = ls at hl ⊢
  have hl : lv_has ls 2 [(0, .ref h), (1, .int a1)] := hl
  obtain ⟨QQ, hQQ⟩ : ∃ zq9, zq9 = MQ below (QHi G (s_X1_relayAt_r a1 x) (fun _ : Unit => [kX1 h (s_X1_relayAt_w0 a1 x)]) A) ([.ref h, .int a1] : List Value).toArray s 0 0 A := ⟨_, rfl⟩
  rw [← hQQ]
  refine lv_iload_n hx hb dX1_relayAt_0 rfl (lv_at hl 1 rfl) ?_
  refine lv_aload_n hx hb dX1_relayAt_1 rfl (lv_at hl 0 rfl) ?_
  refine va_get (D := G) (ci := 1) (v := .int (x 0)) (C := RX1) (T := TX1) (N := 11) hx hb hts i_X1 hown hK hP 0 rfl rfl 0 (by decide) (hts (.fieldLink RX1 9 "RelayTuner$Control" "setPoint" "I") (by decide +kernel)) (fun _ h9 => h9) rfl dX1_relayAt_2 ?_
  refine lv_aload_n hx hb dX1_relayAt_5 rfl (lv_at hl 0 rfl) ?_
  refine va_get (D := G) (ci := 1) (v := .int (x 1)) (C := RX1) (T := TX1) (N := 11) hx hb hts i_X1 hown hK hP 0 rfl rfl 1 (by decide) (hts (.fieldLink RX1 15 "RelayTuner$Control" "band" "I") (by decide +kernel)) (fun _ h9 => h9) rfl dX1_relayAt_6 ?_
  refine lv_iadd hx hb dX1_relayAt_9 ?_
  have J39_3 : ∀ (v_2 : Nat → Int32) (e_v_2 : v_2 = (if a1 < ((x 0) + (x 1)) then (if ((x 0) - (x 1)) < a1 then x else (upd x 7 1)) else (upd x 7 0))) (H : Heap) (locs : List Loc) (hP : va_P G vwCl [kX1 h v_2] H) (hD : va_D A [kX1 h v_2]) (hS : va_S A s.heap H locs) (ls : Array Slot) (hl : lv_has ls 2 [(0, .ref h)]), W p l e (headSpec wsX1_relayAt rmX1_relayAt).room s m ([.ref h, .int a1] : List Value).toArray below meth c H locs 0 0 QQ (F0 m 39 ls []) := by
    intro v_2 e_v_2 H locs hP hD hS ls hl
    refine lv_aload_n hx hb dX1_relayAt_39 rfl (lv_at hl 0 rfl) ?_
    refine va_get (D := G) (ci := 1) (v := .int (v_2 7)) (C := RX1) (T := TX1) (N := 11) hx hb hts i_X1 hown hK hP 0 rfl rfl 7 (by decide) (hts (.fieldLink RX1 33 "RelayTuner$Control" "relayOn" "Z") (by decide +kernel)) (fun _ h9 => h9) rfl dX1_relayAt_40 ?_
    rw [hQQ]
    exact W.zret hx hb hr (nz_bool (by rw [e_v_2]; exact (ite_z (ite_z hz7 (Or.inr rfl)) (Or.inl rfl)))) (end_Hi () hP hD hS (by subst e_v_2; unfold s_X1_relayAt_r; exact rfl) (congrArg (fun (z0 : Nat → Int32) => [kX1 h z0]) (by subst e_v_2; unfold s_X1_relayAt_w0; exact rfl))) hS.2.2 dX1_relayAt_43
  refine lv_icmp_lt (tgt := 21) hx hb dX1_relayAt_10 (by decide) (fun c_1 => ?_) (fun c_1 => ?_)
  · refine lv_iload_n hx hb dX1_relayAt_21 rfl (lv_at hl 1 rfl) ?_
    refine lv_aload_n hx hb dX1_relayAt_22 rfl (lv_at hl 0 rfl) ?_
    refine va_get (D := G) (ci := 1) (v := .int (x 0)) (C := RX1) (T := TX1) (N := 11) hx hb hts i_X1 hown hK hP 0 rfl rfl 0 (by decide) (hts (.fieldLink RX1 9 "RelayTuner$Control" "setPoint" "I") (by decide +kernel)) (fun _ h9 => h9) rfl dX1_relayAt_23 ?_
    refine lv_aload_n hx hb dX1_relayAt_26 rfl (lv_at hl 0 rfl) ?_
    refine va_get (D := G) (ci := 1) (v := .int (x 1)) (C := RX1) (T := TX1) (N := 11) hx hb hts i_X1 hown hK hP 0 rfl rfl 1 (by decide) (hts (.fieldLink RX1 15 "RelayTuner$Control" "band" "I") (by decide +kernel)) (fun _ h9 => h9) rfl dX1_relayAt_27 ?_
    refine lv_isub hx hb dX1_relayAt_30 ?_
    refine lv_icmp_gt (tgt := 39) hx hb dX1_relayAt_31 (by decide) (fun c_4 => ?_) (fun c_4 => ?_)
    · exact J39_3 _ ((if_pos c_1).trans (if_pos c_4)).symm s.heap [] hP hD hS ls (lv_sub hl [0] rfl)
    · refine lv_aload_n hx hb dX1_relayAt_34 rfl (lv_at hl 0 rfl) ?_
      refine lv_iconst (v := 1) hx hb dX1_relayAt_35 (by decide) ?_
      refine va_put (D := G) (ci := 1) (v := .int 1) (ty := .boolean) (C := RX1) (T := TX1) (N := 11) hx hb hts i_X1 tyX1 tyX1_ok nmX1 hown hK hP hD hS 0 rfl rfl 7 (by decide) (hts (.fieldLink RX1 33 "RelayTuner$Control" "relayOn" "Z") (by decide +kernel)) (fun _ h9 => h9) rfl (by decide +kernel) (nz_bool (Or.inr rfl)) (fz_bool (Or.inr rfl)) (Nat.le_of_ble_eq_true rfl) dX1_relayAt_36 (fun H locs hP hD hS => ?_)
      have hP : va_P G vwCl [kX1 h (upd x 7 1)] H := hP
      have hD : va_D A [kX1 h (upd x 7 1)] := hD
      exact J39_3 _ ((if_pos c_1).trans (if_neg c_4)).symm H locs hP hD hS ls (lv_sub hl [0] rfl)
  · refine lv_aload_n hx hb dX1_relayAt_13 rfl (lv_at hl 0 rfl) ?_
    refine lv_iconst (v := 0) hx hb dX1_relayAt_14 (by decide) ?_
    refine va_put (D := G) (ci := 1) (v := .int 0) (ty := .boolean) (C := RX1) (T := TX1) (N := 11) hx hb hts i_X1 tyX1 tyX1_ok nmX1 hown hK hP hD hS 0 rfl rfl 7 (by decide) (hts (.fieldLink RX1 33 "RelayTuner$Control" "relayOn" "Z") (by decide +kernel)) (fun _ h9 => h9) rfl (by decide +kernel) (nz_bool (Or.inl rfl)) (fz_bool (Or.inl rfl)) (Nat.le_of_ble_eq_true rfl) dX1_relayAt_15 (fun H locs hP hD hS => ?_)
    have hP : va_P G vwCl [kX1 h (upd x 7 0)] H := hP
    have hD : va_D A [kX1 h (upd x 7 0)] := hD
    refine lv_goto (tgt := 39) hx hb dX1_relayAt_18 (by decide) ?_
    exact J39_3 _ (if_neg c_1).symm H locs hP hD hS ls (lv_sub hl [0] rfl)

def s_X1_controlAt_r (a1 : Int32) (a2 : Int32) (x : Nat → Int32) : Int32 := (let v_2 : Int32 := (if (x 10) = 0 then 0 else (((x 0) - a1) - (x 9))); (s_X11_within_r (((((x 3) * ((x 0) - a1)) + ((x 4) * (x 8))) + ((x 5) * v_2)) / 100) 0 a2))
def s_X1_controlAt_w0 (a1 : Int32) (a2 : Int32) (x : Nat → Int32) : Nat → Int32 := (let v_2 : Int32 := (if (x 10) = 0 then 0 else (((x 0) - a1) - (x 9))); (let v_5 : Nat → Int32 := (if (s_X11_within_r (((((x 3) * ((x 0) - a1)) + ((x 4) * (x 8))) + ((x 5) * v_2)) / 100) 0 a2) = (((((x 3) * ((x 0) - a1)) + ((x 4) * (x 8))) + ((x 5) * v_2)) / 100) then (upd x 8 (s_X11_within_r ((x 8) + ((x 0) - a1)) (-9999) 9999)) else x); (upd (upd v_5 9 ((x 0) - a1)) 10 1)))
abbrev rmX1_controlAt : Room := ({ frames := 1, cells := 0, slots := 0, locals := 22 } : Room)
set_option maxHeartbeats 4000000 in
set_option maxRecDepth 100000 in
theorem c_X1_controlAt (l : Launch) (G : va_G) (y : Nat → ClassId) (h : Nat) (a1 : Int32) (a2 : Int32) (x : Nat → Int32) (sz : Nat) : Met l yX1_controlAt wsX1_controlAt rmX1_controlAt (PH G y [.ref h, .int a1, .int a2] [kX1 h x] sz) (QHi G (s_X1_controlAt_r a1 a2 x) (fun _ : Unit => [kX1 h (s_X1_controlAt_w0 a1 a2 x)]) (va_A [kX1 h x] sz)) 0 0 (va_A [kX1 h x] sz) := by
  refine Met.ofW (cc := cX1_controlAt) (maxL := 7) (ret := (some .int)) (by decide) rfl ?_
  intro p e s m args below meth c s₁ B hml hv
  obtain ⟨rfl, hsz, hP, ⟨hK, hN⟩, hD0⟩ := hv
  have hx := B.exec
  have hb := B.bytes
  have hr := B.returns
  have hts := atoms_spec (ws := wsX1_controlAt) B.pre
  have hown : s.vm.findClass RX1 = some m.cls := findClass_of_methodNamed B.named
  have hlocks := B.notSynchronized
  have i_X1 : ∀ w ∈ u_ws RX1 TX1 11, w ∈ wsX1_controlAt := by decide +kernel
  subst hsz
  have hD := hD0.self (sz := s.heap.size)
  generalize hAe : va_A [kX1 h x] s.heap.size = A at hD ⊢
  have hA : ∀ q : Nat, s.heap.size ≤ q → A q := fun q h => by rw [← hAe]; exact Or.inr h
  have hS : va_S A s.heap s.heap [] := va_S.rf
  have hP : va_P G vwCl [kX1 h x] s.heap := hP
  have hl := lv_entry ([.ref h, .int a1, .int a2]) (n := 7) (Nat.le_of_ble_eq_true rfl)
  rw [lg_entry_eq]
  generalize (lg_sl ([.ref h, .int a1, .int a2]) ++ List.replicate (7 - (lg_sl ([.ref h, .int a1, .int a2])).length) Slot.unset).toArray = ls at hl ⊢
  have hl : lv_has ls 7 [(0, .ref h), (1, .int a1), (2, .int a2)] := hl
  obtain ⟨QQ, hQQ⟩ : ∃ zq9, zq9 = MQ below (QHi G (s_X1_controlAt_r a1 a2 x) (fun _ : Unit => [kX1 h (s_X1_controlAt_w0 a1 a2 x)]) A) ([.ref h, .int a1, .int a2] : List Value).toArray s 0 0 A := ⟨_, rfl⟩
  rw [← hQQ]
  refine lv_aload_n hx hb dX1_controlAt_0 rfl (lv_at hl 0 rfl) ?_
  refine va_get (D := G) (ci := 1) (v := .int (x 0)) (C := RX1) (T := TX1) (N := 11) hx hb hts i_X1 hown hK hP 0 rfl rfl 0 (by decide) (hts (.fieldLink RX1 9 "RelayTuner$Control" "setPoint" "I") (by decide +kernel)) (fun _ h9 => h9) rfl dX1_controlAt_1 ?_
  refine lv_iload_n hx hb dX1_controlAt_4 rfl (lv_at hl 1 rfl) ?_
  refine lv_isub hx hb dX1_controlAt_5 ?_
  refine lv_istore_n (lv' := [(3, .int ((x 0) - a1)), (0, .ref h), (1, .int a1), (2, .int a2)]) hx hb dX1_controlAt_6 rfl hl (by decide) rfl (fun ls hl => ?_)
  refine lv_aload_n hx hb dX1_controlAt_7 rfl (lv_at hl 1 rfl) ?_
  refine va_get (D := G) (ci := 1) (v := .int (x 10)) (C := RX1) (T := TX1) (N := 11) hx hb hts i_X1 hown hK hP 0 rfl rfl 10 (by decide) (hts (.fieldLink RX1 43 "RelayTuner$Control" "hasLastError" "Z") (by decide +kernel)) (fun _ h9 => h9) rfl dX1_controlAt_8 ?_
  have J24_3 : ∀ (v_2 : Int32) (e_v_2 : v_2 = (if (x 10) = 0 then 0 else (((x 0) - a1) - (x 9)))) (ls : Array Slot) (hl : lv_has ls 7 [(3, .int ((x 0) - a1)), (0, .ref h), (2, .int a2)]), W p l e (headSpec wsX1_controlAt rmX1_controlAt).room s m ([.ref h, .int a1, .int a2] : List Value).toArray below meth c s.heap [] 0 0 QQ (F0 m 24 ls [.int v_2]) := by
    intro v_2 e_v_2 ls hl
    refine lv_istore (lv' := [(4, .int v_2), (3, .int ((x 0) - a1)), (0, .ref h), (2, .int a2)]) hx hb dX1_controlAt_24 hl (by decide) rfl (fun ls hl => ?_)
    refine lv_aload_n hx hb dX1_controlAt_26 rfl (lv_at hl 2 rfl) ?_
    refine va_get (D := G) (ci := 1) (v := .int (x 3)) (C := RX1) (T := TX1) (N := 11) hx hb hts i_X1 hown hK hP 0 rfl rfl 3 (by decide) (hts (.fieldLink RX1 21 "RelayTuner$Control" "p" "I") (by decide +kernel)) (fun _ h9 => h9) rfl dX1_controlAt_27 ?_
    refine lv_iload_n hx hb dX1_controlAt_30 rfl (lv_at hl 1 rfl) ?_
    refine lv_imul hx hb dX1_controlAt_31 ?_
    refine lv_aload_n hx hb dX1_controlAt_32 rfl (lv_at hl 2 rfl) ?_
    refine va_get (D := G) (ci := 1) (v := .int (x 4)) (C := RX1) (T := TX1) (N := 11) hx hb hts i_X1 hown hK hP 0 rfl rfl 4 (by decide) (hts (.fieldLink RX1 24 "RelayTuner$Control" "i" "I") (by decide +kernel)) (fun _ h9 => h9) rfl dX1_controlAt_33 ?_
    refine lv_aload_n hx hb dX1_controlAt_36 rfl (lv_at hl 2 rfl) ?_
    refine va_get (D := G) (ci := 1) (v := .int (x 8)) (C := RX1) (T := TX1) (N := 11) hx hb hts i_X1 hown hK hP 0 rfl rfl 8 (by decide) (hts (.fieldLink RX1 37 "RelayTuner$Control" "sum" "I") (by decide +kernel)) (fun _ h9 => h9) rfl dX1_controlAt_37 ?_
    refine lv_imul hx hb dX1_controlAt_40 ?_
    refine lv_iadd hx hb dX1_controlAt_41 ?_
    refine lv_aload_n hx hb dX1_controlAt_42 rfl (lv_at hl 2 rfl) ?_
    refine va_get (D := G) (ci := 1) (v := .int (x 5)) (C := RX1) (T := TX1) (N := 11) hx hb hts i_X1 hown hK hP 0 rfl rfl 5 (by decide) (hts (.fieldLink RX1 27 "RelayTuner$Control" "d" "I") (by decide +kernel)) (fun _ h9 => h9) rfl dX1_controlAt_43 ?_
    refine lv_iload hx hb dX1_controlAt_46 (lv_at hl 0 rfl) ?_
    refine lv_imul hx hb dX1_controlAt_48 ?_
    refine lv_iadd hx hb dX1_controlAt_49 ?_
    refine lv_bipush (v := 100) hx hb dX1_controlAt_50 (by decide) ?_
    refine lv_idiv hx hb dX1_controlAt_52 (by decide) ?_
    refine lv_istore (lv' := [(5, .int (((((x 3) * ((x 0) - a1)) + ((x 4) * (x 8))) + ((x 5) * v_2)) / 100)), (4, .int v_2), (3, .int ((x 0) - a1)), (0, .ref h), (2, .int a2)]) hx hb dX1_controlAt_53 hl (by decide) rfl (fun ls hl => ?_)
    refine lv_iload hx hb dX1_controlAt_55 (lv_at hl 0 rfl) ?_
    refine lv_iconst (v := 0) hx hb dX1_controlAt_57 (by decide) ?_
    refine lv_iload_n hx hb dX1_controlAt_58 rfl (lv_at hl 4 rfl) ?_
    refine cl_Ri (va_runSN (As := [.int (((((x 3) * ((x 0) - a1)) + ((x 4) * (x 8))) + ((x 5) * v_2)) / 100), .int 0, .int a2]) (rest := []) ⟨hx, hb, hml, hown, hts⟩ (c_X11_within l G y (((((x 3) * ((x 0) - a1)) + ((x 4) * (x 8))) + ((x 5) * v_2)) / 100) 0 a2) ⟨va_cnB 3 hts gX1_controlAt_X11_within_n54 rfl rfl rfl (NN.m hN (by decide +kernel)) (hts (.initialized RX11) (by decide +kernel)) (by decide +kernel) ⟨Nat.le_of_ble_eq_true rfl, Nat.le_of_ble_eq_true rfl⟩, hts (.static yX11_within) (by decide +kernel), trivial⟩ (PR_S pnil hK hN) rfl rfl hl.1 rfl (lv_room (Nat.le_of_ble_eq_true rfl)) dX1_controlAt_59 ⟨Nat.le_of_ble_eq_true rfl, Nat.le_of_ble_eq_true rfl⟩) ?_
    refine lv_istore (lv' := [(6, .int (s_X11_within_r (((((x 3) * ((x 0) - a1)) + ((x 4) * (x 8))) + ((x 5) * v_2)) / 100) 0 a2)), (5, .int (((((x 3) * ((x 0) - a1)) + ((x 4) * (x 8))) + ((x 5) * v_2)) / 100)), (4, .int v_2), (3, .int ((x 0) - a1)), (0, .ref h), (2, .int a2)]) hx hb dX1_controlAt_62 hl (by decide) rfl (fun ls hl => ?_)
    refine lv_iload hx hb dX1_controlAt_64 (lv_at hl 0 rfl) ?_
    refine lv_iload hx hb dX1_controlAt_66 (lv_at hl 1 rfl) ?_
    have J90_6 : ∀ (v_5 : Nat → Int32) (e_v_5 : v_5 = (if (s_X11_within_r (((((x 3) * ((x 0) - a1)) + ((x 4) * (x 8))) + ((x 5) * v_2)) / 100) 0 a2) = (((((x 3) * ((x 0) - a1)) + ((x 4) * (x 8))) + ((x 5) * v_2)) / 100) then (upd x 8 (s_X11_within_r ((x 8) + ((x 0) - a1)) (-9999) 9999)) else x)) (H : Heap) (locs : List Loc) (hP : va_P G vwCl [kX1 h v_5] H) (hD : va_D A [kX1 h v_5]) (hS : va_S A s.heap H locs) (ls : Array Slot) (hl : lv_has ls 7 [(6, .int (s_X11_within_r (((((x 3) * ((x 0) - a1)) + ((x 4) * (x 8))) + ((x 5) * v_2)) / 100) 0 a2)), (3, .int ((x 0) - a1)), (0, .ref h)]), W p l e (headSpec wsX1_controlAt rmX1_controlAt).room s m ([.ref h, .int a1, .int a2] : List Value).toArray below meth c H locs 0 0 QQ (F0 m 90 ls []) := by
      intro v_5 e_v_5 H locs hP hD hS ls hl
      refine lv_aload_n hx hb dX1_controlAt_90 rfl (lv_at hl 2 rfl) ?_
      refine lv_iload_n hx hb dX1_controlAt_91 rfl (lv_at hl 1 rfl) ?_
      refine va_put (D := G) (ci := 1) (v := .int ((x 0) - a1)) (ty := .int) (C := RX1) (T := TX1) (N := 11) hx hb hts i_X1 tyX1 tyX1_ok nmX1 hown hK hP hD hS 0 rfl rfl 9 (by decide) (hts (.fieldLink RX1 40 "RelayTuner$Control" "lastError" "I") (by decide +kernel)) (fun _ h9 => h9) rfl (by decide +kernel) rfl rfl (Nat.le_of_ble_eq_true rfl) dX1_controlAt_92 (fun H locs hP hD hS => ?_)
      have hP : va_P G vwCl [kX1 h (upd v_5 9 ((x 0) - a1))] H := hP
      have hD : va_D A [kX1 h (upd v_5 9 ((x 0) - a1))] := hD
      refine lv_aload_n hx hb dX1_controlAt_95 rfl (lv_at hl 2 rfl) ?_
      refine lv_iconst (v := 1) hx hb dX1_controlAt_96 (by decide) ?_
      refine va_put (D := G) (ci := 1) (v := .int 1) (ty := .boolean) (C := RX1) (T := TX1) (N := 11) hx hb hts i_X1 tyX1 tyX1_ok nmX1 hown hK hP hD hS 0 rfl rfl 10 (by decide) (hts (.fieldLink RX1 43 "RelayTuner$Control" "hasLastError" "Z") (by decide +kernel)) (fun _ h9 => h9) rfl (by decide +kernel) (nz_bool (Or.inr rfl)) (fz_bool (Or.inr rfl)) (Nat.le_of_ble_eq_true rfl) dX1_controlAt_97 (fun H locs hP hD hS => ?_)
      have hP : va_P G vwCl [kX1 h (upd (upd v_5 9 ((x 0) - a1)) 10 1)] H := hP
      have hD : va_D A [kX1 h (upd (upd v_5 9 ((x 0) - a1)) 10 1)] := hD
      refine lv_iload hx hb dX1_controlAt_100 (lv_at hl 0 rfl) ?_
      rw [hQQ]
      exact W.iret hx hb hr (end_Hi () hP hD hS (by subst e_v_5; subst e_v_2; unfold s_X1_controlAt_r; exact rfl) (congrArg (fun (z0 : Nat → Int32) => [kX1 h z0]) (by subst e_v_5; subst e_v_2; unfold s_X1_controlAt_w0; exact rfl))) hS.2.2 dX1_controlAt_102
    refine lv_icmp_ne (tgt := 90) hx hb dX1_controlAt_68 (by decide) (fun c_4 => ?_) (fun c_4 => ?_)
    · exact J90_6 _ (if_neg c_4).symm s.heap [] hP hD hS ls (lv_sub hl [0, 3, 4] rfl)
    · refine lv_aload_n hx hb dX1_controlAt_71 rfl (lv_at hl 4 rfl) ?_
      refine lv_aload_n hx hb dX1_controlAt_72 rfl (lv_at hl 4 rfl) ?_
      refine va_get (D := G) (ci := 1) (v := .int (x 8)) (C := RX1) (T := TX1) (N := 11) hx hb hts i_X1 hown hK hP 0 rfl rfl 8 (by decide) (hts (.fieldLink RX1 37 "RelayTuner$Control" "sum" "I") (by decide +kernel)) (fun _ h9 => h9) rfl dX1_controlAt_73 ?_
      refine lv_iload_n hx hb dX1_controlAt_76 rfl (lv_at hl 3 rfl) ?_
      refine lv_iadd hx hb dX1_controlAt_77 ?_
      refine lv_sipush (v := (-9999)) hx hb dX1_controlAt_78 (by decide) ?_
      refine lv_sipush (v := 9999) hx hb dX1_controlAt_81 (by decide) ?_
      refine cl_Ri (va_runSN (As := [.int ((x 8) + ((x 0) - a1)), .int (-9999), .int 9999]) (rest := [.ref h]) ⟨hx, hb, hml, hown, hts⟩ (c_X11_within l G y ((x 8) + ((x 0) - a1)) (-9999) 9999) ⟨va_cnB 3 hts gX1_controlAt_X11_within_n54 rfl rfl rfl (NN.m hN (by decide +kernel)) (hts (.initialized RX11) (by decide +kernel)) (by decide +kernel) ⟨Nat.le_of_ble_eq_true rfl, Nat.le_of_ble_eq_true rfl⟩, hts (.static yX11_within) (by decide +kernel), trivial⟩ (PR_S pnil hK hN) rfl rfl hl.1 rfl (lv_room (Nat.le_of_ble_eq_true rfl)) dX1_controlAt_84 ⟨Nat.le_of_ble_eq_true rfl, Nat.le_of_ble_eq_true rfl⟩) ?_
      refine va_put (D := G) (ci := 1) (v := .int (s_X11_within_r ((x 8) + ((x 0) - a1)) (-9999) 9999)) (ty := .int) (C := RX1) (T := TX1) (N := 11) hx hb hts i_X1 tyX1 tyX1_ok nmX1 hown hK hP hD hS 0 rfl rfl 8 (by decide) (hts (.fieldLink RX1 37 "RelayTuner$Control" "sum" "I") (by decide +kernel)) (fun _ h9 => h9) rfl (by decide +kernel) rfl rfl (Nat.le_of_ble_eq_true rfl) dX1_controlAt_87 (fun H locs hP hD hS => ?_)
      have hP : va_P G vwCl [kX1 h (upd x 8 (s_X11_within_r ((x 8) + ((x 0) - a1)) (-9999) 9999))] H := hP
      have hD : va_D A [kX1 h (upd x 8 (s_X11_within_r ((x 8) + ((x 0) - a1)) (-9999) 9999))] := hD
      exact J90_6 _ (if_pos c_4).symm H locs hP hD hS ls (lv_sub hl [0, 3, 4] rfl)
  refine lv_if_eq (tgt := 23) hx hb dX1_controlAt_11 (by decide) (fun c_1 => ?_) (fun c_1 => ?_)
  · refine lv_iconst (v := 0) hx hb dX1_controlAt_23 (by decide) ?_
    exact J24_3 _ (if_pos c_1).symm ls (lv_sub hl [0, 1, 3] rfl)
  · refine lv_iload_n hx hb dX1_controlAt_14 rfl (lv_at hl 0 rfl) ?_
    refine lv_aload_n hx hb dX1_controlAt_15 rfl (lv_at hl 1 rfl) ?_
    refine va_get (D := G) (ci := 1) (v := .int (x 9)) (C := RX1) (T := TX1) (N := 11) hx hb hts i_X1 hown hK hP 0 rfl rfl 9 (by decide) (hts (.fieldLink RX1 40 "RelayTuner$Control" "lastError" "I") (by decide +kernel)) (fun _ h9 => h9) rfl dX1_controlAt_16 ?_
    refine lv_isub hx hb dX1_controlAt_19 ?_
    refine lv_goto (tgt := 24) hx hb dX1_controlAt_20 (by decide) ?_
    exact J24_3 _ (if_neg c_1).symm ls (lv_sub hl [0, 1, 3] rfl)

def s_X1_outputAt_r (a1 : Int32) (a2 : Int32) (x : Nat → Int32) : Int32 := (if (x 6) = 1 then (let v_4 : Int32 := (if (s_X1_relayAt_r a1 x) = 0 then 0 else a2); v_4) else (if (x 6) = 2 then (s_X1_controlAt_r a1 a2 x) else 0))
def s_X1_outputAt_w0 (a1 : Int32) (a2 : Int32) (x : Nat → Int32) : Nat → Int32 := (if (x 6) = 1 then (s_X1_relayAt_w0 a1 x) else (if (x 6) = 2 then (s_X1_controlAt_w0 a1 a2 x) else x))
abbrev rmX1_outputAt : Room := ({ frames := 2, cells := 0, slots := 0, locals := 48 } : Room)
set_option maxHeartbeats 4000000 in
set_option maxRecDepth 100000 in
theorem c_X1_outputAt (l : Launch) (G : va_G) (y : Nat → ClassId) (h : Nat) (a1 : Int32) (a2 : Int32) (x : Nat → Int32) (sz : Nat) (hz7 : x 7 = 0 ∨ x 7 = 1) : Met l yX1_outputAt wsX1_outputAt rmX1_outputAt (PH G y [.ref h, .int a1, .int a2] [kX1 h x] sz) (QHi G (s_X1_outputAt_r a1 a2 x) (fun _ : Unit => [kX1 h (s_X1_outputAt_w0 a1 a2 x)]) (va_A [kX1 h x] sz)) 0 0 (va_A [kX1 h x] sz) := by
  refine Met.ofW (cc := cX1_outputAt) (maxL := 3) (ret := (some .int)) (by decide) rfl ?_
  intro p e s m args below meth c s₁ B hml hv
  obtain ⟨rfl, hsz, hP, ⟨hK, hN⟩, hD0⟩ := hv
  have hx := B.exec
  have hb := B.bytes
  have hr := B.returns
  have hts := atoms_spec (ws := wsX1_outputAt) B.pre
  have hown : s.vm.findClass RX1 = some m.cls := findClass_of_methodNamed B.named
  have hlocks := B.notSynchronized
  have i_X1 : ∀ w ∈ u_ws RX1 TX1 11, w ∈ wsX1_outputAt := by decide +kernel
  subst hsz
  have hD := hD0.self (sz := s.heap.size)
  generalize hAe : va_A [kX1 h x] s.heap.size = A at hD ⊢
  have hA : ∀ q : Nat, s.heap.size ≤ q → A q := fun q h => by rw [← hAe]; exact Or.inr h
  have hS : va_S A s.heap s.heap [] := va_S.rf
  have hP : va_P G vwCl [kX1 h x] s.heap := hP
  have hl := lv_entry ([.ref h, .int a1, .int a2]) (n := 3) (Nat.le_of_ble_eq_true rfl)
  rw [lg_entry_eq]
  generalize (lg_sl ([.ref h, .int a1, .int a2]) ++ List.replicate (3 - (lg_sl ([.ref h, .int a1, .int a2])).length) Slot.unset).toArray = ls at hl ⊢
  have hl : lv_has ls 3 [(0, .ref h), (1, .int a1), (2, .int a2)] := hl
  obtain ⟨QQ, hQQ⟩ : ∃ zq9, zq9 = MQ below (QHi G (s_X1_outputAt_r a1 a2 x) (fun _ : Unit => [kX1 h (s_X1_outputAt_w0 a1 a2 x)]) A) ([.ref h, .int a1, .int a2] : List Value).toArray s 0 0 A := ⟨_, rfl⟩
  rw [← hQQ]
  refine lv_aload_n hx hb dX1_outputAt_0 rfl (lv_at hl 0 rfl) ?_
  refine va_get (D := G) (ci := 1) (v := .int (x 6)) (C := RX1) (T := TX1) (N := 11) hx hb hts i_X1 hown hK hP 0 rfl rfl 6 (by decide) (hts (.fieldLink RX1 30 "RelayTuner$Control" "mode" "I") (by decide +kernel)) (fun _ h9 => h9) rfl dX1_outputAt_1 ?_
  rcases Decidable.em ((x 6) = 1) with c_1 | c_1
  · refine lv_lookup (tgt := 32) hx hb dX1_outputAt_4 (by decide) (by rw [c_1]; first | done | rfl) (by decide) ?_
    refine lv_aload_n hx hb dX1_outputAt_32 rfl (lv_at hl 0 rfl) ?_
    refine lv_iload_n hx hb dX1_outputAt_33 rfl (lv_at hl 1 rfl) ?_
    refine cl_Hi (wr := []) (fun _ : Unit => [kX1 h (s_X1_relayAt_w0 a1 x)]) [0] [] [0] (va_runV (As := [.int a1]) (rest := []) ⟨hx, hb, hml, hown, hts⟩ (c_X1_relayAt l G y h a1 x s.heap.size hz7) (cwV 1 hts gX1_outputAt_X1_relayAt rfl rfl rfl (by decide +kernel) ⟨Nat.le_of_ble_eq_true rfl, Nat.le_of_ble_eq_true rfl⟩) (PH_V (hP.sub (ws' := [kX1 h x]) [0] rfl) hK hN (hD.sub (ws' := [kX1 h x]) [0] (by decide) rfl) (ci := 1) (q0 := 0) rfl rfl) rfl rfl hl.1 rfl (lv_room (Nat.le_of_ble_eq_true rfl)) dX1_outputAt_34 ⟨Nat.le_of_ble_eq_true rfl, Nat.le_of_ble_eq_true rfl⟩) hP hD hS hA rfl rfl rfl (by decide) rfl (fun _ => rfl) (fun _ H locs hP hD hS => ?_)
    have hP : va_P G vwCl [kX1 h (s_X1_relayAt_w0 a1 x)] H := hP
    have hD : va_D A [kX1 h (s_X1_relayAt_w0 a1 x)] := hD
    have J45_5 : ∀ (v_4 : Int32) (e_v_4 : v_4 = (if (s_X1_relayAt_r a1 x) = 0 then 0 else a2)) (ls : Array Slot) (hl : lv_has ls 3 []), W p l e (headSpec wsX1_outputAt rmX1_outputAt).room s m ([.ref h, .int a1, .int a2] : List Value).toArray below meth c H locs 0 0 QQ (F0 m 45 ls [.int v_4]) := by
      intro v_4 e_v_4 ls hl
      rw [hQQ]
      exact W.iret hx hb hr (end_Hi () hP hD hS (by subst e_v_4; unfold s_X1_outputAt_r; exact (if_pos c_1).symm) (congrArg (fun (z0 : Nat → Int32) => [kX1 h z0]) (by subst e_v_4; unfold s_X1_outputAt_w0; exact (if_pos c_1).symm))) hS.2.2 dX1_outputAt_45
    refine lv_if_eq (tgt := 44) hx hb dX1_outputAt_37 (by decide) (fun c_3 => ?_) (fun c_3 => ?_)
    · refine lv_iconst (v := 0) hx hb dX1_outputAt_44 (by decide) ?_
      exact J45_5 _ (if_pos c_3).symm ls (lv_sub hl [] rfl)
    · refine lv_iload_n hx hb dX1_outputAt_40 rfl (lv_at hl 2 rfl) ?_
      refine lv_goto (tgt := 45) hx hb dX1_outputAt_41 (by decide) ?_
      exact J45_5 _ (if_neg c_3).symm ls (lv_sub hl [] rfl)
  rcases Decidable.em ((x 6) = 2) with c_2 | c_2
  · refine lv_lookup (tgt := 46) hx hb dX1_outputAt_4 (by decide) (by rw [c_2]; first | done | rfl) (by decide) ?_
    refine lv_aload_n hx hb dX1_outputAt_46 rfl (lv_at hl 0 rfl) ?_
    refine lv_iload_n hx hb dX1_outputAt_47 rfl (lv_at hl 1 rfl) ?_
    refine lv_iload_n hx hb dX1_outputAt_48 rfl (lv_at hl 2 rfl) ?_
    refine cl_Hi (wr := []) (fun _ : Unit => [kX1 h (s_X1_controlAt_w0 a1 a2 x)]) [0] [] [0] (va_runV (As := [.int a1, .int a2]) (rest := []) ⟨hx, hb, hml, hown, hts⟩ (c_X1_controlAt l G y h a1 a2 x s.heap.size) (cwV 2 hts gX1_outputAt_X1_controlAt rfl rfl rfl (by decide +kernel) ⟨Nat.le_of_ble_eq_true rfl, Nat.le_of_ble_eq_true rfl⟩) (PH_V (hP.sub (ws' := [kX1 h x]) [0] rfl) hK hN (hD.sub (ws' := [kX1 h x]) [0] (by decide) rfl) (ci := 1) (q0 := 0) rfl rfl) rfl rfl hl.1 rfl (lv_room (Nat.le_of_ble_eq_true rfl)) dX1_outputAt_49 ⟨Nat.le_of_ble_eq_true rfl, Nat.le_of_ble_eq_true rfl⟩) hP hD hS hA rfl rfl rfl (by decide) rfl (fun _ => rfl) (fun _ H locs hP hD hS => ?_)
    have hP : va_P G vwCl [kX1 h (s_X1_controlAt_w0 a1 a2 x)] H := hP
    have hD : va_D A [kX1 h (s_X1_controlAt_w0 a1 a2 x)] := hD
    rw [hQQ]
    exact W.iret hx hb hr (end_Hi () hP hD hS (by unfold s_X1_outputAt_r; exact ((if_neg c_1).trans (if_pos c_2)).symm) (congrArg (fun (z0 : Nat → Int32) => [kX1 h z0]) (by unfold s_X1_outputAt_w0; exact ((if_neg c_1).trans (if_pos c_2)).symm))) hS.2.2 dX1_outputAt_52
  refine lv_lookup (tgt := 53) hx hb dX1_outputAt_4 (by decide) (by have e0 : (x 6).toInt ≠ 1 := fun h => c_1 (Int32.toInt_inj.mp h); have e1 : (x 6).toInt ≠ 2 := fun h => c_2 (Int32.toInt_inj.mp h); exact ((if_neg (Ne.symm e0)).trans ((if_neg (Ne.symm e1)).trans (Op.lookupswitch.offset_nil _ _)))) (by decide) ?_
  refine lv_iconst (v := 0) hx hb dX1_outputAt_53 (by decide) ?_
  rw [hQQ]
  exact W.iret hx hb hr (end_Hi () hP hD hS (by unfold s_X1_outputAt_r; exact ((if_neg c_1).trans (if_neg c_2)).symm) (congrArg (fun (z0 : Nat → Int32) => [kX1 h z0]) (by unfold s_X1_outputAt_w0; exact ((if_neg c_1).trans (if_neg c_2)).symm))) hS.2.2 dX1_outputAt_54

abbrev rmX3_become : Room := ({ frames := 1, cells := 0, slots := 0, locals := 60 } : Room)
set_option maxHeartbeats 4000000 in
set_option maxRecDepth 100000 in
theorem c_X3_become (l : Launch) (G : va_G) (y : Nat → ClassId) (h : Nat) (k : Nat) (q : Nat) (x : Nat → Int32) (fq : Nat → Int32) (r : Nat) (x2 : Nat → Int32) (fr : Nat → Int32) (sz : Nat) : Met l yX3_become wsX3_become rmX3_become (PH G y [.ref h, .ref k] [kX3 h q x, aI y q 10 fq, kX3 k r x2, aI y r 10 fr] sz) (QHv G (fun _ : Unit => [kX3 h q x2, aI y q 10 fr, kX3 k r x2, aI y r 10 fr]) (va_A [kX3 h q x, aI y q 10 fq, kX3 k r x2, aI y r 10 fr] sz)) 0 0 (va_A [kX3 h q x, aI y q 10 fq, kX3 k r x2, aI y r 10 fr] sz) := by
  refine Met.ofW (cc := cX3_become) (maxL := 2) (ret := none) (by decide) rfl ?_
  intro p e s m args below meth c s₁ B hml hv
  obtain ⟨rfl, hsz, hP, ⟨hK, hN⟩, hD0⟩ := hv
  have hx := B.exec
  have hb := B.bytes
  have hr := B.returns
  have hts := atoms_spec (ws := wsX3_become) B.pre
  have hown : s.vm.findClass RX3 = some m.cls := findClass_of_methodNamed B.named
  have hlocks := B.notSynchronized
  have i_X3 : ∀ w ∈ u_ws RX3 TX3 8, w ∈ wsX3_become := by decide +kernel
  subst hsz
  have hD := hD0.self (sz := s.heap.size)
  generalize hAe : va_A [kX3 h q x, aI y q 10 fq, kX3 k r x2, aI y r 10 fr] s.heap.size = A at hD ⊢
  have hA : ∀ q : Nat, s.heap.size ≤ q → A q := fun q h => by rw [← hAe]; exact Or.inr h
  have hS : va_S A s.heap s.heap [] := va_S.rf
  have hP : va_P G vwCl [kX3 h q x, aI y q 10 fq, kX3 k r x2, aI y r 10 fr] s.heap := hP
  have hl := lv_entry ([.ref h, .ref k]) (n := 2) (Nat.le_of_ble_eq_true rfl)
  rw [lg_entry_eq]
  generalize (lg_sl ([.ref h, .ref k]) ++ List.replicate (2 - (lg_sl ([.ref h, .ref k])).length) Slot.unset).toArray = ls at hl ⊢
  have hl : lv_has ls 2 [(0, .ref h), (1, .ref k)] := hl
  refine lv_aload_n hx hb dX3_become_0 rfl (lv_at hl 0 rfl) ?_
  refine lv_aload_n hx hb dX3_become_1 rfl (lv_at hl 1 rfl) ?_
  refine va_get (D := G) (ci := 3) (v := .int (x2 0)) (C := RX3) (T := TX3) (N := 8) hx hb hts i_X3 hown hK hP 2 rfl rfl 0 (by decide) (hts (.fieldLink RX3 9 "RelayTuner$Plant" "gain" "I") (by decide +kernel)) (fun _ h9 => h9) rfl dX3_become_2 ?_
  refine va_put (D := G) (ci := 3) (v := .int (x2 0)) (ty := .int) (C := RX3) (T := TX3) (N := 8) hx hb hts i_X3 tyX3 tyX3_ok nmX3 hown hK hP hD hS 0 rfl rfl 0 (by decide) (hts (.fieldLink RX3 9 "RelayTuner$Plant" "gain" "I") (by decide +kernel)) (fun _ h9 => h9) rfl (by decide +kernel) rfl rfl (Nat.le_of_ble_eq_true rfl) dX3_become_5 (fun H locs hP hD hS => ?_)
  have hP : va_P G vwCl [kX3 h q (upd x 0 (x2 0)), aI y q 10 fq, kX3 k r x2, aI y r 10 fr] H := hP
  have hD : va_D A [kX3 h q (upd x 0 (x2 0)), aI y q 10 fq, kX3 k r x2, aI y r 10 fr] := hD
  refine lv_aload_n hx hb dX3_become_8 rfl (lv_at hl 0 rfl) ?_
  refine lv_aload_n hx hb dX3_become_9 rfl (lv_at hl 1 rfl) ?_
  refine va_get (D := G) (ci := 3) (v := .int (x2 1)) (C := RX3) (T := TX3) (N := 8) hx hb hts i_X3 hown hK hP 2 rfl rfl 1 (by decide) (hts (.fieldLink RX3 15 "RelayTuner$Plant" "inertia" "I") (by decide +kernel)) (fun _ h9 => h9) rfl dX3_become_10 ?_
  refine va_put (D := G) (ci := 3) (v := .int (x2 1)) (ty := .int) (C := RX3) (T := TX3) (N := 8) hx hb hts i_X3 tyX3 tyX3_ok nmX3 hown hK hP hD hS 0 rfl rfl 1 (by decide) (hts (.fieldLink RX3 15 "RelayTuner$Plant" "inertia" "I") (by decide +kernel)) (fun _ h9 => h9) rfl (by decide +kernel) rfl rfl (Nat.le_of_ble_eq_true rfl) dX3_become_13 (fun H locs hP hD hS => ?_)
  have hP : va_P G vwCl [kX3 h q (upd (upd x 0 (x2 0)) 1 (x2 1)), aI y q 10 fq, kX3 k r x2, aI y r 10 fr] H := hP
  have hD : va_D A [kX3 h q (upd (upd x 0 (x2 0)) 1 (x2 1)), aI y q 10 fq, kX3 k r x2, aI y r 10 fr] := hD
  refine lv_aload_n hx hb dX3_become_16 rfl (lv_at hl 0 rfl) ?_
  refine lv_aload_n hx hb dX3_become_17 rfl (lv_at hl 1 rfl) ?_
  refine va_get (D := G) (ci := 3) (v := .int (x2 2)) (C := RX3) (T := TX3) (N := 8) hx hb hts i_X3 hown hK hP 2 rfl rfl 2 (by decide) (hts (.fieldLink RX3 18 "RelayTuner$Plant" "delay" "I") (by decide +kernel)) (fun _ h9 => h9) rfl dX3_become_18 ?_
  refine va_put (D := G) (ci := 3) (v := .int (x2 2)) (ty := .int) (C := RX3) (T := TX3) (N := 8) hx hb hts i_X3 tyX3 tyX3_ok nmX3 hown hK hP hD hS 0 rfl rfl 2 (by decide) (hts (.fieldLink RX3 18 "RelayTuner$Plant" "delay" "I") (by decide +kernel)) (fun _ h9 => h9) rfl (by decide +kernel) rfl rfl (Nat.le_of_ble_eq_true rfl) dX3_become_21 (fun H locs hP hD hS => ?_)
  have hP : va_P G vwCl [kX3 h q (upd (upd (upd x 0 (x2 0)) 1 (x2 1)) 2 (x2 2)), aI y q 10 fq, kX3 k r x2, aI y r 10 fr] H := hP
  have hD : va_D A [kX3 h q (upd (upd (upd x 0 (x2 0)) 1 (x2 1)) 2 (x2 2)), aI y q 10 fq, kX3 k r x2, aI y r 10 fr] := hD
  refine lv_aload_n hx hb dX3_become_24 rfl (lv_at hl 0 rfl) ?_
  refine lv_aload_n hx hb dX3_become_25 rfl (lv_at hl 1 rfl) ?_
  refine va_get (D := G) (ci := 3) (v := .int (x2 3)) (C := RX3) (T := TX3) (N := 8) hx hb hts i_X3 hown hK hP 2 rfl rfl 3 (by decide) (hts (.fieldLink RX3 21 "RelayTuner$Plant" "ambient" "I") (by decide +kernel)) (fun _ h9 => h9) rfl dX3_become_26 ?_
  refine va_put (D := G) (ci := 3) (v := .int (x2 3)) (ty := .int) (C := RX3) (T := TX3) (N := 8) hx hb hts i_X3 tyX3 tyX3_ok nmX3 hown hK hP hD hS 0 rfl rfl 3 (by decide) (hts (.fieldLink RX3 21 "RelayTuner$Plant" "ambient" "I") (by decide +kernel)) (fun _ h9 => h9) rfl (by decide +kernel) rfl rfl (Nat.le_of_ble_eq_true rfl) dX3_become_29 (fun H locs hP hD hS => ?_)
  have hP : va_P G vwCl [kX3 h q (upd (upd (upd (upd x 0 (x2 0)) 1 (x2 1)) 2 (x2 2)) 3 (x2 3)), aI y q 10 fq, kX3 k r x2, aI y r 10 fr] H := hP
  have hD : va_D A [kX3 h q (upd (upd (upd (upd x 0 (x2 0)) 1 (x2 1)) 2 (x2 2)) 3 (x2 3)), aI y q 10 fq, kX3 k r x2, aI y r 10 fr] := hD
  refine lv_aload_n hx hb dX3_become_32 rfl (lv_at hl 0 rfl) ?_
  refine lv_aload_n hx hb dX3_become_33 rfl (lv_at hl 1 rfl) ?_
  refine va_get (D := G) (ci := 3) (v := .int (x2 4)) (C := RX3) (T := TX3) (N := 8) hx hb hts i_X3 hown hK hP 2 rfl rfl 4 (by decide) (hts (.fieldLink RX3 24 "RelayTuner$Plant" "fullPower" "I") (by decide +kernel)) (fun _ h9 => h9) rfl dX3_become_34 ?_
  refine va_put (D := G) (ci := 3) (v := .int (x2 4)) (ty := .int) (C := RX3) (T := TX3) (N := 8) hx hb hts i_X3 tyX3 tyX3_ok nmX3 hown hK hP hD hS 0 rfl rfl 4 (by decide) (hts (.fieldLink RX3 24 "RelayTuner$Plant" "fullPower" "I") (by decide +kernel)) (fun _ h9 => h9) rfl (by decide +kernel) rfl rfl (Nat.le_of_ble_eq_true rfl) dX3_become_37 (fun H locs hP hD hS => ?_)
  have hP : va_P G vwCl [kX3 h q (upd (upd (upd (upd (upd x 0 (x2 0)) 1 (x2 1)) 2 (x2 2)) 3 (x2 3)) 4 (x2 4)), aI y q 10 fq, kX3 k r x2, aI y r 10 fr] H := hP
  have hD : va_D A [kX3 h q (upd (upd (upd (upd (upd x 0 (x2 0)) 1 (x2 1)) 2 (x2 2)) 3 (x2 3)) 4 (x2 4)), aI y q 10 fq, kX3 k r x2, aI y r 10 fr] := hD
  refine lv_aload_n hx hb dX3_become_40 rfl (lv_at hl 0 rfl) ?_
  refine lv_aload_n hx hb dX3_become_41 rfl (lv_at hl 1 rfl) ?_
  refine va_get (D := G) (ci := 3) (v := .int (x2 5)) (C := RX3) (T := TX3) (N := 8) hx hb hts i_X3 hown hK hP 2 rfl rfl 5 (by decide) (hts (.fieldLink RX3 27 "RelayTuner$Plant" "temperature" "I") (by decide +kernel)) (fun _ h9 => h9) rfl dX3_become_42 ?_
  refine va_put (D := G) (ci := 3) (v := .int (x2 5)) (ty := .int) (C := RX3) (T := TX3) (N := 8) hx hb hts i_X3 tyX3 tyX3_ok nmX3 hown hK hP hD hS 0 rfl rfl 5 (by decide) (hts (.fieldLink RX3 27 "RelayTuner$Plant" "temperature" "I") (by decide +kernel)) (fun _ h9 => h9) rfl (by decide +kernel) rfl rfl (Nat.le_of_ble_eq_true rfl) dX3_become_45 (fun H locs hP hD hS => ?_)
  have hP : va_P G vwCl [kX3 h q (upd (upd (upd (upd (upd (upd x 0 (x2 0)) 1 (x2 1)) 2 (x2 2)) 3 (x2 3)) 4 (x2 4)) 5 (x2 5)), aI y q 10 fq, kX3 k r x2, aI y r 10 fr] H := hP
  have hD : va_D A [kX3 h q (upd (upd (upd (upd (upd (upd x 0 (x2 0)) 1 (x2 1)) 2 (x2 2)) 3 (x2 3)) 4 (x2 4)) 5 (x2 5)), aI y q 10 fq, kX3 k r x2, aI y r 10 fr] := hD
  refine lv_aload_n hx hb dX3_become_48 rfl (lv_at hl 1 rfl) ?_
  refine va_get (D := G) (ci := 3) (v := .ref r) (C := RX3) (T := TX3) (N := 8) hx hb hts i_X3 hown hK hP 2 rfl rfl 6 (by decide) (hts (.fieldLink RX3 30 "RelayTuner$Plant" "pipe" "[I") (by decide +kernel)) (fun _ h9 => h9) rfl dX3_become_49 ?_
  refine lv_iconst (v := 0) hx hb dX3_become_52 (by decide) ?_
  refine lv_aload_n hx hb dX3_become_53 rfl (lv_at hl 0 rfl) ?_
  refine va_get (D := G) (ci := 3) (v := .ref q) (C := RX3) (T := TX3) (N := 8) hx hb hts i_X3 hown hK hP 0 rfl rfl 6 (by decide) (hts (.fieldLink RX3 30 "RelayTuner$Plant" "pipe" "[I") (by decide +kernel)) (fun _ h9 => h9) rfl dX3_become_54 ?_
  refine lv_iconst (v := 0) hx hb dX3_become_57 (by decide) ?_
  refine lv_bipush (v := 10) hx hb dX3_become_58 (by decide) ?_
  refine va_copyi (D := G) (f := fr) (g := fq) (ty := .int) hx hb (hml.trans hl.1.symm) hown (hts (.methodLink RX3 34 arraycopyName) (by decide +kernel)) (hts (.native arraycopyName) (by decide +kernel)) (hts (.static arraycopyName) (by decide +kernel)) (hts (.initialized "java/lang/System") (by decide +kernel)) hK hP hD hS 3 1 0 0 rfl rfl rfl rfl rfl (by decide) (by decide) (by decide) (by decide) (by decide) (fun _ _ => rfl) (Nat.le_of_ble_eq_true rfl) (Nat.le_of_ble_eq_true rfl) dX3_become_60 (fun H locs hP hD hS => ?_)
  have hP : va_P G vwCl [kX3 h q (upd (upd (upd (upd (upd (upd x 0 (x2 0)) 1 (x2 1)) 2 (x2 2)) 3 (x2 3)) 4 (x2 4)) 5 (x2 5)), aI y q 10 (va_cpy fr fq 0 0 10), kX3 k r x2, aI y r 10 fr] H := hP
  have hD : va_D A [kX3 h q (upd (upd (upd (upd (upd (upd x 0 (x2 0)) 1 (x2 1)) 2 (x2 2)) 3 (x2 3)) 4 (x2 4)) 5 (x2 5)), aI y q 10 (va_cpy fr fq 0 0 10), kX3 k r x2, aI y r 10 fr] := hD
  have hD := va_D.set (p := 1) (e := (aI y q 10 fr).2) hD rfl
  have hP := alike1 (i := 1) (g := fr) hP rfl (fun j hj => cpy_all hj)
  have hP : va_P G vwCl [kX3 h q (upd (upd (upd (upd (upd (upd x 0 (x2 0)) 1 (x2 1)) 2 (x2 2)) 3 (x2 3)) 4 (x2 4)) 5 (x2 5)), aI y q 10 fr, kX3 k r x2, aI y r 10 fr] H := hP
  have hD : va_D A [kX3 h q (upd (upd (upd (upd (upd (upd x 0 (x2 0)) 1 (x2 1)) 2 (x2 2)) 3 (x2 3)) 4 (x2 4)) 5 (x2 5)), aI y q 10 fr, kX3 k r x2, aI y r 10 fr] := hD
  refine lv_aload_n hx hb dX3_become_63 rfl (lv_at hl 0 rfl) ?_
  refine lv_aload_n hx hb dX3_become_64 rfl (lv_at hl 1 rfl) ?_
  refine va_get (D := G) (ci := 3) (v := .int (x2 7)) (C := RX3) (T := TX3) (N := 8) hx hb hts i_X3 hown hK hP 2 rfl rfl 7 (by decide) (hts (.fieldLink RX3 40 "RelayTuner$Plant" "newest" "I") (by decide +kernel)) (fun _ h9 => h9) rfl dX3_become_65 ?_
  refine va_put (D := G) (ci := 3) (v := .int (x2 7)) (ty := .int) (C := RX3) (T := TX3) (N := 8) hx hb hts i_X3 tyX3 tyX3_ok nmX3 hown hK hP hD hS 0 rfl rfl 7 (by decide) (hts (.fieldLink RX3 40 "RelayTuner$Plant" "newest" "I") (by decide +kernel)) (fun _ h9 => h9) rfl (by decide +kernel) rfl rfl (Nat.le_of_ble_eq_true rfl) dX3_become_68 (fun H locs hP hD hS => ?_)
  have hP : va_P G vwCl [kX3 h q (upd (upd (upd (upd (upd (upd (upd x 0 (x2 0)) 1 (x2 1)) 2 (x2 2)) 3 (x2 3)) 4 (x2 4)) 5 (x2 5)) 7 (x2 7)), aI y q 10 fr, kX3 k r x2, aI y r 10 fr] H := hP
  have hD : va_D A [kX3 h q (upd (upd (upd (upd (upd (upd (upd x 0 (x2 0)) 1 (x2 1)) 2 (x2 2)) 3 (x2 3)) 4 (x2 4)) 5 (x2 5)) 7 (x2 7)), aI y q 10 fr, kX3 k r x2, aI y r 10 fr] := hD
  exact W.vret hx hb hr (end_Hv () hP hD hS rfl) hS.2.2 dX3_become_71

def s_X3_power_r (x : Nat → Int32) (fq : Nat → Int32) : Int32 := (let v_2 : Int32 := (if 0 ≤ ((x 7) - (x 2)) then ((x 7) - (x 2)) else (((x 7) - (x 2)) + 10)); (let v_5 : Int32 := (if v_2 < 0 then 0 else (if 10 ≤ v_2 then 0 else (fq (tn v_2)))); v_5))
abbrev rmX3_power : Room := ({ frames := 0, cells := 0, slots := 0, locals := 0 } : Room)
set_option maxHeartbeats 4000000 in
set_option maxRecDepth 100000 in
theorem c_X3_power (l : Launch) (G : va_G) (y : Nat → ClassId) (h : Nat) (q : Nat) (x : Nat → Int32) (fq : Nat → Int32) : Met l yX3_power wsX3_power rmX3_power (PR G y [.ref h] [kX3 h q x, aI y q 10 fq]) (QRi (s_X3_power_r x fq)) 0 0 (fun _ => False) := by
  refine Met.ofW (cc := cX3_power) (maxL := 2) (ret := (some .int)) (by decide) rfl ?_
  intro p e s m args below meth c s₁ B hml hv
  obtain ⟨rfl, hP, hK, hN⟩ := hv
  have hx := B.exec
  have hb := B.bytes
  have hr := B.returns
  have hts := atoms_spec (ws := wsX3_power) B.pre
  have hown : s.vm.findClass RX3 = some m.cls := findClass_of_methodNamed B.named
  have hlocks := B.notSynchronized
  have i_X3 : ∀ w ∈ u_ws RX3 TX3 8, w ∈ wsX3_power := by decide +kernel
  have hl := lv_entry ([.ref h]) (n := 2) (Nat.le_of_ble_eq_true rfl)
  rw [lg_entry_eq]
  generalize (lg_sl ([.ref h]) ++ List.replicate (2 - (lg_sl ([.ref h])).length) Slot.unset).toArray = ls at hl ⊢
  have hl : lv_has ls 2 [(0, .ref h)] := hl
  obtain ⟨QQ, hQQ⟩ : ∃ zq9, zq9 = MQ below (QRi (s_X3_power_r x fq)) ([.ref h] : List Value).toArray s 0 0 (fun _ => False) := ⟨_, rfl⟩
  rw [← hQQ]
  refine lv_aload_n hx hb dX3_power_0 rfl (lv_at hl 0 rfl) ?_
  refine va_get (D := G) (ci := 3) (v := .int (x 7)) (C := RX3) (T := TX3) (N := 8) hx hb hts i_X3 hown hK hP 0 rfl rfl 7 (by decide) (hts (.fieldLink RX3 40 "RelayTuner$Plant" "newest" "I") (by decide +kernel)) (fun _ h9 => h9) rfl dX3_power_1 ?_
  refine lv_aload_n hx hb dX3_power_4 rfl (lv_at hl 0 rfl) ?_
  refine va_get (D := G) (ci := 3) (v := .int (x 2)) (C := RX3) (T := TX3) (N := 8) hx hb hts i_X3 hown hK hP 0 rfl rfl 2 (by decide) (hts (.fieldLink RX3 18 "RelayTuner$Plant" "delay" "I") (by decide +kernel)) (fun _ h9 => h9) rfl dX3_power_5 ?_
  refine lv_isub hx hb dX3_power_8 ?_
  refine lv_istore_n (lv' := [(1, .int ((x 7) - (x 2))), (0, .ref h)]) hx hb dX3_power_9 rfl hl (by decide) rfl (fun ls hl => ?_)
  refine lv_iload_n hx hb dX3_power_10 rfl (lv_at hl 0 rfl) ?_
  have J17_3 : ∀ (v_2 : Int32) (e_v_2 : v_2 = (if 0 ≤ ((x 7) - (x 2)) then ((x 7) - (x 2)) else (((x 7) - (x 2)) + 10))) (ls : Array Slot) (hl : lv_has ls 2 [(1, .int v_2), (0, .ref h)]), W p l e (headSpec wsX3_power rmX3_power).room s m ([.ref h] : List Value).toArray below meth c s.heap [] 0 0 QQ (F0 m 17 ls []) := by
    intro v_2 e_v_2 ls hl
    refine lv_iload_n hx hb dX3_power_17 rfl (lv_at hl 0 rfl) ?_
    have J37_6 : ∀ (v_5 : Int32) (e_v_5 : v_5 = (if v_2 < 0 then 0 else (if 10 ≤ v_2 then 0 else (fq (tn v_2))))) (ls : Array Slot) (hl : lv_has ls 2 []), W p l e (headSpec wsX3_power rmX3_power).room s m ([.ref h] : List Value).toArray below meth c s.heap [] 0 0 QQ (F0 m 37 ls [.int v_5]) := by
      intro v_5 e_v_5 ls hl
      rw [hQQ]
      exact W.iret hx hb hr (end_Ri (by subst e_v_5; subst e_v_2; unfold s_X3_power_r; exact rfl)) (fun _ h => nomatch h) dX3_power_37
    refine lv_if_lt (tgt := 36) hx hb dX3_power_18 (by decide) (fun c_4 => ?_) (fun c_4 => ?_)
    · refine lv_iconst (v := 0) hx hb dX3_power_36 (by decide) ?_
      exact J37_6 _ (if_pos c_4).symm ls (lv_sub hl [] rfl)
    · refine lv_iload_n hx hb dX3_power_21 rfl (lv_at hl 0 rfl) ?_
      refine lv_bipush (v := 10) hx hb dX3_power_22 (by decide) ?_
      refine lv_icmp_ge (tgt := 36) hx hb dX3_power_24 (by decide) (fun c_7 => ?_) (fun c_7 => ?_)
      · refine lv_iconst (v := 0) hx hb dX3_power_36 (by decide) ?_
        exact J37_6 _ ((if_neg c_4).trans (if_pos c_7)).symm ls (lv_sub hl [] rfl)
      · refine lv_aload_n hx hb dX3_power_27 rfl (lv_at hl 1 rfl) ?_
        refine va_get (D := G) (ci := 3) (v := .ref q) (C := RX3) (T := TX3) (N := 8) hx hb hts i_X3 hown hK hP 0 rfl rfl 6 (by decide) (hts (.fieldLink RX3 30 "RelayTuner$Plant" "pipe" "[I") (by decide +kernel)) (fun _ h9 => h9) rfl dX3_power_28 ?_
        refine lv_iload_n hx hb dX3_power_31 rfl (lv_at hl 0 rfl) ?_
        refine al_i (D := G) (n := 10) (f := fq) hx hb hK hP 1 0 rfl rfl (tn v_2) (in_tn (vin2 c_4 c_7 rfl (by decide)) (by decide)).1 (in_tn (vin2 c_4 c_7 rfl (by decide)) (by decide)).2 (by first | decide | omega) dX3_power_32 ?_
        refine lv_goto (tgt := 37) hx hb dX3_power_33 (by decide) ?_
        exact J37_6 _ ((if_neg c_4).trans (if_neg c_7)).symm ls (lv_sub hl [] rfl)
  refine lv_if_ge (tgt := 17) hx hb dX3_power_11 (by decide) (fun c_1 => ?_) (fun c_1 => ?_)
  · exact J17_3 _ (if_pos c_1).symm ls (lv_sub hl [0, 1] rfl)
  · refine lv_iinc (v := (((x 7) - (x 2)) + 10)) (lv' := [(1, .int (((x 7) - (x 2)) + 10)), (0, .ref h)]) hx hb dX3_power_14 hl (k := 0) rfl (by first | rfl | decide) (by decide) rfl (fun ls hl => ?_)
    exact J17_3 _ (if_neg c_1).symm ls (lv_sub hl [0, 1] rfl)

def s_X3_warmBy_w0 (a1 : Int32) (x : Nat → Int32) : Nat → Int32 := (upd x 5 (s_X11_within_r ((x 5) + a1) (-9999) 9999))
abbrev rmX3_warmBy : Room := ({ frames := 1, cells := 0, slots := 0, locals := 22 } : Room)
set_option maxHeartbeats 4000000 in
set_option maxRecDepth 100000 in
theorem c_X3_warmBy (l : Launch) (G : va_G) (y : Nat → ClassId) (h : Nat) (a1 : Int32) (q : Nat) (x : Nat → Int32) (sz : Nat) : Met l yX3_warmBy wsX3_warmBy rmX3_warmBy (PH G y [.ref h, .int a1] [kX3 h q x] sz) (QHv G (fun _ : Unit => [kX3 h q (s_X3_warmBy_w0 a1 x)]) (va_A [kX3 h q x] sz)) 0 0 (va_A [kX3 h q x] sz) := by
  refine Met.ofW (cc := cX3_warmBy) (maxL := 2) (ret := none) (by decide) rfl ?_
  intro p e s m args below meth c s₁ B hml hv
  obtain ⟨rfl, hsz, hP, ⟨hK, hN⟩, hD0⟩ := hv
  have hx := B.exec
  have hb := B.bytes
  have hr := B.returns
  have hts := atoms_spec (ws := wsX3_warmBy) B.pre
  have hown : s.vm.findClass RX3 = some m.cls := findClass_of_methodNamed B.named
  have hlocks := B.notSynchronized
  have i_X3 : ∀ w ∈ u_ws RX3 TX3 8, w ∈ wsX3_warmBy := by decide +kernel
  subst hsz
  have hD := hD0.self (sz := s.heap.size)
  generalize hAe : va_A [kX3 h q x] s.heap.size = A at hD ⊢
  have hA : ∀ q : Nat, s.heap.size ≤ q → A q := fun q h => by rw [← hAe]; exact Or.inr h
  have hS : va_S A s.heap s.heap [] := va_S.rf
  have hP : va_P G vwCl [kX3 h q x] s.heap := hP
  have hl := lv_entry ([.ref h, .int a1]) (n := 2) (Nat.le_of_ble_eq_true rfl)
  rw [lg_entry_eq]
  generalize (lg_sl ([.ref h, .int a1]) ++ List.replicate (2 - (lg_sl ([.ref h, .int a1])).length) Slot.unset).toArray = ls at hl ⊢
  have hl : lv_has ls 2 [(0, .ref h), (1, .int a1)] := hl
  refine lv_aload_n hx hb dX3_warmBy_0 rfl (lv_at hl 0 rfl) ?_
  refine lv_aload_n hx hb dX3_warmBy_1 rfl (lv_at hl 0 rfl) ?_
  refine va_get (D := G) (ci := 3) (v := .int (x 5)) (C := RX3) (T := TX3) (N := 8) hx hb hts i_X3 hown hK hP 0 rfl rfl 5 (by decide) (hts (.fieldLink RX3 27 "RelayTuner$Plant" "temperature" "I") (by decide +kernel)) (fun _ h9 => h9) rfl dX3_warmBy_2 ?_
  refine lv_iload_n hx hb dX3_warmBy_5 rfl (lv_at hl 1 rfl) ?_
  refine lv_iadd hx hb dX3_warmBy_6 ?_
  refine lv_sipush (v := (-9999)) hx hb dX3_warmBy_7 (by decide) ?_
  refine lv_sipush (v := 9999) hx hb dX3_warmBy_10 (by decide) ?_
  refine cl_Ri (va_runSN (As := [.int ((x 5) + a1), .int (-9999), .int 9999]) (rest := [.ref h]) ⟨hx, hb, hml, hown, hts⟩ (c_X11_within l G y ((x 5) + a1) (-9999) 9999) ⟨va_cnB 3 hts gX3_warmBy_X11_within_n57 rfl rfl rfl (NN.m hN (by decide +kernel)) (hts (.initialized RX11) (by decide +kernel)) (by decide +kernel) ⟨Nat.le_of_ble_eq_true rfl, Nat.le_of_ble_eq_true rfl⟩, hts (.static yX11_within) (by decide +kernel), trivial⟩ (PR_S pnil hK hN) rfl rfl hl.1 rfl (lv_room (Nat.le_of_ble_eq_true rfl)) dX3_warmBy_13 ⟨Nat.le_of_ble_eq_true rfl, Nat.le_of_ble_eq_true rfl⟩) ?_
  refine va_put (D := G) (ci := 3) (v := .int (s_X11_within_r ((x 5) + a1) (-9999) 9999)) (ty := .int) (C := RX3) (T := TX3) (N := 8) hx hb hts i_X3 tyX3 tyX3_ok nmX3 hown hK hP hD hS 0 rfl rfl 5 (by decide) (hts (.fieldLink RX3 27 "RelayTuner$Plant" "temperature" "I") (by decide +kernel)) (fun _ h9 => h9) rfl (by decide +kernel) rfl rfl (Nat.le_of_ble_eq_true rfl) dX3_warmBy_16 (fun H locs hP hD hS => ?_)
  have hP : va_P G vwCl [kX3 h q (upd x 5 (s_X11_within_r ((x 5) + a1) (-9999) 9999))] H := hP
  have hD : va_D A [kX3 h q (upd x 5 (s_X11_within_r ((x 5) + a1) (-9999) 9999))] := hD
  exact W.vret hx hb hr (end_Hv () hP hD hS rfl) hS.2.2 dX3_warmBy_19

theorem work_in {x : Nat → Int32} {v : Int32} (h7 : vp_in (x 7) 10) (e : v = (if (x 7) < 0 then 0 else (if 10 ≤ ((x 7) + 1) then 0 else ((x 7) + 1)))) : vp_in v 10 := by
  obtain ⟨k, hk, e2⟩ := vp_in_of h7 (by decide)
  rw [e]
  split
  · exact vp_in_nI (n := 0) (by decide) (by decide)
  · split
    · exact vp_in_nI (n := 0) (by decide) (by decide)
    · next q =>
      rw [e2, nI_1] at q ⊢
      exact vp_in_nI (klt (x := nI (k + 1)) (B := 10) rfl rfl (by omega) (by decide) q) (by decide)

def s_X3_work_w0 (a1 : Int32) (x : Nat → Int32) (fq : Nat → Int32) : Nat → Int32 := (let v_2 : Int32 := (if (x 7) < 0 then 0 else (if 10 ≤ ((x 7) + 1) then 0 else ((x 7) + 1))); (let v_5 : Int32 := (if (x 1) ≤ 0 then 0 else ((((x 3) + ((x 0) * (s_X3_power_r (upd x 7 v_2) (upd fq (tn v_2) a1)))) - (x 5)) / (x 1))); (let v_8 : Int32 := (if v_5 = 0 then (s_J6_compare_7cf53_r ((x 3) + ((x 0) * (s_X3_power_r (upd x 7 v_2) (upd fq (tn v_2) a1)))) (x 5)) else v_5); (s_X3_warmBy_w0 v_8 (upd x 7 v_2)))))
def s_X3_work_w1 (a1 : Int32) (x : Nat → Int32) (fq : Nat → Int32) : Nat → Int32 := (let v_2 : Int32 := (if (x 7) < 0 then 0 else (if 10 ≤ ((x 7) + 1) then 0 else ((x 7) + 1))); (upd fq (tn v_2) a1))
abbrev rmX3_work : Room := ({ frames := 2, cells := 0, slots := 0, locals := 43 } : Room)
set_option maxHeartbeats 4000000 in
set_option maxRecDepth 100000 in
theorem c_X3_work (l : Launch) (G : va_G) (y : Nat → ClassId) (h : Nat) (a1 : Int32) (q : Nat) (x : Nat → Int32) (fq : Nat → Int32) (sz : Nat) (h7 : vp_in (x 7) 10) : Met l yX3_work wsX3_work rmX3_work (PH G y [.ref h, .int a1] [kX3 h q x, aI y q 10 fq] sz) (QHv G (fun _ : Unit => [kX3 h q (s_X3_work_w0 a1 x fq), aI y q 10 (s_X3_work_w1 a1 x fq)]) (va_A [kX3 h q x, aI y q 10 fq] sz)) 0 0 (va_A [kX3 h q x, aI y q 10 fq] sz) := by
  refine Met.ofW (cc := cX3_work) (maxL := 4) (ret := none) (by decide) rfl ?_
  intro p e s m args below meth c s₁ B hml hv
  obtain ⟨rfl, hsz, hP, ⟨hK, hN⟩, hD0⟩ := hv
  have hx := B.exec
  have hb := B.bytes
  have hr := B.returns
  have hts := atoms_spec (ws := wsX3_work) B.pre
  have hown : s.vm.findClass RX3 = some m.cls := findClass_of_methodNamed B.named
  have hlocks := B.notSynchronized
  have i_X3 : ∀ w ∈ u_ws RX3 TX3 8, w ∈ wsX3_work := by decide +kernel
  subst hsz
  have hD := hD0.self (sz := s.heap.size)
  generalize hAe : va_A [kX3 h q x, aI y q 10 fq] s.heap.size = A at hD ⊢
  have hA : ∀ q : Nat, s.heap.size ≤ q → A q := fun q h => by rw [← hAe]; exact Or.inr h
  have hS : va_S A s.heap s.heap [] := va_S.rf
  have hP : va_P G vwCl [kX3 h q x, aI y q 10 fq] s.heap := hP
  have hl := lv_entry ([.ref h, .int a1]) (n := 4) (Nat.le_of_ble_eq_true rfl)
  rw [lg_entry_eq]
  generalize (lg_sl ([.ref h, .int a1]) ++ List.replicate (4 - (lg_sl ([.ref h, .int a1])).length) Slot.unset).toArray = ls at hl ⊢
  have hl : lv_has ls 4 [(0, .ref h), (1, .int a1)] := hl
  obtain ⟨QQ, hQQ⟩ : ∃ zq9, zq9 = MQ below (QHv G (fun _ : Unit => [kX3 h q (s_X3_work_w0 a1 x fq), aI y q 10 (s_X3_work_w1 a1 x fq)]) A) ([.ref h, .int a1] : List Value).toArray s 0 0 A := ⟨_, rfl⟩
  rw [← hQQ]
  refine lv_aload_n hx hb dX3_work_0 rfl (lv_at hl 0 rfl) ?_
  refine lv_aload_n hx hb dX3_work_1 rfl (lv_at hl 0 rfl) ?_
  refine va_get (D := G) (ci := 3) (v := .int (x 7)) (C := RX3) (T := TX3) (N := 8) hx hb hts i_X3 hown hK hP 0 rfl rfl 7 (by decide) (hts (.fieldLink RX3 40 "RelayTuner$Plant" "newest" "I") (by decide +kernel)) (fun _ h9 => h9) rfl dX3_work_2 ?_
  have J29_3 : ∀ (v_2 : Int32) (e_v_2 : v_2 = (if (x 7) < 0 then 0 else (if 10 ≤ ((x 7) + 1) then 0 else ((x 7) + 1)))) (ls : Array Slot) (hl : lv_has ls 4 [(0, .ref h), (1, .int a1)]), W p l e (headSpec wsX3_work rmX3_work).room s m ([.ref h, .int a1] : List Value).toArray below meth c s.heap [] 0 0 QQ (F0 m 29 ls [.int v_2, .ref h]) := by
    intro v_2 e_v_2 ls hl
    have hw10 := work_in h7 e_v_2
    obtain ⟨hw1, hw2⟩ := in_tn hw10 (by decide)
    refine va_put (D := G) (ci := 3) (v := .int v_2) (ty := .int) (C := RX3) (T := TX3) (N := 8) hx hb hts i_X3 tyX3 tyX3_ok nmX3 hown hK hP hD hS 0 rfl rfl 7 (by decide) (hts (.fieldLink RX3 40 "RelayTuner$Plant" "newest" "I") (by decide +kernel)) (fun _ h9 => h9) rfl (by decide +kernel) rfl rfl (Nat.le_of_ble_eq_true rfl) dX3_work_29 (fun H locs hP hD hS => ?_)
    have hP : va_P G vwCl [kX3 h q (upd x 7 v_2), aI y q 10 fq] H := hP
    have hD : va_D A [kX3 h q (upd x 7 v_2), aI y q 10 fq] := hD
    refine lv_aload_n hx hb dX3_work_32 rfl (lv_at hl 0 rfl) ?_
    refine va_get (D := G) (ci := 3) (v := .ref q) (C := RX3) (T := TX3) (N := 8) hx hb hts i_X3 hown hK hP 0 rfl rfl 6 (by decide) (hts (.fieldLink RX3 30 "RelayTuner$Plant" "pipe" "[I") (by decide +kernel)) (fun _ h9 => h9) rfl dX3_work_33 ?_
    refine lv_aload_n hx hb dX3_work_36 rfl (lv_at hl 0 rfl) ?_
    refine va_get (D := G) (ci := 3) (v := .int v_2) (C := RX3) (T := TX3) (N := 8) hx hb hts i_X3 hown hK hP 0 rfl rfl 7 (by decide) (hts (.fieldLink RX3 40 "RelayTuner$Plant" "newest" "I") (by decide +kernel)) (fun _ h9 => h9) rfl dX3_work_37 ?_
    refine lv_iload_n hx hb dX3_work_40 rfl (lv_at hl 1 rfl) ?_
    refine as_i (D := G) (n := 10) (f := fq) hx hb hK hP hD hS 1 0 rfl rfl (tn v_2) hw1 hw2 (by first | decide | omega) dX3_work_41 (fun H locs hP hD hS => ?_)
    have hP : va_P G vwCl [kX3 h q (upd x 7 v_2), aI y q 10 (upd fq (tn v_2) a1)] H := hP
    have hD : va_D A [kX3 h q (upd x 7 v_2), aI y q 10 (upd fq (tn v_2) a1)] := hD
    refine lv_aload_n hx hb dX3_work_42 rfl (lv_at hl 0 rfl) ?_
    refine va_get (D := G) (ci := 3) (v := .int (x 3)) (C := RX3) (T := TX3) (N := 8) hx hb hts i_X3 hown hK hP 0 rfl rfl 3 (by decide) (hts (.fieldLink RX3 21 "RelayTuner$Plant" "ambient" "I") (by decide +kernel)) (fun _ h9 => h9) rfl dX3_work_43 ?_
    refine lv_aload_n hx hb dX3_work_46 rfl (lv_at hl 0 rfl) ?_
    refine va_get (D := G) (ci := 3) (v := .int (x 0)) (C := RX3) (T := TX3) (N := 8) hx hb hts i_X3 hown hK hP 0 rfl rfl 0 (by decide) (hts (.fieldLink RX3 9 "RelayTuner$Plant" "gain" "I") (by decide +kernel)) (fun _ h9 => h9) rfl dX3_work_47 ?_
    refine lv_aload_n hx hb dX3_work_50 rfl (lv_at hl 0 rfl) ?_
    refine cl_Ri (va_runV (As := []) (rest := [.int (x 0), .int (x 3)]) ⟨hx, hb, hml, hown, hts⟩ (c_X3_power l G y h q (upd x 7 v_2) (upd fq (tn v_2) a1)) (cwV 0 hts gX3_work_X3_power rfl rfl rfl (by decide +kernel) ⟨Nat.le_of_ble_eq_true rfl, Nat.le_of_ble_eq_true rfl⟩) (PR_V (hP.sub (ws' := [kX3 h q (upd x 7 v_2), aI y q 10 (upd fq (tn v_2) a1)]) [0, 1] rfl) hK hN (ci := 3) (q0 := 0) rfl rfl) rfl rfl hl.1 rfl (lv_room (Nat.le_of_ble_eq_true rfl)) dX3_work_51 ⟨Nat.le_of_ble_eq_true rfl, Nat.le_of_ble_eq_true rfl⟩) ?_
    refine lv_imul hx hb dX3_work_54 ?_
    refine lv_iadd hx hb dX3_work_55 ?_
    refine lv_istore_n (lv' := [(2, .int ((x 3) + ((x 0) * (s_X3_power_r (upd x 7 v_2) (upd fq (tn v_2) a1))))), (0, .ref h), (1, .int a1)]) hx hb dX3_work_56 rfl hl (by decide) rfl (fun ls hl => ?_)
    refine lv_aload_n hx hb dX3_work_57 rfl (lv_at hl 1 rfl) ?_
    refine va_get (D := G) (ci := 3) (v := .int (x 1)) (C := RX3) (T := TX3) (N := 8) hx hb hts i_X3 hown hK hP 0 rfl rfl 1 (by decide) (hts (.fieldLink RX3 15 "RelayTuner$Plant" "inertia" "I") (by decide +kernel)) (fun _ h9 => h9) rfl dX3_work_58 ?_
    have J79_6 : ∀ (v_5 : Int32) (e_v_5 : v_5 = (if (x 1) ≤ 0 then 0 else ((((x 3) + ((x 0) * (s_X3_power_r (upd x 7 v_2) (upd fq (tn v_2) a1)))) - (x 5)) / (x 1)))) (ls : Array Slot) (hl : lv_has ls 4 [(2, .int ((x 3) + ((x 0) * (s_X3_power_r (upd x 7 v_2) (upd fq (tn v_2) a1))))), (0, .ref h)]), W p l e (headSpec wsX3_work rmX3_work).room s m ([.ref h, .int a1] : List Value).toArray below meth c H locs 0 0 QQ (F0 m 79 ls [.int v_5]) := by
      intro v_5 e_v_5 ls hl
      refine lv_istore_n (lv' := [(3, .int v_5), (2, .int ((x 3) + ((x 0) * (s_X3_power_r (upd x 7 v_2) (upd fq (tn v_2) a1))))), (0, .ref h)]) hx hb dX3_work_79 rfl hl (by decide) rfl (fun ls hl => ?_)
      refine lv_iload_n hx hb dX3_work_80 rfl (lv_at hl 0 rfl) ?_
      have J93_9 : ∀ (v_8 : Int32) (e_v_8 : v_8 = (if v_5 = 0 then (s_J6_compare_7cf53_r ((x 3) + ((x 0) * (s_X3_power_r (upd x 7 v_2) (upd fq (tn v_2) a1)))) (x 5)) else v_5)) (ls : Array Slot) (hl : lv_has ls 4 [(3, .int v_8), (0, .ref h)]), W p l e (headSpec wsX3_work rmX3_work).room s m ([.ref h, .int a1] : List Value).toArray below meth c H locs 0 0 QQ (F0 m 93 ls []) := by
        intro v_8 e_v_8 ls hl
        refine lv_aload_n hx hb dX3_work_93 rfl (lv_at hl 1 rfl) ?_
        refine lv_iload_n hx hb dX3_work_94 rfl (lv_at hl 0 rfl) ?_
        refine cl_Hv (wr := [aI y q 10 (upd fq (tn v_2) a1)]) (fun _ : Unit => [kX3 h q (s_X3_warmBy_w0 v_8 (upd x 7 v_2)), aI y q 10 (upd fq (tn v_2) a1)]) [0] [1] [1, 0] (va_runV (As := [.int v_8]) (rest := []) ⟨hx, hb, hml, hown, hts⟩ (c_X3_warmBy l G y h v_8 q (upd x 7 v_2) H.size) (cwV 1 hts gX3_work_X3_warmBy rfl rfl rfl (by decide +kernel) ⟨Nat.le_of_ble_eq_true rfl, Nat.le_of_ble_eq_true rfl⟩) (PH_V (hP.sub (ws' := [kX3 h q (upd x 7 v_2)]) [0] rfl) hK hN (hD.sub (ws' := [kX3 h q (upd x 7 v_2)]) [0] (by decide) rfl) (ci := 3) (q0 := 0) rfl rfl) rfl rfl hl.1 rfl (lv_room (Nat.le_of_ble_eq_true rfl)) dX3_work_95 ⟨Nat.le_of_ble_eq_true rfl, Nat.le_of_ble_eq_true rfl⟩) hP hD hS hA rfl rfl rfl (by decide) rfl (fun _ => rfl) (fun _ H locs hP hD hS => ?_)
        have hP : va_P G vwCl [kX3 h q (s_X3_warmBy_w0 v_8 (upd x 7 v_2)), aI y q 10 (upd fq (tn v_2) a1)] H := hP
        have hD : va_D A [kX3 h q (s_X3_warmBy_w0 v_8 (upd x 7 v_2)), aI y q 10 (upd fq (tn v_2) a1)] := hD
        rw [hQQ]
        exact W.vret hx hb hr (end_Hv () hP hD hS (congr (congrArg (fun (z0 : Nat → Int32) (z1 : Nat → Int32) => [kX3 h q z0, aI y q 10 z1]) (by subst e_v_8; subst e_v_5; subst e_v_2; unfold s_X3_work_w0; exact rfl)) (by subst e_v_8; subst e_v_5; subst e_v_2; unfold s_X3_work_w1; exact rfl))) hS.2.2 dX3_work_98
      refine lv_if_ne (tgt := 93) hx hb dX3_work_81 (by decide) (fun c_7 => ?_) (fun c_7 => ?_)
      · exact J93_9 _ (if_neg c_7).symm ls (lv_sub hl [0, 2] rfl)
      · refine lv_iload_n hx hb dX3_work_84 rfl (lv_at hl 1 rfl) ?_
        refine lv_aload_n hx hb dX3_work_85 rfl (lv_at hl 2 rfl) ?_
        refine va_get (D := G) (ci := 3) (v := .int (x 5)) (C := RX3) (T := TX3) (N := 8) hx hb hts i_X3 hown hK hP 0 rfl rfl 5 (by decide) (hts (.fieldLink RX3 27 "RelayTuner$Plant" "temperature" "I") (by decide +kernel)) (fun _ h9 => h9) rfl dX3_work_86 ?_
        refine cl_Ri (va_runS (As := [.int ((x 3) + ((x 0) * (s_X3_power_r (upd x 7 v_2) (upd fq (tn v_2) a1)))), .int (x 5)]) (rest := []) ⟨hx, hb, hml, hown, hts⟩ (c_J6_compare_7cf53 l G y ((x 3) + ((x 0) * (s_X3_power_r (upd x 7 v_2) (upd fq (tn v_2) a1)))) (x 5)) (va_cwS 2 hts gX3_work_J6_compare_7cf53 rfl rfl rfl (by decide +kernel) ⟨Nat.le_of_ble_eq_true rfl, Nat.le_of_ble_eq_true rfl⟩) (PR_S pnil hK hN) rfl rfl hl.1 rfl (lv_room (Nat.le_of_ble_eq_true rfl)) dX3_work_89 ⟨Nat.le_of_ble_eq_true rfl, Nat.le_of_ble_eq_true rfl⟩) ?_
        refine lv_istore_n (lv' := [(3, .int (s_J6_compare_7cf53_r ((x 3) + ((x 0) * (s_X3_power_r (upd x 7 v_2) (upd fq (tn v_2) a1)))) (x 5))), (2, .int ((x 3) + ((x 0) * (s_X3_power_r (upd x 7 v_2) (upd fq (tn v_2) a1))))), (0, .ref h)]) hx hb dX3_work_92 rfl hl (by decide) rfl (fun ls hl => ?_)
        exact J93_9 _ (if_pos c_7).symm ls (lv_sub hl [0, 2] rfl)
    refine lv_if_le (tgt := 78) hx hb dX3_work_61 (by decide) (fun c_4 => ?_) (fun c_4 => ?_)
    · refine lv_iconst (v := 0) hx hb dX3_work_78 (by decide) ?_
      exact J79_6 _ (if_pos c_4).symm ls (lv_sub hl [0, 1] rfl)
    · refine lv_iload_n hx hb dX3_work_64 rfl (lv_at hl 0 rfl) ?_
      refine lv_aload_n hx hb dX3_work_65 rfl (lv_at hl 1 rfl) ?_
      refine va_get (D := G) (ci := 3) (v := .int (x 5)) (C := RX3) (T := TX3) (N := 8) hx hb hts i_X3 hown hK hP 0 rfl rfl 5 (by decide) (hts (.fieldLink RX3 27 "RelayTuner$Plant" "temperature" "I") (by decide +kernel)) (fun _ h9 => h9) rfl dX3_work_66 ?_
      refine lv_isub hx hb dX3_work_69 ?_
      refine lv_aload_n hx hb dX3_work_70 rfl (lv_at hl 1 rfl) ?_
      refine va_get (D := G) (ci := 3) (v := .int (x 1)) (C := RX3) (T := TX3) (N := 8) hx hb hts i_X3 hown hK hP 0 rfl rfl 1 (by decide) (hts (.fieldLink RX3 15 "RelayTuner$Plant" "inertia" "I") (by decide +kernel)) (fun _ h9 => h9) rfl dX3_work_71 ?_
      refine lv_idiv hx hb dX3_work_74 (ne_of_nle0 c_4) ?_
      refine lv_goto (tgt := 79) hx hb dX3_work_75 (by decide) ?_
      exact J79_6 _ (if_neg c_4).symm ls (lv_sub hl [0, 1] rfl)
  refine lv_if_lt (tgt := 28) hx hb dX3_work_5 (by decide) (fun c_1 => ?_) (fun c_1 => ?_)
  · refine lv_iconst (v := 0) hx hb dX3_work_28 (by decide) ?_
    exact J29_3 _ (if_pos c_1).symm ls (lv_sub hl [0, 1] rfl)
  · refine lv_aload_n hx hb dX3_work_8 rfl (lv_at hl 0 rfl) ?_
    refine va_get (D := G) (ci := 3) (v := .int (x 7)) (C := RX3) (T := TX3) (N := 8) hx hb hts i_X3 hown hK hP 0 rfl rfl 7 (by decide) (hts (.fieldLink RX3 40 "RelayTuner$Plant" "newest" "I") (by decide +kernel)) (fun _ h9 => h9) rfl dX3_work_9 ?_
    refine lv_iconst (v := 1) hx hb dX3_work_12 (by decide) ?_
    refine lv_iadd hx hb dX3_work_13 ?_
    refine lv_bipush (v := 10) hx hb dX3_work_14 (by decide) ?_
    refine lv_icmp_ge (tgt := 28) hx hb dX3_work_16 (by decide) (fun c_10 => ?_) (fun c_10 => ?_)
    · refine lv_iconst (v := 0) hx hb dX3_work_28 (by decide) ?_
      exact J29_3 _ ((if_neg c_1).trans (if_pos c_10)).symm ls (lv_sub hl [0, 1] rfl)
    · refine lv_aload_n hx hb dX3_work_19 rfl (lv_at hl 0 rfl) ?_
      refine va_get (D := G) (ci := 3) (v := .int (x 7)) (C := RX3) (T := TX3) (N := 8) hx hb hts i_X3 hown hK hP 0 rfl rfl 7 (by decide) (hts (.fieldLink RX3 40 "RelayTuner$Plant" "newest" "I") (by decide +kernel)) (fun _ h9 => h9) rfl dX3_work_20 ?_
      refine lv_iconst (v := 1) hx hb dX3_work_23 (by decide) ?_
      refine lv_iadd hx hb dX3_work_24 ?_
      refine lv_goto (tgt := 29) hx hb dX3_work_25 (by decide) ?_
      exact J29_3 _ ((if_neg c_1).trans (if_neg c_10)).symm ls (lv_sub hl [0, 1] rfl)

def s_X4_atMost_r (a1 : Int32) : Int32 := (let v_2 : Int32 := (if a1 ≤ 9999 then a1 else 9999); v_2)
abbrev rmX4_atMost : Room := ({ frames := 0, cells := 0, slots := 0, locals := 0 } : Room)
set_option maxHeartbeats 4000000 in
set_option maxRecDepth 100000 in
theorem c_X4_atMost (l : Launch) (G : va_G) (y : Nat → ClassId) (a1 : Int32) : Met l yX4_atMost wsX4_atMost rmX4_atMost (PR G y [.int a1] []) (QRi (s_X4_atMost_r a1)) 0 0 (fun _ => False) := by
  refine Met.ofW (cc := cX4_atMost) (maxL := 1) (ret := (some .int)) (by decide) rfl ?_
  intro p e s m args below meth c s₁ B hml hv
  obtain ⟨rfl, hP, hK, hN⟩ := hv
  have hx := B.exec
  have hb := B.bytes
  have hr := B.returns
  have hts := atoms_spec (ws := wsX4_atMost) B.pre
  have hown : s.vm.findClass RX4 = some m.cls := findClass_of_methodNamed B.named
  have hlocks := B.notSynchronized
  have hl := lv_entry ([.int a1]) (n := 1) (Nat.le_of_ble_eq_true rfl)
  rw [lg_entry_eq]
  generalize (lg_sl ([.int a1]) ++ List.replicate (1 - (lg_sl ([.int a1])).length) Slot.unset).toArray = ls at hl ⊢
  have hl : lv_has ls 1 [(0, .int a1)] := hl
  obtain ⟨QQ, hQQ⟩ : ∃ zq9, zq9 = MQ below (QRi (s_X4_atMost_r a1)) ([.int a1] : List Value).toArray s 0 0 (fun _ => False) := ⟨_, rfl⟩
  rw [← hQQ]
  refine lv_iload_n hx hb dX4_atMost_0 rfl (lv_at hl 0 rfl) ?_
  refine lv_sipush (v := 9999) hx hb dX4_atMost_1 (by decide) ?_
  have J14_3 : ∀ (v_2 : Int32) (e_v_2 : v_2 = (if a1 ≤ 9999 then a1 else 9999)) (ls : Array Slot) (hl : lv_has ls 1 []), W p l e (headSpec wsX4_atMost rmX4_atMost).room s m ([.int a1] : List Value).toArray below meth c s.heap [] 0 0 QQ (F0 m 14 ls [.int v_2]) := by
    intro v_2 e_v_2 ls hl
    rw [hQQ]
    exact W.iret hx hb hr (end_Ri (by subst e_v_2; unfold s_X4_atMost_r; exact rfl)) (fun _ h => nomatch h) dX4_atMost_14
  refine lv_icmp_le (tgt := 13) hx hb dX4_atMost_4 (by decide) (fun c_1 => ?_) (fun c_1 => ?_)
  · refine lv_iload_n hx hb dX4_atMost_13 rfl (lv_at hl 0 rfl) ?_
    exact J14_3 _ (if_pos c_1).symm ls (lv_sub hl [] rfl)
  · refine lv_sipush (v := 9999) hx hb dX4_atMost_7 (by decide) ?_
    refine lv_goto (tgt := 14) hx hb dX4_atMost_10 (by decide) ?_
    exact J14_3 _ (if_neg c_1).symm ls (lv_sub hl [] rfl)

def s_X4_proportional_r (a1 : Int32) (a2 : Int32) : Int32 := (if a1 = 0 then (s_X4_atMost_r (a2 / 2)) else (if a1 = 1 then (s_X4_atMost_r ((a2 * 45) / 100)) else (if a1 = 2 then (s_X4_atMost_r ((a2 * 6) / 10)) else (s_X4_atMost_r ((a2 * 2) / 10)))))
abbrev rmX4_proportional : Room := ({ frames := 1, cells := 0, slots := 0, locals := 20 } : Room)
set_option maxHeartbeats 4000000 in
set_option maxRecDepth 100000 in
theorem c_X4_proportional (l : Launch) (G : va_G) (y : Nat → ClassId) (a1 : Int32) (a2 : Int32) : Met l yX4_proportional wsX4_proportional rmX4_proportional (PR G y [.int a1, .int a2] []) (QRi (s_X4_proportional_r a1 a2)) 0 0 (fun _ => False) := by
  refine Met.ofW (cc := cX4_proportional) (maxL := 2) (ret := (some .int)) (by decide) rfl ?_
  intro p e s m args below meth c s₁ B hml hv
  obtain ⟨rfl, hP, hK, hN⟩ := hv
  have hx := B.exec
  have hb := B.bytes
  have hr := B.returns
  have hts := atoms_spec (ws := wsX4_proportional) B.pre
  have hown : s.vm.findClass RX4 = some m.cls := findClass_of_methodNamed B.named
  have hlocks := B.notSynchronized
  have hl := lv_entry ([.int a1, .int a2]) (n := 2) (Nat.le_of_ble_eq_true rfl)
  rw [lg_entry_eq]
  generalize (lg_sl ([.int a1, .int a2]) ++ List.replicate (2 - (lg_sl ([.int a1, .int a2])).length) Slot.unset).toArray = ls at hl ⊢
  have hl : lv_has ls 2 [(0, .int a1), (1, .int a2)] := hl
  refine lv_iload_n hx hb dX4_proportional_0 rfl (lv_at hl 0 rfl) ?_
  rcases Decidable.em (a1 = 0) with c_1 | c_1
  · refine lv_tableIn (tgt := 28) hx hb dX4_proportional_1 (by rw [c_1]; decide) (by rw [c_1]; decide) (by rw [c_1]; first | done | rfl) (by decide) ?_
    refine lv_iload_n hx hb dX4_proportional_28 rfl (lv_at hl 1 rfl) ?_
    refine lv_iconst (v := 2) hx hb dX4_proportional_29 (by decide) ?_
    refine lv_idiv hx hb dX4_proportional_30 (by decide) ?_
    refine cl_Ri (va_runS (As := [.int (a2 / 2)]) (rest := []) ⟨hx, hb, hml, hown, hts⟩ (c_X4_atMost l G y (a2 / 2)) (va_cwS 1 hts gX4_proportional_X4_atMost rfl rfl rfl (by decide +kernel) ⟨Nat.le_of_ble_eq_true rfl, Nat.le_of_ble_eq_true rfl⟩) (PR_S pnil hK hN) rfl rfl hl.1 rfl (lv_room (Nat.le_of_ble_eq_true rfl)) dX4_proportional_31 ⟨Nat.le_of_ble_eq_true rfl, Nat.le_of_ble_eq_true rfl⟩) ?_
    exact W.iret hx hb hr (end_Ri (by unfold s_X4_proportional_r; exact (if_pos c_1).symm)) (fun _ h => nomatch h) dX4_proportional_34
  rcases Decidable.em (a1 = 1) with c_2 | c_2
  · refine lv_tableIn (tgt := 35) hx hb dX4_proportional_1 (by rw [c_2]; decide) (by rw [c_2]; decide) (by rw [c_2]; first | done | rfl) (by decide) ?_
    refine lv_iload_n hx hb dX4_proportional_35 rfl (lv_at hl 1 rfl) ?_
    refine lv_bipush (v := 45) hx hb dX4_proportional_36 (by decide) ?_
    refine lv_imul hx hb dX4_proportional_38 ?_
    refine lv_bipush (v := 100) hx hb dX4_proportional_39 (by decide) ?_
    refine lv_idiv hx hb dX4_proportional_41 (by decide) ?_
    refine cl_Ri (va_runS (As := [.int ((a2 * 45) / 100)]) (rest := []) ⟨hx, hb, hml, hown, hts⟩ (c_X4_atMost l G y ((a2 * 45) / 100)) (va_cwS 1 hts gX4_proportional_X4_atMost rfl rfl rfl (by decide +kernel) ⟨Nat.le_of_ble_eq_true rfl, Nat.le_of_ble_eq_true rfl⟩) (PR_S pnil hK hN) rfl rfl hl.1 rfl (lv_room (Nat.le_of_ble_eq_true rfl)) dX4_proportional_42 ⟨Nat.le_of_ble_eq_true rfl, Nat.le_of_ble_eq_true rfl⟩) ?_
    exact W.iret hx hb hr (end_Ri (by unfold s_X4_proportional_r; exact ((if_neg c_1).trans (if_pos c_2)).symm)) (fun _ h => nomatch h) dX4_proportional_45
  rcases Decidable.em (a1 = 2) with c_3 | c_3
  · refine lv_tableIn (tgt := 46) hx hb dX4_proportional_1 (by rw [c_3]; decide) (by rw [c_3]; decide) (by rw [c_3]; first | done | rfl) (by decide) ?_
    refine lv_iload_n hx hb dX4_proportional_46 rfl (lv_at hl 1 rfl) ?_
    refine lv_bipush (v := 6) hx hb dX4_proportional_47 (by decide) ?_
    refine lv_imul hx hb dX4_proportional_49 ?_
    refine lv_bipush (v := 10) hx hb dX4_proportional_50 (by decide) ?_
    refine lv_idiv hx hb dX4_proportional_52 (by decide) ?_
    refine cl_Ri (va_runS (As := [.int ((a2 * 6) / 10)]) (rest := []) ⟨hx, hb, hml, hown, hts⟩ (c_X4_atMost l G y ((a2 * 6) / 10)) (va_cwS 1 hts gX4_proportional_X4_atMost rfl rfl rfl (by decide +kernel) ⟨Nat.le_of_ble_eq_true rfl, Nat.le_of_ble_eq_true rfl⟩) (PR_S pnil hK hN) rfl rfl hl.1 rfl (lv_room (Nat.le_of_ble_eq_true rfl)) dX4_proportional_53 ⟨Nat.le_of_ble_eq_true rfl, Nat.le_of_ble_eq_true rfl⟩) ?_
    exact W.iret hx hb hr (end_Ri (by unfold s_X4_proportional_r; exact ((if_neg c_1).trans ((if_neg c_2).trans (if_pos c_3))).symm)) (fun _ h => nomatch h) dX4_proportional_56
  refine lv_tableOut (tgt := 57) hx hb dX4_proportional_1 (by have e0 : a1.toInt ≠ 0 := fun h => c_1 (Int32.toInt_inj.mp h); have e1 : a1.toInt ≠ 1 := fun h => c_2 (Int32.toInt_inj.mp h); have e2 : a1.toInt ≠ 2 := fun h => c_3 (Int32.toInt_inj.mp h); omega) (by decide) ?_
  refine lv_iload_n hx hb dX4_proportional_57 rfl (lv_at hl 1 rfl) ?_
  refine lv_iconst (v := 2) hx hb dX4_proportional_58 (by decide) ?_
  refine lv_imul hx hb dX4_proportional_59 ?_
  refine lv_bipush (v := 10) hx hb dX4_proportional_60 (by decide) ?_
  refine lv_idiv hx hb dX4_proportional_62 (by decide) ?_
  refine cl_Ri (va_runS (As := [.int ((a2 * 2) / 10)]) (rest := []) ⟨hx, hb, hml, hown, hts⟩ (c_X4_atMost l G y ((a2 * 2) / 10)) (va_cwS 1 hts gX4_proportional_X4_atMost rfl rfl rfl (by decide +kernel) ⟨Nat.le_of_ble_eq_true rfl, Nat.le_of_ble_eq_true rfl⟩) (PR_S pnil hK hN) rfl rfl hl.1 rfl (lv_room (Nat.le_of_ble_eq_true rfl)) dX4_proportional_63 ⟨Nat.le_of_ble_eq_true rfl, Nat.le_of_ble_eq_true rfl⟩) ?_
  exact W.iret hx hb hr (end_Ri (by unfold s_X4_proportional_r; exact ((if_neg c_1).trans ((if_neg c_2).trans (if_neg c_3))).symm)) (fun _ h => nomatch h) dX4_proportional_66

def s_X4_integral_r (a1 : Int32) (a2 : Int32) (a3 : Int32) : Int32 := (if a1 = 0 then 0 else (if 1 ≤ a3 then (let v_4 : Int32 := (if a1 = 1 then (s_X4_atMost_r ((a2 * 12) / (10 * a3))) else (s_X4_atMost_r ((a2 * 2) / a3))); v_4) else 0))
abbrev rmX4_integral : Room := ({ frames := 1, cells := 0, slots := 0, locals := 20 } : Room)
set_option maxHeartbeats 4000000 in
set_option maxRecDepth 100000 in
theorem c_X4_integral (l : Launch) (G : va_G) (y : Nat → ClassId) (a1 : Int32) (a2 : Int32) (a3 : Int32) : Met l yX4_integral wsX4_integral rmX4_integral (PR G y [.int a1, .int a2, .int a3] []) (QRi (s_X4_integral_r a1 a2 a3)) 0 0 (fun _ => False) := by
  refine Met.ofW (cc := cX4_integral) (maxL := 3) (ret := (some .int)) (by decide) rfl ?_
  intro p e s m args below meth c s₁ B hml hv
  obtain ⟨rfl, hP, hK, hN⟩ := hv
  have hx := B.exec
  have hb := B.bytes
  have hr := B.returns
  have hts := atoms_spec (ws := wsX4_integral) B.pre
  have hown : s.vm.findClass RX4 = some m.cls := findClass_of_methodNamed B.named
  have hlocks := B.notSynchronized
  have hl := lv_entry ([.int a1, .int a2, .int a3]) (n := 3) (Nat.le_of_ble_eq_true rfl)
  rw [lg_entry_eq]
  generalize (lg_sl ([.int a1, .int a2, .int a3]) ++ List.replicate (3 - (lg_sl ([.int a1, .int a2, .int a3])).length) Slot.unset).toArray = ls at hl ⊢
  have hl : lv_has ls 3 [(0, .int a1), (1, .int a2), (2, .int a3)] := hl
  obtain ⟨QQ, hQQ⟩ : ∃ zq9, zq9 = MQ below (QRi (s_X4_integral_r a1 a2 a3)) ([.int a1, .int a2, .int a3] : List Value).toArray s 0 0 (fun _ => False) := ⟨_, rfl⟩
  rw [← hQQ]
  refine lv_iload_n hx hb dX4_integral_0 rfl (lv_at hl 0 rfl) ?_
  refine lv_if_eq (tgt := 9) hx hb dX4_integral_1 (by decide) (fun c_1 => ?_) (fun c_1 => ?_)
  · refine lv_iconst (v := 0) hx hb dX4_integral_9 (by decide) ?_
    rw [hQQ]
    exact W.iret hx hb hr (end_Ri (by unfold s_X4_integral_r; exact (if_pos c_1).symm)) (fun _ h => nomatch h) dX4_integral_10
  · refine lv_iload_n hx hb dX4_integral_4 rfl (lv_at hl 2 rfl) ?_
    refine lv_iconst (v := 1) hx hb dX4_integral_5 (by decide) ?_
    refine lv_icmp_ge (tgt := 11) hx hb dX4_integral_6 (by decide) (fun c_2 => ?_) (fun c_2 => ?_)
    · refine lv_iload_n hx hb dX4_integral_11 rfl (lv_at hl 0 rfl) ?_
      refine lv_iconst (v := 1) hx hb dX4_integral_12 (by decide) ?_
      have J39_5 : ∀ (v_4 : Int32) (e_v_4 : v_4 = (if a1 = 1 then (s_X4_atMost_r ((a2 * 12) / (10 * a3))) else (s_X4_atMost_r ((a2 * 2) / a3)))) (ls : Array Slot) (hl : lv_has ls 3 []), W p l e (headSpec wsX4_integral rmX4_integral).room s m ([.int a1, .int a2, .int a3] : List Value).toArray below meth c s.heap [] 0 0 QQ (F0 m 39 ls [.int v_4]) := by
        intro v_4 e_v_4 ls hl
        rw [hQQ]
        exact W.iret hx hb hr (end_Ri (by subst e_v_4; unfold s_X4_integral_r; exact ((if_neg c_1).trans (if_pos c_2)).symm)) (fun _ h => nomatch h) dX4_integral_39
      refine lv_icmp_ne (tgt := 31) hx hb dX4_integral_13 (by decide) (fun c_3 => ?_) (fun c_3 => ?_)
      · refine lv_iload_n hx hb dX4_integral_31 rfl (lv_at hl 1 rfl) ?_
        refine lv_iconst (v := 2) hx hb dX4_integral_32 (by decide) ?_
        refine lv_imul hx hb dX4_integral_33 ?_
        refine lv_iload_n hx hb dX4_integral_34 rfl (lv_at hl 2 rfl) ?_
        refine lv_idiv hx hb dX4_integral_35 (ne0_of_pos c_2) ?_
        refine cl_Ri (va_runS (As := [.int ((a2 * 2) / a3)]) (rest := []) ⟨hx, hb, hml, hown, hts⟩ (c_X4_atMost l G y ((a2 * 2) / a3)) (va_cwS 1 hts gX4_integral_X4_atMost rfl rfl rfl (by decide +kernel) ⟨Nat.le_of_ble_eq_true rfl, Nat.le_of_ble_eq_true rfl⟩) (PR_S pnil hK hN) rfl rfl hl.1 rfl (lv_room (Nat.le_of_ble_eq_true rfl)) dX4_integral_36 ⟨Nat.le_of_ble_eq_true rfl, Nat.le_of_ble_eq_true rfl⟩) ?_
        exact J39_5 _ (if_neg c_3).symm ls (lv_sub hl [] rfl)
      · refine lv_iload_n hx hb dX4_integral_16 rfl (lv_at hl 1 rfl) ?_
        refine lv_bipush (v := 12) hx hb dX4_integral_17 (by decide) ?_
        refine lv_imul hx hb dX4_integral_19 ?_
        refine lv_bipush (v := 10) hx hb dX4_integral_20 (by decide) ?_
        refine lv_iload_n hx hb dX4_integral_22 rfl (lv_at hl 2 rfl) ?_
        refine lv_imul hx hb dX4_integral_23 ?_
        refine lv_idiv hx hb dX4_integral_24 (ten_ne0 c_2) ?_
        refine cl_Ri (va_runS (As := [.int ((a2 * 12) / (10 * a3))]) (rest := []) ⟨hx, hb, hml, hown, hts⟩ (c_X4_atMost l G y ((a2 * 12) / (10 * a3))) (va_cwS 1 hts gX4_integral_X4_atMost rfl rfl rfl (by decide +kernel) ⟨Nat.le_of_ble_eq_true rfl, Nat.le_of_ble_eq_true rfl⟩) (PR_S pnil hK hN) rfl rfl hl.1 rfl (lv_room (Nat.le_of_ble_eq_true rfl)) dX4_integral_25 ⟨Nat.le_of_ble_eq_true rfl, Nat.le_of_ble_eq_true rfl⟩) ?_
        refine lv_goto (tgt := 39) hx hb dX4_integral_28 (by decide) ?_
        exact J39_5 _ (if_pos c_3).symm ls (lv_sub hl [] rfl)
    · refine lv_iconst (v := 0) hx hb dX4_integral_9 (by decide) ?_
      rw [hQQ]
      exact W.iret hx hb hr (end_Ri (by unfold s_X4_integral_r; exact ((if_neg c_1).trans (if_neg c_2)).symm)) (fun _ h => nomatch h) dX4_integral_10

def s_X4_derivative_r (a1 : Int32) (a2 : Int32) (a3 : Int32) : Int32 := (if a1 = 2 then (s_X4_atMost_r ((a2 * a3) / 8)) else (if a1 = 3 then (s_X4_atMost_r ((a2 * a3) / 3)) else 0))
abbrev rmX4_derivative : Room := ({ frames := 1, cells := 0, slots := 0, locals := 20 } : Room)
set_option maxHeartbeats 4000000 in
set_option maxRecDepth 100000 in
theorem c_X4_derivative (l : Launch) (G : va_G) (y : Nat → ClassId) (a1 : Int32) (a2 : Int32) (a3 : Int32) : Met l yX4_derivative wsX4_derivative rmX4_derivative (PR G y [.int a1, .int a2, .int a3] []) (QRi (s_X4_derivative_r a1 a2 a3)) 0 0 (fun _ => False) := by
  refine Met.ofW (cc := cX4_derivative) (maxL := 3) (ret := (some .int)) (by decide) rfl ?_
  intro p e s m args below meth c s₁ B hml hv
  obtain ⟨rfl, hP, hK, hN⟩ := hv
  have hx := B.exec
  have hb := B.bytes
  have hr := B.returns
  have hts := atoms_spec (ws := wsX4_derivative) B.pre
  have hown : s.vm.findClass RX4 = some m.cls := findClass_of_methodNamed B.named
  have hlocks := B.notSynchronized
  have hl := lv_entry ([.int a1, .int a2, .int a3]) (n := 3) (Nat.le_of_ble_eq_true rfl)
  rw [lg_entry_eq]
  generalize (lg_sl ([.int a1, .int a2, .int a3]) ++ List.replicate (3 - (lg_sl ([.int a1, .int a2, .int a3])).length) Slot.unset).toArray = ls at hl ⊢
  have hl : lv_has ls 3 [(0, .int a1), (1, .int a2), (2, .int a3)] := hl
  refine lv_iload_n hx hb dX4_derivative_0 rfl (lv_at hl 0 rfl) ?_
  rcases Decidable.em (a1 = 2) with c_1 | c_1
  · refine lv_lookup (tgt := 28) hx hb dX4_derivative_1 (by decide) (by rw [c_1]; first | done | rfl) (by decide) ?_
    refine lv_iload_n hx hb dX4_derivative_28 rfl (lv_at hl 1 rfl) ?_
    refine lv_iload_n hx hb dX4_derivative_29 rfl (lv_at hl 2 rfl) ?_
    refine lv_imul hx hb dX4_derivative_30 ?_
    refine lv_bipush (v := 8) hx hb dX4_derivative_31 (by decide) ?_
    refine lv_idiv hx hb dX4_derivative_33 (by decide) ?_
    refine cl_Ri (va_runS (As := [.int ((a2 * a3) / 8)]) (rest := []) ⟨hx, hb, hml, hown, hts⟩ (c_X4_atMost l G y ((a2 * a3) / 8)) (va_cwS 1 hts gX4_derivative_X4_atMost rfl rfl rfl (by decide +kernel) ⟨Nat.le_of_ble_eq_true rfl, Nat.le_of_ble_eq_true rfl⟩) (PR_S pnil hK hN) rfl rfl hl.1 rfl (lv_room (Nat.le_of_ble_eq_true rfl)) dX4_derivative_34 ⟨Nat.le_of_ble_eq_true rfl, Nat.le_of_ble_eq_true rfl⟩) ?_
    exact W.iret hx hb hr (end_Ri (by unfold s_X4_derivative_r; exact (if_pos c_1).symm)) (fun _ h => nomatch h) dX4_derivative_37
  rcases Decidable.em (a1 = 3) with c_2 | c_2
  · refine lv_lookup (tgt := 38) hx hb dX4_derivative_1 (by decide) (by rw [c_2]; first | done | rfl) (by decide) ?_
    refine lv_iload_n hx hb dX4_derivative_38 rfl (lv_at hl 1 rfl) ?_
    refine lv_iload_n hx hb dX4_derivative_39 rfl (lv_at hl 2 rfl) ?_
    refine lv_imul hx hb dX4_derivative_40 ?_
    refine lv_iconst (v := 3) hx hb dX4_derivative_41 (by decide) ?_
    refine lv_idiv hx hb dX4_derivative_42 (by decide) ?_
    refine cl_Ri (va_runS (As := [.int ((a2 * a3) / 3)]) (rest := []) ⟨hx, hb, hml, hown, hts⟩ (c_X4_atMost l G y ((a2 * a3) / 3)) (va_cwS 1 hts gX4_derivative_X4_atMost rfl rfl rfl (by decide +kernel) ⟨Nat.le_of_ble_eq_true rfl, Nat.le_of_ble_eq_true rfl⟩) (PR_S pnil hK hN) rfl rfl hl.1 rfl (lv_room (Nat.le_of_ble_eq_true rfl)) dX4_derivative_43 ⟨Nat.le_of_ble_eq_true rfl, Nat.le_of_ble_eq_true rfl⟩) ?_
    exact W.iret hx hb hr (end_Ri (by unfold s_X4_derivative_r; exact ((if_neg c_1).trans (if_pos c_2)).symm)) (fun _ h => nomatch h) dX4_derivative_46
  refine lv_lookup (tgt := 47) hx hb dX4_derivative_1 (by decide) (by have e0 : a1.toInt ≠ 2 := fun h => c_1 (Int32.toInt_inj.mp h); have e1 : a1.toInt ≠ 3 := fun h => c_2 (Int32.toInt_inj.mp h); exact ((if_neg (Ne.symm e0)).trans ((if_neg (Ne.symm e1)).trans (Op.lookupswitch.offset_nil _ _)))) (by decide) ?_
  refine lv_iconst (v := 0) hx hb dX4_derivative_47 (by decide) ?_
  exact W.iret hx hb hr (end_Ri (by unfold s_X4_derivative_r; exact ((if_neg c_1).trans (if_neg c_2)).symm)) (fun _ h => nomatch h) dX4_derivative_48

abbrev rmX10_become : Room := ({ frames := 1, cells := 0, slots := 0, locals := 60 } : Room)
set_option maxHeartbeats 4000000 in
set_option maxRecDepth 100000 in
theorem c_X10_become (l : Launch) (G : va_G) (y : Nat → ClassId) (h : Nat) (k : Nat) (t : Nat) (x : Nat → Int32) (ft : Nat → Int32) (u : Nat) (x2 : Nat → Int32) (fu : Nat → Int32) (sz : Nat) : Met l yX10_become wsX10_become rmX10_become (PH G y [.ref h, .ref k] [kX10 h t x, aI y t 32 ft, kX10 k u x2, aI y u 32 fu] sz) (QHv G (fun _ : Unit => [kX10 h t x2, aI y t 32 fu, kX10 k u x2, aI y u 32 fu]) (va_A [kX10 h t x, aI y t 32 ft, kX10 k u x2, aI y u 32 fu] sz)) 0 0 (va_A [kX10 h t x, aI y t 32 ft, kX10 k u x2, aI y u 32 fu] sz) := by
  refine Met.ofW (cc := cX10_become) (maxL := 2) (ret := none) (by decide) rfl ?_
  intro p e s m args below meth c s₁ B hml hv
  obtain ⟨rfl, hsz, hP, ⟨hK, hN⟩, hD0⟩ := hv
  have hx := B.exec
  have hb := B.bytes
  have hr := B.returns
  have hts := atoms_spec (ws := wsX10_become) B.pre
  have hown : s.vm.findClass RX10 = some m.cls := findClass_of_methodNamed B.named
  have hlocks := B.notSynchronized
  have i_X10 : ∀ w ∈ u_ws RX10 TX10 2, w ∈ wsX10_become := by decide +kernel
  subst hsz
  have hD := hD0.self (sz := s.heap.size)
  generalize hAe : va_A [kX10 h t x, aI y t 32 ft, kX10 k u x2, aI y u 32 fu] s.heap.size = A at hD ⊢
  have hA : ∀ q : Nat, s.heap.size ≤ q → A q := fun q h => by rw [← hAe]; exact Or.inr h
  have hS : va_S A s.heap s.heap [] := va_S.rf
  have hP : va_P G vwCl [kX10 h t x, aI y t 32 ft, kX10 k u x2, aI y u 32 fu] s.heap := hP
  have hl := lv_entry ([.ref h, .ref k]) (n := 2) (Nat.le_of_ble_eq_true rfl)
  rw [lg_entry_eq]
  generalize (lg_sl ([.ref h, .ref k]) ++ List.replicate (2 - (lg_sl ([.ref h, .ref k])).length) Slot.unset).toArray = ls at hl ⊢
  have hl : lv_has ls 2 [(0, .ref h), (1, .ref k)] := hl
  refine lv_aload_n hx hb dX10_become_0 rfl (lv_at hl 0 rfl) ?_
  refine lv_aload_n hx hb dX10_become_1 rfl (lv_at hl 1 rfl) ?_
  refine va_get (D := G) (ci := 8) (v := .int (x2 0)) (C := RX10) (T := TX10) (N := 2) hx hb hts i_X10 hown hK hP 2 rfl rfl 0 (by decide) (hts (.fieldLink RX10 13 "RelayTuner$Trials" "count" "I") (by decide +kernel)) (fun _ h9 => h9) rfl dX10_become_2 ?_
  refine va_put (D := G) (ci := 8) (v := .int (x2 0)) (ty := .int) (C := RX10) (T := TX10) (N := 2) hx hb hts i_X10 tyX10 tyX10_ok nmX10 hown hK hP hD hS 0 rfl rfl 0 (by decide) (hts (.fieldLink RX10 13 "RelayTuner$Trials" "count" "I") (by decide +kernel)) (fun _ h9 => h9) rfl (by decide +kernel) rfl rfl (Nat.le_of_ble_eq_true rfl) dX10_become_5 (fun H locs hP hD hS => ?_)
  have hP : va_P G vwCl [kX10 h t (upd x 0 (x2 0)), aI y t 32 ft, kX10 k u x2, aI y u 32 fu] H := hP
  have hD : va_D A [kX10 h t (upd x 0 (x2 0)), aI y t 32 ft, kX10 k u x2, aI y u 32 fu] := hD
  refine lv_aload_n hx hb dX10_become_8 rfl (lv_at hl 1 rfl) ?_
  refine va_get (D := G) (ci := 8) (v := .ref u) (C := RX10) (T := TX10) (N := 2) hx hb hts i_X10 hown hK hP 2 rfl rfl 1 (by decide) (hts (.fieldLink RX10 9 "RelayTuner$Trials" "putAside" "[I") (by decide +kernel)) (fun _ h9 => h9) rfl dX10_become_9 ?_
  refine lv_iconst (v := 0) hx hb dX10_become_12 (by decide) ?_
  refine lv_aload_n hx hb dX10_become_13 rfl (lv_at hl 0 rfl) ?_
  refine va_get (D := G) (ci := 8) (v := .ref t) (C := RX10) (T := TX10) (N := 2) hx hb hts i_X10 hown hK hP 0 rfl rfl 1 (by decide) (hts (.fieldLink RX10 9 "RelayTuner$Trials" "putAside" "[I") (by decide +kernel)) (fun _ h9 => h9) rfl dX10_become_14 ?_
  refine lv_iconst (v := 0) hx hb dX10_become_17 (by decide) ?_
  refine lv_bipush (v := 32) hx hb dX10_become_18 (by decide) ?_
  refine va_copyi (D := G) (f := fu) (g := ft) (ty := .int) hx hb (hml.trans hl.1.symm) hown (hts (.methodLink RX10 17 arraycopyName) (by decide +kernel)) (hts (.native arraycopyName) (by decide +kernel)) (hts (.static arraycopyName) (by decide +kernel)) (hts (.initialized "java/lang/System") (by decide +kernel)) hK hP hD hS 3 1 0 0 rfl rfl rfl rfl rfl (by decide) (by decide) (by decide) (by decide) (by decide) (fun _ _ => rfl) (Nat.le_of_ble_eq_true rfl) (Nat.le_of_ble_eq_true rfl) dX10_become_20 (fun H locs hP hD hS => ?_)
  have hP : va_P G vwCl [kX10 h t (upd x 0 (x2 0)), aI y t 32 (va_cpy fu ft 0 0 32), kX10 k u x2, aI y u 32 fu] H := hP
  have hD : va_D A [kX10 h t (upd x 0 (x2 0)), aI y t 32 (va_cpy fu ft 0 0 32), kX10 k u x2, aI y u 32 fu] := hD
  have hD := va_D.set (p := 1) (e := (aI y t 32 fu).2) hD rfl
  have hP := alike1 (i := 1) (g := fu) hP rfl (fun j hj => cpy_all hj)
  have hP : va_P G vwCl [kX10 h t (upd x 0 (x2 0)), aI y t 32 fu, kX10 k u x2, aI y u 32 fu] H := hP
  have hD : va_D A [kX10 h t (upd x 0 (x2 0)), aI y t 32 fu, kX10 k u x2, aI y u 32 fu] := hD
  exact W.vret hx hb hr (end_Hv () hP hD hS rfl) hS.2.2 dX10_become_23

theorem tr40 {x : Int32} {t : Nat} (hx : x = nI t) : x * nI 4 = nI (4 * t) := by rw [hx, pk_mul, Nat.mul_comm]
theorem tr4 (c : Nat) {x : Int32} {t : Nat} (hx : x = nI t) : x * nI 4 + nI c = nI (4 * t + c) := by rw [tr40 hx, nI_add]

def s_X10_open_w0 (x : Nat → Int32) : Nat → Int32 := (let v_2 : Nat → Int32 := (if (x 0) < 0 then x else (if 8 ≤ (x 0) then x else (upd x 0 ((x 0) + 1)))); v_2)
def s_X10_open_w1 (x : Nat → Int32) (ft : Nat → Int32) (x2 : Nat → Int32) : Nat → Int32 := (let v_3 : Nat → Int32 := (if (x 0) < 0 then ft else (if 8 ≤ (x 0) then ft else (upd (upd (upd (upd ft (4 * tn (x 0)) (x2 3)) (4 * tn (x 0) + 1) (x2 4)) (4 * tn (x 0) + 2) (x2 5)) (4 * tn (x 0) + 3) (x2 6)))); v_3)
abbrev rmX10_open : Room := ({ frames := 0, cells := 0, slots := 0, locals := 0 } : Room)
set_option maxHeartbeats 4000000 in
set_option maxRecDepth 100000 in
theorem c_X10_open (l : Launch) (G : va_G) (y : Nat → ClassId) (h : Nat) (k : Nat) (t : Nat) (x : Nat → Int32) (ft : Nat → Int32) (x2 : Nat → Int32) (sz : Nat) : Met l yX10_open wsX10_open rmX10_open (PH G y [.ref h, .ref k] [kX10 h t x, aI y t 32 ft, kX1 k x2] sz) (QHv G (fun _ : Unit => [kX10 h t (s_X10_open_w0 x), aI y t 32 (s_X10_open_w1 x ft x2), kX1 k x2]) (va_A [kX10 h t x, aI y t 32 ft, kX1 k x2] sz)) 0 0 (va_A [kX10 h t x, aI y t 32 ft, kX1 k x2] sz) := by
  refine Met.ofW (cc := cX10_open) (maxL := 3) (ret := none) (by decide) rfl ?_
  intro p e s m args below meth c s₁ B hml hv
  obtain ⟨rfl, hsz, hP, ⟨hK, hN⟩, hD0⟩ := hv
  have hx := B.exec
  have hb := B.bytes
  have hr := B.returns
  have hts := atoms_spec (ws := wsX10_open) B.pre
  have hown : s.vm.findClass RX10 = some m.cls := findClass_of_methodNamed B.named
  have hlocks := B.notSynchronized
  have i_X1 : ∀ w ∈ u_ws RX1 TX1 11, w ∈ wsX10_open := by decide +kernel
  have i_X10 : ∀ w ∈ u_ws RX10 TX10 2, w ∈ wsX10_open := by decide +kernel
  subst hsz
  have hD := hD0.self (sz := s.heap.size)
  generalize hAe : va_A [kX10 h t x, aI y t 32 ft, kX1 k x2] s.heap.size = A at hD ⊢
  have hA : ∀ q : Nat, s.heap.size ≤ q → A q := fun q h => by rw [← hAe]; exact Or.inr h
  have hS : va_S A s.heap s.heap [] := va_S.rf
  have hP : va_P G vwCl [kX10 h t x, aI y t 32 ft, kX1 k x2] s.heap := hP
  have hl := lv_entry ([.ref h, .ref k]) (n := 3) (Nat.le_of_ble_eq_true rfl)
  rw [lg_entry_eq]
  generalize (lg_sl ([.ref h, .ref k]) ++ List.replicate (3 - (lg_sl ([.ref h, .ref k])).length) Slot.unset).toArray = ls at hl ⊢
  have hl : lv_has ls 3 [(0, .ref h), (1, .ref k)] := hl
  obtain ⟨QQ, hQQ⟩ : ∃ zq9, zq9 = MQ below (QHv G (fun _ : Unit => [kX10 h t (s_X10_open_w0 x), aI y t 32 (s_X10_open_w1 x ft x2), kX1 k x2]) A) ([.ref h, .ref k] : List Value).toArray s 0 0 A := ⟨_, rfl⟩
  rw [← hQQ]
  refine lv_aload_n hx hb dX10_open_0 rfl (lv_at hl 0 rfl) ?_
  refine va_get (D := G) (ci := 8) (v := .int (x 0)) (C := RX10) (T := TX10) (N := 2) hx hb hts i_X10 hown hK hP 0 rfl rfl 0 (by decide) (hts (.fieldLink RX10 13 "RelayTuner$Trials" "count" "I") (by decide +kernel)) (fun _ h9 => h9) rfl dX10_open_1 ?_
  have J79_4 : ∀ (v_2 : Nat → Int32) (v_3 : Nat → Int32) (e_v_2 : v_2 = (if (x 0) < 0 then x else (if 8 ≤ (x 0) then x else (upd x 0 ((x 0) + 1))))) (e_v_3 : v_3 = (if (x 0) < 0 then ft else (if 8 ≤ (x 0) then ft else (upd (upd (upd (upd ft (4 * tn (x 0)) (x2 3)) (4 * tn (x 0) + 1) (x2 4)) (4 * tn (x 0) + 2) (x2 5)) (4 * tn (x 0) + 3) (x2 6))))) (H : Heap) (locs : List Loc) (hP : va_P G vwCl [kX10 h t v_2, aI y t 32 v_3, kX1 k x2] H) (hD : va_D A [kX10 h t v_2, aI y t 32 v_3, kX1 k x2]) (hS : va_S A s.heap H locs) (ls : Array Slot) (hl : lv_has ls 3 []), W p l e (headSpec wsX10_open rmX10_open).room s m ([.ref h, .ref k] : List Value).toArray below meth c H locs 0 0 QQ (F0 m 79 ls []) := by
    intro v_2 v_3 e_v_2 e_v_3 H locs hP hD hS ls hl
    rw [hQQ]
    exact W.vret hx hb hr (end_Hv () hP hD hS (congr (congrArg (fun (z0 : Nat → Int32) (z1 : Nat → Int32) => [kX10 h t z0, aI y t 32 z1, kX1 k x2]) (by subst e_v_3; subst e_v_2; unfold s_X10_open_w0; exact rfl)) (by subst e_v_3; subst e_v_2; unfold s_X10_open_w1; exact rfl))) hS.2.2 dX10_open_79
  refine lv_if_lt (tgt := 79) hx hb dX10_open_4 (by decide) (fun c_1 => ?_) (fun c_1 => ?_)
  · exact J79_4 _ _ (if_pos c_1).symm (if_pos c_1).symm s.heap [] hP hD hS ls (lv_sub hl [] rfl)
  · refine lv_aload_n hx hb dX10_open_7 rfl (lv_at hl 0 rfl) ?_
    refine va_get (D := G) (ci := 8) (v := .int (x 0)) (C := RX10) (T := TX10) (N := 2) hx hb hts i_X10 hown hK hP 0 rfl rfl 0 (by decide) (hts (.fieldLink RX10 13 "RelayTuner$Trials" "count" "I") (by decide +kernel)) (fun _ h9 => h9) rfl dX10_open_8 ?_
    refine lv_bipush (v := 8) hx hb dX10_open_11 (by decide) ?_
    refine lv_icmp_ge (tgt := 79) hx hb dX10_open_13 (by decide) (fun c_5 => ?_) (fun c_5 => ?_)
    · exact J79_4 _ _ ((if_neg c_1).trans (if_pos c_5)).symm ((if_neg c_1).trans (if_pos c_5)).symm s.heap [] hP hD hS ls (lv_sub hl [] rfl)
    · refine lv_aload_n hx hb dX10_open_16 rfl (lv_at hl 0 rfl) ?_
      refine va_get (D := G) (ci := 8) (v := .int (x 0)) (C := RX10) (T := TX10) (N := 2) hx hb hts i_X10 hown hK hP 0 rfl rfl 0 (by decide) (hts (.fieldLink RX10 13 "RelayTuner$Trials" "count" "I") (by decide +kernel)) (fun _ h9 => h9) rfl dX10_open_17 ?_
      refine lv_iconst (v := 4) hx hb dX10_open_20 (by decide) ?_
      refine lv_imul hx hb dX10_open_21 ?_
      refine lv_istore_n (lv' := [(2, .int ((x 0) * 4)), (0, .ref h), (1, .ref k)]) hx hb dX10_open_22 rfl hl (by decide) rfl (fun ls hl => ?_)
      refine lv_aload_n hx hb dX10_open_23 rfl (lv_at hl 1 rfl) ?_
      refine va_get (D := G) (ci := 8) (v := .ref t) (C := RX10) (T := TX10) (N := 2) hx hb hts i_X10 hown hK hP 0 rfl rfl 1 (by decide) (hts (.fieldLink RX10 9 "RelayTuner$Trials" "putAside" "[I") (by decide +kernel)) (fun _ h9 => h9) rfl dX10_open_24 ?_
      refine lv_iload_n hx hb dX10_open_27 rfl (lv_at hl 0 rfl) ?_
      refine lv_aload_n hx hb dX10_open_28 rfl (lv_at hl 2 rfl) ?_
      refine va_getN (D := G) (ci := 1) (v := .int (x2 3)) (C := RX1) (T := TX1) (N := 11) hx hb hts i_X1 hown hK hP 2 rfl rfl 3 (by decide) (NN.f hN (a := RX10) (i := 23) (b := "RelayTuner$Control") (n := "p") (d := "I") (by decide +kernel)) (fun _ h9 => h9) rfl dX10_open_29 ?_
      refine as_i (D := G) (n := 32) (f := ft) hx hb hK hP hD hS 1 0 rfl rfl (4 * tn (x 0)) (tr40 (in_tn (vin2 (n := 8) c_1 c_5 rfl (by decide)) (by decide)).1) (by have := (in_tn (vin2 (n := 8) c_1 c_5 rfl (by decide)) (by decide)).2; omega) (by first | decide | omega) dX10_open_32 (fun H locs hP hD hS => ?_)
      have hP : va_P G vwCl [kX10 h t x, aI y t 32 (upd ft (4 * tn (x 0)) (x2 3)), kX1 k x2] H := hP
      have hD : va_D A [kX10 h t x, aI y t 32 (upd ft (4 * tn (x 0)) (x2 3)), kX1 k x2] := hD
      refine lv_aload_n hx hb dX10_open_33 rfl (lv_at hl 1 rfl) ?_
      refine va_get (D := G) (ci := 8) (v := .ref t) (C := RX10) (T := TX10) (N := 2) hx hb hts i_X10 hown hK hP 0 rfl rfl 1 (by decide) (hts (.fieldLink RX10 9 "RelayTuner$Trials" "putAside" "[I") (by decide +kernel)) (fun _ h9 => h9) rfl dX10_open_34 ?_
      refine lv_iload_n hx hb dX10_open_37 rfl (lv_at hl 0 rfl) ?_
      refine lv_iconst (v := 1) hx hb dX10_open_38 (by decide) ?_
      refine lv_iadd hx hb dX10_open_39 ?_
      refine lv_aload_n hx hb dX10_open_40 rfl (lv_at hl 2 rfl) ?_
      refine va_getN (D := G) (ci := 1) (v := .int (x2 4)) (C := RX1) (T := TX1) (N := 11) hx hb hts i_X1 hown hK hP 2 rfl rfl 4 (by decide) (NN.f hN (a := RX10) (i := 28) (b := "RelayTuner$Control") (n := "i") (d := "I") (by decide +kernel)) (fun _ h9 => h9) rfl dX10_open_41 ?_
      refine as_i (D := G) (n := 32) (f := (upd ft (4 * tn (x 0)) (x2 3))) hx hb hK hP hD hS 1 0 rfl rfl (4 * tn (x 0) + 1) (tr4 1 (in_tn (vin2 (n := 8) c_1 c_5 rfl (by decide)) (by decide)).1) (by have := (in_tn (vin2 (n := 8) c_1 c_5 rfl (by decide)) (by decide)).2; omega) (by first | decide | omega) dX10_open_44 (fun H locs hP hD hS => ?_)
      have hP : va_P G vwCl [kX10 h t x, aI y t 32 (upd (upd ft (4 * tn (x 0)) (x2 3)) (4 * tn (x 0) + 1) (x2 4)), kX1 k x2] H := hP
      have hD : va_D A [kX10 h t x, aI y t 32 (upd (upd ft (4 * tn (x 0)) (x2 3)) (4 * tn (x 0) + 1) (x2 4)), kX1 k x2] := hD
      refine lv_aload_n hx hb dX10_open_45 rfl (lv_at hl 1 rfl) ?_
      refine va_get (D := G) (ci := 8) (v := .ref t) (C := RX10) (T := TX10) (N := 2) hx hb hts i_X10 hown hK hP 0 rfl rfl 1 (by decide) (hts (.fieldLink RX10 9 "RelayTuner$Trials" "putAside" "[I") (by decide +kernel)) (fun _ h9 => h9) rfl dX10_open_46 ?_
      refine lv_iload_n hx hb dX10_open_49 rfl (lv_at hl 0 rfl) ?_
      refine lv_iconst (v := 2) hx hb dX10_open_50 (by decide) ?_
      refine lv_iadd hx hb dX10_open_51 ?_
      refine lv_aload_n hx hb dX10_open_52 rfl (lv_at hl 2 rfl) ?_
      refine va_getN (D := G) (ci := 1) (v := .int (x2 5)) (C := RX1) (T := TX1) (N := 11) hx hb hts i_X1 hown hK hP 2 rfl rfl 5 (by decide) (NN.f hN (a := RX10) (i := 31) (b := "RelayTuner$Control") (n := "d") (d := "I") (by decide +kernel)) (fun _ h9 => h9) rfl dX10_open_53 ?_
      refine as_i (D := G) (n := 32) (f := (upd (upd ft (4 * tn (x 0)) (x2 3)) (4 * tn (x 0) + 1) (x2 4))) hx hb hK hP hD hS 1 0 rfl rfl (4 * tn (x 0) + 2) (tr4 2 (in_tn (vin2 (n := 8) c_1 c_5 rfl (by decide)) (by decide)).1) (by have := (in_tn (vin2 (n := 8) c_1 c_5 rfl (by decide)) (by decide)).2; omega) (by first | decide | omega) dX10_open_56 (fun H locs hP hD hS => ?_)
      have hP : va_P G vwCl [kX10 h t x, aI y t 32 (upd (upd (upd ft (4 * tn (x 0)) (x2 3)) (4 * tn (x 0) + 1) (x2 4)) (4 * tn (x 0) + 2) (x2 5)), kX1 k x2] H := hP
      have hD : va_D A [kX10 h t x, aI y t 32 (upd (upd (upd ft (4 * tn (x 0)) (x2 3)) (4 * tn (x 0) + 1) (x2 4)) (4 * tn (x 0) + 2) (x2 5)), kX1 k x2] := hD
      refine lv_aload_n hx hb dX10_open_57 rfl (lv_at hl 1 rfl) ?_
      refine va_get (D := G) (ci := 8) (v := .ref t) (C := RX10) (T := TX10) (N := 2) hx hb hts i_X10 hown hK hP 0 rfl rfl 1 (by decide) (hts (.fieldLink RX10 9 "RelayTuner$Trials" "putAside" "[I") (by decide +kernel)) (fun _ h9 => h9) rfl dX10_open_58 ?_
      refine lv_iload_n hx hb dX10_open_61 rfl (lv_at hl 0 rfl) ?_
      refine lv_iconst (v := 3) hx hb dX10_open_62 (by decide) ?_
      refine lv_iadd hx hb dX10_open_63 ?_
      refine lv_aload_n hx hb dX10_open_64 rfl (lv_at hl 2 rfl) ?_
      refine va_getN (D := G) (ci := 1) (v := .int (x2 6)) (C := RX1) (T := TX1) (N := 11) hx hb hts i_X1 hown hK hP 2 rfl rfl 6 (by decide) (NN.f hN (a := RX10) (i := 34) (b := "RelayTuner$Control") (n := "mode") (d := "I") (by decide +kernel)) (fun _ h9 => h9) rfl dX10_open_65 ?_
      refine as_i (D := G) (n := 32) (f := (upd (upd (upd ft (4 * tn (x 0)) (x2 3)) (4 * tn (x 0) + 1) (x2 4)) (4 * tn (x 0) + 2) (x2 5))) hx hb hK hP hD hS 1 0 rfl rfl (4 * tn (x 0) + 3) (tr4 3 (in_tn (vin2 (n := 8) c_1 c_5 rfl (by decide)) (by decide)).1) (by have := (in_tn (vin2 (n := 8) c_1 c_5 rfl (by decide)) (by decide)).2; omega) (by first | decide | omega) dX10_open_68 (fun H locs hP hD hS => ?_)
      have hP : va_P G vwCl [kX10 h t x, aI y t 32 (upd (upd (upd (upd ft (4 * tn (x 0)) (x2 3)) (4 * tn (x 0) + 1) (x2 4)) (4 * tn (x 0) + 2) (x2 5)) (4 * tn (x 0) + 3) (x2 6)), kX1 k x2] H := hP
      have hD : va_D A [kX10 h t x, aI y t 32 (upd (upd (upd (upd ft (4 * tn (x 0)) (x2 3)) (4 * tn (x 0) + 1) (x2 4)) (4 * tn (x 0) + 2) (x2 5)) (4 * tn (x 0) + 3) (x2 6)), kX1 k x2] := hD
      refine lv_aload_n hx hb dX10_open_69 rfl (lv_at hl 1 rfl) ?_
      refine lv_dup hx hb dX10_open_70 rfl ?_
      refine va_get (D := G) (ci := 8) (v := .int (x 0)) (C := RX10) (T := TX10) (N := 2) hx hb hts i_X10 hown hK hP 0 rfl rfl 0 (by decide) (hts (.fieldLink RX10 13 "RelayTuner$Trials" "count" "I") (by decide +kernel)) (fun _ h9 => h9) rfl dX10_open_71 ?_
      refine lv_iconst (v := 1) hx hb dX10_open_74 (by decide) ?_
      refine lv_iadd hx hb dX10_open_75 ?_
      refine va_put (D := G) (ci := 8) (v := .int ((x 0) + 1)) (ty := .int) (C := RX10) (T := TX10) (N := 2) hx hb hts i_X10 tyX10 tyX10_ok nmX10 hown hK hP hD hS 0 rfl rfl 0 (by decide) (hts (.fieldLink RX10 13 "RelayTuner$Trials" "count" "I") (by decide +kernel)) (fun _ h9 => h9) rfl (by decide +kernel) rfl rfl (Nat.le_of_ble_eq_true rfl) dX10_open_76 (fun H locs hP hD hS => ?_)
      have hP : va_P G vwCl [kX10 h t (upd x 0 ((x 0) + 1)), aI y t 32 (upd (upd (upd (upd ft (4 * tn (x 0)) (x2 3)) (4 * tn (x 0) + 1) (x2 4)) (4 * tn (x 0) + 2) (x2 5)) (4 * tn (x 0) + 3) (x2 6)), kX1 k x2] H := hP
      have hD : va_D A [kX10 h t (upd x 0 ((x 0) + 1)), aI y t 32 (upd (upd (upd (upd ft (4 * tn (x 0)) (x2 3)) (4 * tn (x 0) + 1) (x2 4)) (4 * tn (x 0) + 2) (x2 5)) (4 * tn (x 0) + 3) (x2 6)), kX1 k x2] := hD
      exact J79_4 _ _ ((if_neg c_1).trans (if_neg c_5)).symm ((if_neg c_1).trans (if_neg c_5)).symm H locs hP hD hS ls (lv_sub hl [] rfl)

theorem close_in {x : Int32} (h0 : ¬ x < 1) (h : x ≤ 8) : vp_in (x - 1) 8 := by
  have h1 : ¬ x < 0 := fun h2 => h0 (Int32.lt_trans h2 (by decide))
  have h2 := vin6 (B := 8) h1 h rfl (by decide)
  exact sub1_in h2 (ne0_of_pos (Int32.not_lt.mp h0)) (by decide)

def s_X10_close_r (x : Nat → Int32) (ft : Nat → Int32) (x2 : Nat → Int32) : Int32 := (if (x 0) < 1 then (x2 6) else (if (x 0) ≤ 8 then (ft (4 * tn ((x 0) - 1) + 3)) else (x2 6)))
def s_X10_close_w0 (x : Nat → Int32) : Nat → Int32 := (if (x 0) < 1 then x else (if (x 0) ≤ 8 then (upd x 0 ((x 0) - 1)) else x))
def s_X10_close_w2 (x : Nat → Int32) (ft : Nat → Int32) (x2 : Nat → Int32) : Nat → Int32 := (if (x 0) < 1 then x2 else (if (x 0) ≤ 8 then (upd (upd (upd x2 3 (ft (4 * tn ((x 0) - 1)))) 4 (ft (4 * tn ((x 0) - 1) + 1))) 5 (ft (4 * tn ((x 0) - 1) + 2))) else x2))
abbrev rmX10_close : Room := ({ frames := 0, cells := 0, slots := 0, locals := 0 } : Room)
set_option maxHeartbeats 4000000 in
set_option maxRecDepth 100000 in
theorem c_X10_close (l : Launch) (G : va_G) (y : Nat → ClassId) (h : Nat) (k : Nat) (t : Nat) (x : Nat → Int32) (ft : Nat → Int32) (x2 : Nat → Int32) (sz : Nat) : Met l yX10_close wsX10_close rmX10_close (PH G y [.ref h, .ref k] [kX10 h t x, aI y t 32 ft, kX1 k x2] sz) (QHi G (s_X10_close_r x ft x2) (fun _ : Unit => [kX10 h t (s_X10_close_w0 x), aI y t 32 ft, kX1 k (s_X10_close_w2 x ft x2)]) (va_A [kX10 h t x, aI y t 32 ft, kX1 k x2] sz)) 0 0 (va_A [kX10 h t x, aI y t 32 ft, kX1 k x2] sz) := by
  refine Met.ofW (cc := cX10_close) (maxL := 3) (ret := (some .int)) (by decide) rfl ?_
  intro p e s m args below meth c s₁ B hml hv
  obtain ⟨rfl, hsz, hP, ⟨hK, hN⟩, hD0⟩ := hv
  have hx := B.exec
  have hb := B.bytes
  have hr := B.returns
  have hts := atoms_spec (ws := wsX10_close) B.pre
  have hown : s.vm.findClass RX10 = some m.cls := findClass_of_methodNamed B.named
  have hlocks := B.notSynchronized
  have i_X1 : ∀ w ∈ u_ws RX1 TX1 11, w ∈ wsX10_close := by decide +kernel
  have i_X10 : ∀ w ∈ u_ws RX10 TX10 2, w ∈ wsX10_close := by decide +kernel
  subst hsz
  have hD := hD0.self (sz := s.heap.size)
  generalize hAe : va_A [kX10 h t x, aI y t 32 ft, kX1 k x2] s.heap.size = A at hD ⊢
  have hA : ∀ q : Nat, s.heap.size ≤ q → A q := fun q h => by rw [← hAe]; exact Or.inr h
  have hS : va_S A s.heap s.heap [] := va_S.rf
  have hP : va_P G vwCl [kX10 h t x, aI y t 32 ft, kX1 k x2] s.heap := hP
  have hl := lv_entry ([.ref h, .ref k]) (n := 3) (Nat.le_of_ble_eq_true rfl)
  rw [lg_entry_eq]
  generalize (lg_sl ([.ref h, .ref k]) ++ List.replicate (3 - (lg_sl ([.ref h, .ref k])).length) Slot.unset).toArray = ls at hl ⊢
  have hl : lv_has ls 3 [(0, .ref h), (1, .ref k)] := hl
  refine lv_aload_n hx hb dX10_close_0 rfl (lv_at hl 0 rfl) ?_
  refine va_get (D := G) (ci := 8) (v := .int (x 0)) (C := RX10) (T := TX10) (N := 2) hx hb hts i_X10 hown hK hP 0 rfl rfl 0 (by decide) (hts (.fieldLink RX10 13 "RelayTuner$Trials" "count" "I") (by decide +kernel)) (fun _ h9 => h9) rfl dX10_close_1 ?_
  refine lv_iconst (v := 1) hx hb dX10_close_4 (by decide) ?_
  refine lv_icmp_lt (tgt := 17) hx hb dX10_close_5 (by decide) (fun c_1 => ?_) (fun c_1 => ?_)
  · refine lv_aload_n hx hb dX10_close_17 rfl (lv_at hl 1 rfl) ?_
    refine va_getN (D := G) (ci := 1) (v := .int (x2 6)) (C := RX1) (T := TX1) (N := 11) hx hb hts i_X1 hown hK hP 2 rfl rfl 6 (by decide) (NN.f hN (a := RX10) (i := 34) (b := "RelayTuner$Control") (n := "mode") (d := "I") (by decide +kernel)) (fun _ h9 => h9) rfl dX10_close_18 ?_
    exact W.iret hx hb hr (end_Hi () hP hD hS (by unfold s_X10_close_r; exact (if_pos c_1).symm) (congr (congrArg (fun (z0 : Nat → Int32) (z2 : Nat → Int32) => [kX10 h t z0, aI y t 32 ft, kX1 k z2]) (by unfold s_X10_close_w0; exact (if_pos c_1).symm)) (by unfold s_X10_close_w2; exact (if_pos c_1).symm))) hS.2.2 dX10_close_21
  · refine lv_aload_n hx hb dX10_close_8 rfl (lv_at hl 0 rfl) ?_
    refine va_get (D := G) (ci := 8) (v := .int (x 0)) (C := RX10) (T := TX10) (N := 2) hx hb hts i_X10 hown hK hP 0 rfl rfl 0 (by decide) (hts (.fieldLink RX10 13 "RelayTuner$Trials" "count" "I") (by decide +kernel)) (fun _ h9 => h9) rfl dX10_close_9 ?_
    refine lv_bipush (v := 8) hx hb dX10_close_12 (by decide) ?_
    refine lv_icmp_le (tgt := 22) hx hb dX10_close_14 (by decide) (fun c_2 => ?_) (fun c_2 => ?_)
    · refine lv_aload_n hx hb dX10_close_22 rfl (lv_at hl 0 rfl) ?_
      refine lv_dup hx hb dX10_close_23 rfl ?_
      refine va_get (D := G) (ci := 8) (v := .int (x 0)) (C := RX10) (T := TX10) (N := 2) hx hb hts i_X10 hown hK hP 0 rfl rfl 0 (by decide) (hts (.fieldLink RX10 13 "RelayTuner$Trials" "count" "I") (by decide +kernel)) (fun _ h9 => h9) rfl dX10_close_24 ?_
      refine lv_iconst (v := 1) hx hb dX10_close_27 (by decide) ?_
      refine lv_isub hx hb dX10_close_28 ?_
      refine va_put (D := G) (ci := 8) (v := .int ((x 0) - 1)) (ty := .int) (C := RX10) (T := TX10) (N := 2) hx hb hts i_X10 tyX10 tyX10_ok nmX10 hown hK hP hD hS 0 rfl rfl 0 (by decide) (hts (.fieldLink RX10 13 "RelayTuner$Trials" "count" "I") (by decide +kernel)) (fun _ h9 => h9) rfl (by decide +kernel) rfl rfl (Nat.le_of_ble_eq_true rfl) dX10_close_29 (fun H locs hP hD hS => ?_)
      have hP : va_P G vwCl [kX10 h t (upd x 0 ((x 0) - 1)), aI y t 32 ft, kX1 k x2] H := hP
      have hD : va_D A [kX10 h t (upd x 0 ((x 0) - 1)), aI y t 32 ft, kX1 k x2] := hD
      refine lv_aload_n hx hb dX10_close_32 rfl (lv_at hl 0 rfl) ?_
      refine va_get (D := G) (ci := 8) (v := .int ((x 0) - 1)) (C := RX10) (T := TX10) (N := 2) hx hb hts i_X10 hown hK hP 0 rfl rfl 0 (by decide) (hts (.fieldLink RX10 13 "RelayTuner$Trials" "count" "I") (by decide +kernel)) (fun _ h9 => h9) rfl dX10_close_33 ?_
      refine lv_iconst (v := 4) hx hb dX10_close_36 (by decide) ?_
      refine lv_imul hx hb dX10_close_37 ?_
      refine lv_istore_n (lv' := [(2, .int (((x 0) - 1) * 4)), (0, .ref h), (1, .ref k)]) hx hb dX10_close_38 rfl hl (by decide) rfl (fun ls hl => ?_)
      refine lv_aload_n hx hb dX10_close_39 rfl (lv_at hl 2 rfl) ?_
      refine lv_aload_n hx hb dX10_close_40 rfl (lv_at hl 1 rfl) ?_
      refine va_get (D := G) (ci := 8) (v := .ref t) (C := RX10) (T := TX10) (N := 2) hx hb hts i_X10 hown hK hP 0 rfl rfl 1 (by decide) (hts (.fieldLink RX10 9 "RelayTuner$Trials" "putAside" "[I") (by decide +kernel)) (fun _ h9 => h9) rfl dX10_close_41 ?_
      refine lv_iload_n hx hb dX10_close_44 rfl (lv_at hl 0 rfl) ?_
      refine al_i (D := G) (n := 32) (f := ft) hx hb hK hP 1 0 rfl rfl (4 * tn ((x 0) - 1)) (tr40 (in_tn (close_in c_1 c_2) (by decide)).1) (by have := (in_tn (close_in c_1 c_2) (by decide)).2; omega) (by first | decide | omega) dX10_close_45 ?_
      refine va_putN (D := G) (ci := 1) (v := .int (ft (4 * tn ((x 0) - 1)))) (ty := .int) (C := RX1) (T := TX1) (N := 11) hx hb hts i_X1 tyX1 tyX1_ok nmX1 hown hK hP hD hS 2 rfl rfl 3 (by decide) (NN.f hN (a := RX10) (i := 23) (b := "RelayTuner$Control") (n := "p") (d := "I") (by decide +kernel)) (fun _ h9 => h9) rfl (by decide +kernel) rfl rfl (Nat.le_of_ble_eq_true rfl) dX10_close_46 (fun H locs hP hD hS => ?_)
      have hP : va_P G vwCl [kX10 h t (upd x 0 ((x 0) - 1)), aI y t 32 ft, kX1 k (upd x2 3 (ft (4 * tn ((x 0) - 1))))] H := hP
      have hD : va_D A [kX10 h t (upd x 0 ((x 0) - 1)), aI y t 32 ft, kX1 k (upd x2 3 (ft (4 * tn ((x 0) - 1))))] := hD
      refine lv_aload_n hx hb dX10_close_49 rfl (lv_at hl 2 rfl) ?_
      refine lv_aload_n hx hb dX10_close_50 rfl (lv_at hl 1 rfl) ?_
      refine va_get (D := G) (ci := 8) (v := .ref t) (C := RX10) (T := TX10) (N := 2) hx hb hts i_X10 hown hK hP 0 rfl rfl 1 (by decide) (hts (.fieldLink RX10 9 "RelayTuner$Trials" "putAside" "[I") (by decide +kernel)) (fun _ h9 => h9) rfl dX10_close_51 ?_
      refine lv_iload_n hx hb dX10_close_54 rfl (lv_at hl 0 rfl) ?_
      refine lv_iconst (v := 1) hx hb dX10_close_55 (by decide) ?_
      refine lv_iadd hx hb dX10_close_56 ?_
      refine al_i (D := G) (n := 32) (f := ft) hx hb hK hP 1 0 rfl rfl (4 * tn ((x 0) - 1) + 1) (tr4 1 (in_tn (close_in c_1 c_2) (by decide)).1) (by have := (in_tn (close_in c_1 c_2) (by decide)).2; omega) (by first | decide | omega) dX10_close_57 ?_
      refine va_putN (D := G) (ci := 1) (v := .int (ft (4 * tn ((x 0) - 1) + 1))) (ty := .int) (C := RX1) (T := TX1) (N := 11) hx hb hts i_X1 tyX1 tyX1_ok nmX1 hown hK hP hD hS 2 rfl rfl 4 (by decide) (NN.f hN (a := RX10) (i := 28) (b := "RelayTuner$Control") (n := "i") (d := "I") (by decide +kernel)) (fun _ h9 => h9) rfl (by decide +kernel) rfl rfl (Nat.le_of_ble_eq_true rfl) dX10_close_58 (fun H locs hP hD hS => ?_)
      have hP : va_P G vwCl [kX10 h t (upd x 0 ((x 0) - 1)), aI y t 32 ft, kX1 k (upd (upd x2 3 (ft (4 * tn ((x 0) - 1)))) 4 (ft (4 * tn ((x 0) - 1) + 1)))] H := hP
      have hD : va_D A [kX10 h t (upd x 0 ((x 0) - 1)), aI y t 32 ft, kX1 k (upd (upd x2 3 (ft (4 * tn ((x 0) - 1)))) 4 (ft (4 * tn ((x 0) - 1) + 1)))] := hD
      refine lv_aload_n hx hb dX10_close_61 rfl (lv_at hl 2 rfl) ?_
      refine lv_aload_n hx hb dX10_close_62 rfl (lv_at hl 1 rfl) ?_
      refine va_get (D := G) (ci := 8) (v := .ref t) (C := RX10) (T := TX10) (N := 2) hx hb hts i_X10 hown hK hP 0 rfl rfl 1 (by decide) (hts (.fieldLink RX10 9 "RelayTuner$Trials" "putAside" "[I") (by decide +kernel)) (fun _ h9 => h9) rfl dX10_close_63 ?_
      refine lv_iload_n hx hb dX10_close_66 rfl (lv_at hl 0 rfl) ?_
      refine lv_iconst (v := 2) hx hb dX10_close_67 (by decide) ?_
      refine lv_iadd hx hb dX10_close_68 ?_
      refine al_i (D := G) (n := 32) (f := ft) hx hb hK hP 1 0 rfl rfl (4 * tn ((x 0) - 1) + 2) (tr4 2 (in_tn (close_in c_1 c_2) (by decide)).1) (by have := (in_tn (close_in c_1 c_2) (by decide)).2; omega) (by first | decide | omega) dX10_close_69 ?_
      refine va_putN (D := G) (ci := 1) (v := .int (ft (4 * tn ((x 0) - 1) + 2))) (ty := .int) (C := RX1) (T := TX1) (N := 11) hx hb hts i_X1 tyX1 tyX1_ok nmX1 hown hK hP hD hS 2 rfl rfl 5 (by decide) (NN.f hN (a := RX10) (i := 31) (b := "RelayTuner$Control") (n := "d") (d := "I") (by decide +kernel)) (fun _ h9 => h9) rfl (by decide +kernel) rfl rfl (Nat.le_of_ble_eq_true rfl) dX10_close_70 (fun H locs hP hD hS => ?_)
      have hP : va_P G vwCl [kX10 h t (upd x 0 ((x 0) - 1)), aI y t 32 ft, kX1 k (upd (upd (upd x2 3 (ft (4 * tn ((x 0) - 1)))) 4 (ft (4 * tn ((x 0) - 1) + 1))) 5 (ft (4 * tn ((x 0) - 1) + 2)))] H := hP
      have hD : va_D A [kX10 h t (upd x 0 ((x 0) - 1)), aI y t 32 ft, kX1 k (upd (upd (upd x2 3 (ft (4 * tn ((x 0) - 1)))) 4 (ft (4 * tn ((x 0) - 1) + 1))) 5 (ft (4 * tn ((x 0) - 1) + 2)))] := hD
      refine lv_aload_n hx hb dX10_close_73 rfl (lv_at hl 1 rfl) ?_
      refine va_get (D := G) (ci := 8) (v := .ref t) (C := RX10) (T := TX10) (N := 2) hx hb hts i_X10 hown hK hP 0 rfl rfl 1 (by decide) (hts (.fieldLink RX10 9 "RelayTuner$Trials" "putAside" "[I") (by decide +kernel)) (fun _ h9 => h9) rfl dX10_close_74 ?_
      refine lv_iload_n hx hb dX10_close_77 rfl (lv_at hl 0 rfl) ?_
      refine lv_iconst (v := 3) hx hb dX10_close_78 (by decide) ?_
      refine lv_iadd hx hb dX10_close_79 ?_
      refine al_i (D := G) (n := 32) (f := ft) hx hb hK hP 1 0 rfl rfl (4 * tn ((x 0) - 1) + 3) (tr4 3 (in_tn (close_in c_1 c_2) (by decide)).1) (by have := (in_tn (close_in c_1 c_2) (by decide)).2; omega) (by first | decide | omega) dX10_close_80 ?_
      exact W.iret hx hb hr (end_Hi () hP hD hS (by unfold s_X10_close_r; exact ((if_neg c_1).trans (if_pos c_2)).symm) (congr (congrArg (fun (z0 : Nat → Int32) (z2 : Nat → Int32) => [kX10 h t z0, aI y t 32 ft, kX1 k z2]) (by unfold s_X10_close_w0; exact ((if_neg c_1).trans (if_pos c_2)).symm)) (by unfold s_X10_close_w2; exact ((if_neg c_1).trans (if_pos c_2)).symm))) hS.2.2 dX10_close_81
    · refine lv_aload_n hx hb dX10_close_17 rfl (lv_at hl 1 rfl) ?_
      refine va_getN (D := G) (ci := 1) (v := .int (x2 6)) (C := RX1) (T := TX1) (N := 11) hx hb hts i_X1 hown hK hP 2 rfl rfl 6 (by decide) (NN.f hN (a := RX10) (i := 34) (b := "RelayTuner$Control") (n := "mode") (d := "I") (by decide +kernel)) (fun _ h9 => h9) rfl dX10_close_18 ?_
      exact W.iret hx hb hr (end_Hi () hP hD hS (by unfold s_X10_close_r; exact ((if_neg c_1).trans (if_neg c_2)).symm) (congr (congrArg (fun (z0 : Nat → Int32) (z2 : Nat → Int32) => [kX10 h t z0, aI y t 32 ft, kX1 k z2]) (by unfold s_X10_close_w0; exact ((if_neg c_1).trans (if_neg c_2)).symm)) (by unfold s_X10_close_w2; exact ((if_neg c_1).trans (if_neg c_2)).symm))) hS.2.2 dX10_close_21

abbrev rmX8_become : Room := ({ frames := 1, cells := 0, slots := 0, locals := 60 } : Room)
set_option maxHeartbeats 4000000 in
set_option maxRecDepth 100000 in
theorem c_X8_become (l : Launch) (G : va_G) (y : Nat → ClassId) (h : Nat) (k : Nat) (p1 : Nat) (p2 : Nat) (p3 : Nat) (p4 : Nat) (p5 : Nat) (x : Nat → Int32) (fp : Nat → Int32) (fh : Nat → Int32) (fl : Nat → Int32) (fe : Nat → Int32) (o : Nat → Int32) (r1 : Nat) (r2 : Nat) (r3 : Nat) (r4 : Nat) (r5 : Nat) (x2 : Nat → Int32) (gp : Nat → Int32) (gh : Nat → Int32) (gl : Nat → Int32) (ge : Nat → Int32) (go : Nat → Int32) (sz : Nat) (hz6 : x2 6 = 0 ∨ x2 6 = 1) : Met l yX8_become wsX8_become rmX8_become (PH G y [.ref h, .ref k] [kX8 h p1 p2 p3 p4 p5 x, aI y p1 20 fp, aI y p2 20 fh, aI y p3 20 fl, aI y p4 20 fe, aI y p5 20 o, kX8 k r1 r2 r3 r4 r5 x2, aI y r1 20 gp, aI y r2 20 gh, aI y r3 20 gl, aI y r4 20 ge, aI y r5 20 go] sz) (QHv G (fun _ : Unit => [kX8 h p1 p2 p3 p4 p5 x2, aI y p1 20 gp, aI y p2 20 gh, aI y p3 20 gl, aI y p4 20 ge, aI y p5 20 o, kX8 k r1 r2 r3 r4 r5 x2, aI y r1 20 gp, aI y r2 20 gh, aI y r3 20 gl, aI y r4 20 ge, aI y r5 20 go]) (va_A [kX8 h p1 p2 p3 p4 p5 x, aI y p1 20 fp, aI y p2 20 fh, aI y p3 20 fl, aI y p4 20 fe, aI y p5 20 o, kX8 k r1 r2 r3 r4 r5 x2, aI y r1 20 gp, aI y r2 20 gh, aI y r3 20 gl, aI y r4 20 ge, aI y r5 20 go] sz)) 0 0 (va_A [kX8 h p1 p2 p3 p4 p5 x, aI y p1 20 fp, aI y p2 20 fh, aI y p3 20 fl, aI y p4 20 fe, aI y p5 20 o, kX8 k r1 r2 r3 r4 r5 x2, aI y r1 20 gp, aI y r2 20 gh, aI y r3 20 gl, aI y r4 20 ge, aI y r5 20 go] sz) := by
  refine Met.ofW (cc := cX8_become) (maxL := 2) (ret := none) (by decide) rfl ?_
  intro p e s m args below meth c s₁ B hml hv
  obtain ⟨rfl, hsz, hP, ⟨hK, hN⟩, hD0⟩ := hv
  have hx := B.exec
  have hb := B.bytes
  have hr := B.returns
  have hts := atoms_spec (ws := wsX8_become) B.pre
  have hown : s.vm.findClass RX8 = some m.cls := findClass_of_methodNamed B.named
  have hlocks := B.notSynchronized
  have i_X8 : ∀ w ∈ u_ws RX8 TX8 10, w ∈ wsX8_become := by decide +kernel
  subst hsz
  have hD := hD0.self (sz := s.heap.size)
  generalize hAe : va_A [kX8 h p1 p2 p3 p4 p5 x, aI y p1 20 fp, aI y p2 20 fh, aI y p3 20 fl, aI y p4 20 fe, aI y p5 20 o, kX8 k r1 r2 r3 r4 r5 x2, aI y r1 20 gp, aI y r2 20 gh, aI y r3 20 gl, aI y r4 20 ge, aI y r5 20 go] s.heap.size = A at hD ⊢
  have hA : ∀ q : Nat, s.heap.size ≤ q → A q := fun q h => by rw [← hAe]; exact Or.inr h
  have hS : va_S A s.heap s.heap [] := va_S.rf
  have hP : va_P G vwCl [kX8 h p1 p2 p3 p4 p5 x, aI y p1 20 fp, aI y p2 20 fh, aI y p3 20 fl, aI y p4 20 fe, aI y p5 20 o, kX8 k r1 r2 r3 r4 r5 x2, aI y r1 20 gp, aI y r2 20 gh, aI y r3 20 gl, aI y r4 20 ge, aI y r5 20 go] s.heap := hP
  have hl := lv_entry ([.ref h, .ref k]) (n := 2) (Nat.le_of_ble_eq_true rfl)
  rw [lg_entry_eq]
  generalize (lg_sl ([.ref h, .ref k]) ++ List.replicate (2 - (lg_sl ([.ref h, .ref k])).length) Slot.unset).toArray = ls at hl ⊢
  have hl : lv_has ls 2 [(0, .ref h), (1, .ref k)] := hl
  refine lv_aload_n hx hb dX8_become_0 rfl (lv_at hl 0 rfl) ?_
  refine lv_aload_n hx hb dX8_become_1 rfl (lv_at hl 1 rfl) ?_
  refine va_get (D := G) (ci := 6) (v := .int (x2 0)) (C := RX8) (T := TX8) (N := 10) hx hb hts i_X8 hown hK hP 6 rfl rfl 0 (by decide) (hts (.fieldLink RX8 27 "RelayTuner$Swings" "count" "I") (by decide +kernel)) (fun _ h9 => h9) rfl dX8_become_2 ?_
  refine va_put (D := G) (ci := 6) (v := .int (x2 0)) (ty := .int) (C := RX8) (T := TX8) (N := 10) hx hb hts i_X8 tyX8 tyX8_ok nmX8 hown hK hP hD hS 0 rfl rfl 0 (by decide) (hts (.fieldLink RX8 27 "RelayTuner$Swings" "count" "I") (by decide +kernel)) (fun _ h9 => h9) rfl (by decide +kernel) rfl rfl (Nat.le_of_ble_eq_true rfl) dX8_become_5 (fun H locs hP hD hS => ?_)
  have hP : va_P G vwCl [kX8 h p1 p2 p3 p4 p5 (upd x 0 (x2 0)), aI y p1 20 fp, aI y p2 20 fh, aI y p3 20 fl, aI y p4 20 fe, aI y p5 20 o, kX8 k r1 r2 r3 r4 r5 x2, aI y r1 20 gp, aI y r2 20 gh, aI y r3 20 gl, aI y r4 20 ge, aI y r5 20 go] H := hP
  have hD : va_D A [kX8 h p1 p2 p3 p4 p5 (upd x 0 (x2 0)), aI y p1 20 fp, aI y p2 20 fh, aI y p3 20 fl, aI y p4 20 fe, aI y p5 20 o, kX8 k r1 r2 r3 r4 r5 x2, aI y r1 20 gp, aI y r2 20 gh, aI y r3 20 gl, aI y r4 20 ge, aI y r5 20 go] := hD
  refine lv_aload_n hx hb dX8_become_8 rfl (lv_at hl 1 rfl) ?_
  refine va_get (D := G) (ci := 6) (v := .ref r1) (C := RX8) (T := TX8) (N := 10) hx hb hts i_X8 hown hK hP 6 rfl rfl 1 (by decide) (hts (.fieldLink RX8 11 "RelayTuner$Swings" "periods" "[I") (by decide +kernel)) (fun _ h9 => h9) rfl dX8_become_9 ?_
  refine lv_iconst (v := 0) hx hb dX8_become_12 (by decide) ?_
  refine lv_aload_n hx hb dX8_become_13 rfl (lv_at hl 0 rfl) ?_
  refine va_get (D := G) (ci := 6) (v := .ref p1) (C := RX8) (T := TX8) (N := 10) hx hb hts i_X8 hown hK hP 0 rfl rfl 1 (by decide) (hts (.fieldLink RX8 11 "RelayTuner$Swings" "periods" "[I") (by decide +kernel)) (fun _ h9 => h9) rfl dX8_become_14 ?_
  refine lv_iconst (v := 0) hx hb dX8_become_17 (by decide) ?_
  refine lv_bipush (v := 20) hx hb dX8_become_18 (by decide) ?_
  refine va_copyi (D := G) (f := gp) (g := fp) (ty := .int) hx hb (hml.trans hl.1.symm) hown (hts (.methodLink RX8 31 arraycopyName) (by decide +kernel)) (hts (.native arraycopyName) (by decide +kernel)) (hts (.static arraycopyName) (by decide +kernel)) (hts (.initialized "java/lang/System") (by decide +kernel)) hK hP hD hS 7 1 0 0 rfl rfl rfl rfl rfl (by decide) (by decide) (by decide) (by decide) (by decide) (fun _ _ => rfl) (Nat.le_of_ble_eq_true rfl) (Nat.le_of_ble_eq_true rfl) dX8_become_20 (fun H locs hP hD hS => ?_)
  have hP : va_P G vwCl [kX8 h p1 p2 p3 p4 p5 (upd x 0 (x2 0)), aI y p1 20 (va_cpy gp fp 0 0 20), aI y p2 20 fh, aI y p3 20 fl, aI y p4 20 fe, aI y p5 20 o, kX8 k r1 r2 r3 r4 r5 x2, aI y r1 20 gp, aI y r2 20 gh, aI y r3 20 gl, aI y r4 20 ge, aI y r5 20 go] H := hP
  have hD : va_D A [kX8 h p1 p2 p3 p4 p5 (upd x 0 (x2 0)), aI y p1 20 (va_cpy gp fp 0 0 20), aI y p2 20 fh, aI y p3 20 fl, aI y p4 20 fe, aI y p5 20 o, kX8 k r1 r2 r3 r4 r5 x2, aI y r1 20 gp, aI y r2 20 gh, aI y r3 20 gl, aI y r4 20 ge, aI y r5 20 go] := hD
  have hD := va_D.set (p := 1) (e := (aI y p1 20 gp).2) hD rfl
  have hP := alike1 (i := 1) (g := gp) hP rfl (fun j hj => cpy_all hj)
  have hP : va_P G vwCl [kX8 h p1 p2 p3 p4 p5 (upd x 0 (x2 0)), aI y p1 20 gp, aI y p2 20 fh, aI y p3 20 fl, aI y p4 20 fe, aI y p5 20 o, kX8 k r1 r2 r3 r4 r5 x2, aI y r1 20 gp, aI y r2 20 gh, aI y r3 20 gl, aI y r4 20 ge, aI y r5 20 go] H := hP
  have hD : va_D A [kX8 h p1 p2 p3 p4 p5 (upd x 0 (x2 0)), aI y p1 20 gp, aI y p2 20 fh, aI y p3 20 fl, aI y p4 20 fe, aI y p5 20 o, kX8 k r1 r2 r3 r4 r5 x2, aI y r1 20 gp, aI y r2 20 gh, aI y r3 20 gl, aI y r4 20 ge, aI y r5 20 go] := hD
  refine lv_aload_n hx hb dX8_become_23 rfl (lv_at hl 1 rfl) ?_
  refine va_get (D := G) (ci := 6) (v := .ref r2) (C := RX8) (T := TX8) (N := 10) hx hb hts i_X8 hown hK hP 6 rfl rfl 2 (by decide) (hts (.fieldLink RX8 15 "RelayTuner$Swings" "highs" "[I") (by decide +kernel)) (fun _ h9 => h9) rfl dX8_become_24 ?_
  refine lv_iconst (v := 0) hx hb dX8_become_27 (by decide) ?_
  refine lv_aload_n hx hb dX8_become_28 rfl (lv_at hl 0 rfl) ?_
  refine va_get (D := G) (ci := 6) (v := .ref p2) (C := RX8) (T := TX8) (N := 10) hx hb hts i_X8 hown hK hP 0 rfl rfl 2 (by decide) (hts (.fieldLink RX8 15 "RelayTuner$Swings" "highs" "[I") (by decide +kernel)) (fun _ h9 => h9) rfl dX8_become_29 ?_
  refine lv_iconst (v := 0) hx hb dX8_become_32 (by decide) ?_
  refine lv_bipush (v := 20) hx hb dX8_become_33 (by decide) ?_
  refine va_copyi (D := G) (f := gh) (g := fh) (ty := .int) hx hb (hml.trans hl.1.symm) hown (hts (.methodLink RX8 31 arraycopyName) (by decide +kernel)) (hts (.native arraycopyName) (by decide +kernel)) (hts (.static arraycopyName) (by decide +kernel)) (hts (.initialized "java/lang/System") (by decide +kernel)) hK hP hD hS 8 2 0 0 rfl rfl rfl rfl rfl (by decide) (by decide) (by decide) (by decide) (by decide) (fun _ _ => rfl) (Nat.le_of_ble_eq_true rfl) (Nat.le_of_ble_eq_true rfl) dX8_become_35 (fun H locs hP hD hS => ?_)
  have hP : va_P G vwCl [kX8 h p1 p2 p3 p4 p5 (upd x 0 (x2 0)), aI y p1 20 gp, aI y p2 20 (va_cpy gh fh 0 0 20), aI y p3 20 fl, aI y p4 20 fe, aI y p5 20 o, kX8 k r1 r2 r3 r4 r5 x2, aI y r1 20 gp, aI y r2 20 gh, aI y r3 20 gl, aI y r4 20 ge, aI y r5 20 go] H := hP
  have hD : va_D A [kX8 h p1 p2 p3 p4 p5 (upd x 0 (x2 0)), aI y p1 20 gp, aI y p2 20 (va_cpy gh fh 0 0 20), aI y p3 20 fl, aI y p4 20 fe, aI y p5 20 o, kX8 k r1 r2 r3 r4 r5 x2, aI y r1 20 gp, aI y r2 20 gh, aI y r3 20 gl, aI y r4 20 ge, aI y r5 20 go] := hD
  have hD := va_D.set (p := 2) (e := (aI y p2 20 gh).2) hD rfl
  have hP := alike1 (i := 2) (g := gh) hP rfl (fun j hj => cpy_all hj)
  have hP : va_P G vwCl [kX8 h p1 p2 p3 p4 p5 (upd x 0 (x2 0)), aI y p1 20 gp, aI y p2 20 gh, aI y p3 20 fl, aI y p4 20 fe, aI y p5 20 o, kX8 k r1 r2 r3 r4 r5 x2, aI y r1 20 gp, aI y r2 20 gh, aI y r3 20 gl, aI y r4 20 ge, aI y r5 20 go] H := hP
  have hD : va_D A [kX8 h p1 p2 p3 p4 p5 (upd x 0 (x2 0)), aI y p1 20 gp, aI y p2 20 gh, aI y p3 20 fl, aI y p4 20 fe, aI y p5 20 o, kX8 k r1 r2 r3 r4 r5 x2, aI y r1 20 gp, aI y r2 20 gh, aI y r3 20 gl, aI y r4 20 ge, aI y r5 20 go] := hD
  refine lv_aload_n hx hb dX8_become_38 rfl (lv_at hl 1 rfl) ?_
  refine va_get (D := G) (ci := 6) (v := .ref r3) (C := RX8) (T := TX8) (N := 10) hx hb hts i_X8 hown hK hP 6 rfl rfl 3 (by decide) (hts (.fieldLink RX8 18 "RelayTuner$Swings" "lows" "[I") (by decide +kernel)) (fun _ h9 => h9) rfl dX8_become_39 ?_
  refine lv_iconst (v := 0) hx hb dX8_become_42 (by decide) ?_
  refine lv_aload_n hx hb dX8_become_43 rfl (lv_at hl 0 rfl) ?_
  refine va_get (D := G) (ci := 6) (v := .ref p3) (C := RX8) (T := TX8) (N := 10) hx hb hts i_X8 hown hK hP 0 rfl rfl 3 (by decide) (hts (.fieldLink RX8 18 "RelayTuner$Swings" "lows" "[I") (by decide +kernel)) (fun _ h9 => h9) rfl dX8_become_44 ?_
  refine lv_iconst (v := 0) hx hb dX8_become_47 (by decide) ?_
  refine lv_bipush (v := 20) hx hb dX8_become_48 (by decide) ?_
  refine va_copyi (D := G) (f := gl) (g := fl) (ty := .int) hx hb (hml.trans hl.1.symm) hown (hts (.methodLink RX8 31 arraycopyName) (by decide +kernel)) (hts (.native arraycopyName) (by decide +kernel)) (hts (.static arraycopyName) (by decide +kernel)) (hts (.initialized "java/lang/System") (by decide +kernel)) hK hP hD hS 9 3 0 0 rfl rfl rfl rfl rfl (by decide) (by decide) (by decide) (by decide) (by decide) (fun _ _ => rfl) (Nat.le_of_ble_eq_true rfl) (Nat.le_of_ble_eq_true rfl) dX8_become_50 (fun H locs hP hD hS => ?_)
  have hP : va_P G vwCl [kX8 h p1 p2 p3 p4 p5 (upd x 0 (x2 0)), aI y p1 20 gp, aI y p2 20 gh, aI y p3 20 (va_cpy gl fl 0 0 20), aI y p4 20 fe, aI y p5 20 o, kX8 k r1 r2 r3 r4 r5 x2, aI y r1 20 gp, aI y r2 20 gh, aI y r3 20 gl, aI y r4 20 ge, aI y r5 20 go] H := hP
  have hD : va_D A [kX8 h p1 p2 p3 p4 p5 (upd x 0 (x2 0)), aI y p1 20 gp, aI y p2 20 gh, aI y p3 20 (va_cpy gl fl 0 0 20), aI y p4 20 fe, aI y p5 20 o, kX8 k r1 r2 r3 r4 r5 x2, aI y r1 20 gp, aI y r2 20 gh, aI y r3 20 gl, aI y r4 20 ge, aI y r5 20 go] := hD
  have hD := va_D.set (p := 3) (e := (aI y p3 20 gl).2) hD rfl
  have hP := alike1 (i := 3) (g := gl) hP rfl (fun j hj => cpy_all hj)
  have hP : va_P G vwCl [kX8 h p1 p2 p3 p4 p5 (upd x 0 (x2 0)), aI y p1 20 gp, aI y p2 20 gh, aI y p3 20 gl, aI y p4 20 fe, aI y p5 20 o, kX8 k r1 r2 r3 r4 r5 x2, aI y r1 20 gp, aI y r2 20 gh, aI y r3 20 gl, aI y r4 20 ge, aI y r5 20 go] H := hP
  have hD : va_D A [kX8 h p1 p2 p3 p4 p5 (upd x 0 (x2 0)), aI y p1 20 gp, aI y p2 20 gh, aI y p3 20 gl, aI y p4 20 fe, aI y p5 20 o, kX8 k r1 r2 r3 r4 r5 x2, aI y r1 20 gp, aI y r2 20 gh, aI y r3 20 gl, aI y r4 20 ge, aI y r5 20 go] := hD
  refine lv_aload_n hx hb dX8_become_53 rfl (lv_at hl 1 rfl) ?_
  refine va_get (D := G) (ci := 6) (v := .ref r4) (C := RX8) (T := TX8) (N := 10) hx hb hts i_X8 hown hK hP 6 rfl rfl 4 (by decide) (hts (.fieldLink RX8 21 "RelayTuner$Swings" "ends" "[I") (by decide +kernel)) (fun _ h9 => h9) rfl dX8_become_54 ?_
  refine lv_iconst (v := 0) hx hb dX8_become_57 (by decide) ?_
  refine lv_aload_n hx hb dX8_become_58 rfl (lv_at hl 0 rfl) ?_
  refine va_get (D := G) (ci := 6) (v := .ref p4) (C := RX8) (T := TX8) (N := 10) hx hb hts i_X8 hown hK hP 0 rfl rfl 4 (by decide) (hts (.fieldLink RX8 21 "RelayTuner$Swings" "ends" "[I") (by decide +kernel)) (fun _ h9 => h9) rfl dX8_become_59 ?_
  refine lv_iconst (v := 0) hx hb dX8_become_62 (by decide) ?_
  refine lv_bipush (v := 20) hx hb dX8_become_63 (by decide) ?_
  refine va_copyi (D := G) (f := ge) (g := fe) (ty := .int) hx hb (hml.trans hl.1.symm) hown (hts (.methodLink RX8 31 arraycopyName) (by decide +kernel)) (hts (.native arraycopyName) (by decide +kernel)) (hts (.static arraycopyName) (by decide +kernel)) (hts (.initialized "java/lang/System") (by decide +kernel)) hK hP hD hS 10 4 0 0 rfl rfl rfl rfl rfl (by decide) (by decide) (by decide) (by decide) (by decide) (fun _ _ => rfl) (Nat.le_of_ble_eq_true rfl) (Nat.le_of_ble_eq_true rfl) dX8_become_65 (fun H locs hP hD hS => ?_)
  have hP : va_P G vwCl [kX8 h p1 p2 p3 p4 p5 (upd x 0 (x2 0)), aI y p1 20 gp, aI y p2 20 gh, aI y p3 20 gl, aI y p4 20 (va_cpy ge fe 0 0 20), aI y p5 20 o, kX8 k r1 r2 r3 r4 r5 x2, aI y r1 20 gp, aI y r2 20 gh, aI y r3 20 gl, aI y r4 20 ge, aI y r5 20 go] H := hP
  have hD : va_D A [kX8 h p1 p2 p3 p4 p5 (upd x 0 (x2 0)), aI y p1 20 gp, aI y p2 20 gh, aI y p3 20 gl, aI y p4 20 (va_cpy ge fe 0 0 20), aI y p5 20 o, kX8 k r1 r2 r3 r4 r5 x2, aI y r1 20 gp, aI y r2 20 gh, aI y r3 20 gl, aI y r4 20 ge, aI y r5 20 go] := hD
  have hD := va_D.set (p := 4) (e := (aI y p4 20 ge).2) hD rfl
  have hP := alike1 (i := 4) (g := ge) hP rfl (fun j hj => cpy_all hj)
  have hP : va_P G vwCl [kX8 h p1 p2 p3 p4 p5 (upd x 0 (x2 0)), aI y p1 20 gp, aI y p2 20 gh, aI y p3 20 gl, aI y p4 20 ge, aI y p5 20 o, kX8 k r1 r2 r3 r4 r5 x2, aI y r1 20 gp, aI y r2 20 gh, aI y r3 20 gl, aI y r4 20 ge, aI y r5 20 go] H := hP
  have hD : va_D A [kX8 h p1 p2 p3 p4 p5 (upd x 0 (x2 0)), aI y p1 20 gp, aI y p2 20 gh, aI y p3 20 gl, aI y p4 20 ge, aI y p5 20 o, kX8 k r1 r2 r3 r4 r5 x2, aI y r1 20 gp, aI y r2 20 gh, aI y r3 20 gl, aI y r4 20 ge, aI y r5 20 go] := hD
  refine lv_aload_n hx hb dX8_become_68 rfl (lv_at hl 0 rfl) ?_
  refine lv_aload_n hx hb dX8_become_69 rfl (lv_at hl 1 rfl) ?_
  refine va_get (D := G) (ci := 6) (v := .int (x2 6)) (C := RX8) (T := TX8) (N := 10) hx hb hts i_X8 hown hK hP 6 rfl rfl 6 (by decide) (hts (.fieldLink RX8 37 "RelayTuner$Swings" "goingOn" "Z") (by decide +kernel)) (fun _ h9 => h9) rfl dX8_become_70 ?_
  refine va_put (D := G) (ci := 6) (v := .int (x2 6)) (ty := .boolean) (C := RX8) (T := TX8) (N := 10) hx hb hts i_X8 tyX8 tyX8_ok nmX8 hown hK hP hD hS 0 rfl rfl 6 (by decide) (hts (.fieldLink RX8 37 "RelayTuner$Swings" "goingOn" "Z") (by decide +kernel)) (fun _ h9 => h9) rfl (by decide +kernel) (nz_bool hz6) (fz_bool hz6) (Nat.le_of_ble_eq_true rfl) dX8_become_73 (fun H locs hP hD hS => ?_)
  have hP : va_P G vwCl [kX8 h p1 p2 p3 p4 p5 (upd (upd x 0 (x2 0)) 6 (x2 6)), aI y p1 20 gp, aI y p2 20 gh, aI y p3 20 gl, aI y p4 20 ge, aI y p5 20 o, kX8 k r1 r2 r3 r4 r5 x2, aI y r1 20 gp, aI y r2 20 gh, aI y r3 20 gl, aI y r4 20 ge, aI y r5 20 go] H := hP
  have hD : va_D A [kX8 h p1 p2 p3 p4 p5 (upd (upd x 0 (x2 0)) 6 (x2 6)), aI y p1 20 gp, aI y p2 20 gh, aI y p3 20 gl, aI y p4 20 ge, aI y p5 20 o, kX8 k r1 r2 r3 r4 r5 x2, aI y r1 20 gp, aI y r2 20 gh, aI y r3 20 gl, aI y r4 20 ge, aI y r5 20 go] := hD
  refine lv_aload_n hx hb dX8_become_76 rfl (lv_at hl 0 rfl) ?_
  refine lv_aload_n hx hb dX8_become_77 rfl (lv_at hl 1 rfl) ?_
  refine va_get (D := G) (ci := 6) (v := .int (x2 7)) (C := RX8) (T := TX8) (N := 10) hx hb hts i_X8 hown hK hP 6 rfl rfl 7 (by decide) (hts (.fieldLink RX8 41 "RelayTuner$Swings" "begin" "I") (by decide +kernel)) (fun _ h9 => h9) rfl dX8_become_78 ?_
  refine va_put (D := G) (ci := 6) (v := .int (x2 7)) (ty := .int) (C := RX8) (T := TX8) (N := 10) hx hb hts i_X8 tyX8 tyX8_ok nmX8 hown hK hP hD hS 0 rfl rfl 7 (by decide) (hts (.fieldLink RX8 41 "RelayTuner$Swings" "begin" "I") (by decide +kernel)) (fun _ h9 => h9) rfl (by decide +kernel) rfl rfl (Nat.le_of_ble_eq_true rfl) dX8_become_81 (fun H locs hP hD hS => ?_)
  have hP : va_P G vwCl [kX8 h p1 p2 p3 p4 p5 (upd (upd (upd x 0 (x2 0)) 6 (x2 6)) 7 (x2 7)), aI y p1 20 gp, aI y p2 20 gh, aI y p3 20 gl, aI y p4 20 ge, aI y p5 20 o, kX8 k r1 r2 r3 r4 r5 x2, aI y r1 20 gp, aI y r2 20 gh, aI y r3 20 gl, aI y r4 20 ge, aI y r5 20 go] H := hP
  have hD : va_D A [kX8 h p1 p2 p3 p4 p5 (upd (upd (upd x 0 (x2 0)) 6 (x2 6)) 7 (x2 7)), aI y p1 20 gp, aI y p2 20 gh, aI y p3 20 gl, aI y p4 20 ge, aI y p5 20 o, kX8 k r1 r2 r3 r4 r5 x2, aI y r1 20 gp, aI y r2 20 gh, aI y r3 20 gl, aI y r4 20 ge, aI y r5 20 go] := hD
  refine lv_aload_n hx hb dX8_become_84 rfl (lv_at hl 0 rfl) ?_
  refine lv_aload_n hx hb dX8_become_85 rfl (lv_at hl 1 rfl) ?_
  refine va_get (D := G) (ci := 6) (v := .int (x2 8)) (C := RX8) (T := TX8) (N := 10) hx hb hts i_X8 hown hK hP 6 rfl rfl 8 (by decide) (hts (.fieldLink RX8 44 "RelayTuner$Swings" "high" "I") (by decide +kernel)) (fun _ h9 => h9) rfl dX8_become_86 ?_
  refine va_put (D := G) (ci := 6) (v := .int (x2 8)) (ty := .int) (C := RX8) (T := TX8) (N := 10) hx hb hts i_X8 tyX8 tyX8_ok nmX8 hown hK hP hD hS 0 rfl rfl 8 (by decide) (hts (.fieldLink RX8 44 "RelayTuner$Swings" "high" "I") (by decide +kernel)) (fun _ h9 => h9) rfl (by decide +kernel) rfl rfl (Nat.le_of_ble_eq_true rfl) dX8_become_89 (fun H locs hP hD hS => ?_)
  have hP : va_P G vwCl [kX8 h p1 p2 p3 p4 p5 (upd (upd (upd (upd x 0 (x2 0)) 6 (x2 6)) 7 (x2 7)) 8 (x2 8)), aI y p1 20 gp, aI y p2 20 gh, aI y p3 20 gl, aI y p4 20 ge, aI y p5 20 o, kX8 k r1 r2 r3 r4 r5 x2, aI y r1 20 gp, aI y r2 20 gh, aI y r3 20 gl, aI y r4 20 ge, aI y r5 20 go] H := hP
  have hD : va_D A [kX8 h p1 p2 p3 p4 p5 (upd (upd (upd (upd x 0 (x2 0)) 6 (x2 6)) 7 (x2 7)) 8 (x2 8)), aI y p1 20 gp, aI y p2 20 gh, aI y p3 20 gl, aI y p4 20 ge, aI y p5 20 o, kX8 k r1 r2 r3 r4 r5 x2, aI y r1 20 gp, aI y r2 20 gh, aI y r3 20 gl, aI y r4 20 ge, aI y r5 20 go] := hD
  refine lv_aload_n hx hb dX8_become_92 rfl (lv_at hl 0 rfl) ?_
  refine lv_aload_n hx hb dX8_become_93 rfl (lv_at hl 1 rfl) ?_
  refine va_get (D := G) (ci := 6) (v := .int (x2 9)) (C := RX8) (T := TX8) (N := 10) hx hb hts i_X8 hown hK hP 6 rfl rfl 9 (by decide) (hts (.fieldLink RX8 47 "RelayTuner$Swings" "low" "I") (by decide +kernel)) (fun _ h9 => h9) rfl dX8_become_94 ?_
  refine va_put (D := G) (ci := 6) (v := .int (x2 9)) (ty := .int) (C := RX8) (T := TX8) (N := 10) hx hb hts i_X8 tyX8 tyX8_ok nmX8 hown hK hP hD hS 0 rfl rfl 9 (by decide) (hts (.fieldLink RX8 47 "RelayTuner$Swings" "low" "I") (by decide +kernel)) (fun _ h9 => h9) rfl (by decide +kernel) rfl rfl (Nat.le_of_ble_eq_true rfl) dX8_become_97 (fun H locs hP hD hS => ?_)
  have hP : va_P G vwCl [kX8 h p1 p2 p3 p4 p5 (upd (upd (upd (upd (upd x 0 (x2 0)) 6 (x2 6)) 7 (x2 7)) 8 (x2 8)) 9 (x2 9)), aI y p1 20 gp, aI y p2 20 gh, aI y p3 20 gl, aI y p4 20 ge, aI y p5 20 o, kX8 k r1 r2 r3 r4 r5 x2, aI y r1 20 gp, aI y r2 20 gh, aI y r3 20 gl, aI y r4 20 ge, aI y r5 20 go] H := hP
  have hD : va_D A [kX8 h p1 p2 p3 p4 p5 (upd (upd (upd (upd (upd x 0 (x2 0)) 6 (x2 6)) 7 (x2 7)) 8 (x2 8)) 9 (x2 9)), aI y p1 20 gp, aI y p2 20 gh, aI y p3 20 gl, aI y p4 20 ge, aI y p5 20 o, kX8 k r1 r2 r3 r4 r5 x2, aI y r1 20 gp, aI y r2 20 gh, aI y r3 20 gl, aI y r4 20 ge, aI y r5 20 go] := hD
  exact W.vret hx hb hr (end_Hv () hP hD hS rfl) hS.2.2 dX8_become_100

def s_X8_has_r (a1 : Int32) (x : Nat → Int32) : Int32 := (let v_2 : Int32 := (if a1 < 0 then 0 else (if (x 0) ≤ a1 then 0 else (if 20 ≤ a1 then 0 else 1))); v_2)
theorem z_X8_has (a1 : Int32) (x : Nat → Int32) : s_X8_has_r a1 x = 0 ∨ s_X8_has_r a1 x = 1 := by unfold s_X8_has_r; (try dsimp only); exact (z_ite (Or.inl rfl) (z_ite (Or.inl rfl) (z_ite (Or.inl rfl) (Or.inr rfl))))
abbrev rmX8_has : Room := ({ frames := 0, cells := 0, slots := 0, locals := 0 } : Room)
set_option maxHeartbeats 4000000 in
set_option maxRecDepth 100000 in
theorem c_X8_has (l : Launch) (G : va_G) (y : Nat → ClassId) (h : Nat) (a1 : Int32) (p1 : Nat) (p2 : Nat) (p3 : Nat) (p4 : Nat) (p5 : Nat) (x : Nat → Int32) : Met l yX8_has wsX8_has rmX8_has (PR G y [.ref h, .int a1] [kX8 h p1 p2 p3 p4 p5 x]) (QRi (s_X8_has_r a1 x)) 0 0 (fun _ => False) := by
  refine Met.ofW (cc := cX8_has) (maxL := 2) (ret := (some .boolean)) (by decide) rfl ?_
  intro p e s m args below meth c s₁ B hml hv
  obtain ⟨rfl, hP, hK, hN⟩ := hv
  have hx := B.exec
  have hb := B.bytes
  have hr := B.returns
  have hts := atoms_spec (ws := wsX8_has) B.pre
  have hown : s.vm.findClass RX8 = some m.cls := findClass_of_methodNamed B.named
  have hlocks := B.notSynchronized
  have i_X8 : ∀ w ∈ u_ws RX8 TX8 10, w ∈ wsX8_has := by decide +kernel
  have hl := lv_entry ([.ref h, .int a1]) (n := 2) (Nat.le_of_ble_eq_true rfl)
  rw [lg_entry_eq]
  generalize (lg_sl ([.ref h, .int a1]) ++ List.replicate (2 - (lg_sl ([.ref h, .int a1])).length) Slot.unset).toArray = ls at hl ⊢
  have hl : lv_has ls 2 [(0, .ref h), (1, .int a1)] := hl
  obtain ⟨QQ, hQQ⟩ : ∃ zq9, zq9 = MQ below (QRi (s_X8_has_r a1 x)) ([.ref h, .int a1] : List Value).toArray s 0 0 (fun _ => False) := ⟨_, rfl⟩
  rw [← hQQ]
  refine lv_iload_n hx hb dX8_has_0 rfl (lv_at hl 1 rfl) ?_
  have J23_4 : ∀ (v_2 : Int32) (e_v_2 : v_2 = (if a1 < 0 then 0 else (if (x 0) ≤ a1 then 0 else (if 20 ≤ a1 then 0 else 1)))) (z_3 : v_2 = 0 ∨ v_2 = 1) (ls : Array Slot) (hl : lv_has ls 2 []), W p l e (headSpec wsX8_has rmX8_has).room s m ([.ref h, .int a1] : List Value).toArray below meth c s.heap [] 0 0 QQ (F0 m 23 ls [.int v_2]) := by
    intro v_2 e_v_2 z_3 ls hl
    rw [hQQ]
    exact W.zret hx hb hr (nz_bool z_3) (end_Ri (by subst e_v_2; unfold s_X8_has_r; exact rfl)) (fun _ h => nomatch h) dX8_has_23
  refine lv_if_lt (tgt := 22) hx hb dX8_has_1 (by decide) (fun c_1 => ?_) (fun c_1 => ?_)
  · refine lv_iconst (v := 0) hx hb dX8_has_22 (by decide) ?_
    exact J23_4 _ (if_pos c_1).symm (Or.inl rfl) ls (lv_sub hl [] rfl)
  · refine lv_iload_n hx hb dX8_has_4 rfl (lv_at hl 1 rfl) ?_
    refine lv_aload_n hx hb dX8_has_5 rfl (lv_at hl 0 rfl) ?_
    refine va_get (D := G) (ci := 6) (v := .int (x 0)) (C := RX8) (T := TX8) (N := 10) hx hb hts i_X8 hown hK hP 0 rfl rfl 0 (by decide) (hts (.fieldLink RX8 27 "RelayTuner$Swings" "count" "I") (by decide +kernel)) (fun _ h9 => h9) rfl dX8_has_6 ?_
    refine lv_icmp_ge (tgt := 22) hx hb dX8_has_9 (by decide) (fun c_5 => ?_) (fun c_5 => ?_)
    · refine lv_iconst (v := 0) hx hb dX8_has_22 (by decide) ?_
      exact J23_4 _ ((if_neg c_1).trans (if_pos c_5)).symm (Or.inl rfl) ls (lv_sub hl [] rfl)
    · refine lv_iload_n hx hb dX8_has_12 rfl (lv_at hl 1 rfl) ?_
      refine lv_bipush (v := 20) hx hb dX8_has_13 (by decide) ?_
      refine lv_icmp_ge (tgt := 22) hx hb dX8_has_15 (by decide) (fun c_6 => ?_) (fun c_6 => ?_)
      · refine lv_iconst (v := 0) hx hb dX8_has_22 (by decide) ?_
        exact J23_4 _ ((if_neg c_1).trans ((if_neg c_5).trans (if_pos c_6))).symm (Or.inl rfl) ls (lv_sub hl [] rfl)
      · refine lv_iconst (v := 1) hx hb dX8_has_18 (by decide) ?_
        refine lv_goto (tgt := 23) hx hb dX8_has_19 (by decide) ?_
        exact J23_4 _ ((if_neg c_1).trans ((if_neg c_5).trans (if_neg c_6))).symm (Or.inr rfl) ls (lv_sub hl [] rfl)

theorem has_in {a : Int32} {x : Nat → Int32} (h : ¬ s_X8_has_r a x = 0) : vp_in a 20 := by
  unfold s_X8_has_r at h
  try dsimp only at h
  split at h
  · exact absurd rfl h
  · next q1 =>
    split at h
    · exact absurd rfl h
    · split at h
      · exact absurd rfl h
      · next q3 => exact vin2 q1 q3 rfl (by decide)
theorem has_lt {a : Int32} {x : Nat → Int32} (h0 : vp_in (x 0) 21) (h : ¬ s_X8_has_r a x = 0) : tn a < tn (x 0) := by
  have h9 := has_in h
  unfold s_X8_has_r at h
  try dsimp only at h
  split at h
  · exact absurd rfl h
  · split at h
    · exact absurd rfl h
    · next q2 =>
      exact klt (in_tn h9 (by decide)).1 (in_tn h0 (by decide)).1 (by have := (in_tn h9 (by decide)).2; omega) (by have := (in_tn h0 (by decide)).2; omega) q2

def s_X8_number_r (a1 : Int32) (a2 : Int32) (x : Nat → Int32) (fp : Nat → Int32) (fh : Nat → Int32) (fl : Nat → Int32) (fe : Nat → Int32) : Int32 := (if (s_X8_has_r a1 x) = 0 then (-99999) else (if a2 = 0 then (fp (tn a1)) else (if a2 = 1 then (fh (tn a1)) else (if a2 = 2 then (fl (tn a1)) else (fe (tn a1))))))
abbrev rmX8_number : Room := ({ frames := 1, cells := 0, slots := 0, locals := 21 } : Room)
set_option maxHeartbeats 4000000 in
set_option maxRecDepth 100000 in
theorem c_X8_number (l : Launch) (G : va_G) (y : Nat → ClassId) (h : Nat) (a1 : Int32) (a2 : Int32) (p1 : Nat) (p2 : Nat) (p3 : Nat) (p4 : Nat) (p5 : Nat) (x : Nat → Int32) (fp : Nat → Int32) (fh : Nat → Int32) (fl : Nat → Int32) (fe : Nat → Int32) : Met l yX8_number wsX8_number rmX8_number (PR G y [.ref h, .int a1, .int a2] [kX8 h p1 p2 p3 p4 p5 x, aI y p1 20 fp, aI y p2 20 fh, aI y p3 20 fl, aI y p4 20 fe]) (QRi (s_X8_number_r a1 a2 x fp fh fl fe)) 0 0 (fun _ => False) := by
  refine Met.ofW (cc := cX8_number) (maxL := 3) (ret := (some .int)) (by decide) rfl ?_
  intro p e s m args below meth c s₁ B hml hv
  obtain ⟨rfl, hP, hK, hN⟩ := hv
  have hx := B.exec
  have hb := B.bytes
  have hr := B.returns
  have hts := atoms_spec (ws := wsX8_number) B.pre
  have hown : s.vm.findClass RX8 = some m.cls := findClass_of_methodNamed B.named
  have hlocks := B.notSynchronized
  have i_X8 : ∀ w ∈ u_ws RX8 TX8 10, w ∈ wsX8_number := by decide +kernel
  have hl := lv_entry ([.ref h, .int a1, .int a2]) (n := 3) (Nat.le_of_ble_eq_true rfl)
  rw [lg_entry_eq]
  generalize (lg_sl ([.ref h, .int a1, .int a2]) ++ List.replicate (3 - (lg_sl ([.ref h, .int a1, .int a2])).length) Slot.unset).toArray = ls at hl ⊢
  have hl : lv_has ls 3 [(0, .ref h), (1, .int a1), (2, .int a2)] := hl
  refine lv_aload_n hx hb dX8_number_0 rfl (lv_at hl 0 rfl) ?_
  refine lv_iload_n hx hb dX8_number_1 rfl (lv_at hl 1 rfl) ?_
  refine cl_Ri (va_runV (As := [.int a1]) (rest := []) ⟨hx, hb, hml, hown, hts⟩ (c_X8_has l G y h a1 p1 p2 p3 p4 p5 x) (cwV 1 hts gX8_number_X8_has rfl rfl rfl (by decide +kernel) ⟨Nat.le_of_ble_eq_true rfl, Nat.le_of_ble_eq_true rfl⟩) (PR_V (hP.sub (ws' := [kX8 h p1 p2 p3 p4 p5 x]) [0] rfl) hK hN (ci := 6) (q0 := 0) rfl rfl) rfl rfl hl.1 rfl (lv_room (Nat.le_of_ble_eq_true rfl)) dX8_number_2 ⟨Nat.le_of_ble_eq_true rfl, Nat.le_of_ble_eq_true rfl⟩) ?_
  refine lv_if_ne (tgt := 11) hx hb dX8_number_5 (by decide) (fun c_1 => ?_) (fun c_1 => ?_)
  · refine lv_iload_n hx hb dX8_number_11 rfl (lv_at hl 2 rfl) ?_
    rcases Decidable.em (a2 = 0) with c_2 | c_2
    · refine lv_tableIn (tgt := 40) hx hb dX8_number_12 (by rw [c_2]; decide) (by rw [c_2]; decide) (by rw [c_2]; first | done | rfl) (by decide) ?_
      refine lv_aload_n hx hb dX8_number_40 rfl (lv_at hl 0 rfl) ?_
      refine va_get (D := G) (ci := 6) (v := .ref p1) (C := RX8) (T := TX8) (N := 10) hx hb hts i_X8 hown hK hP 0 rfl rfl 1 (by decide) (hts (.fieldLink RX8 11 "RelayTuner$Swings" "periods" "[I") (by decide +kernel)) (fun _ h9 => h9) rfl dX8_number_41 ?_
      refine lv_iload_n hx hb dX8_number_44 rfl (lv_at hl 1 rfl) ?_
      refine al_i (D := G) (n := 20) (f := fp) hx hb hK hP 1 0 rfl rfl (tn a1) (in_tn (has_in c_1) (by decide)).1 (in_tn (has_in c_1) (by decide)).2 (by first | decide | omega) dX8_number_45 ?_
      exact W.iret hx hb hr (end_Ri (by unfold s_X8_number_r; exact ((if_neg c_1).trans (if_pos c_2)).symm)) (fun _ h => nomatch h) dX8_number_46
    rcases Decidable.em (a2 = 1) with c_3 | c_3
    · refine lv_tableIn (tgt := 47) hx hb dX8_number_12 (by rw [c_3]; decide) (by rw [c_3]; decide) (by rw [c_3]; first | done | rfl) (by decide) ?_
      refine lv_aload_n hx hb dX8_number_47 rfl (lv_at hl 0 rfl) ?_
      refine va_get (D := G) (ci := 6) (v := .ref p2) (C := RX8) (T := TX8) (N := 10) hx hb hts i_X8 hown hK hP 0 rfl rfl 2 (by decide) (hts (.fieldLink RX8 15 "RelayTuner$Swings" "highs" "[I") (by decide +kernel)) (fun _ h9 => h9) rfl dX8_number_48 ?_
      refine lv_iload_n hx hb dX8_number_51 rfl (lv_at hl 1 rfl) ?_
      refine al_i (D := G) (n := 20) (f := fh) hx hb hK hP 2 0 rfl rfl (tn a1) (in_tn (has_in c_1) (by decide)).1 (in_tn (has_in c_1) (by decide)).2 (by first | decide | omega) dX8_number_52 ?_
      exact W.iret hx hb hr (end_Ri (by unfold s_X8_number_r; exact ((if_neg c_1).trans ((if_neg c_2).trans (if_pos c_3))).symm)) (fun _ h => nomatch h) dX8_number_53
    rcases Decidable.em (a2 = 2) with c_4 | c_4
    · refine lv_tableIn (tgt := 54) hx hb dX8_number_12 (by rw [c_4]; decide) (by rw [c_4]; decide) (by rw [c_4]; first | done | rfl) (by decide) ?_
      refine lv_aload_n hx hb dX8_number_54 rfl (lv_at hl 0 rfl) ?_
      refine va_get (D := G) (ci := 6) (v := .ref p3) (C := RX8) (T := TX8) (N := 10) hx hb hts i_X8 hown hK hP 0 rfl rfl 3 (by decide) (hts (.fieldLink RX8 18 "RelayTuner$Swings" "lows" "[I") (by decide +kernel)) (fun _ h9 => h9) rfl dX8_number_55 ?_
      refine lv_iload_n hx hb dX8_number_58 rfl (lv_at hl 1 rfl) ?_
      refine al_i (D := G) (n := 20) (f := fl) hx hb hK hP 3 0 rfl rfl (tn a1) (in_tn (has_in c_1) (by decide)).1 (in_tn (has_in c_1) (by decide)).2 (by first | decide | omega) dX8_number_59 ?_
      exact W.iret hx hb hr (end_Ri (by unfold s_X8_number_r; exact ((if_neg c_1).trans ((if_neg c_2).trans ((if_neg c_3).trans (if_pos c_4)))).symm)) (fun _ h => nomatch h) dX8_number_60
    refine lv_tableOut (tgt := 61) hx hb dX8_number_12 (by have e0 : a2.toInt ≠ 0 := fun h => c_2 (Int32.toInt_inj.mp h); have e1 : a2.toInt ≠ 1 := fun h => c_3 (Int32.toInt_inj.mp h); have e2 : a2.toInt ≠ 2 := fun h => c_4 (Int32.toInt_inj.mp h); omega) (by decide) ?_
    refine lv_aload_n hx hb dX8_number_61 rfl (lv_at hl 0 rfl) ?_
    refine va_get (D := G) (ci := 6) (v := .ref p4) (C := RX8) (T := TX8) (N := 10) hx hb hts i_X8 hown hK hP 0 rfl rfl 4 (by decide) (hts (.fieldLink RX8 21 "RelayTuner$Swings" "ends" "[I") (by decide +kernel)) (fun _ h9 => h9) rfl dX8_number_62 ?_
    refine lv_iload_n hx hb dX8_number_65 rfl (lv_at hl 1 rfl) ?_
    refine al_i (D := G) (n := 20) (f := fe) hx hb hK hP 4 0 rfl rfl (tn a1) (in_tn (has_in c_1) (by decide)).1 (in_tn (has_in c_1) (by decide)).2 (by first | decide | omega) dX8_number_66 ?_
    exact W.iret hx hb hr (end_Ri (by unfold s_X8_number_r; exact ((if_neg c_1).trans ((if_neg c_2).trans ((if_neg c_3).trans (if_neg c_4)))).symm)) (fun _ h => nomatch h) dX8_number_67
  · refine lv_ldc (v := (-99999)) hx hb hown (hts (.constant RX8 54 (-99999)) (by decide +kernel)) dX8_number_8 ?_
    exact W.iret hx hb hr (end_Ri (by unfold s_X8_number_r; exact (if_pos c_1).symm)) (fun _ h => nomatch h) dX8_number_10

def s_X8_breakOff_w0 (x : Nat → Int32) : Nat → Int32 := (upd x 6 0)
abbrev rmX8_breakOff : Room := ({ frames := 0, cells := 0, slots := 0, locals := 0 } : Room)
set_option maxHeartbeats 4000000 in
set_option maxRecDepth 100000 in
theorem c_X8_breakOff (l : Launch) (G : va_G) (y : Nat → ClassId) (h : Nat) (p1 : Nat) (p2 : Nat) (p3 : Nat) (p4 : Nat) (p5 : Nat) (x : Nat → Int32) (sz : Nat) : Met l yX8_breakOff wsX8_breakOff rmX8_breakOff (PH G y [.ref h] [kX8 h p1 p2 p3 p4 p5 x] sz) (QHv G (fun _ : Unit => [kX8 h p1 p2 p3 p4 p5 (s_X8_breakOff_w0 x)]) (va_A [kX8 h p1 p2 p3 p4 p5 x] sz)) 0 0 (va_A [kX8 h p1 p2 p3 p4 p5 x] sz) := by
  refine Met.ofW (cc := cX8_breakOff) (maxL := 1) (ret := none) (by decide) rfl ?_
  intro p e s m args below meth c s₁ B hml hv
  obtain ⟨rfl, hsz, hP, ⟨hK, hN⟩, hD0⟩ := hv
  have hx := B.exec
  have hb := B.bytes
  have hr := B.returns
  have hts := atoms_spec (ws := wsX8_breakOff) B.pre
  have hown : s.vm.findClass RX8 = some m.cls := findClass_of_methodNamed B.named
  have hlocks := B.notSynchronized
  have i_X8 : ∀ w ∈ u_ws RX8 TX8 10, w ∈ wsX8_breakOff := by decide +kernel
  subst hsz
  have hD := hD0.self (sz := s.heap.size)
  generalize hAe : va_A [kX8 h p1 p2 p3 p4 p5 x] s.heap.size = A at hD ⊢
  have hA : ∀ q : Nat, s.heap.size ≤ q → A q := fun q h => by rw [← hAe]; exact Or.inr h
  have hS : va_S A s.heap s.heap [] := va_S.rf
  have hP : va_P G vwCl [kX8 h p1 p2 p3 p4 p5 x] s.heap := hP
  have hl := lv_entry ([.ref h]) (n := 1) (Nat.le_of_ble_eq_true rfl)
  rw [lg_entry_eq]
  generalize (lg_sl ([.ref h]) ++ List.replicate (1 - (lg_sl ([.ref h])).length) Slot.unset).toArray = ls at hl ⊢
  have hl : lv_has ls 1 [(0, .ref h)] := hl
  refine lv_aload_n hx hb dX8_breakOff_0 rfl (lv_at hl 0 rfl) ?_
  refine lv_iconst (v := 0) hx hb dX8_breakOff_1 (by decide) ?_
  refine va_put (D := G) (ci := 6) (v := .int 0) (ty := .boolean) (C := RX8) (T := TX8) (N := 10) hx hb hts i_X8 tyX8 tyX8_ok nmX8 hown hK hP hD hS 0 rfl rfl 6 (by decide) (hts (.fieldLink RX8 37 "RelayTuner$Swings" "goingOn" "Z") (by decide +kernel)) (fun _ h9 => h9) rfl (by decide +kernel) (nz_bool (Or.inl rfl)) (fz_bool (Or.inl rfl)) (Nat.le_of_ble_eq_true rfl) dX8_breakOff_2 (fun H locs hP hD hS => ?_)
  have hP : va_P G vwCl [kX8 h p1 p2 p3 p4 p5 (upd x 6 0)] H := hP
  have hD : va_D A [kX8 h p1 p2 p3 p4 p5 (upd x 6 0)] := hD
  exact W.vret hx hb hr (end_Hv () hP hD hS rfl) hS.2.2 dX8_breakOff_5

theorem lt_tn {a b : Int32} {i j : Nat} (ha : a = nI i) (hb : b = nI j) (hi : i < 2 ^ 31) (hj : j < 2 ^ 31) (h : a < b) : i < j := by
  subst ha; subst hb
  exact (nI_ltI hi hj).mp h
theorem drop_in {a b : Int32} {n : Nat} (hb : b = nI n) (hn : n < 21) (h0 : ¬ a < 0) (h : a < b) : vp_in a 20 := by
  obtain ⟨k, hk, rfl⟩ := nI_of h0
  exact vp_in_nI (by have := lt_tn rfl hb hk (by omega) h; omega) (by decide)

def s_X8_drop_w0 (a1 : Int32) (x : Nat → Int32) : Nat → Int32 := (if a1 < 0 then x else (if a1 < (x 0) then (upd x 0 ((x 0) - 1)) else x))
def s_X8_drop_w1 (a1 : Int32) (x : Nat → Int32) (fp : Nat → Int32) : Nat → Int32 := (if a1 < 0 then fp else (if a1 < (x 0) then (drJ (tn a1) (tn (x 0) - 1) fp) else fp))
def s_X8_drop_w2 (a1 : Int32) (x : Nat → Int32) (fh : Nat → Int32) : Nat → Int32 := (if a1 < 0 then fh else (if a1 < (x 0) then (drJ (tn a1) (tn (x 0) - 1) fh) else fh))
def s_X8_drop_w3 (a1 : Int32) (x : Nat → Int32) (fl : Nat → Int32) : Nat → Int32 := (if a1 < 0 then fl else (if a1 < (x 0) then (drJ (tn a1) (tn (x 0) - 1) fl) else fl))
def s_X8_drop_w4 (a1 : Int32) (x : Nat → Int32) (fe : Nat → Int32) : Nat → Int32 := (if a1 < 0 then fe else (if a1 < (x 0) then (drJ (tn a1) (tn (x 0) - 1) fe) else fe))
abbrev rmX8_drop : Room := ({ frames := 0, cells := 0, slots := 0, locals := 0 } : Room)
set_option maxHeartbeats 4000000 in
set_option maxRecDepth 100000 in
theorem c_X8_drop (l : Launch) (G : va_G) (y : Nat → ClassId) (h : Nat) (a1 : Int32) (p1 : Nat) (p2 : Nat) (p3 : Nat) (p4 : Nat) (p5 : Nat) (x : Nat → Int32) (fp : Nat → Int32) (fh : Nat → Int32) (fl : Nat → Int32) (fe : Nat → Int32) (sz : Nat) (h0 : vp_in (x 0) 21) : Met l yX8_drop wsX8_drop rmX8_drop (PH G y [.ref h, .int a1] [kX8 h p1 p2 p3 p4 p5 x, aI y p1 20 fp, aI y p2 20 fh, aI y p3 20 fl, aI y p4 20 fe] sz) (QHv G (fun _ : Unit => [kX8 h p1 p2 p3 p4 p5 (s_X8_drop_w0 a1 x), aI y p1 20 (s_X8_drop_w1 a1 x fp), aI y p2 20 (s_X8_drop_w2 a1 x fh), aI y p3 20 (s_X8_drop_w3 a1 x fl), aI y p4 20 (s_X8_drop_w4 a1 x fe)]) (va_A [kX8 h p1 p2 p3 p4 p5 x, aI y p1 20 fp, aI y p2 20 fh, aI y p3 20 fl, aI y p4 20 fe] sz)) 0 0 (va_A [kX8 h p1 p2 p3 p4 p5 x, aI y p1 20 fp, aI y p2 20 fh, aI y p3 20 fl, aI y p4 20 fe] sz) := by
  refine Met.ofW (cc := cX8_drop) (maxL := 3) (ret := none) (by decide) rfl ?_
  intro p e s m args below meth c s₁ B hml hv
  obtain ⟨rfl, hsz, hP, ⟨hK, hN⟩, hD0⟩ := hv
  have hx := B.exec
  have hb := B.bytes
  have hr := B.returns
  have hts := atoms_spec (ws := wsX8_drop) B.pre
  have hown : s.vm.findClass RX8 = some m.cls := findClass_of_methodNamed B.named
  have hlocks := B.notSynchronized
  have i_X8 : ∀ w ∈ u_ws RX8 TX8 10, w ∈ wsX8_drop := by decide +kernel
  subst hsz
  have hD := hD0.self (sz := s.heap.size)
  generalize hAe : va_A [kX8 h p1 p2 p3 p4 p5 x, aI y p1 20 fp, aI y p2 20 fh, aI y p3 20 fl, aI y p4 20 fe] s.heap.size = A at hD ⊢
  have hA : ∀ q : Nat, s.heap.size ≤ q → A q := fun q h => by rw [← hAe]; exact Or.inr h
  have hS : va_S A s.heap s.heap [] := va_S.rf
  have hP : va_P G vwCl [kX8 h p1 p2 p3 p4 p5 x, aI y p1 20 fp, aI y p2 20 fh, aI y p3 20 fl, aI y p4 20 fe] s.heap := hP
  obtain ⟨hn1, hn2⟩ := in_tn h0 (by decide)
  have hl := lv_entry ([.ref h, .int a1]) (n := 3) (Nat.le_of_ble_eq_true rfl)
  rw [lg_entry_eq]
  generalize (lg_sl ([.ref h, .int a1]) ++ List.replicate (3 - (lg_sl ([.ref h, .int a1])).length) Slot.unset).toArray = ls at hl ⊢
  have hl : lv_has ls 3 [(0, .ref h), (1, .int a1)] := hl
  obtain ⟨QQ, hQQ⟩ : ∃ zq9, zq9 = MQ below (QHv G (fun _ : Unit => [kX8 h p1 p2 p3 p4 p5 (s_X8_drop_w0 a1 x), aI y p1 20 (s_X8_drop_w1 a1 x fp), aI y p2 20 (s_X8_drop_w2 a1 x fh), aI y p3 20 (s_X8_drop_w3 a1 x fl), aI y p4 20 (s_X8_drop_w4 a1 x fe)]) A) ([.ref h, .int a1] : List Value).toArray s 0 0 A := ⟨_, rfl⟩
  rw [← hQQ]
  refine lv_iload_n hx hb dX8_drop_0 rfl (lv_at hl 1 rfl) ?_
  refine lv_if_lt (tgt := 12) hx hb dX8_drop_1 (by decide) (fun c_1 => ?_) (fun c_1 => ?_)
  · rw [hQQ]
    exact W.vret hx hb hr (end_Hv () hP hD hS (congr (congr (congr (congr (congrArg (fun (z0 : Nat → Int32) (z1 : Nat → Int32) (z2 : Nat → Int32) (z3 : Nat → Int32) (z4 : Nat → Int32) => [kX8 h p1 p2 p3 p4 p5 z0, aI y p1 20 z1, aI y p2 20 z2, aI y p3 20 z3, aI y p4 20 z4]) (by unfold s_X8_drop_w0; exact (if_pos c_1).symm)) (by unfold s_X8_drop_w1; exact (if_pos c_1).symm)) (by unfold s_X8_drop_w2; exact (if_pos c_1).symm)) (by unfold s_X8_drop_w3; exact (if_pos c_1).symm)) (by unfold s_X8_drop_w4; exact (if_pos c_1).symm))) hS.2.2 dX8_drop_12
  · refine lv_iload_n hx hb dX8_drop_4 rfl (lv_at hl 1 rfl) ?_
    refine lv_aload_n hx hb dX8_drop_5 rfl (lv_at hl 0 rfl) ?_
    refine va_get (D := G) (ci := 6) (v := .int (x 0)) (C := RX8) (T := TX8) (N := 10) hx hb hts i_X8 hown hK hP 0 rfl rfl 0 (by decide) (hts (.fieldLink RX8 27 "RelayTuner$Swings" "count" "I") (by decide +kernel)) (fun _ h9 => h9) rfl dX8_drop_6 ?_
    refine lv_icmp_lt (tgt := 13) hx hb dX8_drop_9 (by decide) (fun c_2 => ?_) (fun c_2 => ?_)
    · have hlt : vp_in a1 20 := drop_in hn1 hn2 c_1 c_2
      obtain ⟨ha1, ha2⟩ := in_tn hlt (by decide)
      have ha3 : tn a1 < tn (x 0) := lt_tn ha1 hn1 (by omega) (by omega) c_2
      refine lv_iload_n hx hb dX8_drop_13 rfl (lv_at hl 1 rfl) ?_
      refine lv_iconst (v := 1) hx hb dX8_drop_14 (by decide) ?_
      refine lv_iadd hx hb dX8_drop_15 ?_
      refine lv_istore_n (lv' := [(2, .int (a1 + 1)), (0, .ref h), (1, .int a1)]) hx hb dX8_drop_16 rfl hl (by decide) rfl (fun ls hl => ?_)
      have LOOP17_3 : ∀ (n_4 : Nat) (k0 : Nat) (x2 : Int32) (w1 : Nat → Int32) (w2 : Nat → Int32) (w3 : Nat → Int32) (w4 : Nat → Int32) (hx2 : x2 = nI k0) (hj : tn a1 + 1 ≤ k0) (hk : k0 ≤ tn (x 0)) (hw1 : w1 = drJ (tn a1) (k0 - 1) fp) (hw2 : w2 = drJ (tn a1) (k0 - 1) fh) (hw3 : w3 = drJ (tn a1) (k0 - 1) fl) (hw4 : w4 = drJ (tn a1) (k0 - 1) fe) (hn_6 : 21 - k0 < n_4) (H : Heap) (locs : List Loc) (hP : va_P G vwCl [kX8 h p1 p2 p3 p4 p5 x, aI y p1 20 w1, aI y p2 20 w2, aI y p3 20 w3, aI y p4 20 w4] H) (hD : va_D A [kX8 h p1 p2 p3 p4 p5 x, aI y p1 20 w1, aI y p2 20 w2, aI y p3 20 w3, aI y p4 20 w4]) (hS : va_S A s.heap H locs) (ls : Array Slot) (hl : lv_has ls 3 [(2, .int x2), (0, .ref h)]), W p l e (headSpec wsX8_drop rmX8_drop).room s m ([.ref h, .int a1] : List Value).toArray below meth c H locs 0 0 QQ (F0 m 17 ls []) := by
        intro n_4
        induction n_4 with
        | zero => intro k0 x2 w1 w2 w3 w4 hx2 hj hk hw1 hw2 hw3 hw4 hn_6 H locs hP hD hS ls hl; exact absurd hn_6 (Nat.not_lt_zero _)
        | succ n_4 ih_5 =>
          intro k0 x2 w1 w2 w3 w4 hx2 hj hk hw1 hw2 hw3 hw4 hn_6 H locs hP hD hS ls hl
          refine lv_iload_n hx hb dX8_drop_17 rfl (lv_at hl 0 rfl) ?_
          refine lv_aload_n hx hb dX8_drop_18 rfl (lv_at hl 1 rfl) ?_
          refine va_get (D := G) (ci := 6) (v := .int (x 0)) (C := RX8) (T := TX8) (N := 10) hx hb hts i_X8 hown hK hP 0 rfl rfl 0 (by decide) (hts (.fieldLink RX8 27 "RelayTuner$Swings" "count" "I") (by decide +kernel)) (fun _ h9 => h9) rfl dX8_drop_19 ?_
          refine lv_icmp_ge (tgt := 93) hx hb dX8_drop_22 (by decide) (fun c_7 => ?_) (fun c_7 => ?_)
          · have hk9 : k0 = tn (x 0) := by have := kge hx2 hn1 (by omega) (by omega) c_7; omega
            rw [hk9] at hw1 hw2 hw3 hw4
            subst hw1
            subst hw2
            subst hw3
            subst hw4
            refine lv_aload_n hx hb dX8_drop_93 rfl (lv_at hl 1 rfl) ?_
            refine lv_dup hx hb dX8_drop_94 rfl ?_
            refine va_get (D := G) (ci := 6) (v := .int (x 0)) (C := RX8) (T := TX8) (N := 10) hx hb hts i_X8 hown hK hP 0 rfl rfl 0 (by decide) (hts (.fieldLink RX8 27 "RelayTuner$Swings" "count" "I") (by decide +kernel)) (fun _ h9 => h9) rfl dX8_drop_95 ?_
            refine lv_iconst (v := 1) hx hb dX8_drop_98 (by decide) ?_
            refine lv_isub hx hb dX8_drop_99 ?_
            refine va_put (D := G) (ci := 6) (v := .int ((x 0) - 1)) (ty := .int) (C := RX8) (T := TX8) (N := 10) hx hb hts i_X8 tyX8 tyX8_ok nmX8 hown hK hP hD hS 0 rfl rfl 0 (by decide) (hts (.fieldLink RX8 27 "RelayTuner$Swings" "count" "I") (by decide +kernel)) (fun _ h9 => h9) rfl (by decide +kernel) rfl rfl (Nat.le_of_ble_eq_true rfl) dX8_drop_100 (fun H locs hP hD hS => ?_)
            have hP : va_P G vwCl [kX8 h p1 p2 p3 p4 p5 (upd x 0 ((x 0) - 1)), aI y p1 20 (drJ (tn a1) (tn (x 0) - 1) fp), aI y p2 20 (drJ (tn a1) (tn (x 0) - 1) fh), aI y p3 20 (drJ (tn a1) (tn (x 0) - 1) fl), aI y p4 20 (drJ (tn a1) (tn (x 0) - 1) fe)] H := hP
            have hD : va_D A [kX8 h p1 p2 p3 p4 p5 (upd x 0 ((x 0) - 1)), aI y p1 20 (drJ (tn a1) (tn (x 0) - 1) fp), aI y p2 20 (drJ (tn a1) (tn (x 0) - 1) fh), aI y p3 20 (drJ (tn a1) (tn (x 0) - 1) fl), aI y p4 20 (drJ (tn a1) (tn (x 0) - 1) fe)] := hD
            rw [hQQ]
            exact W.vret hx hb hr (end_Hv () hP hD hS (congr (congr (congr (congr (congrArg (fun (z0 : Nat → Int32) (z1 : Nat → Int32) (z2 : Nat → Int32) (z3 : Nat → Int32) (z4 : Nat → Int32) => [kX8 h p1 p2 p3 p4 p5 z0, aI y p1 20 z1, aI y p2 20 z2, aI y p3 20 z3, aI y p4 20 z4]) (by unfold s_X8_drop_w0; exact ((if_neg c_1).trans (if_pos c_2)).symm)) (by unfold s_X8_drop_w1; exact ((if_neg c_1).trans (if_pos c_2)).symm)) (by unfold s_X8_drop_w2; exact ((if_neg c_1).trans (if_pos c_2)).symm)) (by unfold s_X8_drop_w3; exact ((if_neg c_1).trans (if_pos c_2)).symm)) (by unfold s_X8_drop_w4; exact ((if_neg c_1).trans (if_pos c_2)).symm))) hS.2.2 dX8_drop_103
          · refine lv_iload_n hx hb dX8_drop_25 rfl (lv_at hl 0 rfl) ?_
            refine lv_bipush (v := 20) hx hb dX8_drop_26 (by decide) ?_
            refine lv_icmp_ge (tgt := 93) hx hb dX8_drop_28 (by decide) (fun c_8 => ?_) (fun c_8 => ?_)
            · have hk9 : k0 = tn (x 0) := by have := kge (N := 20) hx2 rfl (by omega) (by omega) c_8; omega
              rw [hk9] at hw1 hw2 hw3 hw4
              subst hw1
              subst hw2
              subst hw3
              subst hw4
              refine lv_aload_n hx hb dX8_drop_93 rfl (lv_at hl 1 rfl) ?_
              refine lv_dup hx hb dX8_drop_94 rfl ?_
              refine va_get (D := G) (ci := 6) (v := .int (x 0)) (C := RX8) (T := TX8) (N := 10) hx hb hts i_X8 hown hK hP 0 rfl rfl 0 (by decide) (hts (.fieldLink RX8 27 "RelayTuner$Swings" "count" "I") (by decide +kernel)) (fun _ h9 => h9) rfl dX8_drop_95 ?_
              refine lv_iconst (v := 1) hx hb dX8_drop_98 (by decide) ?_
              refine lv_isub hx hb dX8_drop_99 ?_
              refine va_put (D := G) (ci := 6) (v := .int ((x 0) - 1)) (ty := .int) (C := RX8) (T := TX8) (N := 10) hx hb hts i_X8 tyX8 tyX8_ok nmX8 hown hK hP hD hS 0 rfl rfl 0 (by decide) (hts (.fieldLink RX8 27 "RelayTuner$Swings" "count" "I") (by decide +kernel)) (fun _ h9 => h9) rfl (by decide +kernel) rfl rfl (Nat.le_of_ble_eq_true rfl) dX8_drop_100 (fun H locs hP hD hS => ?_)
              have hP : va_P G vwCl [kX8 h p1 p2 p3 p4 p5 (upd x 0 ((x 0) - 1)), aI y p1 20 (drJ (tn a1) (tn (x 0) - 1) fp), aI y p2 20 (drJ (tn a1) (tn (x 0) - 1) fh), aI y p3 20 (drJ (tn a1) (tn (x 0) - 1) fl), aI y p4 20 (drJ (tn a1) (tn (x 0) - 1) fe)] H := hP
              have hD : va_D A [kX8 h p1 p2 p3 p4 p5 (upd x 0 ((x 0) - 1)), aI y p1 20 (drJ (tn a1) (tn (x 0) - 1) fp), aI y p2 20 (drJ (tn a1) (tn (x 0) - 1) fh), aI y p3 20 (drJ (tn a1) (tn (x 0) - 1) fl), aI y p4 20 (drJ (tn a1) (tn (x 0) - 1) fe)] := hD
              rw [hQQ]
              exact W.vret hx hb hr (end_Hv () hP hD hS (congr (congr (congr (congr (congrArg (fun (z0 : Nat → Int32) (z1 : Nat → Int32) (z2 : Nat → Int32) (z3 : Nat → Int32) (z4 : Nat → Int32) => [kX8 h p1 p2 p3 p4 p5 z0, aI y p1 20 z1, aI y p2 20 z2, aI y p3 20 z3, aI y p4 20 z4]) (by unfold s_X8_drop_w0; exact ((if_neg c_1).trans (if_pos c_2)).symm)) (by unfold s_X8_drop_w1; exact ((if_neg c_1).trans (if_pos c_2)).symm)) (by unfold s_X8_drop_w2; exact ((if_neg c_1).trans (if_pos c_2)).symm)) (by unfold s_X8_drop_w3; exact ((if_neg c_1).trans (if_pos c_2)).symm)) (by unfold s_X8_drop_w4; exact ((if_neg c_1).trans (if_pos c_2)).symm))) hS.2.2 dX8_drop_103
            · have hk9 : k0 < tn (x 0) := klt hx2 hn1 (by omega) (by omega) c_7
              refine lv_aload_n hx hb dX8_drop_31 rfl (lv_at hl 1 rfl) ?_
              refine va_get (D := G) (ci := 6) (v := .ref p1) (C := RX8) (T := TX8) (N := 10) hx hb hts i_X8 hown hK hP 0 rfl rfl 1 (by decide) (hts (.fieldLink RX8 11 "RelayTuner$Swings" "periods" "[I") (by decide +kernel)) (fun _ h9 => h9) rfl dX8_drop_32 ?_
              refine lv_iload_n hx hb dX8_drop_35 rfl (lv_at hl 0 rfl) ?_
              refine lv_iconst (v := 1) hx hb dX8_drop_36 (by decide) ?_
              refine lv_isub hx hb dX8_drop_37 ?_
              refine lv_aload_n hx hb dX8_drop_38 rfl (lv_at hl 1 rfl) ?_
              refine va_get (D := G) (ci := 6) (v := .ref p1) (C := RX8) (T := TX8) (N := 10) hx hb hts i_X8 hown hK hP 0 rfl rfl 1 (by decide) (hts (.fieldLink RX8 11 "RelayTuner$Swings" "periods" "[I") (by decide +kernel)) (fun _ h9 => h9) rfl dX8_drop_39 ?_
              refine lv_iload_n hx hb dX8_drop_42 rfl (lv_at hl 0 rfl) ?_
              refine al_i (D := G) (n := 20) (f := w1) hx hb hK hP 1 0 rfl rfl k0 hx2 (by omega) (by first | decide | omega) dX8_drop_43 ?_
              refine as_i (D := G) (n := 20) (f := w1) hx hb hK hP hD hS 1 0 rfl rfl (k0 - 1) (sub1_ix hx2 (by omega)) (by omega) (by first | decide | omega) dX8_drop_44 (fun H locs hP hD hS => ?_)
              have hP : va_P G vwCl [kX8 h p1 p2 p3 p4 p5 x, aI y p1 20 (upd w1 (k0 - 1) (w1 k0)), aI y p2 20 w2, aI y p3 20 w3, aI y p4 20 w4] H := hP
              have hD : va_D A [kX8 h p1 p2 p3 p4 p5 x, aI y p1 20 (upd w1 (k0 - 1) (w1 k0)), aI y p2 20 w2, aI y p3 20 w3, aI y p4 20 w4] := hD
              refine lv_aload_n hx hb dX8_drop_45 rfl (lv_at hl 1 rfl) ?_
              refine va_get (D := G) (ci := 6) (v := .ref p2) (C := RX8) (T := TX8) (N := 10) hx hb hts i_X8 hown hK hP 0 rfl rfl 2 (by decide) (hts (.fieldLink RX8 15 "RelayTuner$Swings" "highs" "[I") (by decide +kernel)) (fun _ h9 => h9) rfl dX8_drop_46 ?_
              refine lv_iload_n hx hb dX8_drop_49 rfl (lv_at hl 0 rfl) ?_
              refine lv_iconst (v := 1) hx hb dX8_drop_50 (by decide) ?_
              refine lv_isub hx hb dX8_drop_51 ?_
              refine lv_aload_n hx hb dX8_drop_52 rfl (lv_at hl 1 rfl) ?_
              refine va_get (D := G) (ci := 6) (v := .ref p2) (C := RX8) (T := TX8) (N := 10) hx hb hts i_X8 hown hK hP 0 rfl rfl 2 (by decide) (hts (.fieldLink RX8 15 "RelayTuner$Swings" "highs" "[I") (by decide +kernel)) (fun _ h9 => h9) rfl dX8_drop_53 ?_
              refine lv_iload_n hx hb dX8_drop_56 rfl (lv_at hl 0 rfl) ?_
              refine al_i (D := G) (n := 20) (f := w2) hx hb hK hP 2 0 rfl rfl k0 hx2 (by omega) (by first | decide | omega) dX8_drop_57 ?_
              refine as_i (D := G) (n := 20) (f := w2) hx hb hK hP hD hS 2 0 rfl rfl (k0 - 1) (sub1_ix hx2 (by omega)) (by omega) (by first | decide | omega) dX8_drop_58 (fun H locs hP hD hS => ?_)
              have hP : va_P G vwCl [kX8 h p1 p2 p3 p4 p5 x, aI y p1 20 (upd w1 (k0 - 1) (w1 k0)), aI y p2 20 (upd w2 (k0 - 1) (w2 k0)), aI y p3 20 w3, aI y p4 20 w4] H := hP
              have hD : va_D A [kX8 h p1 p2 p3 p4 p5 x, aI y p1 20 (upd w1 (k0 - 1) (w1 k0)), aI y p2 20 (upd w2 (k0 - 1) (w2 k0)), aI y p3 20 w3, aI y p4 20 w4] := hD
              refine lv_aload_n hx hb dX8_drop_59 rfl (lv_at hl 1 rfl) ?_
              refine va_get (D := G) (ci := 6) (v := .ref p3) (C := RX8) (T := TX8) (N := 10) hx hb hts i_X8 hown hK hP 0 rfl rfl 3 (by decide) (hts (.fieldLink RX8 18 "RelayTuner$Swings" "lows" "[I") (by decide +kernel)) (fun _ h9 => h9) rfl dX8_drop_60 ?_
              refine lv_iload_n hx hb dX8_drop_63 rfl (lv_at hl 0 rfl) ?_
              refine lv_iconst (v := 1) hx hb dX8_drop_64 (by decide) ?_
              refine lv_isub hx hb dX8_drop_65 ?_
              refine lv_aload_n hx hb dX8_drop_66 rfl (lv_at hl 1 rfl) ?_
              refine va_get (D := G) (ci := 6) (v := .ref p3) (C := RX8) (T := TX8) (N := 10) hx hb hts i_X8 hown hK hP 0 rfl rfl 3 (by decide) (hts (.fieldLink RX8 18 "RelayTuner$Swings" "lows" "[I") (by decide +kernel)) (fun _ h9 => h9) rfl dX8_drop_67 ?_
              refine lv_iload_n hx hb dX8_drop_70 rfl (lv_at hl 0 rfl) ?_
              refine al_i (D := G) (n := 20) (f := w3) hx hb hK hP 3 0 rfl rfl k0 hx2 (by omega) (by first | decide | omega) dX8_drop_71 ?_
              refine as_i (D := G) (n := 20) (f := w3) hx hb hK hP hD hS 3 0 rfl rfl (k0 - 1) (sub1_ix hx2 (by omega)) (by omega) (by first | decide | omega) dX8_drop_72 (fun H locs hP hD hS => ?_)
              have hP : va_P G vwCl [kX8 h p1 p2 p3 p4 p5 x, aI y p1 20 (upd w1 (k0 - 1) (w1 k0)), aI y p2 20 (upd w2 (k0 - 1) (w2 k0)), aI y p3 20 (upd w3 (k0 - 1) (w3 k0)), aI y p4 20 w4] H := hP
              have hD : va_D A [kX8 h p1 p2 p3 p4 p5 x, aI y p1 20 (upd w1 (k0 - 1) (w1 k0)), aI y p2 20 (upd w2 (k0 - 1) (w2 k0)), aI y p3 20 (upd w3 (k0 - 1) (w3 k0)), aI y p4 20 w4] := hD
              refine lv_aload_n hx hb dX8_drop_73 rfl (lv_at hl 1 rfl) ?_
              refine va_get (D := G) (ci := 6) (v := .ref p4) (C := RX8) (T := TX8) (N := 10) hx hb hts i_X8 hown hK hP 0 rfl rfl 4 (by decide) (hts (.fieldLink RX8 21 "RelayTuner$Swings" "ends" "[I") (by decide +kernel)) (fun _ h9 => h9) rfl dX8_drop_74 ?_
              refine lv_iload_n hx hb dX8_drop_77 rfl (lv_at hl 0 rfl) ?_
              refine lv_iconst (v := 1) hx hb dX8_drop_78 (by decide) ?_
              refine lv_isub hx hb dX8_drop_79 ?_
              refine lv_aload_n hx hb dX8_drop_80 rfl (lv_at hl 1 rfl) ?_
              refine va_get (D := G) (ci := 6) (v := .ref p4) (C := RX8) (T := TX8) (N := 10) hx hb hts i_X8 hown hK hP 0 rfl rfl 4 (by decide) (hts (.fieldLink RX8 21 "RelayTuner$Swings" "ends" "[I") (by decide +kernel)) (fun _ h9 => h9) rfl dX8_drop_81 ?_
              refine lv_iload_n hx hb dX8_drop_84 rfl (lv_at hl 0 rfl) ?_
              refine al_i (D := G) (n := 20) (f := w4) hx hb hK hP 4 0 rfl rfl k0 hx2 (by omega) (by first | decide | omega) dX8_drop_85 ?_
              refine as_i (D := G) (n := 20) (f := w4) hx hb hK hP hD hS 4 0 rfl rfl (k0 - 1) (sub1_ix hx2 (by omega)) (by omega) (by first | decide | omega) dX8_drop_86 (fun H locs hP hD hS => ?_)
              have hP : va_P G vwCl [kX8 h p1 p2 p3 p4 p5 x, aI y p1 20 (upd w1 (k0 - 1) (w1 k0)), aI y p2 20 (upd w2 (k0 - 1) (w2 k0)), aI y p3 20 (upd w3 (k0 - 1) (w3 k0)), aI y p4 20 (upd w4 (k0 - 1) (w4 k0))] H := hP
              have hD : va_D A [kX8 h p1 p2 p3 p4 p5 x, aI y p1 20 (upd w1 (k0 - 1) (w1 k0)), aI y p2 20 (upd w2 (k0 - 1) (w2 k0)), aI y p3 20 (upd w3 (k0 - 1) (w3 k0)), aI y p4 20 (upd w4 (k0 - 1) (w4 k0))] := hD
              refine lv_iinc (v := (x2 + 1)) (lv' := [(2, .int (x2 + 1)), (0, .ref h)]) hx hb dX8_drop_87 hl (k := 0) rfl (by first | rfl | decide) (by decide) rfl (fun ls hl => ?_)
              refine lv_goto (tgt := 17) hx hb dX8_drop_90 (by decide) ?_
              exact ih_5 (k0 + 1) (x2 + 1) (upd w1 (k0 - 1) (w1 k0)) (upd w2 (k0 - 1) (w2 k0)) (upd w3 (k0 - 1) (w3 k0)) (upd w4 (k0 - 1) (w4 k0)) (by rw [hx2]; exact nI_1 k0) (by omega) (by omega) (by rw [hw1]; exact drJ_s (by omega) (by omega) _) (by rw [hw2]; exact drJ_s (by omega) (by omega) _) (by rw [hw3]; exact drJ_s (by omega) (by omega) _) (by rw [hw4]; exact drJ_s (by omega) (by omega) _) (by omega) H locs hP hD hS ls (lv_sub hl [0, 1] rfl)
      exact LOOP17_3 (21 - (tn a1 + 1) + 1) (tn a1 + 1) (a1 + 1) fp fh fl fe (by have h9 := nI_1 (tn a1); rw [← ha1] at h9; exact h9) (by omega) (by omega) (drJ_0 _ _).symm (drJ_0 _ _).symm (drJ_0 _ _).symm (drJ_0 _ _).symm (Nat.lt_succ_self _) s.heap [] hP hD hS ls (lv_sub hl [0, 1] rfl)
    · rw [hQQ]
      exact W.vret hx hb hr (end_Hv () hP hD hS (congr (congr (congr (congr (congrArg (fun (z0 : Nat → Int32) (z1 : Nat → Int32) (z2 : Nat → Int32) (z3 : Nat → Int32) (z4 : Nat → Int32) => [kX8 h p1 p2 p3 p4 p5 z0, aI y p1 20 z1, aI y p2 20 z2, aI y p3 20 z3, aI y p4 20 z4]) (by unfold s_X8_drop_w0; exact ((if_neg c_1).trans (if_neg c_2)).symm)) (by unfold s_X8_drop_w1; exact ((if_neg c_1).trans (if_neg c_2)).symm)) (by unfold s_X8_drop_w2; exact ((if_neg c_1).trans (if_neg c_2)).symm)) (by unfold s_X8_drop_w3; exact ((if_neg c_1).trans (if_neg c_2)).symm)) (by unfold s_X8_drop_w4; exact ((if_neg c_1).trans (if_neg c_2)).symm))) hS.2.2 dX8_drop_12

def s_X8_add_w0 (x : Nat → Int32) : Nat → Int32 := (let v_2 : Nat → Int32 := (if (x 0) < 20 then x else (s_X8_drop_w0 0 x)); (let v_9 : Nat → Int32 := (if (v_2 0) < 0 then v_2 else (if 20 ≤ (v_2 0) then v_2 else (upd v_2 0 ((v_2 0) + 1)))); v_9))
def s_X8_add_w1 (a1 : Int32) (x : Nat → Int32) (fp : Nat → Int32) : Nat → Int32 := (let v_2 : Nat → Int32 := (if (x 0) < 20 then x else (s_X8_drop_w0 0 x)); (let v_3 : Nat → Int32 := (if (x 0) < 20 then fp else (s_X8_drop_w1 0 x fp)); (let v_10 : Nat → Int32 := (if (v_2 0) < 0 then v_3 else (if 20 ≤ (v_2 0) then v_3 else (upd v_3 (tn (v_2 0)) (a1 - (v_2 7))))); v_10)))
def s_X8_add_w2 (x : Nat → Int32) (fh : Nat → Int32) : Nat → Int32 := (let v_2 : Nat → Int32 := (if (x 0) < 20 then x else (s_X8_drop_w0 0 x)); (let v_4 : Nat → Int32 := (if (x 0) < 20 then fh else (s_X8_drop_w2 0 x fh)); (let v_11 : Nat → Int32 := (if (v_2 0) < 0 then v_4 else (if 20 ≤ (v_2 0) then v_4 else (upd v_4 (tn (v_2 0)) (v_2 8)))); v_11)))
def s_X8_add_w3 (x : Nat → Int32) (fl : Nat → Int32) : Nat → Int32 := (let v_2 : Nat → Int32 := (if (x 0) < 20 then x else (s_X8_drop_w0 0 x)); (let v_5 : Nat → Int32 := (if (x 0) < 20 then fl else (s_X8_drop_w3 0 x fl)); (let v_12 : Nat → Int32 := (if (v_2 0) < 0 then v_5 else (if 20 ≤ (v_2 0) then v_5 else (upd v_5 (tn (v_2 0)) (v_2 9)))); v_12)))
def s_X8_add_w4 (a1 : Int32) (x : Nat → Int32) (fe : Nat → Int32) : Nat → Int32 := (let v_2 : Nat → Int32 := (if (x 0) < 20 then x else (s_X8_drop_w0 0 x)); (let v_6 : Nat → Int32 := (if (x 0) < 20 then fe else (s_X8_drop_w4 0 x fe)); (let v_13 : Nat → Int32 := (if (v_2 0) < 0 then v_6 else (if 20 ≤ (v_2 0) then v_6 else (upd v_6 (tn (v_2 0)) a1))); v_13)))
abbrev rmX8_add : Room := ({ frames := 1, cells := 0, slots := 0, locals := 22 } : Room)
set_option maxHeartbeats 4000000 in
set_option maxRecDepth 100000 in
theorem c_X8_add (l : Launch) (G : va_G) (y : Nat → ClassId) (h : Nat) (a1 : Int32) (p1 : Nat) (p2 : Nat) (p3 : Nat) (p4 : Nat) (p5 : Nat) (x : Nat → Int32) (fp : Nat → Int32) (fh : Nat → Int32) (fl : Nat → Int32) (fe : Nat → Int32) (sz : Nat) (h0 : vp_in (x 0) 21) : Met l yX8_add wsX8_add rmX8_add (PH G y [.ref h, .int a1] [kX8 h p1 p2 p3 p4 p5 x, aI y p1 20 fp, aI y p2 20 fh, aI y p3 20 fl, aI y p4 20 fe] sz) (QHv G (fun _ : Unit => [kX8 h p1 p2 p3 p4 p5 (s_X8_add_w0 x), aI y p1 20 (s_X8_add_w1 a1 x fp), aI y p2 20 (s_X8_add_w2 x fh), aI y p3 20 (s_X8_add_w3 x fl), aI y p4 20 (s_X8_add_w4 a1 x fe)]) (va_A [kX8 h p1 p2 p3 p4 p5 x, aI y p1 20 fp, aI y p2 20 fh, aI y p3 20 fl, aI y p4 20 fe] sz)) 0 0 (va_A [kX8 h p1 p2 p3 p4 p5 x, aI y p1 20 fp, aI y p2 20 fh, aI y p3 20 fl, aI y p4 20 fe] sz) := by
  refine Met.ofW (cc := cX8_add) (maxL := 2) (ret := none) (by decide) rfl ?_
  intro p e s m args below meth c s₁ B hml hv
  obtain ⟨rfl, hsz, hP, ⟨hK, hN⟩, hD0⟩ := hv
  have hx := B.exec
  have hb := B.bytes
  have hr := B.returns
  have hts := atoms_spec (ws := wsX8_add) B.pre
  have hown : s.vm.findClass RX8 = some m.cls := findClass_of_methodNamed B.named
  have hlocks := B.notSynchronized
  have i_X8 : ∀ w ∈ u_ws RX8 TX8 10, w ∈ wsX8_add := by decide +kernel
  subst hsz
  have hD := hD0.self (sz := s.heap.size)
  generalize hAe : va_A [kX8 h p1 p2 p3 p4 p5 x, aI y p1 20 fp, aI y p2 20 fh, aI y p3 20 fl, aI y p4 20 fe] s.heap.size = A at hD ⊢
  have hA : ∀ q : Nat, s.heap.size ≤ q → A q := fun q h => by rw [← hAe]; exact Or.inr h
  have hS : va_S A s.heap s.heap [] := va_S.rf
  have hP : va_P G vwCl [kX8 h p1 p2 p3 p4 p5 x, aI y p1 20 fp, aI y p2 20 fh, aI y p3 20 fl, aI y p4 20 fe] s.heap := hP
  have hl := lv_entry ([.ref h, .int a1]) (n := 2) (Nat.le_of_ble_eq_true rfl)
  rw [lg_entry_eq]
  generalize (lg_sl ([.ref h, .int a1]) ++ List.replicate (2 - (lg_sl ([.ref h, .int a1])).length) Slot.unset).toArray = ls at hl ⊢
  have hl : lv_has ls 2 [(0, .ref h), (1, .int a1)] := hl
  obtain ⟨QQ, hQQ⟩ : ∃ zq9, zq9 = MQ below (QHv G (fun _ : Unit => [kX8 h p1 p2 p3 p4 p5 (s_X8_add_w0 x), aI y p1 20 (s_X8_add_w1 a1 x fp), aI y p2 20 (s_X8_add_w2 x fh), aI y p3 20 (s_X8_add_w3 x fl), aI y p4 20 (s_X8_add_w4 a1 x fe)]) A) ([.ref h, .int a1] : List Value).toArray s 0 0 A := ⟨_, rfl⟩
  rw [← hQQ]
  refine lv_aload_n hx hb dX8_add_0 rfl (lv_at hl 0 rfl) ?_
  refine va_get (D := G) (ci := 6) (v := .int (x 0)) (C := RX8) (T := TX8) (N := 10) hx hb hts i_X8 hown hK hP 0 rfl rfl 0 (by decide) (hts (.fieldLink RX8 27 "RelayTuner$Swings" "count" "I") (by decide +kernel)) (fun _ h9 => h9) rfl dX8_add_1 ?_
  refine lv_bipush (v := 20) hx hb dX8_add_4 (by decide) ?_
  have J14_7 : ∀ (v_2 : Nat → Int32) (v_3 : Nat → Int32) (v_4 : Nat → Int32) (v_5 : Nat → Int32) (v_6 : Nat → Int32) (e_v_2 : v_2 = (if (x 0) < 20 then x else (s_X8_drop_w0 0 x))) (e_v_3 : v_3 = (if (x 0) < 20 then fp else (s_X8_drop_w1 0 x fp))) (e_v_4 : v_4 = (if (x 0) < 20 then fh else (s_X8_drop_w2 0 x fh))) (e_v_5 : v_5 = (if (x 0) < 20 then fl else (s_X8_drop_w3 0 x fl))) (e_v_6 : v_6 = (if (x 0) < 20 then fe else (s_X8_drop_w4 0 x fe))) (H : Heap) (locs : List Loc) (hP : va_P G vwCl [kX8 h p1 p2 p3 p4 p5 v_2, aI y p1 20 v_3, aI y p2 20 v_4, aI y p3 20 v_5, aI y p4 20 v_6] H) (hD : va_D A [kX8 h p1 p2 p3 p4 p5 v_2, aI y p1 20 v_3, aI y p2 20 v_4, aI y p3 20 v_5, aI y p4 20 v_6]) (hS : va_S A s.heap H locs) (ls : Array Slot) (hl : lv_has ls 2 [(0, .ref h), (1, .int a1)]), W p l e (headSpec wsX8_add rmX8_add).room s m ([.ref h, .int a1] : List Value).toArray below meth c H locs 0 0 QQ (F0 m 14 ls []) := by
    intro v_2 v_3 v_4 v_5 v_6 e_v_2 e_v_3 e_v_4 e_v_5 e_v_6 H locs hP hD hS ls hl
    refine lv_aload_n hx hb dX8_add_14 rfl (lv_at hl 0 rfl) ?_
    refine va_get (D := G) (ci := 6) (v := .int (v_2 0)) (C := RX8) (T := TX8) (N := 10) hx hb hts i_X8 hown hK hP 0 rfl rfl 0 (by decide) (hts (.fieldLink RX8 27 "RelayTuner$Swings" "count" "I") (by decide +kernel)) (fun _ h9 => h9) rfl dX8_add_15 ?_
    have J91_14 : ∀ (v_9 : Nat → Int32) (v_10 : Nat → Int32) (v_11 : Nat → Int32) (v_12 : Nat → Int32) (v_13 : Nat → Int32) (e_v_9 : v_9 = (if (v_2 0) < 0 then v_2 else (if 20 ≤ (v_2 0) then v_2 else (upd v_2 0 ((v_2 0) + 1))))) (e_v_10 : v_10 = (if (v_2 0) < 0 then v_3 else (if 20 ≤ (v_2 0) then v_3 else (upd v_3 (tn (v_2 0)) (a1 - (v_2 7)))))) (e_v_11 : v_11 = (if (v_2 0) < 0 then v_4 else (if 20 ≤ (v_2 0) then v_4 else (upd v_4 (tn (v_2 0)) (v_2 8))))) (e_v_12 : v_12 = (if (v_2 0) < 0 then v_5 else (if 20 ≤ (v_2 0) then v_5 else (upd v_5 (tn (v_2 0)) (v_2 9))))) (e_v_13 : v_13 = (if (v_2 0) < 0 then v_6 else (if 20 ≤ (v_2 0) then v_6 else (upd v_6 (tn (v_2 0)) a1)))) (H : Heap) (locs : List Loc) (hP : va_P G vwCl [kX8 h p1 p2 p3 p4 p5 v_9, aI y p1 20 v_10, aI y p2 20 v_11, aI y p3 20 v_12, aI y p4 20 v_13] H) (hD : va_D A [kX8 h p1 p2 p3 p4 p5 v_9, aI y p1 20 v_10, aI y p2 20 v_11, aI y p3 20 v_12, aI y p4 20 v_13]) (hS : va_S A s.heap H locs) (ls : Array Slot) (hl : lv_has ls 2 []), W p l e (headSpec wsX8_add rmX8_add).room s m ([.ref h, .int a1] : List Value).toArray below meth c H locs 0 0 QQ (F0 m 91 ls []) := by
      intro v_9 v_10 v_11 v_12 v_13 e_v_9 e_v_10 e_v_11 e_v_12 e_v_13 H locs hP hD hS ls hl
      rw [hQQ]
      exact W.vret hx hb hr (end_Hv () hP hD hS (congr (congr (congr (congr (congrArg (fun (z0 : Nat → Int32) (z1 : Nat → Int32) (z2 : Nat → Int32) (z3 : Nat → Int32) (z4 : Nat → Int32) => [kX8 h p1 p2 p3 p4 p5 z0, aI y p1 20 z1, aI y p2 20 z2, aI y p3 20 z3, aI y p4 20 z4]) (by subst e_v_13; subst e_v_12; subst e_v_11; subst e_v_10; subst e_v_9; subst e_v_6; subst e_v_5; subst e_v_4; subst e_v_3; subst e_v_2; unfold s_X8_add_w0; exact rfl)) (by subst e_v_13; subst e_v_12; subst e_v_11; subst e_v_10; subst e_v_9; subst e_v_6; subst e_v_5; subst e_v_4; subst e_v_3; subst e_v_2; unfold s_X8_add_w1; exact rfl)) (by subst e_v_13; subst e_v_12; subst e_v_11; subst e_v_10; subst e_v_9; subst e_v_6; subst e_v_5; subst e_v_4; subst e_v_3; subst e_v_2; unfold s_X8_add_w2; exact rfl)) (by subst e_v_13; subst e_v_12; subst e_v_11; subst e_v_10; subst e_v_9; subst e_v_6; subst e_v_5; subst e_v_4; subst e_v_3; subst e_v_2; unfold s_X8_add_w3; exact rfl)) (by subst e_v_13; subst e_v_12; subst e_v_11; subst e_v_10; subst e_v_9; subst e_v_6; subst e_v_5; subst e_v_4; subst e_v_3; subst e_v_2; unfold s_X8_add_w4; exact rfl))) hS.2.2 dX8_add_91
    refine lv_if_lt (tgt := 91) hx hb dX8_add_18 (by decide) (fun c_8 => ?_) (fun c_8 => ?_)
    · exact J91_14 _ _ _ _ _ (if_pos c_8).symm (if_pos c_8).symm (if_pos c_8).symm (if_pos c_8).symm (if_pos c_8).symm H locs hP hD hS ls (lv_sub hl [] rfl)
    · refine lv_aload_n hx hb dX8_add_21 rfl (lv_at hl 0 rfl) ?_
      refine va_get (D := G) (ci := 6) (v := .int (v_2 0)) (C := RX8) (T := TX8) (N := 10) hx hb hts i_X8 hown hK hP 0 rfl rfl 0 (by decide) (hts (.fieldLink RX8 27 "RelayTuner$Swings" "count" "I") (by decide +kernel)) (fun _ h9 => h9) rfl dX8_add_22 ?_
      refine lv_bipush (v := 20) hx hb dX8_add_25 (by decide) ?_
      refine lv_icmp_ge (tgt := 91) hx hb dX8_add_27 (by decide) (fun c_15 => ?_) (fun c_15 => ?_)
      · exact J91_14 _ _ _ _ _ ((if_neg c_8).trans (if_pos c_15)).symm ((if_neg c_8).trans (if_pos c_15)).symm ((if_neg c_8).trans (if_pos c_15)).symm ((if_neg c_8).trans (if_pos c_15)).symm ((if_neg c_8).trans (if_pos c_15)).symm H locs hP hD hS ls (lv_sub hl [] rfl)
      · refine lv_aload_n hx hb dX8_add_30 rfl (lv_at hl 0 rfl) ?_
        refine va_get (D := G) (ci := 6) (v := .ref p1) (C := RX8) (T := TX8) (N := 10) hx hb hts i_X8 hown hK hP 0 rfl rfl 1 (by decide) (hts (.fieldLink RX8 11 "RelayTuner$Swings" "periods" "[I") (by decide +kernel)) (fun _ h9 => h9) rfl dX8_add_31 ?_
        refine lv_aload_n hx hb dX8_add_34 rfl (lv_at hl 0 rfl) ?_
        refine va_get (D := G) (ci := 6) (v := .int (v_2 0)) (C := RX8) (T := TX8) (N := 10) hx hb hts i_X8 hown hK hP 0 rfl rfl 0 (by decide) (hts (.fieldLink RX8 27 "RelayTuner$Swings" "count" "I") (by decide +kernel)) (fun _ h9 => h9) rfl dX8_add_35 ?_
        refine lv_iload_n hx hb dX8_add_38 rfl (lv_at hl 1 rfl) ?_
        refine lv_aload_n hx hb dX8_add_39 rfl (lv_at hl 0 rfl) ?_
        refine va_get (D := G) (ci := 6) (v := .int (v_2 7)) (C := RX8) (T := TX8) (N := 10) hx hb hts i_X8 hown hK hP 0 rfl rfl 7 (by decide) (hts (.fieldLink RX8 41 "RelayTuner$Swings" "begin" "I") (by decide +kernel)) (fun _ h9 => h9) rfl dX8_add_40 ?_
        refine lv_isub hx hb dX8_add_43 ?_
        refine as_i (D := G) (n := 20) (f := v_3) hx hb hK hP hD hS 1 0 rfl rfl (tn (v_2 0)) (in_tn (vin2 c_8 c_15 rfl (by decide)) (by decide)).1 (in_tn (vin2 c_8 c_15 rfl (by decide)) (by decide)).2 (by first | decide | omega) dX8_add_44 (fun H locs hP hD hS => ?_)
        have hP : va_P G vwCl [kX8 h p1 p2 p3 p4 p5 v_2, aI y p1 20 (upd v_3 (tn (v_2 0)) (a1 - (v_2 7))), aI y p2 20 v_4, aI y p3 20 v_5, aI y p4 20 v_6] H := hP
        have hD : va_D A [kX8 h p1 p2 p3 p4 p5 v_2, aI y p1 20 (upd v_3 (tn (v_2 0)) (a1 - (v_2 7))), aI y p2 20 v_4, aI y p3 20 v_5, aI y p4 20 v_6] := hD
        refine lv_aload_n hx hb dX8_add_45 rfl (lv_at hl 0 rfl) ?_
        refine va_get (D := G) (ci := 6) (v := .ref p2) (C := RX8) (T := TX8) (N := 10) hx hb hts i_X8 hown hK hP 0 rfl rfl 2 (by decide) (hts (.fieldLink RX8 15 "RelayTuner$Swings" "highs" "[I") (by decide +kernel)) (fun _ h9 => h9) rfl dX8_add_46 ?_
        refine lv_aload_n hx hb dX8_add_49 rfl (lv_at hl 0 rfl) ?_
        refine va_get (D := G) (ci := 6) (v := .int (v_2 0)) (C := RX8) (T := TX8) (N := 10) hx hb hts i_X8 hown hK hP 0 rfl rfl 0 (by decide) (hts (.fieldLink RX8 27 "RelayTuner$Swings" "count" "I") (by decide +kernel)) (fun _ h9 => h9) rfl dX8_add_50 ?_
        refine lv_aload_n hx hb dX8_add_53 rfl (lv_at hl 0 rfl) ?_
        refine va_get (D := G) (ci := 6) (v := .int (v_2 8)) (C := RX8) (T := TX8) (N := 10) hx hb hts i_X8 hown hK hP 0 rfl rfl 8 (by decide) (hts (.fieldLink RX8 44 "RelayTuner$Swings" "high" "I") (by decide +kernel)) (fun _ h9 => h9) rfl dX8_add_54 ?_
        refine as_i (D := G) (n := 20) (f := v_4) hx hb hK hP hD hS 2 0 rfl rfl (tn (v_2 0)) (in_tn (vin2 c_8 c_15 rfl (by decide)) (by decide)).1 (in_tn (vin2 c_8 c_15 rfl (by decide)) (by decide)).2 (by first | decide | omega) dX8_add_57 (fun H locs hP hD hS => ?_)
        have hP : va_P G vwCl [kX8 h p1 p2 p3 p4 p5 v_2, aI y p1 20 (upd v_3 (tn (v_2 0)) (a1 - (v_2 7))), aI y p2 20 (upd v_4 (tn (v_2 0)) (v_2 8)), aI y p3 20 v_5, aI y p4 20 v_6] H := hP
        have hD : va_D A [kX8 h p1 p2 p3 p4 p5 v_2, aI y p1 20 (upd v_3 (tn (v_2 0)) (a1 - (v_2 7))), aI y p2 20 (upd v_4 (tn (v_2 0)) (v_2 8)), aI y p3 20 v_5, aI y p4 20 v_6] := hD
        refine lv_aload_n hx hb dX8_add_58 rfl (lv_at hl 0 rfl) ?_
        refine va_get (D := G) (ci := 6) (v := .ref p3) (C := RX8) (T := TX8) (N := 10) hx hb hts i_X8 hown hK hP 0 rfl rfl 3 (by decide) (hts (.fieldLink RX8 18 "RelayTuner$Swings" "lows" "[I") (by decide +kernel)) (fun _ h9 => h9) rfl dX8_add_59 ?_
        refine lv_aload_n hx hb dX8_add_62 rfl (lv_at hl 0 rfl) ?_
        refine va_get (D := G) (ci := 6) (v := .int (v_2 0)) (C := RX8) (T := TX8) (N := 10) hx hb hts i_X8 hown hK hP 0 rfl rfl 0 (by decide) (hts (.fieldLink RX8 27 "RelayTuner$Swings" "count" "I") (by decide +kernel)) (fun _ h9 => h9) rfl dX8_add_63 ?_
        refine lv_aload_n hx hb dX8_add_66 rfl (lv_at hl 0 rfl) ?_
        refine va_get (D := G) (ci := 6) (v := .int (v_2 9)) (C := RX8) (T := TX8) (N := 10) hx hb hts i_X8 hown hK hP 0 rfl rfl 9 (by decide) (hts (.fieldLink RX8 47 "RelayTuner$Swings" "low" "I") (by decide +kernel)) (fun _ h9 => h9) rfl dX8_add_67 ?_
        refine as_i (D := G) (n := 20) (f := v_5) hx hb hK hP hD hS 3 0 rfl rfl (tn (v_2 0)) (in_tn (vin2 c_8 c_15 rfl (by decide)) (by decide)).1 (in_tn (vin2 c_8 c_15 rfl (by decide)) (by decide)).2 (by first | decide | omega) dX8_add_70 (fun H locs hP hD hS => ?_)
        have hP : va_P G vwCl [kX8 h p1 p2 p3 p4 p5 v_2, aI y p1 20 (upd v_3 (tn (v_2 0)) (a1 - (v_2 7))), aI y p2 20 (upd v_4 (tn (v_2 0)) (v_2 8)), aI y p3 20 (upd v_5 (tn (v_2 0)) (v_2 9)), aI y p4 20 v_6] H := hP
        have hD : va_D A [kX8 h p1 p2 p3 p4 p5 v_2, aI y p1 20 (upd v_3 (tn (v_2 0)) (a1 - (v_2 7))), aI y p2 20 (upd v_4 (tn (v_2 0)) (v_2 8)), aI y p3 20 (upd v_5 (tn (v_2 0)) (v_2 9)), aI y p4 20 v_6] := hD
        refine lv_aload_n hx hb dX8_add_71 rfl (lv_at hl 0 rfl) ?_
        refine va_get (D := G) (ci := 6) (v := .ref p4) (C := RX8) (T := TX8) (N := 10) hx hb hts i_X8 hown hK hP 0 rfl rfl 4 (by decide) (hts (.fieldLink RX8 21 "RelayTuner$Swings" "ends" "[I") (by decide +kernel)) (fun _ h9 => h9) rfl dX8_add_72 ?_
        refine lv_aload_n hx hb dX8_add_75 rfl (lv_at hl 0 rfl) ?_
        refine va_get (D := G) (ci := 6) (v := .int (v_2 0)) (C := RX8) (T := TX8) (N := 10) hx hb hts i_X8 hown hK hP 0 rfl rfl 0 (by decide) (hts (.fieldLink RX8 27 "RelayTuner$Swings" "count" "I") (by decide +kernel)) (fun _ h9 => h9) rfl dX8_add_76 ?_
        refine lv_iload_n hx hb dX8_add_79 rfl (lv_at hl 1 rfl) ?_
        refine as_i (D := G) (n := 20) (f := v_6) hx hb hK hP hD hS 4 0 rfl rfl (tn (v_2 0)) (in_tn (vin2 c_8 c_15 rfl (by decide)) (by decide)).1 (in_tn (vin2 c_8 c_15 rfl (by decide)) (by decide)).2 (by first | decide | omega) dX8_add_80 (fun H locs hP hD hS => ?_)
        have hP : va_P G vwCl [kX8 h p1 p2 p3 p4 p5 v_2, aI y p1 20 (upd v_3 (tn (v_2 0)) (a1 - (v_2 7))), aI y p2 20 (upd v_4 (tn (v_2 0)) (v_2 8)), aI y p3 20 (upd v_5 (tn (v_2 0)) (v_2 9)), aI y p4 20 (upd v_6 (tn (v_2 0)) a1)] H := hP
        have hD : va_D A [kX8 h p1 p2 p3 p4 p5 v_2, aI y p1 20 (upd v_3 (tn (v_2 0)) (a1 - (v_2 7))), aI y p2 20 (upd v_4 (tn (v_2 0)) (v_2 8)), aI y p3 20 (upd v_5 (tn (v_2 0)) (v_2 9)), aI y p4 20 (upd v_6 (tn (v_2 0)) a1)] := hD
        refine lv_aload_n hx hb dX8_add_81 rfl (lv_at hl 0 rfl) ?_
        refine lv_dup hx hb dX8_add_82 rfl ?_
        refine va_get (D := G) (ci := 6) (v := .int (v_2 0)) (C := RX8) (T := TX8) (N := 10) hx hb hts i_X8 hown hK hP 0 rfl rfl 0 (by decide) (hts (.fieldLink RX8 27 "RelayTuner$Swings" "count" "I") (by decide +kernel)) (fun _ h9 => h9) rfl dX8_add_83 ?_
        refine lv_iconst (v := 1) hx hb dX8_add_86 (by decide) ?_
        refine lv_iadd hx hb dX8_add_87 ?_
        refine va_put (D := G) (ci := 6) (v := .int ((v_2 0) + 1)) (ty := .int) (C := RX8) (T := TX8) (N := 10) hx hb hts i_X8 tyX8 tyX8_ok nmX8 hown hK hP hD hS 0 rfl rfl 0 (by decide) (hts (.fieldLink RX8 27 "RelayTuner$Swings" "count" "I") (by decide +kernel)) (fun _ h9 => h9) rfl (by decide +kernel) rfl rfl (Nat.le_of_ble_eq_true rfl) dX8_add_88 (fun H locs hP hD hS => ?_)
        have hP : va_P G vwCl [kX8 h p1 p2 p3 p4 p5 (upd v_2 0 ((v_2 0) + 1)), aI y p1 20 (upd v_3 (tn (v_2 0)) (a1 - (v_2 7))), aI y p2 20 (upd v_4 (tn (v_2 0)) (v_2 8)), aI y p3 20 (upd v_5 (tn (v_2 0)) (v_2 9)), aI y p4 20 (upd v_6 (tn (v_2 0)) a1)] H := hP
        have hD : va_D A [kX8 h p1 p2 p3 p4 p5 (upd v_2 0 ((v_2 0) + 1)), aI y p1 20 (upd v_3 (tn (v_2 0)) (a1 - (v_2 7))), aI y p2 20 (upd v_4 (tn (v_2 0)) (v_2 8)), aI y p3 20 (upd v_5 (tn (v_2 0)) (v_2 9)), aI y p4 20 (upd v_6 (tn (v_2 0)) a1)] := hD
        exact J91_14 _ _ _ _ _ ((if_neg c_8).trans (if_neg c_15)).symm ((if_neg c_8).trans (if_neg c_15)).symm ((if_neg c_8).trans (if_neg c_15)).symm ((if_neg c_8).trans (if_neg c_15)).symm ((if_neg c_8).trans (if_neg c_15)).symm H locs hP hD hS ls (lv_sub hl [] rfl)
  refine lv_icmp_lt (tgt := 14) hx hb dX8_add_6 (by decide) (fun c_1 => ?_) (fun c_1 => ?_)
  · exact J14_7 _ _ _ _ _ (if_pos c_1).symm (if_pos c_1).symm (if_pos c_1).symm (if_pos c_1).symm (if_pos c_1).symm s.heap [] hP hD hS ls (lv_sub hl [0, 1] rfl)
  · refine lv_aload_n hx hb dX8_add_9 rfl (lv_at hl 0 rfl) ?_
    refine lv_iconst (v := 0) hx hb dX8_add_10 (by decide) ?_
    refine cl_Hv (wr := []) (fun _ : Unit => [kX8 h p1 p2 p3 p4 p5 (s_X8_drop_w0 0 x), aI y p1 20 (s_X8_drop_w1 0 x fp), aI y p2 20 (s_X8_drop_w2 0 x fh), aI y p3 20 (s_X8_drop_w3 0 x fl), aI y p4 20 (s_X8_drop_w4 0 x fe)]) [0, 1, 2, 3, 4] [] [0, 1, 2, 3, 4] (va_runV (As := [.int 0]) (rest := []) ⟨hx, hb, hml, hown, hts⟩ (c_X8_drop l G y h 0 p1 p2 p3 p4 p5 x fp fh fl fe s.heap.size h0) (cwV 1 hts gX8_add_X8_drop rfl rfl rfl (by decide +kernel) ⟨Nat.le_of_ble_eq_true rfl, Nat.le_of_ble_eq_true rfl⟩) (PH_V (hP.sub (ws' := [kX8 h p1 p2 p3 p4 p5 x, aI y p1 20 fp, aI y p2 20 fh, aI y p3 20 fl, aI y p4 20 fe]) [0, 1, 2, 3, 4] rfl) hK hN (hD.sub (ws' := [kX8 h p1 p2 p3 p4 p5 x, aI y p1 20 fp, aI y p2 20 fh, aI y p3 20 fl, aI y p4 20 fe]) [0, 1, 2, 3, 4] (by decide) rfl) (ci := 6) (q0 := 0) rfl rfl) rfl rfl hl.1 rfl (lv_room (Nat.le_of_ble_eq_true rfl)) dX8_add_11 ⟨Nat.le_of_ble_eq_true rfl, Nat.le_of_ble_eq_true rfl⟩) hP hD hS hA rfl rfl rfl (by decide) rfl (fun _ => rfl) (fun _ H locs hP hD hS => ?_)
    have hP : va_P G vwCl [kX8 h p1 p2 p3 p4 p5 (s_X8_drop_w0 0 x), aI y p1 20 (s_X8_drop_w1 0 x fp), aI y p2 20 (s_X8_drop_w2 0 x fh), aI y p3 20 (s_X8_drop_w3 0 x fl), aI y p4 20 (s_X8_drop_w4 0 x fe)] H := hP
    have hD : va_D A [kX8 h p1 p2 p3 p4 p5 (s_X8_drop_w0 0 x), aI y p1 20 (s_X8_drop_w1 0 x fp), aI y p2 20 (s_X8_drop_w2 0 x fh), aI y p3 20 (s_X8_drop_w3 0 x fl), aI y p4 20 (s_X8_drop_w4 0 x fe)] := hD
    exact J14_7 _ _ _ _ _ (if_neg c_1).symm (if_neg c_1).symm (if_neg c_1).symm (if_neg c_1).symm (if_neg c_1).symm H locs hP hD hS ls (lv_sub hl [0, 1] rfl)

def s_X8_watch_r (a1 : Int32) (a2 : Int32) (a3 : Int32) : Int32 := (if a3 ≤ a1 then 0 else (if a3 ≤ a2 then 1 else 0))
def s_X8_watch_w0 (a1 : Int32) (a2 : Int32) (a3 : Int32) (a4 : Int32) (x : Nat → Int32) : Nat → Int32 := (let v_1 : Int32 := (if (x 8) < a2 then a2 else (x 8)); (let v_2 : Int32 := (if a2 < (x 9) then a2 else (x 9)); (if a3 ≤ a1 then (upd (upd x 8 v_1) 9 v_2) else (if a3 ≤ a2 then (let v_6 : Nat → Int32 := (if (x 6) = 0 then (upd (upd x 8 v_1) 9 v_2) else (s_X8_add_w0 (upd (upd x 8 v_1) 9 v_2))); (upd (upd (upd (upd v_6 6 1) 7 a4) 8 (-9999)) 9 9999)) else (upd (upd x 8 v_1) 9 v_2)))))
def s_X8_watch_w1 (a1 : Int32) (a2 : Int32) (a3 : Int32) (a4 : Int32) (x : Nat → Int32) (fp : Nat → Int32) : Nat → Int32 := (let v_1 : Int32 := (if (x 8) < a2 then a2 else (x 8)); (let v_2 : Int32 := (if a2 < (x 9) then a2 else (x 9)); (if a3 ≤ a1 then fp else (if a3 ≤ a2 then (let v_7 : Nat → Int32 := (if (x 6) = 0 then fp else (s_X8_add_w1 a4 (upd (upd x 8 v_1) 9 v_2) fp)); v_7) else fp))))
def s_X8_watch_w2 (a1 : Int32) (a2 : Int32) (a3 : Int32) (x : Nat → Int32) (fh : Nat → Int32) : Nat → Int32 := (let v_1 : Int32 := (if (x 8) < a2 then a2 else (x 8)); (let v_2 : Int32 := (if a2 < (x 9) then a2 else (x 9)); (if a3 ≤ a1 then fh else (if a3 ≤ a2 then (let v_8 : Nat → Int32 := (if (x 6) = 0 then fh else (s_X8_add_w2 (upd (upd x 8 v_1) 9 v_2) fh)); v_8) else fh))))
def s_X8_watch_w3 (a1 : Int32) (a2 : Int32) (a3 : Int32) (x : Nat → Int32) (fl : Nat → Int32) : Nat → Int32 := (let v_1 : Int32 := (if (x 8) < a2 then a2 else (x 8)); (let v_2 : Int32 := (if a2 < (x 9) then a2 else (x 9)); (if a3 ≤ a1 then fl else (if a3 ≤ a2 then (let v_9 : Nat → Int32 := (if (x 6) = 0 then fl else (s_X8_add_w3 (upd (upd x 8 v_1) 9 v_2) fl)); v_9) else fl))))
def s_X8_watch_w4 (a1 : Int32) (a2 : Int32) (a3 : Int32) (a4 : Int32) (x : Nat → Int32) (fe : Nat → Int32) : Nat → Int32 := (let v_1 : Int32 := (if (x 8) < a2 then a2 else (x 8)); (let v_2 : Int32 := (if a2 < (x 9) then a2 else (x 9)); (if a3 ≤ a1 then fe else (if a3 ≤ a2 then (let v_10 : Nat → Int32 := (if (x 6) = 0 then fe else (s_X8_add_w4 a4 (upd (upd x 8 v_1) 9 v_2) fe)); v_10) else fe))))
theorem z_X8_watch (a1 : Int32) (a2 : Int32) (a3 : Int32) : s_X8_watch_r a1 a2 a3 = 0 ∨ s_X8_watch_r a1 a2 a3 = 1 := by unfold s_X8_watch_r; (try dsimp only); exact (z_ite (Or.inl rfl) (z_ite (Or.inr rfl) (Or.inl rfl)))
abbrev rmX8_watch : Room := ({ frames := 2, cells := 0, slots := 0, locals := 43 } : Room)
set_option maxHeartbeats 4000000 in
set_option maxRecDepth 100000 in
theorem c_X8_watch (l : Launch) (G : va_G) (y : Nat → ClassId) (h : Nat) (a1 : Int32) (a2 : Int32) (a3 : Int32) (a4 : Int32) (p1 : Nat) (p2 : Nat) (p3 : Nat) (p4 : Nat) (p5 : Nat) (x : Nat → Int32) (fp : Nat → Int32) (fh : Nat → Int32) (fl : Nat → Int32) (fe : Nat → Int32) (sz : Nat) (h0 : vp_in (x 0) 21) : Met l yX8_watch wsX8_watch rmX8_watch (PH G y [.ref h, .int a1, .int a2, .int a3, .int a4] [kX8 h p1 p2 p3 p4 p5 x, aI y p1 20 fp, aI y p2 20 fh, aI y p3 20 fl, aI y p4 20 fe] sz) (QHi G (s_X8_watch_r a1 a2 a3) (fun _ : Unit => [kX8 h p1 p2 p3 p4 p5 (s_X8_watch_w0 a1 a2 a3 a4 x), aI y p1 20 (s_X8_watch_w1 a1 a2 a3 a4 x fp), aI y p2 20 (s_X8_watch_w2 a1 a2 a3 x fh), aI y p3 20 (s_X8_watch_w3 a1 a2 a3 x fl), aI y p4 20 (s_X8_watch_w4 a1 a2 a3 a4 x fe)]) (va_A [kX8 h p1 p2 p3 p4 p5 x, aI y p1 20 fp, aI y p2 20 fh, aI y p3 20 fl, aI y p4 20 fe] sz)) 0 0 (va_A [kX8 h p1 p2 p3 p4 p5 x, aI y p1 20 fp, aI y p2 20 fh, aI y p3 20 fl, aI y p4 20 fe] sz) := by
  refine Met.ofW (cc := cX8_watch) (maxL := 5) (ret := (some .boolean)) (by decide) rfl ?_
  intro p e s m args below meth c s₁ B hml hv
  obtain ⟨rfl, hsz, hP, ⟨hK, hN⟩, hD0⟩ := hv
  have hx := B.exec
  have hb := B.bytes
  have hr := B.returns
  have hts := atoms_spec (ws := wsX8_watch) B.pre
  have hown : s.vm.findClass RX8 = some m.cls := findClass_of_methodNamed B.named
  have hlocks := B.notSynchronized
  have i_X8 : ∀ w ∈ u_ws RX8 TX8 10, w ∈ wsX8_watch := by decide +kernel
  subst hsz
  have hD := hD0.self (sz := s.heap.size)
  generalize hAe : va_A [kX8 h p1 p2 p3 p4 p5 x, aI y p1 20 fp, aI y p2 20 fh, aI y p3 20 fl, aI y p4 20 fe] s.heap.size = A at hD ⊢
  have hA : ∀ q : Nat, s.heap.size ≤ q → A q := fun q h => by rw [← hAe]; exact Or.inr h
  have hS : va_S A s.heap s.heap [] := va_S.rf
  have hP : va_P G vwCl [kX8 h p1 p2 p3 p4 p5 x, aI y p1 20 fp, aI y p2 20 fh, aI y p3 20 fl, aI y p4 20 fe] s.heap := hP
  have hl := lv_entry ([.ref h, .int a1, .int a2, .int a3, .int a4]) (n := 5) (Nat.le_of_ble_eq_true rfl)
  rw [lg_entry_eq]
  generalize (lg_sl ([.ref h, .int a1, .int a2, .int a3, .int a4]) ++ List.replicate (5 - (lg_sl ([.ref h, .int a1, .int a2, .int a3, .int a4])).length) Slot.unset).toArray = ls at hl ⊢
  have hl : lv_has ls 5 [(0, .ref h), (1, .int a1), (2, .int a2), (3, .int a3), (4, .int a4)] := hl
  obtain ⟨QQ, hQQ⟩ : ∃ zq9, zq9 = MQ below (QHi G (s_X8_watch_r a1 a2 a3) (fun _ : Unit => [kX8 h p1 p2 p3 p4 p5 (s_X8_watch_w0 a1 a2 a3 a4 x), aI y p1 20 (s_X8_watch_w1 a1 a2 a3 a4 x fp), aI y p2 20 (s_X8_watch_w2 a1 a2 a3 x fh), aI y p3 20 (s_X8_watch_w3 a1 a2 a3 x fl), aI y p4 20 (s_X8_watch_w4 a1 a2 a3 a4 x fe)]) A) ([.ref h, .int a1, .int a2, .int a3, .int a4] : List Value).toArray s 0 0 A := ⟨_, rfl⟩
  rw [← hQQ]
  refine lv_aload_n hx hb dX8_watch_0 rfl (lv_at hl 0 rfl) ?_
  refine lv_aload_n hx hb dX8_watch_1 rfl (lv_at hl 0 rfl) ?_
  refine va_get (D := G) (ci := 6) (v := .int (x 8)) (C := RX8) (T := TX8) (N := 10) hx hb hts i_X8 hown hK hP 0 rfl rfl 8 (by decide) (hts (.fieldLink RX8 44 "RelayTuner$Swings" "high" "I") (by decide +kernel)) (fun _ h9 => h9) rfl dX8_watch_2 ?_
  refine lv_iload_n hx hb dX8_watch_5 rfl (lv_at hl 2 rfl) ?_
  obtain ⟨v_1, e_v_1⟩ : ∃ zq9 : Int32, zq9 = (if (x 8) < a2 then a2 else (x 8)) := ⟨_, rfl⟩
  refine va_mmax hx hb (hml.trans hl.1.symm) hown (hts (.methodLink RX8 55 Lib.Math.max.name) (by decide +kernel)) (hts (.static Lib.Math.max.name) (by decide +kernel)) (hts (.initialized "java/lang/Math") (by decide +kernel)) (hts (.code Lib.Math.max.name Lib.Math.max.code 2 (some .int)) (by decide +kernel)) (Nat.le_of_ble_eq_true rfl) (Nat.le_of_ble_eq_true rfl) (Nat.le_of_ble_eq_true rfl) (Nat.le_of_ble_eq_true rfl) dX8_watch_6 ?_
  refine rw_i (x' := v_1) e_v_1.symm ?_
  refine va_put (D := G) (ci := 6) (v := .int v_1) (ty := .int) (C := RX8) (T := TX8) (N := 10) hx hb hts i_X8 tyX8 tyX8_ok nmX8 hown hK hP hD hS 0 rfl rfl 8 (by decide) (hts (.fieldLink RX8 44 "RelayTuner$Swings" "high" "I") (by decide +kernel)) (fun _ h9 => h9) rfl (by decide +kernel) rfl rfl (Nat.le_of_ble_eq_true rfl) dX8_watch_9 (fun H locs hP hD hS => ?_)
  have hP : va_P G vwCl [kX8 h p1 p2 p3 p4 p5 (upd x 8 v_1), aI y p1 20 fp, aI y p2 20 fh, aI y p3 20 fl, aI y p4 20 fe] H := hP
  have hD : va_D A [kX8 h p1 p2 p3 p4 p5 (upd x 8 v_1), aI y p1 20 fp, aI y p2 20 fh, aI y p3 20 fl, aI y p4 20 fe] := hD
  refine lv_aload_n hx hb dX8_watch_12 rfl (lv_at hl 0 rfl) ?_
  refine lv_aload_n hx hb dX8_watch_13 rfl (lv_at hl 0 rfl) ?_
  refine va_get (D := G) (ci := 6) (v := .int (x 9)) (C := RX8) (T := TX8) (N := 10) hx hb hts i_X8 hown hK hP 0 rfl rfl 9 (by decide) (hts (.fieldLink RX8 47 "RelayTuner$Swings" "low" "I") (by decide +kernel)) (fun _ h9 => h9) rfl dX8_watch_14 ?_
  refine lv_iload_n hx hb dX8_watch_17 rfl (lv_at hl 2 rfl) ?_
  obtain ⟨v_2, e_v_2⟩ : ∃ zq9 : Int32, zq9 = (if a2 < (x 9) then a2 else (x 9)) := ⟨_, rfl⟩
  refine va_mmin hx hb (hml.trans hl.1.symm) hown (hts (.methodLink RX8 61 Lib.Math.min.name) (by decide +kernel)) (hts (.static Lib.Math.min.name) (by decide +kernel)) (hts (.initialized "java/lang/Math") (by decide +kernel)) (hts (.code Lib.Math.min.name Lib.Math.min.code 2 (some .int)) (by decide +kernel)) (Nat.le_of_ble_eq_true rfl) (Nat.le_of_ble_eq_true rfl) (Nat.le_of_ble_eq_true rfl) (Nat.le_of_ble_eq_true rfl) dX8_watch_18 ?_
  refine rw_i (x' := v_2) e_v_2.symm ?_
  refine va_put (D := G) (ci := 6) (v := .int v_2) (ty := .int) (C := RX8) (T := TX8) (N := 10) hx hb hts i_X8 tyX8 tyX8_ok nmX8 hown hK hP hD hS 0 rfl rfl 9 (by decide) (hts (.fieldLink RX8 47 "RelayTuner$Swings" "low" "I") (by decide +kernel)) (fun _ h9 => h9) rfl (by decide +kernel) rfl rfl (Nat.le_of_ble_eq_true rfl) dX8_watch_21 (fun H locs hP hD hS => ?_)
  have hP : va_P G vwCl [kX8 h p1 p2 p3 p4 p5 (upd (upd x 8 v_1) 9 v_2), aI y p1 20 fp, aI y p2 20 fh, aI y p3 20 fl, aI y p4 20 fe] H := hP
  have hD : va_D A [kX8 h p1 p2 p3 p4 p5 (upd (upd x 8 v_1) 9 v_2), aI y p1 20 fp, aI y p2 20 fh, aI y p3 20 fl, aI y p4 20 fe] := hD
  refine lv_iload_n hx hb dX8_watch_24 rfl (lv_at hl 1 rfl) ?_
  refine lv_iload_n hx hb dX8_watch_25 rfl (lv_at hl 3 rfl) ?_
  refine lv_icmp_ge (tgt := 34) hx hb dX8_watch_26 (by decide) (fun c_3 => ?_) (fun c_3 => ?_)
  · refine lv_iconst (v := 0) hx hb dX8_watch_34 (by decide) ?_
    rw [hQQ]
    exact W.zret hx hb hr (nz_bool (Or.inl rfl)) (end_Hi () hP hD hS (by subst e_v_2; subst e_v_1; unfold s_X8_watch_r; exact (if_pos c_3).symm) (congr (congr (congr (congr (congrArg (fun (z0 : Nat → Int32) (z1 : Nat → Int32) (z2 : Nat → Int32) (z3 : Nat → Int32) (z4 : Nat → Int32) => [kX8 h p1 p2 p3 p4 p5 z0, aI y p1 20 z1, aI y p2 20 z2, aI y p3 20 z3, aI y p4 20 z4]) (by subst e_v_2; subst e_v_1; unfold s_X8_watch_w0; exact (if_pos c_3).symm)) (by subst e_v_2; subst e_v_1; unfold s_X8_watch_w1; exact (if_pos c_3).symm)) (by subst e_v_2; subst e_v_1; unfold s_X8_watch_w2; exact (if_pos c_3).symm)) (by subst e_v_2; subst e_v_1; unfold s_X8_watch_w3; exact (if_pos c_3).symm)) (by subst e_v_2; subst e_v_1; unfold s_X8_watch_w4; exact (if_pos c_3).symm))) hS.2.2 dX8_watch_35
  · refine lv_iload_n hx hb dX8_watch_29 rfl (lv_at hl 2 rfl) ?_
    refine lv_iload_n hx hb dX8_watch_30 rfl (lv_at hl 3 rfl) ?_
    refine lv_icmp_ge (tgt := 36) hx hb dX8_watch_31 (by decide) (fun c_4 => ?_) (fun c_4 => ?_)
    · refine lv_aload_n hx hb dX8_watch_36 rfl (lv_at hl 0 rfl) ?_
      refine va_get (D := G) (ci := 6) (v := .int (x 6)) (C := RX8) (T := TX8) (N := 10) hx hb hts i_X8 hown hK hP 0 rfl rfl 6 (by decide) (hts (.fieldLink RX8 37 "RelayTuner$Swings" "goingOn" "Z") (by decide +kernel)) (fun _ h9 => h9) rfl dX8_watch_37 ?_
      have J49_11 : ∀ (v_6 : Nat → Int32) (v_7 : Nat → Int32) (v_8 : Nat → Int32) (v_9 : Nat → Int32) (v_10 : Nat → Int32) (e_v_6 : v_6 = (if (x 6) = 0 then (upd (upd x 8 v_1) 9 v_2) else (s_X8_add_w0 (upd (upd x 8 v_1) 9 v_2)))) (e_v_7 : v_7 = (if (x 6) = 0 then fp else (s_X8_add_w1 a4 (upd (upd x 8 v_1) 9 v_2) fp))) (e_v_8 : v_8 = (if (x 6) = 0 then fh else (s_X8_add_w2 (upd (upd x 8 v_1) 9 v_2) fh))) (e_v_9 : v_9 = (if (x 6) = 0 then fl else (s_X8_add_w3 (upd (upd x 8 v_1) 9 v_2) fl))) (e_v_10 : v_10 = (if (x 6) = 0 then fe else (s_X8_add_w4 a4 (upd (upd x 8 v_1) 9 v_2) fe))) (H : Heap) (locs : List Loc) (hP : va_P G vwCl [kX8 h p1 p2 p3 p4 p5 v_6, aI y p1 20 v_7, aI y p2 20 v_8, aI y p3 20 v_9, aI y p4 20 v_10] H) (hD : va_D A [kX8 h p1 p2 p3 p4 p5 v_6, aI y p1 20 v_7, aI y p2 20 v_8, aI y p3 20 v_9, aI y p4 20 v_10]) (hS : va_S A s.heap H locs) (ls : Array Slot) (hl : lv_has ls 5 [(0, .ref h), (4, .int a4)]), W p l e (headSpec wsX8_watch rmX8_watch).room s m ([.ref h, .int a1, .int a2, .int a3, .int a4] : List Value).toArray below meth c H locs 0 0 QQ (F0 m 49 ls []) := by
        intro v_6 v_7 v_8 v_9 v_10 e_v_6 e_v_7 e_v_8 e_v_9 e_v_10 H locs hP hD hS ls hl
        refine lv_aload_n hx hb dX8_watch_49 rfl (lv_at hl 0 rfl) ?_
        refine lv_iconst (v := 1) hx hb dX8_watch_50 (by decide) ?_
        refine va_put (D := G) (ci := 6) (v := .int 1) (ty := .boolean) (C := RX8) (T := TX8) (N := 10) hx hb hts i_X8 tyX8 tyX8_ok nmX8 hown hK hP hD hS 0 rfl rfl 6 (by decide) (hts (.fieldLink RX8 37 "RelayTuner$Swings" "goingOn" "Z") (by decide +kernel)) (fun _ h9 => h9) rfl (by decide +kernel) (nz_bool (Or.inr rfl)) (fz_bool (Or.inr rfl)) (Nat.le_of_ble_eq_true rfl) dX8_watch_51 (fun H locs hP hD hS => ?_)
        have hP : va_P G vwCl [kX8 h p1 p2 p3 p4 p5 (upd v_6 6 1), aI y p1 20 v_7, aI y p2 20 v_8, aI y p3 20 v_9, aI y p4 20 v_10] H := hP
        have hD : va_D A [kX8 h p1 p2 p3 p4 p5 (upd v_6 6 1), aI y p1 20 v_7, aI y p2 20 v_8, aI y p3 20 v_9, aI y p4 20 v_10] := hD
        refine lv_aload_n hx hb dX8_watch_54 rfl (lv_at hl 0 rfl) ?_
        refine lv_iload hx hb dX8_watch_55 (lv_at hl 1 rfl) ?_
        refine va_put (D := G) (ci := 6) (v := .int a4) (ty := .int) (C := RX8) (T := TX8) (N := 10) hx hb hts i_X8 tyX8 tyX8_ok nmX8 hown hK hP hD hS 0 rfl rfl 7 (by decide) (hts (.fieldLink RX8 41 "RelayTuner$Swings" "begin" "I") (by decide +kernel)) (fun _ h9 => h9) rfl (by decide +kernel) rfl rfl (Nat.le_of_ble_eq_true rfl) dX8_watch_57 (fun H locs hP hD hS => ?_)
        have hP : va_P G vwCl [kX8 h p1 p2 p3 p4 p5 (upd (upd v_6 6 1) 7 a4), aI y p1 20 v_7, aI y p2 20 v_8, aI y p3 20 v_9, aI y p4 20 v_10] H := hP
        have hD : va_D A [kX8 h p1 p2 p3 p4 p5 (upd (upd v_6 6 1) 7 a4), aI y p1 20 v_7, aI y p2 20 v_8, aI y p3 20 v_9, aI y p4 20 v_10] := hD
        refine lv_aload_n hx hb dX8_watch_60 rfl (lv_at hl 0 rfl) ?_
        refine lv_sipush (v := (-9999)) hx hb dX8_watch_61 (by decide) ?_
        refine va_put (D := G) (ci := 6) (v := .int (-9999)) (ty := .int) (C := RX8) (T := TX8) (N := 10) hx hb hts i_X8 tyX8 tyX8_ok nmX8 hown hK hP hD hS 0 rfl rfl 8 (by decide) (hts (.fieldLink RX8 44 "RelayTuner$Swings" "high" "I") (by decide +kernel)) (fun _ h9 => h9) rfl (by decide +kernel) rfl rfl (Nat.le_of_ble_eq_true rfl) dX8_watch_64 (fun H locs hP hD hS => ?_)
        have hP : va_P G vwCl [kX8 h p1 p2 p3 p4 p5 (upd (upd (upd v_6 6 1) 7 a4) 8 (-9999)), aI y p1 20 v_7, aI y p2 20 v_8, aI y p3 20 v_9, aI y p4 20 v_10] H := hP
        have hD : va_D A [kX8 h p1 p2 p3 p4 p5 (upd (upd (upd v_6 6 1) 7 a4) 8 (-9999)), aI y p1 20 v_7, aI y p2 20 v_8, aI y p3 20 v_9, aI y p4 20 v_10] := hD
        refine lv_aload_n hx hb dX8_watch_67 rfl (lv_at hl 0 rfl) ?_
        refine lv_sipush (v := 9999) hx hb dX8_watch_68 (by decide) ?_
        refine va_put (D := G) (ci := 6) (v := .int 9999) (ty := .int) (C := RX8) (T := TX8) (N := 10) hx hb hts i_X8 tyX8 tyX8_ok nmX8 hown hK hP hD hS 0 rfl rfl 9 (by decide) (hts (.fieldLink RX8 47 "RelayTuner$Swings" "low" "I") (by decide +kernel)) (fun _ h9 => h9) rfl (by decide +kernel) rfl rfl (Nat.le_of_ble_eq_true rfl) dX8_watch_71 (fun H locs hP hD hS => ?_)
        have hP : va_P G vwCl [kX8 h p1 p2 p3 p4 p5 (upd (upd (upd (upd v_6 6 1) 7 a4) 8 (-9999)) 9 9999), aI y p1 20 v_7, aI y p2 20 v_8, aI y p3 20 v_9, aI y p4 20 v_10] H := hP
        have hD : va_D A [kX8 h p1 p2 p3 p4 p5 (upd (upd (upd (upd v_6 6 1) 7 a4) 8 (-9999)) 9 9999), aI y p1 20 v_7, aI y p2 20 v_8, aI y p3 20 v_9, aI y p4 20 v_10] := hD
        refine lv_iconst (v := 1) hx hb dX8_watch_74 (by decide) ?_
        rw [hQQ]
        exact W.zret hx hb hr (nz_bool (Or.inr rfl)) (end_Hi () hP hD hS (by subst e_v_10; subst e_v_9; subst e_v_8; subst e_v_7; subst e_v_6; subst e_v_2; subst e_v_1; unfold s_X8_watch_r; exact ((if_neg c_3).trans (if_pos c_4)).symm) (congr (congr (congr (congr (congrArg (fun (z0 : Nat → Int32) (z1 : Nat → Int32) (z2 : Nat → Int32) (z3 : Nat → Int32) (z4 : Nat → Int32) => [kX8 h p1 p2 p3 p4 p5 z0, aI y p1 20 z1, aI y p2 20 z2, aI y p3 20 z3, aI y p4 20 z4]) (by subst e_v_10; subst e_v_9; subst e_v_8; subst e_v_7; subst e_v_6; subst e_v_2; subst e_v_1; unfold s_X8_watch_w0; exact ((if_neg c_3).trans (if_pos c_4)).symm)) (by subst e_v_10; subst e_v_9; subst e_v_8; subst e_v_7; subst e_v_6; subst e_v_2; subst e_v_1; unfold s_X8_watch_w1; exact ((if_neg c_3).trans (if_pos c_4)).symm)) (by subst e_v_10; subst e_v_9; subst e_v_8; subst e_v_7; subst e_v_6; subst e_v_2; subst e_v_1; unfold s_X8_watch_w2; exact ((if_neg c_3).trans (if_pos c_4)).symm)) (by subst e_v_10; subst e_v_9; subst e_v_8; subst e_v_7; subst e_v_6; subst e_v_2; subst e_v_1; unfold s_X8_watch_w3; exact ((if_neg c_3).trans (if_pos c_4)).symm)) (by subst e_v_10; subst e_v_9; subst e_v_8; subst e_v_7; subst e_v_6; subst e_v_2; subst e_v_1; unfold s_X8_watch_w4; exact ((if_neg c_3).trans (if_pos c_4)).symm))) hS.2.2 dX8_watch_75
      refine lv_if_eq (tgt := 49) hx hb dX8_watch_40 (by decide) (fun c_5 => ?_) (fun c_5 => ?_)
      · exact J49_11 _ _ _ _ _ (if_pos c_5).symm (if_pos c_5).symm (if_pos c_5).symm (if_pos c_5).symm (if_pos c_5).symm H locs hP hD hS ls (lv_sub hl [0, 4] rfl)
      · refine lv_aload_n hx hb dX8_watch_43 rfl (lv_at hl 0 rfl) ?_
        refine lv_iload hx hb dX8_watch_44 (lv_at hl 4 rfl) ?_
        refine cl_Hv (wr := []) (fun _ : Unit => [kX8 h p1 p2 p3 p4 p5 (s_X8_add_w0 (upd (upd x 8 v_1) 9 v_2)), aI y p1 20 (s_X8_add_w1 a4 (upd (upd x 8 v_1) 9 v_2) fp), aI y p2 20 (s_X8_add_w2 (upd (upd x 8 v_1) 9 v_2) fh), aI y p3 20 (s_X8_add_w3 (upd (upd x 8 v_1) 9 v_2) fl), aI y p4 20 (s_X8_add_w4 a4 (upd (upd x 8 v_1) 9 v_2) fe)]) [0, 1, 2, 3, 4] [] [0, 1, 2, 3, 4] (va_runV (As := [.int a4]) (rest := []) ⟨hx, hb, hml, hown, hts⟩ (c_X8_add l G y h a4 p1 p2 p3 p4 p5 (upd (upd x 8 v_1) 9 v_2) fp fh fl fe H.size h0) (cwV 1 hts gX8_watch_X8_add rfl rfl rfl (by decide +kernel) ⟨Nat.le_of_ble_eq_true rfl, Nat.le_of_ble_eq_true rfl⟩) (PH_V (hP.sub (ws' := [kX8 h p1 p2 p3 p4 p5 (upd (upd x 8 v_1) 9 v_2), aI y p1 20 fp, aI y p2 20 fh, aI y p3 20 fl, aI y p4 20 fe]) [0, 1, 2, 3, 4] rfl) hK hN (hD.sub (ws' := [kX8 h p1 p2 p3 p4 p5 (upd (upd x 8 v_1) 9 v_2), aI y p1 20 fp, aI y p2 20 fh, aI y p3 20 fl, aI y p4 20 fe]) [0, 1, 2, 3, 4] (by decide) rfl) (ci := 6) (q0 := 0) rfl rfl) rfl rfl hl.1 rfl (lv_room (Nat.le_of_ble_eq_true rfl)) dX8_watch_46 ⟨Nat.le_of_ble_eq_true rfl, Nat.le_of_ble_eq_true rfl⟩) hP hD hS hA rfl rfl rfl (by decide) rfl (fun _ => rfl) (fun _ H locs hP hD hS => ?_)
        have hP : va_P G vwCl [kX8 h p1 p2 p3 p4 p5 (s_X8_add_w0 (upd (upd x 8 v_1) 9 v_2)), aI y p1 20 (s_X8_add_w1 a4 (upd (upd x 8 v_1) 9 v_2) fp), aI y p2 20 (s_X8_add_w2 (upd (upd x 8 v_1) 9 v_2) fh), aI y p3 20 (s_X8_add_w3 (upd (upd x 8 v_1) 9 v_2) fl), aI y p4 20 (s_X8_add_w4 a4 (upd (upd x 8 v_1) 9 v_2) fe)] H := hP
        have hD : va_D A [kX8 h p1 p2 p3 p4 p5 (s_X8_add_w0 (upd (upd x 8 v_1) 9 v_2)), aI y p1 20 (s_X8_add_w1 a4 (upd (upd x 8 v_1) 9 v_2) fp), aI y p2 20 (s_X8_add_w2 (upd (upd x 8 v_1) 9 v_2) fh), aI y p3 20 (s_X8_add_w3 (upd (upd x 8 v_1) 9 v_2) fl), aI y p4 20 (s_X8_add_w4 a4 (upd (upd x 8 v_1) 9 v_2) fe)] := hD
        exact J49_11 _ _ _ _ _ (if_neg c_5).symm (if_neg c_5).symm (if_neg c_5).symm (if_neg c_5).symm (if_neg c_5).symm H locs hP hD hS ls (lv_sub hl [0, 4] rfl)
    · refine lv_iconst (v := 0) hx hb dX8_watch_34 (by decide) ?_
      rw [hQQ]
      exact W.zret hx hb hr (nz_bool (Or.inl rfl)) (end_Hi () hP hD hS (by subst e_v_2; subst e_v_1; unfold s_X8_watch_r; exact ((if_neg c_3).trans (if_neg c_4)).symm) (congr (congr (congr (congr (congrArg (fun (z0 : Nat → Int32) (z1 : Nat → Int32) (z2 : Nat → Int32) (z3 : Nat → Int32) (z4 : Nat → Int32) => [kX8 h p1 p2 p3 p4 p5 z0, aI y p1 20 z1, aI y p2 20 z2, aI y p3 20 z3, aI y p4 20 z4]) (by subst e_v_2; subst e_v_1; unfold s_X8_watch_w0; exact ((if_neg c_3).trans (if_neg c_4)).symm)) (by subst e_v_2; subst e_v_1; unfold s_X8_watch_w1; exact ((if_neg c_3).trans (if_neg c_4)).symm)) (by subst e_v_2; subst e_v_1; unfold s_X8_watch_w2; exact ((if_neg c_3).trans (if_neg c_4)).symm)) (by subst e_v_2; subst e_v_1; unfold s_X8_watch_w3; exact ((if_neg c_3).trans (if_neg c_4)).symm)) (by subst e_v_2; subst e_v_1; unfold s_X8_watch_w4; exact ((if_neg c_3).trans (if_neg c_4)).symm))) hS.2.2 dX8_watch_35

theorem midC_end {val o9 : Nat → Int32} {x2 v : Int32} {k n : Nat} (hx2 : x2 = nI k) (hk : k + 1 ≤ n ∨ k = 0) (hk9 : n ≤ k + 1) (hn : n < 21) (e : v = (if x2 ≤ 0 then (-99999) else (o9 ((k + 1 - 2) / 2)))) (hw9 : ∀ h2 : ¬ n < 2, o9 ((k + 1 - 2) / 2) = midG val n) : v = midG val n := by
  rw [e]
  by_cases h : x2 ≤ 0
  · rw [if_pos h]
    have h0 := zero_of_le0 hx2 (by omega) h
    simp only [midG]
    rw [if_pos (by omega)]
  · rw [if_neg h]
    have h0 := pos_of_nle0 hx2 h
    exact hw9 (by omega)

abbrev rmX8_middleOf : Room := ({ frames := 0, cells := 0, slots := 0, locals := 0 } : Room)
set_option maxHeartbeats 4000000 in
set_option maxRecDepth 100000 in
theorem c_X8_middleOf (l : Launch) (G : va_G) (y : Nat → ClassId) (h : Nat) (a1 : Int32) (p1 : Nat) (p2 : Nat) (p3 : Nat) (p4 : Nat) (p5 : Nat) (x : Nat → Int32) (fp : Nat → Int32) (fh : Nat → Int32) (fl : Nat → Int32) (fe : Nat → Int32) (o : Nat → Int32) (sz : Nat) (h0 : vp_in (x 0) 21) : Met l yX8_middleOf wsX8_middleOf rmX8_middleOf (PH G y [.ref h, .int a1] [kX8 h p1 p2 p3 p4 p5 x, aI y p1 20 fp, aI y p2 20 fh, aI y p3 20 fl, aI y p4 20 fe, aI y p5 20 o] sz) (QHi G (midG (vC a1 fp fh fl) (tn (x 0))) (fun u : (Nat → Int32) => [kX8 h p1 p2 p3 p4 p5 x, aI y p1 20 fp, aI y p2 20 fh, aI y p3 20 fl, aI y p4 20 fe, aI y p5 20 u]) (va_A [kX8 h p1 p2 p3 p4 p5 x, aI y p1 20 fp, aI y p2 20 fh, aI y p3 20 fl, aI y p4 20 fe, aI y p5 20 o] sz)) 0 0 (va_A [kX8 h p1 p2 p3 p4 p5 x, aI y p1 20 fp, aI y p2 20 fh, aI y p3 20 fl, aI y p4 20 fe, aI y p5 20 o] sz) := by
  refine Met.ofW (cc := cX8_middleOf) (maxL := 6) (ret := (some .int)) (by decide) rfl ?_
  intro p e s m args below meth c s₁ B hml hv
  obtain ⟨rfl, hsz, hP, ⟨hK, hN⟩, hD0⟩ := hv
  have hx := B.exec
  have hb := B.bytes
  have hr := B.returns
  have hts := atoms_spec (ws := wsX8_middleOf) B.pre
  have hown : s.vm.findClass RX8 = some m.cls := findClass_of_methodNamed B.named
  have hlocks := B.notSynchronized
  have i_X8 : ∀ w ∈ u_ws RX8 TX8 10, w ∈ wsX8_middleOf := by decide +kernel
  subst hsz
  have hD := hD0.self (sz := s.heap.size)
  generalize hAe : va_A [kX8 h p1 p2 p3 p4 p5 x, aI y p1 20 fp, aI y p2 20 fh, aI y p3 20 fl, aI y p4 20 fe, aI y p5 20 o] s.heap.size = A at hD ⊢
  have hA : ∀ q : Nat, s.heap.size ≤ q → A q := fun q h => by rw [← hAe]; exact Or.inr h
  have hS : va_S A s.heap s.heap [] := va_S.rf
  have hP : va_P G vwCl [kX8 h p1 p2 p3 p4 p5 x, aI y p1 20 fp, aI y p2 20 fh, aI y p3 20 fl, aI y p4 20 fe, aI y p5 20 o] s.heap := hP
  obtain ⟨hn1, hn2⟩ := in_tn h0 (by decide)
  have hl := lv_entry ([.ref h, .int a1]) (n := 6) (Nat.le_of_ble_eq_true rfl)
  rw [lg_entry_eq]
  generalize (lg_sl ([.ref h, .int a1]) ++ List.replicate (6 - (lg_sl ([.ref h, .int a1])).length) Slot.unset).toArray = ls at hl ⊢
  have hl : lv_has ls 6 [(0, .ref h), (1, .int a1)] := hl
  obtain ⟨QQ, hQQ⟩ : ∃ zq9, zq9 = MQ below (QHi G (midG (vC a1 fp fh fl) (tn (x 0))) (fun u : (Nat → Int32) => [kX8 h p1 p2 p3 p4 p5 x, aI y p1 20 fp, aI y p2 20 fh, aI y p3 20 fl, aI y p4 20 fe, aI y p5 20 u]) A) ([.ref h, .int a1] : List Value).toArray s 0 0 A := ⟨_, rfl⟩
  rw [← hQQ]
  refine lv_iconst (v := 0) hx hb dX8_middleOf_0 (by decide) ?_
  refine lv_istore_n (lv' := [(2, .int 0), (0, .ref h), (1, .int a1)]) hx hb dX8_middleOf_1 rfl hl (by decide) rfl (fun ls hl => ?_)
  refine lv_iconst (v := 1) hx hb dX8_middleOf_2 (by decide) ?_
  refine lv_istore_n (lv' := [(3, .int 1), (2, .int 0), (0, .ref h), (1, .int a1)]) hx hb dX8_middleOf_3 rfl hl (by decide) rfl (fun ls hl => ?_)
  have LOOP4_1 : ∀ (n_2 : Nat) (k0 : Nat) (x2 : Int32) (x3 : Int32) (w : Nat → Int32) (hx2 : x2 = nI k0) (hx3 : x3 = nI (k0 + 1)) (hk : k0 + 1 ≤ tn (x 0) ∨ k0 = 0) (hw : w = midS (vC a1 fp fh fl) k0 o) (hn_4 : 21 - k0 < n_2) (H : Heap) (locs : List Loc) (hP : va_P G vwCl [kX8 h p1 p2 p3 p4 p5 x, aI y p1 20 fp, aI y p2 20 fh, aI y p3 20 fl, aI y p4 20 fe, aI y p5 20 w] H) (hD : va_D A [kX8 h p1 p2 p3 p4 p5 x, aI y p1 20 fp, aI y p2 20 fh, aI y p3 20 fl, aI y p4 20 fe, aI y p5 20 w]) (hS : va_S A s.heap H locs) (ls : Array Slot) (hl : lv_has ls 6 [(3, .int x3), (2, .int x2), (0, .ref h), (1, .int a1)]), W p l e (headSpec wsX8_middleOf rmX8_middleOf).room s m ([.ref h, .int a1] : List Value).toArray below meth c H locs 0 0 QQ (F0 m 4 ls []) := by
    intro n_2
    induction n_2 with
    | zero => intro k0 x2 x3 w hx2 hx3 hk hw hn_4 H locs hP hD hS ls hl; exact absurd hn_4 (Nat.not_lt_zero _)
    | succ n_2 ih_3 =>
      intro k0 x2 x3 w hx2 hx3 hk hw hn_4 H locs hP hD hS ls hl
      refine lv_iload_n hx hb dX8_middleOf_4 rfl (lv_at hl 0 rfl) ?_
      refine lv_aload_n hx hb dX8_middleOf_5 rfl (lv_at hl 2 rfl) ?_
      refine va_get (D := G) (ci := 6) (v := .int (x 0)) (C := RX8) (T := TX8) (N := 10) hx hb hts i_X8 hown hK hP 0 rfl rfl 0 (by decide) (hts (.fieldLink RX8 27 "RelayTuner$Swings" "count" "I") (by decide +kernel)) (fun _ h9 => h9) rfl dX8_middleOf_6 ?_
      refine lv_icmp_ge (tgt := 108) hx hb dX8_middleOf_9 (by decide) (fun c_5 => ?_) (fun c_5 => ?_)
      · have hk9 : tn (x 0) ≤ k0 + 1 := by have := kge hx3 hn1 (by omega) (by omega) c_5; omega
        obtain ⟨o9, ho9⟩ : ∃ z, z = w := ⟨_, rfl⟩
        rw [← ho9] at hP hD
        have hw9 : ∀ h2 : ¬ tn (x 0) < 2, o9 ((k0 + 1 - 2) / 2) = midG (vC a1 fp fh fl) (tn (x 0)) := fun h2 => by rw [ho9, hw, show k0 = tn (x 0) - 1 by omega, show tn (x 0) - 1 + 1 - 2 = tn (x 0) - 2 by omega]; exact midG_of h2 o
        refine lv_iload_n hx hb dX8_middleOf_108 rfl (lv_at hl 1 rfl) ?_
        have J127_8 : ∀ (v_7 : Int32) (e_v_7 : v_7 = (if x2 ≤ 0 then (-99999) else (o9 ((k0 + 1 - 2) / 2)))) (ls : Array Slot) (hl : lv_has ls 6 []), W p l e (headSpec wsX8_middleOf rmX8_middleOf).room s m ([.ref h, .int a1] : List Value).toArray below meth c H locs 0 0 QQ (F0 m 127 ls [.int v_7]) := by
          intro v_7 e_v_7 ls hl
          rw [hQQ]
          exact W.iret hx hb hr (end_Hi o9 hP hD hS (midC_end hx2 hk hk9 hn2 e_v_7 hw9) rfl) hS.2.2 dX8_middleOf_127
        refine lv_if_le (tgt := 125) hx hb dX8_middleOf_109 (by decide) (fun c_6 => ?_) (fun c_6 => ?_)
        · refine lv_ldc (v := (-99999)) hx hb hown (hts (.constant RX8 54 (-99999)) (by decide +kernel)) dX8_middleOf_125 ?_
          exact J127_8 _ (if_pos c_6).symm ls (lv_sub hl [] rfl)
        · refine lv_aload_n hx hb dX8_middleOf_112 rfl (lv_at hl 2 rfl) ?_
          refine va_get (D := G) (ci := 6) (v := .ref p5) (C := RX8) (T := TX8) (N := 10) hx hb hts i_X8 hown hK hP 0 rfl rfl 5 (by decide) (hts (.fieldLink RX8 24 "RelayTuner$Swings" "ordered" "[I") (by decide +kernel)) (fun _ h9 => h9) rfl dX8_middleOf_113 ?_
          refine lv_iload_n hx hb dX8_middleOf_116 rfl (lv_at hl 1 rfl) ?_
          refine lv_iconst (v := 1) hx hb dX8_middleOf_117 (by decide) ?_
          refine lv_isub hx hb dX8_middleOf_118 ?_
          refine lv_iconst (v := 2) hx hb dX8_middleOf_119 (by decide) ?_
          refine lv_idiv hx hb dX8_middleOf_120 (by decide) ?_
          refine al_i (D := G) (n := 20) (f := o9) hx hb hK hP 5 0 rfl rfl ((k0 + 1 - 2) / 2) (mid_ixC hx2 (by omega) c_6) (by omega) (by first | decide | omega) dX8_middleOf_121 ?_
          refine lv_goto (tgt := 127) hx hb dX8_middleOf_122 (by decide) ?_
          exact J127_8 _ (if_neg c_6).symm ls (lv_sub hl [] rfl)
      · refine lv_iload_n hx hb dX8_middleOf_12 rfl (lv_at hl 0 rfl) ?_
        refine lv_bipush (v := 20) hx hb dX8_middleOf_13 (by decide) ?_
        refine lv_icmp_ge (tgt := 108) hx hb dX8_middleOf_15 (by decide) (fun c_9 => ?_) (fun c_9 => ?_)
        · have hk9 : tn (x 0) ≤ k0 + 1 := by have := kge (N := 20) hx3 rfl (by omega) (by omega) c_9; omega
          obtain ⟨o9, ho9⟩ : ∃ z, z = w := ⟨_, rfl⟩
          rw [← ho9] at hP hD
          have hw9 : ∀ h2 : ¬ tn (x 0) < 2, o9 ((k0 + 1 - 2) / 2) = midG (vC a1 fp fh fl) (tn (x 0)) := fun h2 => by rw [ho9, hw, show k0 = tn (x 0) - 1 by omega, show tn (x 0) - 1 + 1 - 2 = tn (x 0) - 2 by omega]; exact midG_of h2 o
          refine lv_iload_n hx hb dX8_middleOf_108 rfl (lv_at hl 1 rfl) ?_
          have J127_12 : ∀ (v_11 : Int32) (e_v_11 : v_11 = (if x2 ≤ 0 then (-99999) else (o9 ((k0 + 1 - 2) / 2)))) (ls : Array Slot) (hl : lv_has ls 6 []), W p l e (headSpec wsX8_middleOf rmX8_middleOf).room s m ([.ref h, .int a1] : List Value).toArray below meth c H locs 0 0 QQ (F0 m 127 ls [.int v_11]) := by
            intro v_11 e_v_11 ls hl
            rw [hQQ]
            exact W.iret hx hb hr (end_Hi o9 hP hD hS (midC_end hx2 hk hk9 hn2 e_v_11 hw9) rfl) hS.2.2 dX8_middleOf_127
          refine lv_if_le (tgt := 125) hx hb dX8_middleOf_109 (by decide) (fun c_10 => ?_) (fun c_10 => ?_)
          · refine lv_ldc (v := (-99999)) hx hb hown (hts (.constant RX8 54 (-99999)) (by decide +kernel)) dX8_middleOf_125 ?_
            exact J127_12 _ (if_pos c_10).symm ls (lv_sub hl [] rfl)
          · refine lv_aload_n hx hb dX8_middleOf_112 rfl (lv_at hl 2 rfl) ?_
            refine va_get (D := G) (ci := 6) (v := .ref p5) (C := RX8) (T := TX8) (N := 10) hx hb hts i_X8 hown hK hP 0 rfl rfl 5 (by decide) (hts (.fieldLink RX8 24 "RelayTuner$Swings" "ordered" "[I") (by decide +kernel)) (fun _ h9 => h9) rfl dX8_middleOf_113 ?_
            refine lv_iload_n hx hb dX8_middleOf_116 rfl (lv_at hl 1 rfl) ?_
            refine lv_iconst (v := 1) hx hb dX8_middleOf_117 (by decide) ?_
            refine lv_isub hx hb dX8_middleOf_118 ?_
            refine lv_iconst (v := 2) hx hb dX8_middleOf_119 (by decide) ?_
            refine lv_idiv hx hb dX8_middleOf_120 (by decide) ?_
            refine al_i (D := G) (n := 20) (f := o9) hx hb hK hP 5 0 rfl rfl ((k0 + 1 - 2) / 2) (mid_ixC hx2 (by omega) c_10) (by omega) (by first | decide | omega) dX8_middleOf_121 ?_
            refine lv_goto (tgt := 127) hx hb dX8_middleOf_122 (by decide) ?_
            exact J127_12 _ (if_neg c_10).symm ls (lv_sub hl [] rfl)
        · have hk9 : k0 + 1 < tn (x 0) := klt hx3 hn1 (by omega) (by omega) c_5
          refine lv_iload_n hx hb dX8_middleOf_18 rfl (lv_at hl 3 rfl) ?_
          have J44_15 : ∀ (v_14 : Int32) (e_v_14 : v_14 = (if a1 = 0 then (fp (k0 + 1)) else ((fh (k0 + 1)) - (fl (k0 + 1))))) (ls : Array Slot) (hl : lv_has ls 6 [(3, .int x3), (2, .int x2), (0, .ref h), (1, .int a1)]), W p l e (headSpec wsX8_middleOf rmX8_middleOf).room s m ([.ref h, .int a1] : List Value).toArray below meth c H locs 0 0 QQ (F0 m 44 ls [.int v_14]) := by
            intro v_14 e_v_14 ls hl
            have hval : v_14 = vC a1 fp fh fl (k0 + 1) := vC_val e_v_14
            refine lv_istore (lv' := [(4, .int v_14), (3, .int x3), (2, .int x2), (0, .ref h), (1, .int a1)]) hx hb dX8_middleOf_44 hl (by decide) rfl (fun ls hl => ?_)
            refine lv_iload_n hx hb dX8_middleOf_46 rfl (lv_at hl 2 rfl) ?_
            refine lv_istore (lv' := [(5, .int x2), (4, .int v_14), (3, .int x3), (2, .int x2), (0, .ref h), (1, .int a1)]) hx hb dX8_middleOf_47 hl (by decide) rfl (fun ls hl => ?_)
            have LOOP49_16 : ∀ (n_17 : Nat) (t0 : Nat) (x5 : Int32) (w2 : Nat → Int32) (hx5 : x5 = nI t0) (ht : t0 ≤ k0) (hw2 : insF w2 v_14 t0 = insF w v_14 k0) (hn_19 : t0 < n_17) (H : Heap) (locs : List Loc) (hP : va_P G vwCl [kX8 h p1 p2 p3 p4 p5 x, aI y p1 20 fp, aI y p2 20 fh, aI y p3 20 fl, aI y p4 20 fe, aI y p5 20 w2] H) (hD : va_D A [kX8 h p1 p2 p3 p4 p5 x, aI y p1 20 fp, aI y p2 20 fh, aI y p3 20 fl, aI y p4 20 fe, aI y p5 20 w2]) (hS : va_S A s.heap H locs) (ls : Array Slot) (hl : lv_has ls 6 [(5, .int x5), (4, .int v_14), (3, .int x3), (2, .int x2), (0, .ref h), (1, .int a1)]), W p l e (headSpec wsX8_middleOf rmX8_middleOf).room s m ([.ref h, .int a1] : List Value).toArray below meth c H locs 0 0 QQ (F0 m 49 ls []) := by
              intro n_17
              induction n_17 with
              | zero => intro t0 x5 w2 hx5 ht hw2 hn_19 H locs hP hD hS ls hl; exact absurd hn_19 (Nat.not_lt_zero _)
              | succ n_17 ih_18 =>
                intro t0 x5 w2 hx5 ht hw2 hn_19 H locs hP hD hS ls hl
                refine lv_iload hx hb dX8_middleOf_49 (lv_at hl 0 rfl) ?_
                refine lv_if_le (tgt := 90) hx hb dX8_middleOf_51 (by decide) (fun c_20 => ?_) (fun c_20 => ?_)
                · have hfin9 := (ins_end0 (w := w2) (v := v_14) (zero_of_le0 hx5 (by omega) c_20)).trans hw2
                  refine lv_aload_n hx hb dX8_middleOf_90 rfl (lv_at hl 4 rfl) ?_
                  refine va_get (D := G) (ci := 6) (v := .ref p5) (C := RX8) (T := TX8) (N := 10) hx hb hts i_X8 hown hK hP 0 rfl rfl 5 (by decide) (hts (.fieldLink RX8 24 "RelayTuner$Swings" "ordered" "[I") (by decide +kernel)) (fun _ h9 => h9) rfl dX8_middleOf_91 ?_
                  refine lv_iload hx hb dX8_middleOf_94 (lv_at hl 0 rfl) ?_
                  refine lv_iload hx hb dX8_middleOf_96 (lv_at hl 1 rfl) ?_
                  refine as_i (D := G) (n := 20) (f := w2) hx hb hK hP hD hS 5 0 rfl rfl t0 hx5 (by omega) (by first | decide | omega) dX8_middleOf_98 (fun H locs hP hD hS => ?_)
                  have hP : va_P G vwCl [kX8 h p1 p2 p3 p4 p5 x, aI y p1 20 fp, aI y p2 20 fh, aI y p3 20 fl, aI y p4 20 fe, aI y p5 20 (upd w2 t0 v_14)] H := hP
                  have hD : va_D A [kX8 h p1 p2 p3 p4 p5 x, aI y p1 20 fp, aI y p2 20 fh, aI y p3 20 fl, aI y p4 20 fe, aI y p5 20 (upd w2 t0 v_14)] := hD
                  have hfin : (upd w2 t0 v_14) = insF w v_14 k0 := hfin9
                  refine lv_iinc (v := (x2 + 1)) (lv' := [(2, .int (x2 + 1)), (5, .int x5), (4, .int v_14), (3, .int x3), (0, .ref h), (1, .int a1)]) hx hb dX8_middleOf_99 hl (k := 3) rfl (by first | rfl | decide) (by decide) rfl (fun ls hl => ?_)
                  refine lv_iinc (v := (x3 + 1)) (lv' := [(3, .int (x3 + 1)), (2, .int (x2 + 1)), (5, .int x5), (4, .int v_14), (0, .ref h), (1, .int a1)]) hx hb dX8_middleOf_102 hl (k := 3) rfl (by first | rfl | decide) (by decide) rfl (fun ls hl => ?_)
                  refine lv_goto (tgt := 4) hx hb dX8_middleOf_105 (by decide) ?_
                  exact ih_3 (k0 + 1) (x2 + 1) (x3 + 1) (upd w2 t0 v_14) (by rw [hx2]; exact nI_1 k0) (by rw [hx3]; exact nI_1 (k0 + 1)) (Or.inl (by omega)) (by rw [hfin, hval, hw]; rfl) (by omega) H locs hP hD hS ls (lv_sub hl [0, 1, 4, 5] rfl)
                · have hk6 : 0 < t0 := pos_of_nle0 hx5 c_20
                  refine lv_aload_n hx hb dX8_middleOf_54 rfl (lv_at hl 4 rfl) ?_
                  refine va_get (D := G) (ci := 6) (v := .ref p5) (C := RX8) (T := TX8) (N := 10) hx hb hts i_X8 hown hK hP 0 rfl rfl 5 (by decide) (hts (.fieldLink RX8 24 "RelayTuner$Swings" "ordered" "[I") (by decide +kernel)) (fun _ h9 => h9) rfl dX8_middleOf_55 ?_
                  refine lv_iload hx hb dX8_middleOf_58 (lv_at hl 0 rfl) ?_
                  refine lv_iconst (v := 1) hx hb dX8_middleOf_60 (by decide) ?_
                  refine lv_isub hx hb dX8_middleOf_61 ?_
                  refine al_i (D := G) (n := 20) (f := w2) hx hb hK hP 5 0 rfl rfl (t0 - 1) (sub1_ix hx5 hk6) (by omega) (by first | decide | omega) dX8_middleOf_62 ?_
                  refine lv_iload hx hb dX8_middleOf_63 (lv_at hl 1 rfl) ?_
                  refine lv_icmp_le (tgt := 90) hx hb dX8_middleOf_65 (by decide) (fun c_21 => ?_) (fun c_21 => ?_)
                  · have hfin9 := (ins_end1 (w := w2) (v := v_14) hk6 c_21).trans hw2
                    refine lv_aload_n hx hb dX8_middleOf_90 rfl (lv_at hl 4 rfl) ?_
                    refine va_get (D := G) (ci := 6) (v := .ref p5) (C := RX8) (T := TX8) (N := 10) hx hb hts i_X8 hown hK hP 0 rfl rfl 5 (by decide) (hts (.fieldLink RX8 24 "RelayTuner$Swings" "ordered" "[I") (by decide +kernel)) (fun _ h9 => h9) rfl dX8_middleOf_91 ?_
                    refine lv_iload hx hb dX8_middleOf_94 (lv_at hl 0 rfl) ?_
                    refine lv_iload hx hb dX8_middleOf_96 (lv_at hl 1 rfl) ?_
                    refine as_i (D := G) (n := 20) (f := w2) hx hb hK hP hD hS 5 0 rfl rfl t0 hx5 (by omega) (by first | decide | omega) dX8_middleOf_98 (fun H locs hP hD hS => ?_)
                    have hP : va_P G vwCl [kX8 h p1 p2 p3 p4 p5 x, aI y p1 20 fp, aI y p2 20 fh, aI y p3 20 fl, aI y p4 20 fe, aI y p5 20 (upd w2 t0 v_14)] H := hP
                    have hD : va_D A [kX8 h p1 p2 p3 p4 p5 x, aI y p1 20 fp, aI y p2 20 fh, aI y p3 20 fl, aI y p4 20 fe, aI y p5 20 (upd w2 t0 v_14)] := hD
                    have hfin : (upd w2 t0 v_14) = insF w v_14 k0 := hfin9
                    refine lv_iinc (v := (x2 + 1)) (lv' := [(2, .int (x2 + 1)), (5, .int x5), (4, .int v_14), (3, .int x3), (0, .ref h), (1, .int a1)]) hx hb dX8_middleOf_99 hl (k := 3) rfl (by first | rfl | decide) (by decide) rfl (fun ls hl => ?_)
                    refine lv_iinc (v := (x3 + 1)) (lv' := [(3, .int (x3 + 1)), (2, .int (x2 + 1)), (5, .int x5), (4, .int v_14), (0, .ref h), (1, .int a1)]) hx hb dX8_middleOf_102 hl (k := 3) rfl (by first | rfl | decide) (by decide) rfl (fun ls hl => ?_)
                    refine lv_goto (tgt := 4) hx hb dX8_middleOf_105 (by decide) ?_
                    exact ih_3 (k0 + 1) (x2 + 1) (x3 + 1) (upd w2 t0 v_14) (by rw [hx2]; exact nI_1 k0) (by rw [hx3]; exact nI_1 (k0 + 1)) (Or.inl (by omega)) (by rw [hfin, hval, hw]; rfl) (by omega) H locs hP hD hS ls (lv_sub hl [0, 1, 4, 5] rfl)
                  · refine lv_aload_n hx hb dX8_middleOf_68 rfl (lv_at hl 4 rfl) ?_
                    refine va_get (D := G) (ci := 6) (v := .ref p5) (C := RX8) (T := TX8) (N := 10) hx hb hts i_X8 hown hK hP 0 rfl rfl 5 (by decide) (hts (.fieldLink RX8 24 "RelayTuner$Swings" "ordered" "[I") (by decide +kernel)) (fun _ h9 => h9) rfl dX8_middleOf_69 ?_
                    refine lv_iload hx hb dX8_middleOf_72 (lv_at hl 0 rfl) ?_
                    refine lv_aload_n hx hb dX8_middleOf_74 rfl (lv_at hl 4 rfl) ?_
                    refine va_get (D := G) (ci := 6) (v := .ref p5) (C := RX8) (T := TX8) (N := 10) hx hb hts i_X8 hown hK hP 0 rfl rfl 5 (by decide) (hts (.fieldLink RX8 24 "RelayTuner$Swings" "ordered" "[I") (by decide +kernel)) (fun _ h9 => h9) rfl dX8_middleOf_75 ?_
                    refine lv_iload hx hb dX8_middleOf_78 (lv_at hl 0 rfl) ?_
                    refine lv_iconst (v := 1) hx hb dX8_middleOf_80 (by decide) ?_
                    refine lv_isub hx hb dX8_middleOf_81 ?_
                    refine al_i (D := G) (n := 20) (f := w2) hx hb hK hP 5 0 rfl rfl (t0 - 1) (sub1_ix hx5 hk6) (by omega) (by first | decide | omega) dX8_middleOf_82 ?_
                    refine as_i (D := G) (n := 20) (f := w2) hx hb hK hP hD hS 5 0 rfl rfl t0 hx5 (by omega) (by first | decide | omega) dX8_middleOf_83 (fun H locs hP hD hS => ?_)
                    have hP : va_P G vwCl [kX8 h p1 p2 p3 p4 p5 x, aI y p1 20 fp, aI y p2 20 fh, aI y p3 20 fl, aI y p4 20 fe, aI y p5 20 (upd w2 t0 (w2 (t0 - 1)))] H := hP
                    have hD : va_D A [kX8 h p1 p2 p3 p4 p5 x, aI y p1 20 fp, aI y p2 20 fh, aI y p3 20 fl, aI y p4 20 fe, aI y p5 20 (upd w2 t0 (w2 (t0 - 1)))] := hD
                    refine lv_iinc (v := (x5 + (-1))) (lv' := [(5, .int (x5 + (-1))), (4, .int v_14), (3, .int x3), (2, .int x2), (0, .ref h), (1, .int a1)]) hx hb dX8_middleOf_84 hl (k := 0) rfl (by first | rfl | decide) (by decide) rfl (fun ls hl => ?_)
                    refine lv_goto (tgt := 49) hx hb dX8_middleOf_87 (by decide) ?_
                    exact ih_18 (t0 - 1) (x5 + (-1)) (upd w2 t0 (w2 (t0 - 1))) (dec_ix hx5 hk6) (by omega) ((ins_step hk6 c_21).trans hw2) (by omega) H locs hP hD hS ls (lv_sub hl [0, 1, 2, 3, 4, 5] rfl)
            exact LOOP49_16 (k0 + 1) k0 x2 w hx2 (by omega) rfl (Nat.lt_succ_self _) H locs hP hD hS ls (lv_sub hl [0, 1, 2, 3, 4, 5] rfl)
          refine lv_if_eq (tgt := 38) hx hb dX8_middleOf_19 (by decide) (fun c_13 => ?_) (fun c_13 => ?_)
          · refine lv_aload_n hx hb dX8_middleOf_38 rfl (lv_at hl 2 rfl) ?_
            refine va_get (D := G) (ci := 6) (v := .ref p1) (C := RX8) (T := TX8) (N := 10) hx hb hts i_X8 hown hK hP 0 rfl rfl 1 (by decide) (hts (.fieldLink RX8 11 "RelayTuner$Swings" "periods" "[I") (by decide +kernel)) (fun _ h9 => h9) rfl dX8_middleOf_39 ?_
            refine lv_iload_n hx hb dX8_middleOf_42 rfl (lv_at hl 0 rfl) ?_
            refine al_i (D := G) (n := 20) (f := fp) hx hb hK hP 1 0 rfl rfl (k0 + 1) hx3 (by omega) (by first | decide | omega) dX8_middleOf_43 ?_
            exact J44_15 _ (if_pos c_13).symm ls (lv_sub hl [0, 1, 2, 3] rfl)
          · refine lv_aload_n hx hb dX8_middleOf_22 rfl (lv_at hl 2 rfl) ?_
            refine va_get (D := G) (ci := 6) (v := .ref p2) (C := RX8) (T := TX8) (N := 10) hx hb hts i_X8 hown hK hP 0 rfl rfl 2 (by decide) (hts (.fieldLink RX8 15 "RelayTuner$Swings" "highs" "[I") (by decide +kernel)) (fun _ h9 => h9) rfl dX8_middleOf_23 ?_
            refine lv_iload_n hx hb dX8_middleOf_26 rfl (lv_at hl 0 rfl) ?_
            refine al_i (D := G) (n := 20) (f := fh) hx hb hK hP 2 0 rfl rfl (k0 + 1) hx3 (by omega) (by first | decide | omega) dX8_middleOf_27 ?_
            refine lv_aload_n hx hb dX8_middleOf_28 rfl (lv_at hl 2 rfl) ?_
            refine va_get (D := G) (ci := 6) (v := .ref p3) (C := RX8) (T := TX8) (N := 10) hx hb hts i_X8 hown hK hP 0 rfl rfl 3 (by decide) (hts (.fieldLink RX8 18 "RelayTuner$Swings" "lows" "[I") (by decide +kernel)) (fun _ h9 => h9) rfl dX8_middleOf_29 ?_
            refine lv_iload_n hx hb dX8_middleOf_32 rfl (lv_at hl 0 rfl) ?_
            refine al_i (D := G) (n := 20) (f := fl) hx hb hK hP 3 0 rfl rfl (k0 + 1) hx3 (by omega) (by first | decide | omega) dX8_middleOf_33 ?_
            refine lv_isub hx hb dX8_middleOf_34 ?_
            refine lv_goto (tgt := 44) hx hb dX8_middleOf_35 (by decide) ?_
            exact J44_15 _ (if_neg c_13).symm ls (lv_sub hl [0, 1, 2, 3] rfl)
  exact LOOP4_1 (21 - 0 + 1) 0 0 1 o rfl rfl (Or.inr rfl) rfl (Nat.lt_succ_self _) s.heap [] hP hD hS ls (lv_sub hl [0, 1, 2, 3] rfl)

def s_X8_reasonBeside_r (a1 : Int32) (a2 : Int32) (a3 : Int32) (a4 : Int32) (fp : Nat → Int32) (fh : Nat → Int32) (fl : Nat → Int32) : Int32 := (if a1 < 1 then 1 else (if a1 < 20 then (if ((if 0 ≤ ((fp (tn a1)) - a3) then ((fp (tn a1)) - a3) else 0 - ((fp (tn a1)) - a3)) * 100) ≤ (a2 * a3) then (let v_5 : Int32 := (if ((if 0 ≤ (((fh (tn a1)) - (fl (tn a1))) - a4) then (((fh (tn a1)) - (fl (tn a1))) - a4) else 0 - (((fh (tn a1)) - (fl (tn a1))) - a4)) * 100) ≤ (a2 * a4) then 0 else 3); v_5) else 2) else 1))
abbrev rmX8_reasonBeside : Room := ({ frames := 1, cells := 0, slots := 0, locals := 21 } : Room)
set_option maxHeartbeats 4000000 in
set_option maxRecDepth 100000 in
theorem c_X8_reasonBeside (l : Launch) (G : va_G) (y : Nat → ClassId) (h : Nat) (a1 : Int32) (a2 : Int32) (a3 : Int32) (a4 : Int32) (p1 : Nat) (p2 : Nat) (p3 : Nat) (p4 : Nat) (p5 : Nat) (x : Nat → Int32) (fp : Nat → Int32) (fh : Nat → Int32) (fl : Nat → Int32) : Met l yX8_reasonBeside wsX8_reasonBeside rmX8_reasonBeside (PR G y [.ref h, .int a1, .int a2, .int a3, .int a4] [kX8 h p1 p2 p3 p4 p5 x, aI y p1 20 fp, aI y p2 20 fh, aI y p3 20 fl]) (QRi (s_X8_reasonBeside_r a1 a2 a3 a4 fp fh fl)) 0 0 (fun _ => False) := by
  refine Met.ofW (cc := cX8_reasonBeside) (maxL := 6) (ret := (some .int)) (by decide) rfl ?_
  intro p e s m args below meth c s₁ B hml hv
  obtain ⟨rfl, hP, hK, hN⟩ := hv
  have hx := B.exec
  have hb := B.bytes
  have hr := B.returns
  have hts := atoms_spec (ws := wsX8_reasonBeside) B.pre
  have hown : s.vm.findClass RX8 = some m.cls := findClass_of_methodNamed B.named
  have hlocks := B.notSynchronized
  have i_X8 : ∀ w ∈ u_ws RX8 TX8 10, w ∈ wsX8_reasonBeside := by decide +kernel
  have hl := lv_entry ([.ref h, .int a1, .int a2, .int a3, .int a4]) (n := 6) (Nat.le_of_ble_eq_true rfl)
  rw [lg_entry_eq]
  generalize (lg_sl ([.ref h, .int a1, .int a2, .int a3, .int a4]) ++ List.replicate (6 - (lg_sl ([.ref h, .int a1, .int a2, .int a3, .int a4])).length) Slot.unset).toArray = ls at hl ⊢
  have hl : lv_has ls 6 [(0, .ref h), (1, .int a1), (2, .int a2), (3, .int a3), (4, .int a4)] := hl
  obtain ⟨QQ, hQQ⟩ : ∃ zq9, zq9 = MQ below (QRi (s_X8_reasonBeside_r a1 a2 a3 a4 fp fh fl)) ([.ref h, .int a1, .int a2, .int a3, .int a4] : List Value).toArray s 0 0 (fun _ => False) := ⟨_, rfl⟩
  rw [← hQQ]
  refine lv_iload_n hx hb dX8_reasonBeside_0 rfl (lv_at hl 1 rfl) ?_
  refine lv_iconst (v := 1) hx hb dX8_reasonBeside_1 (by decide) ?_
  refine lv_icmp_lt (tgt := 11) hx hb dX8_reasonBeside_2 (by decide) (fun c_1 => ?_) (fun c_1 => ?_)
  · refine lv_iconst (v := 1) hx hb dX8_reasonBeside_11 (by decide) ?_
    rw [hQQ]
    exact W.iret hx hb hr (end_Ri (by unfold s_X8_reasonBeside_r; exact (if_pos c_1).symm)) (fun _ h => nomatch h) dX8_reasonBeside_12
  · refine lv_iload_n hx hb dX8_reasonBeside_5 rfl (lv_at hl 1 rfl) ?_
    refine lv_bipush (v := 20) hx hb dX8_reasonBeside_6 (by decide) ?_
    refine lv_icmp_lt (tgt := 13) hx hb dX8_reasonBeside_8 (by decide) (fun c_2 => ?_) (fun c_2 => ?_)
    · refine lv_aload_n hx hb dX8_reasonBeside_13 rfl (lv_at hl 0 rfl) ?_
      refine va_get (D := G) (ci := 6) (v := .ref p1) (C := RX8) (T := TX8) (N := 10) hx hb hts i_X8 hown hK hP 0 rfl rfl 1 (by decide) (hts (.fieldLink RX8 11 "RelayTuner$Swings" "periods" "[I") (by decide +kernel)) (fun _ h9 => h9) rfl dX8_reasonBeside_14 ?_
      refine lv_iload_n hx hb dX8_reasonBeside_17 rfl (lv_at hl 1 rfl) ?_
      refine al_i (D := G) (n := 20) (f := fp) hx hb hK hP 1 0 rfl rfl (tn a1) ((in_tn (vin3 c_1 c_2) (by decide)).1) ((in_tn (vin3 c_1 c_2) (by decide)).2) (by first | decide | omega) dX8_reasonBeside_18 ?_
      refine lv_iload_n hx hb dX8_reasonBeside_19 rfl (lv_at hl 3 rfl) ?_
      refine lv_isub hx hb dX8_reasonBeside_20 ?_
      refine va_mabs hx hb (hml.trans hl.1.symm) hown (hts (.methodLink RX8 83 Lib.Math.abs.name) (by decide +kernel)) (hts (.static Lib.Math.abs.name) (by decide +kernel)) (hts (.initialized "java/lang/Math") (by decide +kernel)) (hts (.code Lib.Math.abs.name Lib.Math.abs.code 1 (some .int)) (by decide +kernel)) (Nat.le_of_ble_eq_true rfl) (Nat.le_of_ble_eq_true rfl) (Nat.le_of_ble_eq_true rfl) (Nat.le_of_ble_eq_true rfl) dX8_reasonBeside_21 ?_
      refine lv_bipush (v := 100) hx hb dX8_reasonBeside_24 (by decide) ?_
      refine lv_imul hx hb dX8_reasonBeside_26 ?_
      refine lv_iload_n hx hb dX8_reasonBeside_27 rfl (lv_at hl 2 rfl) ?_
      refine lv_iload_n hx hb dX8_reasonBeside_28 rfl (lv_at hl 3 rfl) ?_
      refine lv_imul hx hb dX8_reasonBeside_29 ?_
      refine lv_icmp_le (tgt := 35) hx hb dX8_reasonBeside_30 (by decide) (fun c_3 => ?_) (fun c_3 => ?_)
      · refine lv_aload_n hx hb dX8_reasonBeside_35 rfl (lv_at hl 0 rfl) ?_
        refine va_get (D := G) (ci := 6) (v := .ref p2) (C := RX8) (T := TX8) (N := 10) hx hb hts i_X8 hown hK hP 0 rfl rfl 2 (by decide) (hts (.fieldLink RX8 15 "RelayTuner$Swings" "highs" "[I") (by decide +kernel)) (fun _ h9 => h9) rfl dX8_reasonBeside_36 ?_
        refine lv_iload_n hx hb dX8_reasonBeside_39 rfl (lv_at hl 1 rfl) ?_
        refine al_i (D := G) (n := 20) (f := fh) hx hb hK hP 2 0 rfl rfl (tn a1) ((in_tn (vin3 c_1 c_2) (by decide)).1) ((in_tn (vin3 c_1 c_2) (by decide)).2) (by first | decide | omega) dX8_reasonBeside_40 ?_
        refine lv_aload_n hx hb dX8_reasonBeside_41 rfl (lv_at hl 0 rfl) ?_
        refine va_get (D := G) (ci := 6) (v := .ref p3) (C := RX8) (T := TX8) (N := 10) hx hb hts i_X8 hown hK hP 0 rfl rfl 3 (by decide) (hts (.fieldLink RX8 18 "RelayTuner$Swings" "lows" "[I") (by decide +kernel)) (fun _ h9 => h9) rfl dX8_reasonBeside_42 ?_
        refine lv_iload_n hx hb dX8_reasonBeside_45 rfl (lv_at hl 1 rfl) ?_
        refine al_i (D := G) (n := 20) (f := fl) hx hb hK hP 3 0 rfl rfl (tn a1) ((in_tn (vin3 c_1 c_2) (by decide)).1) ((in_tn (vin3 c_1 c_2) (by decide)).2) (by first | decide | omega) dX8_reasonBeside_46 ?_
        refine lv_isub hx hb dX8_reasonBeside_47 ?_
        refine lv_istore (lv' := [(5, .int ((fh (tn a1)) - (fl (tn a1)))), (0, .ref h), (1, .int a1), (2, .int a2), (3, .int a3), (4, .int a4)]) hx hb dX8_reasonBeside_48 hl (by decide) rfl (fun ls hl => ?_)
        refine lv_iload hx hb dX8_reasonBeside_50 (lv_at hl 0 rfl) ?_
        refine lv_iload hx hb dX8_reasonBeside_52 (lv_at hl 5 rfl) ?_
        refine lv_isub hx hb dX8_reasonBeside_54 ?_
        refine va_mabs hx hb (hml.trans hl.1.symm) hown (hts (.methodLink RX8 83 Lib.Math.abs.name) (by decide +kernel)) (hts (.static Lib.Math.abs.name) (by decide +kernel)) (hts (.initialized "java/lang/Math") (by decide +kernel)) (hts (.code Lib.Math.abs.name Lib.Math.abs.code 1 (some .int)) (by decide +kernel)) (Nat.le_of_ble_eq_true rfl) (Nat.le_of_ble_eq_true rfl) (Nat.le_of_ble_eq_true rfl) (Nat.le_of_ble_eq_true rfl) dX8_reasonBeside_55 ?_
        refine lv_bipush (v := 100) hx hb dX8_reasonBeside_58 (by decide) ?_
        refine lv_imul hx hb dX8_reasonBeside_60 ?_
        refine lv_iload_n hx hb dX8_reasonBeside_61 rfl (lv_at hl 3 rfl) ?_
        refine lv_iload hx hb dX8_reasonBeside_62 (lv_at hl 5 rfl) ?_
        refine lv_imul hx hb dX8_reasonBeside_64 ?_
        have J73_6 : ∀ (v_5 : Int32) (e_v_5 : v_5 = (if ((if 0 ≤ (((fh (tn a1)) - (fl (tn a1))) - a4) then (((fh (tn a1)) - (fl (tn a1))) - a4) else 0 - (((fh (tn a1)) - (fl (tn a1))) - a4)) * 100) ≤ (a2 * a4) then 0 else 3)) (ls : Array Slot) (hl : lv_has ls 6 []), W p l e (headSpec wsX8_reasonBeside rmX8_reasonBeside).room s m ([.ref h, .int a1, .int a2, .int a3, .int a4] : List Value).toArray below meth c s.heap [] 0 0 QQ (F0 m 73 ls [.int v_5]) := by
          intro v_5 e_v_5 ls hl
          rw [hQQ]
          exact W.iret hx hb hr (end_Ri (by subst e_v_5; unfold s_X8_reasonBeside_r; exact ((if_neg c_1).trans ((if_pos c_2).trans (if_pos c_3))).symm)) (fun _ h => nomatch h) dX8_reasonBeside_73
        refine lv_icmp_le (tgt := 72) hx hb dX8_reasonBeside_65 (by decide) (fun c_4 => ?_) (fun c_4 => ?_)
        · refine lv_iconst (v := 0) hx hb dX8_reasonBeside_72 (by decide) ?_
          exact J73_6 _ (if_pos c_4).symm ls (lv_sub hl [] rfl)
        · refine lv_iconst (v := 3) hx hb dX8_reasonBeside_68 (by decide) ?_
          refine lv_goto (tgt := 73) hx hb dX8_reasonBeside_69 (by decide) ?_
          exact J73_6 _ (if_neg c_4).symm ls (lv_sub hl [] rfl)
      · refine lv_iconst (v := 2) hx hb dX8_reasonBeside_33 (by decide) ?_
        rw [hQQ]
        exact W.iret hx hb hr (end_Ri (by unfold s_X8_reasonBeside_r; exact ((if_neg c_1).trans ((if_pos c_2).trans (if_neg c_3))).symm)) (fun _ h => nomatch h) dX8_reasonBeside_34
    · refine lv_iconst (v := 1) hx hb dX8_reasonBeside_11 (by decide) ?_
      rw [hQQ]
      exact W.iret hx hb hr (end_Ri (by unfold s_X8_reasonBeside_r; exact ((if_neg c_1).trans (if_neg c_2)).symm)) (fun _ h => nomatch h) dX8_reasonBeside_12

theorem reason_eq {a a2 a3 a4 : Int32} {fp fh fl : Nat → Int32} {k : Nat} (hx : a = nI k) (hk : k < 20) : s_X8_reasonBeside_r a a2 a3 a4 fp fh fl = oddB fp (sC fh fl) a2 a3 a4 k := by
  have e : tn a = k := by rw [hx]; exact nI_clamp (by omega)
  unfold s_X8_reasonBeside_r
  try dsimp only
  rw [e]
  unfold oddB
  rcases Nat.eq_zero_or_pos k with q | q
  · subst q
    rw [if_pos (show a < 1 by rw [hx]; decide), if_pos rfl]
  · rw [if_neg (show ¬ a < 1 from fun h => absurd ((nI_ltI (a := k) (b := 1) (by omega) (by decide)).mp (hx ▸ h)) (by omega)), if_pos (show a < 20 by rw [hx]; exact (nI_ltI (a := k) (b := 20) (by omega) (by decide)).mpr hk), if_neg (show ¬ k = 0 by omega)]
    rfl
theorem goodB_step {p s : Nat → Int32} {k : Nat} {tol mp ms g od v : Int32} (hg : g = nI (goodB p s tol mp ms k)) (ho : od = oddB p s tol mp ms k) (e : v = (if od = 0 then (g + 1) else g)) : v = nI (goodB p s tol mp ms (k + 1)) := by
  rw [e, ho, hg]
  simp only [goodB]
  split
  · exact nI_1 _
  · rfl

abbrev rmX8_goodBeside : Room := ({ frames := 2, cells := 0, slots := 0, locals := 46 } : Room)
set_option maxHeartbeats 4000000 in
set_option maxRecDepth 100000 in
theorem c_X8_goodBeside (l : Launch) (G : va_G) (y : Nat → ClassId) (h : Nat) (a1 : Int32) (a2 : Int32) (a3 : Int32) (p1 : Nat) (p2 : Nat) (p3 : Nat) (p4 : Nat) (p5 : Nat) (x : Nat → Int32) (fp : Nat → Int32) (fh : Nat → Int32) (fl : Nat → Int32) (h0 : vp_in (x 0) 21) : Met l yX8_goodBeside wsX8_goodBeside rmX8_goodBeside (PR G y [.ref h, .int a1, .int a2, .int a3] [kX8 h p1 p2 p3 p4 p5 x, aI y p1 20 fp, aI y p2 20 fh, aI y p3 20 fl]) (QRi (nI (goodB fp (sC fh fl) a1 a2 a3 (tn (x 0))))) 0 0 (fun _ => False) := by
  refine Met.ofW (cc := cX8_goodBeside) (maxL := 6) (ret := (some .int)) (by decide) rfl ?_
  intro p e s m args below meth c s₁ B hml hv
  obtain ⟨rfl, hP, hK, hN⟩ := hv
  have hx := B.exec
  have hb := B.bytes
  have hr := B.returns
  have hts := atoms_spec (ws := wsX8_goodBeside) B.pre
  have hown : s.vm.findClass RX8 = some m.cls := findClass_of_methodNamed B.named
  have hlocks := B.notSynchronized
  have i_X8 : ∀ w ∈ u_ws RX8 TX8 10, w ∈ wsX8_goodBeside := by decide +kernel
  obtain ⟨hn1, hn2⟩ := in_tn h0 (by decide)
  have hl := lv_entry ([.ref h, .int a1, .int a2, .int a3]) (n := 6) (Nat.le_of_ble_eq_true rfl)
  rw [lg_entry_eq]
  generalize (lg_sl ([.ref h, .int a1, .int a2, .int a3]) ++ List.replicate (6 - (lg_sl ([.ref h, .int a1, .int a2, .int a3])).length) Slot.unset).toArray = ls at hl ⊢
  have hl : lv_has ls 6 [(0, .ref h), (1, .int a1), (2, .int a2), (3, .int a3)] := hl
  obtain ⟨QQ, hQQ⟩ : ∃ zq9, zq9 = MQ below (QRi (nI (goodB fp (sC fh fl) a1 a2 a3 (tn (x 0))))) ([.ref h, .int a1, .int a2, .int a3] : List Value).toArray s 0 0 (fun _ => False) := ⟨_, rfl⟩
  rw [← hQQ]
  refine lv_iconst (v := 0) hx hb dX8_goodBeside_0 (by decide) ?_
  refine lv_istore (lv' := [(4, .int 0), (0, .ref h), (1, .int a1), (2, .int a2), (3, .int a3)]) hx hb dX8_goodBeside_1 hl (by decide) rfl (fun ls hl => ?_)
  refine lv_iconst (v := 0) hx hb dX8_goodBeside_3 (by decide) ?_
  refine lv_istore (lv' := [(5, .int 0), (4, .int 0), (0, .ref h), (1, .int a1), (2, .int a2), (3, .int a3)]) hx hb dX8_goodBeside_4 hl (by decide) rfl (fun ls hl => ?_)
  have LOOP6_1 : ∀ (n_2 : Nat) (k0 : Nat) (x4 : Int32) (x5 : Int32) (hx4 : x4 = nI (goodB fp (sC fh fl) a1 a2 a3 k0)) (hx5 : x5 = nI k0) (hk : k0 ≤ tn (x 0)) (hn_4 : 21 - k0 < n_2) (ls : Array Slot) (hl : lv_has ls 6 [(5, .int x5), (4, .int x4), (0, .ref h), (1, .int a1), (2, .int a2), (3, .int a3)]), W p l e (headSpec wsX8_goodBeside rmX8_goodBeside).room s m ([.ref h, .int a1, .int a2, .int a3] : List Value).toArray below meth c s.heap [] 0 0 QQ (F0 m 6 ls []) := by
    intro n_2
    induction n_2 with
    | zero => intro k0 x4 x5 hx4 hx5 hk hn_4 ls hl; exact absurd hn_4 (Nat.not_lt_zero _)
    | succ n_2 ih_3 =>
      intro k0 x4 x5 hx4 hx5 hk hn_4 ls hl
      refine lv_iload hx hb dX8_goodBeside_6 (lv_at hl 0 rfl) ?_
      refine lv_aload_n hx hb dX8_goodBeside_8 rfl (lv_at hl 2 rfl) ?_
      refine va_get (D := G) (ci := 6) (v := .int (x 0)) (C := RX8) (T := TX8) (N := 10) hx hb hts i_X8 hown hK hP 0 rfl rfl 0 (by decide) (hts (.fieldLink RX8 27 "RelayTuner$Swings" "count" "I") (by decide +kernel)) (fun _ h9 => h9) rfl dX8_goodBeside_9 ?_
      refine lv_icmp_ge (tgt := 36) hx hb dX8_goodBeside_12 (by decide) (fun c_5 => ?_) (fun c_5 => ?_)
      · have hk9 : k0 = tn (x 0) := by have := kge hx5 hn1 (by omega) (by omega) c_5; omega
        refine lv_iload hx hb dX8_goodBeside_36 (lv_at hl 1 rfl) ?_
        rw [hQQ]
        exact W.iret hx hb hr (end_Ri (by rw [hx4, hk9])) (fun _ h => nomatch h) dX8_goodBeside_38
      · have hk9 : k0 < tn (x 0) := klt hx5 hn1 (by omega) (by omega) c_5
        refine lv_aload_n hx hb dX8_goodBeside_15 rfl (lv_at hl 2 rfl) ?_
        refine lv_iload hx hb dX8_goodBeside_16 (lv_at hl 0 rfl) ?_
        refine lv_iload_n hx hb dX8_goodBeside_18 rfl (lv_at hl 3 rfl) ?_
        refine lv_iload_n hx hb dX8_goodBeside_19 rfl (lv_at hl 4 rfl) ?_
        refine lv_iload_n hx hb dX8_goodBeside_20 rfl (lv_at hl 5 rfl) ?_
        refine cl_Ri (va_runV (As := [.int x5, .int a1, .int a2, .int a3]) (rest := []) ⟨hx, hb, hml, hown, hts⟩ (c_X8_reasonBeside l G y h x5 a1 a2 a3 p1 p2 p3 p4 p5 x fp fh fl) (cwV 4 hts gX8_goodBeside_X8_reasonBeside rfl rfl rfl (by decide +kernel) ⟨Nat.le_of_ble_eq_true rfl, Nat.le_of_ble_eq_true rfl⟩) (PR_V (hP.sub (ws' := [kX8 h p1 p2 p3 p4 p5 x, aI y p1 20 fp, aI y p2 20 fh, aI y p3 20 fl]) [0, 1, 2, 3] rfl) hK hN (ci := 6) (q0 := 0) rfl rfl) rfl rfl hl.1 rfl (lv_room (Nat.le_of_ble_eq_true rfl)) dX8_goodBeside_21 ⟨Nat.le_of_ble_eq_true rfl, Nat.le_of_ble_eq_true rfl⟩) ?_
        have J30_8 : ∀ (v_7 : Int32) (e_v_7 : v_7 = (if (s_X8_reasonBeside_r x5 a1 a2 a3 fp fh fl) = 0 then (x4 + 1) else x4)) (ls : Array Slot) (hl : lv_has ls 6 [(5, .int x5), (4, .int v_7), (0, .ref h), (1, .int a1), (2, .int a2), (3, .int a3)]), W p l e (headSpec wsX8_goodBeside rmX8_goodBeside).room s m ([.ref h, .int a1, .int a2, .int a3] : List Value).toArray below meth c s.heap [] 0 0 QQ (F0 m 30 ls []) := by
          intro v_7 e_v_7 ls hl
          refine lv_iinc (v := (x5 + 1)) (lv' := [(5, .int (x5 + 1)), (4, .int v_7), (0, .ref h), (1, .int a1), (2, .int a2), (3, .int a3)]) hx hb dX8_goodBeside_30 hl (k := 0) rfl (by first | rfl | decide) (by decide) rfl (fun ls hl => ?_)
          refine lv_goto (tgt := 6) hx hb dX8_goodBeside_33 (by decide) ?_
          exact ih_3 (k0 + 1) v_7 (x5 + 1) (goodB_step hx4 (reason_eq hx5 (by omega)) e_v_7) (by rw [hx5]; exact nI_1 k0) (by omega) (by omega) ls (lv_sub hl [0, 1, 2, 3, 4, 5] rfl)
        refine lv_if_ne (tgt := 30) hx hb dX8_goodBeside_24 (by decide) (fun c_6 => ?_) (fun c_6 => ?_)
        · exact J30_8 _ (if_neg c_6).symm ls (lv_sub hl [0, 1, 2, 3, 4, 5] rfl)
        · refine lv_iinc (v := (x4 + 1)) (lv' := [(4, .int (x4 + 1)), (5, .int x5), (0, .ref h), (1, .int a1), (2, .int a2), (3, .int a3)]) hx hb dX8_goodBeside_27 hl (k := 1) rfl (by first | rfl | decide) (by decide) rfl (fun ls hl => ?_)
          exact J30_8 _ (if_pos c_6).symm ls (lv_sub hl [1, 0, 2, 3, 4, 5] rfl)
  exact LOOP6_1 (21 - 0 + 1) 0 0 0 rfl rfl (by omega) (Nat.lt_succ_self _) ls (lv_sub hl [0, 1, 2, 3, 4, 5] rfl)

theorem vC_0 {fp fh fl : Nat → Int32} : vC 0 fp fh fl = fp := rfl
theorem vC_1 {fp fh fl : Nat → Int32} : vC 1 fp fh fl = sC fh fl := rfl

def s_X8_reason_r (a1 : Int32) (a2 : Int32) (x : Nat → Int32) (fp : Nat → Int32) (fh : Nat → Int32) (fl : Nat → Int32) : Int32 := (s_X8_reasonBeside_r a1 a2 (midG (vC 0 fp fh fl) (tn (x 0))) (midG (vC 1 fp fh fl) (tn (x 0))) fp fh fl)
abbrev rmX8_reason : Room := ({ frames := 2, cells := 0, slots := 0, locals := 46 } : Room)
set_option maxHeartbeats 4000000 in
set_option maxRecDepth 100000 in
theorem c_X8_reason (l : Launch) (G : va_G) (y : Nat → ClassId) (h : Nat) (a1 : Int32) (a2 : Int32) (p1 : Nat) (p2 : Nat) (p3 : Nat) (p4 : Nat) (p5 : Nat) (x : Nat → Int32) (fp : Nat → Int32) (fh : Nat → Int32) (fl : Nat → Int32) (fe : Nat → Int32) (o : Nat → Int32) (sz : Nat) (h0 : vp_in (x 0) 21) : Met l yX8_reason wsX8_reason rmX8_reason (PH G y [.ref h, .int a1, .int a2] [kX8 h p1 p2 p3 p4 p5 x, aI y p1 20 fp, aI y p2 20 fh, aI y p3 20 fl, aI y p4 20 fe, aI y p5 20 o] sz) (QHi G (s_X8_reason_r a1 a2 x fp fh fl) (fun u : (Nat → Int32) => [kX8 h p1 p2 p3 p4 p5 x, aI y p1 20 fp, aI y p2 20 fh, aI y p3 20 fl, aI y p4 20 fe, aI y p5 20 u]) (va_A [kX8 h p1 p2 p3 p4 p5 x, aI y p1 20 fp, aI y p2 20 fh, aI y p3 20 fl, aI y p4 20 fe, aI y p5 20 o] sz)) 0 0 (va_A [kX8 h p1 p2 p3 p4 p5 x, aI y p1 20 fp, aI y p2 20 fh, aI y p3 20 fl, aI y p4 20 fe, aI y p5 20 o] sz) := by
  refine Met.ofW (cc := cX8_reason) (maxL := 3) (ret := (some .int)) (by decide) rfl ?_
  intro p e s m args below meth c s₁ B hml hv
  obtain ⟨rfl, hsz, hP, ⟨hK, hN⟩, hD0⟩ := hv
  have hx := B.exec
  have hb := B.bytes
  have hr := B.returns
  have hts := atoms_spec (ws := wsX8_reason) B.pre
  have hown : s.vm.findClass RX8 = some m.cls := findClass_of_methodNamed B.named
  have hlocks := B.notSynchronized
  subst hsz
  have hD := hD0.self (sz := s.heap.size)
  generalize hAe : va_A [kX8 h p1 p2 p3 p4 p5 x, aI y p1 20 fp, aI y p2 20 fh, aI y p3 20 fl, aI y p4 20 fe, aI y p5 20 o] s.heap.size = A at hD ⊢
  have hA : ∀ q : Nat, s.heap.size ≤ q → A q := fun q h => by rw [← hAe]; exact Or.inr h
  have hS : va_S A s.heap s.heap [] := va_S.rf
  have hP : va_P G vwCl [kX8 h p1 p2 p3 p4 p5 x, aI y p1 20 fp, aI y p2 20 fh, aI y p3 20 fl, aI y p4 20 fe, aI y p5 20 o] s.heap := hP
  have hl := lv_entry ([.ref h, .int a1, .int a2]) (n := 3) (Nat.le_of_ble_eq_true rfl)
  rw [lg_entry_eq]
  generalize (lg_sl ([.ref h, .int a1, .int a2]) ++ List.replicate (3 - (lg_sl ([.ref h, .int a1, .int a2])).length) Slot.unset).toArray = ls at hl ⊢
  have hl : lv_has ls 3 [(0, .ref h), (1, .int a1), (2, .int a2)] := hl
  refine lv_aload_n hx hb dX8_reason_0 rfl (lv_at hl 0 rfl) ?_
  refine lv_iload_n hx hb dX8_reason_1 rfl (lv_at hl 1 rfl) ?_
  refine lv_iload_n hx hb dX8_reason_2 rfl (lv_at hl 2 rfl) ?_
  refine lv_aload_n hx hb dX8_reason_3 rfl (lv_at hl 0 rfl) ?_
  refine lv_iconst (v := 0) hx hb dX8_reason_4 (by decide) ?_
  refine cl_Hi (wr := []) (fun u : (Nat → Int32) => [kX8 h p1 p2 p3 p4 p5 x, aI y p1 20 fp, aI y p2 20 fh, aI y p3 20 fl, aI y p4 20 fe, aI y p5 20 u]) [0, 1, 2, 3, 4, 5] [] [0, 1, 2, 3, 4, 5] (va_runV (As := [.int 0]) (rest := [.int a2, .int a1, .ref h]) ⟨hx, hb, hml, hown, hts⟩ (c_X8_middleOf l G y h 0 p1 p2 p3 p4 p5 x fp fh fl fe o s.heap.size h0) (cwV 1 hts gX8_reason_X8_middleOf rfl rfl rfl (by decide +kernel) ⟨Nat.le_of_ble_eq_true rfl, Nat.le_of_ble_eq_true rfl⟩) (PH_V (hP.sub (ws' := [kX8 h p1 p2 p3 p4 p5 x, aI y p1 20 fp, aI y p2 20 fh, aI y p3 20 fl, aI y p4 20 fe, aI y p5 20 o]) [0, 1, 2, 3, 4, 5] rfl) hK hN (hD.sub (ws' := [kX8 h p1 p2 p3 p4 p5 x, aI y p1 20 fp, aI y p2 20 fh, aI y p3 20 fl, aI y p4 20 fe, aI y p5 20 o]) [0, 1, 2, 3, 4, 5] (by decide) rfl) (ci := 6) (q0 := 0) rfl rfl) rfl rfl hl.1 rfl (lv_room (Nat.le_of_ble_eq_true rfl)) dX8_reason_5 ⟨Nat.le_of_ble_eq_true rfl, Nat.le_of_ble_eq_true rfl⟩) hP hD hS hA rfl rfl rfl (by decide) rfl (fun _ => rfl) (fun u H locs hP hD hS => ?_)
  obtain ⟨o_1, rfl⟩ : ∃ zq9, zq9 = u := ⟨_, rfl⟩
  have hP : va_P G vwCl [kX8 h p1 p2 p3 p4 p5 x, aI y p1 20 fp, aI y p2 20 fh, aI y p3 20 fl, aI y p4 20 fe, aI y p5 20 o_1] H := hP
  have hD : va_D A [kX8 h p1 p2 p3 p4 p5 x, aI y p1 20 fp, aI y p2 20 fh, aI y p3 20 fl, aI y p4 20 fe, aI y p5 20 o_1] := hD
  refine lv_aload_n hx hb dX8_reason_8 rfl (lv_at hl 0 rfl) ?_
  refine lv_iconst (v := 1) hx hb dX8_reason_9 (by decide) ?_
  refine cl_Hi (wr := []) (fun u : (Nat → Int32) => [kX8 h p1 p2 p3 p4 p5 x, aI y p1 20 fp, aI y p2 20 fh, aI y p3 20 fl, aI y p4 20 fe, aI y p5 20 u]) [0, 1, 2, 3, 4, 5] [] [0, 1, 2, 3, 4, 5] (va_runV (As := [.int 1]) (rest := [.int (midG (vC 0 fp fh fl) (tn (x 0))), .int a2, .int a1, .ref h]) ⟨hx, hb, hml, hown, hts⟩ (c_X8_middleOf l G y h 1 p1 p2 p3 p4 p5 x fp fh fl fe o_1 H.size h0) (cwV 1 hts gX8_reason_X8_middleOf rfl rfl rfl (by decide +kernel) ⟨Nat.le_of_ble_eq_true rfl, Nat.le_of_ble_eq_true rfl⟩) (PH_V (hP.sub (ws' := [kX8 h p1 p2 p3 p4 p5 x, aI y p1 20 fp, aI y p2 20 fh, aI y p3 20 fl, aI y p4 20 fe, aI y p5 20 o_1]) [0, 1, 2, 3, 4, 5] rfl) hK hN (hD.sub (ws' := [kX8 h p1 p2 p3 p4 p5 x, aI y p1 20 fp, aI y p2 20 fh, aI y p3 20 fl, aI y p4 20 fe, aI y p5 20 o_1]) [0, 1, 2, 3, 4, 5] (by decide) rfl) (ci := 6) (q0 := 0) rfl rfl) rfl rfl hl.1 rfl (lv_room (Nat.le_of_ble_eq_true rfl)) dX8_reason_10 ⟨Nat.le_of_ble_eq_true rfl, Nat.le_of_ble_eq_true rfl⟩) hP hD hS hA rfl rfl rfl (by decide) rfl (fun _ => rfl) (fun u H locs hP hD hS => ?_)
  obtain ⟨o_2, rfl⟩ : ∃ zq9, zq9 = u := ⟨_, rfl⟩
  have hP : va_P G vwCl [kX8 h p1 p2 p3 p4 p5 x, aI y p1 20 fp, aI y p2 20 fh, aI y p3 20 fl, aI y p4 20 fe, aI y p5 20 o_2] H := hP
  have hD : va_D A [kX8 h p1 p2 p3 p4 p5 x, aI y p1 20 fp, aI y p2 20 fh, aI y p3 20 fl, aI y p4 20 fe, aI y p5 20 o_2] := hD
  refine cl_Ri (va_runV (As := [.int a1, .int a2, .int (midG (vC 0 fp fh fl) (tn (x 0))), .int (midG (vC 1 fp fh fl) (tn (x 0)))]) (rest := []) ⟨hx, hb, hml, hown, hts⟩ (c_X8_reasonBeside l G y h a1 a2 (midG (vC 0 fp fh fl) (tn (x 0))) (midG (vC 1 fp fh fl) (tn (x 0))) p1 p2 p3 p4 p5 x fp fh fl) (cwV 4 hts gX8_reason_X8_reasonBeside rfl rfl rfl (by decide +kernel) ⟨Nat.le_of_ble_eq_true rfl, Nat.le_of_ble_eq_true rfl⟩) (PR_V (hP.sub (ws' := [kX8 h p1 p2 p3 p4 p5 x, aI y p1 20 fp, aI y p2 20 fh, aI y p3 20 fl]) [0, 1, 2, 3] rfl) hK hN (ci := 6) (q0 := 0) rfl rfl) rfl rfl hl.1 rfl (lv_room (Nat.le_of_ble_eq_true rfl)) dX8_reason_13 ⟨Nat.le_of_ble_eq_true rfl, Nat.le_of_ble_eq_true rfl⟩) ?_
  exact W.iret hx hb hr (end_Hi o_2 hP hD hS rfl rfl) hS.2.2 dX8_reason_16

abbrev rmX8_goodCount : Room := ({ frames := 3, cells := 0, slots := 0, locals := 71 } : Room)
set_option maxHeartbeats 4000000 in
set_option maxRecDepth 100000 in
theorem c_X8_goodCount (l : Launch) (G : va_G) (y : Nat → ClassId) (h : Nat) (a1 : Int32) (p1 : Nat) (p2 : Nat) (p3 : Nat) (p4 : Nat) (p5 : Nat) (x : Nat → Int32) (fp : Nat → Int32) (fh : Nat → Int32) (fl : Nat → Int32) (fe : Nat → Int32) (o : Nat → Int32) (sz : Nat) (h0 : vp_in (x 0) 21) : Met l yX8_goodCount wsX8_goodCount rmX8_goodCount (PH G y [.ref h, .int a1] [kX8 h p1 p2 p3 p4 p5 x, aI y p1 20 fp, aI y p2 20 fh, aI y p3 20 fl, aI y p4 20 fe, aI y p5 20 o] sz) (QHi G (nI (goodG fp (sC fh fl) (tn (x 0)) a1 (tn (x 0)))) (fun u : (Nat → Int32) => [kX8 h p1 p2 p3 p4 p5 x, aI y p1 20 fp, aI y p2 20 fh, aI y p3 20 fl, aI y p4 20 fe, aI y p5 20 u]) (va_A [kX8 h p1 p2 p3 p4 p5 x, aI y p1 20 fp, aI y p2 20 fh, aI y p3 20 fl, aI y p4 20 fe, aI y p5 20 o] sz)) 0 0 (va_A [kX8 h p1 p2 p3 p4 p5 x, aI y p1 20 fp, aI y p2 20 fh, aI y p3 20 fl, aI y p4 20 fe, aI y p5 20 o] sz) := by
  refine Met.ofW (cc := cX8_goodCount) (maxL := 2) (ret := (some .int)) (by decide) rfl ?_
  intro p e s m args below meth c s₁ B hml hv
  obtain ⟨rfl, hsz, hP, ⟨hK, hN⟩, hD0⟩ := hv
  have hx := B.exec
  have hb := B.bytes
  have hr := B.returns
  have hts := atoms_spec (ws := wsX8_goodCount) B.pre
  have hown : s.vm.findClass RX8 = some m.cls := findClass_of_methodNamed B.named
  have hlocks := B.notSynchronized
  subst hsz
  have hD := hD0.self (sz := s.heap.size)
  generalize hAe : va_A [kX8 h p1 p2 p3 p4 p5 x, aI y p1 20 fp, aI y p2 20 fh, aI y p3 20 fl, aI y p4 20 fe, aI y p5 20 o] s.heap.size = A at hD ⊢
  have hA : ∀ q : Nat, s.heap.size ≤ q → A q := fun q h => by rw [← hAe]; exact Or.inr h
  have hS : va_S A s.heap s.heap [] := va_S.rf
  have hP : va_P G vwCl [kX8 h p1 p2 p3 p4 p5 x, aI y p1 20 fp, aI y p2 20 fh, aI y p3 20 fl, aI y p4 20 fe, aI y p5 20 o] s.heap := hP
  have hl := lv_entry ([.ref h, .int a1]) (n := 2) (Nat.le_of_ble_eq_true rfl)
  rw [lg_entry_eq]
  generalize (lg_sl ([.ref h, .int a1]) ++ List.replicate (2 - (lg_sl ([.ref h, .int a1])).length) Slot.unset).toArray = ls at hl ⊢
  have hl : lv_has ls 2 [(0, .ref h), (1, .int a1)] := hl
  refine lv_aload_n hx hb dX8_goodCount_0 rfl (lv_at hl 0 rfl) ?_
  refine lv_iload_n hx hb dX8_goodCount_1 rfl (lv_at hl 1 rfl) ?_
  refine lv_aload_n hx hb dX8_goodCount_2 rfl (lv_at hl 0 rfl) ?_
  refine lv_iconst (v := 0) hx hb dX8_goodCount_3 (by decide) ?_
  refine cl_Hi (wr := []) (fun u : (Nat → Int32) => [kX8 h p1 p2 p3 p4 p5 x, aI y p1 20 fp, aI y p2 20 fh, aI y p3 20 fl, aI y p4 20 fe, aI y p5 20 u]) [0, 1, 2, 3, 4, 5] [] [0, 1, 2, 3, 4, 5] (va_runV (As := [.int 0]) (rest := [.int a1, .ref h]) ⟨hx, hb, hml, hown, hts⟩ (c_X8_middleOf l G y h 0 p1 p2 p3 p4 p5 x fp fh fl fe o s.heap.size h0) (cwV 1 hts gX8_goodCount_X8_middleOf rfl rfl rfl (by decide +kernel) ⟨Nat.le_of_ble_eq_true rfl, Nat.le_of_ble_eq_true rfl⟩) (PH_V (hP.sub (ws' := [kX8 h p1 p2 p3 p4 p5 x, aI y p1 20 fp, aI y p2 20 fh, aI y p3 20 fl, aI y p4 20 fe, aI y p5 20 o]) [0, 1, 2, 3, 4, 5] rfl) hK hN (hD.sub (ws' := [kX8 h p1 p2 p3 p4 p5 x, aI y p1 20 fp, aI y p2 20 fh, aI y p3 20 fl, aI y p4 20 fe, aI y p5 20 o]) [0, 1, 2, 3, 4, 5] (by decide) rfl) (ci := 6) (q0 := 0) rfl rfl) rfl rfl hl.1 rfl (lv_room (Nat.le_of_ble_eq_true rfl)) dX8_goodCount_4 ⟨Nat.le_of_ble_eq_true rfl, Nat.le_of_ble_eq_true rfl⟩) hP hD hS hA rfl rfl rfl (by decide) rfl (fun _ => rfl) (fun u H locs hP hD hS => ?_)
  obtain ⟨o_1, rfl⟩ : ∃ zq9, zq9 = u := ⟨_, rfl⟩
  have hP : va_P G vwCl [kX8 h p1 p2 p3 p4 p5 x, aI y p1 20 fp, aI y p2 20 fh, aI y p3 20 fl, aI y p4 20 fe, aI y p5 20 o_1] H := hP
  have hD : va_D A [kX8 h p1 p2 p3 p4 p5 x, aI y p1 20 fp, aI y p2 20 fh, aI y p3 20 fl, aI y p4 20 fe, aI y p5 20 o_1] := hD
  refine lv_aload_n hx hb dX8_goodCount_7 rfl (lv_at hl 0 rfl) ?_
  refine lv_iconst (v := 1) hx hb dX8_goodCount_8 (by decide) ?_
  refine cl_Hi (wr := []) (fun u : (Nat → Int32) => [kX8 h p1 p2 p3 p4 p5 x, aI y p1 20 fp, aI y p2 20 fh, aI y p3 20 fl, aI y p4 20 fe, aI y p5 20 u]) [0, 1, 2, 3, 4, 5] [] [0, 1, 2, 3, 4, 5] (va_runV (As := [.int 1]) (rest := [.int (midG (vC 0 fp fh fl) (tn (x 0))), .int a1, .ref h]) ⟨hx, hb, hml, hown, hts⟩ (c_X8_middleOf l G y h 1 p1 p2 p3 p4 p5 x fp fh fl fe o_1 H.size h0) (cwV 1 hts gX8_goodCount_X8_middleOf rfl rfl rfl (by decide +kernel) ⟨Nat.le_of_ble_eq_true rfl, Nat.le_of_ble_eq_true rfl⟩) (PH_V (hP.sub (ws' := [kX8 h p1 p2 p3 p4 p5 x, aI y p1 20 fp, aI y p2 20 fh, aI y p3 20 fl, aI y p4 20 fe, aI y p5 20 o_1]) [0, 1, 2, 3, 4, 5] rfl) hK hN (hD.sub (ws' := [kX8 h p1 p2 p3 p4 p5 x, aI y p1 20 fp, aI y p2 20 fh, aI y p3 20 fl, aI y p4 20 fe, aI y p5 20 o_1]) [0, 1, 2, 3, 4, 5] (by decide) rfl) (ci := 6) (q0 := 0) rfl rfl) rfl rfl hl.1 rfl (lv_room (Nat.le_of_ble_eq_true rfl)) dX8_goodCount_9 ⟨Nat.le_of_ble_eq_true rfl, Nat.le_of_ble_eq_true rfl⟩) hP hD hS hA rfl rfl rfl (by decide) rfl (fun _ => rfl) (fun u H locs hP hD hS => ?_)
  obtain ⟨o_2, rfl⟩ : ∃ zq9, zq9 = u := ⟨_, rfl⟩
  have hP : va_P G vwCl [kX8 h p1 p2 p3 p4 p5 x, aI y p1 20 fp, aI y p2 20 fh, aI y p3 20 fl, aI y p4 20 fe, aI y p5 20 o_2] H := hP
  have hD : va_D A [kX8 h p1 p2 p3 p4 p5 x, aI y p1 20 fp, aI y p2 20 fh, aI y p3 20 fl, aI y p4 20 fe, aI y p5 20 o_2] := hD
  refine cl_Ri (va_runV (As := [.int a1, .int (midG (vC 0 fp fh fl) (tn (x 0))), .int (midG (vC 1 fp fh fl) (tn (x 0)))]) (rest := []) ⟨hx, hb, hml, hown, hts⟩ (c_X8_goodBeside l G y h a1 (midG (vC 0 fp fh fl) (tn (x 0))) (midG (vC 1 fp fh fl) (tn (x 0))) p1 p2 p3 p4 p5 x fp fh fl h0) (cwV 3 hts gX8_goodCount_X8_goodBeside rfl rfl rfl (by decide +kernel) ⟨Nat.le_of_ble_eq_true rfl, Nat.le_of_ble_eq_true rfl⟩) (PR_V (hP.sub (ws' := [kX8 h p1 p2 p3 p4 p5 x, aI y p1 20 fp, aI y p2 20 fh, aI y p3 20 fl]) [0, 1, 2, 3] rfl) hK hN (ci := 6) (q0 := 0) rfl rfl) rfl rfl hl.1 rfl (lv_room (Nat.le_of_ble_eq_true rfl)) dX8_goodCount_12 ⟨Nat.le_of_ble_eq_true rfl, Nat.le_of_ble_eq_true rfl⟩) ?_
  exact W.iret hx hb hr (end_Hi o_2 hP hD hS (congrArg nI (goodB_G _ _ _ _ _)) rfl) hS.2.2 dX8_goodCount_15

def s_X8_leastTolerance_r (a1 : Int32) (x : Nat → Int32) (fp : Nat → Int32) (fh : Nat → Int32) (fl : Nat → Int32) : Int32 := (tolS (fun k => goodG fp (sC fh fl) (tn (x 0)) (nI k) (tn (x 0))) a1 100 0)
abbrev rmX8_leastTolerance : Room := ({ frames := 3, cells := 0, slots := 0, locals := 71 } : Room)
set_option maxHeartbeats 4000000 in
set_option maxRecDepth 100000 in
theorem c_X8_leastTolerance (l : Launch) (G : va_G) (y : Nat → ClassId) (h : Nat) (a1 : Int32) (p1 : Nat) (p2 : Nat) (p3 : Nat) (p4 : Nat) (p5 : Nat) (x : Nat → Int32) (fp : Nat → Int32) (fh : Nat → Int32) (fl : Nat → Int32) (fe : Nat → Int32) (o : Nat → Int32) (sz : Nat) (h0 : vp_in (x 0) 21) : Met l yX8_leastTolerance wsX8_leastTolerance rmX8_leastTolerance (PH G y [.ref h, .int a1] [kX8 h p1 p2 p3 p4 p5 x, aI y p1 20 fp, aI y p2 20 fh, aI y p3 20 fl, aI y p4 20 fe, aI y p5 20 o] sz) (QHi G (s_X8_leastTolerance_r a1 x fp fh fl) (fun u : (Nat → Int32) => [kX8 h p1 p2 p3 p4 p5 x, aI y p1 20 fp, aI y p2 20 fh, aI y p3 20 fl, aI y p4 20 fe, aI y p5 20 u]) (va_A [kX8 h p1 p2 p3 p4 p5 x, aI y p1 20 fp, aI y p2 20 fh, aI y p3 20 fl, aI y p4 20 fe, aI y p5 20 o] sz)) 0 0 (va_A [kX8 h p1 p2 p3 p4 p5 x, aI y p1 20 fp, aI y p2 20 fh, aI y p3 20 fl, aI y p4 20 fe, aI y p5 20 o] sz) := by
  refine Met.ofW (cc := cX8_leastTolerance) (maxL := 5) (ret := (some .int)) (by decide) rfl ?_
  intro p e s m args below meth c s₁ B hml hv
  obtain ⟨rfl, hsz, hP, ⟨hK, hN⟩, hD0⟩ := hv
  have hx := B.exec
  have hb := B.bytes
  have hr := B.returns
  have hts := atoms_spec (ws := wsX8_leastTolerance) B.pre
  have hown : s.vm.findClass RX8 = some m.cls := findClass_of_methodNamed B.named
  have hlocks := B.notSynchronized
  subst hsz
  have hD := hD0.self (sz := s.heap.size)
  generalize hAe : va_A [kX8 h p1 p2 p3 p4 p5 x, aI y p1 20 fp, aI y p2 20 fh, aI y p3 20 fl, aI y p4 20 fe, aI y p5 20 o] s.heap.size = A at hD ⊢
  have hA : ∀ q : Nat, s.heap.size ≤ q → A q := fun q h => by rw [← hAe]; exact Or.inr h
  have hS : va_S A s.heap s.heap [] := va_S.rf
  have hP : va_P G vwCl [kX8 h p1 p2 p3 p4 p5 x, aI y p1 20 fp, aI y p2 20 fh, aI y p3 20 fl, aI y p4 20 fe, aI y p5 20 o] s.heap := hP
  have hl := lv_entry ([.ref h, .int a1]) (n := 5) (Nat.le_of_ble_eq_true rfl)
  rw [lg_entry_eq]
  generalize (lg_sl ([.ref h, .int a1]) ++ List.replicate (5 - (lg_sl ([.ref h, .int a1])).length) Slot.unset).toArray = ls at hl ⊢
  have hl : lv_has ls 5 [(0, .ref h), (1, .int a1)] := hl
  obtain ⟨QQ, hQQ⟩ : ∃ zq9, zq9 = MQ below (QHi G (s_X8_leastTolerance_r a1 x fp fh fl) (fun u : (Nat → Int32) => [kX8 h p1 p2 p3 p4 p5 x, aI y p1 20 fp, aI y p2 20 fh, aI y p3 20 fl, aI y p4 20 fe, aI y p5 20 u]) A) ([.ref h, .int a1] : List Value).toArray s 0 0 A := ⟨_, rfl⟩
  rw [← hQQ]
  refine lv_aload_n hx hb dX8_leastTolerance_0 rfl (lv_at hl 0 rfl) ?_
  refine lv_iconst (v := 0) hx hb dX8_leastTolerance_1 (by decide) ?_
  refine cl_Hi (wr := []) (fun u : (Nat → Int32) => [kX8 h p1 p2 p3 p4 p5 x, aI y p1 20 fp, aI y p2 20 fh, aI y p3 20 fl, aI y p4 20 fe, aI y p5 20 u]) [0, 1, 2, 3, 4, 5] [] [0, 1, 2, 3, 4, 5] (va_runV (As := [.int 0]) (rest := []) ⟨hx, hb, hml, hown, hts⟩ (c_X8_middleOf l G y h 0 p1 p2 p3 p4 p5 x fp fh fl fe o s.heap.size h0) (cwV 1 hts gX8_leastTolerance_X8_middleOf rfl rfl rfl (by decide +kernel) ⟨Nat.le_of_ble_eq_true rfl, Nat.le_of_ble_eq_true rfl⟩) (PH_V (hP.sub (ws' := [kX8 h p1 p2 p3 p4 p5 x, aI y p1 20 fp, aI y p2 20 fh, aI y p3 20 fl, aI y p4 20 fe, aI y p5 20 o]) [0, 1, 2, 3, 4, 5] rfl) hK hN (hD.sub (ws' := [kX8 h p1 p2 p3 p4 p5 x, aI y p1 20 fp, aI y p2 20 fh, aI y p3 20 fl, aI y p4 20 fe, aI y p5 20 o]) [0, 1, 2, 3, 4, 5] (by decide) rfl) (ci := 6) (q0 := 0) rfl rfl) rfl rfl hl.1 rfl (lv_room (Nat.le_of_ble_eq_true rfl)) dX8_leastTolerance_2 ⟨Nat.le_of_ble_eq_true rfl, Nat.le_of_ble_eq_true rfl⟩) hP hD hS hA rfl rfl rfl (by decide) rfl (fun _ => rfl) (fun u H locs hP hD hS => ?_)
  obtain ⟨o_1, rfl⟩ : ∃ zq9, zq9 = u := ⟨_, rfl⟩
  have hP : va_P G vwCl [kX8 h p1 p2 p3 p4 p5 x, aI y p1 20 fp, aI y p2 20 fh, aI y p3 20 fl, aI y p4 20 fe, aI y p5 20 o_1] H := hP
  have hD : va_D A [kX8 h p1 p2 p3 p4 p5 x, aI y p1 20 fp, aI y p2 20 fh, aI y p3 20 fl, aI y p4 20 fe, aI y p5 20 o_1] := hD
  refine lv_istore_n (lv' := [(2, .int (midG (vC 0 fp fh fl) (tn (x 0)))), (0, .ref h), (1, .int a1)]) hx hb dX8_leastTolerance_5 rfl hl (by decide) rfl (fun ls hl => ?_)
  refine lv_aload_n hx hb dX8_leastTolerance_6 rfl (lv_at hl 1 rfl) ?_
  refine lv_iconst (v := 1) hx hb dX8_leastTolerance_7 (by decide) ?_
  refine cl_Hi (wr := []) (fun u : (Nat → Int32) => [kX8 h p1 p2 p3 p4 p5 x, aI y p1 20 fp, aI y p2 20 fh, aI y p3 20 fl, aI y p4 20 fe, aI y p5 20 u]) [0, 1, 2, 3, 4, 5] [] [0, 1, 2, 3, 4, 5] (va_runV (As := [.int 1]) (rest := []) ⟨hx, hb, hml, hown, hts⟩ (c_X8_middleOf l G y h 1 p1 p2 p3 p4 p5 x fp fh fl fe o_1 H.size h0) (cwV 1 hts gX8_leastTolerance_X8_middleOf rfl rfl rfl (by decide +kernel) ⟨Nat.le_of_ble_eq_true rfl, Nat.le_of_ble_eq_true rfl⟩) (PH_V (hP.sub (ws' := [kX8 h p1 p2 p3 p4 p5 x, aI y p1 20 fp, aI y p2 20 fh, aI y p3 20 fl, aI y p4 20 fe, aI y p5 20 o_1]) [0, 1, 2, 3, 4, 5] rfl) hK hN (hD.sub (ws' := [kX8 h p1 p2 p3 p4 p5 x, aI y p1 20 fp, aI y p2 20 fh, aI y p3 20 fl, aI y p4 20 fe, aI y p5 20 o_1]) [0, 1, 2, 3, 4, 5] (by decide) rfl) (ci := 6) (q0 := 0) rfl rfl) rfl rfl hl.1 rfl (lv_room (Nat.le_of_ble_eq_true rfl)) dX8_leastTolerance_8 ⟨Nat.le_of_ble_eq_true rfl, Nat.le_of_ble_eq_true rfl⟩) hP hD hS hA rfl rfl rfl (by decide) rfl (fun _ => rfl) (fun u H locs hP hD hS => ?_)
  obtain ⟨o_2, rfl⟩ : ∃ zq9, zq9 = u := ⟨_, rfl⟩
  have hP : va_P G vwCl [kX8 h p1 p2 p3 p4 p5 x, aI y p1 20 fp, aI y p2 20 fh, aI y p3 20 fl, aI y p4 20 fe, aI y p5 20 o_2] H := hP
  have hD : va_D A [kX8 h p1 p2 p3 p4 p5 x, aI y p1 20 fp, aI y p2 20 fh, aI y p3 20 fl, aI y p4 20 fe, aI y p5 20 o_2] := hD
  refine lv_istore_n (lv' := [(3, .int (midG (vC 1 fp fh fl) (tn (x 0)))), (2, .int (midG (vC 0 fp fh fl) (tn (x 0)))), (0, .ref h), (1, .int a1)]) hx hb dX8_leastTolerance_11 rfl hl (by decide) rfl (fun ls hl => ?_)
  refine lv_iconst (v := 0) hx hb dX8_leastTolerance_12 (by decide) ?_
  refine lv_istore (lv' := [(4, .int 0), (3, .int (midG (vC 1 fp fh fl) (tn (x 0)))), (2, .int (midG (vC 0 fp fh fl) (tn (x 0)))), (0, .ref h), (1, .int a1)]) hx hb dX8_leastTolerance_13 hl (by decide) rfl (fun ls hl => ?_)
  have LOOP15_3 : ∀ (n_4 : Nat) (k0 : Nat) (x4 : Int32) (hx4 : x4 = nI k0) (hk : k0 ≤ 100) (hres : (tolS (fun k => goodG fp (sC fh fl) (tn (x 0)) (nI k) (tn (x 0))) a1 (100 - k0) k0) = (tolS (fun k => goodG fp (sC fh fl) (tn (x 0)) (nI k) (tn (x 0))) a1 100 0)) (hn_6 : 100 - k0 < n_4) (ls : Array Slot) (hl : lv_has ls 5 [(4, .int x4), (3, .int (midG (vC 1 fp fh fl) (tn (x 0)))), (2, .int (midG (vC 0 fp fh fl) (tn (x 0)))), (0, .ref h), (1, .int a1)]), W p l e (headSpec wsX8_leastTolerance rmX8_leastTolerance).room s m ([.ref h, .int a1] : List Value).toArray below meth c H locs 0 0 QQ (F0 m 15 ls []) := by
    intro n_4
    induction n_4 with
    | zero => intro k0 x4 hx4 hk hres hn_6 ls hl; exact absurd hn_6 (Nat.not_lt_zero _)
    | succ n_4 ih_5 =>
      intro k0 x4 hx4 hk hres hn_6 ls hl
      refine lv_iload hx hb dX8_leastTolerance_15 (lv_at hl 0 rfl) ?_
      refine lv_bipush (v := 99) hx hb dX8_leastTolerance_17 (by decide) ?_
      refine lv_icmp_gt (tgt := 43) hx hb dX8_leastTolerance_19 (by decide) (fun c_7 => ?_) (fun c_7 => ?_)
      · have hk9 : k0 = 100 := by have := kgt (N := 99) hx4 (by omega) (by decide) c_7; omega
        refine lv_ldc (v := (-99999)) hx hb hown (hts (.constant RX8 54 (-99999)) (by decide +kernel)) dX8_leastTolerance_43 ?_
        refine rw_i (x' := (tolS (fun k => goodG fp (sC fh fl) (tn (x 0)) (nI k) (tn (x 0))) a1 100 0)) (by rw [← hres, hk9]; rfl) ?_
        rw [hQQ]
        exact W.iret hx hb hr (end_Hi o_2 hP hD hS rfl rfl) hS.2.2 dX8_leastTolerance_45
      · have hk9 : k0 < 100 := kle hx4 (by omega) (by decide) c_7
        refine lv_aload_n hx hb dX8_leastTolerance_22 rfl (lv_at hl 3 rfl) ?_
        refine lv_iload hx hb dX8_leastTolerance_23 (lv_at hl 0 rfl) ?_
        refine lv_iload_n hx hb dX8_leastTolerance_25 rfl (lv_at hl 2 rfl) ?_
        refine lv_iload_n hx hb dX8_leastTolerance_26 rfl (lv_at hl 1 rfl) ?_
        refine cl_Ri (va_runV (As := [.int x4, .int (midG (vC 0 fp fh fl) (tn (x 0))), .int (midG (vC 1 fp fh fl) (tn (x 0)))]) (rest := []) ⟨hx, hb, hml, hown, hts⟩ (c_X8_goodBeside l G y h x4 (midG (vC 0 fp fh fl) (tn (x 0))) (midG (vC 1 fp fh fl) (tn (x 0))) p1 p2 p3 p4 p5 x fp fh fl h0) (cwV 3 hts gX8_leastTolerance_X8_goodBeside rfl rfl rfl (by decide +kernel) ⟨Nat.le_of_ble_eq_true rfl, Nat.le_of_ble_eq_true rfl⟩) (PR_V (hP.sub (ws' := [kX8 h p1 p2 p3 p4 p5 x, aI y p1 20 fp, aI y p2 20 fh, aI y p3 20 fl]) [0, 1, 2, 3] rfl) hK hN (ci := 6) (q0 := 0) rfl rfl) rfl rfl hl.1 rfl (lv_room (Nat.le_of_ble_eq_true rfl)) dX8_leastTolerance_27 ⟨Nat.le_of_ble_eq_true rfl, Nat.le_of_ble_eq_true rfl⟩) ?_
        refine lv_iload_n hx hb dX8_leastTolerance_30 rfl (lv_at hl 4 rfl) ?_
        refine lv_icmp_lt (tgt := 37) hx hb dX8_leastTolerance_31 (by decide) (fun c_8 => ?_) (fun c_8 => ?_)
        · refine lv_iinc (v := (x4 + 1)) (lv' := [(4, .int (x4 + 1)), (3, .int (midG (vC 1 fp fh fl) (tn (x 0)))), (2, .int (midG (vC 0 fp fh fl) (tn (x 0)))), (0, .ref h), (1, .int a1)]) hx hb dX8_leastTolerance_37 hl (k := 0) rfl (by first | rfl | decide) (by decide) rfl (fun ls hl => ?_)
          refine lv_goto (tgt := 15) hx hb dX8_leastTolerance_40 (by decide) ?_
          exact ih_5 (k0 + 1) (x4 + 1) (by rw [hx4]; exact nI_1 k0) (by omega) ((tol_next hk9 (by have h9 := c_8; rw [hx4] at h9; rw [← goodB_G]; exact h9)).trans hres) (by omega) ls (lv_sub hl [0, 1, 2, 3, 4] rfl)
        · refine lv_iload hx hb dX8_leastTolerance_34 (lv_at hl 0 rfl) ?_
          refine rw_i (x' := (tolS (fun k => goodG fp (sC fh fl) (tn (x 0)) (nI k) (tn (x 0))) a1 100 0)) (by rw [← hres, hx4]; exact (tol_hit hk9 (by have h9 := c_8; rw [hx4] at h9; rw [← goodB_G]; exact h9)).symm) ?_
          rw [hQQ]
          exact W.iret hx hb hr (end_Hi o_2 hP hD hS rfl rfl) hS.2.2 dX8_leastTolerance_36
  exact LOOP15_3 (100 - 0 + 1) 0 0 rfl (by omega) rfl (Nat.lt_succ_self _) ls (lv_sub hl [0, 1, 2, 3, 4] rfl)

theorem goodG_step {p s : Nat → Int32} {n k : Nat} {tol x4 od z : Int32} (hx : x4 = nI (goodG p s n tol k)) (ho : od = oddB p s tol (midG p n) (midG s n) k) (e : z = (if od = 0 then x4 + 1 else x4)) : z = nI (goodG p s n tol (k + 1)) := good_step2 hx ho e
theorem sumC_step {p s : Nat → Int32} {n k : Nat} {tol x3 : Int32} {val : Nat → Int32} {od z vv : Int32} (hx : x3 = sumG p s n tol val k) (ho : od = oddB p s tol (midG p n) (midG s n) k) (hv : vv = val k) (e : z = (if od = 0 then x3 + vv else x3)) : z = sumG p s n tol val (k + 1) := sum_step hx ho hv e
theorem aver_end {p s val : Nat → Int32} {n : Nat} {tol x5 x6 v : Int32} (hn : n < 1000000) (h5 : x5 = nI (goodG p s n tol n)) (h6 : x6 = sumG p s n tol val n) (e : v = (if x5 ≤ 0 then (-99999) else (if 1 < (x6 / x5) then (x6 / x5) else 1))) : v = (if goodG p s n tol n = 0 then -99999 else meanG p s n tol val) := by
  have hle := goodG_le p s n tol n
  rw [e]
  by_cases h : x5 ≤ 0
  · rw [if_pos h, if_pos (zero_of_le0 h5 (by omega) h)]
  · rw [if_neg h, if_neg (Nat.ne_of_gt (pos_of_nle0 h5 h)), maxG, h5, h6]
    rfl

abbrev rmX8_average : Room := ({ frames := 2, cells := 0, slots := 0, locals := 46 } : Room)
set_option maxHeartbeats 4000000 in
set_option maxRecDepth 100000 in
theorem c_X8_average (l : Launch) (G : va_G) (y : Nat → ClassId) (h : Nat) (a1 : Int32) (a2 : Int32) (p1 : Nat) (p2 : Nat) (p3 : Nat) (p4 : Nat) (p5 : Nat) (x : Nat → Int32) (fp : Nat → Int32) (fh : Nat → Int32) (fl : Nat → Int32) (fe : Nat → Int32) (o : Nat → Int32) (sz : Nat) (h0 : vp_in (x 0) 21) : Met l yX8_average wsX8_average rmX8_average (PH G y [.ref h, .int a1, .int a2] [kX8 h p1 p2 p3 p4 p5 x, aI y p1 20 fp, aI y p2 20 fh, aI y p3 20 fl, aI y p4 20 fe, aI y p5 20 o] sz) (QHi G (if (goodG fp (sC fh fl) (tn (x 0)) a2 (tn (x 0))) = 0 then -99999 else meanG fp (sC fh fl) (tn (x 0)) a2 (vC a1 fp fh fl)) (fun u : (Nat → Int32) => [kX8 h p1 p2 p3 p4 p5 x, aI y p1 20 fp, aI y p2 20 fh, aI y p3 20 fl, aI y p4 20 fe, aI y p5 20 u]) (va_A [kX8 h p1 p2 p3 p4 p5 x, aI y p1 20 fp, aI y p2 20 fh, aI y p3 20 fl, aI y p4 20 fe, aI y p5 20 o] sz)) 0 0 (va_A [kX8 h p1 p2 p3 p4 p5 x, aI y p1 20 fp, aI y p2 20 fh, aI y p3 20 fl, aI y p4 20 fe, aI y p5 20 o] sz) := by
  refine Met.ofW (cc := cX8_average) (maxL := 8) (ret := (some .int)) (by decide) rfl ?_
  intro p e s m args below meth c s₁ B hml hv
  obtain ⟨rfl, hsz, hP, ⟨hK, hN⟩, hD0⟩ := hv
  have hx := B.exec
  have hb := B.bytes
  have hr := B.returns
  have hts := atoms_spec (ws := wsX8_average) B.pre
  have hown : s.vm.findClass RX8 = some m.cls := findClass_of_methodNamed B.named
  have hlocks := B.notSynchronized
  have i_X8 : ∀ w ∈ u_ws RX8 TX8 10, w ∈ wsX8_average := by decide +kernel
  subst hsz
  have hD := hD0.self (sz := s.heap.size)
  generalize hAe : va_A [kX8 h p1 p2 p3 p4 p5 x, aI y p1 20 fp, aI y p2 20 fh, aI y p3 20 fl, aI y p4 20 fe, aI y p5 20 o] s.heap.size = A at hD ⊢
  have hA : ∀ q : Nat, s.heap.size ≤ q → A q := fun q h => by rw [← hAe]; exact Or.inr h
  have hS : va_S A s.heap s.heap [] := va_S.rf
  have hP : va_P G vwCl [kX8 h p1 p2 p3 p4 p5 x, aI y p1 20 fp, aI y p2 20 fh, aI y p3 20 fl, aI y p4 20 fe, aI y p5 20 o] s.heap := hP
  obtain ⟨hn1, hn2⟩ := in_tn h0 (by decide)
  have hl := lv_entry ([.ref h, .int a1, .int a2]) (n := 8) (Nat.le_of_ble_eq_true rfl)
  rw [lg_entry_eq]
  generalize (lg_sl ([.ref h, .int a1, .int a2]) ++ List.replicate (8 - (lg_sl ([.ref h, .int a1, .int a2])).length) Slot.unset).toArray = ls at hl ⊢
  have hl : lv_has ls 8 [(0, .ref h), (1, .int a1), (2, .int a2)] := hl
  obtain ⟨QQ, hQQ⟩ : ∃ zq9, zq9 = MQ below (QHi G (if (goodG fp (sC fh fl) (tn (x 0)) a2 (tn (x 0))) = 0 then -99999 else meanG fp (sC fh fl) (tn (x 0)) a2 (vC a1 fp fh fl)) (fun u : (Nat → Int32) => [kX8 h p1 p2 p3 p4 p5 x, aI y p1 20 fp, aI y p2 20 fh, aI y p3 20 fl, aI y p4 20 fe, aI y p5 20 u]) A) ([.ref h, .int a1, .int a2] : List Value).toArray s 0 0 A := ⟨_, rfl⟩
  rw [← hQQ]
  refine lv_aload_n hx hb dX8_average_0 rfl (lv_at hl 0 rfl) ?_
  refine lv_iconst (v := 0) hx hb dX8_average_1 (by decide) ?_
  refine cl_Hi (wr := []) (fun u : (Nat → Int32) => [kX8 h p1 p2 p3 p4 p5 x, aI y p1 20 fp, aI y p2 20 fh, aI y p3 20 fl, aI y p4 20 fe, aI y p5 20 u]) [0, 1, 2, 3, 4, 5] [] [0, 1, 2, 3, 4, 5] (va_runV (As := [.int 0]) (rest := []) ⟨hx, hb, hml, hown, hts⟩ (c_X8_middleOf l G y h 0 p1 p2 p3 p4 p5 x fp fh fl fe o s.heap.size h0) (cwV 1 hts gX8_average_X8_middleOf rfl rfl rfl (by decide +kernel) ⟨Nat.le_of_ble_eq_true rfl, Nat.le_of_ble_eq_true rfl⟩) (PH_V (hP.sub (ws' := [kX8 h p1 p2 p3 p4 p5 x, aI y p1 20 fp, aI y p2 20 fh, aI y p3 20 fl, aI y p4 20 fe, aI y p5 20 o]) [0, 1, 2, 3, 4, 5] rfl) hK hN (hD.sub (ws' := [kX8 h p1 p2 p3 p4 p5 x, aI y p1 20 fp, aI y p2 20 fh, aI y p3 20 fl, aI y p4 20 fe, aI y p5 20 o]) [0, 1, 2, 3, 4, 5] (by decide) rfl) (ci := 6) (q0 := 0) rfl rfl) rfl rfl hl.1 rfl (lv_room (Nat.le_of_ble_eq_true rfl)) dX8_average_2 ⟨Nat.le_of_ble_eq_true rfl, Nat.le_of_ble_eq_true rfl⟩) hP hD hS hA rfl rfl rfl (by decide) rfl (fun _ => rfl) (fun u H locs hP hD hS => ?_)
  obtain ⟨o_1, rfl⟩ : ∃ zq9, zq9 = u := ⟨_, rfl⟩
  have hP : va_P G vwCl [kX8 h p1 p2 p3 p4 p5 x, aI y p1 20 fp, aI y p2 20 fh, aI y p3 20 fl, aI y p4 20 fe, aI y p5 20 o_1] H := hP
  have hD : va_D A [kX8 h p1 p2 p3 p4 p5 x, aI y p1 20 fp, aI y p2 20 fh, aI y p3 20 fl, aI y p4 20 fe, aI y p5 20 o_1] := hD
  refine lv_istore_n (lv' := [(3, .int (midG (vC 0 fp fh fl) (tn (x 0)))), (0, .ref h), (1, .int a1), (2, .int a2)]) hx hb dX8_average_5 rfl hl (by decide) rfl (fun ls hl => ?_)
  refine lv_aload_n hx hb dX8_average_6 rfl (lv_at hl 1 rfl) ?_
  refine lv_iconst (v := 1) hx hb dX8_average_7 (by decide) ?_
  refine cl_Hi (wr := []) (fun u : (Nat → Int32) => [kX8 h p1 p2 p3 p4 p5 x, aI y p1 20 fp, aI y p2 20 fh, aI y p3 20 fl, aI y p4 20 fe, aI y p5 20 u]) [0, 1, 2, 3, 4, 5] [] [0, 1, 2, 3, 4, 5] (va_runV (As := [.int 1]) (rest := []) ⟨hx, hb, hml, hown, hts⟩ (c_X8_middleOf l G y h 1 p1 p2 p3 p4 p5 x fp fh fl fe o_1 H.size h0) (cwV 1 hts gX8_average_X8_middleOf rfl rfl rfl (by decide +kernel) ⟨Nat.le_of_ble_eq_true rfl, Nat.le_of_ble_eq_true rfl⟩) (PH_V (hP.sub (ws' := [kX8 h p1 p2 p3 p4 p5 x, aI y p1 20 fp, aI y p2 20 fh, aI y p3 20 fl, aI y p4 20 fe, aI y p5 20 o_1]) [0, 1, 2, 3, 4, 5] rfl) hK hN (hD.sub (ws' := [kX8 h p1 p2 p3 p4 p5 x, aI y p1 20 fp, aI y p2 20 fh, aI y p3 20 fl, aI y p4 20 fe, aI y p5 20 o_1]) [0, 1, 2, 3, 4, 5] (by decide) rfl) (ci := 6) (q0 := 0) rfl rfl) rfl rfl hl.1 rfl (lv_room (Nat.le_of_ble_eq_true rfl)) dX8_average_8 ⟨Nat.le_of_ble_eq_true rfl, Nat.le_of_ble_eq_true rfl⟩) hP hD hS hA rfl rfl rfl (by decide) rfl (fun _ => rfl) (fun u H locs hP hD hS => ?_)
  obtain ⟨o_2, rfl⟩ : ∃ zq9, zq9 = u := ⟨_, rfl⟩
  have hP : va_P G vwCl [kX8 h p1 p2 p3 p4 p5 x, aI y p1 20 fp, aI y p2 20 fh, aI y p3 20 fl, aI y p4 20 fe, aI y p5 20 o_2] H := hP
  have hD : va_D A [kX8 h p1 p2 p3 p4 p5 x, aI y p1 20 fp, aI y p2 20 fh, aI y p3 20 fl, aI y p4 20 fe, aI y p5 20 o_2] := hD
  refine lv_istore (lv' := [(4, .int (midG (vC 1 fp fh fl) (tn (x 0)))), (3, .int (midG (vC 0 fp fh fl) (tn (x 0)))), (0, .ref h), (1, .int a1), (2, .int a2)]) hx hb dX8_average_11 hl (by decide) rfl (fun ls hl => ?_)
  refine lv_iconst (v := 0) hx hb dX8_average_13 (by decide) ?_
  refine lv_istore (lv' := [(5, .int 0), (4, .int (midG (vC 1 fp fh fl) (tn (x 0)))), (3, .int (midG (vC 0 fp fh fl) (tn (x 0)))), (0, .ref h), (1, .int a1), (2, .int a2)]) hx hb dX8_average_14 hl (by decide) rfl (fun ls hl => ?_)
  refine lv_iconst (v := 0) hx hb dX8_average_16 (by decide) ?_
  refine lv_istore (lv' := [(6, .int 0), (5, .int 0), (4, .int (midG (vC 1 fp fh fl) (tn (x 0)))), (3, .int (midG (vC 0 fp fh fl) (tn (x 0)))), (0, .ref h), (1, .int a1), (2, .int a2)]) hx hb dX8_average_17 hl (by decide) rfl (fun ls hl => ?_)
  refine lv_iconst (v := 0) hx hb dX8_average_19 (by decide) ?_
  refine lv_istore (lv' := [(7, .int 0), (6, .int 0), (5, .int 0), (4, .int (midG (vC 1 fp fh fl) (tn (x 0)))), (3, .int (midG (vC 0 fp fh fl) (tn (x 0)))), (0, .ref h), (1, .int a1), (2, .int a2)]) hx hb dX8_average_20 hl (by decide) rfl (fun ls hl => ?_)
  have LOOP22_3 : ∀ (n_4 : Nat) (k0 : Nat) (x5 : Int32) (x6 : Int32) (x7 : Int32) (hx5 : x5 = nI (goodG fp (sC fh fl) (tn (x 0)) a2 k0)) (hx6 : x6 = (sumG fp (sC fh fl) (tn (x 0)) a2 (vC a1 fp fh fl) k0)) (hx7 : x7 = nI k0) (hk : k0 ≤ tn (x 0)) (hn_6 : 21 - k0 < n_4) (ls : Array Slot) (hl : lv_has ls 8 [(7, .int x7), (6, .int x6), (5, .int x5), (4, .int (midG (vC 1 fp fh fl) (tn (x 0)))), (3, .int (midG (vC 0 fp fh fl) (tn (x 0)))), (0, .ref h), (1, .int a1), (2, .int a2)]), W p l e (headSpec wsX8_average rmX8_average).room s m ([.ref h, .int a1, .int a2] : List Value).toArray below meth c H locs 0 0 QQ (F0 m 22 ls []) := by
    intro n_4
    induction n_4 with
    | zero => intro k0 x5 x6 x7 hx5 hx6 hx7 hk hn_6 ls hl; exact absurd hn_6 (Nat.not_lt_zero _)
    | succ n_4 ih_5 =>
      intro k0 x5 x6 x7 hx5 hx6 hx7 hk hn_6 ls hl
      refine lv_iload hx hb dX8_average_22 (lv_at hl 0 rfl) ?_
      refine lv_aload_n hx hb dX8_average_24 rfl (lv_at hl 5 rfl) ?_
      refine va_get (D := G) (ci := 6) (v := .int (x 0)) (C := RX8) (T := TX8) (N := 10) hx hb hts i_X8 hown hK hP 0 rfl rfl 0 (by decide) (hts (.fieldLink RX8 27 "RelayTuner$Swings" "count" "I") (by decide +kernel)) (fun _ h9 => h9) rfl dX8_average_25 ?_
      refine lv_icmp_ge (tgt := 94) hx hb dX8_average_28 (by decide) (fun c_7 => ?_) (fun c_7 => ?_)
      · have hk9 : k0 = tn (x 0) := by have := kge hx7 hn1 (by omega) (by omega) c_7; omega
        rw [hk9] at hx5 hx6
        refine lv_iload hx hb dX8_average_94 (lv_at hl 2 rfl) ?_
        have J113_10 : ∀ (v_9 : Int32) (e_v_9 : v_9 = (if x5 ≤ 0 then (-99999) else (let v_9 : Int32 := (if 1 < (x6 / x5) then (x6 / x5) else 1); v_9))) (ls : Array Slot) (hl : lv_has ls 8 []), W p l e (headSpec wsX8_average rmX8_average).room s m ([.ref h, .int a1, .int a2] : List Value).toArray below meth c H locs 0 0 QQ (F0 m 113 ls [.int v_9]) := by
          intro v_9 e_v_9 ls hl
          rw [hQQ]
          exact W.iret hx hb hr (end_Hi o_2 hP hD hS (aver_end (by omega) hx5 hx6 e_v_9) rfl) hS.2.2 dX8_average_113
        refine lv_if_le (tgt := 111) hx hb dX8_average_96 (by decide) (fun c_8 => ?_) (fun c_8 => ?_)
        · refine lv_ldc (v := (-99999)) hx hb hown (hts (.constant RX8 54 (-99999)) (by decide +kernel)) dX8_average_111 ?_
          exact J113_10 _ (if_pos c_8).symm ls (lv_sub hl [] rfl)
        · refine lv_iconst (v := 1) hx hb dX8_average_99 (by decide) ?_
          refine lv_iload hx hb dX8_average_100 (lv_at hl 1 rfl) ?_
          refine lv_iload hx hb dX8_average_102 (lv_at hl 2 rfl) ?_
          refine lv_idiv hx hb dX8_average_104 (ne_of_nle0 c_8) ?_
          obtain ⟨v_11, e_v_11⟩ : ∃ zq9 : Int32, zq9 = (if 1 < (x6 / x5) then (x6 / x5) else 1) := ⟨_, rfl⟩
          refine va_mmax hx hb (hml.trans hl.1.symm) hown (hts (.methodLink RX8 55 Lib.Math.max.name) (by decide +kernel)) (hts (.static Lib.Math.max.name) (by decide +kernel)) (hts (.initialized "java/lang/Math") (by decide +kernel)) (hts (.code Lib.Math.max.name Lib.Math.max.code 2 (some .int)) (by decide +kernel)) (Nat.le_of_ble_eq_true rfl) (Nat.le_of_ble_eq_true rfl) (Nat.le_of_ble_eq_true rfl) (Nat.le_of_ble_eq_true rfl) dX8_average_105 ?_
          refine rw_i (x' := v_11) e_v_11.symm ?_
          refine lv_goto (tgt := 113) hx hb dX8_average_108 (by decide) ?_
          subst e_v_11
          exact J113_10 _ (if_neg c_8).symm ls (lv_sub hl [] rfl)
      · refine lv_iload hx hb dX8_average_31 (lv_at hl 0 rfl) ?_
        refine lv_bipush (v := 20) hx hb dX8_average_33 (by decide) ?_
        refine lv_icmp_ge (tgt := 94) hx hb dX8_average_35 (by decide) (fun c_12 => ?_) (fun c_12 => ?_)
        · have hk9 : k0 = tn (x 0) := by have := kge (N := 20) hx7 rfl (by omega) (by omega) c_12; omega
          rw [hk9] at hx5 hx6
          refine lv_iload hx hb dX8_average_94 (lv_at hl 2 rfl) ?_
          have J113_15 : ∀ (v_14 : Int32) (e_v_14 : v_14 = (if x5 ≤ 0 then (-99999) else (let v_14 : Int32 := (if 1 < (x6 / x5) then (x6 / x5) else 1); v_14))) (ls : Array Slot) (hl : lv_has ls 8 []), W p l e (headSpec wsX8_average rmX8_average).room s m ([.ref h, .int a1, .int a2] : List Value).toArray below meth c H locs 0 0 QQ (F0 m 113 ls [.int v_14]) := by
            intro v_14 e_v_14 ls hl
            rw [hQQ]
            exact W.iret hx hb hr (end_Hi o_2 hP hD hS (aver_end (by omega) hx5 hx6 e_v_14) rfl) hS.2.2 dX8_average_113
          refine lv_if_le (tgt := 111) hx hb dX8_average_96 (by decide) (fun c_13 => ?_) (fun c_13 => ?_)
          · refine lv_ldc (v := (-99999)) hx hb hown (hts (.constant RX8 54 (-99999)) (by decide +kernel)) dX8_average_111 ?_
            exact J113_15 _ (if_pos c_13).symm ls (lv_sub hl [] rfl)
          · refine lv_iconst (v := 1) hx hb dX8_average_99 (by decide) ?_
            refine lv_iload hx hb dX8_average_100 (lv_at hl 1 rfl) ?_
            refine lv_iload hx hb dX8_average_102 (lv_at hl 2 rfl) ?_
            refine lv_idiv hx hb dX8_average_104 (ne_of_nle0 c_13) ?_
            obtain ⟨v_16, e_v_16⟩ : ∃ zq9 : Int32, zq9 = (if 1 < (x6 / x5) then (x6 / x5) else 1) := ⟨_, rfl⟩
            refine va_mmax hx hb (hml.trans hl.1.symm) hown (hts (.methodLink RX8 55 Lib.Math.max.name) (by decide +kernel)) (hts (.static Lib.Math.max.name) (by decide +kernel)) (hts (.initialized "java/lang/Math") (by decide +kernel)) (hts (.code Lib.Math.max.name Lib.Math.max.code 2 (some .int)) (by decide +kernel)) (Nat.le_of_ble_eq_true rfl) (Nat.le_of_ble_eq_true rfl) (Nat.le_of_ble_eq_true rfl) (Nat.le_of_ble_eq_true rfl) dX8_average_105 ?_
            refine rw_i (x' := v_16) e_v_16.symm ?_
            refine lv_goto (tgt := 113) hx hb dX8_average_108 (by decide) ?_
            subst e_v_16
            exact J113_15 _ (if_neg c_13).symm ls (lv_sub hl [] rfl)
        · have hk9 : k0 < tn (x 0) := klt hx7 hn1 (by omega) (by omega) c_7
          refine lv_aload_n hx hb dX8_average_38 rfl (lv_at hl 5 rfl) ?_
          refine lv_iload hx hb dX8_average_39 (lv_at hl 0 rfl) ?_
          refine lv_iload_n hx hb dX8_average_41 rfl (lv_at hl 7 rfl) ?_
          refine lv_iload_n hx hb dX8_average_42 rfl (lv_at hl 4 rfl) ?_
          refine lv_iload hx hb dX8_average_43 (lv_at hl 3 rfl) ?_
          refine cl_Ri (va_runV (As := [.int x7, .int a2, .int (midG (vC 0 fp fh fl) (tn (x 0))), .int (midG (vC 1 fp fh fl) (tn (x 0)))]) (rest := []) ⟨hx, hb, hml, hown, hts⟩ (c_X8_reasonBeside l G y h x7 a2 (midG (vC 0 fp fh fl) (tn (x 0))) (midG (vC 1 fp fh fl) (tn (x 0))) p1 p2 p3 p4 p5 x fp fh fl) (cwV 4 hts gX8_average_X8_reasonBeside rfl rfl rfl (by decide +kernel) ⟨Nat.le_of_ble_eq_true rfl, Nat.le_of_ble_eq_true rfl⟩) (PR_V (hP.sub (ws' := [kX8 h p1 p2 p3 p4 p5 x, aI y p1 20 fp, aI y p2 20 fh, aI y p3 20 fl]) [0, 1, 2, 3] rfl) hK hN (ci := 6) (q0 := 0) rfl rfl) rfl rfl hl.1 rfl (lv_room (Nat.le_of_ble_eq_true rfl)) dX8_average_45 ⟨Nat.le_of_ble_eq_true rfl, Nat.le_of_ble_eq_true rfl⟩) ?_
          have J88_20 : ∀ (v_18 : Int32) (v_19 : Int32) (e_v_18 : v_18 = (if (s_X8_reasonBeside_r x7 a2 (midG (vC 0 fp fh fl) (tn (x 0))) (midG (vC 1 fp fh fl) (tn (x 0))) fp fh fl) = 0 then (let v_19 : Int32 := (if a1 = 0 then (fp k0) else ((fh k0) - (fl k0))); (x6 + v_19)) else x6)) (e_v_19 : v_19 = (if (s_X8_reasonBeside_r x7 a2 (midG (vC 0 fp fh fl) (tn (x 0))) (midG (vC 1 fp fh fl) (tn (x 0))) fp fh fl) = 0 then (x5 + 1) else x5)) (ls : Array Slot) (hl : lv_has ls 8 [(7, .int x7), (6, .int v_18), (5, .int v_19), (4, .int (midG (vC 1 fp fh fl) (tn (x 0)))), (3, .int (midG (vC 0 fp fh fl) (tn (x 0)))), (0, .ref h), (1, .int a1), (2, .int a2)]), W p l e (headSpec wsX8_average rmX8_average).room s m ([.ref h, .int a1, .int a2] : List Value).toArray below meth c H locs 0 0 QQ (F0 m 88 ls []) := by
            intro v_18 v_19 e_v_18 e_v_19 ls hl
            refine lv_iinc (v := (x7 + 1)) (lv' := [(7, .int (x7 + 1)), (6, .int v_18), (5, .int v_19), (4, .int (midG (vC 1 fp fh fl) (tn (x 0)))), (3, .int (midG (vC 0 fp fh fl) (tn (x 0)))), (0, .ref h), (1, .int a1), (2, .int a2)]) hx hb dX8_average_88 hl (k := 0) rfl (by first | rfl | decide) (by decide) rfl (fun ls hl => ?_)
            refine lv_goto (tgt := 22) hx hb dX8_average_91 (by decide) ?_
            exact ih_5 (k0 + 1) v_19 v_18 (x7 + 1) (goodG_step hx5 (reason_eq hx7 (by omega)) e_v_19) (sumC_step hx6 (reason_eq hx7 (by omega)) (vC_val rfl) e_v_18) (by rw [hx7]; exact nI_1 k0) (by omega) (by omega) ls (lv_sub hl [0, 1, 2, 3, 4, 5, 6, 7] rfl)
          refine lv_if_ne (tgt := 88) hx hb dX8_average_48 (by decide) (fun c_17 => ?_) (fun c_17 => ?_)
          · exact J88_20 _ _ (if_neg c_17).symm (if_neg c_17).symm ls (lv_sub hl [0, 1, 2, 3, 4, 5, 6, 7] rfl)
          · refine lv_iinc (v := (x5 + 1)) (lv' := [(5, .int (x5 + 1)), (7, .int x7), (6, .int x6), (4, .int (midG (vC 1 fp fh fl) (tn (x 0)))), (3, .int (midG (vC 0 fp fh fl) (tn (x 0)))), (0, .ref h), (1, .int a1), (2, .int a2)]) hx hb dX8_average_51 hl (k := 2) rfl (by first | rfl | decide) (by decide) rfl (fun ls hl => ?_)
            refine lv_iload hx hb dX8_average_54 (lv_at hl 2 rfl) ?_
            refine lv_iload_n hx hb dX8_average_56 rfl (lv_at hl 6 rfl) ?_
            have J85_23 : ∀ (v_22 : Int32) (e_v_22 : v_22 = (if a1 = 0 then (fp k0) else ((fh k0) - (fl k0)))) (ls : Array Slot) (hl : lv_has ls 8 [(5, .int (x5 + 1)), (7, .int x7), (4, .int (midG (vC 1 fp fh fl) (tn (x 0)))), (3, .int (midG (vC 0 fp fh fl) (tn (x 0)))), (0, .ref h), (1, .int a1), (2, .int a2)]), W p l e (headSpec wsX8_average rmX8_average).room s m ([.ref h, .int a1, .int a2] : List Value).toArray below meth c H locs 0 0 QQ (F0 m 85 ls [.int v_22, .int x6]) := by
              intro v_22 e_v_22 ls hl
              refine lv_iadd hx hb dX8_average_85 ?_
              refine lv_istore (lv' := [(6, .int (x6 + v_22)), (5, .int (x5 + 1)), (7, .int x7), (4, .int (midG (vC 1 fp fh fl) (tn (x 0)))), (3, .int (midG (vC 0 fp fh fl) (tn (x 0)))), (0, .ref h), (1, .int a1), (2, .int a2)]) hx hb dX8_average_86 hl (by decide) rfl (fun ls hl => ?_)
              subst e_v_22
              exact J88_20 _ _ (if_pos c_17).symm (if_pos c_17).symm ls (lv_sub hl [2, 0, 1, 3, 4, 5, 6, 7] rfl)
            refine lv_if_eq (tgt := 78) hx hb dX8_average_57 (by decide) (fun c_21 => ?_) (fun c_21 => ?_)
            · refine lv_aload_n hx hb dX8_average_78 rfl (lv_at hl 5 rfl) ?_
              refine va_get (D := G) (ci := 6) (v := .ref p1) (C := RX8) (T := TX8) (N := 10) hx hb hts i_X8 hown hK hP 0 rfl rfl 1 (by decide) (hts (.fieldLink RX8 11 "RelayTuner$Swings" "periods" "[I") (by decide +kernel)) (fun _ h9 => h9) rfl dX8_average_79 ?_
              refine lv_iload hx hb dX8_average_82 (lv_at hl 1 rfl) ?_
              refine al_i (D := G) (n := 20) (f := fp) hx hb hK hP 1 0 rfl rfl k0 hx7 (by omega) (by first | decide | omega) dX8_average_84 ?_
              exact J85_23 _ (if_pos c_21).symm ls (lv_sub hl [0, 1, 3, 4, 5, 6, 7] rfl)
            · refine lv_aload_n hx hb dX8_average_60 rfl (lv_at hl 5 rfl) ?_
              refine va_get (D := G) (ci := 6) (v := .ref p2) (C := RX8) (T := TX8) (N := 10) hx hb hts i_X8 hown hK hP 0 rfl rfl 2 (by decide) (hts (.fieldLink RX8 15 "RelayTuner$Swings" "highs" "[I") (by decide +kernel)) (fun _ h9 => h9) rfl dX8_average_61 ?_
              refine lv_iload hx hb dX8_average_64 (lv_at hl 1 rfl) ?_
              refine al_i (D := G) (n := 20) (f := fh) hx hb hK hP 2 0 rfl rfl k0 hx7 (by omega) (by first | decide | omega) dX8_average_66 ?_
              refine lv_aload_n hx hb dX8_average_67 rfl (lv_at hl 5 rfl) ?_
              refine va_get (D := G) (ci := 6) (v := .ref p3) (C := RX8) (T := TX8) (N := 10) hx hb hts i_X8 hown hK hP 0 rfl rfl 3 (by decide) (hts (.fieldLink RX8 18 "RelayTuner$Swings" "lows" "[I") (by decide +kernel)) (fun _ h9 => h9) rfl dX8_average_68 ?_
              refine lv_iload hx hb dX8_average_71 (lv_at hl 1 rfl) ?_
              refine al_i (D := G) (n := 20) (f := fl) hx hb hK hP 3 0 rfl rfl k0 hx7 (by omega) (by first | decide | omega) dX8_average_73 ?_
              refine lv_isub hx hb dX8_average_74 ?_
              refine lv_goto (tgt := 85) hx hb dX8_average_75 (by decide) ?_
              exact J85_23 _ (if_neg c_21).symm ls (lv_sub hl [0, 1, 3, 4, 5, 6, 7] rfl)
  exact LOOP22_3 (21 - 0 + 1) 0 0 0 0 rfl rfl rfl (by omega) (Nat.lt_succ_self _) ls (lv_sub hl [0, 1, 2, 3, 4, 5, 6, 7] rfl)

abbrev rmX7_become : Room := ({ frames := 2, cells := 0, slots := 0, locals := 81 } : Room)
set_option maxHeartbeats 4000000 in
set_option maxRecDepth 100000 in
theorem c_X7_become (l : Launch) (G : va_G) (y : Nat → ClassId) (h : Nat) (kh : Nat) (ua : Nat) (ub : Nat) (uc : Nat) (ud : Nat) (ue : Nat) (z : Nat → Nat → Int32) (va : Nat) (vc1 : Nat) (vc2 : Nat) (vc3 : Nat) (vc4 : Nat) (vc5 : Nat) (o : Nat → Int32) (vd : Nat) (ve : Nat) (kua : Nat) (kub : Nat) (kuc : Nat) (kud : Nat) (kue : Nat) (z2 : Nat → Nat → Int32) (kva : Nat) (kvc1 : Nat) (kvc2 : Nat) (kvc3 : Nat) (kvc4 : Nat) (kvc5 : Nat) (o2 : Nat → Int32) (kvd : Nat) (kve : Nat) (sz : Nat) (hr2 : z2 3 7 = 0 ∨ z2 3 7 = 1) (he2 : z2 3 10 = 0 ∨ z2 3 10 = 1) (hgo2 : z2 4 6 = 0 ∨ z2 4 6 = 1) : Met l yX7_become wsX7_become rmX7_become (PH G y [.ref h, .ref kh] [kX7 h ua ub uc ud ue (z 0), kX3 ua va (z 1), aI y va 10 (z 2), kX1 ub (z 3), kX8 uc vc1 vc2 vc3 vc4 vc5 (z 4), aI y vc1 20 (z 5), aI y vc2 20 (z 6), aI y vc3 20 (z 7), aI y vc4 20 (z 8), aI y vc5 20 o, kX10 ud vd (z 9), aI y vd 32 (z 10), kX0 ue ve (z 11), aI y ve 3 (z 12), kX7 kh kua kub kuc kud kue (z2 0), kX3 kua kva (z2 1), aI y kva 10 (z2 2), kX1 kub (z2 3), kX8 kuc kvc1 kvc2 kvc3 kvc4 kvc5 (z2 4), aI y kvc1 20 (z2 5), aI y kvc2 20 (z2 6), aI y kvc3 20 (z2 7), aI y kvc4 20 (z2 8), aI y kvc5 20 o2, kX10 kud kvd (z2 9), aI y kvd 32 (z2 10), kX0 kue kve (z2 11), aI y kve 3 (z2 12)] sz) (QHv G (fun _ : Unit => [kX7 h ua ub uc ud ue (z2 0), kX3 ua va (z2 1), aI y va 10 (z2 2), kX1 ub (z2 3), kX8 uc vc1 vc2 vc3 vc4 vc5 (z2 4), aI y vc1 20 (z2 5), aI y vc2 20 (z2 6), aI y vc3 20 (z2 7), aI y vc4 20 (z2 8), aI y vc5 20 o, kX10 ud vd (z2 9), aI y vd 32 (z2 10), kX0 ue ve (z2 11), aI y ve 3 (z2 12), kX7 kh kua kub kuc kud kue (z2 0), kX3 kua kva (z2 1), aI y kva 10 (z2 2), kX1 kub (z2 3), kX8 kuc kvc1 kvc2 kvc3 kvc4 kvc5 (z2 4), aI y kvc1 20 (z2 5), aI y kvc2 20 (z2 6), aI y kvc3 20 (z2 7), aI y kvc4 20 (z2 8), aI y kvc5 20 o2, kX10 kud kvd (z2 9), aI y kvd 32 (z2 10), kX0 kue kve (z2 11), aI y kve 3 (z2 12)]) (va_A [kX7 h ua ub uc ud ue (z 0), kX3 ua va (z 1), aI y va 10 (z 2), kX1 ub (z 3), kX8 uc vc1 vc2 vc3 vc4 vc5 (z 4), aI y vc1 20 (z 5), aI y vc2 20 (z 6), aI y vc3 20 (z 7), aI y vc4 20 (z 8), aI y vc5 20 o, kX10 ud vd (z 9), aI y vd 32 (z 10), kX0 ue ve (z 11), aI y ve 3 (z 12), kX7 kh kua kub kuc kud kue (z2 0), kX3 kua kva (z2 1), aI y kva 10 (z2 2), kX1 kub (z2 3), kX8 kuc kvc1 kvc2 kvc3 kvc4 kvc5 (z2 4), aI y kvc1 20 (z2 5), aI y kvc2 20 (z2 6), aI y kvc3 20 (z2 7), aI y kvc4 20 (z2 8), aI y kvc5 20 o2, kX10 kud kvd (z2 9), aI y kvd 32 (z2 10), kX0 kue kve (z2 11), aI y kve 3 (z2 12)] sz)) 0 0 (va_A [kX7 h ua ub uc ud ue (z 0), kX3 ua va (z 1), aI y va 10 (z 2), kX1 ub (z 3), kX8 uc vc1 vc2 vc3 vc4 vc5 (z 4), aI y vc1 20 (z 5), aI y vc2 20 (z 6), aI y vc3 20 (z 7), aI y vc4 20 (z 8), aI y vc5 20 o, kX10 ud vd (z 9), aI y vd 32 (z 10), kX0 ue ve (z 11), aI y ve 3 (z 12), kX7 kh kua kub kuc kud kue (z2 0), kX3 kua kva (z2 1), aI y kva 10 (z2 2), kX1 kub (z2 3), kX8 kuc kvc1 kvc2 kvc3 kvc4 kvc5 (z2 4), aI y kvc1 20 (z2 5), aI y kvc2 20 (z2 6), aI y kvc3 20 (z2 7), aI y kvc4 20 (z2 8), aI y kvc5 20 o2, kX10 kud kvd (z2 9), aI y kvd 32 (z2 10), kX0 kue kve (z2 11), aI y kve 3 (z2 12)] sz) := by
  refine Met.ofW (cc := cX7_become) (maxL := 2) (ret := none) (by decide) rfl ?_
  intro p e s m args below meth c s₁ B hml hv
  obtain ⟨rfl, hsz, hP, ⟨hK, hN⟩, hD0⟩ := hv
  have hx := B.exec
  have hb := B.bytes
  have hr := B.returns
  have hts := atoms_spec (ws := wsX7_become) B.pre
  have hown : s.vm.findClass RX7 = some m.cls := findClass_of_methodNamed B.named
  have hlocks := B.notSynchronized
  have i_X7 : ∀ w ∈ u_ws RX7 TX7 6, w ∈ wsX7_become := by decide +kernel
  subst hsz
  have hD := hD0.self (sz := s.heap.size)
  generalize hAe : va_A [kX7 h ua ub uc ud ue (z 0), kX3 ua va (z 1), aI y va 10 (z 2), kX1 ub (z 3), kX8 uc vc1 vc2 vc3 vc4 vc5 (z 4), aI y vc1 20 (z 5), aI y vc2 20 (z 6), aI y vc3 20 (z 7), aI y vc4 20 (z 8), aI y vc5 20 o, kX10 ud vd (z 9), aI y vd 32 (z 10), kX0 ue ve (z 11), aI y ve 3 (z 12), kX7 kh kua kub kuc kud kue (z2 0), kX3 kua kva (z2 1), aI y kva 10 (z2 2), kX1 kub (z2 3), kX8 kuc kvc1 kvc2 kvc3 kvc4 kvc5 (z2 4), aI y kvc1 20 (z2 5), aI y kvc2 20 (z2 6), aI y kvc3 20 (z2 7), aI y kvc4 20 (z2 8), aI y kvc5 20 o2, kX10 kud kvd (z2 9), aI y kvd 32 (z2 10), kX0 kue kve (z2 11), aI y kve 3 (z2 12)] s.heap.size = A at hD ⊢
  have hA : ∀ q : Nat, s.heap.size ≤ q → A q := fun q h => by rw [← hAe]; exact Or.inr h
  have hS : va_S A s.heap s.heap [] := va_S.rf
  have hP : va_P G vwCl [kX7 h ua ub uc ud ue (z 0), kX3 ua va (z 1), aI y va 10 (z 2), kX1 ub (z 3), kX8 uc vc1 vc2 vc3 vc4 vc5 (z 4), aI y vc1 20 (z 5), aI y vc2 20 (z 6), aI y vc3 20 (z 7), aI y vc4 20 (z 8), aI y vc5 20 o, kX10 ud vd (z 9), aI y vd 32 (z 10), kX0 ue ve (z 11), aI y ve 3 (z 12), kX7 kh kua kub kuc kud kue (z2 0), kX3 kua kva (z2 1), aI y kva 10 (z2 2), kX1 kub (z2 3), kX8 kuc kvc1 kvc2 kvc3 kvc4 kvc5 (z2 4), aI y kvc1 20 (z2 5), aI y kvc2 20 (z2 6), aI y kvc3 20 (z2 7), aI y kvc4 20 (z2 8), aI y kvc5 20 o2, kX10 kud kvd (z2 9), aI y kvd 32 (z2 10), kX0 kue kve (z2 11), aI y kve 3 (z2 12)] s.heap := hP
  have hl := lv_entry ([.ref h, .ref kh]) (n := 2) (Nat.le_of_ble_eq_true rfl)
  rw [lg_entry_eq]
  generalize (lg_sl ([.ref h, .ref kh]) ++ List.replicate (2 - (lg_sl ([.ref h, .ref kh])).length) Slot.unset).toArray = ls at hl ⊢
  have hl : lv_has ls 2 [(0, .ref h), (1, .ref kh)] := hl
  refine lv_aload_n hx hb dX7_become_0 rfl (lv_at hl 0 rfl) ?_
  refine lv_aload_n hx hb dX7_become_1 rfl (lv_at hl 1 rfl) ?_
  refine va_get (D := G) (ci := 5) (v := .int ((z2 0) 0)) (C := RX7) (T := TX7) (N := 6) hx hb hts i_X7 hown hK hP 14 rfl rfl 0 (by decide) (hts (.fieldLink RX7 46 "RelayTuner$State" "clock" "I") (by decide +kernel)) (fun _ h9 => h9) rfl dX7_become_2 ?_
  refine va_put (D := G) (ci := 5) (v := .int ((z2 0) 0)) (ty := .int) (C := RX7) (T := TX7) (N := 6) hx hb hts i_X7 tyX7 tyX7_ok nmX7 hown hK hP hD hS 0 rfl rfl 0 (by decide) (hts (.fieldLink RX7 46 "RelayTuner$State" "clock" "I") (by decide +kernel)) (fun _ h9 => h9) rfl (by decide +kernel) rfl rfl (Nat.le_of_ble_eq_true rfl) dX7_become_5 (fun H locs hP hD hS => ?_)
  have hP : va_P G vwCl [kX7 h ua ub uc ud ue (upd (z 0) 0 ((z2 0) 0)), kX3 ua va (z 1), aI y va 10 (z 2), kX1 ub (z 3), kX8 uc vc1 vc2 vc3 vc4 vc5 (z 4), aI y vc1 20 (z 5), aI y vc2 20 (z 6), aI y vc3 20 (z 7), aI y vc4 20 (z 8), aI y vc5 20 o, kX10 ud vd (z 9), aI y vd 32 (z 10), kX0 ue ve (z 11), aI y ve 3 (z 12), kX7 kh kua kub kuc kud kue (z2 0), kX3 kua kva (z2 1), aI y kva 10 (z2 2), kX1 kub (z2 3), kX8 kuc kvc1 kvc2 kvc3 kvc4 kvc5 (z2 4), aI y kvc1 20 (z2 5), aI y kvc2 20 (z2 6), aI y kvc3 20 (z2 7), aI y kvc4 20 (z2 8), aI y kvc5 20 o2, kX10 kud kvd (z2 9), aI y kvd 32 (z2 10), kX0 kue kve (z2 11), aI y kve 3 (z2 12)] H := hP
  have hD : va_D A [kX7 h ua ub uc ud ue (upd (z 0) 0 ((z2 0) 0)), kX3 ua va (z 1), aI y va 10 (z 2), kX1 ub (z 3), kX8 uc vc1 vc2 vc3 vc4 vc5 (z 4), aI y vc1 20 (z 5), aI y vc2 20 (z 6), aI y vc3 20 (z 7), aI y vc4 20 (z 8), aI y vc5 20 o, kX10 ud vd (z 9), aI y vd 32 (z 10), kX0 ue ve (z 11), aI y ve 3 (z 12), kX7 kh kua kub kuc kud kue (z2 0), kX3 kua kva (z2 1), aI y kva 10 (z2 2), kX1 kub (z2 3), kX8 kuc kvc1 kvc2 kvc3 kvc4 kvc5 (z2 4), aI y kvc1 20 (z2 5), aI y kvc2 20 (z2 6), aI y kvc3 20 (z2 7), aI y kvc4 20 (z2 8), aI y kvc5 20 o2, kX10 kud kvd (z2 9), aI y kvd 32 (z2 10), kX0 kue kve (z2 11), aI y kve 3 (z2 12)] := hD
  refine lv_aload_n hx hb dX7_become_8 rfl (lv_at hl 0 rfl) ?_
  refine va_get (D := G) (ci := 5) (v := .ref ua) (C := RX7) (T := TX7) (N := 6) hx hb hts i_X7 hown hK hP 0 rfl rfl 1 (by decide) (hts (.fieldLink RX7 12 "RelayTuner$State" "plant" "LRelayTuner$Plant;") (by decide +kernel)) (fun _ h9 => h9) rfl dX7_become_9 ?_
  refine lv_aload_n hx hb dX7_become_12 rfl (lv_at hl 1 rfl) ?_
  refine va_get (D := G) (ci := 5) (v := .ref kua) (C := RX7) (T := TX7) (N := 6) hx hb hts i_X7 hown hK hP 14 rfl rfl 1 (by decide) (hts (.fieldLink RX7 12 "RelayTuner$State" "plant" "LRelayTuner$Plant;") (by decide +kernel)) (fun _ h9 => h9) rfl dX7_become_13 ?_
  refine cl_Hv (wr := [kX7 h ua ub uc ud ue (upd (z 0) 0 ((z2 0) 0)), kX1 ub (z 3), kX8 uc vc1 vc2 vc3 vc4 vc5 (z 4), aI y vc1 20 (z 5), aI y vc2 20 (z 6), aI y vc3 20 (z 7), aI y vc4 20 (z 8), aI y vc5 20 o, kX10 ud vd (z 9), aI y vd 32 (z 10), kX0 ue ve (z 11), aI y ve 3 (z 12), kX7 kh kua kub kuc kud kue (z2 0), kX1 kub (z2 3), kX8 kuc kvc1 kvc2 kvc3 kvc4 kvc5 (z2 4), aI y kvc1 20 (z2 5), aI y kvc2 20 (z2 6), aI y kvc3 20 (z2 7), aI y kvc4 20 (z2 8), aI y kvc5 20 o2, kX10 kud kvd (z2 9), aI y kvd 32 (z2 10), kX0 kue kve (z2 11), aI y kve 3 (z2 12)]) (fun _ : Unit => [kX7 h ua ub uc ud ue (upd (z 0) 0 ((z2 0) 0)), kX3 ua va (z2 1), aI y va 10 (z2 2), kX1 ub (z 3), kX8 uc vc1 vc2 vc3 vc4 vc5 (z 4), aI y vc1 20 (z 5), aI y vc2 20 (z 6), aI y vc3 20 (z 7), aI y vc4 20 (z 8), aI y vc5 20 o, kX10 ud vd (z 9), aI y vd 32 (z 10), kX0 ue ve (z 11), aI y ve 3 (z 12), kX7 kh kua kub kuc kud kue (z2 0), kX3 kua kva (z2 1), aI y kva 10 (z2 2), kX1 kub (z2 3), kX8 kuc kvc1 kvc2 kvc3 kvc4 kvc5 (z2 4), aI y kvc1 20 (z2 5), aI y kvc2 20 (z2 6), aI y kvc3 20 (z2 7), aI y kvc4 20 (z2 8), aI y kvc5 20 o2, kX10 kud kvd (z2 9), aI y kvd 32 (z2 10), kX0 kue kve (z2 11), aI y kve 3 (z2 12)]) [1, 2, 15, 16] [0, 3, 4, 5, 6, 7, 8, 9, 10, 11, 12, 13, 14, 17, 18, 19, 20, 21, 22, 23, 24, 25, 26, 27] [0, 24, 25, 1, 2, 3, 4, 5, 6, 7, 8, 9, 10, 11, 12, 26, 27, 13, 14, 15, 16, 17, 18, 19, 20, 21, 22, 23] (va_runV (As := [.ref kua]) (rest := []) ⟨hx, hb, hml, hown, hts⟩ (c_X3_become l G y ua kua va (z 1) (z 2) kva (z2 1) (z2 2) H.size) (cwV 1 hts gX7_become_X3_become rfl rfl rfl (by decide +kernel) ⟨Nat.le_of_ble_eq_true rfl, Nat.le_of_ble_eq_true rfl⟩) (PH_V (hP.sub (ws' := [kX3 ua va (z 1), aI y va 10 (z 2), kX3 kua kva (z2 1), aI y kva 10 (z2 2)]) [1, 2, 15, 16] rfl) hK hN (hD.sub (ws' := [kX3 ua va (z 1), aI y va 10 (z 2), kX3 kua kva (z2 1), aI y kva 10 (z2 2)]) [1, 2, 15, 16] (by decide) rfl) (ci := 3) (q0 := 0) rfl rfl) rfl rfl hl.1 rfl (lv_room (Nat.le_of_ble_eq_true rfl)) dX7_become_16 ⟨Nat.le_of_ble_eq_true rfl, Nat.le_of_ble_eq_true rfl⟩) hP hD hS hA rfl rfl rfl (by decide) rfl (fun _ => rfl) (fun _ H locs hP hD hS => ?_)
  have hP : va_P G vwCl [kX7 h ua ub uc ud ue (upd (z 0) 0 ((z2 0) 0)), kX3 ua va (z2 1), aI y va 10 (z2 2), kX1 ub (z 3), kX8 uc vc1 vc2 vc3 vc4 vc5 (z 4), aI y vc1 20 (z 5), aI y vc2 20 (z 6), aI y vc3 20 (z 7), aI y vc4 20 (z 8), aI y vc5 20 o, kX10 ud vd (z 9), aI y vd 32 (z 10), kX0 ue ve (z 11), aI y ve 3 (z 12), kX7 kh kua kub kuc kud kue (z2 0), kX3 kua kva (z2 1), aI y kva 10 (z2 2), kX1 kub (z2 3), kX8 kuc kvc1 kvc2 kvc3 kvc4 kvc5 (z2 4), aI y kvc1 20 (z2 5), aI y kvc2 20 (z2 6), aI y kvc3 20 (z2 7), aI y kvc4 20 (z2 8), aI y kvc5 20 o2, kX10 kud kvd (z2 9), aI y kvd 32 (z2 10), kX0 kue kve (z2 11), aI y kve 3 (z2 12)] H := hP
  have hD : va_D A [kX7 h ua ub uc ud ue (upd (z 0) 0 ((z2 0) 0)), kX3 ua va (z2 1), aI y va 10 (z2 2), kX1 ub (z 3), kX8 uc vc1 vc2 vc3 vc4 vc5 (z 4), aI y vc1 20 (z 5), aI y vc2 20 (z 6), aI y vc3 20 (z 7), aI y vc4 20 (z 8), aI y vc5 20 o, kX10 ud vd (z 9), aI y vd 32 (z 10), kX0 ue ve (z 11), aI y ve 3 (z 12), kX7 kh kua kub kuc kud kue (z2 0), kX3 kua kva (z2 1), aI y kva 10 (z2 2), kX1 kub (z2 3), kX8 kuc kvc1 kvc2 kvc3 kvc4 kvc5 (z2 4), aI y kvc1 20 (z2 5), aI y kvc2 20 (z2 6), aI y kvc3 20 (z2 7), aI y kvc4 20 (z2 8), aI y kvc5 20 o2, kX10 kud kvd (z2 9), aI y kvd 32 (z2 10), kX0 kue kve (z2 11), aI y kve 3 (z2 12)] := hD
  refine lv_aload_n hx hb dX7_become_19 rfl (lv_at hl 0 rfl) ?_
  refine va_get (D := G) (ci := 5) (v := .ref ub) (C := RX7) (T := TX7) (N := 6) hx hb hts i_X7 hown hK hP 0 rfl rfl 2 (by decide) (hts (.fieldLink RX7 21 "RelayTuner$State" "control" "LRelayTuner$Control;") (by decide +kernel)) (fun _ h9 => h9) rfl dX7_become_20 ?_
  refine lv_aload_n hx hb dX7_become_23 rfl (lv_at hl 1 rfl) ?_
  refine va_get (D := G) (ci := 5) (v := .ref kub) (C := RX7) (T := TX7) (N := 6) hx hb hts i_X7 hown hK hP 14 rfl rfl 2 (by decide) (hts (.fieldLink RX7 21 "RelayTuner$State" "control" "LRelayTuner$Control;") (by decide +kernel)) (fun _ h9 => h9) rfl dX7_become_24 ?_
  refine cl_Hv (wr := [kX7 h ua ub uc ud ue (upd (z 0) 0 ((z2 0) 0)), kX3 ua va (z2 1), aI y va 10 (z2 2), kX8 uc vc1 vc2 vc3 vc4 vc5 (z 4), aI y vc1 20 (z 5), aI y vc2 20 (z 6), aI y vc3 20 (z 7), aI y vc4 20 (z 8), aI y vc5 20 o, kX10 ud vd (z 9), aI y vd 32 (z 10), kX0 ue ve (z 11), aI y ve 3 (z 12), kX7 kh kua kub kuc kud kue (z2 0), kX3 kua kva (z2 1), aI y kva 10 (z2 2), kX8 kuc kvc1 kvc2 kvc3 kvc4 kvc5 (z2 4), aI y kvc1 20 (z2 5), aI y kvc2 20 (z2 6), aI y kvc3 20 (z2 7), aI y kvc4 20 (z2 8), aI y kvc5 20 o2, kX10 kud kvd (z2 9), aI y kvd 32 (z2 10), kX0 kue kve (z2 11), aI y kve 3 (z2 12)]) (fun _ : Unit => [kX7 h ua ub uc ud ue (upd (z 0) 0 ((z2 0) 0)), kX3 ua va (z2 1), aI y va 10 (z2 2), kX1 ub (z2 3), kX8 uc vc1 vc2 vc3 vc4 vc5 (z 4), aI y vc1 20 (z 5), aI y vc2 20 (z 6), aI y vc3 20 (z 7), aI y vc4 20 (z 8), aI y vc5 20 o, kX10 ud vd (z 9), aI y vd 32 (z 10), kX0 ue ve (z 11), aI y ve 3 (z 12), kX7 kh kua kub kuc kud kue (z2 0), kX3 kua kva (z2 1), aI y kva 10 (z2 2), kX1 kub (z2 3), kX8 kuc kvc1 kvc2 kvc3 kvc4 kvc5 (z2 4), aI y kvc1 20 (z2 5), aI y kvc2 20 (z2 6), aI y kvc3 20 (z2 7), aI y kvc4 20 (z2 8), aI y kvc5 20 o2, kX10 kud kvd (z2 9), aI y kvd 32 (z2 10), kX0 kue kve (z2 11), aI y kve 3 (z2 12)]) [3, 17] [0, 1, 2, 4, 5, 6, 7, 8, 9, 10, 11, 12, 13, 14, 15, 16, 18, 19, 20, 21, 22, 23, 24, 25, 26, 27] [0, 1, 2, 26, 3, 4, 5, 6, 7, 8, 9, 10, 11, 12, 13, 14, 15, 27, 16, 17, 18, 19, 20, 21, 22, 23, 24, 25] (va_runV (As := [.ref kub]) (rest := []) ⟨hx, hb, hml, hown, hts⟩ (c_X1_become l G y ub kub (z 3) (z2 3) H.size (by assumption) (by assumption)) (cwV 1 hts gX7_become_X1_become rfl rfl rfl (by decide +kernel) ⟨Nat.le_of_ble_eq_true rfl, Nat.le_of_ble_eq_true rfl⟩) (PH_V (hP.sub (ws' := [kX1 ub (z 3), kX1 kub (z2 3)]) [3, 17] rfl) hK hN (hD.sub (ws' := [kX1 ub (z 3), kX1 kub (z2 3)]) [3, 17] (by decide) rfl) (ci := 1) (q0 := 0) rfl rfl) rfl rfl hl.1 rfl (lv_room (Nat.le_of_ble_eq_true rfl)) dX7_become_27 ⟨Nat.le_of_ble_eq_true rfl, Nat.le_of_ble_eq_true rfl⟩) hP hD hS hA rfl rfl rfl (by decide) rfl (fun _ => rfl) (fun _ H locs hP hD hS => ?_)
  have hP : va_P G vwCl [kX7 h ua ub uc ud ue (upd (z 0) 0 ((z2 0) 0)), kX3 ua va (z2 1), aI y va 10 (z2 2), kX1 ub (z2 3), kX8 uc vc1 vc2 vc3 vc4 vc5 (z 4), aI y vc1 20 (z 5), aI y vc2 20 (z 6), aI y vc3 20 (z 7), aI y vc4 20 (z 8), aI y vc5 20 o, kX10 ud vd (z 9), aI y vd 32 (z 10), kX0 ue ve (z 11), aI y ve 3 (z 12), kX7 kh kua kub kuc kud kue (z2 0), kX3 kua kva (z2 1), aI y kva 10 (z2 2), kX1 kub (z2 3), kX8 kuc kvc1 kvc2 kvc3 kvc4 kvc5 (z2 4), aI y kvc1 20 (z2 5), aI y kvc2 20 (z2 6), aI y kvc3 20 (z2 7), aI y kvc4 20 (z2 8), aI y kvc5 20 o2, kX10 kud kvd (z2 9), aI y kvd 32 (z2 10), kX0 kue kve (z2 11), aI y kve 3 (z2 12)] H := hP
  have hD : va_D A [kX7 h ua ub uc ud ue (upd (z 0) 0 ((z2 0) 0)), kX3 ua va (z2 1), aI y va 10 (z2 2), kX1 ub (z2 3), kX8 uc vc1 vc2 vc3 vc4 vc5 (z 4), aI y vc1 20 (z 5), aI y vc2 20 (z 6), aI y vc3 20 (z 7), aI y vc4 20 (z 8), aI y vc5 20 o, kX10 ud vd (z 9), aI y vd 32 (z 10), kX0 ue ve (z 11), aI y ve 3 (z 12), kX7 kh kua kub kuc kud kue (z2 0), kX3 kua kva (z2 1), aI y kva 10 (z2 2), kX1 kub (z2 3), kX8 kuc kvc1 kvc2 kvc3 kvc4 kvc5 (z2 4), aI y kvc1 20 (z2 5), aI y kvc2 20 (z2 6), aI y kvc3 20 (z2 7), aI y kvc4 20 (z2 8), aI y kvc5 20 o2, kX10 kud kvd (z2 9), aI y kvd 32 (z2 10), kX0 kue kve (z2 11), aI y kve 3 (z2 12)] := hD
  refine lv_aload_n hx hb dX7_become_30 rfl (lv_at hl 0 rfl) ?_
  refine va_get (D := G) (ci := 5) (v := .ref uc) (C := RX7) (T := TX7) (N := 6) hx hb hts i_X7 hown hK hP 0 rfl rfl 3 (by decide) (hts (.fieldLink RX7 28 "RelayTuner$State" "swings" "LRelayTuner$Swings;") (by decide +kernel)) (fun _ h9 => h9) rfl dX7_become_31 ?_
  refine lv_aload_n hx hb dX7_become_34 rfl (lv_at hl 1 rfl) ?_
  refine va_get (D := G) (ci := 5) (v := .ref kuc) (C := RX7) (T := TX7) (N := 6) hx hb hts i_X7 hown hK hP 14 rfl rfl 3 (by decide) (hts (.fieldLink RX7 28 "RelayTuner$State" "swings" "LRelayTuner$Swings;") (by decide +kernel)) (fun _ h9 => h9) rfl dX7_become_35 ?_
  refine cl_Hv (wr := [kX7 h ua ub uc ud ue (upd (z 0) 0 ((z2 0) 0)), kX3 ua va (z2 1), aI y va 10 (z2 2), kX1 ub (z2 3), kX10 ud vd (z 9), aI y vd 32 (z 10), kX0 ue ve (z 11), aI y ve 3 (z 12), kX7 kh kua kub kuc kud kue (z2 0), kX3 kua kva (z2 1), aI y kva 10 (z2 2), kX1 kub (z2 3), kX10 kud kvd (z2 9), aI y kvd 32 (z2 10), kX0 kue kve (z2 11), aI y kve 3 (z2 12)]) (fun _ : Unit => [kX7 h ua ub uc ud ue (upd (z 0) 0 ((z2 0) 0)), kX3 ua va (z2 1), aI y va 10 (z2 2), kX1 ub (z2 3), kX8 uc vc1 vc2 vc3 vc4 vc5 (z2 4), aI y vc1 20 (z2 5), aI y vc2 20 (z2 6), aI y vc3 20 (z2 7), aI y vc4 20 (z2 8), aI y vc5 20 o, kX10 ud vd (z 9), aI y vd 32 (z 10), kX0 ue ve (z 11), aI y ve 3 (z 12), kX7 kh kua kub kuc kud kue (z2 0), kX3 kua kva (z2 1), aI y kva 10 (z2 2), kX1 kub (z2 3), kX8 kuc kvc1 kvc2 kvc3 kvc4 kvc5 (z2 4), aI y kvc1 20 (z2 5), aI y kvc2 20 (z2 6), aI y kvc3 20 (z2 7), aI y kvc4 20 (z2 8), aI y kvc5 20 o2, kX10 kud kvd (z2 9), aI y kvd 32 (z2 10), kX0 kue kve (z2 11), aI y kve 3 (z2 12)]) [4, 5, 6, 7, 8, 9, 18, 19, 20, 21, 22, 23] [0, 1, 2, 3, 10, 11, 12, 13, 14, 15, 16, 17, 24, 25, 26, 27] [0, 1, 2, 3, 16, 17, 18, 19, 20, 21, 4, 5, 6, 7, 8, 9, 10, 11, 22, 23, 24, 25, 26, 27, 12, 13, 14, 15] (va_runV (As := [.ref kuc]) (rest := []) ⟨hx, hb, hml, hown, hts⟩ (c_X8_become l G y uc kuc vc1 vc2 vc3 vc4 vc5 (z 4) (z 5) (z 6) (z 7) (z 8) o kvc1 kvc2 kvc3 kvc4 kvc5 (z2 4) (z2 5) (z2 6) (z2 7) (z2 8) o2 H.size (by assumption)) (cwV 1 hts gX7_become_X8_become rfl rfl rfl (by decide +kernel) ⟨Nat.le_of_ble_eq_true rfl, Nat.le_of_ble_eq_true rfl⟩) (PH_V (hP.sub (ws' := [kX8 uc vc1 vc2 vc3 vc4 vc5 (z 4), aI y vc1 20 (z 5), aI y vc2 20 (z 6), aI y vc3 20 (z 7), aI y vc4 20 (z 8), aI y vc5 20 o, kX8 kuc kvc1 kvc2 kvc3 kvc4 kvc5 (z2 4), aI y kvc1 20 (z2 5), aI y kvc2 20 (z2 6), aI y kvc3 20 (z2 7), aI y kvc4 20 (z2 8), aI y kvc5 20 o2]) [4, 5, 6, 7, 8, 9, 18, 19, 20, 21, 22, 23] rfl) hK hN (hD.sub (ws' := [kX8 uc vc1 vc2 vc3 vc4 vc5 (z 4), aI y vc1 20 (z 5), aI y vc2 20 (z 6), aI y vc3 20 (z 7), aI y vc4 20 (z 8), aI y vc5 20 o, kX8 kuc kvc1 kvc2 kvc3 kvc4 kvc5 (z2 4), aI y kvc1 20 (z2 5), aI y kvc2 20 (z2 6), aI y kvc3 20 (z2 7), aI y kvc4 20 (z2 8), aI y kvc5 20 o2]) [4, 5, 6, 7, 8, 9, 18, 19, 20, 21, 22, 23] (by decide) rfl) (ci := 6) (q0 := 0) rfl rfl) rfl rfl hl.1 rfl (lv_room (Nat.le_of_ble_eq_true rfl)) dX7_become_38 ⟨Nat.le_of_ble_eq_true rfl, Nat.le_of_ble_eq_true rfl⟩) hP hD hS hA rfl rfl rfl (by decide) rfl (fun _ => rfl) (fun _ H locs hP hD hS => ?_)
  have hP : va_P G vwCl [kX7 h ua ub uc ud ue (upd (z 0) 0 ((z2 0) 0)), kX3 ua va (z2 1), aI y va 10 (z2 2), kX1 ub (z2 3), kX8 uc vc1 vc2 vc3 vc4 vc5 (z2 4), aI y vc1 20 (z2 5), aI y vc2 20 (z2 6), aI y vc3 20 (z2 7), aI y vc4 20 (z2 8), aI y vc5 20 o, kX10 ud vd (z 9), aI y vd 32 (z 10), kX0 ue ve (z 11), aI y ve 3 (z 12), kX7 kh kua kub kuc kud kue (z2 0), kX3 kua kva (z2 1), aI y kva 10 (z2 2), kX1 kub (z2 3), kX8 kuc kvc1 kvc2 kvc3 kvc4 kvc5 (z2 4), aI y kvc1 20 (z2 5), aI y kvc2 20 (z2 6), aI y kvc3 20 (z2 7), aI y kvc4 20 (z2 8), aI y kvc5 20 o2, kX10 kud kvd (z2 9), aI y kvd 32 (z2 10), kX0 kue kve (z2 11), aI y kve 3 (z2 12)] H := hP
  have hD : va_D A [kX7 h ua ub uc ud ue (upd (z 0) 0 ((z2 0) 0)), kX3 ua va (z2 1), aI y va 10 (z2 2), kX1 ub (z2 3), kX8 uc vc1 vc2 vc3 vc4 vc5 (z2 4), aI y vc1 20 (z2 5), aI y vc2 20 (z2 6), aI y vc3 20 (z2 7), aI y vc4 20 (z2 8), aI y vc5 20 o, kX10 ud vd (z 9), aI y vd 32 (z 10), kX0 ue ve (z 11), aI y ve 3 (z 12), kX7 kh kua kub kuc kud kue (z2 0), kX3 kua kva (z2 1), aI y kva 10 (z2 2), kX1 kub (z2 3), kX8 kuc kvc1 kvc2 kvc3 kvc4 kvc5 (z2 4), aI y kvc1 20 (z2 5), aI y kvc2 20 (z2 6), aI y kvc3 20 (z2 7), aI y kvc4 20 (z2 8), aI y kvc5 20 o2, kX10 kud kvd (z2 9), aI y kvd 32 (z2 10), kX0 kue kve (z2 11), aI y kve 3 (z2 12)] := hD
  refine lv_aload_n hx hb dX7_become_41 rfl (lv_at hl 0 rfl) ?_
  refine va_get (D := G) (ci := 5) (v := .ref ud) (C := RX7) (T := TX7) (N := 6) hx hb hts i_X7 hown hK hP 0 rfl rfl 4 (by decide) (hts (.fieldLink RX7 35 "RelayTuner$State" "trials" "LRelayTuner$Trials;") (by decide +kernel)) (fun _ h9 => h9) rfl dX7_become_42 ?_
  refine lv_aload_n hx hb dX7_become_45 rfl (lv_at hl 1 rfl) ?_
  refine va_get (D := G) (ci := 5) (v := .ref kud) (C := RX7) (T := TX7) (N := 6) hx hb hts i_X7 hown hK hP 14 rfl rfl 4 (by decide) (hts (.fieldLink RX7 35 "RelayTuner$State" "trials" "LRelayTuner$Trials;") (by decide +kernel)) (fun _ h9 => h9) rfl dX7_become_46 ?_
  refine cl_Hv (wr := [kX7 h ua ub uc ud ue (upd (z 0) 0 ((z2 0) 0)), kX3 ua va (z2 1), aI y va 10 (z2 2), kX1 ub (z2 3), kX8 uc vc1 vc2 vc3 vc4 vc5 (z2 4), aI y vc1 20 (z2 5), aI y vc2 20 (z2 6), aI y vc3 20 (z2 7), aI y vc4 20 (z2 8), aI y vc5 20 o, kX0 ue ve (z 11), aI y ve 3 (z 12), kX7 kh kua kub kuc kud kue (z2 0), kX3 kua kva (z2 1), aI y kva 10 (z2 2), kX1 kub (z2 3), kX8 kuc kvc1 kvc2 kvc3 kvc4 kvc5 (z2 4), aI y kvc1 20 (z2 5), aI y kvc2 20 (z2 6), aI y kvc3 20 (z2 7), aI y kvc4 20 (z2 8), aI y kvc5 20 o2, kX0 kue kve (z2 11), aI y kve 3 (z2 12)]) (fun _ : Unit => [kX7 h ua ub uc ud ue (upd (z 0) 0 ((z2 0) 0)), kX3 ua va (z2 1), aI y va 10 (z2 2), kX1 ub (z2 3), kX8 uc vc1 vc2 vc3 vc4 vc5 (z2 4), aI y vc1 20 (z2 5), aI y vc2 20 (z2 6), aI y vc3 20 (z2 7), aI y vc4 20 (z2 8), aI y vc5 20 o, kX10 ud vd (z2 9), aI y vd 32 (z2 10), kX0 ue ve (z 11), aI y ve 3 (z 12), kX7 kh kua kub kuc kud kue (z2 0), kX3 kua kva (z2 1), aI y kva 10 (z2 2), kX1 kub (z2 3), kX8 kuc kvc1 kvc2 kvc3 kvc4 kvc5 (z2 4), aI y kvc1 20 (z2 5), aI y kvc2 20 (z2 6), aI y kvc3 20 (z2 7), aI y kvc4 20 (z2 8), aI y kvc5 20 o2, kX10 kud kvd (z2 9), aI y kvd 32 (z2 10), kX0 kue kve (z2 11), aI y kve 3 (z2 12)]) [10, 11, 24, 25] [0, 1, 2, 3, 4, 5, 6, 7, 8, 9, 12, 13, 14, 15, 16, 17, 18, 19, 20, 21, 22, 23, 26, 27] [0, 1, 2, 3, 4, 5, 6, 7, 8, 9, 24, 25, 10, 11, 12, 13, 14, 15, 16, 17, 18, 19, 20, 21, 26, 27, 22, 23] (va_runV (As := [.ref kud]) (rest := []) ⟨hx, hb, hml, hown, hts⟩ (c_X10_become l G y ud kud vd (z 9) (z 10) kvd (z2 9) (z2 10) H.size) (cwV 1 hts gX7_become_X10_become rfl rfl rfl (by decide +kernel) ⟨Nat.le_of_ble_eq_true rfl, Nat.le_of_ble_eq_true rfl⟩) (PH_V (hP.sub (ws' := [kX10 ud vd (z 9), aI y vd 32 (z 10), kX10 kud kvd (z2 9), aI y kvd 32 (z2 10)]) [10, 11, 24, 25] rfl) hK hN (hD.sub (ws' := [kX10 ud vd (z 9), aI y vd 32 (z 10), kX10 kud kvd (z2 9), aI y kvd 32 (z2 10)]) [10, 11, 24, 25] (by decide) rfl) (ci := 8) (q0 := 0) rfl rfl) rfl rfl hl.1 rfl (lv_room (Nat.le_of_ble_eq_true rfl)) dX7_become_49 ⟨Nat.le_of_ble_eq_true rfl, Nat.le_of_ble_eq_true rfl⟩) hP hD hS hA rfl rfl rfl (by decide) rfl (fun _ => rfl) (fun _ H locs hP hD hS => ?_)
  have hP : va_P G vwCl [kX7 h ua ub uc ud ue (upd (z 0) 0 ((z2 0) 0)), kX3 ua va (z2 1), aI y va 10 (z2 2), kX1 ub (z2 3), kX8 uc vc1 vc2 vc3 vc4 vc5 (z2 4), aI y vc1 20 (z2 5), aI y vc2 20 (z2 6), aI y vc3 20 (z2 7), aI y vc4 20 (z2 8), aI y vc5 20 o, kX10 ud vd (z2 9), aI y vd 32 (z2 10), kX0 ue ve (z 11), aI y ve 3 (z 12), kX7 kh kua kub kuc kud kue (z2 0), kX3 kua kva (z2 1), aI y kva 10 (z2 2), kX1 kub (z2 3), kX8 kuc kvc1 kvc2 kvc3 kvc4 kvc5 (z2 4), aI y kvc1 20 (z2 5), aI y kvc2 20 (z2 6), aI y kvc3 20 (z2 7), aI y kvc4 20 (z2 8), aI y kvc5 20 o2, kX10 kud kvd (z2 9), aI y kvd 32 (z2 10), kX0 kue kve (z2 11), aI y kve 3 (z2 12)] H := hP
  have hD : va_D A [kX7 h ua ub uc ud ue (upd (z 0) 0 ((z2 0) 0)), kX3 ua va (z2 1), aI y va 10 (z2 2), kX1 ub (z2 3), kX8 uc vc1 vc2 vc3 vc4 vc5 (z2 4), aI y vc1 20 (z2 5), aI y vc2 20 (z2 6), aI y vc3 20 (z2 7), aI y vc4 20 (z2 8), aI y vc5 20 o, kX10 ud vd (z2 9), aI y vd 32 (z2 10), kX0 ue ve (z 11), aI y ve 3 (z 12), kX7 kh kua kub kuc kud kue (z2 0), kX3 kua kva (z2 1), aI y kva 10 (z2 2), kX1 kub (z2 3), kX8 kuc kvc1 kvc2 kvc3 kvc4 kvc5 (z2 4), aI y kvc1 20 (z2 5), aI y kvc2 20 (z2 6), aI y kvc3 20 (z2 7), aI y kvc4 20 (z2 8), aI y kvc5 20 o2, kX10 kud kvd (z2 9), aI y kvd 32 (z2 10), kX0 kue kve (z2 11), aI y kve 3 (z2 12)] := hD
  refine lv_aload_n hx hb dX7_become_52 rfl (lv_at hl 0 rfl) ?_
  refine va_get (D := G) (ci := 5) (v := .ref ue) (C := RX7) (T := TX7) (N := 6) hx hb hts i_X7 hown hK hP 0 rfl rfl 5 (by decide) (hts (.fieldLink RX7 42 "RelayTuner$State" "accounts" "LRelayTuner$Accounts;") (by decide +kernel)) (fun _ h9 => h9) rfl dX7_become_53 ?_
  refine lv_aload_n hx hb dX7_become_56 rfl (lv_at hl 1 rfl) ?_
  refine va_get (D := G) (ci := 5) (v := .ref kue) (C := RX7) (T := TX7) (N := 6) hx hb hts i_X7 hown hK hP 14 rfl rfl 5 (by decide) (hts (.fieldLink RX7 42 "RelayTuner$State" "accounts" "LRelayTuner$Accounts;") (by decide +kernel)) (fun _ h9 => h9) rfl dX7_become_57 ?_
  refine cl_Hv (wr := [kX7 h ua ub uc ud ue (upd (z 0) 0 ((z2 0) 0)), kX3 ua va (z2 1), aI y va 10 (z2 2), kX1 ub (z2 3), kX8 uc vc1 vc2 vc3 vc4 vc5 (z2 4), aI y vc1 20 (z2 5), aI y vc2 20 (z2 6), aI y vc3 20 (z2 7), aI y vc4 20 (z2 8), aI y vc5 20 o, kX10 ud vd (z2 9), aI y vd 32 (z2 10), kX7 kh kua kub kuc kud kue (z2 0), kX3 kua kva (z2 1), aI y kva 10 (z2 2), kX1 kub (z2 3), kX8 kuc kvc1 kvc2 kvc3 kvc4 kvc5 (z2 4), aI y kvc1 20 (z2 5), aI y kvc2 20 (z2 6), aI y kvc3 20 (z2 7), aI y kvc4 20 (z2 8), aI y kvc5 20 o2, kX10 kud kvd (z2 9), aI y kvd 32 (z2 10)]) (fun _ : Unit => [kX7 h ua ub uc ud ue (upd (z 0) 0 ((z2 0) 0)), kX3 ua va (z2 1), aI y va 10 (z2 2), kX1 ub (z2 3), kX8 uc vc1 vc2 vc3 vc4 vc5 (z2 4), aI y vc1 20 (z2 5), aI y vc2 20 (z2 6), aI y vc3 20 (z2 7), aI y vc4 20 (z2 8), aI y vc5 20 o, kX10 ud vd (z2 9), aI y vd 32 (z2 10), kX0 ue ve (z2 11), aI y ve 3 (z2 12), kX7 kh kua kub kuc kud kue (z2 0), kX3 kua kva (z2 1), aI y kva 10 (z2 2), kX1 kub (z2 3), kX8 kuc kvc1 kvc2 kvc3 kvc4 kvc5 (z2 4), aI y kvc1 20 (z2 5), aI y kvc2 20 (z2 6), aI y kvc3 20 (z2 7), aI y kvc4 20 (z2 8), aI y kvc5 20 o2, kX10 kud kvd (z2 9), aI y kvd 32 (z2 10), kX0 kue kve (z2 11), aI y kve 3 (z2 12)]) [12, 13, 26, 27] [0, 1, 2, 3, 4, 5, 6, 7, 8, 9, 10, 11, 14, 15, 16, 17, 18, 19, 20, 21, 22, 23, 24, 25] [0, 1, 2, 3, 4, 5, 6, 7, 8, 9, 10, 11, 24, 25, 12, 13, 14, 15, 16, 17, 18, 19, 20, 21, 22, 23, 26, 27] (va_runV (As := [.ref kue]) (rest := []) ⟨hx, hb, hml, hown, hts⟩ (c_X0_become l G y ue kue ve (z 11) (z 12) kve (z2 11) (z2 12) H.size) (cwV 1 hts gX7_become_X0_become rfl rfl rfl (by decide +kernel) ⟨Nat.le_of_ble_eq_true rfl, Nat.le_of_ble_eq_true rfl⟩) (PH_V (hP.sub (ws' := [kX0 ue ve (z 11), aI y ve 3 (z 12), kX0 kue kve (z2 11), aI y kve 3 (z2 12)]) [12, 13, 26, 27] rfl) hK hN (hD.sub (ws' := [kX0 ue ve (z 11), aI y ve 3 (z 12), kX0 kue kve (z2 11), aI y kve 3 (z2 12)]) [12, 13, 26, 27] (by decide) rfl) (ci := 0) (q0 := 0) rfl rfl) rfl rfl hl.1 rfl (lv_room (Nat.le_of_ble_eq_true rfl)) dX7_become_60 ⟨Nat.le_of_ble_eq_true rfl, Nat.le_of_ble_eq_true rfl⟩) hP hD hS hA rfl rfl rfl (by decide) rfl (fun _ => rfl) (fun _ H locs hP hD hS => ?_)
  have hP : va_P G vwCl [kX7 h ua ub uc ud ue (upd (z 0) 0 ((z2 0) 0)), kX3 ua va (z2 1), aI y va 10 (z2 2), kX1 ub (z2 3), kX8 uc vc1 vc2 vc3 vc4 vc5 (z2 4), aI y vc1 20 (z2 5), aI y vc2 20 (z2 6), aI y vc3 20 (z2 7), aI y vc4 20 (z2 8), aI y vc5 20 o, kX10 ud vd (z2 9), aI y vd 32 (z2 10), kX0 ue ve (z2 11), aI y ve 3 (z2 12), kX7 kh kua kub kuc kud kue (z2 0), kX3 kua kva (z2 1), aI y kva 10 (z2 2), kX1 kub (z2 3), kX8 kuc kvc1 kvc2 kvc3 kvc4 kvc5 (z2 4), aI y kvc1 20 (z2 5), aI y kvc2 20 (z2 6), aI y kvc3 20 (z2 7), aI y kvc4 20 (z2 8), aI y kvc5 20 o2, kX10 kud kvd (z2 9), aI y kvd 32 (z2 10), kX0 kue kve (z2 11), aI y kve 3 (z2 12)] H := hP
  have hD : va_D A [kX7 h ua ub uc ud ue (upd (z 0) 0 ((z2 0) 0)), kX3 ua va (z2 1), aI y va 10 (z2 2), kX1 ub (z2 3), kX8 uc vc1 vc2 vc3 vc4 vc5 (z2 4), aI y vc1 20 (z2 5), aI y vc2 20 (z2 6), aI y vc3 20 (z2 7), aI y vc4 20 (z2 8), aI y vc5 20 o, kX10 ud vd (z2 9), aI y vd 32 (z2 10), kX0 ue ve (z2 11), aI y ve 3 (z2 12), kX7 kh kua kub kuc kud kue (z2 0), kX3 kua kva (z2 1), aI y kva 10 (z2 2), kX1 kub (z2 3), kX8 kuc kvc1 kvc2 kvc3 kvc4 kvc5 (z2 4), aI y kvc1 20 (z2 5), aI y kvc2 20 (z2 6), aI y kvc3 20 (z2 7), aI y kvc4 20 (z2 8), aI y kvc5 20 o2, kX10 kud kvd (z2 9), aI y kvd 32 (z2 10), kX0 kue kve (z2 11), aI y kve 3 (z2 12)] := hD
  exact W.vret hx hb hr (end_Hv () hP hD hS rfl) hS.2.2 dX7_become_63

def s_X7_changeMode_z (a1 : Int32) (z : Nat → Nat → Int32) : Nat → Nat → Int32 := fun i => match i with
  | 3 => (if (s_X11_isMode_r a1) = 0 then (z 3) else (let v_3 : Nat → Int32 := (if a1 = ((z 3) 6) then (z 3) else (s_X1_enter_w0 a1 (z 3))); v_3))
  | 4 => (if (s_X11_isMode_r a1) = 0 then (z 4) else (let v_4 : Nat → Int32 := (if a1 = ((z 3) 6) then (z 4) else (s_X8_breakOff_w0 (z 4))); v_4))
  | _ => z i
def s_X7_changeMode_r (a1 : Int32) : Int32 := (if (s_X11_isMode_r a1) = 0 then 0 else 1)
theorem z_X7_changeMode (a1 : Int32) : s_X7_changeMode_r a1 = 0 ∨ s_X7_changeMode_r a1 = 1 := by unfold s_X7_changeMode_r; (try dsimp only); exact (z_ite (Or.inl rfl) (Or.inr rfl))
abbrev rmX7_changeMode : Room := ({ frames := 1, cells := 0, slots := 0, locals := 21 } : Room)
set_option maxHeartbeats 4000000 in
set_option maxRecDepth 100000 in
theorem c_X7_changeMode (l : Launch) (G : va_G) (y : Nat → ClassId) (h : Nat) (a1 : Int32) (ua : Nat) (ub : Nat) (uc : Nat) (ud : Nat) (ue : Nat) (z : Nat → Nat → Int32) (vc1 : Nat) (vc2 : Nat) (vc3 : Nat) (vc4 : Nat) (vc5 : Nat) (sz : Nat) : Met l yX7_changeMode wsX7_changeMode rmX7_changeMode (PH G y [.ref h, .int a1] [kX7 h ua ub uc ud ue (z 0), kX1 ub (z 3), kX8 uc vc1 vc2 vc3 vc4 vc5 (z 4)] sz) (QHi G (s_X7_changeMode_r a1) (fun _ : Unit => [kX7 h ua ub uc ud ue (s_X7_changeMode_z a1 z 0), kX1 ub (s_X7_changeMode_z a1 z 3), kX8 uc vc1 vc2 vc3 vc4 vc5 (s_X7_changeMode_z a1 z 4)]) (va_A [kX7 h ua ub uc ud ue (z 0), kX1 ub (z 3), kX8 uc vc1 vc2 vc3 vc4 vc5 (z 4)] sz)) 0 0 (va_A [kX7 h ua ub uc ud ue (z 0), kX1 ub (z 3), kX8 uc vc1 vc2 vc3 vc4 vc5 (z 4)] sz) := by
  refine Met.ofW (cc := cX7_changeMode) (maxL := 2) (ret := (some .boolean)) (by decide) rfl ?_
  intro p e s m args below meth c s₁ B hml hv
  obtain ⟨rfl, hsz, hP, ⟨hK, hN⟩, hD0⟩ := hv
  have hx := B.exec
  have hb := B.bytes
  have hr := B.returns
  have hts := atoms_spec (ws := wsX7_changeMode) B.pre
  have hown : s.vm.findClass RX7 = some m.cls := findClass_of_methodNamed B.named
  have hlocks := B.notSynchronized
  have i_X1 : ∀ w ∈ u_ws RX1 TX1 11, w ∈ wsX7_changeMode := by decide +kernel
  have i_X7 : ∀ w ∈ u_ws RX7 TX7 6, w ∈ wsX7_changeMode := by decide +kernel
  subst hsz
  have hD := hD0.self (sz := s.heap.size)
  generalize hAe : va_A [kX7 h ua ub uc ud ue (z 0), kX1 ub (z 3), kX8 uc vc1 vc2 vc3 vc4 vc5 (z 4)] s.heap.size = A at hD ⊢
  have hA : ∀ q : Nat, s.heap.size ≤ q → A q := fun q h => by rw [← hAe]; exact Or.inr h
  have hS : va_S A s.heap s.heap [] := va_S.rf
  have hP : va_P G vwCl [kX7 h ua ub uc ud ue (z 0), kX1 ub (z 3), kX8 uc vc1 vc2 vc3 vc4 vc5 (z 4)] s.heap := hP
  have hl := lv_entry ([.ref h, .int a1]) (n := 2) (Nat.le_of_ble_eq_true rfl)
  rw [lg_entry_eq]
  generalize (lg_sl ([.ref h, .int a1]) ++ List.replicate (2 - (lg_sl ([.ref h, .int a1])).length) Slot.unset).toArray = ls at hl ⊢
  have hl : lv_has ls 2 [(0, .ref h), (1, .int a1)] := hl
  obtain ⟨QQ, hQQ⟩ : ∃ zq9, zq9 = MQ below (QHi G (s_X7_changeMode_r a1) (fun _ : Unit => [kX7 h ua ub uc ud ue (s_X7_changeMode_z a1 z 0), kX1 ub (s_X7_changeMode_z a1 z 3), kX8 uc vc1 vc2 vc3 vc4 vc5 (s_X7_changeMode_z a1 z 4)]) A) ([.ref h, .int a1] : List Value).toArray s 0 0 A := ⟨_, rfl⟩
  rw [← hQQ]
  refine lv_iload_n hx hb dX7_changeMode_0 rfl (lv_at hl 1 rfl) ?_
  refine cl_Ri (va_runSN (As := [.int a1]) (rest := []) ⟨hx, hb, hml, hown, hts⟩ (c_X11_isMode l G y a1) ⟨va_cnB 1 hts gX7_changeMode_X11_isMode_n138 rfl rfl rfl (NN.m hN (by decide +kernel)) (hts (.initialized RX11) (by decide +kernel)) (by decide +kernel) ⟨Nat.le_of_ble_eq_true rfl, Nat.le_of_ble_eq_true rfl⟩, hts (.static yX11_isMode) (by decide +kernel), trivial⟩ (PR_S pnil hK hN) rfl rfl hl.1 rfl (lv_room (Nat.le_of_ble_eq_true rfl)) dX7_changeMode_1 ⟨Nat.le_of_ble_eq_true rfl, Nat.le_of_ble_eq_true rfl⟩) ?_
  refine lv_if_ne (tgt := 9) hx hb dX7_changeMode_4 (by decide) (fun c_1 => ?_) (fun c_1 => ?_)
  · refine lv_iload_n hx hb dX7_changeMode_9 rfl (lv_at hl 1 rfl) ?_
    refine lv_aload_n hx hb dX7_changeMode_10 rfl (lv_at hl 0 rfl) ?_
    refine va_get (D := G) (ci := 5) (v := .ref ub) (C := RX7) (T := TX7) (N := 6) hx hb hts i_X7 hown hK hP 0 rfl rfl 2 (by decide) (hts (.fieldLink RX7 21 "RelayTuner$State" "control" "LRelayTuner$Control;") (by decide +kernel)) (fun _ h9 => h9) rfl dX7_changeMode_11 ?_
    refine va_getN (D := G) (ci := 1) (v := .int ((z 3) 6)) (C := RX1) (T := TX1) (N := 11) hx hb hts i_X1 hown hK hP 1 rfl rfl 6 (by decide) (NN.f hN (a := RX7) (i := 85) (b := "RelayTuner$Control") (n := "mode") (d := "I") (by decide +kernel)) (fun _ h9 => h9) rfl dX7_changeMode_14 ?_
    have J35_5 : ∀ (v_3 : Nat → Int32) (v_4 : Nat → Int32) (e_v_3 : v_3 = (if a1 = ((z 3) 6) then (z 3) else (s_X1_enter_w0 a1 (z 3)))) (e_v_4 : v_4 = (if a1 = ((z 3) 6) then (z 4) else (s_X8_breakOff_w0 (z 4)))) (H : Heap) (locs : List Loc) (hP : va_P G vwCl [kX7 h ua ub uc ud ue (z 0), kX1 ub v_3, kX8 uc vc1 vc2 vc3 vc4 vc5 v_4] H) (hD : va_D A [kX7 h ua ub uc ud ue (z 0), kX1 ub v_3, kX8 uc vc1 vc2 vc3 vc4 vc5 v_4]) (hS : va_S A s.heap H locs) (ls : Array Slot) (hl : lv_has ls 2 []), W p l e (headSpec wsX7_changeMode rmX7_changeMode).room s m ([.ref h, .int a1] : List Value).toArray below meth c H locs 0 0 QQ (F0 m 35 ls []) := by
      intro v_3 v_4 e_v_3 e_v_4 H locs hP hD hS ls hl
      refine lv_iconst (v := 1) hx hb dX7_changeMode_35 (by decide) ?_
      rw [hQQ]
      exact W.zret hx hb hr (nz_bool (Or.inr rfl)) (end_Hi () hP hD hS (by subst e_v_4; subst e_v_3; unfold s_X7_changeMode_r; exact (if_neg c_1).symm) (congr (congr (congrArg (fun (z0 : Nat → Int32) (z1 : Nat → Int32) (z2 : Nat → Int32) => [kX7 h ua ub uc ud ue z0, kX1 ub z1, kX8 uc vc1 vc2 vc3 vc4 vc5 z2]) rfl) (by subst e_v_4; subst e_v_3; unfold s_X7_changeMode_z; exact (if_neg c_1).symm)) (by subst e_v_4; subst e_v_3; unfold s_X7_changeMode_z; exact (if_neg c_1).symm))) hS.2.2 dX7_changeMode_36
    refine lv_icmp_eq (tgt := 35) hx hb dX7_changeMode_17 (by decide) (fun c_2 => ?_) (fun c_2 => ?_)
    · exact J35_5 _ _ (if_pos c_2).symm (if_pos c_2).symm s.heap [] hP hD hS ls (lv_sub hl [] rfl)
    · refine lv_aload_n hx hb dX7_changeMode_20 rfl (lv_at hl 0 rfl) ?_
      refine va_get (D := G) (ci := 5) (v := .ref ub) (C := RX7) (T := TX7) (N := 6) hx hb hts i_X7 hown hK hP 0 rfl rfl 2 (by decide) (hts (.fieldLink RX7 21 "RelayTuner$State" "control" "LRelayTuner$Control;") (by decide +kernel)) (fun _ h9 => h9) rfl dX7_changeMode_21 ?_
      refine lv_iload_n hx hb dX7_changeMode_24 rfl (lv_at hl 1 rfl) ?_
      refine cl_Hv (wr := [kX7 h ua ub uc ud ue (z 0), kX8 uc vc1 vc2 vc3 vc4 vc5 (z 4)]) (fun _ : Unit => [kX7 h ua ub uc ud ue (z 0), kX1 ub (s_X1_enter_w0 a1 (z 3)), kX8 uc vc1 vc2 vc3 vc4 vc5 (z 4)]) [1] [0, 2] [0, 2, 1] (va_runV (As := [.int a1]) (rest := []) ⟨hx, hb, hml, hown, hts⟩ (c_X1_enter l G y ub a1 (z 3) s.heap.size) (cwV 1 hts gX7_changeMode_X1_enter rfl rfl rfl (by decide +kernel) ⟨Nat.le_of_ble_eq_true rfl, Nat.le_of_ble_eq_true rfl⟩) (PH_V (hP.sub (ws' := [kX1 ub (z 3)]) [1] rfl) hK hN (hD.sub (ws' := [kX1 ub (z 3)]) [1] (by decide) rfl) (ci := 1) (q0 := 0) rfl rfl) rfl rfl hl.1 rfl (lv_room (Nat.le_of_ble_eq_true rfl)) dX7_changeMode_25 ⟨Nat.le_of_ble_eq_true rfl, Nat.le_of_ble_eq_true rfl⟩) hP hD hS hA rfl rfl rfl (by decide) rfl (fun _ => rfl) (fun _ H locs hP hD hS => ?_)
      have hP : va_P G vwCl [kX7 h ua ub uc ud ue (z 0), kX1 ub (s_X1_enter_w0 a1 (z 3)), kX8 uc vc1 vc2 vc3 vc4 vc5 (z 4)] H := hP
      have hD : va_D A [kX7 h ua ub uc ud ue (z 0), kX1 ub (s_X1_enter_w0 a1 (z 3)), kX8 uc vc1 vc2 vc3 vc4 vc5 (z 4)] := hD
      refine lv_aload_n hx hb dX7_changeMode_28 rfl (lv_at hl 0 rfl) ?_
      refine va_get (D := G) (ci := 5) (v := .ref uc) (C := RX7) (T := TX7) (N := 6) hx hb hts i_X7 hown hK hP 0 rfl rfl 3 (by decide) (hts (.fieldLink RX7 28 "RelayTuner$State" "swings" "LRelayTuner$Swings;") (by decide +kernel)) (fun _ h9 => h9) rfl dX7_changeMode_29 ?_
      refine cl_Hv (wr := [kX7 h ua ub uc ud ue (z 0), kX1 ub (s_X1_enter_w0 a1 (z 3))]) (fun _ : Unit => [kX7 h ua ub uc ud ue (z 0), kX1 ub (s_X1_enter_w0 a1 (z 3)), kX8 uc vc1 vc2 vc3 vc4 vc5 (s_X8_breakOff_w0 (z 4))]) [2] [0, 1] [0, 1, 2] (va_runV (As := []) (rest := []) ⟨hx, hb, hml, hown, hts⟩ (c_X8_breakOff l G y uc vc1 vc2 vc3 vc4 vc5 (z 4) H.size) (cwV 0 hts gX7_changeMode_X8_breakOff rfl rfl rfl (by decide +kernel) ⟨Nat.le_of_ble_eq_true rfl, Nat.le_of_ble_eq_true rfl⟩) (PH_V (hP.sub (ws' := [kX8 uc vc1 vc2 vc3 vc4 vc5 (z 4)]) [2] rfl) hK hN (hD.sub (ws' := [kX8 uc vc1 vc2 vc3 vc4 vc5 (z 4)]) [2] (by decide) rfl) (ci := 6) (q0 := 0) rfl rfl) rfl rfl hl.1 rfl (lv_room (Nat.le_of_ble_eq_true rfl)) dX7_changeMode_32 ⟨Nat.le_of_ble_eq_true rfl, Nat.le_of_ble_eq_true rfl⟩) hP hD hS hA rfl rfl rfl (by decide) rfl (fun _ => rfl) (fun _ H locs hP hD hS => ?_)
      have hP : va_P G vwCl [kX7 h ua ub uc ud ue (z 0), kX1 ub (s_X1_enter_w0 a1 (z 3)), kX8 uc vc1 vc2 vc3 vc4 vc5 (s_X8_breakOff_w0 (z 4))] H := hP
      have hD : va_D A [kX7 h ua ub uc ud ue (z 0), kX1 ub (s_X1_enter_w0 a1 (z 3)), kX8 uc vc1 vc2 vc3 vc4 vc5 (s_X8_breakOff_w0 (z 4))] := hD
      exact J35_5 _ _ (if_neg c_2).symm (if_neg c_2).symm H locs hP hD hS ls (lv_sub hl [] rfl)
  · refine lv_iconst (v := 0) hx hb dX7_changeMode_7 (by decide) ?_
    rw [hQQ]
    exact W.zret hx hb hr (nz_bool (Or.inl rfl)) (end_Hi () hP hD hS (by unfold s_X7_changeMode_r; exact (if_pos c_1).symm) (congr (congr (congrArg (fun (z0 : Nat → Int32) (z1 : Nat → Int32) (z2 : Nat → Int32) => [kX7 h ua ub uc ud ue z0, kX1 ub z1, kX8 uc vc1 vc2 vc3 vc4 vc5 z2]) rfl) (by unfold s_X7_changeMode_z; exact (if_pos c_1).symm)) (by unfold s_X7_changeMode_z; exact (if_pos c_1).symm))) hS.2.2 dX7_changeMode_8

def s_X7_put_z (a1 : Int32) (a2 : Int32) (z : Nat → Nat → Int32) : Nat → Nat → Int32 := fun i => match i with
  | 3 => (if (s_X11_isSetting_r a1 a2) = 0 then (z 3) else (s_X1_put_w0 a1 a2 (z 3)))
  | _ => z i
def s_X7_put_r (a1 : Int32) (a2 : Int32) : Int32 := (if (s_X11_isSetting_r a1 a2) = 0 then 0 else 1)
theorem z_X7_put (a1 : Int32) (a2 : Int32) : s_X7_put_r a1 a2 = 0 ∨ s_X7_put_r a1 a2 = 1 := by unfold s_X7_put_r; (try dsimp only); exact (z_ite (Or.inl rfl) (Or.inr rfl))
abbrev rmX7_put : Room := ({ frames := 2, cells := 0, slots := 0, locals := 41 } : Room)
set_option maxHeartbeats 4000000 in
set_option maxRecDepth 100000 in
theorem c_X7_put (l : Launch) (G : va_G) (y : Nat → ClassId) (h : Nat) (a1 : Int32) (a2 : Int32) (ua : Nat) (ub : Nat) (uc : Nat) (ud : Nat) (ue : Nat) (z : Nat → Nat → Int32) (sz : Nat) : Met l yX7_put wsX7_put rmX7_put (PH G y [.ref h, .int a1, .int a2] [kX7 h ua ub uc ud ue (z 0), kX1 ub (z 3)] sz) (QHi G (s_X7_put_r a1 a2) (fun _ : Unit => [kX7 h ua ub uc ud ue (s_X7_put_z a1 a2 z 0), kX1 ub (s_X7_put_z a1 a2 z 3)]) (va_A [kX7 h ua ub uc ud ue (z 0), kX1 ub (z 3)] sz)) 0 0 (va_A [kX7 h ua ub uc ud ue (z 0), kX1 ub (z 3)] sz) := by
  refine Met.ofW (cc := cX7_put) (maxL := 3) (ret := (some .boolean)) (by decide) rfl ?_
  intro p e s m args below meth c s₁ B hml hv
  obtain ⟨rfl, hsz, hP, ⟨hK, hN⟩, hD0⟩ := hv
  have hx := B.exec
  have hb := B.bytes
  have hr := B.returns
  have hts := atoms_spec (ws := wsX7_put) B.pre
  have hown : s.vm.findClass RX7 = some m.cls := findClass_of_methodNamed B.named
  have hlocks := B.notSynchronized
  have i_X7 : ∀ w ∈ u_ws RX7 TX7 6, w ∈ wsX7_put := by decide +kernel
  subst hsz
  have hD := hD0.self (sz := s.heap.size)
  generalize hAe : va_A [kX7 h ua ub uc ud ue (z 0), kX1 ub (z 3)] s.heap.size = A at hD ⊢
  have hA : ∀ q : Nat, s.heap.size ≤ q → A q := fun q h => by rw [← hAe]; exact Or.inr h
  have hS : va_S A s.heap s.heap [] := va_S.rf
  have hP : va_P G vwCl [kX7 h ua ub uc ud ue (z 0), kX1 ub (z 3)] s.heap := hP
  have hl := lv_entry ([.ref h, .int a1, .int a2]) (n := 3) (Nat.le_of_ble_eq_true rfl)
  rw [lg_entry_eq]
  generalize (lg_sl ([.ref h, .int a1, .int a2]) ++ List.replicate (3 - (lg_sl ([.ref h, .int a1, .int a2])).length) Slot.unset).toArray = ls at hl ⊢
  have hl : lv_has ls 3 [(0, .ref h), (1, .int a1), (2, .int a2)] := hl
  refine lv_iload_n hx hb dX7_put_0 rfl (lv_at hl 1 rfl) ?_
  refine lv_iload_n hx hb dX7_put_1 rfl (lv_at hl 2 rfl) ?_
  refine cl_Ri (va_runSN (As := [.int a1, .int a2]) (rest := []) ⟨hx, hb, hml, hown, hts⟩ (c_X11_isSetting l G y a1 a2) ⟨va_cnB 2 hts gX7_put_X11_isSetting_n147 rfl rfl rfl (NN.m hN (by decide +kernel)) (hts (.initialized RX11) (by decide +kernel)) (by decide +kernel) ⟨Nat.le_of_ble_eq_true rfl, Nat.le_of_ble_eq_true rfl⟩, hts (.static yX11_isSetting) (by decide +kernel), trivial⟩ (PR_S pnil hK hN) rfl rfl hl.1 rfl (lv_room (Nat.le_of_ble_eq_true rfl)) dX7_put_2 ⟨Nat.le_of_ble_eq_true rfl, Nat.le_of_ble_eq_true rfl⟩) ?_
  refine lv_if_ne (tgt := 10) hx hb dX7_put_5 (by decide) (fun c_1 => ?_) (fun c_1 => ?_)
  · refine lv_aload_n hx hb dX7_put_10 rfl (lv_at hl 0 rfl) ?_
    refine va_get (D := G) (ci := 5) (v := .ref ub) (C := RX7) (T := TX7) (N := 6) hx hb hts i_X7 hown hK hP 0 rfl rfl 2 (by decide) (hts (.fieldLink RX7 21 "RelayTuner$State" "control" "LRelayTuner$Control;") (by decide +kernel)) (fun _ h9 => h9) rfl dX7_put_11 ?_
    refine lv_iload_n hx hb dX7_put_14 rfl (lv_at hl 1 rfl) ?_
    refine lv_iload_n hx hb dX7_put_15 rfl (lv_at hl 2 rfl) ?_
    refine cl_Hv (wr := [kX7 h ua ub uc ud ue (z 0)]) (fun _ : Unit => [kX7 h ua ub uc ud ue (z 0), kX1 ub (s_X1_put_w0 a1 a2 (z 3))]) [1] [0] [0, 1] (va_runV (As := [.int a1, .int a2]) (rest := []) ⟨hx, hb, hml, hown, hts⟩ (c_X1_put l G y ub a1 a2 (z 3) s.heap.size) (cwV 2 hts gX7_put_X1_put rfl rfl rfl (by decide +kernel) ⟨Nat.le_of_ble_eq_true rfl, Nat.le_of_ble_eq_true rfl⟩) (PH_V (hP.sub (ws' := [kX1 ub (z 3)]) [1] rfl) hK hN (hD.sub (ws' := [kX1 ub (z 3)]) [1] (by decide) rfl) (ci := 1) (q0 := 0) rfl rfl) rfl rfl hl.1 rfl (lv_room (Nat.le_of_ble_eq_true rfl)) dX7_put_16 ⟨Nat.le_of_ble_eq_true rfl, Nat.le_of_ble_eq_true rfl⟩) hP hD hS hA rfl rfl rfl (by decide) rfl (fun _ => rfl) (fun _ H locs hP hD hS => ?_)
    have hP : va_P G vwCl [kX7 h ua ub uc ud ue (z 0), kX1 ub (s_X1_put_w0 a1 a2 (z 3))] H := hP
    have hD : va_D A [kX7 h ua ub uc ud ue (z 0), kX1 ub (s_X1_put_w0 a1 a2 (z 3))] := hD
    refine lv_iconst (v := 1) hx hb dX7_put_19 (by decide) ?_
    exact W.zret hx hb hr (nz_bool (Or.inr rfl)) (end_Hi () hP hD hS (by unfold s_X7_put_r; exact (if_neg c_1).symm) (congr (congrArg (fun (z0 : Nat → Int32) (z1 : Nat → Int32) => [kX7 h ua ub uc ud ue z0, kX1 ub z1]) rfl) (by unfold s_X7_put_z; exact (if_neg c_1).symm))) hS.2.2 dX7_put_20
  · refine lv_iconst (v := 0) hx hb dX7_put_8 (by decide) ?_
    exact W.zret hx hb hr (nz_bool (Or.inl rfl)) (end_Hi () hP hD hS (by unfold s_X7_put_r; exact (if_pos c_1).symm) (congr (congrArg (fun (z0 : Nat → Int32) (z1 : Nat → Int32) => [kX7 h ua ub uc ud ue z0, kX1 ub z1]) rfl) (by unfold s_X7_put_z; exact (if_pos c_1).symm))) hS.2.2 dX7_put_9

def s_X7_push_z (a1 : Int32) (z : Nat → Nat → Int32) : Nat → Nat → Int32 := fun i => match i with
  | 1 => (if (s_X11_isDisturbance_r a1) = 0 then (z 1) else (s_X3_warmBy_w0 a1 (z 1)))
  | 11 => (if (s_X11_isDisturbance_r a1) = 0 then (z 11) else (upd (z 11) 5 (((z 11) 5) + 1)))
  | _ => z i
def s_X7_push_r (a1 : Int32) : Int32 := (if (s_X11_isDisturbance_r a1) = 0 then 0 else 1)
theorem z_X7_push (a1 : Int32) : s_X7_push_r a1 = 0 ∨ s_X7_push_r a1 = 1 := by unfold s_X7_push_r; (try dsimp only); exact (z_ite (Or.inl rfl) (Or.inr rfl))
abbrev rmX7_push : Room := ({ frames := 2, cells := 0, slots := 0, locals := 43 } : Room)
set_option maxHeartbeats 4000000 in
set_option maxRecDepth 100000 in
theorem c_X7_push (l : Launch) (G : va_G) (y : Nat → ClassId) (h : Nat) (a1 : Int32) (ua : Nat) (ub : Nat) (uc : Nat) (ud : Nat) (ue : Nat) (z : Nat → Nat → Int32) (va : Nat) (ve : Nat) (sz : Nat) : Met l yX7_push wsX7_push rmX7_push (PH G y [.ref h, .int a1] [kX7 h ua ub uc ud ue (z 0), kX3 ua va (z 1), kX0 ue ve (z 11)] sz) (QHi G (s_X7_push_r a1) (fun _ : Unit => [kX7 h ua ub uc ud ue (s_X7_push_z a1 z 0), kX3 ua va (s_X7_push_z a1 z 1), kX0 ue ve (s_X7_push_z a1 z 11)]) (va_A [kX7 h ua ub uc ud ue (z 0), kX3 ua va (z 1), kX0 ue ve (z 11)] sz)) 0 0 (va_A [kX7 h ua ub uc ud ue (z 0), kX3 ua va (z 1), kX0 ue ve (z 11)] sz) := by
  refine Met.ofW (cc := cX7_push) (maxL := 2) (ret := (some .boolean)) (by decide) rfl ?_
  intro p e s m args below meth c s₁ B hml hv
  obtain ⟨rfl, hsz, hP, ⟨hK, hN⟩, hD0⟩ := hv
  have hx := B.exec
  have hb := B.bytes
  have hr := B.returns
  have hts := atoms_spec (ws := wsX7_push) B.pre
  have hown : s.vm.findClass RX7 = some m.cls := findClass_of_methodNamed B.named
  have hlocks := B.notSynchronized
  have i_X0 : ∀ w ∈ u_ws RX0 TX0 6, w ∈ wsX7_push := by decide +kernel
  have i_X7 : ∀ w ∈ u_ws RX7 TX7 6, w ∈ wsX7_push := by decide +kernel
  subst hsz
  have hD := hD0.self (sz := s.heap.size)
  generalize hAe : va_A [kX7 h ua ub uc ud ue (z 0), kX3 ua va (z 1), kX0 ue ve (z 11)] s.heap.size = A at hD ⊢
  have hA : ∀ q : Nat, s.heap.size ≤ q → A q := fun q h => by rw [← hAe]; exact Or.inr h
  have hS : va_S A s.heap s.heap [] := va_S.rf
  have hP : va_P G vwCl [kX7 h ua ub uc ud ue (z 0), kX3 ua va (z 1), kX0 ue ve (z 11)] s.heap := hP
  have hl := lv_entry ([.ref h, .int a1]) (n := 2) (Nat.le_of_ble_eq_true rfl)
  rw [lg_entry_eq]
  generalize (lg_sl ([.ref h, .int a1]) ++ List.replicate (2 - (lg_sl ([.ref h, .int a1])).length) Slot.unset).toArray = ls at hl ⊢
  have hl : lv_has ls 2 [(0, .ref h), (1, .int a1)] := hl
  refine lv_iload_n hx hb dX7_push_0 rfl (lv_at hl 1 rfl) ?_
  refine cl_Ri (va_runSN (As := [.int a1]) (rest := []) ⟨hx, hb, hml, hown, hts⟩ (c_X11_isDisturbance l G y a1) ⟨va_cnB 1 hts gX7_push_X11_isDisturbance_n154 rfl rfl rfl (NN.m hN (by decide +kernel)) (hts (.initialized RX11) (by decide +kernel)) (by decide +kernel) ⟨Nat.le_of_ble_eq_true rfl, Nat.le_of_ble_eq_true rfl⟩, hts (.static yX11_isDisturbance) (by decide +kernel), trivial⟩ (PR_S pnil hK hN) rfl rfl hl.1 rfl (lv_room (Nat.le_of_ble_eq_true rfl)) dX7_push_1 ⟨Nat.le_of_ble_eq_true rfl, Nat.le_of_ble_eq_true rfl⟩) ?_
  refine lv_if_ne (tgt := 9) hx hb dX7_push_4 (by decide) (fun c_1 => ?_) (fun c_1 => ?_)
  · refine lv_aload_n hx hb dX7_push_9 rfl (lv_at hl 0 rfl) ?_
    refine va_get (D := G) (ci := 5) (v := .ref ua) (C := RX7) (T := TX7) (N := 6) hx hb hts i_X7 hown hK hP 0 rfl rfl 1 (by decide) (hts (.fieldLink RX7 12 "RelayTuner$State" "plant" "LRelayTuner$Plant;") (by decide +kernel)) (fun _ h9 => h9) rfl dX7_push_10 ?_
    refine lv_iload_n hx hb dX7_push_13 rfl (lv_at hl 1 rfl) ?_
    refine cl_Hv (wr := [kX7 h ua ub uc ud ue (z 0), kX0 ue ve (z 11)]) (fun _ : Unit => [kX7 h ua ub uc ud ue (z 0), kX3 ua va (s_X3_warmBy_w0 a1 (z 1)), kX0 ue ve (z 11)]) [1] [0, 2] [0, 2, 1] (va_runV (As := [.int a1]) (rest := []) ⟨hx, hb, hml, hown, hts⟩ (c_X3_warmBy l G y ua a1 va (z 1) s.heap.size) (cwV 1 hts gX7_push_X3_warmBy rfl rfl rfl (by decide +kernel) ⟨Nat.le_of_ble_eq_true rfl, Nat.le_of_ble_eq_true rfl⟩) (PH_V (hP.sub (ws' := [kX3 ua va (z 1)]) [1] rfl) hK hN (hD.sub (ws' := [kX3 ua va (z 1)]) [1] (by decide) rfl) (ci := 3) (q0 := 0) rfl rfl) rfl rfl hl.1 rfl (lv_room (Nat.le_of_ble_eq_true rfl)) dX7_push_14 ⟨Nat.le_of_ble_eq_true rfl, Nat.le_of_ble_eq_true rfl⟩) hP hD hS hA rfl rfl rfl (by decide) rfl (fun _ => rfl) (fun _ H locs hP hD hS => ?_)
    have hP : va_P G vwCl [kX7 h ua ub uc ud ue (z 0), kX3 ua va (s_X3_warmBy_w0 a1 (z 1)), kX0 ue ve (z 11)] H := hP
    have hD : va_D A [kX7 h ua ub uc ud ue (z 0), kX3 ua va (s_X3_warmBy_w0 a1 (z 1)), kX0 ue ve (z 11)] := hD
    refine lv_aload_n hx hb dX7_push_17 rfl (lv_at hl 0 rfl) ?_
    refine va_get (D := G) (ci := 5) (v := .ref ue) (C := RX7) (T := TX7) (N := 6) hx hb hts i_X7 hown hK hP 0 rfl rfl 5 (by decide) (hts (.fieldLink RX7 42 "RelayTuner$State" "accounts" "LRelayTuner$Accounts;") (by decide +kernel)) (fun _ h9 => h9) rfl dX7_push_18 ?_
    refine lv_dup hx hb dX7_push_21 rfl ?_
    refine va_getN (D := G) (ci := 0) (v := .int ((z 11) 5)) (C := RX0) (T := TX0) (N := 6) hx hb hts i_X0 hown hK hP 2 rfl rfl 5 (by decide) (NN.f hN (a := RX7) (i := 160) (b := "RelayTuner$Accounts") (n := "disturbances") (d := "I") (by decide +kernel)) (fun _ h9 => h9) rfl dX7_push_22 ?_
    refine lv_iconst (v := 1) hx hb dX7_push_25 (by decide) ?_
    refine lv_iadd hx hb dX7_push_26 ?_
    refine va_putN (D := G) (ci := 0) (v := .int (((z 11) 5) + 1)) (ty := .int) (C := RX0) (T := TX0) (N := 6) hx hb hts i_X0 tyX0 tyX0_ok nmX0 hown hK hP hD hS 2 rfl rfl 5 (by decide) (NN.f hN (a := RX7) (i := 160) (b := "RelayTuner$Accounts") (n := "disturbances") (d := "I") (by decide +kernel)) (fun _ h9 => h9) rfl (by decide +kernel) rfl rfl (Nat.le_of_ble_eq_true rfl) dX7_push_27 (fun H locs hP hD hS => ?_)
    have hP : va_P G vwCl [kX7 h ua ub uc ud ue (z 0), kX3 ua va (s_X3_warmBy_w0 a1 (z 1)), kX0 ue ve (upd (z 11) 5 (((z 11) 5) + 1))] H := hP
    have hD : va_D A [kX7 h ua ub uc ud ue (z 0), kX3 ua va (s_X3_warmBy_w0 a1 (z 1)), kX0 ue ve (upd (z 11) 5 (((z 11) 5) + 1))] := hD
    refine lv_iconst (v := 1) hx hb dX7_push_30 (by decide) ?_
    exact W.zret hx hb hr (nz_bool (Or.inr rfl)) (end_Hi () hP hD hS (by unfold s_X7_push_r; exact (if_neg c_1).symm) (congr (congr (congrArg (fun (z0 : Nat → Int32) (z1 : Nat → Int32) (z2 : Nat → Int32) => [kX7 h ua ub uc ud ue z0, kX3 ua va z1, kX0 ue ve z2]) rfl) (by unfold s_X7_push_z; exact (if_neg c_1).symm)) (by unfold s_X7_push_z; exact (if_neg c_1).symm))) hS.2.2 dX7_push_31
  · refine lv_iconst (v := 0) hx hb dX7_push_7 (by decide) ?_
    exact W.zret hx hb hr (nz_bool (Or.inl rfl)) (end_Hi () hP hD hS (by unfold s_X7_push_r; exact (if_pos c_1).symm) (congr (congr (congrArg (fun (z0 : Nat → Int32) (z1 : Nat → Int32) (z2 : Nat → Int32) => [kX7 h ua ub uc ud ue z0, kX3 ua va z1, kX0 ue ve z2]) rfl) (by unfold s_X7_push_z; exact (if_pos c_1).symm)) (by unfold s_X7_push_z; exact (if_pos c_1).symm))) hS.2.2 dX7_push_8

def s_X7_distance_r (z : Nat → Nat → Int32) : Int32 := (if 0 ≤ (((z 3) 0) - ((z 1) 5)) then (((z 3) 0) - ((z 1) 5)) else 0 - (((z 3) 0) - ((z 1) 5)))
abbrev rmX7_distance : Room := ({ frames := 1, cells := 0, slots := 0, locals := 21 } : Room)
set_option maxHeartbeats 4000000 in
set_option maxRecDepth 100000 in
theorem c_X7_distance (l : Launch) (G : va_G) (y : Nat → ClassId) (h : Nat) (ua : Nat) (ub : Nat) (uc : Nat) (ud : Nat) (ue : Nat) (z : Nat → Nat → Int32) (va : Nat) : Met l yX7_distance wsX7_distance rmX7_distance (PR G y [.ref h] [kX7 h ua ub uc ud ue (z 0), kX3 ua va (z 1), kX1 ub (z 3)]) (QRi (s_X7_distance_r z)) 0 0 (fun _ => False) := by
  refine Met.ofW (cc := cX7_distance) (maxL := 1) (ret := (some .int)) (by decide) rfl ?_
  intro p e s m args below meth c s₁ B hml hv
  obtain ⟨rfl, hP, hK, hN⟩ := hv
  have hx := B.exec
  have hb := B.bytes
  have hr := B.returns
  have hts := atoms_spec (ws := wsX7_distance) B.pre
  have hown : s.vm.findClass RX7 = some m.cls := findClass_of_methodNamed B.named
  have hlocks := B.notSynchronized
  have i_X1 : ∀ w ∈ u_ws RX1 TX1 11, w ∈ wsX7_distance := by decide +kernel
  have i_X3 : ∀ w ∈ u_ws RX3 TX3 8, w ∈ wsX7_distance := by decide +kernel
  have i_X7 : ∀ w ∈ u_ws RX7 TX7 6, w ∈ wsX7_distance := by decide +kernel
  have hl := lv_entry ([.ref h]) (n := 1) (Nat.le_of_ble_eq_true rfl)
  rw [lg_entry_eq]
  generalize (lg_sl ([.ref h]) ++ List.replicate (1 - (lg_sl ([.ref h])).length) Slot.unset).toArray = ls at hl ⊢
  have hl : lv_has ls 1 [(0, .ref h)] := hl
  refine lv_aload_n hx hb dX7_distance_0 rfl (lv_at hl 0 rfl) ?_
  refine va_get (D := G) (ci := 5) (v := .ref ub) (C := RX7) (T := TX7) (N := 6) hx hb hts i_X7 hown hK hP 0 rfl rfl 2 (by decide) (hts (.fieldLink RX7 21 "RelayTuner$State" "control" "LRelayTuner$Control;") (by decide +kernel)) (fun _ h9 => h9) rfl dX7_distance_1 ?_
  refine va_getN (D := G) (ci := 1) (v := .int ((z 3) 0)) (C := RX1) (T := TX1) (N := 11) hx hb hts i_X1 hown hK hP 2 rfl rfl 0 (by decide) (NN.f hN (a := RX7) (i := 128) (b := "RelayTuner$Control") (n := "setPoint") (d := "I") (by decide +kernel)) (fun _ h9 => h9) rfl dX7_distance_4 ?_
  refine lv_aload_n hx hb dX7_distance_7 rfl (lv_at hl 0 rfl) ?_
  refine va_get (D := G) (ci := 5) (v := .ref ua) (C := RX7) (T := TX7) (N := 6) hx hb hts i_X7 hown hK hP 0 rfl rfl 1 (by decide) (hts (.fieldLink RX7 12 "RelayTuner$State" "plant" "LRelayTuner$Plant;") (by decide +kernel)) (fun _ h9 => h9) rfl dX7_distance_8 ?_
  refine va_getN (D := G) (ci := 3) (v := .int ((z 1) 5)) (C := RX3) (T := TX3) (N := 8) hx hb hts i_X3 hown hK hP 1 rfl rfl 5 (by decide) (NN.f hN (a := RX7) (i := 88) (b := "RelayTuner$Plant") (n := "temperature") (d := "I") (by decide +kernel)) (fun _ h9 => h9) rfl dX7_distance_11 ?_
  refine lv_isub hx hb dX7_distance_14 ?_
  refine va_mabs hx hb (hml.trans hl.1.symm) hown (hts (.methodLink RX7 163 Lib.Math.abs.name) (by decide +kernel)) (hts (.static Lib.Math.abs.name) (by decide +kernel)) (hts (.initialized "java/lang/Math") (by decide +kernel)) (hts (.code Lib.Math.abs.name Lib.Math.abs.code 1 (some .int)) (by decide +kernel)) (Nat.le_of_ble_eq_true rfl) (Nat.le_of_ble_eq_true rfl) (Nat.le_of_ble_eq_true rfl) (Nat.le_of_ble_eq_true rfl) dX7_distance_15 ?_
  exact W.iret hx hb hr (end_Ri rfl) (fun _ h => nomatch h) dX7_distance_18

def s_X7_goodCount_r (z : Nat → Nat → Int32) : Int32 := (nI (goodG (z 5) (sC (z 6) (z 7)) (tn ((z 4) 0)) ((z 3) 2) (tn ((z 4) 0))))
abbrev rmX7_goodCount : Room := ({ frames := 4, cells := 0, slots := 0, locals := 92 } : Room)
set_option maxHeartbeats 4000000 in
set_option maxRecDepth 100000 in
theorem c_X7_goodCount (l : Launch) (G : va_G) (y : Nat → ClassId) (h : Nat) (ua : Nat) (ub : Nat) (uc : Nat) (ud : Nat) (ue : Nat) (z : Nat → Nat → Int32) (vc1 : Nat) (vc2 : Nat) (vc3 : Nat) (vc4 : Nat) (vc5 : Nat) (o : Nat → Int32) (sz : Nat) (hw : vp_in (z 4 0) 21) : Met l yX7_goodCount wsX7_goodCount rmX7_goodCount (PH G y [.ref h] [kX7 h ua ub uc ud ue (z 0), kX1 ub (z 3), kX8 uc vc1 vc2 vc3 vc4 vc5 (z 4), aI y vc1 20 (z 5), aI y vc2 20 (z 6), aI y vc3 20 (z 7), aI y vc4 20 (z 8), aI y vc5 20 o] sz) (QHi G (s_X7_goodCount_r z) (fun u : (Nat → Int32) => [kX7 h ua ub uc ud ue (z 0), kX1 ub (z 3), kX8 uc vc1 vc2 vc3 vc4 vc5 (z 4), aI y vc1 20 (z 5), aI y vc2 20 (z 6), aI y vc3 20 (z 7), aI y vc4 20 (z 8), aI y vc5 20 u]) (va_A [kX7 h ua ub uc ud ue (z 0), kX1 ub (z 3), kX8 uc vc1 vc2 vc3 vc4 vc5 (z 4), aI y vc1 20 (z 5), aI y vc2 20 (z 6), aI y vc3 20 (z 7), aI y vc4 20 (z 8), aI y vc5 20 o] sz)) 0 0 (va_A [kX7 h ua ub uc ud ue (z 0), kX1 ub (z 3), kX8 uc vc1 vc2 vc3 vc4 vc5 (z 4), aI y vc1 20 (z 5), aI y vc2 20 (z 6), aI y vc3 20 (z 7), aI y vc4 20 (z 8), aI y vc5 20 o] sz) := by
  refine Met.ofW (cc := cX7_goodCount) (maxL := 1) (ret := (some .int)) (by decide) rfl ?_
  intro p e s m args below meth c s₁ B hml hv
  obtain ⟨rfl, hsz, hP, ⟨hK, hN⟩, hD0⟩ := hv
  have hx := B.exec
  have hb := B.bytes
  have hr := B.returns
  have hts := atoms_spec (ws := wsX7_goodCount) B.pre
  have hown : s.vm.findClass RX7 = some m.cls := findClass_of_methodNamed B.named
  have hlocks := B.notSynchronized
  have i_X1 : ∀ w ∈ u_ws RX1 TX1 11, w ∈ wsX7_goodCount := by decide +kernel
  have i_X7 : ∀ w ∈ u_ws RX7 TX7 6, w ∈ wsX7_goodCount := by decide +kernel
  subst hsz
  have hD := hD0.self (sz := s.heap.size)
  generalize hAe : va_A [kX7 h ua ub uc ud ue (z 0), kX1 ub (z 3), kX8 uc vc1 vc2 vc3 vc4 vc5 (z 4), aI y vc1 20 (z 5), aI y vc2 20 (z 6), aI y vc3 20 (z 7), aI y vc4 20 (z 8), aI y vc5 20 o] s.heap.size = A at hD ⊢
  have hA : ∀ q : Nat, s.heap.size ≤ q → A q := fun q h => by rw [← hAe]; exact Or.inr h
  have hS : va_S A s.heap s.heap [] := va_S.rf
  have hP : va_P G vwCl [kX7 h ua ub uc ud ue (z 0), kX1 ub (z 3), kX8 uc vc1 vc2 vc3 vc4 vc5 (z 4), aI y vc1 20 (z 5), aI y vc2 20 (z 6), aI y vc3 20 (z 7), aI y vc4 20 (z 8), aI y vc5 20 o] s.heap := hP
  have hl := lv_entry ([.ref h]) (n := 1) (Nat.le_of_ble_eq_true rfl)
  rw [lg_entry_eq]
  generalize (lg_sl ([.ref h]) ++ List.replicate (1 - (lg_sl ([.ref h])).length) Slot.unset).toArray = ls at hl ⊢
  have hl : lv_has ls 1 [(0, .ref h)] := hl
  refine lv_aload_n hx hb dX7_goodCount_0 rfl (lv_at hl 0 rfl) ?_
  refine va_get (D := G) (ci := 5) (v := .ref uc) (C := RX7) (T := TX7) (N := 6) hx hb hts i_X7 hown hK hP 0 rfl rfl 3 (by decide) (hts (.fieldLink RX7 28 "RelayTuner$State" "swings" "LRelayTuner$Swings;") (by decide +kernel)) (fun _ h9 => h9) rfl dX7_goodCount_1 ?_
  refine lv_aload_n hx hb dX7_goodCount_4 rfl (lv_at hl 0 rfl) ?_
  refine va_get (D := G) (ci := 5) (v := .ref ub) (C := RX7) (T := TX7) (N := 6) hx hb hts i_X7 hown hK hP 0 rfl rfl 2 (by decide) (hts (.fieldLink RX7 21 "RelayTuner$State" "control" "LRelayTuner$Control;") (by decide +kernel)) (fun _ h9 => h9) rfl dX7_goodCount_5 ?_
  refine va_getN (D := G) (ci := 1) (v := .int ((z 3) 2)) (C := RX1) (T := TX1) (N := 11) hx hb hts i_X1 hown hK hP 1 rfl rfl 2 (by decide) (NN.f hN (a := RX7) (i := 168) (b := "RelayTuner$Control") (n := "tolerance") (d := "I") (by decide +kernel)) (fun _ h9 => h9) rfl dX7_goodCount_8 ?_
  refine cl_Hi (wr := [kX7 h ua ub uc ud ue (z 0), kX1 ub (z 3)]) (fun u : (Nat → Int32) => [kX7 h ua ub uc ud ue (z 0), kX1 ub (z 3), kX8 uc vc1 vc2 vc3 vc4 vc5 (z 4), aI y vc1 20 (z 5), aI y vc2 20 (z 6), aI y vc3 20 (z 7), aI y vc4 20 (z 8), aI y vc5 20 u]) [2, 3, 4, 5, 6, 7] [0, 1] [0, 1, 2, 3, 4, 5, 6, 7] (va_runV (As := [.int ((z 3) 2)]) (rest := []) ⟨hx, hb, hml, hown, hts⟩ (c_X8_goodCount l G y uc ((z 3) 2) vc1 vc2 vc3 vc4 vc5 (z 4) (z 5) (z 6) (z 7) (z 8) o s.heap.size (by assumption)) (cwV 1 hts gX7_goodCount_X8_goodCount rfl rfl rfl (by decide +kernel) ⟨Nat.le_of_ble_eq_true rfl, Nat.le_of_ble_eq_true rfl⟩) (PH_V (hP.sub (ws' := [kX8 uc vc1 vc2 vc3 vc4 vc5 (z 4), aI y vc1 20 (z 5), aI y vc2 20 (z 6), aI y vc3 20 (z 7), aI y vc4 20 (z 8), aI y vc5 20 o]) [2, 3, 4, 5, 6, 7] rfl) hK hN (hD.sub (ws' := [kX8 uc vc1 vc2 vc3 vc4 vc5 (z 4), aI y vc1 20 (z 5), aI y vc2 20 (z 6), aI y vc3 20 (z 7), aI y vc4 20 (z 8), aI y vc5 20 o]) [2, 3, 4, 5, 6, 7] (by decide) rfl) (ci := 6) (q0 := 0) rfl rfl) rfl rfl hl.1 rfl (lv_room (Nat.le_of_ble_eq_true rfl)) dX7_goodCount_11 ⟨Nat.le_of_ble_eq_true rfl, Nat.le_of_ble_eq_true rfl⟩) hP hD hS hA rfl rfl rfl (by decide) rfl (fun _ => rfl) (fun u H locs hP hD hS => ?_)
  obtain ⟨o_1, rfl⟩ : ∃ zq9, zq9 = u := ⟨_, rfl⟩
  have hP : va_P G vwCl [kX7 h ua ub uc ud ue (z 0), kX1 ub (z 3), kX8 uc vc1 vc2 vc3 vc4 vc5 (z 4), aI y vc1 20 (z 5), aI y vc2 20 (z 6), aI y vc3 20 (z 7), aI y vc4 20 (z 8), aI y vc5 20 o_1] H := hP
  have hD : va_D A [kX7 h ua ub uc ud ue (z 0), kX1 ub (z 3), kX8 uc vc1 vc2 vc3 vc4 vc5 (z 4), aI y vc1 20 (z 5), aI y vc2 20 (z 6), aI y vc3 20 (z 7), aI y vc4 20 (z 8), aI y vc5 20 o_1] := hD
  exact W.iret hx hb hr (end_Hi o_1 hP hD hS rfl rfl) hS.2.2 dX7_goodCount_14

def s_X7_canBeginTrial_r (z : Nat → Nat → Int32) : Int32 := (let v_2 : Int32 := (if 8 ≤ ((z 9) 0) then 0 else (if (nI (goodG (z 5) (sC (z 6) (z 7)) (tn ((z 4) 0)) ((z 3) 2) (tn ((z 4) 0)))) ≤ 0 then 0 else 1)); v_2)
theorem z_X7_canBeginTrial (z : Nat → Nat → Int32) : s_X7_canBeginTrial_r z = 0 ∨ s_X7_canBeginTrial_r z = 1 := by unfold s_X7_canBeginTrial_r; (try dsimp only); exact (z_ite (Or.inl rfl) (z_ite (Or.inl rfl) (Or.inr rfl)))
abbrev rmX7_canBeginTrial : Room := ({ frames := 4, cells := 0, slots := 0, locals := 92 } : Room)
set_option maxHeartbeats 4000000 in
set_option maxRecDepth 100000 in
theorem c_X7_canBeginTrial (l : Launch) (G : va_G) (y : Nat → ClassId) (h : Nat) (ua : Nat) (ub : Nat) (uc : Nat) (ud : Nat) (ue : Nat) (z : Nat → Nat → Int32) (vc1 : Nat) (vc2 : Nat) (vc3 : Nat) (vc4 : Nat) (vc5 : Nat) (o : Nat → Int32) (vd : Nat) (sz : Nat) (hw : vp_in (z 4 0) 21) : Met l yX7_canBeginTrial wsX7_canBeginTrial rmX7_canBeginTrial (PH G y [.ref h] [kX7 h ua ub uc ud ue (z 0), kX1 ub (z 3), kX8 uc vc1 vc2 vc3 vc4 vc5 (z 4), aI y vc1 20 (z 5), aI y vc2 20 (z 6), aI y vc3 20 (z 7), aI y vc4 20 (z 8), aI y vc5 20 o, kX10 ud vd (z 9)] sz) (QHi G (s_X7_canBeginTrial_r z) (fun u : (Nat → Int32) => [kX7 h ua ub uc ud ue (z 0), kX1 ub (z 3), kX8 uc vc1 vc2 vc3 vc4 vc5 (z 4), aI y vc1 20 (z 5), aI y vc2 20 (z 6), aI y vc3 20 (z 7), aI y vc4 20 (z 8), aI y vc5 20 u, kX10 ud vd (z 9)]) (va_A [kX7 h ua ub uc ud ue (z 0), kX1 ub (z 3), kX8 uc vc1 vc2 vc3 vc4 vc5 (z 4), aI y vc1 20 (z 5), aI y vc2 20 (z 6), aI y vc3 20 (z 7), aI y vc4 20 (z 8), aI y vc5 20 o, kX10 ud vd (z 9)] sz)) 0 0 (va_A [kX7 h ua ub uc ud ue (z 0), kX1 ub (z 3), kX8 uc vc1 vc2 vc3 vc4 vc5 (z 4), aI y vc1 20 (z 5), aI y vc2 20 (z 6), aI y vc3 20 (z 7), aI y vc4 20 (z 8), aI y vc5 20 o, kX10 ud vd (z 9)] sz) := by
  refine Met.ofW (cc := cX7_canBeginTrial) (maxL := 1) (ret := (some .boolean)) (by decide) rfl ?_
  intro p e s m args below meth c s₁ B hml hv
  obtain ⟨rfl, hsz, hP, ⟨hK, hN⟩, hD0⟩ := hv
  have hx := B.exec
  have hb := B.bytes
  have hr := B.returns
  have hts := atoms_spec (ws := wsX7_canBeginTrial) B.pre
  have hown : s.vm.findClass RX7 = some m.cls := findClass_of_methodNamed B.named
  have hlocks := B.notSynchronized
  have i_X1 : ∀ w ∈ u_ws RX1 TX1 11, w ∈ wsX7_canBeginTrial := by decide +kernel
  have i_X10 : ∀ w ∈ u_ws RX10 TX10 2, w ∈ wsX7_canBeginTrial := by decide +kernel
  have i_X7 : ∀ w ∈ u_ws RX7 TX7 6, w ∈ wsX7_canBeginTrial := by decide +kernel
  subst hsz
  have hD := hD0.self (sz := s.heap.size)
  generalize hAe : va_A [kX7 h ua ub uc ud ue (z 0), kX1 ub (z 3), kX8 uc vc1 vc2 vc3 vc4 vc5 (z 4), aI y vc1 20 (z 5), aI y vc2 20 (z 6), aI y vc3 20 (z 7), aI y vc4 20 (z 8), aI y vc5 20 o, kX10 ud vd (z 9)] s.heap.size = A at hD ⊢
  have hA : ∀ q : Nat, s.heap.size ≤ q → A q := fun q h => by rw [← hAe]; exact Or.inr h
  have hS : va_S A s.heap s.heap [] := va_S.rf
  have hP : va_P G vwCl [kX7 h ua ub uc ud ue (z 0), kX1 ub (z 3), kX8 uc vc1 vc2 vc3 vc4 vc5 (z 4), aI y vc1 20 (z 5), aI y vc2 20 (z 6), aI y vc3 20 (z 7), aI y vc4 20 (z 8), aI y vc5 20 o, kX10 ud vd (z 9)] s.heap := hP
  have hl := lv_entry ([.ref h]) (n := 1) (Nat.le_of_ble_eq_true rfl)
  rw [lg_entry_eq]
  generalize (lg_sl ([.ref h]) ++ List.replicate (1 - (lg_sl ([.ref h])).length) Slot.unset).toArray = ls at hl ⊢
  have hl : lv_has ls 1 [(0, .ref h)] := hl
  obtain ⟨QQ, hQQ⟩ : ∃ zq9, zq9 = MQ below (QHi G (s_X7_canBeginTrial_r z) (fun u : (Nat → Int32) => [kX7 h ua ub uc ud ue (z 0), kX1 ub (z 3), kX8 uc vc1 vc2 vc3 vc4 vc5 (z 4), aI y vc1 20 (z 5), aI y vc2 20 (z 6), aI y vc3 20 (z 7), aI y vc4 20 (z 8), aI y vc5 20 u, kX10 ud vd (z 9)]) A) ([.ref h] : List Value).toArray s 0 0 A := ⟨_, rfl⟩
  rw [← hQQ]
  refine lv_aload_n hx hb dX7_canBeginTrial_0 rfl (lv_at hl 0 rfl) ?_
  refine va_get (D := G) (ci := 5) (v := .ref ud) (C := RX7) (T := TX7) (N := 6) hx hb hts i_X7 hown hK hP 0 rfl rfl 4 (by decide) (hts (.fieldLink RX7 35 "RelayTuner$State" "trials" "LRelayTuner$Trials;") (by decide +kernel)) (fun _ h9 => h9) rfl dX7_canBeginTrial_1 ?_
  refine va_getN (D := G) (ci := 8) (v := .int ((z 9) 0)) (C := RX10) (T := TX10) (N := 2) hx hb hts i_X10 hown hK hP 8 rfl rfl 0 (by decide) (NN.f hN (a := RX7) (i := 105) (b := "RelayTuner$Trials") (n := "count") (d := "I") (by decide +kernel)) (fun _ h9 => h9) rfl dX7_canBeginTrial_4 ?_
  refine lv_bipush (v := 8) hx hb dX7_canBeginTrial_7 (by decide) ?_
  have J34_5 : ∀ (o_3 : Nat → Int32) (v_2 : Int32) (e_v_2 : v_2 = (if 8 ≤ ((z 9) 0) then 0 else (if (nI (goodG (z 5) (sC (z 6) (z 7)) (tn ((z 4) 0)) ((z 3) 2) (tn ((z 4) 0)))) ≤ 0 then 0 else 1))) (z_4 : v_2 = 0 ∨ v_2 = 1) (H : Heap) (locs : List Loc) (hP : va_P G vwCl [kX7 h ua ub uc ud ue (z 0), kX1 ub (z 3), kX8 uc vc1 vc2 vc3 vc4 vc5 (z 4), aI y vc1 20 (z 5), aI y vc2 20 (z 6), aI y vc3 20 (z 7), aI y vc4 20 (z 8), aI y vc5 20 o_3, kX10 ud vd (z 9)] H) (hD : va_D A [kX7 h ua ub uc ud ue (z 0), kX1 ub (z 3), kX8 uc vc1 vc2 vc3 vc4 vc5 (z 4), aI y vc1 20 (z 5), aI y vc2 20 (z 6), aI y vc3 20 (z 7), aI y vc4 20 (z 8), aI y vc5 20 o_3, kX10 ud vd (z 9)]) (hS : va_S A s.heap H locs) (ls : Array Slot) (hl : lv_has ls 1 []), W p l e (headSpec wsX7_canBeginTrial rmX7_canBeginTrial).room s m ([.ref h] : List Value).toArray below meth c H locs 0 0 QQ (F0 m 34 ls [.int v_2]) := by
    intro o_3 v_2 e_v_2 z_4 H locs hP hD hS ls hl
    rw [hQQ]
    exact W.zret hx hb hr (nz_bool z_4) (end_Hi o_3 hP hD hS (by subst e_v_2; unfold s_X7_canBeginTrial_r; exact rfl) (by subst e_v_2; exact rfl)) hS.2.2 dX7_canBeginTrial_34
  refine lv_icmp_ge (tgt := 33) hx hb dX7_canBeginTrial_9 (by decide) (fun c_1 => ?_) (fun c_1 => ?_)
  · refine lv_iconst (v := 0) hx hb dX7_canBeginTrial_33 (by decide) ?_
    exact J34_5 _ _ (if_pos c_1).symm (Or.inl rfl) s.heap [] hP hD hS ls (lv_sub hl [] rfl)
  · refine lv_aload_n hx hb dX7_canBeginTrial_12 rfl (lv_at hl 0 rfl) ?_
    refine va_get (D := G) (ci := 5) (v := .ref uc) (C := RX7) (T := TX7) (N := 6) hx hb hts i_X7 hown hK hP 0 rfl rfl 3 (by decide) (hts (.fieldLink RX7 28 "RelayTuner$State" "swings" "LRelayTuner$Swings;") (by decide +kernel)) (fun _ h9 => h9) rfl dX7_canBeginTrial_13 ?_
    refine lv_aload_n hx hb dX7_canBeginTrial_16 rfl (lv_at hl 0 rfl) ?_
    refine va_get (D := G) (ci := 5) (v := .ref ub) (C := RX7) (T := TX7) (N := 6) hx hb hts i_X7 hown hK hP 0 rfl rfl 2 (by decide) (hts (.fieldLink RX7 21 "RelayTuner$State" "control" "LRelayTuner$Control;") (by decide +kernel)) (fun _ h9 => h9) rfl dX7_canBeginTrial_17 ?_
    refine va_getN (D := G) (ci := 1) (v := .int ((z 3) 2)) (C := RX1) (T := TX1) (N := 11) hx hb hts i_X1 hown hK hP 1 rfl rfl 2 (by decide) (NN.f hN (a := RX7) (i := 168) (b := "RelayTuner$Control") (n := "tolerance") (d := "I") (by decide +kernel)) (fun _ h9 => h9) rfl dX7_canBeginTrial_20 ?_
    refine cl_Hi (wr := [kX7 h ua ub uc ud ue (z 0), kX1 ub (z 3), kX10 ud vd (z 9)]) (fun u : (Nat → Int32) => [kX7 h ua ub uc ud ue (z 0), kX1 ub (z 3), kX8 uc vc1 vc2 vc3 vc4 vc5 (z 4), aI y vc1 20 (z 5), aI y vc2 20 (z 6), aI y vc3 20 (z 7), aI y vc4 20 (z 8), aI y vc5 20 u, kX10 ud vd (z 9)]) [2, 3, 4, 5, 6, 7] [0, 1, 8] [0, 1, 3, 4, 5, 6, 7, 8, 2] (va_runV (As := [.int ((z 3) 2)]) (rest := []) ⟨hx, hb, hml, hown, hts⟩ (c_X8_goodCount l G y uc ((z 3) 2) vc1 vc2 vc3 vc4 vc5 (z 4) (z 5) (z 6) (z 7) (z 8) o s.heap.size (by assumption)) (cwV 1 hts gX7_canBeginTrial_X8_goodCount rfl rfl rfl (by decide +kernel) ⟨Nat.le_of_ble_eq_true rfl, Nat.le_of_ble_eq_true rfl⟩) (PH_V (hP.sub (ws' := [kX8 uc vc1 vc2 vc3 vc4 vc5 (z 4), aI y vc1 20 (z 5), aI y vc2 20 (z 6), aI y vc3 20 (z 7), aI y vc4 20 (z 8), aI y vc5 20 o]) [2, 3, 4, 5, 6, 7] rfl) hK hN (hD.sub (ws' := [kX8 uc vc1 vc2 vc3 vc4 vc5 (z 4), aI y vc1 20 (z 5), aI y vc2 20 (z 6), aI y vc3 20 (z 7), aI y vc4 20 (z 8), aI y vc5 20 o]) [2, 3, 4, 5, 6, 7] (by decide) rfl) (ci := 6) (q0 := 0) rfl rfl) rfl rfl hl.1 rfl (lv_room (Nat.le_of_ble_eq_true rfl)) dX7_canBeginTrial_23 ⟨Nat.le_of_ble_eq_true rfl, Nat.le_of_ble_eq_true rfl⟩) hP hD hS hA rfl rfl rfl (by decide) rfl (fun _ => rfl) (fun u H locs hP hD hS => ?_)
    obtain ⟨o_6, rfl⟩ : ∃ zq9, zq9 = u := ⟨_, rfl⟩
    have hP : va_P G vwCl [kX7 h ua ub uc ud ue (z 0), kX1 ub (z 3), kX8 uc vc1 vc2 vc3 vc4 vc5 (z 4), aI y vc1 20 (z 5), aI y vc2 20 (z 6), aI y vc3 20 (z 7), aI y vc4 20 (z 8), aI y vc5 20 o_6, kX10 ud vd (z 9)] H := hP
    have hD : va_D A [kX7 h ua ub uc ud ue (z 0), kX1 ub (z 3), kX8 uc vc1 vc2 vc3 vc4 vc5 (z 4), aI y vc1 20 (z 5), aI y vc2 20 (z 6), aI y vc3 20 (z 7), aI y vc4 20 (z 8), aI y vc5 20 o_6, kX10 ud vd (z 9)] := hD
    refine lv_if_le (tgt := 33) hx hb dX7_canBeginTrial_26 (by decide) (fun c_7 => ?_) (fun c_7 => ?_)
    · refine lv_iconst (v := 0) hx hb dX7_canBeginTrial_33 (by decide) ?_
      exact J34_5 _ _ ((if_neg c_1).trans (if_pos c_7)).symm (Or.inl rfl) H locs hP hD hS ls (lv_sub hl [] rfl)
    · refine lv_iconst (v := 1) hx hb dX7_canBeginTrial_29 (by decide) ?_
      refine lv_goto (tgt := 34) hx hb dX7_canBeginTrial_30 (by decide) ?_
      exact J34_5 _ _ ((if_neg c_1).trans (if_neg c_7)).symm (Or.inr rfl) H locs hP hD hS ls (lv_sub hl [] rfl)

def s_X7_proposed_r (a1 : Int32) (a2 : Int32) (z : Nat → Nat → Int32) : Int32 := (if (if (goodG (z 5) (sC (z 6) (z 7)) (tn ((z 4) 0)) ((z 3) 2) (tn ((z 4) 0))) = 0 then -99999 else meanG (z 5) (sC (z 6) (z 7)) (tn ((z 4) 0)) ((z 3) 2) (vC 1 (z 5) (z 6) (z 7))) < 1 then (-99999) else (if 1 ≤ (if (goodG (z 5) (sC (z 6) (z 7)) (tn ((z 4) 0)) ((z 3) 2) (tn ((z 4) 0))) = 0 then -99999 else meanG (z 5) (sC (z 6) (z 7)) (tn ((z 4) 0)) ((z 3) 2) (vC 0 (z 5) (z 6) (z 7))) then (if a2 = 0 then (s_X4_proportional_r a1 ((127 * ((z 1) 4)) / (if (goodG (z 5) (sC (z 6) (z 7)) (tn ((z 4) 0)) ((z 3) 2) (tn ((z 4) 0))) = 0 then -99999 else meanG (z 5) (sC (z 6) (z 7)) (tn ((z 4) 0)) ((z 3) 2) (vC 1 (z 5) (z 6) (z 7))))) else (if a2 = 1 then (s_X4_integral_r a1 (s_X4_proportional_r a1 ((127 * ((z 1) 4)) / (if (goodG (z 5) (sC (z 6) (z 7)) (tn ((z 4) 0)) ((z 3) 2) (tn ((z 4) 0))) = 0 then -99999 else meanG (z 5) (sC (z 6) (z 7)) (tn ((z 4) 0)) ((z 3) 2) (vC 1 (z 5) (z 6) (z 7))))) (if (goodG (z 5) (sC (z 6) (z 7)) (tn ((z 4) 0)) ((z 3) 2) (tn ((z 4) 0))) = 0 then -99999 else meanG (z 5) (sC (z 6) (z 7)) (tn ((z 4) 0)) ((z 3) 2) (vC 0 (z 5) (z 6) (z 7)))) else (s_X4_derivative_r a1 (s_X4_proportional_r a1 ((127 * ((z 1) 4)) / (if (goodG (z 5) (sC (z 6) (z 7)) (tn ((z 4) 0)) ((z 3) 2) (tn ((z 4) 0))) = 0 then -99999 else meanG (z 5) (sC (z 6) (z 7)) (tn ((z 4) 0)) ((z 3) 2) (vC 1 (z 5) (z 6) (z 7))))) (if (goodG (z 5) (sC (z 6) (z 7)) (tn ((z 4) 0)) ((z 3) 2) (tn ((z 4) 0))) = 0 then -99999 else meanG (z 5) (sC (z 6) (z 7)) (tn ((z 4) 0)) ((z 3) 2) (vC 0 (z 5) (z 6) (z 7)))))) else (-99999)))
abbrev rmX7_proposed : Room := ({ frames := 3, cells := 0, slots := 0, locals := 73 } : Room)
set_option maxHeartbeats 4000000 in
set_option maxRecDepth 100000 in
theorem c_X7_proposed (l : Launch) (G : va_G) (y : Nat → ClassId) (h : Nat) (a1 : Int32) (a2 : Int32) (ua : Nat) (ub : Nat) (uc : Nat) (ud : Nat) (ue : Nat) (z : Nat → Nat → Int32) (va : Nat) (vc1 : Nat) (vc2 : Nat) (vc3 : Nat) (vc4 : Nat) (vc5 : Nat) (o : Nat → Int32) (sz : Nat) (hw : vp_in (z 4 0) 21) : Met l yX7_proposed wsX7_proposed rmX7_proposed (PH G y [.ref h, .int a1, .int a2] [kX7 h ua ub uc ud ue (z 0), kX3 ua va (z 1), kX1 ub (z 3), kX8 uc vc1 vc2 vc3 vc4 vc5 (z 4), aI y vc1 20 (z 5), aI y vc2 20 (z 6), aI y vc3 20 (z 7), aI y vc4 20 (z 8), aI y vc5 20 o] sz) (QHi G (s_X7_proposed_r a1 a2 z) (fun u : (Nat → Int32) => [kX7 h ua ub uc ud ue (z 0), kX3 ua va (z 1), kX1 ub (z 3), kX8 uc vc1 vc2 vc3 vc4 vc5 (z 4), aI y vc1 20 (z 5), aI y vc2 20 (z 6), aI y vc3 20 (z 7), aI y vc4 20 (z 8), aI y vc5 20 u]) (va_A [kX7 h ua ub uc ud ue (z 0), kX3 ua va (z 1), kX1 ub (z 3), kX8 uc vc1 vc2 vc3 vc4 vc5 (z 4), aI y vc1 20 (z 5), aI y vc2 20 (z 6), aI y vc3 20 (z 7), aI y vc4 20 (z 8), aI y vc5 20 o] sz)) 0 0 (va_A [kX7 h ua ub uc ud ue (z 0), kX3 ua va (z 1), kX1 ub (z 3), kX8 uc vc1 vc2 vc3 vc4 vc5 (z 4), aI y vc1 20 (z 5), aI y vc2 20 (z 6), aI y vc3 20 (z 7), aI y vc4 20 (z 8), aI y vc5 20 o] sz) := by
  refine Met.ofW (cc := cX7_proposed) (maxL := 6) (ret := (some .int)) (by decide) rfl ?_
  intro p e s m args below meth c s₁ B hml hv
  obtain ⟨rfl, hsz, hP, ⟨hK, hN⟩, hD0⟩ := hv
  have hx := B.exec
  have hb := B.bytes
  have hr := B.returns
  have hts := atoms_spec (ws := wsX7_proposed) B.pre
  have hown : s.vm.findClass RX7 = some m.cls := findClass_of_methodNamed B.named
  have hlocks := B.notSynchronized
  have i_X1 : ∀ w ∈ u_ws RX1 TX1 11, w ∈ wsX7_proposed := by decide +kernel
  have i_X3 : ∀ w ∈ u_ws RX3 TX3 8, w ∈ wsX7_proposed := by decide +kernel
  have i_X7 : ∀ w ∈ u_ws RX7 TX7 6, w ∈ wsX7_proposed := by decide +kernel
  subst hsz
  have hD := hD0.self (sz := s.heap.size)
  generalize hAe : va_A [kX7 h ua ub uc ud ue (z 0), kX3 ua va (z 1), kX1 ub (z 3), kX8 uc vc1 vc2 vc3 vc4 vc5 (z 4), aI y vc1 20 (z 5), aI y vc2 20 (z 6), aI y vc3 20 (z 7), aI y vc4 20 (z 8), aI y vc5 20 o] s.heap.size = A at hD ⊢
  have hA : ∀ q : Nat, s.heap.size ≤ q → A q := fun q h => by rw [← hAe]; exact Or.inr h
  have hS : va_S A s.heap s.heap [] := va_S.rf
  have hP : va_P G vwCl [kX7 h ua ub uc ud ue (z 0), kX3 ua va (z 1), kX1 ub (z 3), kX8 uc vc1 vc2 vc3 vc4 vc5 (z 4), aI y vc1 20 (z 5), aI y vc2 20 (z 6), aI y vc3 20 (z 7), aI y vc4 20 (z 8), aI y vc5 20 o] s.heap := hP
  have hl := lv_entry ([.ref h, .int a1, .int a2]) (n := 6) (Nat.le_of_ble_eq_true rfl)
  rw [lg_entry_eq]
  generalize (lg_sl ([.ref h, .int a1, .int a2]) ++ List.replicate (6 - (lg_sl ([.ref h, .int a1, .int a2])).length) Slot.unset).toArray = ls at hl ⊢
  have hl : lv_has ls 6 [(0, .ref h), (1, .int a1), (2, .int a2)] := hl
  refine lv_aload_n hx hb dX7_proposed_0 rfl (lv_at hl 0 rfl) ?_
  refine va_get (D := G) (ci := 5) (v := .ref uc) (C := RX7) (T := TX7) (N := 6) hx hb hts i_X7 hown hK hP 0 rfl rfl 3 (by decide) (hts (.fieldLink RX7 28 "RelayTuner$State" "swings" "LRelayTuner$Swings;") (by decide +kernel)) (fun _ h9 => h9) rfl dX7_proposed_1 ?_
  refine lv_iconst (v := 1) hx hb dX7_proposed_4 (by decide) ?_
  refine lv_aload_n hx hb dX7_proposed_5 rfl (lv_at hl 0 rfl) ?_
  refine va_get (D := G) (ci := 5) (v := .ref ub) (C := RX7) (T := TX7) (N := 6) hx hb hts i_X7 hown hK hP 0 rfl rfl 2 (by decide) (hts (.fieldLink RX7 21 "RelayTuner$State" "control" "LRelayTuner$Control;") (by decide +kernel)) (fun _ h9 => h9) rfl dX7_proposed_6 ?_
  refine va_getN (D := G) (ci := 1) (v := .int ((z 3) 2)) (C := RX1) (T := TX1) (N := 11) hx hb hts i_X1 hown hK hP 2 rfl rfl 2 (by decide) (NN.f hN (a := RX7) (i := 168) (b := "RelayTuner$Control") (n := "tolerance") (d := "I") (by decide +kernel)) (fun _ h9 => h9) rfl dX7_proposed_9 ?_
  refine cl_Hi (wr := [kX7 h ua ub uc ud ue (z 0), kX3 ua va (z 1), kX1 ub (z 3)]) (fun u : (Nat → Int32) => [kX7 h ua ub uc ud ue (z 0), kX3 ua va (z 1), kX1 ub (z 3), kX8 uc vc1 vc2 vc3 vc4 vc5 (z 4), aI y vc1 20 (z 5), aI y vc2 20 (z 6), aI y vc3 20 (z 7), aI y vc4 20 (z 8), aI y vc5 20 u]) [3, 4, 5, 6, 7, 8] [0, 1, 2] [0, 1, 2, 3, 4, 5, 6, 7, 8] (va_runV (As := [.int 1, .int ((z 3) 2)]) (rest := []) ⟨hx, hb, hml, hown, hts⟩ (c_X8_average l G y uc 1 ((z 3) 2) vc1 vc2 vc3 vc4 vc5 (z 4) (z 5) (z 6) (z 7) (z 8) o s.heap.size (by assumption)) (cwV 2 hts gX7_proposed_X8_average rfl rfl rfl (by decide +kernel) ⟨Nat.le_of_ble_eq_true rfl, Nat.le_of_ble_eq_true rfl⟩) (PH_V (hP.sub (ws' := [kX8 uc vc1 vc2 vc3 vc4 vc5 (z 4), aI y vc1 20 (z 5), aI y vc2 20 (z 6), aI y vc3 20 (z 7), aI y vc4 20 (z 8), aI y vc5 20 o]) [3, 4, 5, 6, 7, 8] rfl) hK hN (hD.sub (ws' := [kX8 uc vc1 vc2 vc3 vc4 vc5 (z 4), aI y vc1 20 (z 5), aI y vc2 20 (z 6), aI y vc3 20 (z 7), aI y vc4 20 (z 8), aI y vc5 20 o]) [3, 4, 5, 6, 7, 8] (by decide) rfl) (ci := 6) (q0 := 0) rfl rfl) rfl rfl hl.1 rfl (lv_room (Nat.le_of_ble_eq_true rfl)) dX7_proposed_12 ⟨Nat.le_of_ble_eq_true rfl, Nat.le_of_ble_eq_true rfl⟩) hP hD hS hA rfl rfl rfl (by decide) rfl (fun _ => rfl) (fun u H locs hP hD hS => ?_)
  obtain ⟨o_1, rfl⟩ : ∃ zq9, zq9 = u := ⟨_, rfl⟩
  have hP : va_P G vwCl [kX7 h ua ub uc ud ue (z 0), kX3 ua va (z 1), kX1 ub (z 3), kX8 uc vc1 vc2 vc3 vc4 vc5 (z 4), aI y vc1 20 (z 5), aI y vc2 20 (z 6), aI y vc3 20 (z 7), aI y vc4 20 (z 8), aI y vc5 20 o_1] H := hP
  have hD : va_D A [kX7 h ua ub uc ud ue (z 0), kX3 ua va (z 1), kX1 ub (z 3), kX8 uc vc1 vc2 vc3 vc4 vc5 (z 4), aI y vc1 20 (z 5), aI y vc2 20 (z 6), aI y vc3 20 (z 7), aI y vc4 20 (z 8), aI y vc5 20 o_1] := hD
  refine lv_istore_n (lv' := [(3, .int (if (goodG (z 5) (sC (z 6) (z 7)) (tn ((z 4) 0)) ((z 3) 2) (tn ((z 4) 0))) = 0 then -99999 else meanG (z 5) (sC (z 6) (z 7)) (tn ((z 4) 0)) ((z 3) 2) (vC 1 (z 5) (z 6) (z 7)))), (0, .ref h), (1, .int a1), (2, .int a2)]) hx hb dX7_proposed_15 rfl hl (by decide) rfl (fun ls hl => ?_)
  refine lv_aload_n hx hb dX7_proposed_16 rfl (lv_at hl 1 rfl) ?_
  refine va_get (D := G) (ci := 5) (v := .ref uc) (C := RX7) (T := TX7) (N := 6) hx hb hts i_X7 hown hK hP 0 rfl rfl 3 (by decide) (hts (.fieldLink RX7 28 "RelayTuner$State" "swings" "LRelayTuner$Swings;") (by decide +kernel)) (fun _ h9 => h9) rfl dX7_proposed_17 ?_
  refine lv_iconst (v := 0) hx hb dX7_proposed_20 (by decide) ?_
  refine lv_aload_n hx hb dX7_proposed_21 rfl (lv_at hl 1 rfl) ?_
  refine va_get (D := G) (ci := 5) (v := .ref ub) (C := RX7) (T := TX7) (N := 6) hx hb hts i_X7 hown hK hP 0 rfl rfl 2 (by decide) (hts (.fieldLink RX7 21 "RelayTuner$State" "control" "LRelayTuner$Control;") (by decide +kernel)) (fun _ h9 => h9) rfl dX7_proposed_22 ?_
  refine va_getN (D := G) (ci := 1) (v := .int ((z 3) 2)) (C := RX1) (T := TX1) (N := 11) hx hb hts i_X1 hown hK hP 2 rfl rfl 2 (by decide) (NN.f hN (a := RX7) (i := 168) (b := "RelayTuner$Control") (n := "tolerance") (d := "I") (by decide +kernel)) (fun _ h9 => h9) rfl dX7_proposed_25 ?_
  refine cl_Hi (wr := [kX7 h ua ub uc ud ue (z 0), kX3 ua va (z 1), kX1 ub (z 3)]) (fun u : (Nat → Int32) => [kX7 h ua ub uc ud ue (z 0), kX3 ua va (z 1), kX1 ub (z 3), kX8 uc vc1 vc2 vc3 vc4 vc5 (z 4), aI y vc1 20 (z 5), aI y vc2 20 (z 6), aI y vc3 20 (z 7), aI y vc4 20 (z 8), aI y vc5 20 u]) [3, 4, 5, 6, 7, 8] [0, 1, 2] [0, 1, 2, 3, 4, 5, 6, 7, 8] (va_runV (As := [.int 0, .int ((z 3) 2)]) (rest := []) ⟨hx, hb, hml, hown, hts⟩ (c_X8_average l G y uc 0 ((z 3) 2) vc1 vc2 vc3 vc4 vc5 (z 4) (z 5) (z 6) (z 7) (z 8) o_1 H.size (by assumption)) (cwV 2 hts gX7_proposed_X8_average rfl rfl rfl (by decide +kernel) ⟨Nat.le_of_ble_eq_true rfl, Nat.le_of_ble_eq_true rfl⟩) (PH_V (hP.sub (ws' := [kX8 uc vc1 vc2 vc3 vc4 vc5 (z 4), aI y vc1 20 (z 5), aI y vc2 20 (z 6), aI y vc3 20 (z 7), aI y vc4 20 (z 8), aI y vc5 20 o_1]) [3, 4, 5, 6, 7, 8] rfl) hK hN (hD.sub (ws' := [kX8 uc vc1 vc2 vc3 vc4 vc5 (z 4), aI y vc1 20 (z 5), aI y vc2 20 (z 6), aI y vc3 20 (z 7), aI y vc4 20 (z 8), aI y vc5 20 o_1]) [3, 4, 5, 6, 7, 8] (by decide) rfl) (ci := 6) (q0 := 0) rfl rfl) rfl rfl hl.1 rfl (lv_room (Nat.le_of_ble_eq_true rfl)) dX7_proposed_28 ⟨Nat.le_of_ble_eq_true rfl, Nat.le_of_ble_eq_true rfl⟩) hP hD hS hA rfl rfl rfl (by decide) rfl (fun _ => rfl) (fun u H locs hP hD hS => ?_)
  obtain ⟨o_2, rfl⟩ : ∃ zq9, zq9 = u := ⟨_, rfl⟩
  have hP : va_P G vwCl [kX7 h ua ub uc ud ue (z 0), kX3 ua va (z 1), kX1 ub (z 3), kX8 uc vc1 vc2 vc3 vc4 vc5 (z 4), aI y vc1 20 (z 5), aI y vc2 20 (z 6), aI y vc3 20 (z 7), aI y vc4 20 (z 8), aI y vc5 20 o_2] H := hP
  have hD : va_D A [kX7 h ua ub uc ud ue (z 0), kX3 ua va (z 1), kX1 ub (z 3), kX8 uc vc1 vc2 vc3 vc4 vc5 (z 4), aI y vc1 20 (z 5), aI y vc2 20 (z 6), aI y vc3 20 (z 7), aI y vc4 20 (z 8), aI y vc5 20 o_2] := hD
  refine lv_istore (lv' := [(4, .int (if (goodG (z 5) (sC (z 6) (z 7)) (tn ((z 4) 0)) ((z 3) 2) (tn ((z 4) 0))) = 0 then -99999 else meanG (z 5) (sC (z 6) (z 7)) (tn ((z 4) 0)) ((z 3) 2) (vC 0 (z 5) (z 6) (z 7)))), (3, .int (if (goodG (z 5) (sC (z 6) (z 7)) (tn ((z 4) 0)) ((z 3) 2) (tn ((z 4) 0))) = 0 then -99999 else meanG (z 5) (sC (z 6) (z 7)) (tn ((z 4) 0)) ((z 3) 2) (vC 1 (z 5) (z 6) (z 7)))), (0, .ref h), (1, .int a1), (2, .int a2)]) hx hb dX7_proposed_31 hl (by decide) rfl (fun ls hl => ?_)
  refine lv_iload_n hx hb dX7_proposed_33 rfl (lv_at hl 1 rfl) ?_
  refine lv_iconst (v := 1) hx hb dX7_proposed_34 (by decide) ?_
  refine lv_icmp_lt (tgt := 44) hx hb dX7_proposed_35 (by decide) (fun c_3 => ?_) (fun c_3 => ?_)
  · refine lv_ldc (v := (-99999)) hx hb hown (hts (.constant RX7 209 (-99999)) (by decide +kernel)) dX7_proposed_44 ?_
    exact W.iret hx hb hr (end_Hi o_2 hP hD hS (by unfold s_X7_proposed_r; exact (if_pos c_3).symm) rfl) hS.2.2 dX7_proposed_46
  · refine lv_iload hx hb dX7_proposed_38 (lv_at hl 0 rfl) ?_
    refine lv_iconst (v := 1) hx hb dX7_proposed_40 (by decide) ?_
    refine lv_icmp_ge (tgt := 47) hx hb dX7_proposed_41 (by decide) (fun c_4 => ?_) (fun c_4 => ?_)
    · refine lv_iload_n hx hb dX7_proposed_47 rfl (lv_at hl 3 rfl) ?_
      refine lv_bipush (v := 127) hx hb dX7_proposed_48 (by decide) ?_
      refine lv_aload_n hx hb dX7_proposed_50 rfl (lv_at hl 2 rfl) ?_
      refine va_get (D := G) (ci := 5) (v := .ref ua) (C := RX7) (T := TX7) (N := 6) hx hb hts i_X7 hown hK hP 0 rfl rfl 1 (by decide) (hts (.fieldLink RX7 12 "RelayTuner$State" "plant" "LRelayTuner$Plant;") (by decide +kernel)) (fun _ h9 => h9) rfl dX7_proposed_51 ?_
      refine va_getN (D := G) (ci := 3) (v := .int ((z 1) 4)) (C := RX3) (T := TX3) (N := 8) hx hb hts i_X3 hown hK hP 1 rfl rfl 4 (by decide) (NN.f hN (a := RX7) (i := 78) (b := "RelayTuner$Plant") (n := "fullPower") (d := "I") (by decide +kernel)) (fun _ h9 => h9) rfl dX7_proposed_54 ?_
      refine lv_imul hx hb dX7_proposed_57 ?_
      refine lv_iload_n hx hb dX7_proposed_58 rfl (lv_at hl 1 rfl) ?_
      refine lv_idiv hx hb dX7_proposed_59 (ne0_of_pos (Int32.not_lt.mp c_3)) ?_
      refine cl_Ri (va_runS (As := [.int a1, .int ((127 * ((z 1) 4)) / (if (goodG (z 5) (sC (z 6) (z 7)) (tn ((z 4) 0)) ((z 3) 2) (tn ((z 4) 0))) = 0 then -99999 else meanG (z 5) (sC (z 6) (z 7)) (tn ((z 4) 0)) ((z 3) 2) (vC 1 (z 5) (z 6) (z 7))))]) (rest := []) ⟨hx, hb, hml, hown, hts⟩ (c_X4_proportional l G y a1 ((127 * ((z 1) 4)) / (if (goodG (z 5) (sC (z 6) (z 7)) (tn ((z 4) 0)) ((z 3) 2) (tn ((z 4) 0))) = 0 then -99999 else meanG (z 5) (sC (z 6) (z 7)) (tn ((z 4) 0)) ((z 3) 2) (vC 1 (z 5) (z 6) (z 7))))) (va_cwS 2 hts gX7_proposed_X4_proportional rfl rfl rfl (by decide +kernel) ⟨Nat.le_of_ble_eq_true rfl, Nat.le_of_ble_eq_true rfl⟩) (PR_S pnil hK hN) rfl rfl hl.1 rfl (lv_room (Nat.le_of_ble_eq_true rfl)) dX7_proposed_60 ⟨Nat.le_of_ble_eq_true rfl, Nat.le_of_ble_eq_true rfl⟩) ?_
      refine lv_istore (lv' := [(5, .int (s_X4_proportional_r a1 ((127 * ((z 1) 4)) / (if (goodG (z 5) (sC (z 6) (z 7)) (tn ((z 4) 0)) ((z 3) 2) (tn ((z 4) 0))) = 0 then -99999 else meanG (z 5) (sC (z 6) (z 7)) (tn ((z 4) 0)) ((z 3) 2) (vC 1 (z 5) (z 6) (z 7)))))), (4, .int (if (goodG (z 5) (sC (z 6) (z 7)) (tn ((z 4) 0)) ((z 3) 2) (tn ((z 4) 0))) = 0 then -99999 else meanG (z 5) (sC (z 6) (z 7)) (tn ((z 4) 0)) ((z 3) 2) (vC 0 (z 5) (z 6) (z 7)))), (3, .int (if (goodG (z 5) (sC (z 6) (z 7)) (tn ((z 4) 0)) ((z 3) 2) (tn ((z 4) 0))) = 0 then -99999 else meanG (z 5) (sC (z 6) (z 7)) (tn ((z 4) 0)) ((z 3) 2) (vC 1 (z 5) (z 6) (z 7)))), (0, .ref h), (1, .int a1), (2, .int a2)]) hx hb dX7_proposed_63 hl (by decide) rfl (fun ls hl => ?_)
      refine lv_iload_n hx hb dX7_proposed_65 rfl (lv_at hl 5 rfl) ?_
      rcases Decidable.em (a2 = 0) with c_5 | c_5
      · refine lv_lookup (tgt := 92) hx hb dX7_proposed_66 (by decide) (by rw [c_5]; first | done | rfl) (by decide) ?_
        refine lv_iload hx hb dX7_proposed_92 (lv_at hl 0 rfl) ?_
        exact W.iret hx hb hr (end_Hi o_2 hP hD hS (by unfold s_X7_proposed_r; exact ((if_neg c_3).trans ((if_pos c_4).trans (if_pos c_5))).symm) rfl) hS.2.2 dX7_proposed_94
      rcases Decidable.em (a2 = 1) with c_6 | c_6
      · refine lv_lookup (tgt := 95) hx hb dX7_proposed_66 (by decide) (by rw [c_6]; first | done | rfl) (by decide) ?_
        refine lv_iload_n hx hb dX7_proposed_95 rfl (lv_at hl 4 rfl) ?_
        refine lv_iload hx hb dX7_proposed_96 (lv_at hl 0 rfl) ?_
        refine lv_iload hx hb dX7_proposed_98 (lv_at hl 1 rfl) ?_
        refine cl_Ri (va_runS (As := [.int a1, .int (s_X4_proportional_r a1 ((127 * ((z 1) 4)) / (if (goodG (z 5) (sC (z 6) (z 7)) (tn ((z 4) 0)) ((z 3) 2) (tn ((z 4) 0))) = 0 then -99999 else meanG (z 5) (sC (z 6) (z 7)) (tn ((z 4) 0)) ((z 3) 2) (vC 1 (z 5) (z 6) (z 7))))), .int (if (goodG (z 5) (sC (z 6) (z 7)) (tn ((z 4) 0)) ((z 3) 2) (tn ((z 4) 0))) = 0 then -99999 else meanG (z 5) (sC (z 6) (z 7)) (tn ((z 4) 0)) ((z 3) 2) (vC 0 (z 5) (z 6) (z 7)))]) (rest := []) ⟨hx, hb, hml, hown, hts⟩ (c_X4_integral l G y a1 (s_X4_proportional_r a1 ((127 * ((z 1) 4)) / (if (goodG (z 5) (sC (z 6) (z 7)) (tn ((z 4) 0)) ((z 3) 2) (tn ((z 4) 0))) = 0 then -99999 else meanG (z 5) (sC (z 6) (z 7)) (tn ((z 4) 0)) ((z 3) 2) (vC 1 (z 5) (z 6) (z 7))))) (if (goodG (z 5) (sC (z 6) (z 7)) (tn ((z 4) 0)) ((z 3) 2) (tn ((z 4) 0))) = 0 then -99999 else meanG (z 5) (sC (z 6) (z 7)) (tn ((z 4) 0)) ((z 3) 2) (vC 0 (z 5) (z 6) (z 7)))) (va_cwS 3 hts gX7_proposed_X4_integral rfl rfl rfl (by decide +kernel) ⟨Nat.le_of_ble_eq_true rfl, Nat.le_of_ble_eq_true rfl⟩) (PR_S pnil hK hN) rfl rfl hl.1 rfl (lv_room (Nat.le_of_ble_eq_true rfl)) dX7_proposed_100 ⟨Nat.le_of_ble_eq_true rfl, Nat.le_of_ble_eq_true rfl⟩) ?_
        exact W.iret hx hb hr (end_Hi o_2 hP hD hS (by unfold s_X7_proposed_r; exact ((if_neg c_3).trans ((if_pos c_4).trans ((if_neg c_5).trans (if_pos c_6)))).symm) rfl) hS.2.2 dX7_proposed_103
      refine lv_lookup (tgt := 104) hx hb dX7_proposed_66 (by decide) (by have e0 : a2.toInt ≠ 0 := fun h => c_5 (Int32.toInt_inj.mp h); have e1 : a2.toInt ≠ 1 := fun h => c_6 (Int32.toInt_inj.mp h); exact ((if_neg (Ne.symm e0)).trans ((if_neg (Ne.symm e1)).trans (Op.lookupswitch.offset_nil _ _)))) (by decide) ?_
      refine lv_iload_n hx hb dX7_proposed_104 rfl (lv_at hl 4 rfl) ?_
      refine lv_iload hx hb dX7_proposed_105 (lv_at hl 0 rfl) ?_
      refine lv_iload hx hb dX7_proposed_107 (lv_at hl 1 rfl) ?_
      refine cl_Ri (va_runS (As := [.int a1, .int (s_X4_proportional_r a1 ((127 * ((z 1) 4)) / (if (goodG (z 5) (sC (z 6) (z 7)) (tn ((z 4) 0)) ((z 3) 2) (tn ((z 4) 0))) = 0 then -99999 else meanG (z 5) (sC (z 6) (z 7)) (tn ((z 4) 0)) ((z 3) 2) (vC 1 (z 5) (z 6) (z 7))))), .int (if (goodG (z 5) (sC (z 6) (z 7)) (tn ((z 4) 0)) ((z 3) 2) (tn ((z 4) 0))) = 0 then -99999 else meanG (z 5) (sC (z 6) (z 7)) (tn ((z 4) 0)) ((z 3) 2) (vC 0 (z 5) (z 6) (z 7)))]) (rest := []) ⟨hx, hb, hml, hown, hts⟩ (c_X4_derivative l G y a1 (s_X4_proportional_r a1 ((127 * ((z 1) 4)) / (if (goodG (z 5) (sC (z 6) (z 7)) (tn ((z 4) 0)) ((z 3) 2) (tn ((z 4) 0))) = 0 then -99999 else meanG (z 5) (sC (z 6) (z 7)) (tn ((z 4) 0)) ((z 3) 2) (vC 1 (z 5) (z 6) (z 7))))) (if (goodG (z 5) (sC (z 6) (z 7)) (tn ((z 4) 0)) ((z 3) 2) (tn ((z 4) 0))) = 0 then -99999 else meanG (z 5) (sC (z 6) (z 7)) (tn ((z 4) 0)) ((z 3) 2) (vC 0 (z 5) (z 6) (z 7)))) (va_cwS 3 hts gX7_proposed_X4_derivative rfl rfl rfl (by decide +kernel) ⟨Nat.le_of_ble_eq_true rfl, Nat.le_of_ble_eq_true rfl⟩) (PR_S pnil hK hN) rfl rfl hl.1 rfl (lv_room (Nat.le_of_ble_eq_true rfl)) dX7_proposed_109 ⟨Nat.le_of_ble_eq_true rfl, Nat.le_of_ble_eq_true rfl⟩) ?_
      exact W.iret hx hb hr (end_Hi o_2 hP hD hS (by unfold s_X7_proposed_r; exact ((if_neg c_3).trans ((if_pos c_4).trans ((if_neg c_5).trans (if_neg c_6)))).symm) rfl) hS.2.2 dX7_proposed_112
    · refine lv_ldc (v := (-99999)) hx hb hown (hts (.constant RX7 209 (-99999)) (by decide +kernel)) dX7_proposed_44 ?_
      exact W.iret hx hb hr (end_Hi o_2 hP hD hS (by unfold s_X7_proposed_r; exact ((if_neg c_3).trans (if_neg c_4)).symm) rfl) hS.2.2 dX7_proposed_46

def s_X7_follow_z (a1 : Int32) (z : Nat → Nat → Int32) : Nat → Nat → Int32 := fun i => match i with
  | 0 => (s_X7_changeMode_z 2 (zU z 3 (upd (upd (upd (z 3) 3 (s_X7_proposed_r a1 0 z)) 4 (s_X7_proposed_r a1 1 z)) 5 (s_X7_proposed_r a1 2 z))) 0)
  | 1 => (s_X7_changeMode_z 2 (zU z 3 (upd (upd (upd (z 3) 3 (s_X7_proposed_r a1 0 z)) 4 (s_X7_proposed_r a1 1 z)) 5 (s_X7_proposed_r a1 2 z))) 1)
  | 3 => (s_X7_changeMode_z 2 (zU z 3 (upd (upd (upd (z 3) 3 (s_X7_proposed_r a1 0 z)) 4 (s_X7_proposed_r a1 1 z)) 5 (s_X7_proposed_r a1 2 z))) 3)
  | 4 => (s_X7_changeMode_z 2 (zU z 3 (upd (upd (upd (z 3) 3 (s_X7_proposed_r a1 0 z)) 4 (s_X7_proposed_r a1 1 z)) 5 (s_X7_proposed_r a1 2 z))) 4)
  | 5 => (s_X7_changeMode_z 2 (zU z 3 (upd (upd (upd (z 3) 3 (s_X7_proposed_r a1 0 z)) 4 (s_X7_proposed_r a1 1 z)) 5 (s_X7_proposed_r a1 2 z))) 5)
  | 6 => (s_X7_changeMode_z 2 (zU z 3 (upd (upd (upd (z 3) 3 (s_X7_proposed_r a1 0 z)) 4 (s_X7_proposed_r a1 1 z)) 5 (s_X7_proposed_r a1 2 z))) 6)
  | 7 => (s_X7_changeMode_z 2 (zU z 3 (upd (upd (upd (z 3) 3 (s_X7_proposed_r a1 0 z)) 4 (s_X7_proposed_r a1 1 z)) 5 (s_X7_proposed_r a1 2 z))) 7)
  | 8 => (s_X7_changeMode_z 2 (zU z 3 (upd (upd (upd (z 3) 3 (s_X7_proposed_r a1 0 z)) 4 (s_X7_proposed_r a1 1 z)) 5 (s_X7_proposed_r a1 2 z))) 8)
  | _ => z i
abbrev rmX7_follow : Room := ({ frames := 4, cells := 0, slots := 0, locals := 98 } : Room)
set_option maxHeartbeats 4000000 in
set_option maxRecDepth 100000 in
theorem c_X7_follow (l : Launch) (G : va_G) (y : Nat → ClassId) (h : Nat) (a1 : Int32) (ua : Nat) (ub : Nat) (uc : Nat) (ud : Nat) (ue : Nat) (z : Nat → Nat → Int32) (va : Nat) (vc1 : Nat) (vc2 : Nat) (vc3 : Nat) (vc4 : Nat) (vc5 : Nat) (o : Nat → Int32) (sz : Nat) (hw : vp_in (z 4 0) 21) : Met l yX7_follow wsX7_follow rmX7_follow (PH G y [.ref h, .int a1] [kX7 h ua ub uc ud ue (z 0), kX3 ua va (z 1), kX1 ub (z 3), kX8 uc vc1 vc2 vc3 vc4 vc5 (z 4), aI y vc1 20 (z 5), aI y vc2 20 (z 6), aI y vc3 20 (z 7), aI y vc4 20 (z 8), aI y vc5 20 o] sz) (QHv G (fun u : (Nat → Int32) => [kX7 h ua ub uc ud ue (s_X7_follow_z a1 z 0), kX3 ua va (s_X7_follow_z a1 z 1), kX1 ub (s_X7_follow_z a1 z 3), kX8 uc vc1 vc2 vc3 vc4 vc5 (s_X7_follow_z a1 z 4), aI y vc1 20 (s_X7_follow_z a1 z 5), aI y vc2 20 (s_X7_follow_z a1 z 6), aI y vc3 20 (s_X7_follow_z a1 z 7), aI y vc4 20 (s_X7_follow_z a1 z 8), aI y vc5 20 u]) (va_A [kX7 h ua ub uc ud ue (z 0), kX3 ua va (z 1), kX1 ub (z 3), kX8 uc vc1 vc2 vc3 vc4 vc5 (z 4), aI y vc1 20 (z 5), aI y vc2 20 (z 6), aI y vc3 20 (z 7), aI y vc4 20 (z 8), aI y vc5 20 o] sz)) 0 0 (va_A [kX7 h ua ub uc ud ue (z 0), kX3 ua va (z 1), kX1 ub (z 3), kX8 uc vc1 vc2 vc3 vc4 vc5 (z 4), aI y vc1 20 (z 5), aI y vc2 20 (z 6), aI y vc3 20 (z 7), aI y vc4 20 (z 8), aI y vc5 20 o] sz) := by
  refine Met.ofW (cc := cX7_follow) (maxL := 5) (ret := none) (by decide) rfl ?_
  intro p e s m args below meth c s₁ B hml hv
  obtain ⟨rfl, hsz, hP, ⟨hK, hN⟩, hD0⟩ := hv
  have hx := B.exec
  have hb := B.bytes
  have hr := B.returns
  have hts := atoms_spec (ws := wsX7_follow) B.pre
  have hown : s.vm.findClass RX7 = some m.cls := findClass_of_methodNamed B.named
  have hlocks := B.notSynchronized
  have i_X1 : ∀ w ∈ u_ws RX1 TX1 11, w ∈ wsX7_follow := by decide +kernel
  have i_X7 : ∀ w ∈ u_ws RX7 TX7 6, w ∈ wsX7_follow := by decide +kernel
  subst hsz
  have hD := hD0.self (sz := s.heap.size)
  generalize hAe : va_A [kX7 h ua ub uc ud ue (z 0), kX3 ua va (z 1), kX1 ub (z 3), kX8 uc vc1 vc2 vc3 vc4 vc5 (z 4), aI y vc1 20 (z 5), aI y vc2 20 (z 6), aI y vc3 20 (z 7), aI y vc4 20 (z 8), aI y vc5 20 o] s.heap.size = A at hD ⊢
  have hA : ∀ q : Nat, s.heap.size ≤ q → A q := fun q h => by rw [← hAe]; exact Or.inr h
  have hS : va_S A s.heap s.heap [] := va_S.rf
  have hP : va_P G vwCl [kX7 h ua ub uc ud ue (z 0), kX3 ua va (z 1), kX1 ub (z 3), kX8 uc vc1 vc2 vc3 vc4 vc5 (z 4), aI y vc1 20 (z 5), aI y vc2 20 (z 6), aI y vc3 20 (z 7), aI y vc4 20 (z 8), aI y vc5 20 o] s.heap := hP
  have hl := lv_entry ([.ref h, .int a1]) (n := 5) (Nat.le_of_ble_eq_true rfl)
  rw [lg_entry_eq]
  generalize (lg_sl ([.ref h, .int a1]) ++ List.replicate (5 - (lg_sl ([.ref h, .int a1])).length) Slot.unset).toArray = ls at hl ⊢
  have hl : lv_has ls 5 [(0, .ref h), (1, .int a1)] := hl
  refine lv_aload_n hx hb dX7_follow_0 rfl (lv_at hl 0 rfl) ?_
  refine lv_iload_n hx hb dX7_follow_1 rfl (lv_at hl 1 rfl) ?_
  refine lv_iconst (v := 0) hx hb dX7_follow_2 (by decide) ?_
  refine cl_Hi (wr := []) (fun u : (Nat → Int32) => [kX7 h ua ub uc ud ue (z 0), kX3 ua va (z 1), kX1 ub (z 3), kX8 uc vc1 vc2 vc3 vc4 vc5 (z 4), aI y vc1 20 (z 5), aI y vc2 20 (z 6), aI y vc3 20 (z 7), aI y vc4 20 (z 8), aI y vc5 20 u]) [0, 1, 2, 3, 4, 5, 6, 7, 8] [] [0, 1, 2, 3, 4, 5, 6, 7, 8] (va_runV (As := [.int a1, .int 0]) (rest := []) ⟨hx, hb, hml, hown, hts⟩ (c_X7_proposed l G y h a1 0 ua ub uc ud ue z va vc1 vc2 vc3 vc4 vc5 o s.heap.size hw) (cwV 2 hts gX7_follow_X7_proposed rfl rfl rfl (by decide +kernel) ⟨Nat.le_of_ble_eq_true rfl, Nat.le_of_ble_eq_true rfl⟩) (PH_V (hP.sub (ws' := [kX7 h ua ub uc ud ue (z 0), kX3 ua va (z 1), kX1 ub (z 3), kX8 uc vc1 vc2 vc3 vc4 vc5 (z 4), aI y vc1 20 (z 5), aI y vc2 20 (z 6), aI y vc3 20 (z 7), aI y vc4 20 (z 8), aI y vc5 20 o]) [0, 1, 2, 3, 4, 5, 6, 7, 8] rfl) hK hN (hD.sub (ws' := [kX7 h ua ub uc ud ue (z 0), kX3 ua va (z 1), kX1 ub (z 3), kX8 uc vc1 vc2 vc3 vc4 vc5 (z 4), aI y vc1 20 (z 5), aI y vc2 20 (z 6), aI y vc3 20 (z 7), aI y vc4 20 (z 8), aI y vc5 20 o]) [0, 1, 2, 3, 4, 5, 6, 7, 8] (by decide) rfl) (ci := 5) (q0 := 0) rfl rfl) rfl rfl hl.1 rfl (lv_room (Nat.le_of_ble_eq_true rfl)) dX7_follow_3 ⟨Nat.le_of_ble_eq_true rfl, Nat.le_of_ble_eq_true rfl⟩) hP hD hS hA rfl rfl rfl (by decide) rfl (fun _ => rfl) (fun u H locs hP hD hS => ?_)
  obtain ⟨o_1, rfl⟩ : ∃ zq9, zq9 = u := ⟨_, rfl⟩
  have hP : va_P G vwCl [kX7 h ua ub uc ud ue (z 0), kX3 ua va (z 1), kX1 ub (z 3), kX8 uc vc1 vc2 vc3 vc4 vc5 (z 4), aI y vc1 20 (z 5), aI y vc2 20 (z 6), aI y vc3 20 (z 7), aI y vc4 20 (z 8), aI y vc5 20 o_1] H := hP
  have hD : va_D A [kX7 h ua ub uc ud ue (z 0), kX3 ua va (z 1), kX1 ub (z 3), kX8 uc vc1 vc2 vc3 vc4 vc5 (z 4), aI y vc1 20 (z 5), aI y vc2 20 (z 6), aI y vc3 20 (z 7), aI y vc4 20 (z 8), aI y vc5 20 o_1] := hD
  refine lv_istore_n (lv' := [(2, .int (s_X7_proposed_r a1 0 z)), (0, .ref h), (1, .int a1)]) hx hb dX7_follow_6 rfl hl (by decide) rfl (fun ls hl => ?_)
  refine lv_aload_n hx hb dX7_follow_7 rfl (lv_at hl 1 rfl) ?_
  refine lv_iload_n hx hb dX7_follow_8 rfl (lv_at hl 2 rfl) ?_
  refine lv_iconst (v := 1) hx hb dX7_follow_9 (by decide) ?_
  refine cl_Hi (wr := []) (fun u : (Nat → Int32) => [kX7 h ua ub uc ud ue (z 0), kX3 ua va (z 1), kX1 ub (z 3), kX8 uc vc1 vc2 vc3 vc4 vc5 (z 4), aI y vc1 20 (z 5), aI y vc2 20 (z 6), aI y vc3 20 (z 7), aI y vc4 20 (z 8), aI y vc5 20 u]) [0, 1, 2, 3, 4, 5, 6, 7, 8] [] [0, 1, 2, 3, 4, 5, 6, 7, 8] (va_runV (As := [.int a1, .int 1]) (rest := []) ⟨hx, hb, hml, hown, hts⟩ (c_X7_proposed l G y h a1 1 ua ub uc ud ue z va vc1 vc2 vc3 vc4 vc5 o_1 H.size hw) (cwV 2 hts gX7_follow_X7_proposed rfl rfl rfl (by decide +kernel) ⟨Nat.le_of_ble_eq_true rfl, Nat.le_of_ble_eq_true rfl⟩) (PH_V (hP.sub (ws' := [kX7 h ua ub uc ud ue (z 0), kX3 ua va (z 1), kX1 ub (z 3), kX8 uc vc1 vc2 vc3 vc4 vc5 (z 4), aI y vc1 20 (z 5), aI y vc2 20 (z 6), aI y vc3 20 (z 7), aI y vc4 20 (z 8), aI y vc5 20 o_1]) [0, 1, 2, 3, 4, 5, 6, 7, 8] rfl) hK hN (hD.sub (ws' := [kX7 h ua ub uc ud ue (z 0), kX3 ua va (z 1), kX1 ub (z 3), kX8 uc vc1 vc2 vc3 vc4 vc5 (z 4), aI y vc1 20 (z 5), aI y vc2 20 (z 6), aI y vc3 20 (z 7), aI y vc4 20 (z 8), aI y vc5 20 o_1]) [0, 1, 2, 3, 4, 5, 6, 7, 8] (by decide) rfl) (ci := 5) (q0 := 0) rfl rfl) rfl rfl hl.1 rfl (lv_room (Nat.le_of_ble_eq_true rfl)) dX7_follow_10 ⟨Nat.le_of_ble_eq_true rfl, Nat.le_of_ble_eq_true rfl⟩) hP hD hS hA rfl rfl rfl (by decide) rfl (fun _ => rfl) (fun u H locs hP hD hS => ?_)
  obtain ⟨o_2, rfl⟩ : ∃ zq9, zq9 = u := ⟨_, rfl⟩
  have hP : va_P G vwCl [kX7 h ua ub uc ud ue (z 0), kX3 ua va (z 1), kX1 ub (z 3), kX8 uc vc1 vc2 vc3 vc4 vc5 (z 4), aI y vc1 20 (z 5), aI y vc2 20 (z 6), aI y vc3 20 (z 7), aI y vc4 20 (z 8), aI y vc5 20 o_2] H := hP
  have hD : va_D A [kX7 h ua ub uc ud ue (z 0), kX3 ua va (z 1), kX1 ub (z 3), kX8 uc vc1 vc2 vc3 vc4 vc5 (z 4), aI y vc1 20 (z 5), aI y vc2 20 (z 6), aI y vc3 20 (z 7), aI y vc4 20 (z 8), aI y vc5 20 o_2] := hD
  refine lv_istore_n (lv' := [(3, .int (s_X7_proposed_r a1 1 z)), (2, .int (s_X7_proposed_r a1 0 z)), (0, .ref h), (1, .int a1)]) hx hb dX7_follow_13 rfl hl (by decide) rfl (fun ls hl => ?_)
  refine lv_aload_n hx hb dX7_follow_14 rfl (lv_at hl 2 rfl) ?_
  refine lv_iload_n hx hb dX7_follow_15 rfl (lv_at hl 3 rfl) ?_
  refine lv_iconst (v := 2) hx hb dX7_follow_16 (by decide) ?_
  refine cl_Hi (wr := []) (fun u : (Nat → Int32) => [kX7 h ua ub uc ud ue (z 0), kX3 ua va (z 1), kX1 ub (z 3), kX8 uc vc1 vc2 vc3 vc4 vc5 (z 4), aI y vc1 20 (z 5), aI y vc2 20 (z 6), aI y vc3 20 (z 7), aI y vc4 20 (z 8), aI y vc5 20 u]) [0, 1, 2, 3, 4, 5, 6, 7, 8] [] [0, 1, 2, 3, 4, 5, 6, 7, 8] (va_runV (As := [.int a1, .int 2]) (rest := []) ⟨hx, hb, hml, hown, hts⟩ (c_X7_proposed l G y h a1 2 ua ub uc ud ue z va vc1 vc2 vc3 vc4 vc5 o_2 H.size hw) (cwV 2 hts gX7_follow_X7_proposed rfl rfl rfl (by decide +kernel) ⟨Nat.le_of_ble_eq_true rfl, Nat.le_of_ble_eq_true rfl⟩) (PH_V (hP.sub (ws' := [kX7 h ua ub uc ud ue (z 0), kX3 ua va (z 1), kX1 ub (z 3), kX8 uc vc1 vc2 vc3 vc4 vc5 (z 4), aI y vc1 20 (z 5), aI y vc2 20 (z 6), aI y vc3 20 (z 7), aI y vc4 20 (z 8), aI y vc5 20 o_2]) [0, 1, 2, 3, 4, 5, 6, 7, 8] rfl) hK hN (hD.sub (ws' := [kX7 h ua ub uc ud ue (z 0), kX3 ua va (z 1), kX1 ub (z 3), kX8 uc vc1 vc2 vc3 vc4 vc5 (z 4), aI y vc1 20 (z 5), aI y vc2 20 (z 6), aI y vc3 20 (z 7), aI y vc4 20 (z 8), aI y vc5 20 o_2]) [0, 1, 2, 3, 4, 5, 6, 7, 8] (by decide) rfl) (ci := 5) (q0 := 0) rfl rfl) rfl rfl hl.1 rfl (lv_room (Nat.le_of_ble_eq_true rfl)) dX7_follow_17 ⟨Nat.le_of_ble_eq_true rfl, Nat.le_of_ble_eq_true rfl⟩) hP hD hS hA rfl rfl rfl (by decide) rfl (fun _ => rfl) (fun u H locs hP hD hS => ?_)
  obtain ⟨o_3, rfl⟩ : ∃ zq9, zq9 = u := ⟨_, rfl⟩
  have hP : va_P G vwCl [kX7 h ua ub uc ud ue (z 0), kX3 ua va (z 1), kX1 ub (z 3), kX8 uc vc1 vc2 vc3 vc4 vc5 (z 4), aI y vc1 20 (z 5), aI y vc2 20 (z 6), aI y vc3 20 (z 7), aI y vc4 20 (z 8), aI y vc5 20 o_3] H := hP
  have hD : va_D A [kX7 h ua ub uc ud ue (z 0), kX3 ua va (z 1), kX1 ub (z 3), kX8 uc vc1 vc2 vc3 vc4 vc5 (z 4), aI y vc1 20 (z 5), aI y vc2 20 (z 6), aI y vc3 20 (z 7), aI y vc4 20 (z 8), aI y vc5 20 o_3] := hD
  refine lv_istore (lv' := [(4, .int (s_X7_proposed_r a1 2 z)), (3, .int (s_X7_proposed_r a1 1 z)), (2, .int (s_X7_proposed_r a1 0 z)), (0, .ref h), (1, .int a1)]) hx hb dX7_follow_20 hl (by decide) rfl (fun ls hl => ?_)
  refine lv_aload_n hx hb dX7_follow_22 rfl (lv_at hl 3 rfl) ?_
  refine va_get (D := G) (ci := 5) (v := .ref ub) (C := RX7) (T := TX7) (N := 6) hx hb hts i_X7 hown hK hP 0 rfl rfl 2 (by decide) (hts (.fieldLink RX7 21 "RelayTuner$State" "control" "LRelayTuner$Control;") (by decide +kernel)) (fun _ h9 => h9) rfl dX7_follow_23 ?_
  refine lv_iload_n hx hb dX7_follow_26 rfl (lv_at hl 2 rfl) ?_
  refine va_putN (D := G) (ci := 1) (v := .int (s_X7_proposed_r a1 0 z)) (ty := .int) (C := RX1) (T := TX1) (N := 11) hx hb hts i_X1 tyX1 tyX1_ok nmX1 hown hK hP hD hS 2 rfl rfl 3 (by decide) (NN.f hN (a := RX7) (i := 196) (b := "RelayTuner$Control") (n := "p") (d := "I") (by decide +kernel)) (fun _ h9 => h9) rfl (by decide +kernel) rfl rfl (Nat.le_of_ble_eq_true rfl) dX7_follow_27 (fun H locs hP hD hS => ?_)
  have hP : va_P G vwCl [kX7 h ua ub uc ud ue (z 0), kX3 ua va (z 1), kX1 ub (upd (z 3) 3 (s_X7_proposed_r a1 0 z)), kX8 uc vc1 vc2 vc3 vc4 vc5 (z 4), aI y vc1 20 (z 5), aI y vc2 20 (z 6), aI y vc3 20 (z 7), aI y vc4 20 (z 8), aI y vc5 20 o_3] H := hP
  have hD : va_D A [kX7 h ua ub uc ud ue (z 0), kX3 ua va (z 1), kX1 ub (upd (z 3) 3 (s_X7_proposed_r a1 0 z)), kX8 uc vc1 vc2 vc3 vc4 vc5 (z 4), aI y vc1 20 (z 5), aI y vc2 20 (z 6), aI y vc3 20 (z 7), aI y vc4 20 (z 8), aI y vc5 20 o_3] := hD
  refine lv_aload_n hx hb dX7_follow_30 rfl (lv_at hl 3 rfl) ?_
  refine va_get (D := G) (ci := 5) (v := .ref ub) (C := RX7) (T := TX7) (N := 6) hx hb hts i_X7 hown hK hP 0 rfl rfl 2 (by decide) (hts (.fieldLink RX7 21 "RelayTuner$State" "control" "LRelayTuner$Control;") (by decide +kernel)) (fun _ h9 => h9) rfl dX7_follow_31 ?_
  refine lv_iload_n hx hb dX7_follow_34 rfl (lv_at hl 1 rfl) ?_
  refine va_putN (D := G) (ci := 1) (v := .int (s_X7_proposed_r a1 1 z)) (ty := .int) (C := RX1) (T := TX1) (N := 11) hx hb hts i_X1 tyX1 tyX1_ok nmX1 hown hK hP hD hS 2 rfl rfl 4 (by decide) (NN.f hN (a := RX7) (i := 199) (b := "RelayTuner$Control") (n := "i") (d := "I") (by decide +kernel)) (fun _ h9 => h9) rfl (by decide +kernel) rfl rfl (Nat.le_of_ble_eq_true rfl) dX7_follow_35 (fun H locs hP hD hS => ?_)
  have hP : va_P G vwCl [kX7 h ua ub uc ud ue (z 0), kX3 ua va (z 1), kX1 ub (upd (upd (z 3) 3 (s_X7_proposed_r a1 0 z)) 4 (s_X7_proposed_r a1 1 z)), kX8 uc vc1 vc2 vc3 vc4 vc5 (z 4), aI y vc1 20 (z 5), aI y vc2 20 (z 6), aI y vc3 20 (z 7), aI y vc4 20 (z 8), aI y vc5 20 o_3] H := hP
  have hD : va_D A [kX7 h ua ub uc ud ue (z 0), kX3 ua va (z 1), kX1 ub (upd (upd (z 3) 3 (s_X7_proposed_r a1 0 z)) 4 (s_X7_proposed_r a1 1 z)), kX8 uc vc1 vc2 vc3 vc4 vc5 (z 4), aI y vc1 20 (z 5), aI y vc2 20 (z 6), aI y vc3 20 (z 7), aI y vc4 20 (z 8), aI y vc5 20 o_3] := hD
  refine lv_aload_n hx hb dX7_follow_38 rfl (lv_at hl 3 rfl) ?_
  refine va_get (D := G) (ci := 5) (v := .ref ub) (C := RX7) (T := TX7) (N := 6) hx hb hts i_X7 hown hK hP 0 rfl rfl 2 (by decide) (hts (.fieldLink RX7 21 "RelayTuner$State" "control" "LRelayTuner$Control;") (by decide +kernel)) (fun _ h9 => h9) rfl dX7_follow_39 ?_
  refine lv_iload hx hb dX7_follow_42 (lv_at hl 0 rfl) ?_
  refine va_putN (D := G) (ci := 1) (v := .int (s_X7_proposed_r a1 2 z)) (ty := .int) (C := RX1) (T := TX1) (N := 11) hx hb hts i_X1 tyX1 tyX1_ok nmX1 hown hK hP hD hS 2 rfl rfl 5 (by decide) (NN.f hN (a := RX7) (i := 202) (b := "RelayTuner$Control") (n := "d") (d := "I") (by decide +kernel)) (fun _ h9 => h9) rfl (by decide +kernel) rfl rfl (Nat.le_of_ble_eq_true rfl) dX7_follow_44 (fun H locs hP hD hS => ?_)
  have hP : va_P G vwCl [kX7 h ua ub uc ud ue (z 0), kX3 ua va (z 1), kX1 ub (upd (upd (upd (z 3) 3 (s_X7_proposed_r a1 0 z)) 4 (s_X7_proposed_r a1 1 z)) 5 (s_X7_proposed_r a1 2 z)), kX8 uc vc1 vc2 vc3 vc4 vc5 (z 4), aI y vc1 20 (z 5), aI y vc2 20 (z 6), aI y vc3 20 (z 7), aI y vc4 20 (z 8), aI y vc5 20 o_3] H := hP
  have hD : va_D A [kX7 h ua ub uc ud ue (z 0), kX3 ua va (z 1), kX1 ub (upd (upd (upd (z 3) 3 (s_X7_proposed_r a1 0 z)) 4 (s_X7_proposed_r a1 1 z)) 5 (s_X7_proposed_r a1 2 z)), kX8 uc vc1 vc2 vc3 vc4 vc5 (z 4), aI y vc1 20 (z 5), aI y vc2 20 (z 6), aI y vc3 20 (z 7), aI y vc4 20 (z 8), aI y vc5 20 o_3] := hD
  refine lv_aload_n hx hb dX7_follow_47 rfl (lv_at hl 3 rfl) ?_
  refine lv_iconst (v := 2) hx hb dX7_follow_48 (by decide) ?_
  refine cl_Hi (wr := [kX3 ua va (z 1), aI y vc1 20 (z 5), aI y vc2 20 (z 6), aI y vc3 20 (z 7), aI y vc4 20 (z 8), aI y vc5 20 o_3]) (fun _ : Unit => [kX7 h ua ub uc ud ue (s_X7_changeMode_z 2 (zU z 3 (upd (upd (upd (z 3) 3 (s_X7_proposed_r a1 0 z)) 4 (s_X7_proposed_r a1 1 z)) 5 (s_X7_proposed_r a1 2 z))) 0), kX3 ua va (z 1), kX1 ub (s_X7_changeMode_z 2 (zU z 3 (upd (upd (upd (z 3) 3 (s_X7_proposed_r a1 0 z)) 4 (s_X7_proposed_r a1 1 z)) 5 (s_X7_proposed_r a1 2 z))) 3), kX8 uc vc1 vc2 vc3 vc4 vc5 (s_X7_changeMode_z 2 (zU z 3 (upd (upd (upd (z 3) 3 (s_X7_proposed_r a1 0 z)) 4 (s_X7_proposed_r a1 1 z)) 5 (s_X7_proposed_r a1 2 z))) 4), aI y vc1 20 (z 5), aI y vc2 20 (z 6), aI y vc3 20 (z 7), aI y vc4 20 (z 8), aI y vc5 20 o_3]) [0, 2, 3] [1, 4, 5, 6, 7, 8] [6, 0, 7, 8, 1, 2, 3, 4, 5] (va_runV (As := [.int 2]) (rest := []) ⟨hx, hb, hml, hown, hts⟩ (c_X7_changeMode l G y h 2 ua ub uc ud ue (zU z 3 (upd (upd (upd (z 3) 3 (s_X7_proposed_r a1 0 z)) 4 (s_X7_proposed_r a1 1 z)) 5 (s_X7_proposed_r a1 2 z))) vc1 vc2 vc3 vc4 vc5 H.size) (cwV 1 hts gX7_follow_X7_changeMode rfl rfl rfl (by decide +kernel) ⟨Nat.le_of_ble_eq_true rfl, Nat.le_of_ble_eq_true rfl⟩) (PH_V (hP.sub (ws' := [kX7 h ua ub uc ud ue (z 0), kX1 ub (upd (upd (upd (z 3) 3 (s_X7_proposed_r a1 0 z)) 4 (s_X7_proposed_r a1 1 z)) 5 (s_X7_proposed_r a1 2 z)), kX8 uc vc1 vc2 vc3 vc4 vc5 (z 4)]) [0, 2, 3] rfl) hK hN (hD.sub (ws' := [kX7 h ua ub uc ud ue (z 0), kX1 ub (upd (upd (upd (z 3) 3 (s_X7_proposed_r a1 0 z)) 4 (s_X7_proposed_r a1 1 z)) 5 (s_X7_proposed_r a1 2 z)), kX8 uc vc1 vc2 vc3 vc4 vc5 (z 4)]) [0, 2, 3] (by decide) rfl) (ci := 5) (q0 := 0) rfl rfl) rfl rfl hl.1 rfl (lv_room (Nat.le_of_ble_eq_true rfl)) dX7_follow_49 ⟨Nat.le_of_ble_eq_true rfl, Nat.le_of_ble_eq_true rfl⟩) hP hD hS hA rfl rfl rfl (by decide) rfl (fun _ => rfl) (fun _ H locs hP hD hS => ?_)
  have hP : va_P G vwCl [kX7 h ua ub uc ud ue (s_X7_changeMode_z 2 (zU z 3 (upd (upd (upd (z 3) 3 (s_X7_proposed_r a1 0 z)) 4 (s_X7_proposed_r a1 1 z)) 5 (s_X7_proposed_r a1 2 z))) 0), kX3 ua va (s_X7_changeMode_z 2 (zU z 3 (upd (upd (upd (z 3) 3 (s_X7_proposed_r a1 0 z)) 4 (s_X7_proposed_r a1 1 z)) 5 (s_X7_proposed_r a1 2 z))) 1), kX1 ub (s_X7_changeMode_z 2 (zU z 3 (upd (upd (upd (z 3) 3 (s_X7_proposed_r a1 0 z)) 4 (s_X7_proposed_r a1 1 z)) 5 (s_X7_proposed_r a1 2 z))) 3), kX8 uc vc1 vc2 vc3 vc4 vc5 (s_X7_changeMode_z 2 (zU z 3 (upd (upd (upd (z 3) 3 (s_X7_proposed_r a1 0 z)) 4 (s_X7_proposed_r a1 1 z)) 5 (s_X7_proposed_r a1 2 z))) 4), aI y vc1 20 (s_X7_changeMode_z 2 (zU z 3 (upd (upd (upd (z 3) 3 (s_X7_proposed_r a1 0 z)) 4 (s_X7_proposed_r a1 1 z)) 5 (s_X7_proposed_r a1 2 z))) 5), aI y vc2 20 (s_X7_changeMode_z 2 (zU z 3 (upd (upd (upd (z 3) 3 (s_X7_proposed_r a1 0 z)) 4 (s_X7_proposed_r a1 1 z)) 5 (s_X7_proposed_r a1 2 z))) 6), aI y vc3 20 (s_X7_changeMode_z 2 (zU z 3 (upd (upd (upd (z 3) 3 (s_X7_proposed_r a1 0 z)) 4 (s_X7_proposed_r a1 1 z)) 5 (s_X7_proposed_r a1 2 z))) 7), aI y vc4 20 (s_X7_changeMode_z 2 (zU z 3 (upd (upd (upd (z 3) 3 (s_X7_proposed_r a1 0 z)) 4 (s_X7_proposed_r a1 1 z)) 5 (s_X7_proposed_r a1 2 z))) 8), aI y vc5 20 o_3] H := hP
  have hD : va_D A [kX7 h ua ub uc ud ue (s_X7_changeMode_z 2 (zU z 3 (upd (upd (upd (z 3) 3 (s_X7_proposed_r a1 0 z)) 4 (s_X7_proposed_r a1 1 z)) 5 (s_X7_proposed_r a1 2 z))) 0), kX3 ua va (s_X7_changeMode_z 2 (zU z 3 (upd (upd (upd (z 3) 3 (s_X7_proposed_r a1 0 z)) 4 (s_X7_proposed_r a1 1 z)) 5 (s_X7_proposed_r a1 2 z))) 1), kX1 ub (s_X7_changeMode_z 2 (zU z 3 (upd (upd (upd (z 3) 3 (s_X7_proposed_r a1 0 z)) 4 (s_X7_proposed_r a1 1 z)) 5 (s_X7_proposed_r a1 2 z))) 3), kX8 uc vc1 vc2 vc3 vc4 vc5 (s_X7_changeMode_z 2 (zU z 3 (upd (upd (upd (z 3) 3 (s_X7_proposed_r a1 0 z)) 4 (s_X7_proposed_r a1 1 z)) 5 (s_X7_proposed_r a1 2 z))) 4), aI y vc1 20 (s_X7_changeMode_z 2 (zU z 3 (upd (upd (upd (z 3) 3 (s_X7_proposed_r a1 0 z)) 4 (s_X7_proposed_r a1 1 z)) 5 (s_X7_proposed_r a1 2 z))) 5), aI y vc2 20 (s_X7_changeMode_z 2 (zU z 3 (upd (upd (upd (z 3) 3 (s_X7_proposed_r a1 0 z)) 4 (s_X7_proposed_r a1 1 z)) 5 (s_X7_proposed_r a1 2 z))) 6), aI y vc3 20 (s_X7_changeMode_z 2 (zU z 3 (upd (upd (upd (z 3) 3 (s_X7_proposed_r a1 0 z)) 4 (s_X7_proposed_r a1 1 z)) 5 (s_X7_proposed_r a1 2 z))) 7), aI y vc4 20 (s_X7_changeMode_z 2 (zU z 3 (upd (upd (upd (z 3) 3 (s_X7_proposed_r a1 0 z)) 4 (s_X7_proposed_r a1 1 z)) 5 (s_X7_proposed_r a1 2 z))) 8), aI y vc5 20 o_3] := hD
  refine lv_pop hx hb dX7_follow_52 rfl ?_
  exact W.vret hx hb hr (end_Hv o_3 hP hD hS rfl) hS.2.2 dX7_follow_53

def s_X7_beginTrial_z (a1 : Int32) (z : Nat → Nat → Int32) : Nat → Nat → Int32 := fun i => match i with
  | 0 => (if (s_X11_isRule_r a1) = 0 then (z 0) else (if (s_X7_canBeginTrial_r z) = 0 then (z 0) else (s_X7_follow_z a1 (zU (zU z 9 (s_X10_open_w0 (z 9))) 10 (s_X10_open_w1 (z 9) (z 10) (z 3))) 0)))
  | 1 => (if (s_X11_isRule_r a1) = 0 then (z 1) else (if (s_X7_canBeginTrial_r z) = 0 then (z 1) else (s_X7_follow_z a1 (zU (zU z 9 (s_X10_open_w0 (z 9))) 10 (s_X10_open_w1 (z 9) (z 10) (z 3))) 1)))
  | 3 => (if (s_X11_isRule_r a1) = 0 then (z 3) else (if (s_X7_canBeginTrial_r z) = 0 then (z 3) else (s_X7_follow_z a1 (zU (zU z 9 (s_X10_open_w0 (z 9))) 10 (s_X10_open_w1 (z 9) (z 10) (z 3))) 3)))
  | 4 => (if (s_X11_isRule_r a1) = 0 then (z 4) else (if (s_X7_canBeginTrial_r z) = 0 then (z 4) else (s_X7_follow_z a1 (zU (zU z 9 (s_X10_open_w0 (z 9))) 10 (s_X10_open_w1 (z 9) (z 10) (z 3))) 4)))
  | 5 => (if (s_X11_isRule_r a1) = 0 then (z 5) else (if (s_X7_canBeginTrial_r z) = 0 then (z 5) else (s_X7_follow_z a1 (zU (zU z 9 (s_X10_open_w0 (z 9))) 10 (s_X10_open_w1 (z 9) (z 10) (z 3))) 5)))
  | 6 => (if (s_X11_isRule_r a1) = 0 then (z 6) else (if (s_X7_canBeginTrial_r z) = 0 then (z 6) else (s_X7_follow_z a1 (zU (zU z 9 (s_X10_open_w0 (z 9))) 10 (s_X10_open_w1 (z 9) (z 10) (z 3))) 6)))
  | 7 => (if (s_X11_isRule_r a1) = 0 then (z 7) else (if (s_X7_canBeginTrial_r z) = 0 then (z 7) else (s_X7_follow_z a1 (zU (zU z 9 (s_X10_open_w0 (z 9))) 10 (s_X10_open_w1 (z 9) (z 10) (z 3))) 7)))
  | 8 => (if (s_X11_isRule_r a1) = 0 then (z 8) else (if (s_X7_canBeginTrial_r z) = 0 then (z 8) else (s_X7_follow_z a1 (zU (zU z 9 (s_X10_open_w0 (z 9))) 10 (s_X10_open_w1 (z 9) (z 10) (z 3))) 8)))
  | 9 => (if (s_X11_isRule_r a1) = 0 then (z 9) else (if (s_X7_canBeginTrial_r z) = 0 then (z 9) else (s_X7_follow_z a1 (zU (zU z 9 (s_X10_open_w0 (z 9))) 10 (s_X10_open_w1 (z 9) (z 10) (z 3))) 9)))
  | 10 => (if (s_X11_isRule_r a1) = 0 then (z 10) else (if (s_X7_canBeginTrial_r z) = 0 then (z 10) else (s_X7_follow_z a1 (zU (zU z 9 (s_X10_open_w0 (z 9))) 10 (s_X10_open_w1 (z 9) (z 10) (z 3))) 10)))
  | _ => z i
def s_X7_beginTrial_r (a1 : Int32) (z : Nat → Nat → Int32) : Int32 := (if (s_X11_isRule_r a1) = 0 then 0 else (if (s_X7_canBeginTrial_r z) = 0 then 0 else 1))
theorem z_X7_beginTrial (a1 : Int32) (z : Nat → Nat → Int32) : s_X7_beginTrial_r a1 z = 0 ∨ s_X7_beginTrial_r a1 z = 1 := by unfold s_X7_beginTrial_r; (try dsimp only); exact (z_ite (Or.inl rfl) (z_ite (Or.inl rfl) (Or.inr rfl)))
abbrev rmX7_beginTrial : Room := ({ frames := 5, cells := 0, slots := 0, locals := 122 } : Room)
set_option maxHeartbeats 4000000 in
set_option maxRecDepth 100000 in
theorem c_X7_beginTrial (l : Launch) (G : va_G) (y : Nat → ClassId) (h : Nat) (a1 : Int32) (ua : Nat) (ub : Nat) (uc : Nat) (ud : Nat) (ue : Nat) (z : Nat → Nat → Int32) (va : Nat) (vc1 : Nat) (vc2 : Nat) (vc3 : Nat) (vc4 : Nat) (vc5 : Nat) (o : Nat → Int32) (vd : Nat) (sz : Nat) (hw : vp_in (z 4 0) 21) : Met l yX7_beginTrial wsX7_beginTrial rmX7_beginTrial (PH G y [.ref h, .int a1] [kX7 h ua ub uc ud ue (z 0), kX3 ua va (z 1), kX1 ub (z 3), kX8 uc vc1 vc2 vc3 vc4 vc5 (z 4), aI y vc1 20 (z 5), aI y vc2 20 (z 6), aI y vc3 20 (z 7), aI y vc4 20 (z 8), aI y vc5 20 o, kX10 ud vd (z 9), aI y vd 32 (z 10)] sz) (QHi G (s_X7_beginTrial_r a1 z) (fun u : (Nat → Int32) => [kX7 h ua ub uc ud ue (s_X7_beginTrial_z a1 z 0), kX3 ua va (s_X7_beginTrial_z a1 z 1), kX1 ub (s_X7_beginTrial_z a1 z 3), kX8 uc vc1 vc2 vc3 vc4 vc5 (s_X7_beginTrial_z a1 z 4), aI y vc1 20 (s_X7_beginTrial_z a1 z 5), aI y vc2 20 (s_X7_beginTrial_z a1 z 6), aI y vc3 20 (s_X7_beginTrial_z a1 z 7), aI y vc4 20 (s_X7_beginTrial_z a1 z 8), aI y vc5 20 u, kX10 ud vd (s_X7_beginTrial_z a1 z 9), aI y vd 32 (s_X7_beginTrial_z a1 z 10)]) (va_A [kX7 h ua ub uc ud ue (z 0), kX3 ua va (z 1), kX1 ub (z 3), kX8 uc vc1 vc2 vc3 vc4 vc5 (z 4), aI y vc1 20 (z 5), aI y vc2 20 (z 6), aI y vc3 20 (z 7), aI y vc4 20 (z 8), aI y vc5 20 o, kX10 ud vd (z 9), aI y vd 32 (z 10)] sz)) 0 0 (va_A [kX7 h ua ub uc ud ue (z 0), kX3 ua va (z 1), kX1 ub (z 3), kX8 uc vc1 vc2 vc3 vc4 vc5 (z 4), aI y vc1 20 (z 5), aI y vc2 20 (z 6), aI y vc3 20 (z 7), aI y vc4 20 (z 8), aI y vc5 20 o, kX10 ud vd (z 9), aI y vd 32 (z 10)] sz) := by
  refine Met.ofW (cc := cX7_beginTrial) (maxL := 2) (ret := (some .boolean)) (by decide) rfl ?_
  intro p e s m args below meth c s₁ B hml hv
  obtain ⟨rfl, hsz, hP, ⟨hK, hN⟩, hD0⟩ := hv
  have hx := B.exec
  have hb := B.bytes
  have hr := B.returns
  have hts := atoms_spec (ws := wsX7_beginTrial) B.pre
  have hown : s.vm.findClass RX7 = some m.cls := findClass_of_methodNamed B.named
  have hlocks := B.notSynchronized
  have i_X7 : ∀ w ∈ u_ws RX7 TX7 6, w ∈ wsX7_beginTrial := by decide +kernel
  subst hsz
  have hD := hD0.self (sz := s.heap.size)
  generalize hAe : va_A [kX7 h ua ub uc ud ue (z 0), kX3 ua va (z 1), kX1 ub (z 3), kX8 uc vc1 vc2 vc3 vc4 vc5 (z 4), aI y vc1 20 (z 5), aI y vc2 20 (z 6), aI y vc3 20 (z 7), aI y vc4 20 (z 8), aI y vc5 20 o, kX10 ud vd (z 9), aI y vd 32 (z 10)] s.heap.size = A at hD ⊢
  have hA : ∀ q : Nat, s.heap.size ≤ q → A q := fun q h => by rw [← hAe]; exact Or.inr h
  have hS : va_S A s.heap s.heap [] := va_S.rf
  have hP : va_P G vwCl [kX7 h ua ub uc ud ue (z 0), kX3 ua va (z 1), kX1 ub (z 3), kX8 uc vc1 vc2 vc3 vc4 vc5 (z 4), aI y vc1 20 (z 5), aI y vc2 20 (z 6), aI y vc3 20 (z 7), aI y vc4 20 (z 8), aI y vc5 20 o, kX10 ud vd (z 9), aI y vd 32 (z 10)] s.heap := hP
  have hl := lv_entry ([.ref h, .int a1]) (n := 2) (Nat.le_of_ble_eq_true rfl)
  rw [lg_entry_eq]
  generalize (lg_sl ([.ref h, .int a1]) ++ List.replicate (2 - (lg_sl ([.ref h, .int a1])).length) Slot.unset).toArray = ls at hl ⊢
  have hl : lv_has ls 2 [(0, .ref h), (1, .int a1)] := hl
  refine lv_iload_n hx hb dX7_beginTrial_0 rfl (lv_at hl 1 rfl) ?_
  refine cl_Ri (va_runSN (As := [.int a1]) (rest := []) ⟨hx, hb, hml, hown, hts⟩ (c_X11_isRule l G y a1) ⟨va_cnB 1 hts gX7_beginTrial_X11_isRule_n173 rfl rfl rfl (NN.m hN (by decide +kernel)) (hts (.initialized RX11) (by decide +kernel)) (by decide +kernel) ⟨Nat.le_of_ble_eq_true rfl, Nat.le_of_ble_eq_true rfl⟩, hts (.static yX11_isRule) (by decide +kernel), trivial⟩ (PR_S pnil hK hN) rfl rfl hl.1 rfl (lv_room (Nat.le_of_ble_eq_true rfl)) dX7_beginTrial_1 ⟨Nat.le_of_ble_eq_true rfl, Nat.le_of_ble_eq_true rfl⟩) ?_
  refine lv_if_eq (tgt := 14) hx hb dX7_beginTrial_4 (by decide) (fun c_1 => ?_) (fun c_1 => ?_)
  · refine lv_iconst (v := 0) hx hb dX7_beginTrial_14 (by decide) ?_
    exact W.zret hx hb hr (nz_bool (Or.inl rfl)) (end_Hi o hP hD hS (by unfold s_X7_beginTrial_r; exact (if_pos c_1).symm) (congr (congr (congr (congr (congr (congr (congr (congr (congr (congrArg (fun (z0 : Nat → Int32) (z1 : Nat → Int32) (z2 : Nat → Int32) (z3 : Nat → Int32) (z4 : Nat → Int32) (z5 : Nat → Int32) (z6 : Nat → Int32) (z7 : Nat → Int32) (z9 : Nat → Int32) (z10 : Nat → Int32) => [kX7 h ua ub uc ud ue z0, kX3 ua va z1, kX1 ub z2, kX8 uc vc1 vc2 vc3 vc4 vc5 z3, aI y vc1 20 z4, aI y vc2 20 z5, aI y vc3 20 z6, aI y vc4 20 z7, aI y vc5 20 o, kX10 ud vd z9, aI y vd 32 z10]) (by unfold s_X7_beginTrial_z; exact (if_pos c_1).symm)) (by unfold s_X7_beginTrial_z; exact (if_pos c_1).symm)) (by unfold s_X7_beginTrial_z; exact (if_pos c_1).symm)) (by unfold s_X7_beginTrial_z; exact (if_pos c_1).symm)) (by unfold s_X7_beginTrial_z; exact (if_pos c_1).symm)) (by unfold s_X7_beginTrial_z; exact (if_pos c_1).symm)) (by unfold s_X7_beginTrial_z; exact (if_pos c_1).symm)) (by unfold s_X7_beginTrial_z; exact (if_pos c_1).symm)) (by unfold s_X7_beginTrial_z; exact (if_pos c_1).symm)) (by unfold s_X7_beginTrial_z; exact (if_pos c_1).symm))) hS.2.2 dX7_beginTrial_15
  · refine lv_aload_n hx hb dX7_beginTrial_7 rfl (lv_at hl 0 rfl) ?_
    refine cl_Hi (wr := [kX3 ua va (z 1), aI y vd 32 (z 10)]) (fun u : (Nat → Int32) => [kX7 h ua ub uc ud ue (z 0), kX3 ua va (z 1), kX1 ub (z 3), kX8 uc vc1 vc2 vc3 vc4 vc5 (z 4), aI y vc1 20 (z 5), aI y vc2 20 (z 6), aI y vc3 20 (z 7), aI y vc4 20 (z 8), aI y vc5 20 u, kX10 ud vd (z 9), aI y vd 32 (z 10)]) [0, 2, 3, 4, 5, 6, 7, 8, 9] [1, 10] [2, 0, 3, 4, 5, 6, 7, 8, 9, 10, 1] (va_runV (As := []) (rest := []) ⟨hx, hb, hml, hown, hts⟩ (c_X7_canBeginTrial l G y h ua ub uc ud ue z vc1 vc2 vc3 vc4 vc5 o vd s.heap.size hw) (cwV 0 hts gX7_beginTrial_X7_canBeginTrial rfl rfl rfl (by decide +kernel) ⟨Nat.le_of_ble_eq_true rfl, Nat.le_of_ble_eq_true rfl⟩) (PH_V (hP.sub (ws' := [kX7 h ua ub uc ud ue (z 0), kX1 ub (z 3), kX8 uc vc1 vc2 vc3 vc4 vc5 (z 4), aI y vc1 20 (z 5), aI y vc2 20 (z 6), aI y vc3 20 (z 7), aI y vc4 20 (z 8), aI y vc5 20 o, kX10 ud vd (z 9)]) [0, 2, 3, 4, 5, 6, 7, 8, 9] rfl) hK hN (hD.sub (ws' := [kX7 h ua ub uc ud ue (z 0), kX1 ub (z 3), kX8 uc vc1 vc2 vc3 vc4 vc5 (z 4), aI y vc1 20 (z 5), aI y vc2 20 (z 6), aI y vc3 20 (z 7), aI y vc4 20 (z 8), aI y vc5 20 o, kX10 ud vd (z 9)]) [0, 2, 3, 4, 5, 6, 7, 8, 9] (by decide) rfl) (ci := 5) (q0 := 0) rfl rfl) rfl rfl hl.1 rfl (lv_room (Nat.le_of_ble_eq_true rfl)) dX7_beginTrial_8 ⟨Nat.le_of_ble_eq_true rfl, Nat.le_of_ble_eq_true rfl⟩) hP hD hS hA rfl rfl rfl (by decide) rfl (fun _ => rfl) (fun u H locs hP hD hS => ?_)
    obtain ⟨o_2, rfl⟩ : ∃ zq9, zq9 = u := ⟨_, rfl⟩
    have hP : va_P G vwCl [kX7 h ua ub uc ud ue (z 0), kX3 ua va (z 1), kX1 ub (z 3), kX8 uc vc1 vc2 vc3 vc4 vc5 (z 4), aI y vc1 20 (z 5), aI y vc2 20 (z 6), aI y vc3 20 (z 7), aI y vc4 20 (z 8), aI y vc5 20 o_2, kX10 ud vd (z 9), aI y vd 32 (z 10)] H := hP
    have hD : va_D A [kX7 h ua ub uc ud ue (z 0), kX3 ua va (z 1), kX1 ub (z 3), kX8 uc vc1 vc2 vc3 vc4 vc5 (z 4), aI y vc1 20 (z 5), aI y vc2 20 (z 6), aI y vc3 20 (z 7), aI y vc4 20 (z 8), aI y vc5 20 o_2, kX10 ud vd (z 9), aI y vd 32 (z 10)] := hD
    refine lv_if_ne (tgt := 16) hx hb dX7_beginTrial_11 (by decide) (fun c_3 => ?_) (fun c_3 => ?_)
    · refine lv_aload_n hx hb dX7_beginTrial_16 rfl (lv_at hl 0 rfl) ?_
      refine va_get (D := G) (ci := 5) (v := .ref ud) (C := RX7) (T := TX7) (N := 6) hx hb hts i_X7 hown hK hP 0 rfl rfl 4 (by decide) (hts (.fieldLink RX7 35 "RelayTuner$State" "trials" "LRelayTuner$Trials;") (by decide +kernel)) (fun _ h9 => h9) rfl dX7_beginTrial_17 ?_
      refine lv_aload_n hx hb dX7_beginTrial_20 rfl (lv_at hl 0 rfl) ?_
      refine va_get (D := G) (ci := 5) (v := .ref ub) (C := RX7) (T := TX7) (N := 6) hx hb hts i_X7 hown hK hP 0 rfl rfl 2 (by decide) (hts (.fieldLink RX7 21 "RelayTuner$State" "control" "LRelayTuner$Control;") (by decide +kernel)) (fun _ h9 => h9) rfl dX7_beginTrial_21 ?_
      refine cl_Hv (wr := [kX7 h ua ub uc ud ue (z 0), kX3 ua va (z 1), kX8 uc vc1 vc2 vc3 vc4 vc5 (z 4), aI y vc1 20 (z 5), aI y vc2 20 (z 6), aI y vc3 20 (z 7), aI y vc4 20 (z 8), aI y vc5 20 o_2]) (fun _ : Unit => [kX7 h ua ub uc ud ue (z 0), kX3 ua va (z 1), kX1 ub (z 3), kX8 uc vc1 vc2 vc3 vc4 vc5 (z 4), aI y vc1 20 (z 5), aI y vc2 20 (z 6), aI y vc3 20 (z 7), aI y vc4 20 (z 8), aI y vc5 20 o_2, kX10 ud vd (s_X10_open_w0 (z 9)), aI y vd 32 (s_X10_open_w1 (z 9) (z 10) (z 3))]) [9, 10, 2] [0, 1, 3, 4, 5, 6, 7, 8] [0, 1, 10, 2, 3, 4, 5, 6, 7, 8, 9] (va_runV (As := [.ref ub]) (rest := []) ⟨hx, hb, hml, hown, hts⟩ (c_X10_open l G y ud ub vd (z 9) (z 10) (z 3) H.size) (cwV 1 hts gX7_beginTrial_X10_open rfl rfl rfl (by decide +kernel) ⟨Nat.le_of_ble_eq_true rfl, Nat.le_of_ble_eq_true rfl⟩) (PH_V (hP.sub (ws' := [kX10 ud vd (z 9), aI y vd 32 (z 10), kX1 ub (z 3)]) [9, 10, 2] rfl) hK hN (hD.sub (ws' := [kX10 ud vd (z 9), aI y vd 32 (z 10), kX1 ub (z 3)]) [9, 10, 2] (by decide) rfl) (ci := 8) (q0 := 0) rfl rfl) rfl rfl hl.1 rfl (lv_room (Nat.le_of_ble_eq_true rfl)) dX7_beginTrial_24 ⟨Nat.le_of_ble_eq_true rfl, Nat.le_of_ble_eq_true rfl⟩) hP hD hS hA rfl rfl rfl (by decide) rfl (fun _ => rfl) (fun _ H locs hP hD hS => ?_)
      have hP : va_P G vwCl [kX7 h ua ub uc ud ue (z 0), kX3 ua va (z 1), kX1 ub (z 3), kX8 uc vc1 vc2 vc3 vc4 vc5 (z 4), aI y vc1 20 (z 5), aI y vc2 20 (z 6), aI y vc3 20 (z 7), aI y vc4 20 (z 8), aI y vc5 20 o_2, kX10 ud vd (s_X10_open_w0 (z 9)), aI y vd 32 (s_X10_open_w1 (z 9) (z 10) (z 3))] H := hP
      have hD : va_D A [kX7 h ua ub uc ud ue (z 0), kX3 ua va (z 1), kX1 ub (z 3), kX8 uc vc1 vc2 vc3 vc4 vc5 (z 4), aI y vc1 20 (z 5), aI y vc2 20 (z 6), aI y vc3 20 (z 7), aI y vc4 20 (z 8), aI y vc5 20 o_2, kX10 ud vd (s_X10_open_w0 (z 9)), aI y vd 32 (s_X10_open_w1 (z 9) (z 10) (z 3))] := hD
      refine lv_aload_n hx hb dX7_beginTrial_27 rfl (lv_at hl 0 rfl) ?_
      refine lv_iload_n hx hb dX7_beginTrial_28 rfl (lv_at hl 1 rfl) ?_
      refine cl_Hv (wr := [kX10 ud vd (s_X10_open_w0 (z 9)), aI y vd 32 (s_X10_open_w1 (z 9) (z 10) (z 3))]) (fun u : (Nat → Int32) => [kX7 h ua ub uc ud ue (s_X7_follow_z a1 (zU (zU z 9 (s_X10_open_w0 (z 9))) 10 (s_X10_open_w1 (z 9) (z 10) (z 3))) 0), kX3 ua va (s_X7_follow_z a1 (zU (zU z 9 (s_X10_open_w0 (z 9))) 10 (s_X10_open_w1 (z 9) (z 10) (z 3))) 1), kX1 ub (s_X7_follow_z a1 (zU (zU z 9 (s_X10_open_w0 (z 9))) 10 (s_X10_open_w1 (z 9) (z 10) (z 3))) 3), kX8 uc vc1 vc2 vc3 vc4 vc5 (s_X7_follow_z a1 (zU (zU z 9 (s_X10_open_w0 (z 9))) 10 (s_X10_open_w1 (z 9) (z 10) (z 3))) 4), aI y vc1 20 (s_X7_follow_z a1 (zU (zU z 9 (s_X10_open_w0 (z 9))) 10 (s_X10_open_w1 (z 9) (z 10) (z 3))) 5), aI y vc2 20 (s_X7_follow_z a1 (zU (zU z 9 (s_X10_open_w0 (z 9))) 10 (s_X10_open_w1 (z 9) (z 10) (z 3))) 6), aI y vc3 20 (s_X7_follow_z a1 (zU (zU z 9 (s_X10_open_w0 (z 9))) 10 (s_X10_open_w1 (z 9) (z 10) (z 3))) 7), aI y vc4 20 (s_X7_follow_z a1 (zU (zU z 9 (s_X10_open_w0 (z 9))) 10 (s_X10_open_w1 (z 9) (z 10) (z 3))) 8), aI y vc5 20 u, kX10 ud vd (s_X10_open_w0 (z 9)), aI y vd 32 (s_X10_open_w1 (z 9) (z 10) (z 3))]) [0, 1, 2, 3, 4, 5, 6, 7, 8] [9, 10] [2, 3, 4, 5, 6, 7, 8, 9, 10, 0, 1] (va_runV (As := [.int a1]) (rest := []) ⟨hx, hb, hml, hown, hts⟩ (c_X7_follow l G y h a1 ua ub uc ud ue (zU (zU z 9 (s_X10_open_w0 (z 9))) 10 (s_X10_open_w1 (z 9) (z 10) (z 3))) va vc1 vc2 vc3 vc4 vc5 o_2 H.size (by assumption)) (cwV 1 hts gX7_beginTrial_X7_follow rfl rfl rfl (by decide +kernel) ⟨Nat.le_of_ble_eq_true rfl, Nat.le_of_ble_eq_true rfl⟩) (PH_V (hP.sub (ws' := [kX7 h ua ub uc ud ue (z 0), kX3 ua va (z 1), kX1 ub (z 3), kX8 uc vc1 vc2 vc3 vc4 vc5 (z 4), aI y vc1 20 (z 5), aI y vc2 20 (z 6), aI y vc3 20 (z 7), aI y vc4 20 (z 8), aI y vc5 20 o_2]) [0, 1, 2, 3, 4, 5, 6, 7, 8] rfl) hK hN (hD.sub (ws' := [kX7 h ua ub uc ud ue (z 0), kX3 ua va (z 1), kX1 ub (z 3), kX8 uc vc1 vc2 vc3 vc4 vc5 (z 4), aI y vc1 20 (z 5), aI y vc2 20 (z 6), aI y vc3 20 (z 7), aI y vc4 20 (z 8), aI y vc5 20 o_2]) [0, 1, 2, 3, 4, 5, 6, 7, 8] (by decide) rfl) (ci := 5) (q0 := 0) rfl rfl) rfl rfl hl.1 rfl (lv_room (Nat.le_of_ble_eq_true rfl)) dX7_beginTrial_29 ⟨Nat.le_of_ble_eq_true rfl, Nat.le_of_ble_eq_true rfl⟩) hP hD hS hA rfl rfl rfl (by decide) rfl (fun _ => rfl) (fun u H locs hP hD hS => ?_)
      obtain ⟨o_4, rfl⟩ : ∃ zq9, zq9 = u := ⟨_, rfl⟩
      have hP : va_P G vwCl [kX7 h ua ub uc ud ue (s_X7_follow_z a1 (zU (zU z 9 (s_X10_open_w0 (z 9))) 10 (s_X10_open_w1 (z 9) (z 10) (z 3))) 0), kX3 ua va (s_X7_follow_z a1 (zU (zU z 9 (s_X10_open_w0 (z 9))) 10 (s_X10_open_w1 (z 9) (z 10) (z 3))) 1), kX1 ub (s_X7_follow_z a1 (zU (zU z 9 (s_X10_open_w0 (z 9))) 10 (s_X10_open_w1 (z 9) (z 10) (z 3))) 3), kX8 uc vc1 vc2 vc3 vc4 vc5 (s_X7_follow_z a1 (zU (zU z 9 (s_X10_open_w0 (z 9))) 10 (s_X10_open_w1 (z 9) (z 10) (z 3))) 4), aI y vc1 20 (s_X7_follow_z a1 (zU (zU z 9 (s_X10_open_w0 (z 9))) 10 (s_X10_open_w1 (z 9) (z 10) (z 3))) 5), aI y vc2 20 (s_X7_follow_z a1 (zU (zU z 9 (s_X10_open_w0 (z 9))) 10 (s_X10_open_w1 (z 9) (z 10) (z 3))) 6), aI y vc3 20 (s_X7_follow_z a1 (zU (zU z 9 (s_X10_open_w0 (z 9))) 10 (s_X10_open_w1 (z 9) (z 10) (z 3))) 7), aI y vc4 20 (s_X7_follow_z a1 (zU (zU z 9 (s_X10_open_w0 (z 9))) 10 (s_X10_open_w1 (z 9) (z 10) (z 3))) 8), aI y vc5 20 o_4, kX10 ud vd (s_X7_follow_z a1 (zU (zU z 9 (s_X10_open_w0 (z 9))) 10 (s_X10_open_w1 (z 9) (z 10) (z 3))) 9), aI y vd 32 (s_X7_follow_z a1 (zU (zU z 9 (s_X10_open_w0 (z 9))) 10 (s_X10_open_w1 (z 9) (z 10) (z 3))) 10)] H := hP
      have hD : va_D A [kX7 h ua ub uc ud ue (s_X7_follow_z a1 (zU (zU z 9 (s_X10_open_w0 (z 9))) 10 (s_X10_open_w1 (z 9) (z 10) (z 3))) 0), kX3 ua va (s_X7_follow_z a1 (zU (zU z 9 (s_X10_open_w0 (z 9))) 10 (s_X10_open_w1 (z 9) (z 10) (z 3))) 1), kX1 ub (s_X7_follow_z a1 (zU (zU z 9 (s_X10_open_w0 (z 9))) 10 (s_X10_open_w1 (z 9) (z 10) (z 3))) 3), kX8 uc vc1 vc2 vc3 vc4 vc5 (s_X7_follow_z a1 (zU (zU z 9 (s_X10_open_w0 (z 9))) 10 (s_X10_open_w1 (z 9) (z 10) (z 3))) 4), aI y vc1 20 (s_X7_follow_z a1 (zU (zU z 9 (s_X10_open_w0 (z 9))) 10 (s_X10_open_w1 (z 9) (z 10) (z 3))) 5), aI y vc2 20 (s_X7_follow_z a1 (zU (zU z 9 (s_X10_open_w0 (z 9))) 10 (s_X10_open_w1 (z 9) (z 10) (z 3))) 6), aI y vc3 20 (s_X7_follow_z a1 (zU (zU z 9 (s_X10_open_w0 (z 9))) 10 (s_X10_open_w1 (z 9) (z 10) (z 3))) 7), aI y vc4 20 (s_X7_follow_z a1 (zU (zU z 9 (s_X10_open_w0 (z 9))) 10 (s_X10_open_w1 (z 9) (z 10) (z 3))) 8), aI y vc5 20 o_4, kX10 ud vd (s_X7_follow_z a1 (zU (zU z 9 (s_X10_open_w0 (z 9))) 10 (s_X10_open_w1 (z 9) (z 10) (z 3))) 9), aI y vd 32 (s_X7_follow_z a1 (zU (zU z 9 (s_X10_open_w0 (z 9))) 10 (s_X10_open_w1 (z 9) (z 10) (z 3))) 10)] := hD
      refine lv_iconst (v := 1) hx hb dX7_beginTrial_32 (by decide) ?_
      exact W.zret hx hb hr (nz_bool (Or.inr rfl)) (end_Hi o_4 hP hD hS (by unfold s_X7_beginTrial_r; exact ((if_neg c_1).trans (if_neg c_3)).symm) (congr (congr (congr (congr (congr (congr (congr (congr (congr (congrArg (fun (z0 : Nat → Int32) (z1 : Nat → Int32) (z2 : Nat → Int32) (z3 : Nat → Int32) (z4 : Nat → Int32) (z5 : Nat → Int32) (z6 : Nat → Int32) (z7 : Nat → Int32) (z9 : Nat → Int32) (z10 : Nat → Int32) => [kX7 h ua ub uc ud ue z0, kX3 ua va z1, kX1 ub z2, kX8 uc vc1 vc2 vc3 vc4 vc5 z3, aI y vc1 20 z4, aI y vc2 20 z5, aI y vc3 20 z6, aI y vc4 20 z7, aI y vc5 20 o_4, kX10 ud vd z9, aI y vd 32 z10]) (by unfold s_X7_beginTrial_z; exact ((if_neg c_1).trans (if_neg c_3)).symm)) (by unfold s_X7_beginTrial_z; exact ((if_neg c_1).trans (if_neg c_3)).symm)) (by unfold s_X7_beginTrial_z; exact ((if_neg c_1).trans (if_neg c_3)).symm)) (by unfold s_X7_beginTrial_z; exact ((if_neg c_1).trans (if_neg c_3)).symm)) (by unfold s_X7_beginTrial_z; exact ((if_neg c_1).trans (if_neg c_3)).symm)) (by unfold s_X7_beginTrial_z; exact ((if_neg c_1).trans (if_neg c_3)).symm)) (by unfold s_X7_beginTrial_z; exact ((if_neg c_1).trans (if_neg c_3)).symm)) (by unfold s_X7_beginTrial_z; exact ((if_neg c_1).trans (if_neg c_3)).symm)) (by unfold s_X7_beginTrial_z; exact ((if_neg c_1).trans (if_neg c_3)).symm)) (by unfold s_X7_beginTrial_z; exact ((if_neg c_1).trans (if_neg c_3)).symm))) hS.2.2 dX7_beginTrial_33
    · refine lv_iconst (v := 0) hx hb dX7_beginTrial_14 (by decide) ?_
      exact W.zret hx hb hr (nz_bool (Or.inl rfl)) (end_Hi o_2 hP hD hS (by unfold s_X7_beginTrial_r; exact ((if_neg c_1).trans (if_pos c_3)).symm) (congr (congr (congr (congr (congr (congr (congr (congr (congr (congrArg (fun (z0 : Nat → Int32) (z1 : Nat → Int32) (z2 : Nat → Int32) (z3 : Nat → Int32) (z4 : Nat → Int32) (z5 : Nat → Int32) (z6 : Nat → Int32) (z7 : Nat → Int32) (z9 : Nat → Int32) (z10 : Nat → Int32) => [kX7 h ua ub uc ud ue z0, kX3 ua va z1, kX1 ub z2, kX8 uc vc1 vc2 vc3 vc4 vc5 z3, aI y vc1 20 z4, aI y vc2 20 z5, aI y vc3 20 z6, aI y vc4 20 z7, aI y vc5 20 o_2, kX10 ud vd z9, aI y vd 32 z10]) (by unfold s_X7_beginTrial_z; exact ((if_neg c_1).trans (if_pos c_3)).symm)) (by unfold s_X7_beginTrial_z; exact ((if_neg c_1).trans (if_pos c_3)).symm)) (by unfold s_X7_beginTrial_z; exact ((if_neg c_1).trans (if_pos c_3)).symm)) (by unfold s_X7_beginTrial_z; exact ((if_neg c_1).trans (if_pos c_3)).symm)) (by unfold s_X7_beginTrial_z; exact ((if_neg c_1).trans (if_pos c_3)).symm)) (by unfold s_X7_beginTrial_z; exact ((if_neg c_1).trans (if_pos c_3)).symm)) (by unfold s_X7_beginTrial_z; exact ((if_neg c_1).trans (if_pos c_3)).symm)) (by unfold s_X7_beginTrial_z; exact ((if_neg c_1).trans (if_pos c_3)).symm)) (by unfold s_X7_beginTrial_z; exact ((if_neg c_1).trans (if_pos c_3)).symm)) (by unfold s_X7_beginTrial_z; exact ((if_neg c_1).trans (if_pos c_3)).symm))) hS.2.2 dX7_beginTrial_15

def s_X7_endTrial_z (z : Nat → Nat → Int32) : Nat → Nat → Int32 := fun i => match i with
  | 0 => (if ((z 9) 0) = 0 then (z 0) else (s_X7_changeMode_z (s_X10_close_r (z 9) (z 10) (z 3)) (zU (zU z 3 (s_X10_close_w2 (z 9) (z 10) (z 3))) 9 (s_X10_close_w0 (z 9))) 0))
  | 3 => (if ((z 9) 0) = 0 then (z 3) else (s_X7_changeMode_z (s_X10_close_r (z 9) (z 10) (z 3)) (zU (zU z 3 (s_X10_close_w2 (z 9) (z 10) (z 3))) 9 (s_X10_close_w0 (z 9))) 3))
  | 4 => (if ((z 9) 0) = 0 then (z 4) else (s_X7_changeMode_z (s_X10_close_r (z 9) (z 10) (z 3)) (zU (zU z 3 (s_X10_close_w2 (z 9) (z 10) (z 3))) 9 (s_X10_close_w0 (z 9))) 4))
  | 9 => (if ((z 9) 0) = 0 then (z 9) else (s_X7_changeMode_z (s_X10_close_r (z 9) (z 10) (z 3)) (zU (zU z 3 (s_X10_close_w2 (z 9) (z 10) (z 3))) 9 (s_X10_close_w0 (z 9))) 9))
  | 10 => (if ((z 9) 0) = 0 then (z 10) else (s_X7_changeMode_z (s_X10_close_r (z 9) (z 10) (z 3)) (zU (zU z 3 (s_X10_close_w2 (z 9) (z 10) (z 3))) 9 (s_X10_close_w0 (z 9))) 10))
  | _ => z i
def s_X7_endTrial_r (z : Nat → Nat → Int32) : Int32 := (if ((z 9) 0) = 0 then 0 else 1)
theorem z_X7_endTrial (z : Nat → Nat → Int32) : s_X7_endTrial_r z = 0 ∨ s_X7_endTrial_r z = 1 := by unfold s_X7_endTrial_r; (try dsimp only); exact (z_ite (Or.inl rfl) (Or.inr rfl))
abbrev rmX7_endTrial : Room := ({ frames := 2, cells := 0, slots := 0, locals := 42 } : Room)
set_option maxHeartbeats 4000000 in
set_option maxRecDepth 100000 in
theorem c_X7_endTrial (l : Launch) (G : va_G) (y : Nat → ClassId) (h : Nat) (ua : Nat) (ub : Nat) (uc : Nat) (ud : Nat) (ue : Nat) (z : Nat → Nat → Int32) (vc1 : Nat) (vc2 : Nat) (vc3 : Nat) (vc4 : Nat) (vc5 : Nat) (vd : Nat) (sz : Nat) : Met l yX7_endTrial wsX7_endTrial rmX7_endTrial (PH G y [.ref h] [kX7 h ua ub uc ud ue (z 0), kX1 ub (z 3), kX8 uc vc1 vc2 vc3 vc4 vc5 (z 4), kX10 ud vd (z 9), aI y vd 32 (z 10)] sz) (QHi G (s_X7_endTrial_r z) (fun _ : Unit => [kX7 h ua ub uc ud ue (s_X7_endTrial_z z 0), kX1 ub (s_X7_endTrial_z z 3), kX8 uc vc1 vc2 vc3 vc4 vc5 (s_X7_endTrial_z z 4), kX10 ud vd (s_X7_endTrial_z z 9), aI y vd 32 (s_X7_endTrial_z z 10)]) (va_A [kX7 h ua ub uc ud ue (z 0), kX1 ub (z 3), kX8 uc vc1 vc2 vc3 vc4 vc5 (z 4), kX10 ud vd (z 9), aI y vd 32 (z 10)] sz)) 0 0 (va_A [kX7 h ua ub uc ud ue (z 0), kX1 ub (z 3), kX8 uc vc1 vc2 vc3 vc4 vc5 (z 4), kX10 ud vd (z 9), aI y vd 32 (z 10)] sz) := by
  refine Met.ofW (cc := cX7_endTrial) (maxL := 1) (ret := (some .boolean)) (by decide) rfl ?_
  intro p e s m args below meth c s₁ B hml hv
  obtain ⟨rfl, hsz, hP, ⟨hK, hN⟩, hD0⟩ := hv
  have hx := B.exec
  have hb := B.bytes
  have hr := B.returns
  have hts := atoms_spec (ws := wsX7_endTrial) B.pre
  have hown : s.vm.findClass RX7 = some m.cls := findClass_of_methodNamed B.named
  have hlocks := B.notSynchronized
  have i_X10 : ∀ w ∈ u_ws RX10 TX10 2, w ∈ wsX7_endTrial := by decide +kernel
  have i_X7 : ∀ w ∈ u_ws RX7 TX7 6, w ∈ wsX7_endTrial := by decide +kernel
  subst hsz
  have hD := hD0.self (sz := s.heap.size)
  generalize hAe : va_A [kX7 h ua ub uc ud ue (z 0), kX1 ub (z 3), kX8 uc vc1 vc2 vc3 vc4 vc5 (z 4), kX10 ud vd (z 9), aI y vd 32 (z 10)] s.heap.size = A at hD ⊢
  have hA : ∀ q : Nat, s.heap.size ≤ q → A q := fun q h => by rw [← hAe]; exact Or.inr h
  have hS : va_S A s.heap s.heap [] := va_S.rf
  have hP : va_P G vwCl [kX7 h ua ub uc ud ue (z 0), kX1 ub (z 3), kX8 uc vc1 vc2 vc3 vc4 vc5 (z 4), kX10 ud vd (z 9), aI y vd 32 (z 10)] s.heap := hP
  have hl := lv_entry ([.ref h]) (n := 1) (Nat.le_of_ble_eq_true rfl)
  rw [lg_entry_eq]
  generalize (lg_sl ([.ref h]) ++ List.replicate (1 - (lg_sl ([.ref h])).length) Slot.unset).toArray = ls at hl ⊢
  have hl : lv_has ls 1 [(0, .ref h)] := hl
  refine lv_aload_n hx hb dX7_endTrial_0 rfl (lv_at hl 0 rfl) ?_
  refine va_get (D := G) (ci := 5) (v := .ref ud) (C := RX7) (T := TX7) (N := 6) hx hb hts i_X7 hown hK hP 0 rfl rfl 4 (by decide) (hts (.fieldLink RX7 35 "RelayTuner$State" "trials" "LRelayTuner$Trials;") (by decide +kernel)) (fun _ h9 => h9) rfl dX7_endTrial_1 ?_
  refine va_getN (D := G) (ci := 8) (v := .int ((z 9) 0)) (C := RX10) (T := TX10) (N := 2) hx hb hts i_X10 hown hK hP 3 rfl rfl 0 (by decide) (NN.f hN (a := RX7) (i := 105) (b := "RelayTuner$Trials") (n := "count") (d := "I") (by decide +kernel)) (fun _ h9 => h9) rfl dX7_endTrial_4 ?_
  refine lv_if_ne (tgt := 12) hx hb dX7_endTrial_7 (by decide) (fun c_1 => ?_) (fun c_1 => ?_)
  · refine lv_aload_n hx hb dX7_endTrial_12 rfl (lv_at hl 0 rfl) ?_
    refine lv_aload_n hx hb dX7_endTrial_13 rfl (lv_at hl 0 rfl) ?_
    refine va_get (D := G) (ci := 5) (v := .ref ud) (C := RX7) (T := TX7) (N := 6) hx hb hts i_X7 hown hK hP 0 rfl rfl 4 (by decide) (hts (.fieldLink RX7 35 "RelayTuner$State" "trials" "LRelayTuner$Trials;") (by decide +kernel)) (fun _ h9 => h9) rfl dX7_endTrial_14 ?_
    refine lv_aload_n hx hb dX7_endTrial_17 rfl (lv_at hl 0 rfl) ?_
    refine va_get (D := G) (ci := 5) (v := .ref ub) (C := RX7) (T := TX7) (N := 6) hx hb hts i_X7 hown hK hP 0 rfl rfl 2 (by decide) (hts (.fieldLink RX7 21 "RelayTuner$State" "control" "LRelayTuner$Control;") (by decide +kernel)) (fun _ h9 => h9) rfl dX7_endTrial_18 ?_
    refine cl_Hi (wr := [kX7 h ua ub uc ud ue (z 0), kX8 uc vc1 vc2 vc3 vc4 vc5 (z 4)]) (fun _ : Unit => [kX7 h ua ub uc ud ue (z 0), kX1 ub (s_X10_close_w2 (z 9) (z 10) (z 3)), kX8 uc vc1 vc2 vc3 vc4 vc5 (z 4), kX10 ud vd (s_X10_close_w0 (z 9)), aI y vd 32 (z 10)]) [3, 4, 1] [0, 2] [0, 4, 1, 2, 3] (va_runV (As := [.ref ub]) (rest := [.ref h]) ⟨hx, hb, hml, hown, hts⟩ (c_X10_close l G y ud ub vd (z 9) (z 10) (z 3) s.heap.size) (cwV 1 hts gX7_endTrial_X10_close rfl rfl rfl (by decide +kernel) ⟨Nat.le_of_ble_eq_true rfl, Nat.le_of_ble_eq_true rfl⟩) (PH_V (hP.sub (ws' := [kX10 ud vd (z 9), aI y vd 32 (z 10), kX1 ub (z 3)]) [3, 4, 1] rfl) hK hN (hD.sub (ws' := [kX10 ud vd (z 9), aI y vd 32 (z 10), kX1 ub (z 3)]) [3, 4, 1] (by decide) rfl) (ci := 8) (q0 := 0) rfl rfl) rfl rfl hl.1 rfl (lv_room (Nat.le_of_ble_eq_true rfl)) dX7_endTrial_21 ⟨Nat.le_of_ble_eq_true rfl, Nat.le_of_ble_eq_true rfl⟩) hP hD hS hA rfl rfl rfl (by decide) rfl (fun _ => rfl) (fun _ H locs hP hD hS => ?_)
    have hP : va_P G vwCl [kX7 h ua ub uc ud ue (z 0), kX1 ub (s_X10_close_w2 (z 9) (z 10) (z 3)), kX8 uc vc1 vc2 vc3 vc4 vc5 (z 4), kX10 ud vd (s_X10_close_w0 (z 9)), aI y vd 32 (z 10)] H := hP
    have hD : va_D A [kX7 h ua ub uc ud ue (z 0), kX1 ub (s_X10_close_w2 (z 9) (z 10) (z 3)), kX8 uc vc1 vc2 vc3 vc4 vc5 (z 4), kX10 ud vd (s_X10_close_w0 (z 9)), aI y vd 32 (z 10)] := hD
    refine cl_Hi (wr := [kX10 ud vd (s_X10_close_w0 (z 9)), aI y vd 32 (z 10)]) (fun _ : Unit => [kX7 h ua ub uc ud ue (s_X7_changeMode_z (s_X10_close_r (z 9) (z 10) (z 3)) (zU (zU z 3 (s_X10_close_w2 (z 9) (z 10) (z 3))) 9 (s_X10_close_w0 (z 9))) 0), kX1 ub (s_X7_changeMode_z (s_X10_close_r (z 9) (z 10) (z 3)) (zU (zU z 3 (s_X10_close_w2 (z 9) (z 10) (z 3))) 9 (s_X10_close_w0 (z 9))) 3), kX8 uc vc1 vc2 vc3 vc4 vc5 (s_X7_changeMode_z (s_X10_close_r (z 9) (z 10) (z 3)) (zU (zU z 3 (s_X10_close_w2 (z 9) (z 10) (z 3))) 9 (s_X10_close_w0 (z 9))) 4), kX10 ud vd (s_X10_close_w0 (z 9)), aI y vd 32 (z 10)]) [0, 1, 2] [3, 4] [2, 3, 4, 0, 1] (va_runV (As := [.int (s_X10_close_r (z 9) (z 10) (z 3))]) (rest := []) ⟨hx, hb, hml, hown, hts⟩ (c_X7_changeMode l G y h (s_X10_close_r (z 9) (z 10) (z 3)) ua ub uc ud ue (zU (zU z 3 (s_X10_close_w2 (z 9) (z 10) (z 3))) 9 (s_X10_close_w0 (z 9))) vc1 vc2 vc3 vc4 vc5 H.size) (cwV 1 hts gX7_endTrial_X7_changeMode rfl rfl rfl (by decide +kernel) ⟨Nat.le_of_ble_eq_true rfl, Nat.le_of_ble_eq_true rfl⟩) (PH_V (hP.sub (ws' := [kX7 h ua ub uc ud ue (z 0), kX1 ub (s_X10_close_w2 (z 9) (z 10) (z 3)), kX8 uc vc1 vc2 vc3 vc4 vc5 (z 4)]) [0, 1, 2] rfl) hK hN (hD.sub (ws' := [kX7 h ua ub uc ud ue (z 0), kX1 ub (s_X10_close_w2 (z 9) (z 10) (z 3)), kX8 uc vc1 vc2 vc3 vc4 vc5 (z 4)]) [0, 1, 2] (by decide) rfl) (ci := 5) (q0 := 0) rfl rfl) rfl rfl hl.1 rfl (lv_room (Nat.le_of_ble_eq_true rfl)) dX7_endTrial_24 ⟨Nat.le_of_ble_eq_true rfl, Nat.le_of_ble_eq_true rfl⟩) hP hD hS hA rfl rfl rfl (by decide) rfl (fun _ => rfl) (fun _ H locs hP hD hS => ?_)
    have hP : va_P G vwCl [kX7 h ua ub uc ud ue (s_X7_changeMode_z (s_X10_close_r (z 9) (z 10) (z 3)) (zU (zU z 3 (s_X10_close_w2 (z 9) (z 10) (z 3))) 9 (s_X10_close_w0 (z 9))) 0), kX1 ub (s_X7_changeMode_z (s_X10_close_r (z 9) (z 10) (z 3)) (zU (zU z 3 (s_X10_close_w2 (z 9) (z 10) (z 3))) 9 (s_X10_close_w0 (z 9))) 3), kX8 uc vc1 vc2 vc3 vc4 vc5 (s_X7_changeMode_z (s_X10_close_r (z 9) (z 10) (z 3)) (zU (zU z 3 (s_X10_close_w2 (z 9) (z 10) (z 3))) 9 (s_X10_close_w0 (z 9))) 4), kX10 ud vd (s_X7_changeMode_z (s_X10_close_r (z 9) (z 10) (z 3)) (zU (zU z 3 (s_X10_close_w2 (z 9) (z 10) (z 3))) 9 (s_X10_close_w0 (z 9))) 9), aI y vd 32 (s_X7_changeMode_z (s_X10_close_r (z 9) (z 10) (z 3)) (zU (zU z 3 (s_X10_close_w2 (z 9) (z 10) (z 3))) 9 (s_X10_close_w0 (z 9))) 10)] H := hP
    have hD : va_D A [kX7 h ua ub uc ud ue (s_X7_changeMode_z (s_X10_close_r (z 9) (z 10) (z 3)) (zU (zU z 3 (s_X10_close_w2 (z 9) (z 10) (z 3))) 9 (s_X10_close_w0 (z 9))) 0), kX1 ub (s_X7_changeMode_z (s_X10_close_r (z 9) (z 10) (z 3)) (zU (zU z 3 (s_X10_close_w2 (z 9) (z 10) (z 3))) 9 (s_X10_close_w0 (z 9))) 3), kX8 uc vc1 vc2 vc3 vc4 vc5 (s_X7_changeMode_z (s_X10_close_r (z 9) (z 10) (z 3)) (zU (zU z 3 (s_X10_close_w2 (z 9) (z 10) (z 3))) 9 (s_X10_close_w0 (z 9))) 4), kX10 ud vd (s_X7_changeMode_z (s_X10_close_r (z 9) (z 10) (z 3)) (zU (zU z 3 (s_X10_close_w2 (z 9) (z 10) (z 3))) 9 (s_X10_close_w0 (z 9))) 9), aI y vd 32 (s_X7_changeMode_z (s_X10_close_r (z 9) (z 10) (z 3)) (zU (zU z 3 (s_X10_close_w2 (z 9) (z 10) (z 3))) 9 (s_X10_close_w0 (z 9))) 10)] := hD
    refine lv_pop hx hb dX7_endTrial_27 rfl ?_
    refine lv_iconst (v := 1) hx hb dX7_endTrial_28 (by decide) ?_
    exact W.zret hx hb hr (nz_bool (Or.inr rfl)) (end_Hi () hP hD hS (by unfold s_X7_endTrial_r; exact (if_neg c_1).symm) (congr (congr (congr (congr (congrArg (fun (z0 : Nat → Int32) (z1 : Nat → Int32) (z2 : Nat → Int32) (z3 : Nat → Int32) (z4 : Nat → Int32) => [kX7 h ua ub uc ud ue z0, kX1 ub z1, kX8 uc vc1 vc2 vc3 vc4 vc5 z2, kX10 ud vd z3, aI y vd 32 z4]) (by unfold s_X7_endTrial_z; exact (if_neg c_1).symm)) (by unfold s_X7_endTrial_z; exact (if_neg c_1).symm)) (by unfold s_X7_endTrial_z; exact (if_neg c_1).symm)) (by unfold s_X7_endTrial_z; exact (if_neg c_1).symm)) (by unfold s_X7_endTrial_z; exact (if_neg c_1).symm))) hS.2.2 dX7_endTrial_29
  · refine lv_iconst (v := 0) hx hb dX7_endTrial_10 (by decide) ?_
    exact W.zret hx hb hr (nz_bool (Or.inl rfl)) (end_Hi () hP hD hS (by unfold s_X7_endTrial_r; exact (if_pos c_1).symm) (congr (congr (congr (congr (congrArg (fun (z0 : Nat → Int32) (z1 : Nat → Int32) (z2 : Nat → Int32) (z3 : Nat → Int32) (z4 : Nat → Int32) => [kX7 h ua ub uc ud ue z0, kX1 ub z1, kX8 uc vc1 vc2 vc3 vc4 vc5 z2, kX10 ud vd z3, aI y vd 32 z4]) (by unfold s_X7_endTrial_z; exact (if_pos c_1).symm)) (by unfold s_X7_endTrial_z; exact (if_pos c_1).symm)) (by unfold s_X7_endTrial_z; exact (if_pos c_1).symm)) (by unfold s_X7_endTrial_z; exact (if_pos c_1).symm)) (by unfold s_X7_endTrial_z; exact (if_pos c_1).symm))) hS.2.2 dX7_endTrial_11

def s_X7_passOne_z (z : Nat → Nat → Int32) : Nat → Nat → Int32 := fun i => match i with
  | 0 => (upd (z 0) 0 (((z 0) 0) + 1))
  | 1 => (s_X3_work_w0 (s_X1_outputAt_r ((z 1) 5) ((z 1) 4) (z 3)) (z 1) (z 2))
  | 2 => (s_X3_work_w1 (s_X1_outputAt_r ((z 1) 5) ((z 1) 4) (z 3)) (z 1) (z 2))
  | 3 => (s_X1_outputAt_w0 ((z 1) 5) ((z 1) 4) (z 3))
  | 4 => (let v_2 : Nat → Int32 := (if ((s_X1_outputAt_w0 ((z 1) 5) ((z 1) 4) (z 3)) 6) = 1 then (s_X8_watch_w0 ((z 1) 5) ((s_X3_work_w0 (s_X1_outputAt_r ((z 1) 5) ((z 1) 4) (z 3)) (z 1) (z 2)) 5) ((s_X1_outputAt_w0 ((z 1) 5) ((z 1) 4) (z 3)) 0) (((z 0) 0) + 1) (z 4)) else (z 4)); v_2)
  | 5 => (let v_3 : Nat → Int32 := (if ((s_X1_outputAt_w0 ((z 1) 5) ((z 1) 4) (z 3)) 6) = 1 then (s_X8_watch_w1 ((z 1) 5) ((s_X3_work_w0 (s_X1_outputAt_r ((z 1) 5) ((z 1) 4) (z 3)) (z 1) (z 2)) 5) ((s_X1_outputAt_w0 ((z 1) 5) ((z 1) 4) (z 3)) 0) (((z 0) 0) + 1) (z 4) (z 5)) else (z 5)); v_3)
  | 6 => (let v_4 : Nat → Int32 := (if ((s_X1_outputAt_w0 ((z 1) 5) ((z 1) 4) (z 3)) 6) = 1 then (s_X8_watch_w2 ((z 1) 5) ((s_X3_work_w0 (s_X1_outputAt_r ((z 1) 5) ((z 1) 4) (z 3)) (z 1) (z 2)) 5) ((s_X1_outputAt_w0 ((z 1) 5) ((z 1) 4) (z 3)) 0) (z 4) (z 6)) else (z 6)); v_4)
  | 7 => (let v_5 : Nat → Int32 := (if ((s_X1_outputAt_w0 ((z 1) 5) ((z 1) 4) (z 3)) 6) = 1 then (s_X8_watch_w3 ((z 1) 5) ((s_X3_work_w0 (s_X1_outputAt_r ((z 1) 5) ((z 1) 4) (z 3)) (z 1) (z 2)) 5) ((s_X1_outputAt_w0 ((z 1) 5) ((z 1) 4) (z 3)) 0) (z 4) (z 7)) else (z 7)); v_5)
  | 8 => (let v_6 : Nat → Int32 := (if ((s_X1_outputAt_w0 ((z 1) 5) ((z 1) 4) (z 3)) 6) = 1 then (s_X8_watch_w4 ((z 1) 5) ((s_X3_work_w0 (s_X1_outputAt_r ((z 1) 5) ((z 1) 4) (z 3)) (z 1) (z 2)) 5) ((s_X1_outputAt_w0 ((z 1) 5) ((z 1) 4) (z 3)) 0) (((z 0) 0) + 1) (z 4) (z 8)) else (z 8)); v_6)
  | 11 => (let v_7 : Nat → Int32 := (if ((s_X1_outputAt_w0 ((z 1) 5) ((z 1) 4) (z 3)) 6) = 1 then (if (s_X8_watch_r ((z 1) 5) ((s_X3_work_w0 (s_X1_outputAt_r ((z 1) 5) ((z 1) 4) (z 3)) (z 1) (z 2)) 5) ((s_X1_outputAt_w0 ((z 1) 5) ((z 1) 4) (z 3)) 0)) = 0 then (s_X0_addTick_w0 (s_X1_outputAt_r ((z 1) 5) ((z 1) 4) (z 3)) (z 11)) else (upd (s_X0_addTick_w0 (s_X1_outputAt_r ((z 1) 5) ((z 1) 4) (z 3)) (z 11)) 4 (((s_X0_addTick_w0 (s_X1_outputAt_r ((z 1) 5) ((z 1) 4) (z 3)) (z 11)) 4) + 1))) else (s_X0_addTick_w0 (s_X1_outputAt_r ((z 1) 5) ((z 1) 4) (z 3)) (z 11))); v_7)
  | 12 => (s_X0_addTick_w1 ((s_X1_outputAt_w0 ((z 1) 5) ((z 1) 4) (z 3)) 6) (z 12))
  | _ => z i
abbrev rmX7_passOne : Room := ({ frames := 3, cells := 0, slots := 0, locals := 70 } : Room)
set_option maxHeartbeats 4000000 in
set_option maxRecDepth 100000 in
theorem c_X7_passOne (l : Launch) (G : va_G) (y : Nat → ClassId) (h : Nat) (ua : Nat) (ub : Nat) (uc : Nat) (ud : Nat) (ue : Nat) (z : Nat → Nat → Int32) (va : Nat) (vc1 : Nat) (vc2 : Nat) (vc3 : Nat) (vc4 : Nat) (vc5 : Nat) (ve : Nat) (sz : Nat) (hw : vp_in (z 4 0) 21) (hn : vp_in (z 1 7) 10) (hr : z 3 7 = 0 ∨ z 3 7 = 1) : Met l yX7_passOne wsX7_passOne rmX7_passOne (PH G y [.ref h] [kX7 h ua ub uc ud ue (z 0), kX3 ua va (z 1), aI y va 10 (z 2), kX1 ub (z 3), kX8 uc vc1 vc2 vc3 vc4 vc5 (z 4), aI y vc1 20 (z 5), aI y vc2 20 (z 6), aI y vc3 20 (z 7), aI y vc4 20 (z 8), kX0 ue ve (z 11), aI y ve 3 (z 12)] sz) (QHv G (fun _ : Unit => [kX7 h ua ub uc ud ue (s_X7_passOne_z z 0), kX3 ua va (s_X7_passOne_z z 1), aI y va 10 (s_X7_passOne_z z 2), kX1 ub (s_X7_passOne_z z 3), kX8 uc vc1 vc2 vc3 vc4 vc5 (s_X7_passOne_z z 4), aI y vc1 20 (s_X7_passOne_z z 5), aI y vc2 20 (s_X7_passOne_z z 6), aI y vc3 20 (s_X7_passOne_z z 7), aI y vc4 20 (s_X7_passOne_z z 8), kX0 ue ve (s_X7_passOne_z z 11), aI y ve 3 (s_X7_passOne_z z 12)]) (va_A [kX7 h ua ub uc ud ue (z 0), kX3 ua va (z 1), aI y va 10 (z 2), kX1 ub (z 3), kX8 uc vc1 vc2 vc3 vc4 vc5 (z 4), aI y vc1 20 (z 5), aI y vc2 20 (z 6), aI y vc3 20 (z 7), aI y vc4 20 (z 8), kX0 ue ve (z 11), aI y ve 3 (z 12)] sz)) 0 0 (va_A [kX7 h ua ub uc ud ue (z 0), kX3 ua va (z 1), aI y va 10 (z 2), kX1 ub (z 3), kX8 uc vc1 vc2 vc3 vc4 vc5 (z 4), aI y vc1 20 (z 5), aI y vc2 20 (z 6), aI y vc3 20 (z 7), aI y vc4 20 (z 8), kX0 ue ve (z 11), aI y ve 3 (z 12)] sz) := by
  refine Met.ofW (cc := cX7_passOne) (maxL := 3) (ret := none) (by decide) rfl ?_
  intro p e s m args below meth c s₁ B hml hv
  obtain ⟨rfl, hsz, hP, ⟨hK, hN⟩, hD0⟩ := hv
  have hx := B.exec
  have hb := B.bytes
  have hr := B.returns
  have hts := atoms_spec (ws := wsX7_passOne) B.pre
  have hown : s.vm.findClass RX7 = some m.cls := findClass_of_methodNamed B.named
  have hlocks := B.notSynchronized
  have i_X0 : ∀ w ∈ u_ws RX0 TX0 6, w ∈ wsX7_passOne := by decide +kernel
  have i_X1 : ∀ w ∈ u_ws RX1 TX1 11, w ∈ wsX7_passOne := by decide +kernel
  have i_X3 : ∀ w ∈ u_ws RX3 TX3 8, w ∈ wsX7_passOne := by decide +kernel
  have i_X7 : ∀ w ∈ u_ws RX7 TX7 6, w ∈ wsX7_passOne := by decide +kernel
  subst hsz
  have hD := hD0.self (sz := s.heap.size)
  generalize hAe : va_A [kX7 h ua ub uc ud ue (z 0), kX3 ua va (z 1), aI y va 10 (z 2), kX1 ub (z 3), kX8 uc vc1 vc2 vc3 vc4 vc5 (z 4), aI y vc1 20 (z 5), aI y vc2 20 (z 6), aI y vc3 20 (z 7), aI y vc4 20 (z 8), kX0 ue ve (z 11), aI y ve 3 (z 12)] s.heap.size = A at hD ⊢
  have hA : ∀ q : Nat, s.heap.size ≤ q → A q := fun q h => by rw [← hAe]; exact Or.inr h
  have hS : va_S A s.heap s.heap [] := va_S.rf
  have hP : va_P G vwCl [kX7 h ua ub uc ud ue (z 0), kX3 ua va (z 1), aI y va 10 (z 2), kX1 ub (z 3), kX8 uc vc1 vc2 vc3 vc4 vc5 (z 4), aI y vc1 20 (z 5), aI y vc2 20 (z 6), aI y vc3 20 (z 7), aI y vc4 20 (z 8), kX0 ue ve (z 11), aI y ve 3 (z 12)] s.heap := hP
  have hl := lv_entry ([.ref h]) (n := 3) (Nat.le_of_ble_eq_true rfl)
  rw [lg_entry_eq]
  generalize (lg_sl ([.ref h]) ++ List.replicate (3 - (lg_sl ([.ref h])).length) Slot.unset).toArray = ls at hl ⊢
  have hl : lv_has ls 3 [(0, .ref h)] := hl
  obtain ⟨QQ, hQQ⟩ : ∃ zq9, zq9 = MQ below (QHv G (fun _ : Unit => [kX7 h ua ub uc ud ue (s_X7_passOne_z z 0), kX3 ua va (s_X7_passOne_z z 1), aI y va 10 (s_X7_passOne_z z 2), kX1 ub (s_X7_passOne_z z 3), kX8 uc vc1 vc2 vc3 vc4 vc5 (s_X7_passOne_z z 4), aI y vc1 20 (s_X7_passOne_z z 5), aI y vc2 20 (s_X7_passOne_z z 6), aI y vc3 20 (s_X7_passOne_z z 7), aI y vc4 20 (s_X7_passOne_z z 8), kX0 ue ve (s_X7_passOne_z z 11), aI y ve 3 (s_X7_passOne_z z 12)]) A) ([.ref h] : List Value).toArray s 0 0 A := ⟨_, rfl⟩
  rw [← hQQ]
  refine lv_aload_n hx hb dX7_passOne_0 rfl (lv_at hl 0 rfl) ?_
  refine va_get (D := G) (ci := 5) (v := .ref ua) (C := RX7) (T := TX7) (N := 6) hx hb hts i_X7 hown hK hP 0 rfl rfl 1 (by decide) (hts (.fieldLink RX7 12 "RelayTuner$State" "plant" "LRelayTuner$Plant;") (by decide +kernel)) (fun _ h9 => h9) rfl dX7_passOne_1 ?_
  refine va_getN (D := G) (ci := 3) (v := .int ((z 1) 5)) (C := RX3) (T := TX3) (N := 8) hx hb hts i_X3 hown hK hP 1 rfl rfl 5 (by decide) (NN.f hN (a := RX7) (i := 88) (b := "RelayTuner$Plant") (n := "temperature") (d := "I") (by decide +kernel)) (fun _ h9 => h9) rfl dX7_passOne_4 ?_
  refine lv_istore_n (lv' := [(1, .int ((z 1) 5)), (0, .ref h)]) hx hb dX7_passOne_7 rfl hl (by decide) rfl (fun ls hl => ?_)
  refine lv_aload_n hx hb dX7_passOne_8 rfl (lv_at hl 1 rfl) ?_
  refine va_get (D := G) (ci := 5) (v := .ref ub) (C := RX7) (T := TX7) (N := 6) hx hb hts i_X7 hown hK hP 0 rfl rfl 2 (by decide) (hts (.fieldLink RX7 21 "RelayTuner$State" "control" "LRelayTuner$Control;") (by decide +kernel)) (fun _ h9 => h9) rfl dX7_passOne_9 ?_
  refine lv_iload_n hx hb dX7_passOne_12 rfl (lv_at hl 0 rfl) ?_
  refine lv_aload_n hx hb dX7_passOne_13 rfl (lv_at hl 1 rfl) ?_
  refine va_get (D := G) (ci := 5) (v := .ref ua) (C := RX7) (T := TX7) (N := 6) hx hb hts i_X7 hown hK hP 0 rfl rfl 1 (by decide) (hts (.fieldLink RX7 12 "RelayTuner$State" "plant" "LRelayTuner$Plant;") (by decide +kernel)) (fun _ h9 => h9) rfl dX7_passOne_14 ?_
  refine va_getN (D := G) (ci := 3) (v := .int ((z 1) 4)) (C := RX3) (T := TX3) (N := 8) hx hb hts i_X3 hown hK hP 1 rfl rfl 4 (by decide) (NN.f hN (a := RX7) (i := 78) (b := "RelayTuner$Plant") (n := "fullPower") (d := "I") (by decide +kernel)) (fun _ h9 => h9) rfl dX7_passOne_17 ?_
  refine cl_Hi (wr := [kX7 h ua ub uc ud ue (z 0), kX3 ua va (z 1), aI y va 10 (z 2), kX8 uc vc1 vc2 vc3 vc4 vc5 (z 4), aI y vc1 20 (z 5), aI y vc2 20 (z 6), aI y vc3 20 (z 7), aI y vc4 20 (z 8), kX0 ue ve (z 11), aI y ve 3 (z 12)]) (fun _ : Unit => [kX7 h ua ub uc ud ue (z 0), kX3 ua va (z 1), aI y va 10 (z 2), kX1 ub (s_X1_outputAt_w0 ((z 1) 5) ((z 1) 4) (z 3)), kX8 uc vc1 vc2 vc3 vc4 vc5 (z 4), aI y vc1 20 (z 5), aI y vc2 20 (z 6), aI y vc3 20 (z 7), aI y vc4 20 (z 8), kX0 ue ve (z 11), aI y ve 3 (z 12)]) [3] [0, 1, 2, 4, 5, 6, 7, 8, 9, 10] [0, 1, 2, 10, 3, 4, 5, 6, 7, 8, 9] (va_runV (As := [.int ((z 1) 5), .int ((z 1) 4)]) (rest := []) ⟨hx, hb, hml, hown, hts⟩ (c_X1_outputAt l G y ub ((z 1) 5) ((z 1) 4) (z 3) s.heap.size (by assumption)) (cwV 2 hts gX7_passOne_X1_outputAt rfl rfl rfl (by decide +kernel) ⟨Nat.le_of_ble_eq_true rfl, Nat.le_of_ble_eq_true rfl⟩) (PH_V (hP.sub (ws' := [kX1 ub (z 3)]) [3] rfl) hK hN (hD.sub (ws' := [kX1 ub (z 3)]) [3] (by decide) rfl) (ci := 1) (q0 := 0) rfl rfl) rfl rfl hl.1 rfl (lv_room (Nat.le_of_ble_eq_true rfl)) dX7_passOne_20 ⟨Nat.le_of_ble_eq_true rfl, Nat.le_of_ble_eq_true rfl⟩) hP hD hS hA rfl rfl rfl (by decide) rfl (fun _ => rfl) (fun _ H locs hP hD hS => ?_)
  have hP : va_P G vwCl [kX7 h ua ub uc ud ue (z 0), kX3 ua va (z 1), aI y va 10 (z 2), kX1 ub (s_X1_outputAt_w0 ((z 1) 5) ((z 1) 4) (z 3)), kX8 uc vc1 vc2 vc3 vc4 vc5 (z 4), aI y vc1 20 (z 5), aI y vc2 20 (z 6), aI y vc3 20 (z 7), aI y vc4 20 (z 8), kX0 ue ve (z 11), aI y ve 3 (z 12)] H := hP
  have hD : va_D A [kX7 h ua ub uc ud ue (z 0), kX3 ua va (z 1), aI y va 10 (z 2), kX1 ub (s_X1_outputAt_w0 ((z 1) 5) ((z 1) 4) (z 3)), kX8 uc vc1 vc2 vc3 vc4 vc5 (z 4), aI y vc1 20 (z 5), aI y vc2 20 (z 6), aI y vc3 20 (z 7), aI y vc4 20 (z 8), kX0 ue ve (z 11), aI y ve 3 (z 12)] := hD
  refine lv_istore_n (lv' := [(2, .int (s_X1_outputAt_r ((z 1) 5) ((z 1) 4) (z 3))), (1, .int ((z 1) 5)), (0, .ref h)]) hx hb dX7_passOne_23 rfl hl (by decide) rfl (fun ls hl => ?_)
  refine lv_aload_n hx hb dX7_passOne_24 rfl (lv_at hl 2 rfl) ?_
  refine va_get (D := G) (ci := 5) (v := .ref ua) (C := RX7) (T := TX7) (N := 6) hx hb hts i_X7 hown hK hP 0 rfl rfl 1 (by decide) (hts (.fieldLink RX7 12 "RelayTuner$State" "plant" "LRelayTuner$Plant;") (by decide +kernel)) (fun _ h9 => h9) rfl dX7_passOne_25 ?_
  refine lv_iload_n hx hb dX7_passOne_28 rfl (lv_at hl 0 rfl) ?_
  refine cl_Hv (wr := [kX7 h ua ub uc ud ue (z 0), kX1 ub (s_X1_outputAt_w0 ((z 1) 5) ((z 1) 4) (z 3)), kX8 uc vc1 vc2 vc3 vc4 vc5 (z 4), aI y vc1 20 (z 5), aI y vc2 20 (z 6), aI y vc3 20 (z 7), aI y vc4 20 (z 8), kX0 ue ve (z 11), aI y ve 3 (z 12)]) (fun _ : Unit => [kX7 h ua ub uc ud ue (z 0), kX3 ua va (s_X3_work_w0 (s_X1_outputAt_r ((z 1) 5) ((z 1) 4) (z 3)) (z 1) (z 2)), aI y va 10 (s_X3_work_w1 (s_X1_outputAt_r ((z 1) 5) ((z 1) 4) (z 3)) (z 1) (z 2)), kX1 ub (s_X1_outputAt_w0 ((z 1) 5) ((z 1) 4) (z 3)), kX8 uc vc1 vc2 vc3 vc4 vc5 (z 4), aI y vc1 20 (z 5), aI y vc2 20 (z 6), aI y vc3 20 (z 7), aI y vc4 20 (z 8), kX0 ue ve (z 11), aI y ve 3 (z 12)]) [1, 2] [0, 3, 4, 5, 6, 7, 8, 9, 10] [0, 9, 10, 1, 2, 3, 4, 5, 6, 7, 8] (va_runV (As := [.int (s_X1_outputAt_r ((z 1) 5) ((z 1) 4) (z 3))]) (rest := []) ⟨hx, hb, hml, hown, hts⟩ (c_X3_work l G y ua (s_X1_outputAt_r ((z 1) 5) ((z 1) 4) (z 3)) va (z 1) (z 2) H.size (by assumption)) (cwV 1 hts gX7_passOne_X3_work rfl rfl rfl (by decide +kernel) ⟨Nat.le_of_ble_eq_true rfl, Nat.le_of_ble_eq_true rfl⟩) (PH_V (hP.sub (ws' := [kX3 ua va (z 1), aI y va 10 (z 2)]) [1, 2] rfl) hK hN (hD.sub (ws' := [kX3 ua va (z 1), aI y va 10 (z 2)]) [1, 2] (by decide) rfl) (ci := 3) (q0 := 0) rfl rfl) rfl rfl hl.1 rfl (lv_room (Nat.le_of_ble_eq_true rfl)) dX7_passOne_29 ⟨Nat.le_of_ble_eq_true rfl, Nat.le_of_ble_eq_true rfl⟩) hP hD hS hA rfl rfl rfl (by decide) rfl (fun _ => rfl) (fun _ H locs hP hD hS => ?_)
  have hP : va_P G vwCl [kX7 h ua ub uc ud ue (z 0), kX3 ua va (s_X3_work_w0 (s_X1_outputAt_r ((z 1) 5) ((z 1) 4) (z 3)) (z 1) (z 2)), aI y va 10 (s_X3_work_w1 (s_X1_outputAt_r ((z 1) 5) ((z 1) 4) (z 3)) (z 1) (z 2)), kX1 ub (s_X1_outputAt_w0 ((z 1) 5) ((z 1) 4) (z 3)), kX8 uc vc1 vc2 vc3 vc4 vc5 (z 4), aI y vc1 20 (z 5), aI y vc2 20 (z 6), aI y vc3 20 (z 7), aI y vc4 20 (z 8), kX0 ue ve (z 11), aI y ve 3 (z 12)] H := hP
  have hD : va_D A [kX7 h ua ub uc ud ue (z 0), kX3 ua va (s_X3_work_w0 (s_X1_outputAt_r ((z 1) 5) ((z 1) 4) (z 3)) (z 1) (z 2)), aI y va 10 (s_X3_work_w1 (s_X1_outputAt_r ((z 1) 5) ((z 1) 4) (z 3)) (z 1) (z 2)), kX1 ub (s_X1_outputAt_w0 ((z 1) 5) ((z 1) 4) (z 3)), kX8 uc vc1 vc2 vc3 vc4 vc5 (z 4), aI y vc1 20 (z 5), aI y vc2 20 (z 6), aI y vc3 20 (z 7), aI y vc4 20 (z 8), kX0 ue ve (z 11), aI y ve 3 (z 12)] := hD
  refine lv_aload_n hx hb dX7_passOne_32 rfl (lv_at hl 2 rfl) ?_
  refine lv_dup hx hb dX7_passOne_33 rfl ?_
  refine va_get (D := G) (ci := 5) (v := .int ((z 0) 0)) (C := RX7) (T := TX7) (N := 6) hx hb hts i_X7 hown hK hP 0 rfl rfl 0 (by decide) (hts (.fieldLink RX7 46 "RelayTuner$State" "clock" "I") (by decide +kernel)) (fun _ h9 => h9) rfl dX7_passOne_34 ?_
  refine lv_iconst (v := 1) hx hb dX7_passOne_37 (by decide) ?_
  refine lv_iadd hx hb dX7_passOne_38 ?_
  refine va_put (D := G) (ci := 5) (v := .int (((z 0) 0) + 1)) (ty := .int) (C := RX7) (T := TX7) (N := 6) hx hb hts i_X7 tyX7 tyX7_ok nmX7 hown hK hP hD hS 0 rfl rfl 0 (by decide) (hts (.fieldLink RX7 46 "RelayTuner$State" "clock" "I") (by decide +kernel)) (fun _ h9 => h9) rfl (by decide +kernel) rfl rfl (Nat.le_of_ble_eq_true rfl) dX7_passOne_39 (fun H locs hP hD hS => ?_)
  have hP : va_P G vwCl [kX7 h ua ub uc ud ue (upd (z 0) 0 (((z 0) 0) + 1)), kX3 ua va (s_X3_work_w0 (s_X1_outputAt_r ((z 1) 5) ((z 1) 4) (z 3)) (z 1) (z 2)), aI y va 10 (s_X3_work_w1 (s_X1_outputAt_r ((z 1) 5) ((z 1) 4) (z 3)) (z 1) (z 2)), kX1 ub (s_X1_outputAt_w0 ((z 1) 5) ((z 1) 4) (z 3)), kX8 uc vc1 vc2 vc3 vc4 vc5 (z 4), aI y vc1 20 (z 5), aI y vc2 20 (z 6), aI y vc3 20 (z 7), aI y vc4 20 (z 8), kX0 ue ve (z 11), aI y ve 3 (z 12)] H := hP
  have hD : va_D A [kX7 h ua ub uc ud ue (upd (z 0) 0 (((z 0) 0) + 1)), kX3 ua va (s_X3_work_w0 (s_X1_outputAt_r ((z 1) 5) ((z 1) 4) (z 3)) (z 1) (z 2)), aI y va 10 (s_X3_work_w1 (s_X1_outputAt_r ((z 1) 5) ((z 1) 4) (z 3)) (z 1) (z 2)), kX1 ub (s_X1_outputAt_w0 ((z 1) 5) ((z 1) 4) (z 3)), kX8 uc vc1 vc2 vc3 vc4 vc5 (z 4), aI y vc1 20 (z 5), aI y vc2 20 (z 6), aI y vc3 20 (z 7), aI y vc4 20 (z 8), kX0 ue ve (z 11), aI y ve 3 (z 12)] := hD
  refine lv_aload_n hx hb dX7_passOne_42 rfl (lv_at hl 2 rfl) ?_
  refine va_get (D := G) (ci := 5) (v := .ref ue) (C := RX7) (T := TX7) (N := 6) hx hb hts i_X7 hown hK hP 0 rfl rfl 5 (by decide) (hts (.fieldLink RX7 42 "RelayTuner$State" "accounts" "LRelayTuner$Accounts;") (by decide +kernel)) (fun _ h9 => h9) rfl dX7_passOne_43 ?_
  refine lv_aload_n hx hb dX7_passOne_46 rfl (lv_at hl 2 rfl) ?_
  refine va_get (D := G) (ci := 5) (v := .ref ub) (C := RX7) (T := TX7) (N := 6) hx hb hts i_X7 hown hK hP 0 rfl rfl 2 (by decide) (hts (.fieldLink RX7 21 "RelayTuner$State" "control" "LRelayTuner$Control;") (by decide +kernel)) (fun _ h9 => h9) rfl dX7_passOne_47 ?_
  refine va_getN (D := G) (ci := 1) (v := .int ((s_X1_outputAt_w0 ((z 1) 5) ((z 1) 4) (z 3)) 6)) (C := RX1) (T := TX1) (N := 11) hx hb hts i_X1 hown hK hP 3 rfl rfl 6 (by decide) (NN.f hN (a := RX7) (i := 85) (b := "RelayTuner$Control") (n := "mode") (d := "I") (by decide +kernel)) (fun _ h9 => h9) rfl dX7_passOne_50 ?_
  refine lv_iload_n hx hb dX7_passOne_53 rfl (lv_at hl 0 rfl) ?_
  refine cl_Hv (wr := [kX7 h ua ub uc ud ue (upd (z 0) 0 (((z 0) 0) + 1)), kX3 ua va (s_X3_work_w0 (s_X1_outputAt_r ((z 1) 5) ((z 1) 4) (z 3)) (z 1) (z 2)), aI y va 10 (s_X3_work_w1 (s_X1_outputAt_r ((z 1) 5) ((z 1) 4) (z 3)) (z 1) (z 2)), kX1 ub (s_X1_outputAt_w0 ((z 1) 5) ((z 1) 4) (z 3)), kX8 uc vc1 vc2 vc3 vc4 vc5 (z 4), aI y vc1 20 (z 5), aI y vc2 20 (z 6), aI y vc3 20 (z 7), aI y vc4 20 (z 8)]) (fun _ : Unit => [kX7 h ua ub uc ud ue (upd (z 0) 0 (((z 0) 0) + 1)), kX3 ua va (s_X3_work_w0 (s_X1_outputAt_r ((z 1) 5) ((z 1) 4) (z 3)) (z 1) (z 2)), aI y va 10 (s_X3_work_w1 (s_X1_outputAt_r ((z 1) 5) ((z 1) 4) (z 3)) (z 1) (z 2)), kX1 ub (s_X1_outputAt_w0 ((z 1) 5) ((z 1) 4) (z 3)), kX8 uc vc1 vc2 vc3 vc4 vc5 (z 4), aI y vc1 20 (z 5), aI y vc2 20 (z 6), aI y vc3 20 (z 7), aI y vc4 20 (z 8), kX0 ue ve (s_X0_addTick_w0 (s_X1_outputAt_r ((z 1) 5) ((z 1) 4) (z 3)) (z 11)), aI y ve 3 (s_X0_addTick_w1 ((s_X1_outputAt_w0 ((z 1) 5) ((z 1) 4) (z 3)) 6) (z 12))]) [9, 10] [0, 1, 2, 3, 4, 5, 6, 7, 8] [0, 1, 2, 3, 4, 5, 6, 7, 8, 9, 10] (va_runV (As := [.int ((s_X1_outputAt_w0 ((z 1) 5) ((z 1) 4) (z 3)) 6), .int (s_X1_outputAt_r ((z 1) 5) ((z 1) 4) (z 3))]) (rest := []) ⟨hx, hb, hml, hown, hts⟩ (c_X0_addTick l G y ue ((s_X1_outputAt_w0 ((z 1) 5) ((z 1) 4) (z 3)) 6) (s_X1_outputAt_r ((z 1) 5) ((z 1) 4) (z 3)) ve (z 11) (z 12) H.size) (cwV 2 hts gX7_passOne_X0_addTick rfl rfl rfl (by decide +kernel) ⟨Nat.le_of_ble_eq_true rfl, Nat.le_of_ble_eq_true rfl⟩) (PH_V (hP.sub (ws' := [kX0 ue ve (z 11), aI y ve 3 (z 12)]) [9, 10] rfl) hK hN (hD.sub (ws' := [kX0 ue ve (z 11), aI y ve 3 (z 12)]) [9, 10] (by decide) rfl) (ci := 0) (q0 := 0) rfl rfl) rfl rfl hl.1 rfl (lv_room (Nat.le_of_ble_eq_true rfl)) dX7_passOne_54 ⟨Nat.le_of_ble_eq_true rfl, Nat.le_of_ble_eq_true rfl⟩) hP hD hS hA rfl rfl rfl (by decide) rfl (fun _ => rfl) (fun _ H locs hP hD hS => ?_)
  have hP : va_P G vwCl [kX7 h ua ub uc ud ue (upd (z 0) 0 (((z 0) 0) + 1)), kX3 ua va (s_X3_work_w0 (s_X1_outputAt_r ((z 1) 5) ((z 1) 4) (z 3)) (z 1) (z 2)), aI y va 10 (s_X3_work_w1 (s_X1_outputAt_r ((z 1) 5) ((z 1) 4) (z 3)) (z 1) (z 2)), kX1 ub (s_X1_outputAt_w0 ((z 1) 5) ((z 1) 4) (z 3)), kX8 uc vc1 vc2 vc3 vc4 vc5 (z 4), aI y vc1 20 (z 5), aI y vc2 20 (z 6), aI y vc3 20 (z 7), aI y vc4 20 (z 8), kX0 ue ve (s_X0_addTick_w0 (s_X1_outputAt_r ((z 1) 5) ((z 1) 4) (z 3)) (z 11)), aI y ve 3 (s_X0_addTick_w1 ((s_X1_outputAt_w0 ((z 1) 5) ((z 1) 4) (z 3)) 6) (z 12))] H := hP
  have hD : va_D A [kX7 h ua ub uc ud ue (upd (z 0) 0 (((z 0) 0) + 1)), kX3 ua va (s_X3_work_w0 (s_X1_outputAt_r ((z 1) 5) ((z 1) 4) (z 3)) (z 1) (z 2)), aI y va 10 (s_X3_work_w1 (s_X1_outputAt_r ((z 1) 5) ((z 1) 4) (z 3)) (z 1) (z 2)), kX1 ub (s_X1_outputAt_w0 ((z 1) 5) ((z 1) 4) (z 3)), kX8 uc vc1 vc2 vc3 vc4 vc5 (z 4), aI y vc1 20 (z 5), aI y vc2 20 (z 6), aI y vc3 20 (z 7), aI y vc4 20 (z 8), kX0 ue ve (s_X0_addTick_w0 (s_X1_outputAt_r ((z 1) 5) ((z 1) 4) (z 3)) (z 11)), aI y ve 3 (s_X0_addTick_w1 ((s_X1_outputAt_w0 ((z 1) 5) ((z 1) 4) (z 3)) 6) (z 12))] := hD
  refine lv_aload_n hx hb dX7_passOne_57 rfl (lv_at hl 2 rfl) ?_
  refine va_get (D := G) (ci := 5) (v := .ref ub) (C := RX7) (T := TX7) (N := 6) hx hb hts i_X7 hown hK hP 0 rfl rfl 2 (by decide) (hts (.fieldLink RX7 21 "RelayTuner$State" "control" "LRelayTuner$Control;") (by decide +kernel)) (fun _ h9 => h9) rfl dX7_passOne_58 ?_
  refine va_getN (D := G) (ci := 1) (v := .int ((s_X1_outputAt_w0 ((z 1) 5) ((z 1) 4) (z 3)) 6)) (C := RX1) (T := TX1) (N := 11) hx hb hts i_X1 hown hK hP 3 rfl rfl 6 (by decide) (NN.f hN (a := RX7) (i := 85) (b := "RelayTuner$Control") (n := "mode") (d := "I") (by decide +kernel)) (fun _ h9 => h9) rfl dX7_passOne_61 ?_
  refine lv_iconst (v := 1) hx hb dX7_passOne_64 (by decide) ?_
  have J110_8 : ∀ (v_2 : Nat → Int32) (v_3 : Nat → Int32) (v_4 : Nat → Int32) (v_5 : Nat → Int32) (v_6 : Nat → Int32) (v_7 : Nat → Int32) (e_v_2 : v_2 = (if ((s_X1_outputAt_w0 ((z 1) 5) ((z 1) 4) (z 3)) 6) = 1 then (s_X8_watch_w0 ((z 1) 5) ((s_X3_work_w0 (s_X1_outputAt_r ((z 1) 5) ((z 1) 4) (z 3)) (z 1) (z 2)) 5) ((s_X1_outputAt_w0 ((z 1) 5) ((z 1) 4) (z 3)) 0) (((z 0) 0) + 1) (z 4)) else (z 4))) (e_v_3 : v_3 = (if ((s_X1_outputAt_w0 ((z 1) 5) ((z 1) 4) (z 3)) 6) = 1 then (s_X8_watch_w1 ((z 1) 5) ((s_X3_work_w0 (s_X1_outputAt_r ((z 1) 5) ((z 1) 4) (z 3)) (z 1) (z 2)) 5) ((s_X1_outputAt_w0 ((z 1) 5) ((z 1) 4) (z 3)) 0) (((z 0) 0) + 1) (z 4) (z 5)) else (z 5))) (e_v_4 : v_4 = (if ((s_X1_outputAt_w0 ((z 1) 5) ((z 1) 4) (z 3)) 6) = 1 then (s_X8_watch_w2 ((z 1) 5) ((s_X3_work_w0 (s_X1_outputAt_r ((z 1) 5) ((z 1) 4) (z 3)) (z 1) (z 2)) 5) ((s_X1_outputAt_w0 ((z 1) 5) ((z 1) 4) (z 3)) 0) (z 4) (z 6)) else (z 6))) (e_v_5 : v_5 = (if ((s_X1_outputAt_w0 ((z 1) 5) ((z 1) 4) (z 3)) 6) = 1 then (s_X8_watch_w3 ((z 1) 5) ((s_X3_work_w0 (s_X1_outputAt_r ((z 1) 5) ((z 1) 4) (z 3)) (z 1) (z 2)) 5) ((s_X1_outputAt_w0 ((z 1) 5) ((z 1) 4) (z 3)) 0) (z 4) (z 7)) else (z 7))) (e_v_6 : v_6 = (if ((s_X1_outputAt_w0 ((z 1) 5) ((z 1) 4) (z 3)) 6) = 1 then (s_X8_watch_w4 ((z 1) 5) ((s_X3_work_w0 (s_X1_outputAt_r ((z 1) 5) ((z 1) 4) (z 3)) (z 1) (z 2)) 5) ((s_X1_outputAt_w0 ((z 1) 5) ((z 1) 4) (z 3)) 0) (((z 0) 0) + 1) (z 4) (z 8)) else (z 8))) (e_v_7 : v_7 = (if ((s_X1_outputAt_w0 ((z 1) 5) ((z 1) 4) (z 3)) 6) = 1 then (if (s_X8_watch_r ((z 1) 5) ((s_X3_work_w0 (s_X1_outputAt_r ((z 1) 5) ((z 1) 4) (z 3)) (z 1) (z 2)) 5) ((s_X1_outputAt_w0 ((z 1) 5) ((z 1) 4) (z 3)) 0)) = 0 then (s_X0_addTick_w0 (s_X1_outputAt_r ((z 1) 5) ((z 1) 4) (z 3)) (z 11)) else (upd (s_X0_addTick_w0 (s_X1_outputAt_r ((z 1) 5) ((z 1) 4) (z 3)) (z 11)) 4 (((s_X0_addTick_w0 (s_X1_outputAt_r ((z 1) 5) ((z 1) 4) (z 3)) (z 11)) 4) + 1))) else (s_X0_addTick_w0 (s_X1_outputAt_r ((z 1) 5) ((z 1) 4) (z 3)) (z 11)))) (H : Heap) (locs : List Loc) (hP : va_P G vwCl [kX7 h ua ub uc ud ue (upd (z 0) 0 (((z 0) 0) + 1)), kX3 ua va (s_X3_work_w0 (s_X1_outputAt_r ((z 1) 5) ((z 1) 4) (z 3)) (z 1) (z 2)), aI y va 10 (s_X3_work_w1 (s_X1_outputAt_r ((z 1) 5) ((z 1) 4) (z 3)) (z 1) (z 2)), kX1 ub (s_X1_outputAt_w0 ((z 1) 5) ((z 1) 4) (z 3)), kX8 uc vc1 vc2 vc3 vc4 vc5 v_2, aI y vc1 20 v_3, aI y vc2 20 v_4, aI y vc3 20 v_5, aI y vc4 20 v_6, kX0 ue ve v_7, aI y ve 3 (s_X0_addTick_w1 ((s_X1_outputAt_w0 ((z 1) 5) ((z 1) 4) (z 3)) 6) (z 12))] H) (hD : va_D A [kX7 h ua ub uc ud ue (upd (z 0) 0 (((z 0) 0) + 1)), kX3 ua va (s_X3_work_w0 (s_X1_outputAt_r ((z 1) 5) ((z 1) 4) (z 3)) (z 1) (z 2)), aI y va 10 (s_X3_work_w1 (s_X1_outputAt_r ((z 1) 5) ((z 1) 4) (z 3)) (z 1) (z 2)), kX1 ub (s_X1_outputAt_w0 ((z 1) 5) ((z 1) 4) (z 3)), kX8 uc vc1 vc2 vc3 vc4 vc5 v_2, aI y vc1 20 v_3, aI y vc2 20 v_4, aI y vc3 20 v_5, aI y vc4 20 v_6, kX0 ue ve v_7, aI y ve 3 (s_X0_addTick_w1 ((s_X1_outputAt_w0 ((z 1) 5) ((z 1) 4) (z 3)) 6) (z 12))]) (hS : va_S A s.heap H locs) (ls : Array Slot) (hl : lv_has ls 3 []), W p l e (headSpec wsX7_passOne rmX7_passOne).room s m ([.ref h] : List Value).toArray below meth c H locs 0 0 QQ (F0 m 110 ls []) := by
    intro v_2 v_3 v_4 v_5 v_6 v_7 e_v_2 e_v_3 e_v_4 e_v_5 e_v_6 e_v_7 H locs hP hD hS ls hl
    rw [hQQ]
    exact W.vret hx hb hr (end_Hv () hP hD hS (congr (congr (congr (congr (congr (congr (congr (congr (congr (congr (congrArg (fun (z0 : Nat → Int32) (z1 : Nat → Int32) (z2 : Nat → Int32) (z3 : Nat → Int32) (z4 : Nat → Int32) (z5 : Nat → Int32) (z6 : Nat → Int32) (z7 : Nat → Int32) (z8 : Nat → Int32) (z9 : Nat → Int32) (z10 : Nat → Int32) => [kX7 h ua ub uc ud ue z0, kX3 ua va z1, aI y va 10 z2, kX1 ub z3, kX8 uc vc1 vc2 vc3 vc4 vc5 z4, aI y vc1 20 z5, aI y vc2 20 z6, aI y vc3 20 z7, aI y vc4 20 z8, kX0 ue ve z9, aI y ve 3 z10]) (by subst e_v_7; subst e_v_6; subst e_v_5; subst e_v_4; subst e_v_3; subst e_v_2; unfold s_X7_passOne_z; exact rfl)) (by subst e_v_7; subst e_v_6; subst e_v_5; subst e_v_4; subst e_v_3; subst e_v_2; unfold s_X7_passOne_z; exact rfl)) (by subst e_v_7; subst e_v_6; subst e_v_5; subst e_v_4; subst e_v_3; subst e_v_2; unfold s_X7_passOne_z; exact rfl)) (by subst e_v_7; subst e_v_6; subst e_v_5; subst e_v_4; subst e_v_3; subst e_v_2; unfold s_X7_passOne_z; exact rfl)) (by subst e_v_7; subst e_v_6; subst e_v_5; subst e_v_4; subst e_v_3; subst e_v_2; unfold s_X7_passOne_z; exact rfl)) (by subst e_v_7; subst e_v_6; subst e_v_5; subst e_v_4; subst e_v_3; subst e_v_2; unfold s_X7_passOne_z; exact rfl)) (by subst e_v_7; subst e_v_6; subst e_v_5; subst e_v_4; subst e_v_3; subst e_v_2; unfold s_X7_passOne_z; exact rfl)) (by subst e_v_7; subst e_v_6; subst e_v_5; subst e_v_4; subst e_v_3; subst e_v_2; unfold s_X7_passOne_z; exact rfl)) (by subst e_v_7; subst e_v_6; subst e_v_5; subst e_v_4; subst e_v_3; subst e_v_2; unfold s_X7_passOne_z; exact rfl)) (by subst e_v_7; subst e_v_6; subst e_v_5; subst e_v_4; subst e_v_3; subst e_v_2; unfold s_X7_passOne_z; exact rfl)) (by subst e_v_7; subst e_v_6; subst e_v_5; subst e_v_4; subst e_v_3; subst e_v_2; unfold s_X7_passOne_z; exact rfl))) hS.2.2 dX7_passOne_110
  refine lv_icmp_ne (tgt := 110) hx hb dX7_passOne_65 (by decide) (fun c_1 => ?_) (fun c_1 => ?_)
  · exact J110_8 _ _ _ _ _ _ (if_neg c_1).symm (if_neg c_1).symm (if_neg c_1).symm (if_neg c_1).symm (if_neg c_1).symm (if_neg c_1).symm H locs hP hD hS ls (lv_sub hl [] rfl)
  · refine lv_aload_n hx hb dX7_passOne_68 rfl (lv_at hl 2 rfl) ?_
    refine va_get (D := G) (ci := 5) (v := .ref uc) (C := RX7) (T := TX7) (N := 6) hx hb hts i_X7 hown hK hP 0 rfl rfl 3 (by decide) (hts (.fieldLink RX7 28 "RelayTuner$State" "swings" "LRelayTuner$Swings;") (by decide +kernel)) (fun _ h9 => h9) rfl dX7_passOne_69 ?_
    refine lv_iload_n hx hb dX7_passOne_72 rfl (lv_at hl 1 rfl) ?_
    refine lv_aload_n hx hb dX7_passOne_73 rfl (lv_at hl 2 rfl) ?_
    refine va_get (D := G) (ci := 5) (v := .ref ua) (C := RX7) (T := TX7) (N := 6) hx hb hts i_X7 hown hK hP 0 rfl rfl 1 (by decide) (hts (.fieldLink RX7 12 "RelayTuner$State" "plant" "LRelayTuner$Plant;") (by decide +kernel)) (fun _ h9 => h9) rfl dX7_passOne_74 ?_
    refine va_getN (D := G) (ci := 3) (v := .int ((s_X3_work_w0 (s_X1_outputAt_r ((z 1) 5) ((z 1) 4) (z 3)) (z 1) (z 2)) 5)) (C := RX3) (T := TX3) (N := 8) hx hb hts i_X3 hown hK hP 1 rfl rfl 5 (by decide) (NN.f hN (a := RX7) (i := 88) (b := "RelayTuner$Plant") (n := "temperature") (d := "I") (by decide +kernel)) (fun _ h9 => h9) rfl dX7_passOne_77 ?_
    refine lv_aload_n hx hb dX7_passOne_80 rfl (lv_at hl 2 rfl) ?_
    refine va_get (D := G) (ci := 5) (v := .ref ub) (C := RX7) (T := TX7) (N := 6) hx hb hts i_X7 hown hK hP 0 rfl rfl 2 (by decide) (hts (.fieldLink RX7 21 "RelayTuner$State" "control" "LRelayTuner$Control;") (by decide +kernel)) (fun _ h9 => h9) rfl dX7_passOne_81 ?_
    refine va_getN (D := G) (ci := 1) (v := .int ((s_X1_outputAt_w0 ((z 1) 5) ((z 1) 4) (z 3)) 0)) (C := RX1) (T := TX1) (N := 11) hx hb hts i_X1 hown hK hP 3 rfl rfl 0 (by decide) (NN.f hN (a := RX7) (i := 128) (b := "RelayTuner$Control") (n := "setPoint") (d := "I") (by decide +kernel)) (fun _ h9 => h9) rfl dX7_passOne_84 ?_
    refine lv_aload_n hx hb dX7_passOne_87 rfl (lv_at hl 2 rfl) ?_
    refine va_get (D := G) (ci := 5) (v := .int (((z 0) 0) + 1)) (C := RX7) (T := TX7) (N := 6) hx hb hts i_X7 hown hK hP 0 rfl rfl 0 (by decide) (hts (.fieldLink RX7 46 "RelayTuner$State" "clock" "I") (by decide +kernel)) (fun _ h9 => h9) rfl dX7_passOne_88 ?_
    refine cl_Hi (wr := [kX7 h ua ub uc ud ue (upd (z 0) 0 (((z 0) 0) + 1)), kX3 ua va (s_X3_work_w0 (s_X1_outputAt_r ((z 1) 5) ((z 1) 4) (z 3)) (z 1) (z 2)), aI y va 10 (s_X3_work_w1 (s_X1_outputAt_r ((z 1) 5) ((z 1) 4) (z 3)) (z 1) (z 2)), kX1 ub (s_X1_outputAt_w0 ((z 1) 5) ((z 1) 4) (z 3)), kX0 ue ve (s_X0_addTick_w0 (s_X1_outputAt_r ((z 1) 5) ((z 1) 4) (z 3)) (z 11)), aI y ve 3 (s_X0_addTick_w1 ((s_X1_outputAt_w0 ((z 1) 5) ((z 1) 4) (z 3)) 6) (z 12))]) (fun _ : Unit => [kX7 h ua ub uc ud ue (upd (z 0) 0 (((z 0) 0) + 1)), kX3 ua va (s_X3_work_w0 (s_X1_outputAt_r ((z 1) 5) ((z 1) 4) (z 3)) (z 1) (z 2)), aI y va 10 (s_X3_work_w1 (s_X1_outputAt_r ((z 1) 5) ((z 1) 4) (z 3)) (z 1) (z 2)), kX1 ub (s_X1_outputAt_w0 ((z 1) 5) ((z 1) 4) (z 3)), kX8 uc vc1 vc2 vc3 vc4 vc5 (s_X8_watch_w0 ((z 1) 5) ((s_X3_work_w0 (s_X1_outputAt_r ((z 1) 5) ((z 1) 4) (z 3)) (z 1) (z 2)) 5) ((s_X1_outputAt_w0 ((z 1) 5) ((z 1) 4) (z 3)) 0) (((z 0) 0) + 1) (z 4)), aI y vc1 20 (s_X8_watch_w1 ((z 1) 5) ((s_X3_work_w0 (s_X1_outputAt_r ((z 1) 5) ((z 1) 4) (z 3)) (z 1) (z 2)) 5) ((s_X1_outputAt_w0 ((z 1) 5) ((z 1) 4) (z 3)) 0) (((z 0) 0) + 1) (z 4) (z 5)), aI y vc2 20 (s_X8_watch_w2 ((z 1) 5) ((s_X3_work_w0 (s_X1_outputAt_r ((z 1) 5) ((z 1) 4) (z 3)) (z 1) (z 2)) 5) ((s_X1_outputAt_w0 ((z 1) 5) ((z 1) 4) (z 3)) 0) (z 4) (z 6)), aI y vc3 20 (s_X8_watch_w3 ((z 1) 5) ((s_X3_work_w0 (s_X1_outputAt_r ((z 1) 5) ((z 1) 4) (z 3)) (z 1) (z 2)) 5) ((s_X1_outputAt_w0 ((z 1) 5) ((z 1) 4) (z 3)) 0) (z 4) (z 7)), aI y vc4 20 (s_X8_watch_w4 ((z 1) 5) ((s_X3_work_w0 (s_X1_outputAt_r ((z 1) 5) ((z 1) 4) (z 3)) (z 1) (z 2)) 5) ((s_X1_outputAt_w0 ((z 1) 5) ((z 1) 4) (z 3)) 0) (((z 0) 0) + 1) (z 4) (z 8)), kX0 ue ve (s_X0_addTick_w0 (s_X1_outputAt_r ((z 1) 5) ((z 1) 4) (z 3)) (z 11)), aI y ve 3 (s_X0_addTick_w1 ((s_X1_outputAt_w0 ((z 1) 5) ((z 1) 4) (z 3)) 6) (z 12))]) [4, 5, 6, 7, 8] [0, 1, 2, 3, 9, 10] [0, 1, 2, 3, 6, 7, 8, 9, 10, 4, 5] (va_runV (As := [.int ((z 1) 5), .int ((s_X3_work_w0 (s_X1_outputAt_r ((z 1) 5) ((z 1) 4) (z 3)) (z 1) (z 2)) 5), .int ((s_X1_outputAt_w0 ((z 1) 5) ((z 1) 4) (z 3)) 0), .int (((z 0) 0) + 1)]) (rest := []) ⟨hx, hb, hml, hown, hts⟩ (c_X8_watch l G y uc ((z 1) 5) ((s_X3_work_w0 (s_X1_outputAt_r ((z 1) 5) ((z 1) 4) (z 3)) (z 1) (z 2)) 5) ((s_X1_outputAt_w0 ((z 1) 5) ((z 1) 4) (z 3)) 0) (((z 0) 0) + 1) vc1 vc2 vc3 vc4 vc5 (z 4) (z 5) (z 6) (z 7) (z 8) H.size (by assumption)) (cwV 4 hts gX7_passOne_X8_watch rfl rfl rfl (by decide +kernel) ⟨Nat.le_of_ble_eq_true rfl, Nat.le_of_ble_eq_true rfl⟩) (PH_V (hP.sub (ws' := [kX8 uc vc1 vc2 vc3 vc4 vc5 (z 4), aI y vc1 20 (z 5), aI y vc2 20 (z 6), aI y vc3 20 (z 7), aI y vc4 20 (z 8)]) [4, 5, 6, 7, 8] rfl) hK hN (hD.sub (ws' := [kX8 uc vc1 vc2 vc3 vc4 vc5 (z 4), aI y vc1 20 (z 5), aI y vc2 20 (z 6), aI y vc3 20 (z 7), aI y vc4 20 (z 8)]) [4, 5, 6, 7, 8] (by decide) rfl) (ci := 6) (q0 := 0) rfl rfl) rfl rfl hl.1 rfl (lv_room (Nat.le_of_ble_eq_true rfl)) dX7_passOne_91 ⟨Nat.le_of_ble_eq_true rfl, Nat.le_of_ble_eq_true rfl⟩) hP hD hS hA rfl rfl rfl (by decide) rfl (fun _ => rfl) (fun _ H locs hP hD hS => ?_)
    have hP : va_P G vwCl [kX7 h ua ub uc ud ue (upd (z 0) 0 (((z 0) 0) + 1)), kX3 ua va (s_X3_work_w0 (s_X1_outputAt_r ((z 1) 5) ((z 1) 4) (z 3)) (z 1) (z 2)), aI y va 10 (s_X3_work_w1 (s_X1_outputAt_r ((z 1) 5) ((z 1) 4) (z 3)) (z 1) (z 2)), kX1 ub (s_X1_outputAt_w0 ((z 1) 5) ((z 1) 4) (z 3)), kX8 uc vc1 vc2 vc3 vc4 vc5 (s_X8_watch_w0 ((z 1) 5) ((s_X3_work_w0 (s_X1_outputAt_r ((z 1) 5) ((z 1) 4) (z 3)) (z 1) (z 2)) 5) ((s_X1_outputAt_w0 ((z 1) 5) ((z 1) 4) (z 3)) 0) (((z 0) 0) + 1) (z 4)), aI y vc1 20 (s_X8_watch_w1 ((z 1) 5) ((s_X3_work_w0 (s_X1_outputAt_r ((z 1) 5) ((z 1) 4) (z 3)) (z 1) (z 2)) 5) ((s_X1_outputAt_w0 ((z 1) 5) ((z 1) 4) (z 3)) 0) (((z 0) 0) + 1) (z 4) (z 5)), aI y vc2 20 (s_X8_watch_w2 ((z 1) 5) ((s_X3_work_w0 (s_X1_outputAt_r ((z 1) 5) ((z 1) 4) (z 3)) (z 1) (z 2)) 5) ((s_X1_outputAt_w0 ((z 1) 5) ((z 1) 4) (z 3)) 0) (z 4) (z 6)), aI y vc3 20 (s_X8_watch_w3 ((z 1) 5) ((s_X3_work_w0 (s_X1_outputAt_r ((z 1) 5) ((z 1) 4) (z 3)) (z 1) (z 2)) 5) ((s_X1_outputAt_w0 ((z 1) 5) ((z 1) 4) (z 3)) 0) (z 4) (z 7)), aI y vc4 20 (s_X8_watch_w4 ((z 1) 5) ((s_X3_work_w0 (s_X1_outputAt_r ((z 1) 5) ((z 1) 4) (z 3)) (z 1) (z 2)) 5) ((s_X1_outputAt_w0 ((z 1) 5) ((z 1) 4) (z 3)) 0) (((z 0) 0) + 1) (z 4) (z 8)), kX0 ue ve (s_X0_addTick_w0 (s_X1_outputAt_r ((z 1) 5) ((z 1) 4) (z 3)) (z 11)), aI y ve 3 (s_X0_addTick_w1 ((s_X1_outputAt_w0 ((z 1) 5) ((z 1) 4) (z 3)) 6) (z 12))] H := hP
    have hD : va_D A [kX7 h ua ub uc ud ue (upd (z 0) 0 (((z 0) 0) + 1)), kX3 ua va (s_X3_work_w0 (s_X1_outputAt_r ((z 1) 5) ((z 1) 4) (z 3)) (z 1) (z 2)), aI y va 10 (s_X3_work_w1 (s_X1_outputAt_r ((z 1) 5) ((z 1) 4) (z 3)) (z 1) (z 2)), kX1 ub (s_X1_outputAt_w0 ((z 1) 5) ((z 1) 4) (z 3)), kX8 uc vc1 vc2 vc3 vc4 vc5 (s_X8_watch_w0 ((z 1) 5) ((s_X3_work_w0 (s_X1_outputAt_r ((z 1) 5) ((z 1) 4) (z 3)) (z 1) (z 2)) 5) ((s_X1_outputAt_w0 ((z 1) 5) ((z 1) 4) (z 3)) 0) (((z 0) 0) + 1) (z 4)), aI y vc1 20 (s_X8_watch_w1 ((z 1) 5) ((s_X3_work_w0 (s_X1_outputAt_r ((z 1) 5) ((z 1) 4) (z 3)) (z 1) (z 2)) 5) ((s_X1_outputAt_w0 ((z 1) 5) ((z 1) 4) (z 3)) 0) (((z 0) 0) + 1) (z 4) (z 5)), aI y vc2 20 (s_X8_watch_w2 ((z 1) 5) ((s_X3_work_w0 (s_X1_outputAt_r ((z 1) 5) ((z 1) 4) (z 3)) (z 1) (z 2)) 5) ((s_X1_outputAt_w0 ((z 1) 5) ((z 1) 4) (z 3)) 0) (z 4) (z 6)), aI y vc3 20 (s_X8_watch_w3 ((z 1) 5) ((s_X3_work_w0 (s_X1_outputAt_r ((z 1) 5) ((z 1) 4) (z 3)) (z 1) (z 2)) 5) ((s_X1_outputAt_w0 ((z 1) 5) ((z 1) 4) (z 3)) 0) (z 4) (z 7)), aI y vc4 20 (s_X8_watch_w4 ((z 1) 5) ((s_X3_work_w0 (s_X1_outputAt_r ((z 1) 5) ((z 1) 4) (z 3)) (z 1) (z 2)) 5) ((s_X1_outputAt_w0 ((z 1) 5) ((z 1) 4) (z 3)) 0) (((z 0) 0) + 1) (z 4) (z 8)), kX0 ue ve (s_X0_addTick_w0 (s_X1_outputAt_r ((z 1) 5) ((z 1) 4) (z 3)) (z 11)), aI y ve 3 (s_X0_addTick_w1 ((s_X1_outputAt_w0 ((z 1) 5) ((z 1) 4) (z 3)) 6) (z 12))] := hD
    refine lv_if_eq (tgt := 110) hx hb dX7_passOne_94 (by decide) (fun c_9 => ?_) (fun c_9 => ?_)
    · exact J110_8 _ _ _ _ _ _ (if_pos c_1).symm (if_pos c_1).symm (if_pos c_1).symm (if_pos c_1).symm (if_pos c_1).symm ((if_pos c_1).trans (if_pos c_9)).symm H locs hP hD hS ls (lv_sub hl [] rfl)
    · refine lv_aload_n hx hb dX7_passOne_97 rfl (lv_at hl 2 rfl) ?_
      refine va_get (D := G) (ci := 5) (v := .ref ue) (C := RX7) (T := TX7) (N := 6) hx hb hts i_X7 hown hK hP 0 rfl rfl 5 (by decide) (hts (.fieldLink RX7 42 "RelayTuner$State" "accounts" "LRelayTuner$Accounts;") (by decide +kernel)) (fun _ h9 => h9) rfl dX7_passOne_98 ?_
      refine lv_dup hx hb dX7_passOne_101 rfl ?_
      refine va_getN (D := G) (ci := 0) (v := .int ((s_X0_addTick_w0 (s_X1_outputAt_r ((z 1) 5) ((z 1) 4) (z 3)) (z 11)) 4)) (C := RX0) (T := TX0) (N := 6) hx hb hts i_X0 hown hK hP 9 rfl rfl 4 (by decide) (NN.f hN (a := RX7) (i := 135) (b := "RelayTuner$Accounts") (n := "crossings") (d := "I") (by decide +kernel)) (fun _ h9 => h9) rfl dX7_passOne_102 ?_
      refine lv_iconst (v := 1) hx hb dX7_passOne_105 (by decide) ?_
      refine lv_iadd hx hb dX7_passOne_106 ?_
      refine va_putN (D := G) (ci := 0) (v := .int (((s_X0_addTick_w0 (s_X1_outputAt_r ((z 1) 5) ((z 1) 4) (z 3)) (z 11)) 4) + 1)) (ty := .int) (C := RX0) (T := TX0) (N := 6) hx hb hts i_X0 tyX0 tyX0_ok nmX0 hown hK hP hD hS 9 rfl rfl 4 (by decide) (NN.f hN (a := RX7) (i := 135) (b := "RelayTuner$Accounts") (n := "crossings") (d := "I") (by decide +kernel)) (fun _ h9 => h9) rfl (by decide +kernel) rfl rfl (Nat.le_of_ble_eq_true rfl) dX7_passOne_107 (fun H locs hP hD hS => ?_)
      have hP : va_P G vwCl [kX7 h ua ub uc ud ue (upd (z 0) 0 (((z 0) 0) + 1)), kX3 ua va (s_X3_work_w0 (s_X1_outputAt_r ((z 1) 5) ((z 1) 4) (z 3)) (z 1) (z 2)), aI y va 10 (s_X3_work_w1 (s_X1_outputAt_r ((z 1) 5) ((z 1) 4) (z 3)) (z 1) (z 2)), kX1 ub (s_X1_outputAt_w0 ((z 1) 5) ((z 1) 4) (z 3)), kX8 uc vc1 vc2 vc3 vc4 vc5 (s_X8_watch_w0 ((z 1) 5) ((s_X3_work_w0 (s_X1_outputAt_r ((z 1) 5) ((z 1) 4) (z 3)) (z 1) (z 2)) 5) ((s_X1_outputAt_w0 ((z 1) 5) ((z 1) 4) (z 3)) 0) (((z 0) 0) + 1) (z 4)), aI y vc1 20 (s_X8_watch_w1 ((z 1) 5) ((s_X3_work_w0 (s_X1_outputAt_r ((z 1) 5) ((z 1) 4) (z 3)) (z 1) (z 2)) 5) ((s_X1_outputAt_w0 ((z 1) 5) ((z 1) 4) (z 3)) 0) (((z 0) 0) + 1) (z 4) (z 5)), aI y vc2 20 (s_X8_watch_w2 ((z 1) 5) ((s_X3_work_w0 (s_X1_outputAt_r ((z 1) 5) ((z 1) 4) (z 3)) (z 1) (z 2)) 5) ((s_X1_outputAt_w0 ((z 1) 5) ((z 1) 4) (z 3)) 0) (z 4) (z 6)), aI y vc3 20 (s_X8_watch_w3 ((z 1) 5) ((s_X3_work_w0 (s_X1_outputAt_r ((z 1) 5) ((z 1) 4) (z 3)) (z 1) (z 2)) 5) ((s_X1_outputAt_w0 ((z 1) 5) ((z 1) 4) (z 3)) 0) (z 4) (z 7)), aI y vc4 20 (s_X8_watch_w4 ((z 1) 5) ((s_X3_work_w0 (s_X1_outputAt_r ((z 1) 5) ((z 1) 4) (z 3)) (z 1) (z 2)) 5) ((s_X1_outputAt_w0 ((z 1) 5) ((z 1) 4) (z 3)) 0) (((z 0) 0) + 1) (z 4) (z 8)), kX0 ue ve (upd (s_X0_addTick_w0 (s_X1_outputAt_r ((z 1) 5) ((z 1) 4) (z 3)) (z 11)) 4 (((s_X0_addTick_w0 (s_X1_outputAt_r ((z 1) 5) ((z 1) 4) (z 3)) (z 11)) 4) + 1)), aI y ve 3 (s_X0_addTick_w1 ((s_X1_outputAt_w0 ((z 1) 5) ((z 1) 4) (z 3)) 6) (z 12))] H := hP
      have hD : va_D A [kX7 h ua ub uc ud ue (upd (z 0) 0 (((z 0) 0) + 1)), kX3 ua va (s_X3_work_w0 (s_X1_outputAt_r ((z 1) 5) ((z 1) 4) (z 3)) (z 1) (z 2)), aI y va 10 (s_X3_work_w1 (s_X1_outputAt_r ((z 1) 5) ((z 1) 4) (z 3)) (z 1) (z 2)), kX1 ub (s_X1_outputAt_w0 ((z 1) 5) ((z 1) 4) (z 3)), kX8 uc vc1 vc2 vc3 vc4 vc5 (s_X8_watch_w0 ((z 1) 5) ((s_X3_work_w0 (s_X1_outputAt_r ((z 1) 5) ((z 1) 4) (z 3)) (z 1) (z 2)) 5) ((s_X1_outputAt_w0 ((z 1) 5) ((z 1) 4) (z 3)) 0) (((z 0) 0) + 1) (z 4)), aI y vc1 20 (s_X8_watch_w1 ((z 1) 5) ((s_X3_work_w0 (s_X1_outputAt_r ((z 1) 5) ((z 1) 4) (z 3)) (z 1) (z 2)) 5) ((s_X1_outputAt_w0 ((z 1) 5) ((z 1) 4) (z 3)) 0) (((z 0) 0) + 1) (z 4) (z 5)), aI y vc2 20 (s_X8_watch_w2 ((z 1) 5) ((s_X3_work_w0 (s_X1_outputAt_r ((z 1) 5) ((z 1) 4) (z 3)) (z 1) (z 2)) 5) ((s_X1_outputAt_w0 ((z 1) 5) ((z 1) 4) (z 3)) 0) (z 4) (z 6)), aI y vc3 20 (s_X8_watch_w3 ((z 1) 5) ((s_X3_work_w0 (s_X1_outputAt_r ((z 1) 5) ((z 1) 4) (z 3)) (z 1) (z 2)) 5) ((s_X1_outputAt_w0 ((z 1) 5) ((z 1) 4) (z 3)) 0) (z 4) (z 7)), aI y vc4 20 (s_X8_watch_w4 ((z 1) 5) ((s_X3_work_w0 (s_X1_outputAt_r ((z 1) 5) ((z 1) 4) (z 3)) (z 1) (z 2)) 5) ((s_X1_outputAt_w0 ((z 1) 5) ((z 1) 4) (z 3)) 0) (((z 0) 0) + 1) (z 4) (z 8)), kX0 ue ve (upd (s_X0_addTick_w0 (s_X1_outputAt_r ((z 1) 5) ((z 1) 4) (z 3)) (z 11)) 4 (((s_X0_addTick_w0 (s_X1_outputAt_r ((z 1) 5) ((z 1) 4) (z 3)) (z 11)) 4) + 1)), aI y ve 3 (s_X0_addTick_w1 ((s_X1_outputAt_w0 ((z 1) 5) ((z 1) 4) (z 3)) 6) (z 12))] := hD
      exact J110_8 _ _ _ _ _ _ (if_pos c_1).symm (if_pos c_1).symm (if_pos c_1).symm (if_pos c_1).symm (if_pos c_1).symm ((if_pos c_1).trans (if_neg c_9)).symm H locs hP hD hS ls (lv_sub hl [] rfl)

theorem ticks_in {a : Int32} (h : ¬ s_X11_isTicks_r a = 0) : vp_in a 201 := by
  unfold s_X11_isTicks_r at h
  try dsimp only at h
  split at h
  · exact absurd rfl h
  · next q =>
    split at h
    · exact absurd rfl h
    · next q2 => exact vin6 (B := 200) (n := 200) (fun h9 => q (Int32.lt_trans h9 (by decide))) (Int32.not_lt.mp q2) rfl (by decide)

/-- what a tick needs of a State -/
def TC (z : Nat → Nat → Int32) : Prop := vp_in (z 4 0) 21 ∧ vp_in (z 1 7) 10 ∧ (z 3 7 = 0 ∨ z 3 7 = 1)
theorem vp_mono {x : Int32} {n m : Nat} (h : vp_in x n) (hn : n ≤ m) (hm : m < 1000000) : vp_in x m := by
  obtain ⟨j, hj, e⟩ := vp_in_of h (by omega)
  rw [e]
  exact vp_in_nI (by omega) (by omega)
theorem drop_count {a : Int32} {x : Nat → Int32} (h : vp_in (x 0) 21) : vp_in (s_X8_drop_w0 a x 0) 21 := by
  unfold s_X8_drop_w0
  split
  · exact h
  · next h1 =>
    split
    · next h2 =>
      rw [pk_us]
      refine vp_mono (n := 20) (sub1_in h (fun h3 => ?_) (by decide)) (by decide) (by decide)
      rw [h3] at h2
      exact h1 h2
    · exact h
theorem add_count {x : Nat → Int32} (h : vp_in (x 0) 21) : vp_in (s_X8_add_w0 x 0) 21 := by
  unfold s_X8_add_w0
  try dsimp only
  have h2 : vp_in ((if (x 0) < 20 then x else (s_X8_drop_w0 0 x)) 0) 21 := by
    split
    · exact h
    · exact drop_count h
  generalize (if (x 0) < 20 then x else (s_X8_drop_w0 0 x)) = v at h2 ⊢
  split
  · exact h2
  · next q1 =>
    split
    · exact h2
    · next q2 =>
      rw [pk_us]
      obtain ⟨j, hj, e⟩ := vp_in_of (vin2 (n := 20) q1 q2 rfl (by decide)) (by decide)
      rw [e, nI_1]
      exact vp_in_nI (by omega) (by decide)
theorem watch_count {a b c d : Int32} {x : Nat → Int32} (h : vp_in (x 0) 21) : vp_in (s_X8_watch_w0 a b c d x 0) 21 := by
  unfold s_X8_watch_w0
  try dsimp only
  split
  · rw [upd_ne (by decide), upd_ne (by decide)]; exact h
  · split
    · rw [upd_ne (by decide), upd_ne (by decide), upd_ne (by decide), upd_ne (by decide)]
      split
      · rw [upd_ne (by decide), upd_ne (by decide)]; exact h
      · refine add_count ?_
        rw [upd_ne (by decide), upd_ne (by decide)]; exact h
    · rw [upd_ne (by decide), upd_ne (by decide)]; exact h
theorem work_new {a : Int32} {x fq : Nat → Int32} (h : vp_in (x 7) 10) : vp_in (s_X3_work_w0 a x fq 7) 10 := by
  unfold s_X3_work_w0
  try dsimp only
  unfold s_X3_warmBy_w0
  rw [upd_ne (by decide), pk_us]
  exact work_in h rfl
theorem control_7 {a b : Int32} {x : Nat → Int32} : s_X1_controlAt_w0 a b x 7 = x 7 := by
  unfold s_X1_controlAt_w0
  rw [upd_ne (by decide), upd_ne (by decide)]
  exact ite_at (upd_ne (by decide)) rfl
theorem out_relay {a b : Int32} {x : Nat → Int32} (h : x 7 = 0 ∨ x 7 = 1) : s_X1_outputAt_w0 a b x 7 = 0 ∨ s_X1_outputAt_w0 a b x 7 = 1 := by
  unfold s_X1_outputAt_w0
  refine ite_z ?_ (ite_z ?_ h)
  · unfold s_X1_relayAt_w0
    exact ite_z (ite_z h (Or.inr rfl)) (Or.inl rfl)
  · rw [control_7]
    exact h
/-- a tick, in pieces -/
def poR (z : Nat → Nat → Int32) : Int32 := s_X1_outputAt_r (z 1 5) (z 1 4) (z 3)
def poC (z : Nat → Nat → Int32) : Nat → Int32 := s_X1_outputAt_w0 (z 1 5) (z 1 4) (z 3)
def poP (z : Nat → Nat → Int32) : Nat → Int32 := s_X3_work_w0 (poR z) (z 1) (z 2)
theorem po_4 (z : Nat → Nat → Int32) : s_X7_passOne_z z 4 = if poC z 6 = 1 then s_X8_watch_w0 (z 1 5) (poP z 5) (poC z 0) (z 0 0 + 1) (z 4) else z 4 := rfl
theorem pass_TC {z : Nat → Nat → Int32} (h : TC z) : TC (s_X7_passOne_z z) := by
  obtain ⟨h1, h2, h3⟩ := h
  refine ⟨?_, ?_, ?_⟩
  · rw [po_4]
    split
    · exact watch_count h1
    · exact h1
  · exact work_new h2
  · exact out_relay h3
theorem pas_TC {z : Nat → Nat → Int32} (h : TC z) : ∀ k, TC (itF s_X7_passOne_z k z)
  | 0 => h
  | k + 1 => pass_TC (pas_TC h k)

def s_X7_pass_z (a1 : Int32) (z : Nat → Nat → Int32) : Nat → Nat → Int32 := fun i => match i with
  | 0 => (if (s_X11_isTicks_r a1) = 0 then (z 0) else (itF s_X7_passOne_z (tn a1) z 0))
  | 1 => (if (s_X11_isTicks_r a1) = 0 then (z 1) else (itF s_X7_passOne_z (tn a1) z 1))
  | 2 => (if (s_X11_isTicks_r a1) = 0 then (z 2) else (itF s_X7_passOne_z (tn a1) z 2))
  | 3 => (if (s_X11_isTicks_r a1) = 0 then (z 3) else (itF s_X7_passOne_z (tn a1) z 3))
  | 4 => (if (s_X11_isTicks_r a1) = 0 then (z 4) else (itF s_X7_passOne_z (tn a1) z 4))
  | 5 => (if (s_X11_isTicks_r a1) = 0 then (z 5) else (itF s_X7_passOne_z (tn a1) z 5))
  | 6 => (if (s_X11_isTicks_r a1) = 0 then (z 6) else (itF s_X7_passOne_z (tn a1) z 6))
  | 7 => (if (s_X11_isTicks_r a1) = 0 then (z 7) else (itF s_X7_passOne_z (tn a1) z 7))
  | 8 => (if (s_X11_isTicks_r a1) = 0 then (z 8) else (itF s_X7_passOne_z (tn a1) z 8))
  | 9 => (if (s_X11_isTicks_r a1) = 0 then (z 9) else (itF s_X7_passOne_z (tn a1) z 9))
  | 10 => (if (s_X11_isTicks_r a1) = 0 then (z 10) else (itF s_X7_passOne_z (tn a1) z 10))
  | 11 => (if (s_X11_isTicks_r a1) = 0 then (z 11) else (itF s_X7_passOne_z (tn a1) z 11))
  | 12 => (if (s_X11_isTicks_r a1) = 0 then (z 12) else (itF s_X7_passOne_z (tn a1) z 12))
  | _ => z i
def s_X7_pass_r (a1 : Int32) : Int32 := (if (s_X11_isTicks_r a1) = 0 then 0 else 1)
theorem z_X7_pass (a1 : Int32) : s_X7_pass_r a1 = 0 ∨ s_X7_pass_r a1 = 1 := by unfold s_X7_pass_r; (try dsimp only); exact (z_ite (Or.inl rfl) (Or.inr rfl))
abbrev rmX7_pass : Room := ({ frames := 4, cells := 0, slots := 0, locals := 92 } : Room)
set_option maxHeartbeats 4000000 in
set_option maxRecDepth 100000 in
theorem c_X7_pass (l : Launch) (G : va_G) (y : Nat → ClassId) (h : Nat) (a1 : Int32) (ua : Nat) (ub : Nat) (uc : Nat) (ud : Nat) (ue : Nat) (z : Nat → Nat → Int32) (va : Nat) (vc1 : Nat) (vc2 : Nat) (vc3 : Nat) (vc4 : Nat) (vc5 : Nat) (o : Nat → Int32) (vd : Nat) (ve : Nat) (sz : Nat) (hTC : TC z) : Met l yX7_pass wsX7_pass rmX7_pass (PH G y [.ref h, .int a1] [kX7 h ua ub uc ud ue (z 0), kX3 ua va (z 1), aI y va 10 (z 2), kX1 ub (z 3), kX8 uc vc1 vc2 vc3 vc4 vc5 (z 4), aI y vc1 20 (z 5), aI y vc2 20 (z 6), aI y vc3 20 (z 7), aI y vc4 20 (z 8), aI y vc5 20 o, kX10 ud vd (z 9), aI y vd 32 (z 10), kX0 ue ve (z 11), aI y ve 3 (z 12)] sz) (QHi G (s_X7_pass_r a1) (fun u : (Nat → Int32) => [kX7 h ua ub uc ud ue (s_X7_pass_z a1 z 0), kX3 ua va (s_X7_pass_z a1 z 1), aI y va 10 (s_X7_pass_z a1 z 2), kX1 ub (s_X7_pass_z a1 z 3), kX8 uc vc1 vc2 vc3 vc4 vc5 (s_X7_pass_z a1 z 4), aI y vc1 20 (s_X7_pass_z a1 z 5), aI y vc2 20 (s_X7_pass_z a1 z 6), aI y vc3 20 (s_X7_pass_z a1 z 7), aI y vc4 20 (s_X7_pass_z a1 z 8), aI y vc5 20 u, kX10 ud vd (s_X7_pass_z a1 z 9), aI y vd 32 (s_X7_pass_z a1 z 10), kX0 ue ve (s_X7_pass_z a1 z 11), aI y ve 3 (s_X7_pass_z a1 z 12)]) (va_A [kX7 h ua ub uc ud ue (z 0), kX3 ua va (z 1), aI y va 10 (z 2), kX1 ub (z 3), kX8 uc vc1 vc2 vc3 vc4 vc5 (z 4), aI y vc1 20 (z 5), aI y vc2 20 (z 6), aI y vc3 20 (z 7), aI y vc4 20 (z 8), aI y vc5 20 o, kX10 ud vd (z 9), aI y vd 32 (z 10), kX0 ue ve (z 11), aI y ve 3 (z 12)] sz)) 0 0 (va_A [kX7 h ua ub uc ud ue (z 0), kX3 ua va (z 1), aI y va 10 (z 2), kX1 ub (z 3), kX8 uc vc1 vc2 vc3 vc4 vc5 (z 4), aI y vc1 20 (z 5), aI y vc2 20 (z 6), aI y vc3 20 (z 7), aI y vc4 20 (z 8), aI y vc5 20 o, kX10 ud vd (z 9), aI y vd 32 (z 10), kX0 ue ve (z 11), aI y ve 3 (z 12)] sz) := by
  refine Met.ofW (cc := cX7_pass) (maxL := 3) (ret := (some .boolean)) (by decide) rfl ?_
  intro p e s m args below meth c s₁ B hml hv
  obtain ⟨rfl, hsz, hP, ⟨hK, hN⟩, hD0⟩ := hv
  have hx := B.exec
  have hb := B.bytes
  have hr := B.returns
  have hts := atoms_spec (ws := wsX7_pass) B.pre
  have hown : s.vm.findClass RX7 = some m.cls := findClass_of_methodNamed B.named
  have hlocks := B.notSynchronized
  subst hsz
  have hD := hD0.self (sz := s.heap.size)
  generalize hAe : va_A [kX7 h ua ub uc ud ue (z 0), kX3 ua va (z 1), aI y va 10 (z 2), kX1 ub (z 3), kX8 uc vc1 vc2 vc3 vc4 vc5 (z 4), aI y vc1 20 (z 5), aI y vc2 20 (z 6), aI y vc3 20 (z 7), aI y vc4 20 (z 8), aI y vc5 20 o, kX10 ud vd (z 9), aI y vd 32 (z 10), kX0 ue ve (z 11), aI y ve 3 (z 12)] s.heap.size = A at hD ⊢
  have hA : ∀ q : Nat, s.heap.size ≤ q → A q := fun q h => by rw [← hAe]; exact Or.inr h
  have hS : va_S A s.heap s.heap [] := va_S.rf
  have hP : va_P G vwCl [kX7 h ua ub uc ud ue (z 0), kX3 ua va (z 1), aI y va 10 (z 2), kX1 ub (z 3), kX8 uc vc1 vc2 vc3 vc4 vc5 (z 4), aI y vc1 20 (z 5), aI y vc2 20 (z 6), aI y vc3 20 (z 7), aI y vc4 20 (z 8), aI y vc5 20 o, kX10 ud vd (z 9), aI y vd 32 (z 10), kX0 ue ve (z 11), aI y ve 3 (z 12)] s.heap := hP
  have hl := lv_entry ([.ref h, .int a1]) (n := 3) (Nat.le_of_ble_eq_true rfl)
  rw [lg_entry_eq]
  generalize (lg_sl ([.ref h, .int a1]) ++ List.replicate (3 - (lg_sl ([.ref h, .int a1])).length) Slot.unset).toArray = ls at hl ⊢
  have hl : lv_has ls 3 [(0, .ref h), (1, .int a1)] := hl
  obtain ⟨QQ, hQQ⟩ : ∃ zq9, zq9 = MQ below (QHi G (s_X7_pass_r a1) (fun u : (Nat → Int32) => [kX7 h ua ub uc ud ue (s_X7_pass_z a1 z 0), kX3 ua va (s_X7_pass_z a1 z 1), aI y va 10 (s_X7_pass_z a1 z 2), kX1 ub (s_X7_pass_z a1 z 3), kX8 uc vc1 vc2 vc3 vc4 vc5 (s_X7_pass_z a1 z 4), aI y vc1 20 (s_X7_pass_z a1 z 5), aI y vc2 20 (s_X7_pass_z a1 z 6), aI y vc3 20 (s_X7_pass_z a1 z 7), aI y vc4 20 (s_X7_pass_z a1 z 8), aI y vc5 20 u, kX10 ud vd (s_X7_pass_z a1 z 9), aI y vd 32 (s_X7_pass_z a1 z 10), kX0 ue ve (s_X7_pass_z a1 z 11), aI y ve 3 (s_X7_pass_z a1 z 12)]) A) ([.ref h, .int a1] : List Value).toArray s 0 0 A := ⟨_, rfl⟩
  rw [← hQQ]
  refine lv_iload_n hx hb dX7_pass_0 rfl (lv_at hl 1 rfl) ?_
  refine cl_Ri (va_runSN (As := [.int a1]) (rest := []) ⟨hx, hb, hml, hown, hts⟩ (c_X11_isTicks l G y a1) ⟨va_cnB 1 hts gX7_pass_X11_isTicks_n109 rfl rfl rfl (NN.m hN (by decide +kernel)) (hts (.initialized RX11) (by decide +kernel)) (by decide +kernel) ⟨Nat.le_of_ble_eq_true rfl, Nat.le_of_ble_eq_true rfl⟩, hts (.static yX11_isTicks) (by decide +kernel), trivial⟩ (PR_S pnil hK hN) rfl rfl hl.1 rfl (lv_room (Nat.le_of_ble_eq_true rfl)) dX7_pass_1 ⟨Nat.le_of_ble_eq_true rfl, Nat.le_of_ble_eq_true rfl⟩) ?_
  refine lv_if_ne (tgt := 9) hx hb dX7_pass_4 (by decide) (fun c_1 => ?_) (fun c_1 => ?_)
  · have hin := ticks_in c_1
    obtain ⟨ha1, ha2⟩ := in_tn hin (by decide)
    refine lv_iconst (v := 0) hx hb dX7_pass_9 (by decide) ?_
    refine lv_istore_n (lv' := [(2, .int 0), (0, .ref h), (1, .int a1)]) hx hb dX7_pass_10 rfl hl (by decide) rfl (fun ls hl => ?_)
    have LOOP11_2 : ∀ (n_3 : Nat) (k0 : Nat) (x2 : Int32) (zz : Nat → Nat → Int32) (hx2 : x2 = nI k0) (hk : k0 ≤ tn a1) (hzz : zz = itF s_X7_passOne_z k0 z) (hn_5 : tn a1 - k0 < n_3) (H : Heap) (locs : List Loc) (hP : va_P G vwCl [kX7 h ua ub uc ud ue (zz 0), kX3 ua va (zz 1), aI y va 10 (zz 2), kX1 ub (zz 3), kX8 uc vc1 vc2 vc3 vc4 vc5 (zz 4), aI y vc1 20 (zz 5), aI y vc2 20 (zz 6), aI y vc3 20 (zz 7), aI y vc4 20 (zz 8), aI y vc5 20 o, kX10 ud vd (zz 9), aI y vd 32 (zz 10), kX0 ue ve (zz 11), aI y ve 3 (zz 12)] H) (hD : va_D A [kX7 h ua ub uc ud ue (zz 0), kX3 ua va (zz 1), aI y va 10 (zz 2), kX1 ub (zz 3), kX8 uc vc1 vc2 vc3 vc4 vc5 (zz 4), aI y vc1 20 (zz 5), aI y vc2 20 (zz 6), aI y vc3 20 (zz 7), aI y vc4 20 (zz 8), aI y vc5 20 o, kX10 ud vd (zz 9), aI y vd 32 (zz 10), kX0 ue ve (zz 11), aI y ve 3 (zz 12)]) (hS : va_S A s.heap H locs) (ls : Array Slot) (hl : lv_has ls 3 [(2, .int x2), (0, .ref h), (1, .int a1)]), W p l e (headSpec wsX7_pass rmX7_pass).room s m ([.ref h, .int a1] : List Value).toArray below meth c H locs 0 0 QQ (F0 m 11 ls []) := by
      intro n_3
      induction n_3 with
      | zero => intro k0 x2 zz hx2 hk hzz hn_5 H locs hP hD hS ls hl; exact absurd hn_5 (Nat.not_lt_zero _)
      | succ n_3 ih_4 =>
        intro k0 x2 zz hx2 hk hzz hn_5 H locs hP hD hS ls hl
        refine lv_iload_n hx hb dX7_pass_11 rfl (lv_at hl 0 rfl) ?_
        refine lv_iload_n hx hb dX7_pass_12 rfl (lv_at hl 2 rfl) ?_
        refine lv_icmp_ge (tgt := 26) hx hb dX7_pass_13 (by decide) (fun c_6 => ?_) (fun c_6 => ?_)
        · have hk9 : k0 = tn a1 := by have := kge hx2 ha1 (by omega) (by omega) c_6; omega
          rw [hk9] at hzz
          subst hzz
          refine lv_iconst (v := 1) hx hb dX7_pass_26 (by decide) ?_
          rw [hQQ]
          exact W.zret hx hb hr (nz_bool (Or.inr rfl)) (end_Hi o hP hD hS (by unfold s_X7_pass_r; exact (if_neg c_1).symm) (congr (congr (congr (congr (congr (congr (congr (congr (congr (congr (congr (congr (congrArg (fun (z0 : Nat → Int32) (z1 : Nat → Int32) (z2 : Nat → Int32) (z3 : Nat → Int32) (z4 : Nat → Int32) (z5 : Nat → Int32) (z6 : Nat → Int32) (z7 : Nat → Int32) (z8 : Nat → Int32) (z10 : Nat → Int32) (z11 : Nat → Int32) (z12 : Nat → Int32) (z13 : Nat → Int32) => [kX7 h ua ub uc ud ue z0, kX3 ua va z1, aI y va 10 z2, kX1 ub z3, kX8 uc vc1 vc2 vc3 vc4 vc5 z4, aI y vc1 20 z5, aI y vc2 20 z6, aI y vc3 20 z7, aI y vc4 20 z8, aI y vc5 20 o, kX10 ud vd z10, aI y vd 32 z11, kX0 ue ve z12, aI y ve 3 z13]) (by unfold s_X7_pass_z; exact (if_neg c_1).symm)) (by unfold s_X7_pass_z; exact (if_neg c_1).symm)) (by unfold s_X7_pass_z; exact (if_neg c_1).symm)) (by unfold s_X7_pass_z; exact (if_neg c_1).symm)) (by unfold s_X7_pass_z; exact (if_neg c_1).symm)) (by unfold s_X7_pass_z; exact (if_neg c_1).symm)) (by unfold s_X7_pass_z; exact (if_neg c_1).symm)) (by unfold s_X7_pass_z; exact (if_neg c_1).symm)) (by unfold s_X7_pass_z; exact (if_neg c_1).symm)) (by unfold s_X7_pass_z; exact (if_neg c_1).symm)) (by unfold s_X7_pass_z; exact (if_neg c_1).symm)) (by unfold s_X7_pass_z; exact (if_neg c_1).symm)) (by unfold s_X7_pass_z; exact (if_neg c_1).symm))) hS.2.2 dX7_pass_27
        · have hk9 : k0 < tn a1 := klt hx2 ha1 (by omega) (by omega) c_6
          obtain ⟨ht1, ht2, ht3⟩ : TC zz := by rw [hzz]; exact pas_TC hTC k0
          refine lv_aload_n hx hb dX7_pass_16 rfl (lv_at hl 1 rfl) ?_
          refine cl_Hv (wr := [aI y vc5 20 o, kX10 ud vd (zz 9), aI y vd 32 (zz 10)]) (fun _ : Unit => [kX7 h ua ub uc ud ue (s_X7_passOne_z zz 0), kX3 ua va (s_X7_passOne_z zz 1), aI y va 10 (s_X7_passOne_z zz 2), kX1 ub (s_X7_passOne_z zz 3), kX8 uc vc1 vc2 vc3 vc4 vc5 (s_X7_passOne_z zz 4), aI y vc1 20 (s_X7_passOne_z zz 5), aI y vc2 20 (s_X7_passOne_z zz 6), aI y vc3 20 (s_X7_passOne_z zz 7), aI y vc4 20 (s_X7_passOne_z zz 8), aI y vc5 20 o, kX10 ud vd (zz 9), aI y vd 32 (zz 10), kX0 ue ve (s_X7_passOne_z zz 11), aI y ve 3 (s_X7_passOne_z zz 12)]) [0, 1, 2, 3, 4, 5, 6, 7, 8, 12, 13] [9, 10, 11] [3, 4, 5, 6, 7, 8, 9, 10, 11, 0, 1, 2, 12, 13] (va_runV (As := []) (rest := []) ⟨hx, hb, hml, hown, hts⟩ (c_X7_passOne l G y h ua ub uc ud ue zz va vc1 vc2 vc3 vc4 vc5 ve H.size ht1 ht2 ht3) (cwV 0 hts gX7_pass_X7_passOne rfl rfl rfl (by decide +kernel) ⟨Nat.le_of_ble_eq_true rfl, Nat.le_of_ble_eq_true rfl⟩) (PH_V (hP.sub (ws' := [kX7 h ua ub uc ud ue (zz 0), kX3 ua va (zz 1), aI y va 10 (zz 2), kX1 ub (zz 3), kX8 uc vc1 vc2 vc3 vc4 vc5 (zz 4), aI y vc1 20 (zz 5), aI y vc2 20 (zz 6), aI y vc3 20 (zz 7), aI y vc4 20 (zz 8), kX0 ue ve (zz 11), aI y ve 3 (zz 12)]) [0, 1, 2, 3, 4, 5, 6, 7, 8, 12, 13] rfl) hK hN (hD.sub (ws' := [kX7 h ua ub uc ud ue (zz 0), kX3 ua va (zz 1), aI y va 10 (zz 2), kX1 ub (zz 3), kX8 uc vc1 vc2 vc3 vc4 vc5 (zz 4), aI y vc1 20 (zz 5), aI y vc2 20 (zz 6), aI y vc3 20 (zz 7), aI y vc4 20 (zz 8), kX0 ue ve (zz 11), aI y ve 3 (zz 12)]) [0, 1, 2, 3, 4, 5, 6, 7, 8, 12, 13] (by decide) rfl) (ci := 5) (q0 := 0) rfl rfl) rfl rfl hl.1 rfl (lv_room (Nat.le_of_ble_eq_true rfl)) dX7_pass_17 ⟨Nat.le_of_ble_eq_true rfl, Nat.le_of_ble_eq_true rfl⟩) hP hD hS hA rfl rfl rfl (by decide) rfl (fun _ => rfl) (fun _ H locs hP hD hS => ?_)
          have hP : va_P G vwCl [kX7 h ua ub uc ud ue (s_X7_passOne_z zz 0), kX3 ua va (s_X7_passOne_z zz 1), aI y va 10 (s_X7_passOne_z zz 2), kX1 ub (s_X7_passOne_z zz 3), kX8 uc vc1 vc2 vc3 vc4 vc5 (s_X7_passOne_z zz 4), aI y vc1 20 (s_X7_passOne_z zz 5), aI y vc2 20 (s_X7_passOne_z zz 6), aI y vc3 20 (s_X7_passOne_z zz 7), aI y vc4 20 (s_X7_passOne_z zz 8), aI y vc5 20 o, kX10 ud vd (s_X7_passOne_z zz 9), aI y vd 32 (s_X7_passOne_z zz 10), kX0 ue ve (s_X7_passOne_z zz 11), aI y ve 3 (s_X7_passOne_z zz 12)] H := hP
          have hD : va_D A [kX7 h ua ub uc ud ue (s_X7_passOne_z zz 0), kX3 ua va (s_X7_passOne_z zz 1), aI y va 10 (s_X7_passOne_z zz 2), kX1 ub (s_X7_passOne_z zz 3), kX8 uc vc1 vc2 vc3 vc4 vc5 (s_X7_passOne_z zz 4), aI y vc1 20 (s_X7_passOne_z zz 5), aI y vc2 20 (s_X7_passOne_z zz 6), aI y vc3 20 (s_X7_passOne_z zz 7), aI y vc4 20 (s_X7_passOne_z zz 8), aI y vc5 20 o, kX10 ud vd (s_X7_passOne_z zz 9), aI y vd 32 (s_X7_passOne_z zz 10), kX0 ue ve (s_X7_passOne_z zz 11), aI y ve 3 (s_X7_passOne_z zz 12)] := hD
          refine lv_iinc (v := (x2 + 1)) (lv' := [(2, .int (x2 + 1)), (0, .ref h), (1, .int a1)]) hx hb dX7_pass_20 hl (k := 0) rfl (by first | rfl | decide) (by decide) rfl (fun ls hl => ?_)
          refine lv_goto (tgt := 11) hx hb dX7_pass_23 (by decide) ?_
          exact ih_4 (k0 + 1) (x2 + 1) (s_X7_passOne_z zz) (by rw [hx2]; exact nI_1 k0) (by omega) (by rw [hzz]; rfl) (by omega) H locs hP hD hS ls (lv_sub hl [0, 1, 2] rfl)
    exact LOOP11_2 (tn a1 - 0 + 1) 0 0 z rfl (by omega) rfl (Nat.lt_succ_self _) s.heap [] hP hD hS ls (lv_sub hl [0, 1, 2] rfl)
  · refine lv_iconst (v := 0) hx hb dX7_pass_7 (by decide) ?_
    rw [hQQ]
    exact W.zret hx hb hr (nz_bool (Or.inl rfl)) (end_Hi o hP hD hS (by unfold s_X7_pass_r; exact (if_pos c_1).symm) (congr (congr (congr (congr (congr (congr (congr (congr (congr (congr (congr (congr (congrArg (fun (z0 : Nat → Int32) (z1 : Nat → Int32) (z2 : Nat → Int32) (z3 : Nat → Int32) (z4 : Nat → Int32) (z5 : Nat → Int32) (z6 : Nat → Int32) (z7 : Nat → Int32) (z8 : Nat → Int32) (z10 : Nat → Int32) (z11 : Nat → Int32) (z12 : Nat → Int32) (z13 : Nat → Int32) => [kX7 h ua ub uc ud ue z0, kX3 ua va z1, aI y va 10 z2, kX1 ub z3, kX8 uc vc1 vc2 vc3 vc4 vc5 z4, aI y vc1 20 z5, aI y vc2 20 z6, aI y vc3 20 z7, aI y vc4 20 z8, aI y vc5 20 o, kX10 ud vd z10, aI y vd 32 z11, kX0 ue ve z12, aI y ve 3 z13]) (by unfold s_X7_pass_z; exact (if_pos c_1).symm)) (by unfold s_X7_pass_z; exact (if_pos c_1).symm)) (by unfold s_X7_pass_z; exact (if_pos c_1).symm)) (by unfold s_X7_pass_z; exact (if_pos c_1).symm)) (by unfold s_X7_pass_z; exact (if_pos c_1).symm)) (by unfold s_X7_pass_z; exact (if_pos c_1).symm)) (by unfold s_X7_pass_z; exact (if_pos c_1).symm)) (by unfold s_X7_pass_z; exact (if_pos c_1).symm)) (by unfold s_X7_pass_z; exact (if_pos c_1).symm)) (by unfold s_X7_pass_z; exact (if_pos c_1).symm)) (by unfold s_X7_pass_z; exact (if_pos c_1).symm)) (by unfold s_X7_pass_z; exact (if_pos c_1).symm)) (by unfold s_X7_pass_z; exact (if_pos c_1).symm))) hS.2.2 dX7_pass_8

def s_X7_number_r (a1 : Int32) (z : Nat → Nat → Int32) : Int32 := (if a1 = 0 then ((z 1) 0) else (if a1 = 1 then ((z 1) 1) else (if a1 = 2 then ((z 1) 2) else (if a1 = 3 then ((z 1) 3) else (if a1 = 4 then ((z 1) 4) else (if a1 = 5 then (s_X1_number_r a1 (z 3)) else (if a1 = 6 then (s_X1_number_r a1 (z 3)) else (if a1 = 7 then (s_X1_number_r a1 (z 3)) else (if a1 = 8 then (s_X1_number_r a1 (z 3)) else (if a1 = 9 then (s_X1_number_r a1 (z 3)) else (if a1 = 10 then (s_X1_number_r a1 (z 3)) else (if a1 = 11 then ((z 3) 6) else (if a1 = 12 then ((z 1) 5) else (if a1 = 13 then ((z 0) 0) else (if a1 = 14 then (let v_21 : Int32 := (if ((z 3) 7) = 0 then 0 else 1); v_21) else (if a1 = 15 then ((z 3) 8) else (if a1 = 16 then ((z 4) 0) else (if a1 = 17 then (s_X7_goodCount_r z) else (if a1 = 18 then ((z 9) 0) else ((z 11) 1))))))))))))))))))))
abbrev rmX7_number : Room := ({ frames := 5, cells := 0, slots := 0, locals := 112 } : Room)
set_option maxHeartbeats 4000000 in
set_option maxRecDepth 100000 in
theorem c_X7_number (l : Launch) (G : va_G) (y : Nat → ClassId) (h : Nat) (a1 : Int32) (ua : Nat) (ub : Nat) (uc : Nat) (ud : Nat) (ue : Nat) (z : Nat → Nat → Int32) (va : Nat) (vc1 : Nat) (vc2 : Nat) (vc3 : Nat) (vc4 : Nat) (vc5 : Nat) (o : Nat → Int32) (vd : Nat) (ve : Nat) (sz : Nat) (hw : vp_in (z 4 0) 21) : Met l yX7_number wsX7_number rmX7_number (PH G y [.ref h, .int a1] [kX7 h ua ub uc ud ue (z 0), kX3 ua va (z 1), kX1 ub (z 3), kX8 uc vc1 vc2 vc3 vc4 vc5 (z 4), aI y vc1 20 (z 5), aI y vc2 20 (z 6), aI y vc3 20 (z 7), aI y vc4 20 (z 8), aI y vc5 20 o, kX10 ud vd (z 9), kX0 ue ve (z 11)] sz) (QHi G (s_X7_number_r a1 z) (fun u : (Nat → Int32) => [kX7 h ua ub uc ud ue (z 0), kX3 ua va (z 1), kX1 ub (z 3), kX8 uc vc1 vc2 vc3 vc4 vc5 (z 4), aI y vc1 20 (z 5), aI y vc2 20 (z 6), aI y vc3 20 (z 7), aI y vc4 20 (z 8), aI y vc5 20 u, kX10 ud vd (z 9), kX0 ue ve (z 11)]) (va_A [kX7 h ua ub uc ud ue (z 0), kX3 ua va (z 1), kX1 ub (z 3), kX8 uc vc1 vc2 vc3 vc4 vc5 (z 4), aI y vc1 20 (z 5), aI y vc2 20 (z 6), aI y vc3 20 (z 7), aI y vc4 20 (z 8), aI y vc5 20 o, kX10 ud vd (z 9), kX0 ue ve (z 11)] sz)) 0 0 (va_A [kX7 h ua ub uc ud ue (z 0), kX3 ua va (z 1), kX1 ub (z 3), kX8 uc vc1 vc2 vc3 vc4 vc5 (z 4), aI y vc1 20 (z 5), aI y vc2 20 (z 6), aI y vc3 20 (z 7), aI y vc4 20 (z 8), aI y vc5 20 o, kX10 ud vd (z 9), kX0 ue ve (z 11)] sz) := by
  refine Met.ofW (cc := cX7_number) (maxL := 2) (ret := (some .int)) (by decide) rfl ?_
  intro p e s m args below meth c s₁ B hml hv
  obtain ⟨rfl, hsz, hP, ⟨hK, hN⟩, hD0⟩ := hv
  have hx := B.exec
  have hb := B.bytes
  have hr := B.returns
  have hts := atoms_spec (ws := wsX7_number) B.pre
  have hown : s.vm.findClass RX7 = some m.cls := findClass_of_methodNamed B.named
  have hlocks := B.notSynchronized
  have i_X0 : ∀ w ∈ u_ws RX0 TX0 6, w ∈ wsX7_number := by decide +kernel
  have i_X1 : ∀ w ∈ u_ws RX1 TX1 11, w ∈ wsX7_number := by decide +kernel
  have i_X10 : ∀ w ∈ u_ws RX10 TX10 2, w ∈ wsX7_number := by decide +kernel
  have i_X3 : ∀ w ∈ u_ws RX3 TX3 8, w ∈ wsX7_number := by decide +kernel
  have i_X7 : ∀ w ∈ u_ws RX7 TX7 6, w ∈ wsX7_number := by decide +kernel
  have i_X8 : ∀ w ∈ u_ws RX8 TX8 10, w ∈ wsX7_number := by decide +kernel
  subst hsz
  have hD := hD0.self (sz := s.heap.size)
  generalize hAe : va_A [kX7 h ua ub uc ud ue (z 0), kX3 ua va (z 1), kX1 ub (z 3), kX8 uc vc1 vc2 vc3 vc4 vc5 (z 4), aI y vc1 20 (z 5), aI y vc2 20 (z 6), aI y vc3 20 (z 7), aI y vc4 20 (z 8), aI y vc5 20 o, kX10 ud vd (z 9), kX0 ue ve (z 11)] s.heap.size = A at hD ⊢
  have hA : ∀ q : Nat, s.heap.size ≤ q → A q := fun q h => by rw [← hAe]; exact Or.inr h
  have hS : va_S A s.heap s.heap [] := va_S.rf
  have hP : va_P G vwCl [kX7 h ua ub uc ud ue (z 0), kX3 ua va (z 1), kX1 ub (z 3), kX8 uc vc1 vc2 vc3 vc4 vc5 (z 4), aI y vc1 20 (z 5), aI y vc2 20 (z 6), aI y vc3 20 (z 7), aI y vc4 20 (z 8), aI y vc5 20 o, kX10 ud vd (z 9), kX0 ue ve (z 11)] s.heap := hP
  have hl := lv_entry ([.ref h, .int a1]) (n := 2) (Nat.le_of_ble_eq_true rfl)
  rw [lg_entry_eq]
  generalize (lg_sl ([.ref h, .int a1]) ++ List.replicate (2 - (lg_sl ([.ref h, .int a1])).length) Slot.unset).toArray = ls at hl ⊢
  have hl : lv_has ls 2 [(0, .ref h), (1, .int a1)] := hl
  obtain ⟨QQ, hQQ⟩ : ∃ zq9, zq9 = MQ below (QHi G (s_X7_number_r a1 z) (fun u : (Nat → Int32) => [kX7 h ua ub uc ud ue (z 0), kX3 ua va (z 1), kX1 ub (z 3), kX8 uc vc1 vc2 vc3 vc4 vc5 (z 4), aI y vc1 20 (z 5), aI y vc2 20 (z 6), aI y vc3 20 (z 7), aI y vc4 20 (z 8), aI y vc5 20 u, kX10 ud vd (z 9), kX0 ue ve (z 11)]) A) ([.ref h, .int a1] : List Value).toArray s 0 0 A := ⟨_, rfl⟩
  rw [← hQQ]
  refine lv_iload_n hx hb dX7_number_0 rfl (lv_at hl 1 rfl) ?_
  rcases Decidable.em (a1 = 0) with c_1 | c_1
  · refine lv_tableIn (tgt := 92) hx hb dX7_number_1 (by rw [c_1]; decide) (by rw [c_1]; decide) (by rw [c_1]; first | done | rfl) (by decide) ?_
    refine lv_aload_n hx hb dX7_number_92 rfl (lv_at hl 0 rfl) ?_
    refine va_get (D := G) (ci := 5) (v := .ref ua) (C := RX7) (T := TX7) (N := 6) hx hb hts i_X7 hown hK hP 0 rfl rfl 1 (by decide) (hts (.fieldLink RX7 12 "RelayTuner$State" "plant" "LRelayTuner$Plant;") (by decide +kernel)) (fun _ h9 => h9) rfl dX7_number_93 ?_
    refine va_getN (D := G) (ci := 3) (v := .int ((z 1) 0)) (C := RX3) (T := TX3) (N := 8) hx hb hts i_X3 hown hK hP 1 rfl rfl 0 (by decide) (NN.f hN (a := RX7) (i := 66) (b := "RelayTuner$Plant") (n := "gain") (d := "I") (by decide +kernel)) (fun _ h9 => h9) rfl dX7_number_96 ?_
    rw [hQQ]
    exact W.iret hx hb hr (end_Hi o hP hD hS (by unfold s_X7_number_r; exact (if_pos c_1).symm) rfl) hS.2.2 dX7_number_99
  rcases Decidable.em (a1 = 1) with c_2 | c_2
  · refine lv_tableIn (tgt := 100) hx hb dX7_number_1 (by rw [c_2]; decide) (by rw [c_2]; decide) (by rw [c_2]; first | done | rfl) (by decide) ?_
    refine lv_aload_n hx hb dX7_number_100 rfl (lv_at hl 0 rfl) ?_
    refine va_get (D := G) (ci := 5) (v := .ref ua) (C := RX7) (T := TX7) (N := 6) hx hb hts i_X7 hown hK hP 0 rfl rfl 1 (by decide) (hts (.fieldLink RX7 12 "RelayTuner$State" "plant" "LRelayTuner$Plant;") (by decide +kernel)) (fun _ h9 => h9) rfl dX7_number_101 ?_
    refine va_getN (D := G) (ci := 3) (v := .int ((z 1) 1)) (C := RX3) (T := TX3) (N := 8) hx hb hts i_X3 hown hK hP 1 rfl rfl 1 (by decide) (NN.f hN (a := RX7) (i := 69) (b := "RelayTuner$Plant") (n := "inertia") (d := "I") (by decide +kernel)) (fun _ h9 => h9) rfl dX7_number_104 ?_
    rw [hQQ]
    exact W.iret hx hb hr (end_Hi o hP hD hS (by unfold s_X7_number_r; exact ((if_neg c_1).trans (if_pos c_2)).symm) rfl) hS.2.2 dX7_number_107
  rcases Decidable.em (a1 = 2) with c_3 | c_3
  · refine lv_tableIn (tgt := 108) hx hb dX7_number_1 (by rw [c_3]; decide) (by rw [c_3]; decide) (by rw [c_3]; first | done | rfl) (by decide) ?_
    refine lv_aload_n hx hb dX7_number_108 rfl (lv_at hl 0 rfl) ?_
    refine va_get (D := G) (ci := 5) (v := .ref ua) (C := RX7) (T := TX7) (N := 6) hx hb hts i_X7 hown hK hP 0 rfl rfl 1 (by decide) (hts (.fieldLink RX7 12 "RelayTuner$State" "plant" "LRelayTuner$Plant;") (by decide +kernel)) (fun _ h9 => h9) rfl dX7_number_109 ?_
    refine va_getN (D := G) (ci := 3) (v := .int ((z 1) 2)) (C := RX3) (T := TX3) (N := 8) hx hb hts i_X3 hown hK hP 1 rfl rfl 2 (by decide) (NN.f hN (a := RX7) (i := 72) (b := "RelayTuner$Plant") (n := "delay") (d := "I") (by decide +kernel)) (fun _ h9 => h9) rfl dX7_number_112 ?_
    rw [hQQ]
    exact W.iret hx hb hr (end_Hi o hP hD hS (by unfold s_X7_number_r; exact ((if_neg c_1).trans ((if_neg c_2).trans (if_pos c_3))).symm) rfl) hS.2.2 dX7_number_115
  rcases Decidable.em (a1 = 3) with c_4 | c_4
  · refine lv_tableIn (tgt := 116) hx hb dX7_number_1 (by rw [c_4]; decide) (by rw [c_4]; decide) (by rw [c_4]; first | done | rfl) (by decide) ?_
    refine lv_aload_n hx hb dX7_number_116 rfl (lv_at hl 0 rfl) ?_
    refine va_get (D := G) (ci := 5) (v := .ref ua) (C := RX7) (T := TX7) (N := 6) hx hb hts i_X7 hown hK hP 0 rfl rfl 1 (by decide) (hts (.fieldLink RX7 12 "RelayTuner$State" "plant" "LRelayTuner$Plant;") (by decide +kernel)) (fun _ h9 => h9) rfl dX7_number_117 ?_
    refine va_getN (D := G) (ci := 3) (v := .int ((z 1) 3)) (C := RX3) (T := TX3) (N := 8) hx hb hts i_X3 hown hK hP 1 rfl rfl 3 (by decide) (NN.f hN (a := RX7) (i := 75) (b := "RelayTuner$Plant") (n := "ambient") (d := "I") (by decide +kernel)) (fun _ h9 => h9) rfl dX7_number_120 ?_
    rw [hQQ]
    exact W.iret hx hb hr (end_Hi o hP hD hS (by unfold s_X7_number_r; exact ((if_neg c_1).trans ((if_neg c_2).trans ((if_neg c_3).trans (if_pos c_4)))).symm) rfl) hS.2.2 dX7_number_123
  rcases Decidable.em (a1 = 4) with c_5 | c_5
  · refine lv_tableIn (tgt := 124) hx hb dX7_number_1 (by rw [c_5]; decide) (by rw [c_5]; decide) (by rw [c_5]; first | done | rfl) (by decide) ?_
    refine lv_aload_n hx hb dX7_number_124 rfl (lv_at hl 0 rfl) ?_
    refine va_get (D := G) (ci := 5) (v := .ref ua) (C := RX7) (T := TX7) (N := 6) hx hb hts i_X7 hown hK hP 0 rfl rfl 1 (by decide) (hts (.fieldLink RX7 12 "RelayTuner$State" "plant" "LRelayTuner$Plant;") (by decide +kernel)) (fun _ h9 => h9) rfl dX7_number_125 ?_
    refine va_getN (D := G) (ci := 3) (v := .int ((z 1) 4)) (C := RX3) (T := TX3) (N := 8) hx hb hts i_X3 hown hK hP 1 rfl rfl 4 (by decide) (NN.f hN (a := RX7) (i := 78) (b := "RelayTuner$Plant") (n := "fullPower") (d := "I") (by decide +kernel)) (fun _ h9 => h9) rfl dX7_number_128 ?_
    rw [hQQ]
    exact W.iret hx hb hr (end_Hi o hP hD hS (by unfold s_X7_number_r; exact ((if_neg c_1).trans ((if_neg c_2).trans ((if_neg c_3).trans ((if_neg c_4).trans (if_pos c_5))))).symm) rfl) hS.2.2 dX7_number_131
  rcases Decidable.em (a1 = 5) with c_6 | c_6
  · refine lv_tableIn (tgt := 132) hx hb dX7_number_1 (by rw [c_6]; decide) (by rw [c_6]; decide) (by rw [c_6]; first | done | rfl) (by decide) ?_
    refine lv_aload_n hx hb dX7_number_132 rfl (lv_at hl 0 rfl) ?_
    refine va_get (D := G) (ci := 5) (v := .ref ub) (C := RX7) (T := TX7) (N := 6) hx hb hts i_X7 hown hK hP 0 rfl rfl 2 (by decide) (hts (.fieldLink RX7 21 "RelayTuner$State" "control" "LRelayTuner$Control;") (by decide +kernel)) (fun _ h9 => h9) rfl dX7_number_133 ?_
    refine lv_iload_n hx hb dX7_number_136 rfl (lv_at hl 1 rfl) ?_
    refine cl_Ri (va_runV (As := [.int a1]) (rest := []) ⟨hx, hb, hml, hown, hts⟩ (c_X1_number l G y ub a1 (z 3)) (cwV 1 hts gX7_number_X1_number rfl rfl rfl (by decide +kernel) ⟨Nat.le_of_ble_eq_true rfl, Nat.le_of_ble_eq_true rfl⟩) (PR_V (hP.sub (ws' := [kX1 ub (z 3)]) [2] rfl) hK hN (ci := 1) (q0 := 0) rfl rfl) rfl rfl hl.1 rfl (lv_room (Nat.le_of_ble_eq_true rfl)) dX7_number_137 ⟨Nat.le_of_ble_eq_true rfl, Nat.le_of_ble_eq_true rfl⟩) ?_
    rw [hQQ]
    exact W.iret hx hb hr (end_Hi o hP hD hS (by unfold s_X7_number_r; exact ((if_neg c_1).trans ((if_neg c_2).trans ((if_neg c_3).trans ((if_neg c_4).trans ((if_neg c_5).trans (if_pos c_6)))))).symm) rfl) hS.2.2 dX7_number_140
  rcases Decidable.em (a1 = 6) with c_7 | c_7
  · refine lv_tableIn (tgt := 132) hx hb dX7_number_1 (by rw [c_7]; decide) (by rw [c_7]; decide) (by rw [c_7]; first | done | rfl) (by decide) ?_
    refine lv_aload_n hx hb dX7_number_132 rfl (lv_at hl 0 rfl) ?_
    refine va_get (D := G) (ci := 5) (v := .ref ub) (C := RX7) (T := TX7) (N := 6) hx hb hts i_X7 hown hK hP 0 rfl rfl 2 (by decide) (hts (.fieldLink RX7 21 "RelayTuner$State" "control" "LRelayTuner$Control;") (by decide +kernel)) (fun _ h9 => h9) rfl dX7_number_133 ?_
    refine lv_iload_n hx hb dX7_number_136 rfl (lv_at hl 1 rfl) ?_
    refine cl_Ri (va_runV (As := [.int a1]) (rest := []) ⟨hx, hb, hml, hown, hts⟩ (c_X1_number l G y ub a1 (z 3)) (cwV 1 hts gX7_number_X1_number rfl rfl rfl (by decide +kernel) ⟨Nat.le_of_ble_eq_true rfl, Nat.le_of_ble_eq_true rfl⟩) (PR_V (hP.sub (ws' := [kX1 ub (z 3)]) [2] rfl) hK hN (ci := 1) (q0 := 0) rfl rfl) rfl rfl hl.1 rfl (lv_room (Nat.le_of_ble_eq_true rfl)) dX7_number_137 ⟨Nat.le_of_ble_eq_true rfl, Nat.le_of_ble_eq_true rfl⟩) ?_
    rw [hQQ]
    exact W.iret hx hb hr (end_Hi o hP hD hS (by unfold s_X7_number_r; exact ((if_neg c_1).trans ((if_neg c_2).trans ((if_neg c_3).trans ((if_neg c_4).trans ((if_neg c_5).trans ((if_neg c_6).trans (if_pos c_7))))))).symm) rfl) hS.2.2 dX7_number_140
  rcases Decidable.em (a1 = 7) with c_8 | c_8
  · refine lv_tableIn (tgt := 132) hx hb dX7_number_1 (by rw [c_8]; decide) (by rw [c_8]; decide) (by rw [c_8]; first | done | rfl) (by decide) ?_
    refine lv_aload_n hx hb dX7_number_132 rfl (lv_at hl 0 rfl) ?_
    refine va_get (D := G) (ci := 5) (v := .ref ub) (C := RX7) (T := TX7) (N := 6) hx hb hts i_X7 hown hK hP 0 rfl rfl 2 (by decide) (hts (.fieldLink RX7 21 "RelayTuner$State" "control" "LRelayTuner$Control;") (by decide +kernel)) (fun _ h9 => h9) rfl dX7_number_133 ?_
    refine lv_iload_n hx hb dX7_number_136 rfl (lv_at hl 1 rfl) ?_
    refine cl_Ri (va_runV (As := [.int a1]) (rest := []) ⟨hx, hb, hml, hown, hts⟩ (c_X1_number l G y ub a1 (z 3)) (cwV 1 hts gX7_number_X1_number rfl rfl rfl (by decide +kernel) ⟨Nat.le_of_ble_eq_true rfl, Nat.le_of_ble_eq_true rfl⟩) (PR_V (hP.sub (ws' := [kX1 ub (z 3)]) [2] rfl) hK hN (ci := 1) (q0 := 0) rfl rfl) rfl rfl hl.1 rfl (lv_room (Nat.le_of_ble_eq_true rfl)) dX7_number_137 ⟨Nat.le_of_ble_eq_true rfl, Nat.le_of_ble_eq_true rfl⟩) ?_
    rw [hQQ]
    exact W.iret hx hb hr (end_Hi o hP hD hS (by unfold s_X7_number_r; exact ((if_neg c_1).trans ((if_neg c_2).trans ((if_neg c_3).trans ((if_neg c_4).trans ((if_neg c_5).trans ((if_neg c_6).trans ((if_neg c_7).trans (if_pos c_8)))))))).symm) rfl) hS.2.2 dX7_number_140
  rcases Decidable.em (a1 = 8) with c_9 | c_9
  · refine lv_tableIn (tgt := 132) hx hb dX7_number_1 (by rw [c_9]; decide) (by rw [c_9]; decide) (by rw [c_9]; first | done | rfl) (by decide) ?_
    refine lv_aload_n hx hb dX7_number_132 rfl (lv_at hl 0 rfl) ?_
    refine va_get (D := G) (ci := 5) (v := .ref ub) (C := RX7) (T := TX7) (N := 6) hx hb hts i_X7 hown hK hP 0 rfl rfl 2 (by decide) (hts (.fieldLink RX7 21 "RelayTuner$State" "control" "LRelayTuner$Control;") (by decide +kernel)) (fun _ h9 => h9) rfl dX7_number_133 ?_
    refine lv_iload_n hx hb dX7_number_136 rfl (lv_at hl 1 rfl) ?_
    refine cl_Ri (va_runV (As := [.int a1]) (rest := []) ⟨hx, hb, hml, hown, hts⟩ (c_X1_number l G y ub a1 (z 3)) (cwV 1 hts gX7_number_X1_number rfl rfl rfl (by decide +kernel) ⟨Nat.le_of_ble_eq_true rfl, Nat.le_of_ble_eq_true rfl⟩) (PR_V (hP.sub (ws' := [kX1 ub (z 3)]) [2] rfl) hK hN (ci := 1) (q0 := 0) rfl rfl) rfl rfl hl.1 rfl (lv_room (Nat.le_of_ble_eq_true rfl)) dX7_number_137 ⟨Nat.le_of_ble_eq_true rfl, Nat.le_of_ble_eq_true rfl⟩) ?_
    rw [hQQ]
    exact W.iret hx hb hr (end_Hi o hP hD hS (by unfold s_X7_number_r; exact ((if_neg c_1).trans ((if_neg c_2).trans ((if_neg c_3).trans ((if_neg c_4).trans ((if_neg c_5).trans ((if_neg c_6).trans ((if_neg c_7).trans ((if_neg c_8).trans (if_pos c_9))))))))).symm) rfl) hS.2.2 dX7_number_140
  rcases Decidable.em (a1 = 9) with c_10 | c_10
  · refine lv_tableIn (tgt := 132) hx hb dX7_number_1 (by rw [c_10]; decide) (by rw [c_10]; decide) (by rw [c_10]; first | done | rfl) (by decide) ?_
    refine lv_aload_n hx hb dX7_number_132 rfl (lv_at hl 0 rfl) ?_
    refine va_get (D := G) (ci := 5) (v := .ref ub) (C := RX7) (T := TX7) (N := 6) hx hb hts i_X7 hown hK hP 0 rfl rfl 2 (by decide) (hts (.fieldLink RX7 21 "RelayTuner$State" "control" "LRelayTuner$Control;") (by decide +kernel)) (fun _ h9 => h9) rfl dX7_number_133 ?_
    refine lv_iload_n hx hb dX7_number_136 rfl (lv_at hl 1 rfl) ?_
    refine cl_Ri (va_runV (As := [.int a1]) (rest := []) ⟨hx, hb, hml, hown, hts⟩ (c_X1_number l G y ub a1 (z 3)) (cwV 1 hts gX7_number_X1_number rfl rfl rfl (by decide +kernel) ⟨Nat.le_of_ble_eq_true rfl, Nat.le_of_ble_eq_true rfl⟩) (PR_V (hP.sub (ws' := [kX1 ub (z 3)]) [2] rfl) hK hN (ci := 1) (q0 := 0) rfl rfl) rfl rfl hl.1 rfl (lv_room (Nat.le_of_ble_eq_true rfl)) dX7_number_137 ⟨Nat.le_of_ble_eq_true rfl, Nat.le_of_ble_eq_true rfl⟩) ?_
    rw [hQQ]
    exact W.iret hx hb hr (end_Hi o hP hD hS (by unfold s_X7_number_r; exact ((if_neg c_1).trans ((if_neg c_2).trans ((if_neg c_3).trans ((if_neg c_4).trans ((if_neg c_5).trans ((if_neg c_6).trans ((if_neg c_7).trans ((if_neg c_8).trans ((if_neg c_9).trans (if_pos c_10)))))))))).symm) rfl) hS.2.2 dX7_number_140
  rcases Decidable.em (a1 = 10) with c_11 | c_11
  · refine lv_tableIn (tgt := 132) hx hb dX7_number_1 (by rw [c_11]; decide) (by rw [c_11]; decide) (by rw [c_11]; first | done | rfl) (by decide) ?_
    refine lv_aload_n hx hb dX7_number_132 rfl (lv_at hl 0 rfl) ?_
    refine va_get (D := G) (ci := 5) (v := .ref ub) (C := RX7) (T := TX7) (N := 6) hx hb hts i_X7 hown hK hP 0 rfl rfl 2 (by decide) (hts (.fieldLink RX7 21 "RelayTuner$State" "control" "LRelayTuner$Control;") (by decide +kernel)) (fun _ h9 => h9) rfl dX7_number_133 ?_
    refine lv_iload_n hx hb dX7_number_136 rfl (lv_at hl 1 rfl) ?_
    refine cl_Ri (va_runV (As := [.int a1]) (rest := []) ⟨hx, hb, hml, hown, hts⟩ (c_X1_number l G y ub a1 (z 3)) (cwV 1 hts gX7_number_X1_number rfl rfl rfl (by decide +kernel) ⟨Nat.le_of_ble_eq_true rfl, Nat.le_of_ble_eq_true rfl⟩) (PR_V (hP.sub (ws' := [kX1 ub (z 3)]) [2] rfl) hK hN (ci := 1) (q0 := 0) rfl rfl) rfl rfl hl.1 rfl (lv_room (Nat.le_of_ble_eq_true rfl)) dX7_number_137 ⟨Nat.le_of_ble_eq_true rfl, Nat.le_of_ble_eq_true rfl⟩) ?_
    rw [hQQ]
    exact W.iret hx hb hr (end_Hi o hP hD hS (by unfold s_X7_number_r; exact ((if_neg c_1).trans ((if_neg c_2).trans ((if_neg c_3).trans ((if_neg c_4).trans ((if_neg c_5).trans ((if_neg c_6).trans ((if_neg c_7).trans ((if_neg c_8).trans ((if_neg c_9).trans ((if_neg c_10).trans (if_pos c_11))))))))))).symm) rfl) hS.2.2 dX7_number_140
  rcases Decidable.em (a1 = 11) with c_12 | c_12
  · refine lv_tableIn (tgt := 141) hx hb dX7_number_1 (by rw [c_12]; decide) (by rw [c_12]; decide) (by rw [c_12]; first | done | rfl) (by decide) ?_
    refine lv_aload_n hx hb dX7_number_141 rfl (lv_at hl 0 rfl) ?_
    refine va_get (D := G) (ci := 5) (v := .ref ub) (C := RX7) (T := TX7) (N := 6) hx hb hts i_X7 hown hK hP 0 rfl rfl 2 (by decide) (hts (.fieldLink RX7 21 "RelayTuner$State" "control" "LRelayTuner$Control;") (by decide +kernel)) (fun _ h9 => h9) rfl dX7_number_142 ?_
    refine va_getN (D := G) (ci := 1) (v := .int ((z 3) 6)) (C := RX1) (T := TX1) (N := 11) hx hb hts i_X1 hown hK hP 2 rfl rfl 6 (by decide) (NN.f hN (a := RX7) (i := 85) (b := "RelayTuner$Control") (n := "mode") (d := "I") (by decide +kernel)) (fun _ h9 => h9) rfl dX7_number_145 ?_
    rw [hQQ]
    exact W.iret hx hb hr (end_Hi o hP hD hS (by unfold s_X7_number_r; exact ((if_neg c_1).trans ((if_neg c_2).trans ((if_neg c_3).trans ((if_neg c_4).trans ((if_neg c_5).trans ((if_neg c_6).trans ((if_neg c_7).trans ((if_neg c_8).trans ((if_neg c_9).trans ((if_neg c_10).trans ((if_neg c_11).trans (if_pos c_12)))))))))))).symm) rfl) hS.2.2 dX7_number_148
  rcases Decidable.em (a1 = 12) with c_13 | c_13
  · refine lv_tableIn (tgt := 149) hx hb dX7_number_1 (by rw [c_13]; decide) (by rw [c_13]; decide) (by rw [c_13]; first | done | rfl) (by decide) ?_
    refine lv_aload_n hx hb dX7_number_149 rfl (lv_at hl 0 rfl) ?_
    refine va_get (D := G) (ci := 5) (v := .ref ua) (C := RX7) (T := TX7) (N := 6) hx hb hts i_X7 hown hK hP 0 rfl rfl 1 (by decide) (hts (.fieldLink RX7 12 "RelayTuner$State" "plant" "LRelayTuner$Plant;") (by decide +kernel)) (fun _ h9 => h9) rfl dX7_number_150 ?_
    refine va_getN (D := G) (ci := 3) (v := .int ((z 1) 5)) (C := RX3) (T := TX3) (N := 8) hx hb hts i_X3 hown hK hP 1 rfl rfl 5 (by decide) (NN.f hN (a := RX7) (i := 88) (b := "RelayTuner$Plant") (n := "temperature") (d := "I") (by decide +kernel)) (fun _ h9 => h9) rfl dX7_number_153 ?_
    rw [hQQ]
    exact W.iret hx hb hr (end_Hi o hP hD hS (by unfold s_X7_number_r; exact ((if_neg c_1).trans ((if_neg c_2).trans ((if_neg c_3).trans ((if_neg c_4).trans ((if_neg c_5).trans ((if_neg c_6).trans ((if_neg c_7).trans ((if_neg c_8).trans ((if_neg c_9).trans ((if_neg c_10).trans ((if_neg c_11).trans ((if_neg c_12).trans (if_pos c_13))))))))))))).symm) rfl) hS.2.2 dX7_number_156
  rcases Decidable.em (a1 = 13) with c_14 | c_14
  · refine lv_tableIn (tgt := 157) hx hb dX7_number_1 (by rw [c_14]; decide) (by rw [c_14]; decide) (by rw [c_14]; first | done | rfl) (by decide) ?_
    refine lv_aload_n hx hb dX7_number_157 rfl (lv_at hl 0 rfl) ?_
    refine va_get (D := G) (ci := 5) (v := .int ((z 0) 0)) (C := RX7) (T := TX7) (N := 6) hx hb hts i_X7 hown hK hP 0 rfl rfl 0 (by decide) (hts (.fieldLink RX7 46 "RelayTuner$State" "clock" "I") (by decide +kernel)) (fun _ h9 => h9) rfl dX7_number_158 ?_
    rw [hQQ]
    exact W.iret hx hb hr (end_Hi o hP hD hS (by unfold s_X7_number_r; exact ((if_neg c_1).trans ((if_neg c_2).trans ((if_neg c_3).trans ((if_neg c_4).trans ((if_neg c_5).trans ((if_neg c_6).trans ((if_neg c_7).trans ((if_neg c_8).trans ((if_neg c_9).trans ((if_neg c_10).trans ((if_neg c_11).trans ((if_neg c_12).trans ((if_neg c_13).trans (if_pos c_14)))))))))))))).symm) rfl) hS.2.2 dX7_number_161
  rcases Decidable.em (a1 = 14) with c_15 | c_15
  · refine lv_tableIn (tgt := 162) hx hb dX7_number_1 (by rw [c_15]; decide) (by rw [c_15]; decide) (by rw [c_15]; first | done | rfl) (by decide) ?_
    refine lv_aload_n hx hb dX7_number_162 rfl (lv_at hl 0 rfl) ?_
    refine va_get (D := G) (ci := 5) (v := .ref ub) (C := RX7) (T := TX7) (N := 6) hx hb hts i_X7 hown hK hP 0 rfl rfl 2 (by decide) (hts (.fieldLink RX7 21 "RelayTuner$State" "control" "LRelayTuner$Control;") (by decide +kernel)) (fun _ h9 => h9) rfl dX7_number_163 ?_
    refine va_getN (D := G) (ci := 1) (v := .int ((z 3) 7)) (C := RX1) (T := TX1) (N := 11) hx hb hts i_X1 hown hK hP 2 rfl rfl 7 (by decide) (NN.f hN (a := RX7) (i := 91) (b := "RelayTuner$Control") (n := "relayOn") (d := "Z") (by decide +kernel)) (fun _ h9 => h9) rfl dX7_number_166 ?_
    have J177_23 : ∀ (v_21 : Int32) (e_v_21 : v_21 = (if ((z 3) 7) = 0 then 0 else 1)) (z_22 : v_21 = 0 ∨ v_21 = 1) (ls : Array Slot) (hl : lv_has ls 2 []), W p l e (headSpec wsX7_number rmX7_number).room s m ([.ref h, .int a1] : List Value).toArray below meth c s.heap [] 0 0 QQ (F0 m 177 ls [.int v_21]) := by
      intro v_21 e_v_21 z_22 ls hl
      rw [hQQ]
      exact W.iret hx hb hr (end_Hi o hP hD hS (by subst e_v_21; unfold s_X7_number_r; exact ((if_neg c_1).trans ((if_neg c_2).trans ((if_neg c_3).trans ((if_neg c_4).trans ((if_neg c_5).trans ((if_neg c_6).trans ((if_neg c_7).trans ((if_neg c_8).trans ((if_neg c_9).trans ((if_neg c_10).trans ((if_neg c_11).trans ((if_neg c_12).trans ((if_neg c_13).trans ((if_neg c_14).trans (if_pos c_15))))))))))))))).symm) (by subst e_v_21; exact rfl)) hS.2.2 dX7_number_177
    refine lv_if_eq (tgt := 176) hx hb dX7_number_169 (by decide) (fun c_20 => ?_) (fun c_20 => ?_)
    · refine lv_iconst (v := 0) hx hb dX7_number_176 (by decide) ?_
      exact J177_23 _ (if_pos c_20).symm (Or.inl rfl) ls (lv_sub hl [] rfl)
    · refine lv_iconst (v := 1) hx hb dX7_number_172 (by decide) ?_
      refine lv_goto (tgt := 177) hx hb dX7_number_173 (by decide) ?_
      exact J177_23 _ (if_neg c_20).symm (Or.inr rfl) ls (lv_sub hl [] rfl)
  rcases Decidable.em (a1 = 15) with c_16 | c_16
  · refine lv_tableIn (tgt := 178) hx hb dX7_number_1 (by rw [c_16]; decide) (by rw [c_16]; decide) (by rw [c_16]; first | done | rfl) (by decide) ?_
    refine lv_aload_n hx hb dX7_number_178 rfl (lv_at hl 0 rfl) ?_
    refine va_get (D := G) (ci := 5) (v := .ref ub) (C := RX7) (T := TX7) (N := 6) hx hb hts i_X7 hown hK hP 0 rfl rfl 2 (by decide) (hts (.fieldLink RX7 21 "RelayTuner$State" "control" "LRelayTuner$Control;") (by decide +kernel)) (fun _ h9 => h9) rfl dX7_number_179 ?_
    refine va_getN (D := G) (ci := 1) (v := .int ((z 3) 8)) (C := RX1) (T := TX1) (N := 11) hx hb hts i_X1 hown hK hP 2 rfl rfl 8 (by decide) (NN.f hN (a := RX7) (i := 95) (b := "RelayTuner$Control") (n := "sum") (d := "I") (by decide +kernel)) (fun _ h9 => h9) rfl dX7_number_182 ?_
    rw [hQQ]
    exact W.iret hx hb hr (end_Hi o hP hD hS (by unfold s_X7_number_r; exact ((if_neg c_1).trans ((if_neg c_2).trans ((if_neg c_3).trans ((if_neg c_4).trans ((if_neg c_5).trans ((if_neg c_6).trans ((if_neg c_7).trans ((if_neg c_8).trans ((if_neg c_9).trans ((if_neg c_10).trans ((if_neg c_11).trans ((if_neg c_12).trans ((if_neg c_13).trans ((if_neg c_14).trans ((if_neg c_15).trans (if_pos c_16)))))))))))))))).symm) rfl) hS.2.2 dX7_number_185
  rcases Decidable.em (a1 = 16) with c_17 | c_17
  · refine lv_tableIn (tgt := 186) hx hb dX7_number_1 (by rw [c_17]; decide) (by rw [c_17]; decide) (by rw [c_17]; first | done | rfl) (by decide) ?_
    refine lv_aload_n hx hb dX7_number_186 rfl (lv_at hl 0 rfl) ?_
    refine va_get (D := G) (ci := 5) (v := .ref uc) (C := RX7) (T := TX7) (N := 6) hx hb hts i_X7 hown hK hP 0 rfl rfl 3 (by decide) (hts (.fieldLink RX7 28 "RelayTuner$State" "swings" "LRelayTuner$Swings;") (by decide +kernel)) (fun _ h9 => h9) rfl dX7_number_187 ?_
    refine va_getN (D := G) (ci := 6) (v := .int ((z 4) 0)) (C := RX8) (T := TX8) (N := 10) hx hb hts i_X8 hown hK hP 3 rfl rfl 0 (by decide) (NN.f hN (a := RX7) (i := 98) (b := "RelayTuner$Swings") (n := "count") (d := "I") (by decide +kernel)) (fun _ h9 => h9) rfl dX7_number_190 ?_
    rw [hQQ]
    exact W.iret hx hb hr (end_Hi o hP hD hS (by unfold s_X7_number_r; exact ((if_neg c_1).trans ((if_neg c_2).trans ((if_neg c_3).trans ((if_neg c_4).trans ((if_neg c_5).trans ((if_neg c_6).trans ((if_neg c_7).trans ((if_neg c_8).trans ((if_neg c_9).trans ((if_neg c_10).trans ((if_neg c_11).trans ((if_neg c_12).trans ((if_neg c_13).trans ((if_neg c_14).trans ((if_neg c_15).trans ((if_neg c_16).trans (if_pos c_17))))))))))))))))).symm) rfl) hS.2.2 dX7_number_193
  rcases Decidable.em (a1 = 17) with c_18 | c_18
  · refine lv_tableIn (tgt := 194) hx hb dX7_number_1 (by rw [c_18]; decide) (by rw [c_18]; decide) (by rw [c_18]; first | done | rfl) (by decide) ?_
    refine lv_aload_n hx hb dX7_number_194 rfl (lv_at hl 0 rfl) ?_
    refine cl_Hi (wr := [kX3 ua va (z 1), kX10 ud vd (z 9), kX0 ue ve (z 11)]) (fun u : (Nat → Int32) => [kX7 h ua ub uc ud ue (z 0), kX3 ua va (z 1), kX1 ub (z 3), kX8 uc vc1 vc2 vc3 vc4 vc5 (z 4), aI y vc1 20 (z 5), aI y vc2 20 (z 6), aI y vc3 20 (z 7), aI y vc4 20 (z 8), aI y vc5 20 u, kX10 ud vd (z 9), kX0 ue ve (z 11)]) [0, 2, 3, 4, 5, 6, 7, 8] [1, 9, 10] [3, 0, 4, 5, 6, 7, 8, 9, 10, 1, 2] (va_runV (As := []) (rest := []) ⟨hx, hb, hml, hown, hts⟩ (c_X7_goodCount l G y h ua ub uc ud ue z vc1 vc2 vc3 vc4 vc5 o s.heap.size hw) (cwV 0 hts gX7_number_X7_goodCount rfl rfl rfl (by decide +kernel) ⟨Nat.le_of_ble_eq_true rfl, Nat.le_of_ble_eq_true rfl⟩) (PH_V (hP.sub (ws' := [kX7 h ua ub uc ud ue (z 0), kX1 ub (z 3), kX8 uc vc1 vc2 vc3 vc4 vc5 (z 4), aI y vc1 20 (z 5), aI y vc2 20 (z 6), aI y vc3 20 (z 7), aI y vc4 20 (z 8), aI y vc5 20 o]) [0, 2, 3, 4, 5, 6, 7, 8] rfl) hK hN (hD.sub (ws' := [kX7 h ua ub uc ud ue (z 0), kX1 ub (z 3), kX8 uc vc1 vc2 vc3 vc4 vc5 (z 4), aI y vc1 20 (z 5), aI y vc2 20 (z 6), aI y vc3 20 (z 7), aI y vc4 20 (z 8), aI y vc5 20 o]) [0, 2, 3, 4, 5, 6, 7, 8] (by decide) rfl) (ci := 5) (q0 := 0) rfl rfl) rfl rfl hl.1 rfl (lv_room (Nat.le_of_ble_eq_true rfl)) dX7_number_195 ⟨Nat.le_of_ble_eq_true rfl, Nat.le_of_ble_eq_true rfl⟩) hP hD hS hA rfl rfl rfl (by decide) rfl (fun _ => rfl) (fun u H locs hP hD hS => ?_)
    obtain ⟨o_24, rfl⟩ : ∃ zq9, zq9 = u := ⟨_, rfl⟩
    have hP : va_P G vwCl [kX7 h ua ub uc ud ue (z 0), kX3 ua va (z 1), kX1 ub (z 3), kX8 uc vc1 vc2 vc3 vc4 vc5 (z 4), aI y vc1 20 (z 5), aI y vc2 20 (z 6), aI y vc3 20 (z 7), aI y vc4 20 (z 8), aI y vc5 20 o_24, kX10 ud vd (z 9), kX0 ue ve (z 11)] H := hP
    have hD : va_D A [kX7 h ua ub uc ud ue (z 0), kX3 ua va (z 1), kX1 ub (z 3), kX8 uc vc1 vc2 vc3 vc4 vc5 (z 4), aI y vc1 20 (z 5), aI y vc2 20 (z 6), aI y vc3 20 (z 7), aI y vc4 20 (z 8), aI y vc5 20 o_24, kX10 ud vd (z 9), kX0 ue ve (z 11)] := hD
    rw [hQQ]
    exact W.iret hx hb hr (end_Hi o_24 hP hD hS (by unfold s_X7_number_r; exact ((if_neg c_1).trans ((if_neg c_2).trans ((if_neg c_3).trans ((if_neg c_4).trans ((if_neg c_5).trans ((if_neg c_6).trans ((if_neg c_7).trans ((if_neg c_8).trans ((if_neg c_9).trans ((if_neg c_10).trans ((if_neg c_11).trans ((if_neg c_12).trans ((if_neg c_13).trans ((if_neg c_14).trans ((if_neg c_15).trans ((if_neg c_16).trans ((if_neg c_17).trans (if_pos c_18)))))))))))))))))).symm) rfl) hS.2.2 dX7_number_198
  rcases Decidable.em (a1 = 18) with c_19 | c_19
  · refine lv_tableIn (tgt := 199) hx hb dX7_number_1 (by rw [c_19]; decide) (by rw [c_19]; decide) (by rw [c_19]; first | done | rfl) (by decide) ?_
    refine lv_aload_n hx hb dX7_number_199 rfl (lv_at hl 0 rfl) ?_
    refine va_get (D := G) (ci := 5) (v := .ref ud) (C := RX7) (T := TX7) (N := 6) hx hb hts i_X7 hown hK hP 0 rfl rfl 4 (by decide) (hts (.fieldLink RX7 35 "RelayTuner$State" "trials" "LRelayTuner$Trials;") (by decide +kernel)) (fun _ h9 => h9) rfl dX7_number_200 ?_
    refine va_getN (D := G) (ci := 8) (v := .int ((z 9) 0)) (C := RX10) (T := TX10) (N := 2) hx hb hts i_X10 hown hK hP 9 rfl rfl 0 (by decide) (NN.f hN (a := RX7) (i := 105) (b := "RelayTuner$Trials") (n := "count") (d := "I") (by decide +kernel)) (fun _ h9 => h9) rfl dX7_number_203 ?_
    rw [hQQ]
    exact W.iret hx hb hr (end_Hi o hP hD hS (by unfold s_X7_number_r; exact ((if_neg c_1).trans ((if_neg c_2).trans ((if_neg c_3).trans ((if_neg c_4).trans ((if_neg c_5).trans ((if_neg c_6).trans ((if_neg c_7).trans ((if_neg c_8).trans ((if_neg c_9).trans ((if_neg c_10).trans ((if_neg c_11).trans ((if_neg c_12).trans ((if_neg c_13).trans ((if_neg c_14).trans ((if_neg c_15).trans ((if_neg c_16).trans ((if_neg c_17).trans ((if_neg c_18).trans (if_pos c_19))))))))))))))))))).symm) rfl) hS.2.2 dX7_number_206
  refine lv_tableOut (tgt := 207) hx hb dX7_number_1 (by have e0 : a1.toInt ≠ 0 := fun h => c_1 (Int32.toInt_inj.mp h); have e1 : a1.toInt ≠ 1 := fun h => c_2 (Int32.toInt_inj.mp h); have e2 : a1.toInt ≠ 2 := fun h => c_3 (Int32.toInt_inj.mp h); have e3 : a1.toInt ≠ 3 := fun h => c_4 (Int32.toInt_inj.mp h); have e4 : a1.toInt ≠ 4 := fun h => c_5 (Int32.toInt_inj.mp h); have e5 : a1.toInt ≠ 5 := fun h => c_6 (Int32.toInt_inj.mp h); have e6 : a1.toInt ≠ 6 := fun h => c_7 (Int32.toInt_inj.mp h); have e7 : a1.toInt ≠ 7 := fun h => c_8 (Int32.toInt_inj.mp h); have e8 : a1.toInt ≠ 8 := fun h => c_9 (Int32.toInt_inj.mp h); have e9 : a1.toInt ≠ 9 := fun h => c_10 (Int32.toInt_inj.mp h); have e10 : a1.toInt ≠ 10 := fun h => c_11 (Int32.toInt_inj.mp h); have e11 : a1.toInt ≠ 11 := fun h => c_12 (Int32.toInt_inj.mp h); have e12 : a1.toInt ≠ 12 := fun h => c_13 (Int32.toInt_inj.mp h); have e13 : a1.toInt ≠ 13 := fun h => c_14 (Int32.toInt_inj.mp h); have e14 : a1.toInt ≠ 14 := fun h => c_15 (Int32.toInt_inj.mp h); have e15 : a1.toInt ≠ 15 := fun h => c_16 (Int32.toInt_inj.mp h); have e16 : a1.toInt ≠ 16 := fun h => c_17 (Int32.toInt_inj.mp h); have e17 : a1.toInt ≠ 17 := fun h => c_18 (Int32.toInt_inj.mp h); have e18 : a1.toInt ≠ 18 := fun h => c_19 (Int32.toInt_inj.mp h); omega) (by decide) ?_
  refine lv_aload_n hx hb dX7_number_207 rfl (lv_at hl 0 rfl) ?_
  refine va_get (D := G) (ci := 5) (v := .ref ue) (C := RX7) (T := TX7) (N := 6) hx hb hts i_X7 hown hK hP 0 rfl rfl 5 (by decide) (hts (.fieldLink RX7 42 "RelayTuner$State" "accounts" "LRelayTuner$Accounts;") (by decide +kernel)) (fun _ h9 => h9) rfl dX7_number_208 ?_
  refine va_getN (D := G) (ci := 0) (v := .int ((z 11) 1)) (C := RX0) (T := TX0) (N := 6) hx hb hts i_X0 hown hK hP 10 rfl rfl 1 (by decide) (NN.f hN (a := RX7) (i := 106) (b := "RelayTuner$Accounts") (n := "output") (d := "I") (by decide +kernel)) (fun _ h9 => h9) rfl dX7_number_211 ?_
  rw [hQQ]
  exact W.iret hx hb hr (end_Hi o hP hD hS (by unfold s_X7_number_r; exact ((if_neg c_1).trans ((if_neg c_2).trans ((if_neg c_3).trans ((if_neg c_4).trans ((if_neg c_5).trans ((if_neg c_6).trans ((if_neg c_7).trans ((if_neg c_8).trans ((if_neg c_9).trans ((if_neg c_10).trans ((if_neg c_11).trans ((if_neg c_12).trans ((if_neg c_13).trans ((if_neg c_14).trans ((if_neg c_15).trans ((if_neg c_16).trans ((if_neg c_17).trans ((if_neg c_18).trans (if_neg c_19))))))))))))))))))).symm) rfl) hS.2.2 dX7_number_214

def s_X9_isFull_r (x : Nat → Int32) : Int32 := (let v_2 : Int32 := (if (x 1) < 60 then 0 else 1); v_2)
theorem z_X9_isFull (x : Nat → Int32) : s_X9_isFull_r x = 0 ∨ s_X9_isFull_r x = 1 := by unfold s_X9_isFull_r; (try dsimp only); exact (z_ite (Or.inl rfl) (Or.inr rfl))
abbrev rmX9_isFull : Room := ({ frames := 0, cells := 0, slots := 0, locals := 0 } : Room)
set_option maxHeartbeats 4000000 in
set_option maxRecDepth 100000 in
theorem c_X9_isFull (l : Launch) (G : va_G) (y : Nat → ClassId) (h : Nat) (q : Nat) (x : Nat → Int32) : Met l yX9_isFull wsX9_isFull rmX9_isFull (PR G y [.ref h] [kX9 h q x]) (QRi (s_X9_isFull_r x)) 0 0 (fun _ => False) := by
  refine Met.ofW (cc := cX9_isFull) (maxL := 1) (ret := (some .boolean)) (by decide) rfl ?_
  intro p e s m args below meth c s₁ B hml hv
  obtain ⟨rfl, hP, hK, hN⟩ := hv
  have hx := B.exec
  have hb := B.bytes
  have hr := B.returns
  have hts := atoms_spec (ws := wsX9_isFull) B.pre
  have hown : s.vm.findClass RX9 = some m.cls := findClass_of_methodNamed B.named
  have hlocks := B.notSynchronized
  have i_X9 : ∀ w ∈ u_ws RX9 TX9 12, w ∈ wsX9_isFull := by decide +kernel
  have hl := lv_entry ([.ref h]) (n := 1) (Nat.le_of_ble_eq_true rfl)
  rw [lg_entry_eq]
  generalize (lg_sl ([.ref h]) ++ List.replicate (1 - (lg_sl ([.ref h])).length) Slot.unset).toArray = ls at hl ⊢
  have hl : lv_has ls 1 [(0, .ref h)] := hl
  obtain ⟨QQ, hQQ⟩ : ∃ zq9, zq9 = MQ below (QRi (s_X9_isFull_r x)) ([.ref h] : List Value).toArray s 0 0 (fun _ => False) := ⟨_, rfl⟩
  rw [← hQQ]
  refine lv_aload_n hx hb dX9_isFull_0 rfl (lv_at hl 0 rfl) ?_
  refine va_get (D := G) (ci := 7) (v := .int (x 1)) (C := RX9) (T := TX9) (N := 12) hx hb hts i_X9 hown hK hP 0 rfl rfl 1 (by decide) (hts (.fieldLink RX9 15 "RelayTuner$Text" "length" "I") (by decide +kernel)) (fun _ h9 => h9) rfl dX9_isFull_1 ?_
  refine lv_bipush (v := 60) hx hb dX9_isFull_4 (by decide) ?_
  have J14_4 : ∀ (v_2 : Int32) (e_v_2 : v_2 = (if (x 1) < 60 then 0 else 1)) (z_3 : v_2 = 0 ∨ v_2 = 1) (ls : Array Slot) (hl : lv_has ls 1 []), W p l e (headSpec wsX9_isFull rmX9_isFull).room s m ([.ref h] : List Value).toArray below meth c s.heap [] 0 0 QQ (F0 m 14 ls [.int v_2]) := by
    intro v_2 e_v_2 z_3 ls hl
    rw [hQQ]
    exact W.zret hx hb hr (nz_bool z_3) (end_Ri (by subst e_v_2; unfold s_X9_isFull_r; exact rfl)) (fun _ h => nomatch h) dX9_isFull_14
  refine lv_icmp_lt (tgt := 13) hx hb dX9_isFull_6 (by decide) (fun c_1 => ?_) (fun c_1 => ?_)
  · refine lv_iconst (v := 0) hx hb dX9_isFull_13 (by decide) ?_
    exact J14_4 _ (if_pos c_1).symm (Or.inl rfl) ls (lv_sub hl [] rfl)
  · refine lv_iconst (v := 1) hx hb dX9_isFull_9 (by decide) ?_
    refine lv_goto (tgt := 14) hx hb dX9_isFull_10 (by decide) ?_
    exact J14_4 _ (if_neg c_1).symm (Or.inr rfl) ls (lv_sub hl [] rfl)

def s_X9_add_w0 (x : Nat → Int32) : Nat → Int32 := (let v_2 : Nat → Int32 := (if (x 1) < 0 then x else (if 60 ≤ (x 1) then x else (upd x 1 ((x 1) + 1)))); v_2)
def s_X9_add_w1 (a1 : Int32) (x : Nat → Int32) (ft : Nat → Int32) : Nat → Int32 := (let v_3 : Nat → Int32 := (if (x 1) < 0 then ft else (if 60 ≤ (x 1) then ft else (upd ft (tn (x 1)) (vp_nar .char a1)))); v_3)
abbrev rmX9_add : Room := ({ frames := 0, cells := 0, slots := 0, locals := 0 } : Room)
set_option maxHeartbeats 4000000 in
set_option maxRecDepth 100000 in
theorem c_X9_add (l : Launch) (G : va_G) (y : Nat → ClassId) (h : Nat) (a1 : Int32) (q : Nat) (x : Nat → Int32) (ft : Nat → Int32) (sz : Nat) : Met l yX9_add wsX9_add rmX9_add (PH G y [.ref h, .int a1] [kX9 h q x, aC y q 60 ft] sz) (QHv G (fun _ : Unit => [kX9 h q (s_X9_add_w0 x), aC y q 60 (s_X9_add_w1 a1 x ft)]) (va_A [kX9 h q x, aC y q 60 ft] sz)) 0 0 (va_A [kX9 h q x, aC y q 60 ft] sz) := by
  refine Met.ofW (cc := cX9_add) (maxL := 2) (ret := none) (by decide) rfl ?_
  intro p e s m args below meth c s₁ B hml hv
  obtain ⟨rfl, hsz, hP, ⟨hK, hN⟩, hD0⟩ := hv
  have hx := B.exec
  have hb := B.bytes
  have hr := B.returns
  have hts := atoms_spec (ws := wsX9_add) B.pre
  have hown : s.vm.findClass RX9 = some m.cls := findClass_of_methodNamed B.named
  have hlocks := B.notSynchronized
  have i_X9 : ∀ w ∈ u_ws RX9 TX9 12, w ∈ wsX9_add := by decide +kernel
  subst hsz
  have hD := hD0.self (sz := s.heap.size)
  generalize hAe : va_A [kX9 h q x, aC y q 60 ft] s.heap.size = A at hD ⊢
  have hA : ∀ q : Nat, s.heap.size ≤ q → A q := fun q h => by rw [← hAe]; exact Or.inr h
  have hS : va_S A s.heap s.heap [] := va_S.rf
  have hP : va_P G vwCl [kX9 h q x, aC y q 60 ft] s.heap := hP
  have hl := lv_entry ([.ref h, .int a1]) (n := 2) (Nat.le_of_ble_eq_true rfl)
  rw [lg_entry_eq]
  generalize (lg_sl ([.ref h, .int a1]) ++ List.replicate (2 - (lg_sl ([.ref h, .int a1])).length) Slot.unset).toArray = ls at hl ⊢
  have hl : lv_has ls 2 [(0, .ref h), (1, .int a1)] := hl
  obtain ⟨QQ, hQQ⟩ : ∃ zq9, zq9 = MQ below (QHv G (fun _ : Unit => [kX9 h q (s_X9_add_w0 x), aC y q 60 (s_X9_add_w1 a1 x ft)]) A) ([.ref h, .int a1] : List Value).toArray s 0 0 A := ⟨_, rfl⟩
  rw [← hQQ]
  refine lv_aload_n hx hb dX9_add_0 rfl (lv_at hl 0 rfl) ?_
  refine va_get (D := G) (ci := 7) (v := .int (x 1)) (C := RX9) (T := TX9) (N := 12) hx hb hts i_X9 hown hK hP 0 rfl rfl 1 (by decide) (hts (.fieldLink RX9 15 "RelayTuner$Text" "length" "I") (by decide +kernel)) (fun _ h9 => h9) rfl dX9_add_1 ?_
  have J39_4 : ∀ (v_2 : Nat → Int32) (v_3 : Nat → Int32) (e_v_2 : v_2 = (if (x 1) < 0 then x else (if 60 ≤ (x 1) then x else (upd x 1 ((x 1) + 1))))) (e_v_3 : v_3 = (if (x 1) < 0 then ft else (if 60 ≤ (x 1) then ft else (upd ft (tn (x 1)) (vp_nar .char a1))))) (H : Heap) (locs : List Loc) (hP : va_P G vwCl [kX9 h q v_2, aC y q 60 v_3] H) (hD : va_D A [kX9 h q v_2, aC y q 60 v_3]) (hS : va_S A s.heap H locs) (ls : Array Slot) (hl : lv_has ls 2 []), W p l e (headSpec wsX9_add rmX9_add).room s m ([.ref h, .int a1] : List Value).toArray below meth c H locs 0 0 QQ (F0 m 39 ls []) := by
    intro v_2 v_3 e_v_2 e_v_3 H locs hP hD hS ls hl
    rw [hQQ]
    exact W.vret hx hb hr (end_Hv () hP hD hS (congr (congrArg (fun (z0 : Nat → Int32) (z1 : Nat → Int32) => [kX9 h q z0, aC y q 60 z1]) (by subst e_v_3; subst e_v_2; unfold s_X9_add_w0; exact rfl)) (by subst e_v_3; subst e_v_2; unfold s_X9_add_w1; exact rfl))) hS.2.2 dX9_add_39
  refine lv_if_lt (tgt := 39) hx hb dX9_add_4 (by decide) (fun c_1 => ?_) (fun c_1 => ?_)
  · exact J39_4 _ _ (if_pos c_1).symm (if_pos c_1).symm s.heap [] hP hD hS ls (lv_sub hl [] rfl)
  · refine lv_aload_n hx hb dX9_add_7 rfl (lv_at hl 0 rfl) ?_
    refine va_get (D := G) (ci := 7) (v := .int (x 1)) (C := RX9) (T := TX9) (N := 12) hx hb hts i_X9 hown hK hP 0 rfl rfl 1 (by decide) (hts (.fieldLink RX9 15 "RelayTuner$Text" "length" "I") (by decide +kernel)) (fun _ h9 => h9) rfl dX9_add_8 ?_
    refine lv_aload_n hx hb dX9_add_11 rfl (lv_at hl 0 rfl) ?_
    refine va_get (D := G) (ci := 7) (v := .ref q) (C := RX9) (T := TX9) (N := 12) hx hb hts i_X9 hown hK hP 0 rfl rfl 0 (by decide) (hts (.fieldLink RX9 11 "RelayTuner$Text" "signs" "[C") (by decide +kernel)) (fun _ h9 => h9) rfl dX9_add_12 ?_
    refine va_alen (D := G) (v := 60) hx hb hK hP 1 1 rfl rfl rfl dX9_add_15 ?_
    refine lv_icmp_ge (tgt := 39) hx hb dX9_add_16 (by decide) (fun c_5 => ?_) (fun c_5 => ?_)
    · exact J39_4 _ _ ((if_neg c_1).trans (if_pos c_5)).symm ((if_neg c_1).trans (if_pos c_5)).symm s.heap [] hP hD hS ls (lv_sub hl [] rfl)
    · refine lv_aload_n hx hb dX9_add_19 rfl (lv_at hl 0 rfl) ?_
      refine va_get (D := G) (ci := 7) (v := .ref q) (C := RX9) (T := TX9) (N := 12) hx hb hts i_X9 hown hK hP 0 rfl rfl 0 (by decide) (hts (.fieldLink RX9 11 "RelayTuner$Text" "signs" "[C") (by decide +kernel)) (fun _ h9 => h9) rfl dX9_add_20 ?_
      refine lv_aload_n hx hb dX9_add_23 rfl (lv_at hl 0 rfl) ?_
      refine va_get (D := G) (ci := 7) (v := .int (x 1)) (C := RX9) (T := TX9) (N := 12) hx hb hts i_X9 hown hK hP 0 rfl rfl 1 (by decide) (hts (.fieldLink RX9 15 "RelayTuner$Text" "length" "I") (by decide +kernel)) (fun _ h9 => h9) rfl dX9_add_24 ?_
      refine lv_iload_n hx hb dX9_add_27 rfl (lv_at hl 1 rfl) ?_
      refine as_c (D := G) (n := 60) (f := ft) hx hb hK hP hD hS 1 1 rfl rfl (tn (x 1)) (in_tn (vin2 c_1 c_5 rfl (by decide)) (by decide)).1 (in_tn (vin2 c_1 c_5 rfl (by decide)) (by decide)).2 (by first | decide | omega) dX9_add_28 (fun H locs hP hD hS => ?_)
      have hP : va_P G vwCl [kX9 h q x, aC y q 60 (upd ft (tn (x 1)) (vp_nar .char a1))] H := hP
      have hD : va_D A [kX9 h q x, aC y q 60 (upd ft (tn (x 1)) (vp_nar .char a1))] := hD
      refine lv_aload_n hx hb dX9_add_29 rfl (lv_at hl 0 rfl) ?_
      refine lv_dup hx hb dX9_add_30 rfl ?_
      refine va_get (D := G) (ci := 7) (v := .int (x 1)) (C := RX9) (T := TX9) (N := 12) hx hb hts i_X9 hown hK hP 0 rfl rfl 1 (by decide) (hts (.fieldLink RX9 15 "RelayTuner$Text" "length" "I") (by decide +kernel)) (fun _ h9 => h9) rfl dX9_add_31 ?_
      refine lv_iconst (v := 1) hx hb dX9_add_34 (by decide) ?_
      refine lv_iadd hx hb dX9_add_35 ?_
      refine va_put (D := G) (ci := 7) (v := .int ((x 1) + 1)) (ty := .int) (C := RX9) (T := TX9) (N := 12) hx hb hts i_X9 tyX9 tyX9_ok nmX9 hown hK hP hD hS 0 rfl rfl 1 (by decide) (hts (.fieldLink RX9 15 "RelayTuner$Text" "length" "I") (by decide +kernel)) (fun _ h9 => h9) rfl (by decide +kernel) rfl rfl (Nat.le_of_ble_eq_true rfl) dX9_add_36 (fun H locs hP hD hS => ?_)
      have hP : va_P G vwCl [kX9 h q (upd x 1 ((x 1) + 1)), aC y q 60 (upd ft (tn (x 1)) (vp_nar .char a1))] H := hP
      have hD : va_D A [kX9 h q (upd x 1 ((x 1) + 1)), aC y q 60 (upd ft (tn (x 1)) (vp_nar .char a1))] := hD
      exact J39_4 _ _ ((if_neg c_1).trans (if_neg c_5)).symm ((if_neg c_1).trans (if_neg c_5)).symm H locs hP hD hS ls (lv_sub hl [] rfl)

def s_X9_isHere_r (a1 : Int32) (x : Nat → Int32) (ft : Nat → Int32) : Int32 := (let v_2 : Int32 := (if (x 2) < 0 then 0 else (if (x 1) ≤ (x 2) then 0 else (if 60 ≤ (x 2) then 0 else (if (ft (tn (x 2))) = a1 then 1 else 0)))); v_2)
theorem z_X9_isHere (a1 : Int32) (x : Nat → Int32) (ft : Nat → Int32) : s_X9_isHere_r a1 x ft = 0 ∨ s_X9_isHere_r a1 x ft = 1 := by unfold s_X9_isHere_r; (try dsimp only); exact (z_ite (Or.inl rfl) (z_ite (Or.inl rfl) (z_ite (Or.inl rfl) (z_ite (Or.inr rfl) (Or.inl rfl)))))
abbrev rmX9_isHere : Room := ({ frames := 0, cells := 0, slots := 0, locals := 0 } : Room)
set_option maxHeartbeats 4000000 in
set_option maxRecDepth 100000 in
theorem c_X9_isHere (l : Launch) (G : va_G) (y : Nat → ClassId) (h : Nat) (a1 : Int32) (q : Nat) (x : Nat → Int32) (ft : Nat → Int32) : Met l yX9_isHere wsX9_isHere rmX9_isHere (PR G y [.ref h, .int a1] [kX9 h q x, aC y q 60 ft]) (QRi (s_X9_isHere_r a1 x ft)) 0 0 (fun _ => False) := by
  refine Met.ofW (cc := cX9_isHere) (maxL := 2) (ret := (some .boolean)) (by decide) rfl ?_
  intro p e s m args below meth c s₁ B hml hv
  obtain ⟨rfl, hP, hK, hN⟩ := hv
  have hx := B.exec
  have hb := B.bytes
  have hr := B.returns
  have hts := atoms_spec (ws := wsX9_isHere) B.pre
  have hown : s.vm.findClass RX9 = some m.cls := findClass_of_methodNamed B.named
  have hlocks := B.notSynchronized
  have i_X9 : ∀ w ∈ u_ws RX9 TX9 12, w ∈ wsX9_isHere := by decide +kernel
  have hl := lv_entry ([.ref h, .int a1]) (n := 2) (Nat.le_of_ble_eq_true rfl)
  rw [lg_entry_eq]
  generalize (lg_sl ([.ref h, .int a1]) ++ List.replicate (2 - (lg_sl ([.ref h, .int a1])).length) Slot.unset).toArray = ls at hl ⊢
  have hl : lv_has ls 2 [(0, .ref h), (1, .int a1)] := hl
  obtain ⟨QQ, hQQ⟩ : ∃ zq9, zq9 = MQ below (QRi (s_X9_isHere_r a1 x ft)) ([.ref h, .int a1] : List Value).toArray s 0 0 (fun _ => False) := ⟨_, rfl⟩
  rw [← hQQ]
  refine lv_aload_n hx hb dX9_isHere_0 rfl (lv_at hl 0 rfl) ?_
  refine va_get (D := G) (ci := 7) (v := .int (x 2)) (C := RX9) (T := TX9) (N := 12) hx hb hts i_X9 hown hK hP 0 rfl rfl 2 (by decide) (hts (.fieldLink RX9 19 "RelayTuner$Text" "at" "I") (by decide +kernel)) (fun _ h9 => h9) rfl dX9_isHere_1 ?_
  have J48_4 : ∀ (v_2 : Int32) (e_v_2 : v_2 = (if (x 2) < 0 then 0 else (if (x 1) ≤ (x 2) then 0 else (if 60 ≤ (x 2) then 0 else (if (ft (tn (x 2))) = a1 then 1 else 0))))) (z_3 : v_2 = 0 ∨ v_2 = 1) (ls : Array Slot) (hl : lv_has ls 2 []), W p l e (headSpec wsX9_isHere rmX9_isHere).room s m ([.ref h, .int a1] : List Value).toArray below meth c s.heap [] 0 0 QQ (F0 m 48 ls [.int v_2]) := by
    intro v_2 e_v_2 z_3 ls hl
    rw [hQQ]
    exact W.zret hx hb hr (nz_bool z_3) (end_Ri (by subst e_v_2; unfold s_X9_isHere_r; exact rfl)) (fun _ h => nomatch h) dX9_isHere_48
  refine lv_if_lt (tgt := 47) hx hb dX9_isHere_4 (by decide) (fun c_1 => ?_) (fun c_1 => ?_)
  · refine lv_iconst (v := 0) hx hb dX9_isHere_47 (by decide) ?_
    exact J48_4 _ (if_pos c_1).symm (Or.inl rfl) ls (lv_sub hl [] rfl)
  · refine lv_aload_n hx hb dX9_isHere_7 rfl (lv_at hl 0 rfl) ?_
    refine va_get (D := G) (ci := 7) (v := .int (x 2)) (C := RX9) (T := TX9) (N := 12) hx hb hts i_X9 hown hK hP 0 rfl rfl 2 (by decide) (hts (.fieldLink RX9 19 "RelayTuner$Text" "at" "I") (by decide +kernel)) (fun _ h9 => h9) rfl dX9_isHere_8 ?_
    refine lv_aload_n hx hb dX9_isHere_11 rfl (lv_at hl 0 rfl) ?_
    refine va_get (D := G) (ci := 7) (v := .int (x 1)) (C := RX9) (T := TX9) (N := 12) hx hb hts i_X9 hown hK hP 0 rfl rfl 1 (by decide) (hts (.fieldLink RX9 15 "RelayTuner$Text" "length" "I") (by decide +kernel)) (fun _ h9 => h9) rfl dX9_isHere_12 ?_
    refine lv_icmp_ge (tgt := 47) hx hb dX9_isHere_15 (by decide) (fun c_5 => ?_) (fun c_5 => ?_)
    · refine lv_iconst (v := 0) hx hb dX9_isHere_47 (by decide) ?_
      exact J48_4 _ ((if_neg c_1).trans (if_pos c_5)).symm (Or.inl rfl) ls (lv_sub hl [] rfl)
    · refine lv_aload_n hx hb dX9_isHere_18 rfl (lv_at hl 0 rfl) ?_
      refine va_get (D := G) (ci := 7) (v := .int (x 2)) (C := RX9) (T := TX9) (N := 12) hx hb hts i_X9 hown hK hP 0 rfl rfl 2 (by decide) (hts (.fieldLink RX9 19 "RelayTuner$Text" "at" "I") (by decide +kernel)) (fun _ h9 => h9) rfl dX9_isHere_19 ?_
      refine lv_aload_n hx hb dX9_isHere_22 rfl (lv_at hl 0 rfl) ?_
      refine va_get (D := G) (ci := 7) (v := .ref q) (C := RX9) (T := TX9) (N := 12) hx hb hts i_X9 hown hK hP 0 rfl rfl 0 (by decide) (hts (.fieldLink RX9 11 "RelayTuner$Text" "signs" "[C") (by decide +kernel)) (fun _ h9 => h9) rfl dX9_isHere_23 ?_
      refine va_alen (D := G) (v := 60) hx hb hK hP 1 1 rfl rfl rfl dX9_isHere_26 ?_
      refine lv_icmp_ge (tgt := 47) hx hb dX9_isHere_27 (by decide) (fun c_6 => ?_) (fun c_6 => ?_)
      · refine lv_iconst (v := 0) hx hb dX9_isHere_47 (by decide) ?_
        exact J48_4 _ ((if_neg c_1).trans ((if_neg c_5).trans (if_pos c_6))).symm (Or.inl rfl) ls (lv_sub hl [] rfl)
      · refine lv_aload_n hx hb dX9_isHere_30 rfl (lv_at hl 0 rfl) ?_
        refine va_get (D := G) (ci := 7) (v := .ref q) (C := RX9) (T := TX9) (N := 12) hx hb hts i_X9 hown hK hP 0 rfl rfl 0 (by decide) (hts (.fieldLink RX9 11 "RelayTuner$Text" "signs" "[C") (by decide +kernel)) (fun _ h9 => h9) rfl dX9_isHere_31 ?_
        refine lv_aload_n hx hb dX9_isHere_34 rfl (lv_at hl 0 rfl) ?_
        refine va_get (D := G) (ci := 7) (v := .int (x 2)) (C := RX9) (T := TX9) (N := 12) hx hb hts i_X9 hown hK hP 0 rfl rfl 2 (by decide) (hts (.fieldLink RX9 19 "RelayTuner$Text" "at" "I") (by decide +kernel)) (fun _ h9 => h9) rfl dX9_isHere_35 ?_
        refine al_c (D := G) (n := 60) (f := ft) hx hb hK hP 1 1 rfl rfl (tn (x 2)) (in_tn (vin2 c_1 c_6 rfl (by decide)) (by decide)).1 (in_tn (vin2 c_1 c_6 rfl (by decide)) (by decide)).2 (by first | decide | omega) dX9_isHere_38 ?_
        refine lv_iload_n hx hb dX9_isHere_39 rfl (lv_at hl 1 rfl) ?_
        refine lv_icmp_ne (tgt := 47) hx hb dX9_isHere_40 (by decide) (fun c_7 => ?_) (fun c_7 => ?_)
        · refine lv_iconst (v := 0) hx hb dX9_isHere_47 (by decide) ?_
          exact J48_4 _ ((if_neg c_1).trans ((if_neg c_5).trans ((if_neg c_6).trans (if_neg c_7)))).symm (Or.inl rfl) ls (lv_sub hl [] rfl)
        · refine lv_iconst (v := 1) hx hb dX9_isHere_43 (by decide) ?_
          refine lv_goto (tgt := 48) hx hb dX9_isHere_44 (by decide) ?_
          exact J48_4 _ ((if_neg c_1).trans ((if_neg c_5).trans ((if_neg c_6).trans (if_pos c_7)))).symm (Or.inr rfl) ls (lv_sub hl [] rfl)

def s_X9_digitHere_r (x : Nat → Int32) (ft : Nat → Int32) : Int32 := (if (x 2) < 0 then (-1) else (if (x 1) ≤ (x 2) then (-1) else (if (x 2) < 60 then (let v_5 : Int32 := (if (ft (tn (x 2))) < 48 then (-1) else (if 57 < (ft (tn (x 2))) then (-1) else ((ft (tn (x 2))) - 48))); v_5) else (-1))))
abbrev rmX9_digitHere : Room := ({ frames := 0, cells := 0, slots := 0, locals := 0 } : Room)
set_option maxHeartbeats 4000000 in
set_option maxRecDepth 100000 in
theorem c_X9_digitHere (l : Launch) (G : va_G) (y : Nat → ClassId) (h : Nat) (q : Nat) (x : Nat → Int32) (ft : Nat → Int32) : Met l yX9_digitHere wsX9_digitHere rmX9_digitHere (PR G y [.ref h] [kX9 h q x, aC y q 60 ft]) (QRi (s_X9_digitHere_r x ft)) 0 0 (fun _ => False) := by
  refine Met.ofW (cc := cX9_digitHere) (maxL := 2) (ret := (some .int)) (by decide) rfl ?_
  intro p e s m args below meth c s₁ B hml hv
  obtain ⟨rfl, hP, hK, hN⟩ := hv
  have hx := B.exec
  have hb := B.bytes
  have hr := B.returns
  have hts := atoms_spec (ws := wsX9_digitHere) B.pre
  have hown : s.vm.findClass RX9 = some m.cls := findClass_of_methodNamed B.named
  have hlocks := B.notSynchronized
  have i_X9 : ∀ w ∈ u_ws RX9 TX9 12, w ∈ wsX9_digitHere := by decide +kernel
  have hl := lv_entry ([.ref h]) (n := 2) (Nat.le_of_ble_eq_true rfl)
  rw [lg_entry_eq]
  generalize (lg_sl ([.ref h]) ++ List.replicate (2 - (lg_sl ([.ref h])).length) Slot.unset).toArray = ls at hl ⊢
  have hl : lv_has ls 2 [(0, .ref h)] := hl
  obtain ⟨QQ, hQQ⟩ : ∃ zq9, zq9 = MQ below (QRi (s_X9_digitHere_r x ft)) ([.ref h] : List Value).toArray s 0 0 (fun _ => False) := ⟨_, rfl⟩
  rw [← hQQ]
  refine lv_aload_n hx hb dX9_digitHere_0 rfl (lv_at hl 0 rfl) ?_
  refine va_get (D := G) (ci := 7) (v := .int (x 2)) (C := RX9) (T := TX9) (N := 12) hx hb hts i_X9 hown hK hP 0 rfl rfl 2 (by decide) (hts (.fieldLink RX9 19 "RelayTuner$Text" "at" "I") (by decide +kernel)) (fun _ h9 => h9) rfl dX9_digitHere_1 ?_
  refine lv_if_lt (tgt := 30) hx hb dX9_digitHere_4 (by decide) (fun c_1 => ?_) (fun c_1 => ?_)
  · refine lv_iconst (v := (-1)) hx hb dX9_digitHere_30 (by decide) ?_
    rw [hQQ]
    exact W.iret hx hb hr (end_Ri (by unfold s_X9_digitHere_r; exact (if_pos c_1).symm)) (fun _ h => nomatch h) dX9_digitHere_31
  · refine lv_aload_n hx hb dX9_digitHere_7 rfl (lv_at hl 0 rfl) ?_
    refine va_get (D := G) (ci := 7) (v := .int (x 2)) (C := RX9) (T := TX9) (N := 12) hx hb hts i_X9 hown hK hP 0 rfl rfl 2 (by decide) (hts (.fieldLink RX9 19 "RelayTuner$Text" "at" "I") (by decide +kernel)) (fun _ h9 => h9) rfl dX9_digitHere_8 ?_
    refine lv_aload_n hx hb dX9_digitHere_11 rfl (lv_at hl 0 rfl) ?_
    refine va_get (D := G) (ci := 7) (v := .int (x 1)) (C := RX9) (T := TX9) (N := 12) hx hb hts i_X9 hown hK hP 0 rfl rfl 1 (by decide) (hts (.fieldLink RX9 15 "RelayTuner$Text" "length" "I") (by decide +kernel)) (fun _ h9 => h9) rfl dX9_digitHere_12 ?_
    refine lv_icmp_ge (tgt := 30) hx hb dX9_digitHere_15 (by decide) (fun c_2 => ?_) (fun c_2 => ?_)
    · refine lv_iconst (v := (-1)) hx hb dX9_digitHere_30 (by decide) ?_
      rw [hQQ]
      exact W.iret hx hb hr (end_Ri (by unfold s_X9_digitHere_r; exact ((if_neg c_1).trans (if_pos c_2)).symm)) (fun _ h => nomatch h) dX9_digitHere_31
    · refine lv_aload_n hx hb dX9_digitHere_18 rfl (lv_at hl 0 rfl) ?_
      refine va_get (D := G) (ci := 7) (v := .int (x 2)) (C := RX9) (T := TX9) (N := 12) hx hb hts i_X9 hown hK hP 0 rfl rfl 2 (by decide) (hts (.fieldLink RX9 19 "RelayTuner$Text" "at" "I") (by decide +kernel)) (fun _ h9 => h9) rfl dX9_digitHere_19 ?_
      refine lv_aload_n hx hb dX9_digitHere_22 rfl (lv_at hl 0 rfl) ?_
      refine va_get (D := G) (ci := 7) (v := .ref q) (C := RX9) (T := TX9) (N := 12) hx hb hts i_X9 hown hK hP 0 rfl rfl 0 (by decide) (hts (.fieldLink RX9 11 "RelayTuner$Text" "signs" "[C") (by decide +kernel)) (fun _ h9 => h9) rfl dX9_digitHere_23 ?_
      refine va_alen (D := G) (v := 60) hx hb hK hP 1 1 rfl rfl rfl dX9_digitHere_26 ?_
      refine lv_icmp_lt (tgt := 32) hx hb dX9_digitHere_27 (by decide) (fun c_3 => ?_) (fun c_3 => ?_)
      · refine lv_aload_n hx hb dX9_digitHere_32 rfl (lv_at hl 0 rfl) ?_
        refine va_get (D := G) (ci := 7) (v := .ref q) (C := RX9) (T := TX9) (N := 12) hx hb hts i_X9 hown hK hP 0 rfl rfl 0 (by decide) (hts (.fieldLink RX9 11 "RelayTuner$Text" "signs" "[C") (by decide +kernel)) (fun _ h9 => h9) rfl dX9_digitHere_33 ?_
        refine lv_aload_n hx hb dX9_digitHere_36 rfl (lv_at hl 0 rfl) ?_
        refine va_get (D := G) (ci := 7) (v := .int (x 2)) (C := RX9) (T := TX9) (N := 12) hx hb hts i_X9 hown hK hP 0 rfl rfl 2 (by decide) (hts (.fieldLink RX9 19 "RelayTuner$Text" "at" "I") (by decide +kernel)) (fun _ h9 => h9) rfl dX9_digitHere_37 ?_
        refine al_c (D := G) (n := 60) (f := ft) hx hb hK hP 1 1 rfl rfl (tn (x 2)) (in_tn (vin4 c_1 c_3 rfl (by decide)) (by decide)).1 (in_tn (vin4 c_1 c_3 rfl (by decide)) (by decide)).2 (by first | decide | omega) dX9_digitHere_40 ?_
        refine lv_istore_n (lv' := [(1, .int (ft (tn (x 2)))), (0, .ref h)]) hx hb dX9_digitHere_41 rfl hl (by decide) rfl (fun ls hl => ?_)
        refine lv_iload_n hx hb dX9_digitHere_42 rfl (lv_at hl 0 rfl) ?_
        refine lv_bipush (v := 48) hx hb dX9_digitHere_43 (by decide) ?_
        have J62_6 : ∀ (v_5 : Int32) (e_v_5 : v_5 = (if (ft (tn (x 2))) < 48 then (-1) else (if 57 < (ft (tn (x 2))) then (-1) else ((ft (tn (x 2))) - 48)))) (ls : Array Slot) (hl : lv_has ls 2 []), W p l e (headSpec wsX9_digitHere rmX9_digitHere).room s m ([.ref h] : List Value).toArray below meth c s.heap [] 0 0 QQ (F0 m 62 ls [.int v_5]) := by
          intro v_5 e_v_5 ls hl
          rw [hQQ]
          exact W.iret hx hb hr (end_Ri (by subst e_v_5; unfold s_X9_digitHere_r; exact ((if_neg c_1).trans ((if_neg c_2).trans (if_pos c_3))).symm)) (fun _ h => nomatch h) dX9_digitHere_62
        refine lv_icmp_lt (tgt := 61) hx hb dX9_digitHere_45 (by decide) (fun c_4 => ?_) (fun c_4 => ?_)
        · refine lv_iconst (v := (-1)) hx hb dX9_digitHere_61 (by decide) ?_
          exact J62_6 _ (if_pos c_4).symm ls (lv_sub hl [] rfl)
        · refine lv_iload_n hx hb dX9_digitHere_48 rfl (lv_at hl 0 rfl) ?_
          refine lv_bipush (v := 57) hx hb dX9_digitHere_49 (by decide) ?_
          refine lv_icmp_gt (tgt := 61) hx hb dX9_digitHere_51 (by decide) (fun c_7 => ?_) (fun c_7 => ?_)
          · refine lv_iconst (v := (-1)) hx hb dX9_digitHere_61 (by decide) ?_
            exact J62_6 _ ((if_neg c_4).trans (if_pos c_7)).symm ls (lv_sub hl [] rfl)
          · refine lv_iload_n hx hb dX9_digitHere_54 rfl (lv_at hl 0 rfl) ?_
            refine lv_bipush (v := 48) hx hb dX9_digitHere_55 (by decide) ?_
            refine lv_isub hx hb dX9_digitHere_57 ?_
            refine lv_goto (tgt := 62) hx hb dX9_digitHere_58 (by decide) ?_
            exact J62_6 _ ((if_neg c_4).trans (if_neg c_7)).symm ls (lv_sub hl [] rfl)
      · refine lv_iconst (v := (-1)) hx hb dX9_digitHere_30 (by decide) ?_
        rw [hQQ]
        exact W.iret hx hb hr (end_Ri (by unfold s_X9_digitHere_r; exact ((if_neg c_1).trans ((if_neg c_2).trans (if_neg c_3))).symm)) (fun _ h => nomatch h) dX9_digitHere_31

def s_X9_number_1_r (a2 : Int32) (a3 : Int32) (x : Nat → Int32) (ft : Nat → Int32) : Int32 := (if (s_X9_digitHere_r x ft) = (-1) then (-1) else (if a3 < (0 + ((s_X9_digitHere_r x ft) * 1)) then (-1) else (if a2 ≤ (((0 + ((s_X9_digitHere_r x ft) * 1)) + 1) - 1) then (0 + ((s_X9_digitHere_r x ft) * 1)) else (-1))))
def s_X9_number_1_w0 (a2 : Int32) (a3 : Int32) (x : Nat → Int32) (ft : Nat → Int32) : Nat → Int32 := (if (s_X9_digitHere_r x ft) = (-1) then x else (if a3 < (0 + ((s_X9_digitHere_r x ft) * 1)) then x else (if a2 ≤ (((0 + ((s_X9_digitHere_r x ft) * 1)) + 1) - 1) then (upd x 2 ((x 2) + 1)) else x)))
abbrev rmX9_number_1 : Room := ({ frames := 1, cells := 0, slots := 0, locals := 21 } : Room)
set_option maxHeartbeats 4000000 in
set_option maxRecDepth 100000 in
theorem c_X9_number_1 (l : Launch) (G : va_G) (y : Nat → ClassId) (h : Nat) (a2 : Int32) (a3 : Int32) (q : Nat) (x : Nat → Int32) (ft : Nat → Int32) (sz : Nat) : Met l yX9_number wsX9_number rmX9_number_1 (PH G y [.ref h, .int 1, .int a2, .int a3] [kX9 h q x, aC y q 60 ft] sz) (QHi G (s_X9_number_1_r a2 a3 x ft) (fun _ : Unit => [kX9 h q (s_X9_number_1_w0 a2 a3 x ft), aC y q 60 ft]) (va_A [kX9 h q x, aC y q 60 ft] sz)) 0 0 (va_A [kX9 h q x, aC y q 60 ft] sz) := by
  refine Met.ofW (cc := cX9_number) (maxL := 9) (ret := (some .int)) (by decide) rfl ?_
  intro p e s m args below meth c s₁ B hml hv
  obtain ⟨rfl, hsz, hP, ⟨hK, hN⟩, hD0⟩ := hv
  have hx := B.exec
  have hb := B.bytes
  have hr := B.returns
  have hts := atoms_spec (ws := wsX9_number) B.pre
  have hown : s.vm.findClass RX9 = some m.cls := findClass_of_methodNamed B.named
  have hlocks := B.notSynchronized
  have i_X9 : ∀ w ∈ u_ws RX9 TX9 12, w ∈ wsX9_number := by decide +kernel
  subst hsz
  have hD := hD0.self (sz := s.heap.size)
  generalize hAe : va_A [kX9 h q x, aC y q 60 ft] s.heap.size = A at hD ⊢
  have hA : ∀ q : Nat, s.heap.size ≤ q → A q := fun q h => by rw [← hAe]; exact Or.inr h
  have hS : va_S A s.heap s.heap [] := va_S.rf
  have hP : va_P G vwCl [kX9 h q x, aC y q 60 ft] s.heap := hP
  have hl := lv_entry ([.ref h, .int 1, .int a2, .int a3]) (n := 9) (Nat.le_of_ble_eq_true rfl)
  rw [lg_entry_eq]
  generalize (lg_sl ([.ref h, .int 1, .int a2, .int a3]) ++ List.replicate (9 - (lg_sl ([.ref h, .int 1, .int a2, .int a3])).length) Slot.unset).toArray = ls at hl ⊢
  have hl : lv_has ls 9 [(0, .ref h), (1, .int 1), (2, .int a2), (3, .int a3)] := hl
  refine lv_iconst (v := 1) hx hb dX9_number_0 (by decide) ?_
  refine lv_istore (lv' := [(4, .int 1), (0, .ref h), (1, .int 1), (2, .int a2), (3, .int a3)]) hx hb dX9_number_1 hl (by decide) rfl (fun ls hl => ?_)
  refine lv_iconst (v := 1) hx hb dX9_number_3 (by decide) ?_
  refine lv_istore (lv' := [(5, .int 1), (4, .int 1), (0, .ref h), (1, .int 1), (2, .int a2), (3, .int a3)]) hx hb dX9_number_4 hl (by decide) rfl (fun ls hl => ?_)
  refine lv_iload hx hb dX9_number_6 (lv_at hl 0 rfl) ?_
  refine lv_iload_n hx hb dX9_number_8 rfl (lv_at hl 3 rfl) ?_
  refine lv_icmp_ge (tgt := 25) hx hb dX9_number_9 (by decide) (fun c_1 => ?_) (fun c_1 => ?_)
  rotate_left
  · exact (by first | exact absurd c_1 (by decide : ((1 : Int32) ≤ 1)) | exact absurd (by decide : ((1 : Int32) ≤ 1)) c_1)
  refine lv_iconst (v := 0) hx hb dX9_number_25 (by decide) ?_
  refine lv_istore (lv' := [(5, .int 0), (4, .int 1), (0, .ref h), (1, .int 1), (2, .int a2), (3, .int a3)]) hx hb dX9_number_26 hl (by decide) rfl (fun ls hl => ?_)
  refine lv_iconst (v := 0) hx hb dX9_number_28 (by decide) ?_
  refine lv_istore (lv' := [(6, .int 0), (5, .int 0), (4, .int 1), (0, .ref h), (1, .int 1), (2, .int a2), (3, .int a3)]) hx hb dX9_number_29 hl (by decide) rfl (fun ls hl => ?_)
  refine lv_iload hx hb dX9_number_31 (lv_at hl 0 rfl) ?_
  refine lv_iload_n hx hb dX9_number_33 rfl (lv_at hl 4 rfl) ?_
  refine lv_icmp_ge (tgt := 105) hx hb dX9_number_34 (by decide) (fun c_2 => ?_) (fun c_2 => ?_)
  · exact (by first | exact absurd c_2 (by decide : ¬ ((1 : Int32) ≤ 0)) | exact absurd (by decide : ¬ ((1 : Int32) ≤ 0)) c_2)
  refine lv_aload_n hx hb dX9_number_37 rfl (lv_at hl 3 rfl) ?_
  refine cl_Ri (va_runV (As := []) (rest := []) ⟨hx, hb, hml, hown, hts⟩ (c_X9_digitHere l G y h q x ft) (cwV 0 hts gX9_number_X9_digitHere rfl rfl rfl (by decide +kernel) ⟨Nat.le_of_ble_eq_true rfl, Nat.le_of_ble_eq_true rfl⟩) (PR_V (hP.sub (ws' := [kX9 h q x, aC y q 60 ft]) [0, 1] rfl) hK hN (ci := 7) (q0 := 0) rfl rfl) rfl rfl hl.1 rfl (lv_room (Nat.le_of_ble_eq_true rfl)) dX9_number_38 ⟨Nat.le_of_ble_eq_true rfl, Nat.le_of_ble_eq_true rfl⟩) ?_
  refine lv_istore (lv' := [(7, .int (s_X9_digitHere_r x ft)), (6, .int 0), (5, .int 0), (4, .int 1), (0, .ref h), (1, .int 1), (2, .int a2), (3, .int a3)]) hx hb dX9_number_41 hl (by decide) rfl (fun ls hl => ?_)
  refine lv_iload hx hb dX9_number_43 (lv_at hl 2 rfl) ?_
  refine lv_iload hx hb dX9_number_45 (lv_at hl 0 rfl) ?_
  refine lv_iload hx hb dX9_number_47 (lv_at hl 3 rfl) ?_
  refine lv_imul hx hb dX9_number_49 ?_
  refine lv_iadd hx hb dX9_number_50 ?_
  refine lv_istore (lv' := [(8, .int (0 + ((s_X9_digitHere_r x ft) * 1))), (7, .int (s_X9_digitHere_r x ft)), (6, .int 0), (5, .int 0), (4, .int 1), (0, .ref h), (1, .int 1), (2, .int a2), (3, .int a3)]) hx hb dX9_number_51 hl (by decide) rfl (fun ls hl => ?_)
  refine lv_iload hx hb dX9_number_53 (lv_at hl 1 rfl) ?_
  refine lv_iconst (v := (-1)) hx hb dX9_number_55 (by decide) ?_
  refine lv_icmp_eq (tgt := 76) hx hb dX9_number_56 (by decide) (fun c_3 => ?_) (fun c_3 => ?_)
  · refine lv_iconst (v := (-1)) hx hb dX9_number_76 (by decide) ?_
    exact W.iret hx hb hr (end_Hi () hP hD hS (by unfold s_X9_number_1_r; exact (if_pos c_3).symm) (congrArg (fun (z0 : Nat → Int32) => [kX9 h q z0, aC y q 60 ft]) (by unfold s_X9_number_1_w0; exact (if_pos c_3).symm))) hS.2.2 dX9_number_77
  · refine lv_iload hx hb dX9_number_59 (lv_at hl 0 rfl) ?_
    refine lv_iload_n hx hb dX9_number_61 rfl (lv_at hl 8 rfl) ?_
    refine lv_icmp_gt (tgt := 76) hx hb dX9_number_62 (by decide) (fun c_4 => ?_) (fun c_4 => ?_)
    · refine lv_iconst (v := (-1)) hx hb dX9_number_76 (by decide) ?_
      exact W.iret hx hb hr (end_Hi () hP hD hS (by unfold s_X9_number_1_r; exact ((if_neg c_3).trans (if_pos c_4)).symm) (congrArg (fun (z0 : Nat → Int32) => [kX9 h q z0, aC y q 60 ft]) (by unfold s_X9_number_1_w0; exact ((if_neg c_3).trans (if_pos c_4)).symm))) hS.2.2 dX9_number_77
    · refine lv_iload hx hb dX9_number_65 (lv_at hl 0 rfl) ?_
      refine lv_iload hx hb dX9_number_67 (lv_at hl 4 rfl) ?_
      refine lv_iadd hx hb dX9_number_69 ?_
      refine lv_iconst (v := 1) hx hb dX9_number_70 (by decide) ?_
      refine lv_isub hx hb dX9_number_71 ?_
      refine lv_iload_n hx hb dX9_number_72 rfl (lv_at hl 7 rfl) ?_
      refine lv_icmp_ge (tgt := 78) hx hb dX9_number_73 (by decide) (fun c_5 => ?_) (fun c_5 => ?_)
      · refine lv_iload hx hb dX9_number_78 (lv_at hl 0 rfl) ?_
        refine lv_istore (lv' := [(5, .int (0 + ((s_X9_digitHere_r x ft) * 1))), (8, .int (0 + ((s_X9_digitHere_r x ft) * 1))), (7, .int (s_X9_digitHere_r x ft)), (6, .int 0), (4, .int 1), (0, .ref h), (1, .int 1), (2, .int a2), (3, .int a3)]) hx hb dX9_number_80 hl (by decide) rfl (fun ls hl => ?_)
        refine lv_iload hx hb dX9_number_82 (lv_at hl 4 rfl) ?_
        refine lv_bipush (v := 10) hx hb dX9_number_84 (by decide) ?_
        refine lv_idiv hx hb dX9_number_86 (by decide) ?_
        refine rw_i (x' := 0) (by decide) ?_
        refine lv_istore (lv' := [(4, .int 0), (5, .int (0 + ((s_X9_digitHere_r x ft) * 1))), (8, .int (0 + ((s_X9_digitHere_r x ft) * 1))), (7, .int (s_X9_digitHere_r x ft)), (6, .int 0), (0, .ref h), (1, .int 1), (2, .int a2), (3, .int a3)]) hx hb dX9_number_87 hl (by decide) rfl (fun ls hl => ?_)
        refine lv_aload_n hx hb dX9_number_89 rfl (lv_at hl 5 rfl) ?_
        refine lv_dup hx hb dX9_number_90 rfl ?_
        refine va_get (D := G) (ci := 7) (v := .int (x 2)) (C := RX9) (T := TX9) (N := 12) hx hb hts i_X9 hown hK hP 0 rfl rfl 2 (by decide) (hts (.fieldLink RX9 19 "RelayTuner$Text" "at" "I") (by decide +kernel)) (fun _ h9 => h9) rfl dX9_number_91 ?_
        refine lv_iconst (v := 1) hx hb dX9_number_94 (by decide) ?_
        refine lv_iadd hx hb dX9_number_95 ?_
        refine va_put (D := G) (ci := 7) (v := .int ((x 2) + 1)) (ty := .int) (C := RX9) (T := TX9) (N := 12) hx hb hts i_X9 tyX9 tyX9_ok nmX9 hown hK hP hD hS 0 rfl rfl 2 (by decide) (hts (.fieldLink RX9 19 "RelayTuner$Text" "at" "I") (by decide +kernel)) (fun _ h9 => h9) rfl (by decide +kernel) rfl rfl (Nat.le_of_ble_eq_true rfl) dX9_number_96 (fun H locs hP hD hS => ?_)
        have hP : va_P G vwCl [kX9 h q (upd x 2 ((x 2) + 1)), aC y q 60 ft] H := hP
        have hD : va_D A [kX9 h q (upd x 2 ((x 2) + 1)), aC y q 60 ft] := hD
        refine lv_iinc (v := 1) (lv' := [(6, .int 1), (4, .int 0), (5, .int (0 + ((s_X9_digitHere_r x ft) * 1))), (8, .int (0 + ((s_X9_digitHere_r x ft) * 1))), (7, .int (s_X9_digitHere_r x ft)), (0, .ref h), (1, .int 1), (2, .int a2), (3, .int a3)]) hx hb dX9_number_99 hl (k := 4) rfl (by first | rfl | decide) (by decide) rfl (fun ls hl => ?_)
        refine lv_goto (tgt := 31) hx hb dX9_number_102 (by decide) ?_
        refine lv_iload hx hb dX9_number_31 (lv_at hl 0 rfl) ?_
        refine lv_iload_n hx hb dX9_number_33 rfl (lv_at hl 6 rfl) ?_
        refine lv_icmp_ge (tgt := 105) hx hb dX9_number_34 (by decide) (fun c_6 => ?_) (fun c_6 => ?_)
        rotate_left
        · exact (by first | exact absurd c_6 (by decide : ((1 : Int32) ≤ 1)) | exact absurd (by decide : ((1 : Int32) ≤ 1)) c_6)
        refine lv_iload hx hb dX9_number_105 (lv_at hl 2 rfl) ?_
        exact W.iret hx hb hr (end_Hi () hP hD hS (by unfold s_X9_number_1_r; exact ((if_neg c_3).trans ((if_neg c_4).trans (if_pos c_5))).symm) (congrArg (fun (z0 : Nat → Int32) => [kX9 h q z0, aC y q 60 ft]) (by unfold s_X9_number_1_w0; exact ((if_neg c_3).trans ((if_neg c_4).trans (if_pos c_5))).symm))) hS.2.2 dX9_number_107
      · refine lv_iconst (v := (-1)) hx hb dX9_number_76 (by decide) ?_
        exact W.iret hx hb hr (end_Hi () hP hD hS (by unfold s_X9_number_1_r; exact ((if_neg c_3).trans ((if_neg c_4).trans (if_neg c_5))).symm) (congrArg (fun (z0 : Nat → Int32) => [kX9 h q z0, aC y q 60 ft]) (by unfold s_X9_number_1_w0; exact ((if_neg c_3).trans ((if_neg c_4).trans (if_neg c_5))).symm))) hS.2.2 dX9_number_77

def s_X9_number_2_r (a2 : Int32) (a3 : Int32) (x : Nat → Int32) (ft : Nat → Int32) : Int32 := (if (s_X9_digitHere_r x ft) = (-1) then (-1) else (if a3 < (0 + ((s_X9_digitHere_r x ft) * 10)) then (-1) else (if a2 ≤ (((0 + ((s_X9_digitHere_r x ft) * 10)) + 10) - 1) then (if (s_X9_digitHere_r (upd x 2 ((x 2) + 1)) ft) = (-1) then (-1) else (if a3 < ((0 + ((s_X9_digitHere_r x ft) * 10)) + ((s_X9_digitHere_r (upd x 2 ((x 2) + 1)) ft) * 1)) then (-1) else (if a2 ≤ ((((0 + ((s_X9_digitHere_r x ft) * 10)) + ((s_X9_digitHere_r (upd x 2 ((x 2) + 1)) ft) * 1)) + 1) - 1) then ((0 + ((s_X9_digitHere_r x ft) * 10)) + ((s_X9_digitHere_r (upd x 2 ((x 2) + 1)) ft) * 1)) else (-1)))) else (-1))))
def s_X9_number_2_w0 (a2 : Int32) (a3 : Int32) (x : Nat → Int32) (ft : Nat → Int32) : Nat → Int32 := (if (s_X9_digitHere_r x ft) = (-1) then x else (if a3 < (0 + ((s_X9_digitHere_r x ft) * 10)) then x else (if a2 ≤ (((0 + ((s_X9_digitHere_r x ft) * 10)) + 10) - 1) then (if (s_X9_digitHere_r (upd x 2 ((x 2) + 1)) ft) = (-1) then (upd x 2 ((x 2) + 1)) else (if a3 < ((0 + ((s_X9_digitHere_r x ft) * 10)) + ((s_X9_digitHere_r (upd x 2 ((x 2) + 1)) ft) * 1)) then (upd x 2 ((x 2) + 1)) else (if a2 ≤ ((((0 + ((s_X9_digitHere_r x ft) * 10)) + ((s_X9_digitHere_r (upd x 2 ((x 2) + 1)) ft) * 1)) + 1) - 1) then (upd (upd x 2 ((x 2) + 1)) 2 (((x 2) + 1) + 1)) else (upd x 2 ((x 2) + 1))))) else x)))
abbrev rmX9_number_2 : Room := ({ frames := 1, cells := 0, slots := 0, locals := 21 } : Room)
set_option maxHeartbeats 4000000 in
set_option maxRecDepth 100000 in
theorem c_X9_number_2 (l : Launch) (G : va_G) (y : Nat → ClassId) (h : Nat) (a2 : Int32) (a3 : Int32) (q : Nat) (x : Nat → Int32) (ft : Nat → Int32) (sz : Nat) : Met l yX9_number wsX9_number rmX9_number_2 (PH G y [.ref h, .int 2, .int a2, .int a3] [kX9 h q x, aC y q 60 ft] sz) (QHi G (s_X9_number_2_r a2 a3 x ft) (fun _ : Unit => [kX9 h q (s_X9_number_2_w0 a2 a3 x ft), aC y q 60 ft]) (va_A [kX9 h q x, aC y q 60 ft] sz)) 0 0 (va_A [kX9 h q x, aC y q 60 ft] sz) := by
  refine Met.ofW (cc := cX9_number) (maxL := 9) (ret := (some .int)) (by decide) rfl ?_
  intro p e s m args below meth c s₁ B hml hv
  obtain ⟨rfl, hsz, hP, ⟨hK, hN⟩, hD0⟩ := hv
  have hx := B.exec
  have hb := B.bytes
  have hr := B.returns
  have hts := atoms_spec (ws := wsX9_number) B.pre
  have hown : s.vm.findClass RX9 = some m.cls := findClass_of_methodNamed B.named
  have hlocks := B.notSynchronized
  have i_X9 : ∀ w ∈ u_ws RX9 TX9 12, w ∈ wsX9_number := by decide +kernel
  subst hsz
  have hD := hD0.self (sz := s.heap.size)
  generalize hAe : va_A [kX9 h q x, aC y q 60 ft] s.heap.size = A at hD ⊢
  have hA : ∀ q : Nat, s.heap.size ≤ q → A q := fun q h => by rw [← hAe]; exact Or.inr h
  have hS : va_S A s.heap s.heap [] := va_S.rf
  have hP : va_P G vwCl [kX9 h q x, aC y q 60 ft] s.heap := hP
  have hl := lv_entry ([.ref h, .int 2, .int a2, .int a3]) (n := 9) (Nat.le_of_ble_eq_true rfl)
  rw [lg_entry_eq]
  generalize (lg_sl ([.ref h, .int 2, .int a2, .int a3]) ++ List.replicate (9 - (lg_sl ([.ref h, .int 2, .int a2, .int a3])).length) Slot.unset).toArray = ls at hl ⊢
  have hl : lv_has ls 9 [(0, .ref h), (1, .int 2), (2, .int a2), (3, .int a3)] := hl
  refine lv_iconst (v := 1) hx hb dX9_number_0 (by decide) ?_
  refine lv_istore (lv' := [(4, .int 1), (0, .ref h), (1, .int 2), (2, .int a2), (3, .int a3)]) hx hb dX9_number_1 hl (by decide) rfl (fun ls hl => ?_)
  refine lv_iconst (v := 1) hx hb dX9_number_3 (by decide) ?_
  refine lv_istore (lv' := [(5, .int 1), (4, .int 1), (0, .ref h), (1, .int 2), (2, .int a2), (3, .int a3)]) hx hb dX9_number_4 hl (by decide) rfl (fun ls hl => ?_)
  refine lv_iload hx hb dX9_number_6 (lv_at hl 0 rfl) ?_
  refine lv_iload_n hx hb dX9_number_8 rfl (lv_at hl 3 rfl) ?_
  refine lv_icmp_ge (tgt := 25) hx hb dX9_number_9 (by decide) (fun c_1 => ?_) (fun c_1 => ?_)
  · exact (by first | exact absurd c_1 (by decide : ¬ ((2 : Int32) ≤ 1)) | exact absurd (by decide : ¬ ((2 : Int32) ≤ 1)) c_1)
  refine lv_iload hx hb dX9_number_12 (lv_at hl 1 rfl) ?_
  refine lv_bipush (v := 10) hx hb dX9_number_14 (by decide) ?_
  refine lv_imul hx hb dX9_number_16 ?_
  refine rw_i (x' := 10) (by decide) ?_
  refine lv_istore (lv' := [(4, .int 10), (5, .int 1), (0, .ref h), (1, .int 2), (2, .int a2), (3, .int a3)]) hx hb dX9_number_17 hl (by decide) rfl (fun ls hl => ?_)
  refine lv_iinc (v := 2) (lv' := [(5, .int 2), (4, .int 10), (0, .ref h), (1, .int 2), (2, .int a2), (3, .int a3)]) hx hb dX9_number_19 hl (k := 1) rfl (by first | rfl | decide) (by decide) rfl (fun ls hl => ?_)
  refine lv_goto (tgt := 6) hx hb dX9_number_22 (by decide) ?_
  refine lv_iload hx hb dX9_number_6 (lv_at hl 0 rfl) ?_
  refine lv_iload_n hx hb dX9_number_8 rfl (lv_at hl 3 rfl) ?_
  refine lv_icmp_ge (tgt := 25) hx hb dX9_number_9 (by decide) (fun c_2 => ?_) (fun c_2 => ?_)
  rotate_left
  · exact (by first | exact absurd c_2 (by decide : ((2 : Int32) ≤ 2)) | exact absurd (by decide : ((2 : Int32) ≤ 2)) c_2)
  refine lv_iconst (v := 0) hx hb dX9_number_25 (by decide) ?_
  refine lv_istore (lv' := [(5, .int 0), (4, .int 10), (0, .ref h), (1, .int 2), (2, .int a2), (3, .int a3)]) hx hb dX9_number_26 hl (by decide) rfl (fun ls hl => ?_)
  refine lv_iconst (v := 0) hx hb dX9_number_28 (by decide) ?_
  refine lv_istore (lv' := [(6, .int 0), (5, .int 0), (4, .int 10), (0, .ref h), (1, .int 2), (2, .int a2), (3, .int a3)]) hx hb dX9_number_29 hl (by decide) rfl (fun ls hl => ?_)
  refine lv_iload hx hb dX9_number_31 (lv_at hl 0 rfl) ?_
  refine lv_iload_n hx hb dX9_number_33 rfl (lv_at hl 4 rfl) ?_
  refine lv_icmp_ge (tgt := 105) hx hb dX9_number_34 (by decide) (fun c_3 => ?_) (fun c_3 => ?_)
  · exact (by first | exact absurd c_3 (by decide : ¬ ((2 : Int32) ≤ 0)) | exact absurd (by decide : ¬ ((2 : Int32) ≤ 0)) c_3)
  refine lv_aload_n hx hb dX9_number_37 rfl (lv_at hl 3 rfl) ?_
  refine cl_Ri (va_runV (As := []) (rest := []) ⟨hx, hb, hml, hown, hts⟩ (c_X9_digitHere l G y h q x ft) (cwV 0 hts gX9_number_X9_digitHere rfl rfl rfl (by decide +kernel) ⟨Nat.le_of_ble_eq_true rfl, Nat.le_of_ble_eq_true rfl⟩) (PR_V (hP.sub (ws' := [kX9 h q x, aC y q 60 ft]) [0, 1] rfl) hK hN (ci := 7) (q0 := 0) rfl rfl) rfl rfl hl.1 rfl (lv_room (Nat.le_of_ble_eq_true rfl)) dX9_number_38 ⟨Nat.le_of_ble_eq_true rfl, Nat.le_of_ble_eq_true rfl⟩) ?_
  refine lv_istore (lv' := [(7, .int (s_X9_digitHere_r x ft)), (6, .int 0), (5, .int 0), (4, .int 10), (0, .ref h), (1, .int 2), (2, .int a2), (3, .int a3)]) hx hb dX9_number_41 hl (by decide) rfl (fun ls hl => ?_)
  refine lv_iload hx hb dX9_number_43 (lv_at hl 2 rfl) ?_
  refine lv_iload hx hb dX9_number_45 (lv_at hl 0 rfl) ?_
  refine lv_iload hx hb dX9_number_47 (lv_at hl 3 rfl) ?_
  refine lv_imul hx hb dX9_number_49 ?_
  refine lv_iadd hx hb dX9_number_50 ?_
  refine lv_istore (lv' := [(8, .int (0 + ((s_X9_digitHere_r x ft) * 10))), (7, .int (s_X9_digitHere_r x ft)), (6, .int 0), (5, .int 0), (4, .int 10), (0, .ref h), (1, .int 2), (2, .int a2), (3, .int a3)]) hx hb dX9_number_51 hl (by decide) rfl (fun ls hl => ?_)
  refine lv_iload hx hb dX9_number_53 (lv_at hl 1 rfl) ?_
  refine lv_iconst (v := (-1)) hx hb dX9_number_55 (by decide) ?_
  refine lv_icmp_eq (tgt := 76) hx hb dX9_number_56 (by decide) (fun c_4 => ?_) (fun c_4 => ?_)
  · refine lv_iconst (v := (-1)) hx hb dX9_number_76 (by decide) ?_
    exact W.iret hx hb hr (end_Hi () hP hD hS (by unfold s_X9_number_2_r; exact (if_pos c_4).symm) (congrArg (fun (z0 : Nat → Int32) => [kX9 h q z0, aC y q 60 ft]) (by unfold s_X9_number_2_w0; exact (if_pos c_4).symm))) hS.2.2 dX9_number_77
  · refine lv_iload hx hb dX9_number_59 (lv_at hl 0 rfl) ?_
    refine lv_iload_n hx hb dX9_number_61 rfl (lv_at hl 8 rfl) ?_
    refine lv_icmp_gt (tgt := 76) hx hb dX9_number_62 (by decide) (fun c_5 => ?_) (fun c_5 => ?_)
    · refine lv_iconst (v := (-1)) hx hb dX9_number_76 (by decide) ?_
      exact W.iret hx hb hr (end_Hi () hP hD hS (by unfold s_X9_number_2_r; exact ((if_neg c_4).trans (if_pos c_5)).symm) (congrArg (fun (z0 : Nat → Int32) => [kX9 h q z0, aC y q 60 ft]) (by unfold s_X9_number_2_w0; exact ((if_neg c_4).trans (if_pos c_5)).symm))) hS.2.2 dX9_number_77
    · refine lv_iload hx hb dX9_number_65 (lv_at hl 0 rfl) ?_
      refine lv_iload hx hb dX9_number_67 (lv_at hl 4 rfl) ?_
      refine lv_iadd hx hb dX9_number_69 ?_
      refine lv_iconst (v := 1) hx hb dX9_number_70 (by decide) ?_
      refine lv_isub hx hb dX9_number_71 ?_
      refine lv_iload_n hx hb dX9_number_72 rfl (lv_at hl 7 rfl) ?_
      refine lv_icmp_ge (tgt := 78) hx hb dX9_number_73 (by decide) (fun c_6 => ?_) (fun c_6 => ?_)
      · refine lv_iload hx hb dX9_number_78 (lv_at hl 0 rfl) ?_
        refine lv_istore (lv' := [(5, .int (0 + ((s_X9_digitHere_r x ft) * 10))), (8, .int (0 + ((s_X9_digitHere_r x ft) * 10))), (7, .int (s_X9_digitHere_r x ft)), (6, .int 0), (4, .int 10), (0, .ref h), (1, .int 2), (2, .int a2), (3, .int a3)]) hx hb dX9_number_80 hl (by decide) rfl (fun ls hl => ?_)
        refine lv_iload hx hb dX9_number_82 (lv_at hl 4 rfl) ?_
        refine lv_bipush (v := 10) hx hb dX9_number_84 (by decide) ?_
        refine lv_idiv hx hb dX9_number_86 (by decide) ?_
        refine rw_i (x' := 1) (by decide) ?_
        refine lv_istore (lv' := [(4, .int 1), (5, .int (0 + ((s_X9_digitHere_r x ft) * 10))), (8, .int (0 + ((s_X9_digitHere_r x ft) * 10))), (7, .int (s_X9_digitHere_r x ft)), (6, .int 0), (0, .ref h), (1, .int 2), (2, .int a2), (3, .int a3)]) hx hb dX9_number_87 hl (by decide) rfl (fun ls hl => ?_)
        refine lv_aload_n hx hb dX9_number_89 rfl (lv_at hl 5 rfl) ?_
        refine lv_dup hx hb dX9_number_90 rfl ?_
        refine va_get (D := G) (ci := 7) (v := .int (x 2)) (C := RX9) (T := TX9) (N := 12) hx hb hts i_X9 hown hK hP 0 rfl rfl 2 (by decide) (hts (.fieldLink RX9 19 "RelayTuner$Text" "at" "I") (by decide +kernel)) (fun _ h9 => h9) rfl dX9_number_91 ?_
        refine lv_iconst (v := 1) hx hb dX9_number_94 (by decide) ?_
        refine lv_iadd hx hb dX9_number_95 ?_
        refine va_put (D := G) (ci := 7) (v := .int ((x 2) + 1)) (ty := .int) (C := RX9) (T := TX9) (N := 12) hx hb hts i_X9 tyX9 tyX9_ok nmX9 hown hK hP hD hS 0 rfl rfl 2 (by decide) (hts (.fieldLink RX9 19 "RelayTuner$Text" "at" "I") (by decide +kernel)) (fun _ h9 => h9) rfl (by decide +kernel) rfl rfl (Nat.le_of_ble_eq_true rfl) dX9_number_96 (fun H locs hP hD hS => ?_)
        have hP : va_P G vwCl [kX9 h q (upd x 2 ((x 2) + 1)), aC y q 60 ft] H := hP
        have hD : va_D A [kX9 h q (upd x 2 ((x 2) + 1)), aC y q 60 ft] := hD
        refine lv_iinc (v := 1) (lv' := [(6, .int 1), (4, .int 1), (5, .int (0 + ((s_X9_digitHere_r x ft) * 10))), (8, .int (0 + ((s_X9_digitHere_r x ft) * 10))), (7, .int (s_X9_digitHere_r x ft)), (0, .ref h), (1, .int 2), (2, .int a2), (3, .int a3)]) hx hb dX9_number_99 hl (k := 4) rfl (by first | rfl | decide) (by decide) rfl (fun ls hl => ?_)
        refine lv_goto (tgt := 31) hx hb dX9_number_102 (by decide) ?_
        refine lv_iload hx hb dX9_number_31 (lv_at hl 0 rfl) ?_
        refine lv_iload_n hx hb dX9_number_33 rfl (lv_at hl 6 rfl) ?_
        refine lv_icmp_ge (tgt := 105) hx hb dX9_number_34 (by decide) (fun c_7 => ?_) (fun c_7 => ?_)
        · exact (by first | exact absurd c_7 (by decide : ¬ ((2 : Int32) ≤ 1)) | exact absurd (by decide : ¬ ((2 : Int32) ≤ 1)) c_7)
        refine lv_aload_n hx hb dX9_number_37 rfl (lv_at hl 5 rfl) ?_
        refine cl_Ri (va_runV (As := []) (rest := []) ⟨hx, hb, hml, hown, hts⟩ (c_X9_digitHere l G y h q (upd x 2 ((x 2) + 1)) ft) (cwV 0 hts gX9_number_X9_digitHere rfl rfl rfl (by decide +kernel) ⟨Nat.le_of_ble_eq_true rfl, Nat.le_of_ble_eq_true rfl⟩) (PR_V (hP.sub (ws' := [kX9 h q (upd x 2 ((x 2) + 1)), aC y q 60 ft]) [0, 1] rfl) hK hN (ci := 7) (q0 := 0) rfl rfl) rfl rfl hl.1 rfl (lv_room (Nat.le_of_ble_eq_true rfl)) dX9_number_38 ⟨Nat.le_of_ble_eq_true rfl, Nat.le_of_ble_eq_true rfl⟩) ?_
        refine lv_istore (lv' := [(7, .int (s_X9_digitHere_r (upd x 2 ((x 2) + 1)) ft)), (6, .int 1), (4, .int 1), (5, .int (0 + ((s_X9_digitHere_r x ft) * 10))), (8, .int (0 + ((s_X9_digitHere_r x ft) * 10))), (0, .ref h), (1, .int 2), (2, .int a2), (3, .int a3)]) hx hb dX9_number_41 hl (by decide) rfl (fun ls hl => ?_)
        refine lv_iload hx hb dX9_number_43 (lv_at hl 3 rfl) ?_
        refine lv_iload hx hb dX9_number_45 (lv_at hl 0 rfl) ?_
        refine lv_iload hx hb dX9_number_47 (lv_at hl 2 rfl) ?_
        refine lv_imul hx hb dX9_number_49 ?_
        refine lv_iadd hx hb dX9_number_50 ?_
        refine lv_istore (lv' := [(8, .int ((0 + ((s_X9_digitHere_r x ft) * 10)) + ((s_X9_digitHere_r (upd x 2 ((x 2) + 1)) ft) * 1))), (7, .int (s_X9_digitHere_r (upd x 2 ((x 2) + 1)) ft)), (6, .int 1), (4, .int 1), (5, .int (0 + ((s_X9_digitHere_r x ft) * 10))), (0, .ref h), (1, .int 2), (2, .int a2), (3, .int a3)]) hx hb dX9_number_51 hl (by decide) rfl (fun ls hl => ?_)
        refine lv_iload hx hb dX9_number_53 (lv_at hl 1 rfl) ?_
        refine lv_iconst (v := (-1)) hx hb dX9_number_55 (by decide) ?_
        refine lv_icmp_eq (tgt := 76) hx hb dX9_number_56 (by decide) (fun c_8 => ?_) (fun c_8 => ?_)
        · refine lv_iconst (v := (-1)) hx hb dX9_number_76 (by decide) ?_
          exact W.iret hx hb hr (end_Hi () hP hD hS (by unfold s_X9_number_2_r; exact ((if_neg c_4).trans ((if_neg c_5).trans ((if_pos c_6).trans (if_pos c_8)))).symm) (congrArg (fun (z0 : Nat → Int32) => [kX9 h q z0, aC y q 60 ft]) (by unfold s_X9_number_2_w0; exact ((if_neg c_4).trans ((if_neg c_5).trans ((if_pos c_6).trans (if_pos c_8)))).symm))) hS.2.2 dX9_number_77
        · refine lv_iload hx hb dX9_number_59 (lv_at hl 0 rfl) ?_
          refine lv_iload_n hx hb dX9_number_61 rfl (lv_at hl 8 rfl) ?_
          refine lv_icmp_gt (tgt := 76) hx hb dX9_number_62 (by decide) (fun c_9 => ?_) (fun c_9 => ?_)
          · refine lv_iconst (v := (-1)) hx hb dX9_number_76 (by decide) ?_
            exact W.iret hx hb hr (end_Hi () hP hD hS (by unfold s_X9_number_2_r; exact ((if_neg c_4).trans ((if_neg c_5).trans ((if_pos c_6).trans ((if_neg c_8).trans (if_pos c_9))))).symm) (congrArg (fun (z0 : Nat → Int32) => [kX9 h q z0, aC y q 60 ft]) (by unfold s_X9_number_2_w0; exact ((if_neg c_4).trans ((if_neg c_5).trans ((if_pos c_6).trans ((if_neg c_8).trans (if_pos c_9))))).symm))) hS.2.2 dX9_number_77
          · refine lv_iload hx hb dX9_number_65 (lv_at hl 0 rfl) ?_
            refine lv_iload hx hb dX9_number_67 (lv_at hl 3 rfl) ?_
            refine lv_iadd hx hb dX9_number_69 ?_
            refine lv_iconst (v := 1) hx hb dX9_number_70 (by decide) ?_
            refine lv_isub hx hb dX9_number_71 ?_
            refine lv_iload_n hx hb dX9_number_72 rfl (lv_at hl 7 rfl) ?_
            refine lv_icmp_ge (tgt := 78) hx hb dX9_number_73 (by decide) (fun c_10 => ?_) (fun c_10 => ?_)
            · refine lv_iload hx hb dX9_number_78 (lv_at hl 0 rfl) ?_
              refine lv_istore (lv' := [(5, .int ((0 + ((s_X9_digitHere_r x ft) * 10)) + ((s_X9_digitHere_r (upd x 2 ((x 2) + 1)) ft) * 1))), (8, .int ((0 + ((s_X9_digitHere_r x ft) * 10)) + ((s_X9_digitHere_r (upd x 2 ((x 2) + 1)) ft) * 1))), (7, .int (s_X9_digitHere_r (upd x 2 ((x 2) + 1)) ft)), (6, .int 1), (4, .int 1), (0, .ref h), (1, .int 2), (2, .int a2), (3, .int a3)]) hx hb dX9_number_80 hl (by decide) rfl (fun ls hl => ?_)
              refine lv_iload hx hb dX9_number_82 (lv_at hl 4 rfl) ?_
              refine lv_bipush (v := 10) hx hb dX9_number_84 (by decide) ?_
              refine lv_idiv hx hb dX9_number_86 (by decide) ?_
              refine rw_i (x' := 0) (by decide) ?_
              refine lv_istore (lv' := [(4, .int 0), (5, .int ((0 + ((s_X9_digitHere_r x ft) * 10)) + ((s_X9_digitHere_r (upd x 2 ((x 2) + 1)) ft) * 1))), (8, .int ((0 + ((s_X9_digitHere_r x ft) * 10)) + ((s_X9_digitHere_r (upd x 2 ((x 2) + 1)) ft) * 1))), (7, .int (s_X9_digitHere_r (upd x 2 ((x 2) + 1)) ft)), (6, .int 1), (0, .ref h), (1, .int 2), (2, .int a2), (3, .int a3)]) hx hb dX9_number_87 hl (by decide) rfl (fun ls hl => ?_)
              refine lv_aload_n hx hb dX9_number_89 rfl (lv_at hl 5 rfl) ?_
              refine lv_dup hx hb dX9_number_90 rfl ?_
              refine va_get (D := G) (ci := 7) (v := .int ((x 2) + 1)) (C := RX9) (T := TX9) (N := 12) hx hb hts i_X9 hown hK hP 0 rfl rfl 2 (by decide) (hts (.fieldLink RX9 19 "RelayTuner$Text" "at" "I") (by decide +kernel)) (fun _ h9 => h9) rfl dX9_number_91 ?_
              refine lv_iconst (v := 1) hx hb dX9_number_94 (by decide) ?_
              refine lv_iadd hx hb dX9_number_95 ?_
              refine va_put (D := G) (ci := 7) (v := .int (((x 2) + 1) + 1)) (ty := .int) (C := RX9) (T := TX9) (N := 12) hx hb hts i_X9 tyX9 tyX9_ok nmX9 hown hK hP hD hS 0 rfl rfl 2 (by decide) (hts (.fieldLink RX9 19 "RelayTuner$Text" "at" "I") (by decide +kernel)) (fun _ h9 => h9) rfl (by decide +kernel) rfl rfl (Nat.le_of_ble_eq_true rfl) dX9_number_96 (fun H locs hP hD hS => ?_)
              have hP : va_P G vwCl [kX9 h q (upd (upd x 2 ((x 2) + 1)) 2 (((x 2) + 1) + 1)), aC y q 60 ft] H := hP
              have hD : va_D A [kX9 h q (upd (upd x 2 ((x 2) + 1)) 2 (((x 2) + 1) + 1)), aC y q 60 ft] := hD
              refine lv_iinc (v := 2) (lv' := [(6, .int 2), (4, .int 0), (5, .int ((0 + ((s_X9_digitHere_r x ft) * 10)) + ((s_X9_digitHere_r (upd x 2 ((x 2) + 1)) ft) * 1))), (8, .int ((0 + ((s_X9_digitHere_r x ft) * 10)) + ((s_X9_digitHere_r (upd x 2 ((x 2) + 1)) ft) * 1))), (7, .int (s_X9_digitHere_r (upd x 2 ((x 2) + 1)) ft)), (0, .ref h), (1, .int 2), (2, .int a2), (3, .int a3)]) hx hb dX9_number_99 hl (k := 4) rfl (by first | rfl | decide) (by decide) rfl (fun ls hl => ?_)
              refine lv_goto (tgt := 31) hx hb dX9_number_102 (by decide) ?_
              refine lv_iload hx hb dX9_number_31 (lv_at hl 0 rfl) ?_
              refine lv_iload_n hx hb dX9_number_33 rfl (lv_at hl 6 rfl) ?_
              refine lv_icmp_ge (tgt := 105) hx hb dX9_number_34 (by decide) (fun c_11 => ?_) (fun c_11 => ?_)
              rotate_left
              · exact (by first | exact absurd c_11 (by decide : ((2 : Int32) ≤ 2)) | exact absurd (by decide : ((2 : Int32) ≤ 2)) c_11)
              refine lv_iload hx hb dX9_number_105 (lv_at hl 2 rfl) ?_
              exact W.iret hx hb hr (end_Hi () hP hD hS (by unfold s_X9_number_2_r; exact ((if_neg c_4).trans ((if_neg c_5).trans ((if_pos c_6).trans ((if_neg c_8).trans ((if_neg c_9).trans (if_pos c_10)))))).symm) (congrArg (fun (z0 : Nat → Int32) => [kX9 h q z0, aC y q 60 ft]) (by unfold s_X9_number_2_w0; exact ((if_neg c_4).trans ((if_neg c_5).trans ((if_pos c_6).trans ((if_neg c_8).trans ((if_neg c_9).trans (if_pos c_10)))))).symm))) hS.2.2 dX9_number_107
            · refine lv_iconst (v := (-1)) hx hb dX9_number_76 (by decide) ?_
              exact W.iret hx hb hr (end_Hi () hP hD hS (by unfold s_X9_number_2_r; exact ((if_neg c_4).trans ((if_neg c_5).trans ((if_pos c_6).trans ((if_neg c_8).trans ((if_neg c_9).trans (if_neg c_10)))))).symm) (congrArg (fun (z0 : Nat → Int32) => [kX9 h q z0, aC y q 60 ft]) (by unfold s_X9_number_2_w0; exact ((if_neg c_4).trans ((if_neg c_5).trans ((if_pos c_6).trans ((if_neg c_8).trans ((if_neg c_9).trans (if_neg c_10)))))).symm))) hS.2.2 dX9_number_77
      · refine lv_iconst (v := (-1)) hx hb dX9_number_76 (by decide) ?_
        exact W.iret hx hb hr (end_Hi () hP hD hS (by unfold s_X9_number_2_r; exact ((if_neg c_4).trans ((if_neg c_5).trans (if_neg c_6))).symm) (congrArg (fun (z0 : Nat → Int32) => [kX9 h q z0, aC y q 60 ft]) (by unfold s_X9_number_2_w0; exact ((if_neg c_4).trans ((if_neg c_5).trans (if_neg c_6))).symm))) hS.2.2 dX9_number_77

def s_X9_number_3_r (a2 : Int32) (a3 : Int32) (x : Nat → Int32) (ft : Nat → Int32) : Int32 := (if (s_X9_digitHere_r x ft) = (-1) then (-1) else (if a3 < (0 + ((s_X9_digitHere_r x ft) * 100)) then (-1) else (if a2 ≤ (((0 + ((s_X9_digitHere_r x ft) * 100)) + 100) - 1) then (if (s_X9_digitHere_r (upd x 2 ((x 2) + 1)) ft) = (-1) then (-1) else (if a3 < ((0 + ((s_X9_digitHere_r x ft) * 100)) + ((s_X9_digitHere_r (upd x 2 ((x 2) + 1)) ft) * 10)) then (-1) else (if a2 ≤ ((((0 + ((s_X9_digitHere_r x ft) * 100)) + ((s_X9_digitHere_r (upd x 2 ((x 2) + 1)) ft) * 10)) + 10) - 1) then (if (s_X9_digitHere_r (upd (upd x 2 ((x 2) + 1)) 2 (((x 2) + 1) + 1)) ft) = (-1) then (-1) else (if a3 < (((0 + ((s_X9_digitHere_r x ft) * 100)) + ((s_X9_digitHere_r (upd x 2 ((x 2) + 1)) ft) * 10)) + ((s_X9_digitHere_r (upd (upd x 2 ((x 2) + 1)) 2 (((x 2) + 1) + 1)) ft) * 1)) then (-1) else (if a2 ≤ (((((0 + ((s_X9_digitHere_r x ft) * 100)) + ((s_X9_digitHere_r (upd x 2 ((x 2) + 1)) ft) * 10)) + ((s_X9_digitHere_r (upd (upd x 2 ((x 2) + 1)) 2 (((x 2) + 1) + 1)) ft) * 1)) + 1) - 1) then (((0 + ((s_X9_digitHere_r x ft) * 100)) + ((s_X9_digitHere_r (upd x 2 ((x 2) + 1)) ft) * 10)) + ((s_X9_digitHere_r (upd (upd x 2 ((x 2) + 1)) 2 (((x 2) + 1) + 1)) ft) * 1)) else (-1)))) else (-1)))) else (-1))))
def s_X9_number_3_w0 (a2 : Int32) (a3 : Int32) (x : Nat → Int32) (ft : Nat → Int32) : Nat → Int32 := (if (s_X9_digitHere_r x ft) = (-1) then x else (if a3 < (0 + ((s_X9_digitHere_r x ft) * 100)) then x else (if a2 ≤ (((0 + ((s_X9_digitHere_r x ft) * 100)) + 100) - 1) then (if (s_X9_digitHere_r (upd x 2 ((x 2) + 1)) ft) = (-1) then (upd x 2 ((x 2) + 1)) else (if a3 < ((0 + ((s_X9_digitHere_r x ft) * 100)) + ((s_X9_digitHere_r (upd x 2 ((x 2) + 1)) ft) * 10)) then (upd x 2 ((x 2) + 1)) else (if a2 ≤ ((((0 + ((s_X9_digitHere_r x ft) * 100)) + ((s_X9_digitHere_r (upd x 2 ((x 2) + 1)) ft) * 10)) + 10) - 1) then (if (s_X9_digitHere_r (upd (upd x 2 ((x 2) + 1)) 2 (((x 2) + 1) + 1)) ft) = (-1) then (upd (upd x 2 ((x 2) + 1)) 2 (((x 2) + 1) + 1)) else (if a3 < (((0 + ((s_X9_digitHere_r x ft) * 100)) + ((s_X9_digitHere_r (upd x 2 ((x 2) + 1)) ft) * 10)) + ((s_X9_digitHere_r (upd (upd x 2 ((x 2) + 1)) 2 (((x 2) + 1) + 1)) ft) * 1)) then (upd (upd x 2 ((x 2) + 1)) 2 (((x 2) + 1) + 1)) else (if a2 ≤ (((((0 + ((s_X9_digitHere_r x ft) * 100)) + ((s_X9_digitHere_r (upd x 2 ((x 2) + 1)) ft) * 10)) + ((s_X9_digitHere_r (upd (upd x 2 ((x 2) + 1)) 2 (((x 2) + 1) + 1)) ft) * 1)) + 1) - 1) then (upd (upd (upd x 2 ((x 2) + 1)) 2 (((x 2) + 1) + 1)) 2 ((((x 2) + 1) + 1) + 1)) else (upd (upd x 2 ((x 2) + 1)) 2 (((x 2) + 1) + 1))))) else (upd x 2 ((x 2) + 1))))) else x)))
abbrev rmX9_number_3 : Room := ({ frames := 1, cells := 0, slots := 0, locals := 21 } : Room)
set_option maxHeartbeats 4000000 in
set_option maxRecDepth 100000 in
theorem c_X9_number_3 (l : Launch) (G : va_G) (y : Nat → ClassId) (h : Nat) (a2 : Int32) (a3 : Int32) (q : Nat) (x : Nat → Int32) (ft : Nat → Int32) (sz : Nat) : Met l yX9_number wsX9_number rmX9_number_3 (PH G y [.ref h, .int 3, .int a2, .int a3] [kX9 h q x, aC y q 60 ft] sz) (QHi G (s_X9_number_3_r a2 a3 x ft) (fun _ : Unit => [kX9 h q (s_X9_number_3_w0 a2 a3 x ft), aC y q 60 ft]) (va_A [kX9 h q x, aC y q 60 ft] sz)) 0 0 (va_A [kX9 h q x, aC y q 60 ft] sz) := by
  refine Met.ofW (cc := cX9_number) (maxL := 9) (ret := (some .int)) (by decide) rfl ?_
  intro p e s m args below meth c s₁ B hml hv
  obtain ⟨rfl, hsz, hP, ⟨hK, hN⟩, hD0⟩ := hv
  have hx := B.exec
  have hb := B.bytes
  have hr := B.returns
  have hts := atoms_spec (ws := wsX9_number) B.pre
  have hown : s.vm.findClass RX9 = some m.cls := findClass_of_methodNamed B.named
  have hlocks := B.notSynchronized
  have i_X9 : ∀ w ∈ u_ws RX9 TX9 12, w ∈ wsX9_number := by decide +kernel
  subst hsz
  have hD := hD0.self (sz := s.heap.size)
  generalize hAe : va_A [kX9 h q x, aC y q 60 ft] s.heap.size = A at hD ⊢
  have hA : ∀ q : Nat, s.heap.size ≤ q → A q := fun q h => by rw [← hAe]; exact Or.inr h
  have hS : va_S A s.heap s.heap [] := va_S.rf
  have hP : va_P G vwCl [kX9 h q x, aC y q 60 ft] s.heap := hP
  have hl := lv_entry ([.ref h, .int 3, .int a2, .int a3]) (n := 9) (Nat.le_of_ble_eq_true rfl)
  rw [lg_entry_eq]
  generalize (lg_sl ([.ref h, .int 3, .int a2, .int a3]) ++ List.replicate (9 - (lg_sl ([.ref h, .int 3, .int a2, .int a3])).length) Slot.unset).toArray = ls at hl ⊢
  have hl : lv_has ls 9 [(0, .ref h), (1, .int 3), (2, .int a2), (3, .int a3)] := hl
  refine lv_iconst (v := 1) hx hb dX9_number_0 (by decide) ?_
  refine lv_istore (lv' := [(4, .int 1), (0, .ref h), (1, .int 3), (2, .int a2), (3, .int a3)]) hx hb dX9_number_1 hl (by decide) rfl (fun ls hl => ?_)
  refine lv_iconst (v := 1) hx hb dX9_number_3 (by decide) ?_
  refine lv_istore (lv' := [(5, .int 1), (4, .int 1), (0, .ref h), (1, .int 3), (2, .int a2), (3, .int a3)]) hx hb dX9_number_4 hl (by decide) rfl (fun ls hl => ?_)
  refine lv_iload hx hb dX9_number_6 (lv_at hl 0 rfl) ?_
  refine lv_iload_n hx hb dX9_number_8 rfl (lv_at hl 3 rfl) ?_
  refine lv_icmp_ge (tgt := 25) hx hb dX9_number_9 (by decide) (fun c_1 => ?_) (fun c_1 => ?_)
  · exact (by first | exact absurd c_1 (by decide : ¬ ((3 : Int32) ≤ 1)) | exact absurd (by decide : ¬ ((3 : Int32) ≤ 1)) c_1)
  refine lv_iload hx hb dX9_number_12 (lv_at hl 1 rfl) ?_
  refine lv_bipush (v := 10) hx hb dX9_number_14 (by decide) ?_
  refine lv_imul hx hb dX9_number_16 ?_
  refine rw_i (x' := 10) (by decide) ?_
  refine lv_istore (lv' := [(4, .int 10), (5, .int 1), (0, .ref h), (1, .int 3), (2, .int a2), (3, .int a3)]) hx hb dX9_number_17 hl (by decide) rfl (fun ls hl => ?_)
  refine lv_iinc (v := 2) (lv' := [(5, .int 2), (4, .int 10), (0, .ref h), (1, .int 3), (2, .int a2), (3, .int a3)]) hx hb dX9_number_19 hl (k := 1) rfl (by first | rfl | decide) (by decide) rfl (fun ls hl => ?_)
  refine lv_goto (tgt := 6) hx hb dX9_number_22 (by decide) ?_
  refine lv_iload hx hb dX9_number_6 (lv_at hl 0 rfl) ?_
  refine lv_iload_n hx hb dX9_number_8 rfl (lv_at hl 3 rfl) ?_
  refine lv_icmp_ge (tgt := 25) hx hb dX9_number_9 (by decide) (fun c_2 => ?_) (fun c_2 => ?_)
  · exact (by first | exact absurd c_2 (by decide : ¬ ((3 : Int32) ≤ 2)) | exact absurd (by decide : ¬ ((3 : Int32) ≤ 2)) c_2)
  refine lv_iload hx hb dX9_number_12 (lv_at hl 1 rfl) ?_
  refine lv_bipush (v := 10) hx hb dX9_number_14 (by decide) ?_
  refine lv_imul hx hb dX9_number_16 ?_
  refine rw_i (x' := 100) (by decide) ?_
  refine lv_istore (lv' := [(4, .int 100), (5, .int 2), (0, .ref h), (1, .int 3), (2, .int a2), (3, .int a3)]) hx hb dX9_number_17 hl (by decide) rfl (fun ls hl => ?_)
  refine lv_iinc (v := 3) (lv' := [(5, .int 3), (4, .int 100), (0, .ref h), (1, .int 3), (2, .int a2), (3, .int a3)]) hx hb dX9_number_19 hl (k := 1) rfl (by first | rfl | decide) (by decide) rfl (fun ls hl => ?_)
  refine lv_goto (tgt := 6) hx hb dX9_number_22 (by decide) ?_
  refine lv_iload hx hb dX9_number_6 (lv_at hl 0 rfl) ?_
  refine lv_iload_n hx hb dX9_number_8 rfl (lv_at hl 3 rfl) ?_
  refine lv_icmp_ge (tgt := 25) hx hb dX9_number_9 (by decide) (fun c_3 => ?_) (fun c_3 => ?_)
  rotate_left
  · exact (by first | exact absurd c_3 (by decide : ((3 : Int32) ≤ 3)) | exact absurd (by decide : ((3 : Int32) ≤ 3)) c_3)
  refine lv_iconst (v := 0) hx hb dX9_number_25 (by decide) ?_
  refine lv_istore (lv' := [(5, .int 0), (4, .int 100), (0, .ref h), (1, .int 3), (2, .int a2), (3, .int a3)]) hx hb dX9_number_26 hl (by decide) rfl (fun ls hl => ?_)
  refine lv_iconst (v := 0) hx hb dX9_number_28 (by decide) ?_
  refine lv_istore (lv' := [(6, .int 0), (5, .int 0), (4, .int 100), (0, .ref h), (1, .int 3), (2, .int a2), (3, .int a3)]) hx hb dX9_number_29 hl (by decide) rfl (fun ls hl => ?_)
  refine lv_iload hx hb dX9_number_31 (lv_at hl 0 rfl) ?_
  refine lv_iload_n hx hb dX9_number_33 rfl (lv_at hl 4 rfl) ?_
  refine lv_icmp_ge (tgt := 105) hx hb dX9_number_34 (by decide) (fun c_4 => ?_) (fun c_4 => ?_)
  · exact (by first | exact absurd c_4 (by decide : ¬ ((3 : Int32) ≤ 0)) | exact absurd (by decide : ¬ ((3 : Int32) ≤ 0)) c_4)
  refine lv_aload_n hx hb dX9_number_37 rfl (lv_at hl 3 rfl) ?_
  refine cl_Ri (va_runV (As := []) (rest := []) ⟨hx, hb, hml, hown, hts⟩ (c_X9_digitHere l G y h q x ft) (cwV 0 hts gX9_number_X9_digitHere rfl rfl rfl (by decide +kernel) ⟨Nat.le_of_ble_eq_true rfl, Nat.le_of_ble_eq_true rfl⟩) (PR_V (hP.sub (ws' := [kX9 h q x, aC y q 60 ft]) [0, 1] rfl) hK hN (ci := 7) (q0 := 0) rfl rfl) rfl rfl hl.1 rfl (lv_room (Nat.le_of_ble_eq_true rfl)) dX9_number_38 ⟨Nat.le_of_ble_eq_true rfl, Nat.le_of_ble_eq_true rfl⟩) ?_
  refine lv_istore (lv' := [(7, .int (s_X9_digitHere_r x ft)), (6, .int 0), (5, .int 0), (4, .int 100), (0, .ref h), (1, .int 3), (2, .int a2), (3, .int a3)]) hx hb dX9_number_41 hl (by decide) rfl (fun ls hl => ?_)
  refine lv_iload hx hb dX9_number_43 (lv_at hl 2 rfl) ?_
  refine lv_iload hx hb dX9_number_45 (lv_at hl 0 rfl) ?_
  refine lv_iload hx hb dX9_number_47 (lv_at hl 3 rfl) ?_
  refine lv_imul hx hb dX9_number_49 ?_
  refine lv_iadd hx hb dX9_number_50 ?_
  refine lv_istore (lv' := [(8, .int (0 + ((s_X9_digitHere_r x ft) * 100))), (7, .int (s_X9_digitHere_r x ft)), (6, .int 0), (5, .int 0), (4, .int 100), (0, .ref h), (1, .int 3), (2, .int a2), (3, .int a3)]) hx hb dX9_number_51 hl (by decide) rfl (fun ls hl => ?_)
  refine lv_iload hx hb dX9_number_53 (lv_at hl 1 rfl) ?_
  refine lv_iconst (v := (-1)) hx hb dX9_number_55 (by decide) ?_
  refine lv_icmp_eq (tgt := 76) hx hb dX9_number_56 (by decide) (fun c_5 => ?_) (fun c_5 => ?_)
  · refine lv_iconst (v := (-1)) hx hb dX9_number_76 (by decide) ?_
    exact W.iret hx hb hr (end_Hi () hP hD hS (by unfold s_X9_number_3_r; exact (if_pos c_5).symm) (congrArg (fun (z0 : Nat → Int32) => [kX9 h q z0, aC y q 60 ft]) (by unfold s_X9_number_3_w0; exact (if_pos c_5).symm))) hS.2.2 dX9_number_77
  · refine lv_iload hx hb dX9_number_59 (lv_at hl 0 rfl) ?_
    refine lv_iload_n hx hb dX9_number_61 rfl (lv_at hl 8 rfl) ?_
    refine lv_icmp_gt (tgt := 76) hx hb dX9_number_62 (by decide) (fun c_6 => ?_) (fun c_6 => ?_)
    · refine lv_iconst (v := (-1)) hx hb dX9_number_76 (by decide) ?_
      exact W.iret hx hb hr (end_Hi () hP hD hS (by unfold s_X9_number_3_r; exact ((if_neg c_5).trans (if_pos c_6)).symm) (congrArg (fun (z0 : Nat → Int32) => [kX9 h q z0, aC y q 60 ft]) (by unfold s_X9_number_3_w0; exact ((if_neg c_5).trans (if_pos c_6)).symm))) hS.2.2 dX9_number_77
    · refine lv_iload hx hb dX9_number_65 (lv_at hl 0 rfl) ?_
      refine lv_iload hx hb dX9_number_67 (lv_at hl 4 rfl) ?_
      refine lv_iadd hx hb dX9_number_69 ?_
      refine lv_iconst (v := 1) hx hb dX9_number_70 (by decide) ?_
      refine lv_isub hx hb dX9_number_71 ?_
      refine lv_iload_n hx hb dX9_number_72 rfl (lv_at hl 7 rfl) ?_
      refine lv_icmp_ge (tgt := 78) hx hb dX9_number_73 (by decide) (fun c_7 => ?_) (fun c_7 => ?_)
      · refine lv_iload hx hb dX9_number_78 (lv_at hl 0 rfl) ?_
        refine lv_istore (lv' := [(5, .int (0 + ((s_X9_digitHere_r x ft) * 100))), (8, .int (0 + ((s_X9_digitHere_r x ft) * 100))), (7, .int (s_X9_digitHere_r x ft)), (6, .int 0), (4, .int 100), (0, .ref h), (1, .int 3), (2, .int a2), (3, .int a3)]) hx hb dX9_number_80 hl (by decide) rfl (fun ls hl => ?_)
        refine lv_iload hx hb dX9_number_82 (lv_at hl 4 rfl) ?_
        refine lv_bipush (v := 10) hx hb dX9_number_84 (by decide) ?_
        refine lv_idiv hx hb dX9_number_86 (by decide) ?_
        refine rw_i (x' := 10) (by decide) ?_
        refine lv_istore (lv' := [(4, .int 10), (5, .int (0 + ((s_X9_digitHere_r x ft) * 100))), (8, .int (0 + ((s_X9_digitHere_r x ft) * 100))), (7, .int (s_X9_digitHere_r x ft)), (6, .int 0), (0, .ref h), (1, .int 3), (2, .int a2), (3, .int a3)]) hx hb dX9_number_87 hl (by decide) rfl (fun ls hl => ?_)
        refine lv_aload_n hx hb dX9_number_89 rfl (lv_at hl 5 rfl) ?_
        refine lv_dup hx hb dX9_number_90 rfl ?_
        refine va_get (D := G) (ci := 7) (v := .int (x 2)) (C := RX9) (T := TX9) (N := 12) hx hb hts i_X9 hown hK hP 0 rfl rfl 2 (by decide) (hts (.fieldLink RX9 19 "RelayTuner$Text" "at" "I") (by decide +kernel)) (fun _ h9 => h9) rfl dX9_number_91 ?_
        refine lv_iconst (v := 1) hx hb dX9_number_94 (by decide) ?_
        refine lv_iadd hx hb dX9_number_95 ?_
        refine va_put (D := G) (ci := 7) (v := .int ((x 2) + 1)) (ty := .int) (C := RX9) (T := TX9) (N := 12) hx hb hts i_X9 tyX9 tyX9_ok nmX9 hown hK hP hD hS 0 rfl rfl 2 (by decide) (hts (.fieldLink RX9 19 "RelayTuner$Text" "at" "I") (by decide +kernel)) (fun _ h9 => h9) rfl (by decide +kernel) rfl rfl (Nat.le_of_ble_eq_true rfl) dX9_number_96 (fun H locs hP hD hS => ?_)
        have hP : va_P G vwCl [kX9 h q (upd x 2 ((x 2) + 1)), aC y q 60 ft] H := hP
        have hD : va_D A [kX9 h q (upd x 2 ((x 2) + 1)), aC y q 60 ft] := hD
        refine lv_iinc (v := 1) (lv' := [(6, .int 1), (4, .int 10), (5, .int (0 + ((s_X9_digitHere_r x ft) * 100))), (8, .int (0 + ((s_X9_digitHere_r x ft) * 100))), (7, .int (s_X9_digitHere_r x ft)), (0, .ref h), (1, .int 3), (2, .int a2), (3, .int a3)]) hx hb dX9_number_99 hl (k := 4) rfl (by first | rfl | decide) (by decide) rfl (fun ls hl => ?_)
        refine lv_goto (tgt := 31) hx hb dX9_number_102 (by decide) ?_
        refine lv_iload hx hb dX9_number_31 (lv_at hl 0 rfl) ?_
        refine lv_iload_n hx hb dX9_number_33 rfl (lv_at hl 6 rfl) ?_
        refine lv_icmp_ge (tgt := 105) hx hb dX9_number_34 (by decide) (fun c_8 => ?_) (fun c_8 => ?_)
        · exact (by first | exact absurd c_8 (by decide : ¬ ((3 : Int32) ≤ 1)) | exact absurd (by decide : ¬ ((3 : Int32) ≤ 1)) c_8)
        refine lv_aload_n hx hb dX9_number_37 rfl (lv_at hl 5 rfl) ?_
        refine cl_Ri (va_runV (As := []) (rest := []) ⟨hx, hb, hml, hown, hts⟩ (c_X9_digitHere l G y h q (upd x 2 ((x 2) + 1)) ft) (cwV 0 hts gX9_number_X9_digitHere rfl rfl rfl (by decide +kernel) ⟨Nat.le_of_ble_eq_true rfl, Nat.le_of_ble_eq_true rfl⟩) (PR_V (hP.sub (ws' := [kX9 h q (upd x 2 ((x 2) + 1)), aC y q 60 ft]) [0, 1] rfl) hK hN (ci := 7) (q0 := 0) rfl rfl) rfl rfl hl.1 rfl (lv_room (Nat.le_of_ble_eq_true rfl)) dX9_number_38 ⟨Nat.le_of_ble_eq_true rfl, Nat.le_of_ble_eq_true rfl⟩) ?_
        refine lv_istore (lv' := [(7, .int (s_X9_digitHere_r (upd x 2 ((x 2) + 1)) ft)), (6, .int 1), (4, .int 10), (5, .int (0 + ((s_X9_digitHere_r x ft) * 100))), (8, .int (0 + ((s_X9_digitHere_r x ft) * 100))), (0, .ref h), (1, .int 3), (2, .int a2), (3, .int a3)]) hx hb dX9_number_41 hl (by decide) rfl (fun ls hl => ?_)
        refine lv_iload hx hb dX9_number_43 (lv_at hl 3 rfl) ?_
        refine lv_iload hx hb dX9_number_45 (lv_at hl 0 rfl) ?_
        refine lv_iload hx hb dX9_number_47 (lv_at hl 2 rfl) ?_
        refine lv_imul hx hb dX9_number_49 ?_
        refine lv_iadd hx hb dX9_number_50 ?_
        refine lv_istore (lv' := [(8, .int ((0 + ((s_X9_digitHere_r x ft) * 100)) + ((s_X9_digitHere_r (upd x 2 ((x 2) + 1)) ft) * 10))), (7, .int (s_X9_digitHere_r (upd x 2 ((x 2) + 1)) ft)), (6, .int 1), (4, .int 10), (5, .int (0 + ((s_X9_digitHere_r x ft) * 100))), (0, .ref h), (1, .int 3), (2, .int a2), (3, .int a3)]) hx hb dX9_number_51 hl (by decide) rfl (fun ls hl => ?_)
        refine lv_iload hx hb dX9_number_53 (lv_at hl 1 rfl) ?_
        refine lv_iconst (v := (-1)) hx hb dX9_number_55 (by decide) ?_
        refine lv_icmp_eq (tgt := 76) hx hb dX9_number_56 (by decide) (fun c_9 => ?_) (fun c_9 => ?_)
        · refine lv_iconst (v := (-1)) hx hb dX9_number_76 (by decide) ?_
          exact W.iret hx hb hr (end_Hi () hP hD hS (by unfold s_X9_number_3_r; exact ((if_neg c_5).trans ((if_neg c_6).trans ((if_pos c_7).trans (if_pos c_9)))).symm) (congrArg (fun (z0 : Nat → Int32) => [kX9 h q z0, aC y q 60 ft]) (by unfold s_X9_number_3_w0; exact ((if_neg c_5).trans ((if_neg c_6).trans ((if_pos c_7).trans (if_pos c_9)))).symm))) hS.2.2 dX9_number_77
        · refine lv_iload hx hb dX9_number_59 (lv_at hl 0 rfl) ?_
          refine lv_iload_n hx hb dX9_number_61 rfl (lv_at hl 8 rfl) ?_
          refine lv_icmp_gt (tgt := 76) hx hb dX9_number_62 (by decide) (fun c_10 => ?_) (fun c_10 => ?_)
          · refine lv_iconst (v := (-1)) hx hb dX9_number_76 (by decide) ?_
            exact W.iret hx hb hr (end_Hi () hP hD hS (by unfold s_X9_number_3_r; exact ((if_neg c_5).trans ((if_neg c_6).trans ((if_pos c_7).trans ((if_neg c_9).trans (if_pos c_10))))).symm) (congrArg (fun (z0 : Nat → Int32) => [kX9 h q z0, aC y q 60 ft]) (by unfold s_X9_number_3_w0; exact ((if_neg c_5).trans ((if_neg c_6).trans ((if_pos c_7).trans ((if_neg c_9).trans (if_pos c_10))))).symm))) hS.2.2 dX9_number_77
          · refine lv_iload hx hb dX9_number_65 (lv_at hl 0 rfl) ?_
            refine lv_iload hx hb dX9_number_67 (lv_at hl 3 rfl) ?_
            refine lv_iadd hx hb dX9_number_69 ?_
            refine lv_iconst (v := 1) hx hb dX9_number_70 (by decide) ?_
            refine lv_isub hx hb dX9_number_71 ?_
            refine lv_iload_n hx hb dX9_number_72 rfl (lv_at hl 7 rfl) ?_
            refine lv_icmp_ge (tgt := 78) hx hb dX9_number_73 (by decide) (fun c_11 => ?_) (fun c_11 => ?_)
            · refine lv_iload hx hb dX9_number_78 (lv_at hl 0 rfl) ?_
              refine lv_istore (lv' := [(5, .int ((0 + ((s_X9_digitHere_r x ft) * 100)) + ((s_X9_digitHere_r (upd x 2 ((x 2) + 1)) ft) * 10))), (8, .int ((0 + ((s_X9_digitHere_r x ft) * 100)) + ((s_X9_digitHere_r (upd x 2 ((x 2) + 1)) ft) * 10))), (7, .int (s_X9_digitHere_r (upd x 2 ((x 2) + 1)) ft)), (6, .int 1), (4, .int 10), (0, .ref h), (1, .int 3), (2, .int a2), (3, .int a3)]) hx hb dX9_number_80 hl (by decide) rfl (fun ls hl => ?_)
              refine lv_iload hx hb dX9_number_82 (lv_at hl 4 rfl) ?_
              refine lv_bipush (v := 10) hx hb dX9_number_84 (by decide) ?_
              refine lv_idiv hx hb dX9_number_86 (by decide) ?_
              refine rw_i (x' := 1) (by decide) ?_
              refine lv_istore (lv' := [(4, .int 1), (5, .int ((0 + ((s_X9_digitHere_r x ft) * 100)) + ((s_X9_digitHere_r (upd x 2 ((x 2) + 1)) ft) * 10))), (8, .int ((0 + ((s_X9_digitHere_r x ft) * 100)) + ((s_X9_digitHere_r (upd x 2 ((x 2) + 1)) ft) * 10))), (7, .int (s_X9_digitHere_r (upd x 2 ((x 2) + 1)) ft)), (6, .int 1), (0, .ref h), (1, .int 3), (2, .int a2), (3, .int a3)]) hx hb dX9_number_87 hl (by decide) rfl (fun ls hl => ?_)
              refine lv_aload_n hx hb dX9_number_89 rfl (lv_at hl 5 rfl) ?_
              refine lv_dup hx hb dX9_number_90 rfl ?_
              refine va_get (D := G) (ci := 7) (v := .int ((x 2) + 1)) (C := RX9) (T := TX9) (N := 12) hx hb hts i_X9 hown hK hP 0 rfl rfl 2 (by decide) (hts (.fieldLink RX9 19 "RelayTuner$Text" "at" "I") (by decide +kernel)) (fun _ h9 => h9) rfl dX9_number_91 ?_
              refine lv_iconst (v := 1) hx hb dX9_number_94 (by decide) ?_
              refine lv_iadd hx hb dX9_number_95 ?_
              refine va_put (D := G) (ci := 7) (v := .int (((x 2) + 1) + 1)) (ty := .int) (C := RX9) (T := TX9) (N := 12) hx hb hts i_X9 tyX9 tyX9_ok nmX9 hown hK hP hD hS 0 rfl rfl 2 (by decide) (hts (.fieldLink RX9 19 "RelayTuner$Text" "at" "I") (by decide +kernel)) (fun _ h9 => h9) rfl (by decide +kernel) rfl rfl (Nat.le_of_ble_eq_true rfl) dX9_number_96 (fun H locs hP hD hS => ?_)
              have hP : va_P G vwCl [kX9 h q (upd (upd x 2 ((x 2) + 1)) 2 (((x 2) + 1) + 1)), aC y q 60 ft] H := hP
              have hD : va_D A [kX9 h q (upd (upd x 2 ((x 2) + 1)) 2 (((x 2) + 1) + 1)), aC y q 60 ft] := hD
              refine lv_iinc (v := 2) (lv' := [(6, .int 2), (4, .int 1), (5, .int ((0 + ((s_X9_digitHere_r x ft) * 100)) + ((s_X9_digitHere_r (upd x 2 ((x 2) + 1)) ft) * 10))), (8, .int ((0 + ((s_X9_digitHere_r x ft) * 100)) + ((s_X9_digitHere_r (upd x 2 ((x 2) + 1)) ft) * 10))), (7, .int (s_X9_digitHere_r (upd x 2 ((x 2) + 1)) ft)), (0, .ref h), (1, .int 3), (2, .int a2), (3, .int a3)]) hx hb dX9_number_99 hl (k := 4) rfl (by first | rfl | decide) (by decide) rfl (fun ls hl => ?_)
              refine lv_goto (tgt := 31) hx hb dX9_number_102 (by decide) ?_
              refine lv_iload hx hb dX9_number_31 (lv_at hl 0 rfl) ?_
              refine lv_iload_n hx hb dX9_number_33 rfl (lv_at hl 6 rfl) ?_
              refine lv_icmp_ge (tgt := 105) hx hb dX9_number_34 (by decide) (fun c_12 => ?_) (fun c_12 => ?_)
              · exact (by first | exact absurd c_12 (by decide : ¬ ((3 : Int32) ≤ 2)) | exact absurd (by decide : ¬ ((3 : Int32) ≤ 2)) c_12)
              refine lv_aload_n hx hb dX9_number_37 rfl (lv_at hl 5 rfl) ?_
              refine cl_Ri (va_runV (As := []) (rest := []) ⟨hx, hb, hml, hown, hts⟩ (c_X9_digitHere l G y h q (upd (upd x 2 ((x 2) + 1)) 2 (((x 2) + 1) + 1)) ft) (cwV 0 hts gX9_number_X9_digitHere rfl rfl rfl (by decide +kernel) ⟨Nat.le_of_ble_eq_true rfl, Nat.le_of_ble_eq_true rfl⟩) (PR_V (hP.sub (ws' := [kX9 h q (upd (upd x 2 ((x 2) + 1)) 2 (((x 2) + 1) + 1)), aC y q 60 ft]) [0, 1] rfl) hK hN (ci := 7) (q0 := 0) rfl rfl) rfl rfl hl.1 rfl (lv_room (Nat.le_of_ble_eq_true rfl)) dX9_number_38 ⟨Nat.le_of_ble_eq_true rfl, Nat.le_of_ble_eq_true rfl⟩) ?_
              refine lv_istore (lv' := [(7, .int (s_X9_digitHere_r (upd (upd x 2 ((x 2) + 1)) 2 (((x 2) + 1) + 1)) ft)), (6, .int 2), (4, .int 1), (5, .int ((0 + ((s_X9_digitHere_r x ft) * 100)) + ((s_X9_digitHere_r (upd x 2 ((x 2) + 1)) ft) * 10))), (8, .int ((0 + ((s_X9_digitHere_r x ft) * 100)) + ((s_X9_digitHere_r (upd x 2 ((x 2) + 1)) ft) * 10))), (0, .ref h), (1, .int 3), (2, .int a2), (3, .int a3)]) hx hb dX9_number_41 hl (by decide) rfl (fun ls hl => ?_)
              refine lv_iload hx hb dX9_number_43 (lv_at hl 3 rfl) ?_
              refine lv_iload hx hb dX9_number_45 (lv_at hl 0 rfl) ?_
              refine lv_iload hx hb dX9_number_47 (lv_at hl 2 rfl) ?_
              refine lv_imul hx hb dX9_number_49 ?_
              refine lv_iadd hx hb dX9_number_50 ?_
              refine lv_istore (lv' := [(8, .int (((0 + ((s_X9_digitHere_r x ft) * 100)) + ((s_X9_digitHere_r (upd x 2 ((x 2) + 1)) ft) * 10)) + ((s_X9_digitHere_r (upd (upd x 2 ((x 2) + 1)) 2 (((x 2) + 1) + 1)) ft) * 1))), (7, .int (s_X9_digitHere_r (upd (upd x 2 ((x 2) + 1)) 2 (((x 2) + 1) + 1)) ft)), (6, .int 2), (4, .int 1), (5, .int ((0 + ((s_X9_digitHere_r x ft) * 100)) + ((s_X9_digitHere_r (upd x 2 ((x 2) + 1)) ft) * 10))), (0, .ref h), (1, .int 3), (2, .int a2), (3, .int a3)]) hx hb dX9_number_51 hl (by decide) rfl (fun ls hl => ?_)
              refine lv_iload hx hb dX9_number_53 (lv_at hl 1 rfl) ?_
              refine lv_iconst (v := (-1)) hx hb dX9_number_55 (by decide) ?_
              refine lv_icmp_eq (tgt := 76) hx hb dX9_number_56 (by decide) (fun c_13 => ?_) (fun c_13 => ?_)
              · refine lv_iconst (v := (-1)) hx hb dX9_number_76 (by decide) ?_
                exact W.iret hx hb hr (end_Hi () hP hD hS (by unfold s_X9_number_3_r; exact ((if_neg c_5).trans ((if_neg c_6).trans ((if_pos c_7).trans ((if_neg c_9).trans ((if_neg c_10).trans ((if_pos c_11).trans (if_pos c_13))))))).symm) (congrArg (fun (z0 : Nat → Int32) => [kX9 h q z0, aC y q 60 ft]) (by unfold s_X9_number_3_w0; exact ((if_neg c_5).trans ((if_neg c_6).trans ((if_pos c_7).trans ((if_neg c_9).trans ((if_neg c_10).trans ((if_pos c_11).trans (if_pos c_13))))))).symm))) hS.2.2 dX9_number_77
              · refine lv_iload hx hb dX9_number_59 (lv_at hl 0 rfl) ?_
                refine lv_iload_n hx hb dX9_number_61 rfl (lv_at hl 8 rfl) ?_
                refine lv_icmp_gt (tgt := 76) hx hb dX9_number_62 (by decide) (fun c_14 => ?_) (fun c_14 => ?_)
                · refine lv_iconst (v := (-1)) hx hb dX9_number_76 (by decide) ?_
                  exact W.iret hx hb hr (end_Hi () hP hD hS (by unfold s_X9_number_3_r; exact ((if_neg c_5).trans ((if_neg c_6).trans ((if_pos c_7).trans ((if_neg c_9).trans ((if_neg c_10).trans ((if_pos c_11).trans ((if_neg c_13).trans (if_pos c_14)))))))).symm) (congrArg (fun (z0 : Nat → Int32) => [kX9 h q z0, aC y q 60 ft]) (by unfold s_X9_number_3_w0; exact ((if_neg c_5).trans ((if_neg c_6).trans ((if_pos c_7).trans ((if_neg c_9).trans ((if_neg c_10).trans ((if_pos c_11).trans ((if_neg c_13).trans (if_pos c_14)))))))).symm))) hS.2.2 dX9_number_77
                · refine lv_iload hx hb dX9_number_65 (lv_at hl 0 rfl) ?_
                  refine lv_iload hx hb dX9_number_67 (lv_at hl 3 rfl) ?_
                  refine lv_iadd hx hb dX9_number_69 ?_
                  refine lv_iconst (v := 1) hx hb dX9_number_70 (by decide) ?_
                  refine lv_isub hx hb dX9_number_71 ?_
                  refine lv_iload_n hx hb dX9_number_72 rfl (lv_at hl 7 rfl) ?_
                  refine lv_icmp_ge (tgt := 78) hx hb dX9_number_73 (by decide) (fun c_15 => ?_) (fun c_15 => ?_)
                  · refine lv_iload hx hb dX9_number_78 (lv_at hl 0 rfl) ?_
                    refine lv_istore (lv' := [(5, .int (((0 + ((s_X9_digitHere_r x ft) * 100)) + ((s_X9_digitHere_r (upd x 2 ((x 2) + 1)) ft) * 10)) + ((s_X9_digitHere_r (upd (upd x 2 ((x 2) + 1)) 2 (((x 2) + 1) + 1)) ft) * 1))), (8, .int (((0 + ((s_X9_digitHere_r x ft) * 100)) + ((s_X9_digitHere_r (upd x 2 ((x 2) + 1)) ft) * 10)) + ((s_X9_digitHere_r (upd (upd x 2 ((x 2) + 1)) 2 (((x 2) + 1) + 1)) ft) * 1))), (7, .int (s_X9_digitHere_r (upd (upd x 2 ((x 2) + 1)) 2 (((x 2) + 1) + 1)) ft)), (6, .int 2), (4, .int 1), (0, .ref h), (1, .int 3), (2, .int a2), (3, .int a3)]) hx hb dX9_number_80 hl (by decide) rfl (fun ls hl => ?_)
                    refine lv_iload hx hb dX9_number_82 (lv_at hl 4 rfl) ?_
                    refine lv_bipush (v := 10) hx hb dX9_number_84 (by decide) ?_
                    refine lv_idiv hx hb dX9_number_86 (by decide) ?_
                    refine rw_i (x' := 0) (by decide) ?_
                    refine lv_istore (lv' := [(4, .int 0), (5, .int (((0 + ((s_X9_digitHere_r x ft) * 100)) + ((s_X9_digitHere_r (upd x 2 ((x 2) + 1)) ft) * 10)) + ((s_X9_digitHere_r (upd (upd x 2 ((x 2) + 1)) 2 (((x 2) + 1) + 1)) ft) * 1))), (8, .int (((0 + ((s_X9_digitHere_r x ft) * 100)) + ((s_X9_digitHere_r (upd x 2 ((x 2) + 1)) ft) * 10)) + ((s_X9_digitHere_r (upd (upd x 2 ((x 2) + 1)) 2 (((x 2) + 1) + 1)) ft) * 1))), (7, .int (s_X9_digitHere_r (upd (upd x 2 ((x 2) + 1)) 2 (((x 2) + 1) + 1)) ft)), (6, .int 2), (0, .ref h), (1, .int 3), (2, .int a2), (3, .int a3)]) hx hb dX9_number_87 hl (by decide) rfl (fun ls hl => ?_)
                    refine lv_aload_n hx hb dX9_number_89 rfl (lv_at hl 5 rfl) ?_
                    refine lv_dup hx hb dX9_number_90 rfl ?_
                    refine va_get (D := G) (ci := 7) (v := .int (((x 2) + 1) + 1)) (C := RX9) (T := TX9) (N := 12) hx hb hts i_X9 hown hK hP 0 rfl rfl 2 (by decide) (hts (.fieldLink RX9 19 "RelayTuner$Text" "at" "I") (by decide +kernel)) (fun _ h9 => h9) rfl dX9_number_91 ?_
                    refine lv_iconst (v := 1) hx hb dX9_number_94 (by decide) ?_
                    refine lv_iadd hx hb dX9_number_95 ?_
                    refine va_put (D := G) (ci := 7) (v := .int ((((x 2) + 1) + 1) + 1)) (ty := .int) (C := RX9) (T := TX9) (N := 12) hx hb hts i_X9 tyX9 tyX9_ok nmX9 hown hK hP hD hS 0 rfl rfl 2 (by decide) (hts (.fieldLink RX9 19 "RelayTuner$Text" "at" "I") (by decide +kernel)) (fun _ h9 => h9) rfl (by decide +kernel) rfl rfl (Nat.le_of_ble_eq_true rfl) dX9_number_96 (fun H locs hP hD hS => ?_)
                    have hP : va_P G vwCl [kX9 h q (upd (upd (upd x 2 ((x 2) + 1)) 2 (((x 2) + 1) + 1)) 2 ((((x 2) + 1) + 1) + 1)), aC y q 60 ft] H := hP
                    have hD : va_D A [kX9 h q (upd (upd (upd x 2 ((x 2) + 1)) 2 (((x 2) + 1) + 1)) 2 ((((x 2) + 1) + 1) + 1)), aC y q 60 ft] := hD
                    refine lv_iinc (v := 3) (lv' := [(6, .int 3), (4, .int 0), (5, .int (((0 + ((s_X9_digitHere_r x ft) * 100)) + ((s_X9_digitHere_r (upd x 2 ((x 2) + 1)) ft) * 10)) + ((s_X9_digitHere_r (upd (upd x 2 ((x 2) + 1)) 2 (((x 2) + 1) + 1)) ft) * 1))), (8, .int (((0 + ((s_X9_digitHere_r x ft) * 100)) + ((s_X9_digitHere_r (upd x 2 ((x 2) + 1)) ft) * 10)) + ((s_X9_digitHere_r (upd (upd x 2 ((x 2) + 1)) 2 (((x 2) + 1) + 1)) ft) * 1))), (7, .int (s_X9_digitHere_r (upd (upd x 2 ((x 2) + 1)) 2 (((x 2) + 1) + 1)) ft)), (0, .ref h), (1, .int 3), (2, .int a2), (3, .int a3)]) hx hb dX9_number_99 hl (k := 4) rfl (by first | rfl | decide) (by decide) rfl (fun ls hl => ?_)
                    refine lv_goto (tgt := 31) hx hb dX9_number_102 (by decide) ?_
                    refine lv_iload hx hb dX9_number_31 (lv_at hl 0 rfl) ?_
                    refine lv_iload_n hx hb dX9_number_33 rfl (lv_at hl 6 rfl) ?_
                    refine lv_icmp_ge (tgt := 105) hx hb dX9_number_34 (by decide) (fun c_16 => ?_) (fun c_16 => ?_)
                    rotate_left
                    · exact (by first | exact absurd c_16 (by decide : ((3 : Int32) ≤ 3)) | exact absurd (by decide : ((3 : Int32) ≤ 3)) c_16)
                    refine lv_iload hx hb dX9_number_105 (lv_at hl 2 rfl) ?_
                    exact W.iret hx hb hr (end_Hi () hP hD hS (by unfold s_X9_number_3_r; exact ((if_neg c_5).trans ((if_neg c_6).trans ((if_pos c_7).trans ((if_neg c_9).trans ((if_neg c_10).trans ((if_pos c_11).trans ((if_neg c_13).trans ((if_neg c_14).trans (if_pos c_15))))))))).symm) (congrArg (fun (z0 : Nat → Int32) => [kX9 h q z0, aC y q 60 ft]) (by unfold s_X9_number_3_w0; exact ((if_neg c_5).trans ((if_neg c_6).trans ((if_pos c_7).trans ((if_neg c_9).trans ((if_neg c_10).trans ((if_pos c_11).trans ((if_neg c_13).trans ((if_neg c_14).trans (if_pos c_15))))))))).symm))) hS.2.2 dX9_number_107
                  · refine lv_iconst (v := (-1)) hx hb dX9_number_76 (by decide) ?_
                    exact W.iret hx hb hr (end_Hi () hP hD hS (by unfold s_X9_number_3_r; exact ((if_neg c_5).trans ((if_neg c_6).trans ((if_pos c_7).trans ((if_neg c_9).trans ((if_neg c_10).trans ((if_pos c_11).trans ((if_neg c_13).trans ((if_neg c_14).trans (if_neg c_15))))))))).symm) (congrArg (fun (z0 : Nat → Int32) => [kX9 h q z0, aC y q 60 ft]) (by unfold s_X9_number_3_w0; exact ((if_neg c_5).trans ((if_neg c_6).trans ((if_pos c_7).trans ((if_neg c_9).trans ((if_neg c_10).trans ((if_pos c_11).trans ((if_neg c_13).trans ((if_neg c_14).trans (if_neg c_15))))))))).symm))) hS.2.2 dX9_number_77
            · refine lv_iconst (v := (-1)) hx hb dX9_number_76 (by decide) ?_
              exact W.iret hx hb hr (end_Hi () hP hD hS (by unfold s_X9_number_3_r; exact ((if_neg c_5).trans ((if_neg c_6).trans ((if_pos c_7).trans ((if_neg c_9).trans ((if_neg c_10).trans (if_neg c_11)))))).symm) (congrArg (fun (z0 : Nat → Int32) => [kX9 h q z0, aC y q 60 ft]) (by unfold s_X9_number_3_w0; exact ((if_neg c_5).trans ((if_neg c_6).trans ((if_pos c_7).trans ((if_neg c_9).trans ((if_neg c_10).trans (if_neg c_11)))))).symm))) hS.2.2 dX9_number_77
      · refine lv_iconst (v := (-1)) hx hb dX9_number_76 (by decide) ?_
        exact W.iret hx hb hr (end_Hi () hP hD hS (by unfold s_X9_number_3_r; exact ((if_neg c_5).trans ((if_neg c_6).trans (if_neg c_7))).symm) (congrArg (fun (z0 : Nat → Int32) => [kX9 h q z0, aC y q 60 ft]) (by unfold s_X9_number_3_w0; exact ((if_neg c_5).trans ((if_neg c_6).trans (if_neg c_7))).symm))) hS.2.2 dX9_number_77

def s_X9_labelled_1_r (a1 : Int32) (a3 : Int32) (a4 : Int32) (x : Nat → Int32) (ft : Nat → Int32) : Int32 := (if (s_X9_isHere_r a1 x ft) = 0 then (-1) else (s_X9_number_1_r a3 a4 (upd x 2 ((x 2) + 1)) ft))
def s_X9_labelled_1_w0 (a1 : Int32) (a3 : Int32) (a4 : Int32) (x : Nat → Int32) (ft : Nat → Int32) : Nat → Int32 := (if (s_X9_isHere_r a1 x ft) = 0 then x else (s_X9_number_1_w0 a3 a4 (upd x 2 ((x 2) + 1)) ft))
abbrev rmX9_labelled_1 : Room := ({ frames := 2, cells := 0, slots := 0, locals := 49 } : Room)
set_option maxHeartbeats 4000000 in
set_option maxRecDepth 100000 in
theorem c_X9_labelled_1 (l : Launch) (G : va_G) (y : Nat → ClassId) (h : Nat) (a1 : Int32) (a3 : Int32) (a4 : Int32) (q : Nat) (x : Nat → Int32) (ft : Nat → Int32) (sz : Nat) : Met l yX9_labelled wsX9_labelled rmX9_labelled_1 (PH G y [.ref h, .int a1, .int 1, .int a3, .int a4] [kX9 h q x, aC y q 60 ft] sz) (QHi G (s_X9_labelled_1_r a1 a3 a4 x ft) (fun _ : Unit => [kX9 h q (s_X9_labelled_1_w0 a1 a3 a4 x ft), aC y q 60 ft]) (va_A [kX9 h q x, aC y q 60 ft] sz)) 0 0 (va_A [kX9 h q x, aC y q 60 ft] sz) := by
  refine Met.ofW (cc := cX9_labelled) (maxL := 5) (ret := (some .int)) (by decide) rfl ?_
  intro p e s m args below meth c s₁ B hml hv
  obtain ⟨rfl, hsz, hP, ⟨hK, hN⟩, hD0⟩ := hv
  have hx := B.exec
  have hb := B.bytes
  have hr := B.returns
  have hts := atoms_spec (ws := wsX9_labelled) B.pre
  have hown : s.vm.findClass RX9 = some m.cls := findClass_of_methodNamed B.named
  have hlocks := B.notSynchronized
  have i_X9 : ∀ w ∈ u_ws RX9 TX9 12, w ∈ wsX9_labelled := by decide +kernel
  subst hsz
  have hD := hD0.self (sz := s.heap.size)
  generalize hAe : va_A [kX9 h q x, aC y q 60 ft] s.heap.size = A at hD ⊢
  have hA : ∀ q : Nat, s.heap.size ≤ q → A q := fun q h => by rw [← hAe]; exact Or.inr h
  have hS : va_S A s.heap s.heap [] := va_S.rf
  have hP : va_P G vwCl [kX9 h q x, aC y q 60 ft] s.heap := hP
  have hl := lv_entry ([.ref h, .int a1, .int 1, .int a3, .int a4]) (n := 5) (Nat.le_of_ble_eq_true rfl)
  rw [lg_entry_eq]
  generalize (lg_sl ([.ref h, .int a1, .int 1, .int a3, .int a4]) ++ List.replicate (5 - (lg_sl ([.ref h, .int a1, .int 1, .int a3, .int a4])).length) Slot.unset).toArray = ls at hl ⊢
  have hl : lv_has ls 5 [(0, .ref h), (1, .int a1), (2, .int 1), (3, .int a3), (4, .int a4)] := hl
  refine lv_aload_n hx hb dX9_labelled_0 rfl (lv_at hl 0 rfl) ?_
  refine lv_iload_n hx hb dX9_labelled_1 rfl (lv_at hl 1 rfl) ?_
  refine cl_Ri (va_runV (As := [.int a1]) (rest := []) ⟨hx, hb, hml, hown, hts⟩ (c_X9_isHere l G y h a1 q x ft) (cwV 1 hts gX9_labelled_X9_isHere rfl rfl rfl (by decide +kernel) ⟨Nat.le_of_ble_eq_true rfl, Nat.le_of_ble_eq_true rfl⟩) (PR_V (hP.sub (ws' := [kX9 h q x, aC y q 60 ft]) [0, 1] rfl) hK hN (ci := 7) (q0 := 0) rfl rfl) rfl rfl hl.1 rfl (lv_room (Nat.le_of_ble_eq_true rfl)) dX9_labelled_2 ⟨Nat.le_of_ble_eq_true rfl, Nat.le_of_ble_eq_true rfl⟩) ?_
  refine lv_if_ne (tgt := 10) hx hb dX9_labelled_5 (by decide) (fun c_1 => ?_) (fun c_1 => ?_)
  · refine lv_aload_n hx hb dX9_labelled_10 rfl (lv_at hl 0 rfl) ?_
    refine lv_dup hx hb dX9_labelled_11 rfl ?_
    refine va_get (D := G) (ci := 7) (v := .int (x 2)) (C := RX9) (T := TX9) (N := 12) hx hb hts i_X9 hown hK hP 0 rfl rfl 2 (by decide) (hts (.fieldLink RX9 19 "RelayTuner$Text" "at" "I") (by decide +kernel)) (fun _ h9 => h9) rfl dX9_labelled_12 ?_
    refine lv_iconst (v := 1) hx hb dX9_labelled_15 (by decide) ?_
    refine lv_iadd hx hb dX9_labelled_16 ?_
    refine va_put (D := G) (ci := 7) (v := .int ((x 2) + 1)) (ty := .int) (C := RX9) (T := TX9) (N := 12) hx hb hts i_X9 tyX9 tyX9_ok nmX9 hown hK hP hD hS 0 rfl rfl 2 (by decide) (hts (.fieldLink RX9 19 "RelayTuner$Text" "at" "I") (by decide +kernel)) (fun _ h9 => h9) rfl (by decide +kernel) rfl rfl (Nat.le_of_ble_eq_true rfl) dX9_labelled_17 (fun H locs hP hD hS => ?_)
    have hP : va_P G vwCl [kX9 h q (upd x 2 ((x 2) + 1)), aC y q 60 ft] H := hP
    have hD : va_D A [kX9 h q (upd x 2 ((x 2) + 1)), aC y q 60 ft] := hD
    refine lv_aload_n hx hb dX9_labelled_20 rfl (lv_at hl 0 rfl) ?_
    refine lv_iload_n hx hb dX9_labelled_21 rfl (lv_at hl 2 rfl) ?_
    refine lv_iload_n hx hb dX9_labelled_22 rfl (lv_at hl 3 rfl) ?_
    refine lv_iload hx hb dX9_labelled_23 (lv_at hl 4 rfl) ?_
    refine cl_Hi (wr := []) (fun _ : Unit => [kX9 h q (s_X9_number_1_w0 a3 a4 (upd x 2 ((x 2) + 1)) ft), aC y q 60 ft]) [0, 1] [] [0, 1] (va_runV (As := [.int 1, .int a3, .int a4]) (rest := []) ⟨hx, hb, hml, hown, hts⟩ (c_X9_number_1 l G y h a3 a4 q (upd x 2 ((x 2) + 1)) ft H.size) (cwV 3 hts gX9_labelled_X9_number rfl rfl rfl (by decide +kernel) ⟨Nat.le_of_ble_eq_true rfl, Nat.le_of_ble_eq_true rfl⟩) (PH_V (hP.sub (ws' := [kX9 h q (upd x 2 ((x 2) + 1)), aC y q 60 ft]) [0, 1] rfl) hK hN (hD.sub (ws' := [kX9 h q (upd x 2 ((x 2) + 1)), aC y q 60 ft]) [0, 1] (by decide) rfl) (ci := 7) (q0 := 0) rfl rfl) rfl rfl hl.1 rfl (lv_room (Nat.le_of_ble_eq_true rfl)) dX9_labelled_25 ⟨Nat.le_of_ble_eq_true rfl, Nat.le_of_ble_eq_true rfl⟩) hP hD hS hA rfl rfl rfl (by decide) rfl (fun _ => rfl) (fun _ H locs hP hD hS => ?_)
    have hP : va_P G vwCl [kX9 h q (s_X9_number_1_w0 a3 a4 (upd x 2 ((x 2) + 1)) ft), aC y q 60 ft] H := hP
    have hD : va_D A [kX9 h q (s_X9_number_1_w0 a3 a4 (upd x 2 ((x 2) + 1)) ft), aC y q 60 ft] := hD
    exact W.iret hx hb hr (end_Hi () hP hD hS (by unfold s_X9_labelled_1_r; exact (if_neg c_1).symm) (congrArg (fun (z0 : Nat → Int32) => [kX9 h q z0, aC y q 60 ft]) (by unfold s_X9_labelled_1_w0; exact (if_neg c_1).symm))) hS.2.2 dX9_labelled_28
  · refine lv_iconst (v := (-1)) hx hb dX9_labelled_8 (by decide) ?_
    exact W.iret hx hb hr (end_Hi () hP hD hS (by unfold s_X9_labelled_1_r; exact (if_pos c_1).symm) (congrArg (fun (z0 : Nat → Int32) => [kX9 h q z0, aC y q 60 ft]) (by unfold s_X9_labelled_1_w0; exact (if_pos c_1).symm))) hS.2.2 dX9_labelled_9

def s_X9_labelled_2_r (a1 : Int32) (a3 : Int32) (a4 : Int32) (x : Nat → Int32) (ft : Nat → Int32) : Int32 := (if (s_X9_isHere_r a1 x ft) = 0 then (-1) else (s_X9_number_2_r a3 a4 (upd x 2 ((x 2) + 1)) ft))
def s_X9_labelled_2_w0 (a1 : Int32) (a3 : Int32) (a4 : Int32) (x : Nat → Int32) (ft : Nat → Int32) : Nat → Int32 := (if (s_X9_isHere_r a1 x ft) = 0 then x else (s_X9_number_2_w0 a3 a4 (upd x 2 ((x 2) + 1)) ft))
abbrev rmX9_labelled_2 : Room := ({ frames := 2, cells := 0, slots := 0, locals := 49 } : Room)
set_option maxHeartbeats 4000000 in
set_option maxRecDepth 100000 in
theorem c_X9_labelled_2 (l : Launch) (G : va_G) (y : Nat → ClassId) (h : Nat) (a1 : Int32) (a3 : Int32) (a4 : Int32) (q : Nat) (x : Nat → Int32) (ft : Nat → Int32) (sz : Nat) : Met l yX9_labelled wsX9_labelled rmX9_labelled_2 (PH G y [.ref h, .int a1, .int 2, .int a3, .int a4] [kX9 h q x, aC y q 60 ft] sz) (QHi G (s_X9_labelled_2_r a1 a3 a4 x ft) (fun _ : Unit => [kX9 h q (s_X9_labelled_2_w0 a1 a3 a4 x ft), aC y q 60 ft]) (va_A [kX9 h q x, aC y q 60 ft] sz)) 0 0 (va_A [kX9 h q x, aC y q 60 ft] sz) := by
  refine Met.ofW (cc := cX9_labelled) (maxL := 5) (ret := (some .int)) (by decide) rfl ?_
  intro p e s m args below meth c s₁ B hml hv
  obtain ⟨rfl, hsz, hP, ⟨hK, hN⟩, hD0⟩ := hv
  have hx := B.exec
  have hb := B.bytes
  have hr := B.returns
  have hts := atoms_spec (ws := wsX9_labelled) B.pre
  have hown : s.vm.findClass RX9 = some m.cls := findClass_of_methodNamed B.named
  have hlocks := B.notSynchronized
  have i_X9 : ∀ w ∈ u_ws RX9 TX9 12, w ∈ wsX9_labelled := by decide +kernel
  subst hsz
  have hD := hD0.self (sz := s.heap.size)
  generalize hAe : va_A [kX9 h q x, aC y q 60 ft] s.heap.size = A at hD ⊢
  have hA : ∀ q : Nat, s.heap.size ≤ q → A q := fun q h => by rw [← hAe]; exact Or.inr h
  have hS : va_S A s.heap s.heap [] := va_S.rf
  have hP : va_P G vwCl [kX9 h q x, aC y q 60 ft] s.heap := hP
  have hl := lv_entry ([.ref h, .int a1, .int 2, .int a3, .int a4]) (n := 5) (Nat.le_of_ble_eq_true rfl)
  rw [lg_entry_eq]
  generalize (lg_sl ([.ref h, .int a1, .int 2, .int a3, .int a4]) ++ List.replicate (5 - (lg_sl ([.ref h, .int a1, .int 2, .int a3, .int a4])).length) Slot.unset).toArray = ls at hl ⊢
  have hl : lv_has ls 5 [(0, .ref h), (1, .int a1), (2, .int 2), (3, .int a3), (4, .int a4)] := hl
  refine lv_aload_n hx hb dX9_labelled_0 rfl (lv_at hl 0 rfl) ?_
  refine lv_iload_n hx hb dX9_labelled_1 rfl (lv_at hl 1 rfl) ?_
  refine cl_Ri (va_runV (As := [.int a1]) (rest := []) ⟨hx, hb, hml, hown, hts⟩ (c_X9_isHere l G y h a1 q x ft) (cwV 1 hts gX9_labelled_X9_isHere rfl rfl rfl (by decide +kernel) ⟨Nat.le_of_ble_eq_true rfl, Nat.le_of_ble_eq_true rfl⟩) (PR_V (hP.sub (ws' := [kX9 h q x, aC y q 60 ft]) [0, 1] rfl) hK hN (ci := 7) (q0 := 0) rfl rfl) rfl rfl hl.1 rfl (lv_room (Nat.le_of_ble_eq_true rfl)) dX9_labelled_2 ⟨Nat.le_of_ble_eq_true rfl, Nat.le_of_ble_eq_true rfl⟩) ?_
  refine lv_if_ne (tgt := 10) hx hb dX9_labelled_5 (by decide) (fun c_1 => ?_) (fun c_1 => ?_)
  · refine lv_aload_n hx hb dX9_labelled_10 rfl (lv_at hl 0 rfl) ?_
    refine lv_dup hx hb dX9_labelled_11 rfl ?_
    refine va_get (D := G) (ci := 7) (v := .int (x 2)) (C := RX9) (T := TX9) (N := 12) hx hb hts i_X9 hown hK hP 0 rfl rfl 2 (by decide) (hts (.fieldLink RX9 19 "RelayTuner$Text" "at" "I") (by decide +kernel)) (fun _ h9 => h9) rfl dX9_labelled_12 ?_
    refine lv_iconst (v := 1) hx hb dX9_labelled_15 (by decide) ?_
    refine lv_iadd hx hb dX9_labelled_16 ?_
    refine va_put (D := G) (ci := 7) (v := .int ((x 2) + 1)) (ty := .int) (C := RX9) (T := TX9) (N := 12) hx hb hts i_X9 tyX9 tyX9_ok nmX9 hown hK hP hD hS 0 rfl rfl 2 (by decide) (hts (.fieldLink RX9 19 "RelayTuner$Text" "at" "I") (by decide +kernel)) (fun _ h9 => h9) rfl (by decide +kernel) rfl rfl (Nat.le_of_ble_eq_true rfl) dX9_labelled_17 (fun H locs hP hD hS => ?_)
    have hP : va_P G vwCl [kX9 h q (upd x 2 ((x 2) + 1)), aC y q 60 ft] H := hP
    have hD : va_D A [kX9 h q (upd x 2 ((x 2) + 1)), aC y q 60 ft] := hD
    refine lv_aload_n hx hb dX9_labelled_20 rfl (lv_at hl 0 rfl) ?_
    refine lv_iload_n hx hb dX9_labelled_21 rfl (lv_at hl 2 rfl) ?_
    refine lv_iload_n hx hb dX9_labelled_22 rfl (lv_at hl 3 rfl) ?_
    refine lv_iload hx hb dX9_labelled_23 (lv_at hl 4 rfl) ?_
    refine cl_Hi (wr := []) (fun _ : Unit => [kX9 h q (s_X9_number_2_w0 a3 a4 (upd x 2 ((x 2) + 1)) ft), aC y q 60 ft]) [0, 1] [] [0, 1] (va_runV (As := [.int 2, .int a3, .int a4]) (rest := []) ⟨hx, hb, hml, hown, hts⟩ (c_X9_number_2 l G y h a3 a4 q (upd x 2 ((x 2) + 1)) ft H.size) (cwV 3 hts gX9_labelled_X9_number rfl rfl rfl (by decide +kernel) ⟨Nat.le_of_ble_eq_true rfl, Nat.le_of_ble_eq_true rfl⟩) (PH_V (hP.sub (ws' := [kX9 h q (upd x 2 ((x 2) + 1)), aC y q 60 ft]) [0, 1] rfl) hK hN (hD.sub (ws' := [kX9 h q (upd x 2 ((x 2) + 1)), aC y q 60 ft]) [0, 1] (by decide) rfl) (ci := 7) (q0 := 0) rfl rfl) rfl rfl hl.1 rfl (lv_room (Nat.le_of_ble_eq_true rfl)) dX9_labelled_25 ⟨Nat.le_of_ble_eq_true rfl, Nat.le_of_ble_eq_true rfl⟩) hP hD hS hA rfl rfl rfl (by decide) rfl (fun _ => rfl) (fun _ H locs hP hD hS => ?_)
    have hP : va_P G vwCl [kX9 h q (s_X9_number_2_w0 a3 a4 (upd x 2 ((x 2) + 1)) ft), aC y q 60 ft] H := hP
    have hD : va_D A [kX9 h q (s_X9_number_2_w0 a3 a4 (upd x 2 ((x 2) + 1)) ft), aC y q 60 ft] := hD
    exact W.iret hx hb hr (end_Hi () hP hD hS (by unfold s_X9_labelled_2_r; exact (if_neg c_1).symm) (congrArg (fun (z0 : Nat → Int32) => [kX9 h q z0, aC y q 60 ft]) (by unfold s_X9_labelled_2_w0; exact (if_neg c_1).symm))) hS.2.2 dX9_labelled_28
  · refine lv_iconst (v := (-1)) hx hb dX9_labelled_8 (by decide) ?_
    exact W.iret hx hb hr (end_Hi () hP hD hS (by unfold s_X9_labelled_2_r; exact (if_pos c_1).symm) (congrArg (fun (z0 : Nat → Int32) => [kX9 h q z0, aC y q 60 ft]) (by unfold s_X9_labelled_2_w0; exact (if_pos c_1).symm))) hS.2.2 dX9_labelled_9

def s_X9_labelled_3_r (a1 : Int32) (a3 : Int32) (a4 : Int32) (x : Nat → Int32) (ft : Nat → Int32) : Int32 := (if (s_X9_isHere_r a1 x ft) = 0 then (-1) else (s_X9_number_3_r a3 a4 (upd x 2 ((x 2) + 1)) ft))
def s_X9_labelled_3_w0 (a1 : Int32) (a3 : Int32) (a4 : Int32) (x : Nat → Int32) (ft : Nat → Int32) : Nat → Int32 := (if (s_X9_isHere_r a1 x ft) = 0 then x else (s_X9_number_3_w0 a3 a4 (upd x 2 ((x 2) + 1)) ft))
abbrev rmX9_labelled_3 : Room := ({ frames := 2, cells := 0, slots := 0, locals := 49 } : Room)
set_option maxHeartbeats 4000000 in
set_option maxRecDepth 100000 in
theorem c_X9_labelled_3 (l : Launch) (G : va_G) (y : Nat → ClassId) (h : Nat) (a1 : Int32) (a3 : Int32) (a4 : Int32) (q : Nat) (x : Nat → Int32) (ft : Nat → Int32) (sz : Nat) : Met l yX9_labelled wsX9_labelled rmX9_labelled_3 (PH G y [.ref h, .int a1, .int 3, .int a3, .int a4] [kX9 h q x, aC y q 60 ft] sz) (QHi G (s_X9_labelled_3_r a1 a3 a4 x ft) (fun _ : Unit => [kX9 h q (s_X9_labelled_3_w0 a1 a3 a4 x ft), aC y q 60 ft]) (va_A [kX9 h q x, aC y q 60 ft] sz)) 0 0 (va_A [kX9 h q x, aC y q 60 ft] sz) := by
  refine Met.ofW (cc := cX9_labelled) (maxL := 5) (ret := (some .int)) (by decide) rfl ?_
  intro p e s m args below meth c s₁ B hml hv
  obtain ⟨rfl, hsz, hP, ⟨hK, hN⟩, hD0⟩ := hv
  have hx := B.exec
  have hb := B.bytes
  have hr := B.returns
  have hts := atoms_spec (ws := wsX9_labelled) B.pre
  have hown : s.vm.findClass RX9 = some m.cls := findClass_of_methodNamed B.named
  have hlocks := B.notSynchronized
  have i_X9 : ∀ w ∈ u_ws RX9 TX9 12, w ∈ wsX9_labelled := by decide +kernel
  subst hsz
  have hD := hD0.self (sz := s.heap.size)
  generalize hAe : va_A [kX9 h q x, aC y q 60 ft] s.heap.size = A at hD ⊢
  have hA : ∀ q : Nat, s.heap.size ≤ q → A q := fun q h => by rw [← hAe]; exact Or.inr h
  have hS : va_S A s.heap s.heap [] := va_S.rf
  have hP : va_P G vwCl [kX9 h q x, aC y q 60 ft] s.heap := hP
  have hl := lv_entry ([.ref h, .int a1, .int 3, .int a3, .int a4]) (n := 5) (Nat.le_of_ble_eq_true rfl)
  rw [lg_entry_eq]
  generalize (lg_sl ([.ref h, .int a1, .int 3, .int a3, .int a4]) ++ List.replicate (5 - (lg_sl ([.ref h, .int a1, .int 3, .int a3, .int a4])).length) Slot.unset).toArray = ls at hl ⊢
  have hl : lv_has ls 5 [(0, .ref h), (1, .int a1), (2, .int 3), (3, .int a3), (4, .int a4)] := hl
  refine lv_aload_n hx hb dX9_labelled_0 rfl (lv_at hl 0 rfl) ?_
  refine lv_iload_n hx hb dX9_labelled_1 rfl (lv_at hl 1 rfl) ?_
  refine cl_Ri (va_runV (As := [.int a1]) (rest := []) ⟨hx, hb, hml, hown, hts⟩ (c_X9_isHere l G y h a1 q x ft) (cwV 1 hts gX9_labelled_X9_isHere rfl rfl rfl (by decide +kernel) ⟨Nat.le_of_ble_eq_true rfl, Nat.le_of_ble_eq_true rfl⟩) (PR_V (hP.sub (ws' := [kX9 h q x, aC y q 60 ft]) [0, 1] rfl) hK hN (ci := 7) (q0 := 0) rfl rfl) rfl rfl hl.1 rfl (lv_room (Nat.le_of_ble_eq_true rfl)) dX9_labelled_2 ⟨Nat.le_of_ble_eq_true rfl, Nat.le_of_ble_eq_true rfl⟩) ?_
  refine lv_if_ne (tgt := 10) hx hb dX9_labelled_5 (by decide) (fun c_1 => ?_) (fun c_1 => ?_)
  · refine lv_aload_n hx hb dX9_labelled_10 rfl (lv_at hl 0 rfl) ?_
    refine lv_dup hx hb dX9_labelled_11 rfl ?_
    refine va_get (D := G) (ci := 7) (v := .int (x 2)) (C := RX9) (T := TX9) (N := 12) hx hb hts i_X9 hown hK hP 0 rfl rfl 2 (by decide) (hts (.fieldLink RX9 19 "RelayTuner$Text" "at" "I") (by decide +kernel)) (fun _ h9 => h9) rfl dX9_labelled_12 ?_
    refine lv_iconst (v := 1) hx hb dX9_labelled_15 (by decide) ?_
    refine lv_iadd hx hb dX9_labelled_16 ?_
    refine va_put (D := G) (ci := 7) (v := .int ((x 2) + 1)) (ty := .int) (C := RX9) (T := TX9) (N := 12) hx hb hts i_X9 tyX9 tyX9_ok nmX9 hown hK hP hD hS 0 rfl rfl 2 (by decide) (hts (.fieldLink RX9 19 "RelayTuner$Text" "at" "I") (by decide +kernel)) (fun _ h9 => h9) rfl (by decide +kernel) rfl rfl (Nat.le_of_ble_eq_true rfl) dX9_labelled_17 (fun H locs hP hD hS => ?_)
    have hP : va_P G vwCl [kX9 h q (upd x 2 ((x 2) + 1)), aC y q 60 ft] H := hP
    have hD : va_D A [kX9 h q (upd x 2 ((x 2) + 1)), aC y q 60 ft] := hD
    refine lv_aload_n hx hb dX9_labelled_20 rfl (lv_at hl 0 rfl) ?_
    refine lv_iload_n hx hb dX9_labelled_21 rfl (lv_at hl 2 rfl) ?_
    refine lv_iload_n hx hb dX9_labelled_22 rfl (lv_at hl 3 rfl) ?_
    refine lv_iload hx hb dX9_labelled_23 (lv_at hl 4 rfl) ?_
    refine cl_Hi (wr := []) (fun _ : Unit => [kX9 h q (s_X9_number_3_w0 a3 a4 (upd x 2 ((x 2) + 1)) ft), aC y q 60 ft]) [0, 1] [] [0, 1] (va_runV (As := [.int 3, .int a3, .int a4]) (rest := []) ⟨hx, hb, hml, hown, hts⟩ (c_X9_number_3 l G y h a3 a4 q (upd x 2 ((x 2) + 1)) ft H.size) (cwV 3 hts gX9_labelled_X9_number rfl rfl rfl (by decide +kernel) ⟨Nat.le_of_ble_eq_true rfl, Nat.le_of_ble_eq_true rfl⟩) (PH_V (hP.sub (ws' := [kX9 h q (upd x 2 ((x 2) + 1)), aC y q 60 ft]) [0, 1] rfl) hK hN (hD.sub (ws' := [kX9 h q (upd x 2 ((x 2) + 1)), aC y q 60 ft]) [0, 1] (by decide) rfl) (ci := 7) (q0 := 0) rfl rfl) rfl rfl hl.1 rfl (lv_room (Nat.le_of_ble_eq_true rfl)) dX9_labelled_25 ⟨Nat.le_of_ble_eq_true rfl, Nat.le_of_ble_eq_true rfl⟩) hP hD hS hA rfl rfl rfl (by decide) rfl (fun _ => rfl) (fun _ H locs hP hD hS => ?_)
    have hP : va_P G vwCl [kX9 h q (s_X9_number_3_w0 a3 a4 (upd x 2 ((x 2) + 1)) ft), aC y q 60 ft] H := hP
    have hD : va_D A [kX9 h q (s_X9_number_3_w0 a3 a4 (upd x 2 ((x 2) + 1)) ft), aC y q 60 ft] := hD
    exact W.iret hx hb hr (end_Hi () hP hD hS (by unfold s_X9_labelled_3_r; exact (if_neg c_1).symm) (congrArg (fun (z0 : Nat → Int32) => [kX9 h q z0, aC y q 60 ft]) (by unfold s_X9_labelled_3_w0; exact (if_neg c_1).symm))) hS.2.2 dX9_labelled_28
  · refine lv_iconst (v := (-1)) hx hb dX9_labelled_8 (by decide) ?_
    exact W.iret hx hb hr (end_Hi () hP hD hS (by unfold s_X9_labelled_3_r; exact (if_pos c_1).symm) (congrArg (fun (z0 : Nat → Int32) => [kX9 h q z0, aC y q 60 ft]) (by unfold s_X9_labelled_3_w0; exact (if_pos c_1).symm))) hS.2.2 dX9_labelled_9

def s_X9_readAmbient_r (x : Nat → Int32) (ft : Nat → Int32) : Int32 := (if (s_X9_isHere_r 45 (upd x 2 ((x 2) + 1)) ft) = 0 then (if (s_X9_isHere_r 43 (upd x 2 ((x 2) + 1)) ft) = 0 then 0 else (let v_11 : Int32 := (s_X9_number_2_r 0 99 (upd (upd x 2 ((x 2) + 1)) 2 (((x 2) + 1) + 1)) ft); (let v_14 : Int32 := (if v_11 = (-1) then 0 else 1); v_14))) else (let v_3 : Int32 := (s_X9_number_2_r 0 99 (upd (upd x 2 ((x 2) + 1)) 2 (((x 2) + 1) + 1)) ft); (let v_6 : Int32 := (if v_3 = (-1) then 0 else 1); v_6)))
def s_X9_readAmbient_w0 (x : Nat → Int32) (ft : Nat → Int32) : Nat → Int32 := (if (s_X9_isHere_r 45 (upd x 2 ((x 2) + 1)) ft) = 0 then (if (s_X9_isHere_r 43 (upd x 2 ((x 2) + 1)) ft) = 0 then (upd x 2 ((x 2) + 1)) else (let v_10 : Nat → Int32 := (s_X9_number_2_w0 0 99 (upd (upd x 2 ((x 2) + 1)) 2 (((x 2) + 1) + 1)) ft); (let v_11 : Int32 := (s_X9_number_2_r 0 99 (upd (upd x 2 ((x 2) + 1)) 2 (((x 2) + 1) + 1)) ft); (let v_14 : Int32 := (if v_11 = (-1) then 0 else 1); (upd (upd v_10 11 v_11) 10 v_14))))) else (let v_2 : Nat → Int32 := (s_X9_number_2_w0 0 99 (upd (upd x 2 ((x 2) + 1)) 2 (((x 2) + 1) + 1)) ft); (let v_3 : Int32 := (s_X9_number_2_r 0 99 (upd (upd x 2 ((x 2) + 1)) 2 (((x 2) + 1) + 1)) ft); (let v_6 : Int32 := (if v_3 = (-1) then 0 else 1); (upd (upd v_2 11 (-v_3)) 10 v_6)))))
theorem z_X9_readAmbient (x : Nat → Int32) (ft : Nat → Int32) : s_X9_readAmbient_r x ft = 0 ∨ s_X9_readAmbient_r x ft = 1 := by unfold s_X9_readAmbient_r; (try dsimp only); exact (z_ite (z_ite (Or.inl rfl) (z_ite (Or.inl rfl) (Or.inr rfl))) (z_ite (Or.inl rfl) (Or.inr rfl)))
abbrev rmX9_readAmbient : Room := ({ frames := 2, cells := 0, slots := 0, locals := 49 } : Room)
set_option maxHeartbeats 4000000 in
set_option maxRecDepth 100000 in
theorem c_X9_readAmbient (l : Launch) (G : va_G) (y : Nat → ClassId) (h : Nat) (q : Nat) (x : Nat → Int32) (ft : Nat → Int32) (sz : Nat) : Met l yX9_readAmbient wsX9_readAmbient rmX9_readAmbient (PH G y [.ref h] [kX9 h q x, aC y q 60 ft] sz) (QHi G (s_X9_readAmbient_r x ft) (fun _ : Unit => [kX9 h q (s_X9_readAmbient_w0 x ft), aC y q 60 ft]) (va_A [kX9 h q x, aC y q 60 ft] sz)) 0 0 (va_A [kX9 h q x, aC y q 60 ft] sz) := by
  refine Met.ofW (cc := cX9_readAmbient) (maxL := 3) (ret := (some .boolean)) (by decide) rfl ?_
  intro p e s m args below meth c s₁ B hml hv
  obtain ⟨rfl, hsz, hP, ⟨hK, hN⟩, hD0⟩ := hv
  have hx := B.exec
  have hb := B.bytes
  have hr := B.returns
  have hts := atoms_spec (ws := wsX9_readAmbient) B.pre
  have hown : s.vm.findClass RX9 = some m.cls := findClass_of_methodNamed B.named
  have hlocks := B.notSynchronized
  have i_X9 : ∀ w ∈ u_ws RX9 TX9 12, w ∈ wsX9_readAmbient := by decide +kernel
  subst hsz
  have hD := hD0.self (sz := s.heap.size)
  generalize hAe : va_A [kX9 h q x, aC y q 60 ft] s.heap.size = A at hD ⊢
  have hA : ∀ q : Nat, s.heap.size ≤ q → A q := fun q h => by rw [← hAe]; exact Or.inr h
  have hS : va_S A s.heap s.heap [] := va_S.rf
  have hP : va_P G vwCl [kX9 h q x, aC y q 60 ft] s.heap := hP
  have hl := lv_entry ([.ref h]) (n := 3) (Nat.le_of_ble_eq_true rfl)
  rw [lg_entry_eq]
  generalize (lg_sl ([.ref h]) ++ List.replicate (3 - (lg_sl ([.ref h])).length) Slot.unset).toArray = ls at hl ⊢
  have hl : lv_has ls 3 [(0, .ref h)] := hl
  obtain ⟨QQ, hQQ⟩ : ∃ zq9, zq9 = MQ below (QHi G (s_X9_readAmbient_r x ft) (fun _ : Unit => [kX9 h q (s_X9_readAmbient_w0 x ft), aC y q 60 ft]) A) ([.ref h] : List Value).toArray s 0 0 A := ⟨_, rfl⟩
  rw [← hQQ]
  refine lv_aload_n hx hb dX9_readAmbient_0 rfl (lv_at hl 0 rfl) ?_
  refine lv_dup hx hb dX9_readAmbient_1 rfl ?_
  refine va_get (D := G) (ci := 7) (v := .int (x 2)) (C := RX9) (T := TX9) (N := 12) hx hb hts i_X9 hown hK hP 0 rfl rfl 2 (by decide) (hts (.fieldLink RX9 19 "RelayTuner$Text" "at" "I") (by decide +kernel)) (fun _ h9 => h9) rfl dX9_readAmbient_2 ?_
  refine lv_iconst (v := 1) hx hb dX9_readAmbient_5 (by decide) ?_
  refine lv_iadd hx hb dX9_readAmbient_6 ?_
  refine va_put (D := G) (ci := 7) (v := .int ((x 2) + 1)) (ty := .int) (C := RX9) (T := TX9) (N := 12) hx hb hts i_X9 tyX9 tyX9_ok nmX9 hown hK hP hD hS 0 rfl rfl 2 (by decide) (hts (.fieldLink RX9 19 "RelayTuner$Text" "at" "I") (by decide +kernel)) (fun _ h9 => h9) rfl (by decide +kernel) rfl rfl (Nat.le_of_ble_eq_true rfl) dX9_readAmbient_7 (fun H locs hP hD hS => ?_)
  have hP : va_P G vwCl [kX9 h q (upd x 2 ((x 2) + 1)), aC y q 60 ft] H := hP
  have hD : va_D A [kX9 h q (upd x 2 ((x 2) + 1)), aC y q 60 ft] := hD
  refine lv_aload_n hx hb dX9_readAmbient_10 rfl (lv_at hl 0 rfl) ?_
  refine lv_bipush (v := 45) hx hb dX9_readAmbient_11 (by decide) ?_
  refine cl_Ri (va_runV (As := [.int 45]) (rest := []) ⟨hx, hb, hml, hown, hts⟩ (c_X9_isHere l G y h 45 q (upd x 2 ((x 2) + 1)) ft) (cwV 1 hts gX9_readAmbient_X9_isHere rfl rfl rfl (by decide +kernel) ⟨Nat.le_of_ble_eq_true rfl, Nat.le_of_ble_eq_true rfl⟩) (PR_V (hP.sub (ws' := [kX9 h q (upd x 2 ((x 2) + 1)), aC y q 60 ft]) [0, 1] rfl) hK hN (ci := 7) (q0 := 0) rfl rfl) rfl rfl hl.1 rfl (lv_room (Nat.le_of_ble_eq_true rfl)) dX9_readAmbient_13 ⟨Nat.le_of_ble_eq_true rfl, Nat.le_of_ble_eq_true rfl⟩) ?_
  refine lv_istore_n (lv' := [(1, .int (s_X9_isHere_r 45 (upd x 2 ((x 2) + 1)) ft)), (0, .ref h)]) hx hb dX9_readAmbient_16 rfl hl (by decide) rfl (fun ls hl => ?_)
  refine lv_iload_n hx hb dX9_readAmbient_17 rfl (lv_at hl 0 rfl) ?_
  refine lv_if_ne (tgt := 32) hx hb dX9_readAmbient_18 (by decide) (fun c_1 => ?_) (fun c_1 => ?_)
  · refine lv_aload_n hx hb dX9_readAmbient_32 rfl (lv_at hl 1 rfl) ?_
    refine lv_dup hx hb dX9_readAmbient_33 rfl ?_
    refine va_get (D := G) (ci := 7) (v := .int ((x 2) + 1)) (C := RX9) (T := TX9) (N := 12) hx hb hts i_X9 hown hK hP 0 rfl rfl 2 (by decide) (hts (.fieldLink RX9 19 "RelayTuner$Text" "at" "I") (by decide +kernel)) (fun _ h9 => h9) rfl dX9_readAmbient_34 ?_
    refine lv_iconst (v := 1) hx hb dX9_readAmbient_37 (by decide) ?_
    refine lv_iadd hx hb dX9_readAmbient_38 ?_
    refine va_put (D := G) (ci := 7) (v := .int (((x 2) + 1) + 1)) (ty := .int) (C := RX9) (T := TX9) (N := 12) hx hb hts i_X9 tyX9 tyX9_ok nmX9 hown hK hP hD hS 0 rfl rfl 2 (by decide) (hts (.fieldLink RX9 19 "RelayTuner$Text" "at" "I") (by decide +kernel)) (fun _ h9 => h9) rfl (by decide +kernel) rfl rfl (Nat.le_of_ble_eq_true rfl) dX9_readAmbient_39 (fun H locs hP hD hS => ?_)
    have hP : va_P G vwCl [kX9 h q (upd (upd x 2 ((x 2) + 1)) 2 (((x 2) + 1) + 1)), aC y q 60 ft] H := hP
    have hD : va_D A [kX9 h q (upd (upd x 2 ((x 2) + 1)) 2 (((x 2) + 1) + 1)), aC y q 60 ft] := hD
    refine lv_aload_n hx hb dX9_readAmbient_42 rfl (lv_at hl 1 rfl) ?_
    refine lv_iconst (v := 2) hx hb dX9_readAmbient_43 (by decide) ?_
    refine lv_iconst (v := 0) hx hb dX9_readAmbient_44 (by decide) ?_
    refine lv_bipush (v := 99) hx hb dX9_readAmbient_45 (by decide) ?_
    refine cl_Hi (wr := []) (fun _ : Unit => [kX9 h q (s_X9_number_2_w0 0 99 (upd (upd x 2 ((x 2) + 1)) 2 (((x 2) + 1) + 1)) ft), aC y q 60 ft]) [0, 1] [] [0, 1] (va_runV (As := [.int 2, .int 0, .int 99]) (rest := []) ⟨hx, hb, hml, hown, hts⟩ (c_X9_number_2 l G y h 0 99 q (upd (upd x 2 ((x 2) + 1)) 2 (((x 2) + 1) + 1)) ft H.size) (cwV 3 hts gX9_readAmbient_X9_number rfl rfl rfl (by decide +kernel) ⟨Nat.le_of_ble_eq_true rfl, Nat.le_of_ble_eq_true rfl⟩) (PH_V (hP.sub (ws' := [kX9 h q (upd (upd x 2 ((x 2) + 1)) 2 (((x 2) + 1) + 1)), aC y q 60 ft]) [0, 1] rfl) hK hN (hD.sub (ws' := [kX9 h q (upd (upd x 2 ((x 2) + 1)) 2 (((x 2) + 1) + 1)), aC y q 60 ft]) [0, 1] (by decide) rfl) (ci := 7) (q0 := 0) rfl rfl) rfl rfl hl.1 rfl (lv_room (Nat.le_of_ble_eq_true rfl)) dX9_readAmbient_47 ⟨Nat.le_of_ble_eq_true rfl, Nat.le_of_ble_eq_true rfl⟩) hP hD hS hA rfl rfl rfl (by decide) rfl (fun _ => rfl) (fun _ H locs hP hD hS => ?_)
    have hP : va_P G vwCl [kX9 h q (s_X9_number_2_w0 0 99 (upd (upd x 2 ((x 2) + 1)) 2 (((x 2) + 1) + 1)) ft), aC y q 60 ft] H := hP
    have hD : va_D A [kX9 h q (s_X9_number_2_w0 0 99 (upd (upd x 2 ((x 2) + 1)) 2 (((x 2) + 1) + 1)) ft), aC y q 60 ft] := hD
    obtain ⟨v_2, e_v_2⟩ : ∃ zq9 : Nat → Int32, zq9 = (s_X9_number_2_w0 0 99 (upd (upd x 2 ((x 2) + 1)) 2 (((x 2) + 1) + 1)) ft) := ⟨_, rfl⟩
    have hP : va_P G vwCl [kX9 h q v_2, aC y q 60 ft] H := by rw [e_v_2]; exact hP
    have hD : va_D A [kX9 h q v_2, aC y q 60 ft] := by rw [e_v_2]; exact hD
    obtain ⟨v_3, e_v_3⟩ : ∃ zq9 : Int32, zq9 = (s_X9_number_2_r 0 99 (upd (upd x 2 ((x 2) + 1)) 2 (((x 2) + 1) + 1)) ft) := ⟨_, rfl⟩
    refine rw_i (x' := v_3) e_v_3.symm ?_
    refine lv_istore_n (lv' := [(2, .int v_3), (1, .int (s_X9_isHere_r 45 (upd x 2 ((x 2) + 1)) ft)), (0, .ref h)]) hx hb dX9_readAmbient_50 rfl hl (by decide) rfl (fun ls hl => ?_)
    refine lv_aload_n hx hb dX9_readAmbient_51 rfl (lv_at hl 2 rfl) ?_
    refine lv_iload_n hx hb dX9_readAmbient_52 rfl (lv_at hl 1 rfl) ?_
    refine lv_if_eq (tgt := 61) hx hb dX9_readAmbient_53 (by decide) (fun c_4 => ?_) (fun c_4 => ?_)
    · exact (by first | exact absurd c_4 c_1 | exact absurd c_1 c_4)
    refine lv_iload_n hx hb dX9_readAmbient_56 rfl (lv_at hl 0 rfl) ?_
    refine lv_ineg hx hb dX9_readAmbient_57 ?_
    refine lv_goto (tgt := 62) hx hb dX9_readAmbient_58 (by decide) ?_
    refine va_put (D := G) (ci := 7) (v := .int (-v_3)) (ty := .int) (C := RX9) (T := TX9) (N := 12) hx hb hts i_X9 tyX9 tyX9_ok nmX9 hown hK hP hD hS 0 rfl rfl 11 (by decide) (hts (.fieldLink RX9 67 "RelayTuner$Text" "ambient" "I") (by decide +kernel)) (fun _ h9 => h9) rfl (by decide +kernel) rfl rfl (Nat.le_of_ble_eq_true rfl) dX9_readAmbient_62 (fun H locs hP hD hS => ?_)
    have hP : va_P G vwCl [kX9 h q (upd v_2 11 (-v_3)), aC y q 60 ft] H := hP
    have hD : va_D A [kX9 h q (upd v_2 11 (-v_3)), aC y q 60 ft] := hD
    refine lv_aload_n hx hb dX9_readAmbient_65 rfl (lv_at hl 2 rfl) ?_
    refine lv_iload_n hx hb dX9_readAmbient_66 rfl (lv_at hl 0 rfl) ?_
    refine lv_iconst (v := (-1)) hx hb dX9_readAmbient_67 (by decide) ?_
    have J76_8 : ∀ (v_6 : Int32) (e_v_6 : v_6 = (if v_3 = (-1) then 0 else 1)) (z_7 : v_6 = 0 ∨ v_6 = 1) (ls : Array Slot) (hl : lv_has ls 3 [(0, .ref h)]), W p l e (headSpec wsX9_readAmbient rmX9_readAmbient).room s m ([.ref h] : List Value).toArray below meth c H locs 0 0 QQ (F0 m 76 ls [.int v_6, .ref h]) := by
      intro v_6 e_v_6 z_7 ls hl
      refine va_put (D := G) (ci := 7) (v := .int v_6) (ty := .boolean) (C := RX9) (T := TX9) (N := 12) hx hb hts i_X9 tyX9 tyX9_ok nmX9 hown hK hP hD hS 0 rfl rfl 10 (by decide) (hts (.fieldLink RX9 31 "RelayTuner$Text" "hasAmbient" "Z") (by decide +kernel)) (fun _ h9 => h9) rfl (by decide +kernel) (nz_bool z_7) (fz_bool z_7) (Nat.le_of_ble_eq_true rfl) dX9_readAmbient_76 (fun H locs hP hD hS => ?_)
      have hP : va_P G vwCl [kX9 h q (upd (upd v_2 11 (-v_3)) 10 v_6), aC y q 60 ft] H := hP
      have hD : va_D A [kX9 h q (upd (upd v_2 11 (-v_3)) 10 v_6), aC y q 60 ft] := hD
      refine lv_aload_n hx hb dX9_readAmbient_79 rfl (lv_at hl 0 rfl) ?_
      refine va_get (D := G) (ci := 7) (v := .int v_6) (C := RX9) (T := TX9) (N := 12) hx hb hts i_X9 hown hK hP 0 rfl rfl 10 (by decide) (hts (.fieldLink RX9 31 "RelayTuner$Text" "hasAmbient" "Z") (by decide +kernel)) (fun _ h9 => h9) rfl dX9_readAmbient_80 ?_
      rw [hQQ]
      exact W.zret hx hb hr (nz_bool (by rw [e_v_6]; first | exact z01 | exact z10)) (end_Hi () hP hD hS (by subst e_v_6; subst e_v_3; subst e_v_2; unfold s_X9_readAmbient_r; exact (if_neg c_1).symm) (congrArg (fun (z0 : Nat → Int32) => [kX9 h q z0, aC y q 60 ft]) (by subst e_v_6; subst e_v_3; subst e_v_2; unfold s_X9_readAmbient_w0; exact (if_neg c_1).symm))) hS.2.2 dX9_readAmbient_83
    refine lv_icmp_eq (tgt := 75) hx hb dX9_readAmbient_68 (by decide) (fun c_5 => ?_) (fun c_5 => ?_)
    · refine lv_iconst (v := 0) hx hb dX9_readAmbient_75 (by decide) ?_
      exact J76_8 _ (if_pos c_5).symm (Or.inl rfl) ls (lv_sub hl [2] rfl)
    · refine lv_iconst (v := 1) hx hb dX9_readAmbient_71 (by decide) ?_
      refine lv_goto (tgt := 76) hx hb dX9_readAmbient_72 (by decide) ?_
      exact J76_8 _ (if_neg c_5).symm (Or.inr rfl) ls (lv_sub hl [2] rfl)
  · refine lv_aload_n hx hb dX9_readAmbient_21 rfl (lv_at hl 1 rfl) ?_
    refine lv_bipush (v := 43) hx hb dX9_readAmbient_22 (by decide) ?_
    refine cl_Ri (va_runV (As := [.int 43]) (rest := []) ⟨hx, hb, hml, hown, hts⟩ (c_X9_isHere l G y h 43 q (upd x 2 ((x 2) + 1)) ft) (cwV 1 hts gX9_readAmbient_X9_isHere rfl rfl rfl (by decide +kernel) ⟨Nat.le_of_ble_eq_true rfl, Nat.le_of_ble_eq_true rfl⟩) (PR_V (hP.sub (ws' := [kX9 h q (upd x 2 ((x 2) + 1)), aC y q 60 ft]) [0, 1] rfl) hK hN (ci := 7) (q0 := 0) rfl rfl) rfl rfl hl.1 rfl (lv_room (Nat.le_of_ble_eq_true rfl)) dX9_readAmbient_24 ⟨Nat.le_of_ble_eq_true rfl, Nat.le_of_ble_eq_true rfl⟩) ?_
    refine lv_if_ne (tgt := 32) hx hb dX9_readAmbient_27 (by decide) (fun c_9 => ?_) (fun c_9 => ?_)
    · refine lv_aload_n hx hb dX9_readAmbient_32 rfl (lv_at hl 1 rfl) ?_
      refine lv_dup hx hb dX9_readAmbient_33 rfl ?_
      refine va_get (D := G) (ci := 7) (v := .int ((x 2) + 1)) (C := RX9) (T := TX9) (N := 12) hx hb hts i_X9 hown hK hP 0 rfl rfl 2 (by decide) (hts (.fieldLink RX9 19 "RelayTuner$Text" "at" "I") (by decide +kernel)) (fun _ h9 => h9) rfl dX9_readAmbient_34 ?_
      refine lv_iconst (v := 1) hx hb dX9_readAmbient_37 (by decide) ?_
      refine lv_iadd hx hb dX9_readAmbient_38 ?_
      refine va_put (D := G) (ci := 7) (v := .int (((x 2) + 1) + 1)) (ty := .int) (C := RX9) (T := TX9) (N := 12) hx hb hts i_X9 tyX9 tyX9_ok nmX9 hown hK hP hD hS 0 rfl rfl 2 (by decide) (hts (.fieldLink RX9 19 "RelayTuner$Text" "at" "I") (by decide +kernel)) (fun _ h9 => h9) rfl (by decide +kernel) rfl rfl (Nat.le_of_ble_eq_true rfl) dX9_readAmbient_39 (fun H locs hP hD hS => ?_)
      have hP : va_P G vwCl [kX9 h q (upd (upd x 2 ((x 2) + 1)) 2 (((x 2) + 1) + 1)), aC y q 60 ft] H := hP
      have hD : va_D A [kX9 h q (upd (upd x 2 ((x 2) + 1)) 2 (((x 2) + 1) + 1)), aC y q 60 ft] := hD
      refine lv_aload_n hx hb dX9_readAmbient_42 rfl (lv_at hl 1 rfl) ?_
      refine lv_iconst (v := 2) hx hb dX9_readAmbient_43 (by decide) ?_
      refine lv_iconst (v := 0) hx hb dX9_readAmbient_44 (by decide) ?_
      refine lv_bipush (v := 99) hx hb dX9_readAmbient_45 (by decide) ?_
      refine cl_Hi (wr := []) (fun _ : Unit => [kX9 h q (s_X9_number_2_w0 0 99 (upd (upd x 2 ((x 2) + 1)) 2 (((x 2) + 1) + 1)) ft), aC y q 60 ft]) [0, 1] [] [0, 1] (va_runV (As := [.int 2, .int 0, .int 99]) (rest := []) ⟨hx, hb, hml, hown, hts⟩ (c_X9_number_2 l G y h 0 99 q (upd (upd x 2 ((x 2) + 1)) 2 (((x 2) + 1) + 1)) ft H.size) (cwV 3 hts gX9_readAmbient_X9_number rfl rfl rfl (by decide +kernel) ⟨Nat.le_of_ble_eq_true rfl, Nat.le_of_ble_eq_true rfl⟩) (PH_V (hP.sub (ws' := [kX9 h q (upd (upd x 2 ((x 2) + 1)) 2 (((x 2) + 1) + 1)), aC y q 60 ft]) [0, 1] rfl) hK hN (hD.sub (ws' := [kX9 h q (upd (upd x 2 ((x 2) + 1)) 2 (((x 2) + 1) + 1)), aC y q 60 ft]) [0, 1] (by decide) rfl) (ci := 7) (q0 := 0) rfl rfl) rfl rfl hl.1 rfl (lv_room (Nat.le_of_ble_eq_true rfl)) dX9_readAmbient_47 ⟨Nat.le_of_ble_eq_true rfl, Nat.le_of_ble_eq_true rfl⟩) hP hD hS hA rfl rfl rfl (by decide) rfl (fun _ => rfl) (fun _ H locs hP hD hS => ?_)
      have hP : va_P G vwCl [kX9 h q (s_X9_number_2_w0 0 99 (upd (upd x 2 ((x 2) + 1)) 2 (((x 2) + 1) + 1)) ft), aC y q 60 ft] H := hP
      have hD : va_D A [kX9 h q (s_X9_number_2_w0 0 99 (upd (upd x 2 ((x 2) + 1)) 2 (((x 2) + 1) + 1)) ft), aC y q 60 ft] := hD
      obtain ⟨v_10, e_v_10⟩ : ∃ zq9 : Nat → Int32, zq9 = (s_X9_number_2_w0 0 99 (upd (upd x 2 ((x 2) + 1)) 2 (((x 2) + 1) + 1)) ft) := ⟨_, rfl⟩
      have hP : va_P G vwCl [kX9 h q v_10, aC y q 60 ft] H := by rw [e_v_10]; exact hP
      have hD : va_D A [kX9 h q v_10, aC y q 60 ft] := by rw [e_v_10]; exact hD
      obtain ⟨v_11, e_v_11⟩ : ∃ zq9 : Int32, zq9 = (s_X9_number_2_r 0 99 (upd (upd x 2 ((x 2) + 1)) 2 (((x 2) + 1) + 1)) ft) := ⟨_, rfl⟩
      refine rw_i (x' := v_11) e_v_11.symm ?_
      refine lv_istore_n (lv' := [(2, .int v_11), (1, .int (s_X9_isHere_r 45 (upd x 2 ((x 2) + 1)) ft)), (0, .ref h)]) hx hb dX9_readAmbient_50 rfl hl (by decide) rfl (fun ls hl => ?_)
      refine lv_aload_n hx hb dX9_readAmbient_51 rfl (lv_at hl 2 rfl) ?_
      refine lv_iload_n hx hb dX9_readAmbient_52 rfl (lv_at hl 1 rfl) ?_
      refine lv_if_eq (tgt := 61) hx hb dX9_readAmbient_53 (by decide) (fun c_12 => ?_) (fun c_12 => ?_)
      rotate_left
      · exact (by first | exact absurd c_12 c_1 | exact absurd c_1 c_12)
      refine lv_iload_n hx hb dX9_readAmbient_61 rfl (lv_at hl 0 rfl) ?_
      refine va_put (D := G) (ci := 7) (v := .int v_11) (ty := .int) (C := RX9) (T := TX9) (N := 12) hx hb hts i_X9 tyX9 tyX9_ok nmX9 hown hK hP hD hS 0 rfl rfl 11 (by decide) (hts (.fieldLink RX9 67 "RelayTuner$Text" "ambient" "I") (by decide +kernel)) (fun _ h9 => h9) rfl (by decide +kernel) rfl rfl (Nat.le_of_ble_eq_true rfl) dX9_readAmbient_62 (fun H locs hP hD hS => ?_)
      have hP : va_P G vwCl [kX9 h q (upd v_10 11 v_11), aC y q 60 ft] H := hP
      have hD : va_D A [kX9 h q (upd v_10 11 v_11), aC y q 60 ft] := hD
      refine lv_aload_n hx hb dX9_readAmbient_65 rfl (lv_at hl 2 rfl) ?_
      refine lv_iload_n hx hb dX9_readAmbient_66 rfl (lv_at hl 0 rfl) ?_
      refine lv_iconst (v := (-1)) hx hb dX9_readAmbient_67 (by decide) ?_
      have J76_16 : ∀ (v_14 : Int32) (e_v_14 : v_14 = (if v_11 = (-1) then 0 else 1)) (z_15 : v_14 = 0 ∨ v_14 = 1) (ls : Array Slot) (hl : lv_has ls 3 [(0, .ref h)]), W p l e (headSpec wsX9_readAmbient rmX9_readAmbient).room s m ([.ref h] : List Value).toArray below meth c H locs 0 0 QQ (F0 m 76 ls [.int v_14, .ref h]) := by
        intro v_14 e_v_14 z_15 ls hl
        refine va_put (D := G) (ci := 7) (v := .int v_14) (ty := .boolean) (C := RX9) (T := TX9) (N := 12) hx hb hts i_X9 tyX9 tyX9_ok nmX9 hown hK hP hD hS 0 rfl rfl 10 (by decide) (hts (.fieldLink RX9 31 "RelayTuner$Text" "hasAmbient" "Z") (by decide +kernel)) (fun _ h9 => h9) rfl (by decide +kernel) (nz_bool z_15) (fz_bool z_15) (Nat.le_of_ble_eq_true rfl) dX9_readAmbient_76 (fun H locs hP hD hS => ?_)
        have hP : va_P G vwCl [kX9 h q (upd (upd v_10 11 v_11) 10 v_14), aC y q 60 ft] H := hP
        have hD : va_D A [kX9 h q (upd (upd v_10 11 v_11) 10 v_14), aC y q 60 ft] := hD
        refine lv_aload_n hx hb dX9_readAmbient_79 rfl (lv_at hl 0 rfl) ?_
        refine va_get (D := G) (ci := 7) (v := .int v_14) (C := RX9) (T := TX9) (N := 12) hx hb hts i_X9 hown hK hP 0 rfl rfl 10 (by decide) (hts (.fieldLink RX9 31 "RelayTuner$Text" "hasAmbient" "Z") (by decide +kernel)) (fun _ h9 => h9) rfl dX9_readAmbient_80 ?_
        rw [hQQ]
        exact W.zret hx hb hr (nz_bool (by rw [e_v_14]; first | exact z01 | exact z10)) (end_Hi () hP hD hS (by subst e_v_14; subst e_v_11; subst e_v_10; unfold s_X9_readAmbient_r; exact ((if_pos c_1).trans (if_neg c_9)).symm) (congrArg (fun (z0 : Nat → Int32) => [kX9 h q z0, aC y q 60 ft]) (by subst e_v_14; subst e_v_11; subst e_v_10; unfold s_X9_readAmbient_w0; exact ((if_pos c_1).trans (if_neg c_9)).symm))) hS.2.2 dX9_readAmbient_83
      refine lv_icmp_eq (tgt := 75) hx hb dX9_readAmbient_68 (by decide) (fun c_13 => ?_) (fun c_13 => ?_)
      · refine lv_iconst (v := 0) hx hb dX9_readAmbient_75 (by decide) ?_
        exact J76_16 _ (if_pos c_13).symm (Or.inl rfl) ls (lv_sub hl [2] rfl)
      · refine lv_iconst (v := 1) hx hb dX9_readAmbient_71 (by decide) ?_
        refine lv_goto (tgt := 76) hx hb dX9_readAmbient_72 (by decide) ?_
        exact J76_16 _ (if_neg c_13).symm (Or.inr rfl) ls (lv_sub hl [2] rfl)
    · refine lv_iconst (v := 0) hx hb dX9_readAmbient_30 (by decide) ?_
      rw [hQQ]
      exact W.zret hx hb hr (nz_bool (Or.inl rfl)) (end_Hi () hP hD hS (by unfold s_X9_readAmbient_r; exact ((if_pos c_1).trans (if_pos c_9)).symm) (congrArg (fun (z0 : Nat → Int32) => [kX9 h q z0, aC y q 60 ft]) (by unfold s_X9_readAmbient_w0; exact ((if_pos c_1).trans (if_pos c_9)).symm))) hS.2.2 dX9_readAmbient_31

def s_X9_readPlant_r (x : Nat → Int32) (ft : Nat → Int32) : Int32 := (let v_1 : Nat → Int32 := (s_X9_labelled_2_w0 71 1 20 x ft); (let v_2 : Int32 := (s_X9_labelled_2_r 71 1 20 x ft); (if v_2 = (-1) then 0 else (let v_4 : Nat → Int32 := (s_X9_labelled_2_w0 78 1 50 (upd v_1 3 v_2) ft); (let v_5 : Int32 := (s_X9_labelled_2_r 78 1 50 (upd v_1 3 v_2) ft); (if v_5 = (-1) then 0 else (let v_7 : Nat → Int32 := (s_X9_labelled_1_w0 76 0 9 (upd v_4 4 v_5) ft); (let v_8 : Int32 := (s_X9_labelled_1_r 76 0 9 (upd v_4 4 v_5) ft); (if v_8 = (-1) then 0 else (let v_11 : Int32 := (s_X9_labelled_2_r 72 1 99 (upd v_7 5 v_8) ft); (let v_13 : Int32 := (if v_11 = (-1) then 0 else 1); v_13)))))))))))
def s_X9_readPlant_w0 (x : Nat → Int32) (ft : Nat → Int32) : Nat → Int32 := (let v_1 : Nat → Int32 := (s_X9_labelled_2_w0 71 1 20 x ft); (let v_2 : Int32 := (s_X9_labelled_2_r 71 1 20 x ft); (if v_2 = (-1) then (upd v_1 3 v_2) else (let v_4 : Nat → Int32 := (s_X9_labelled_2_w0 78 1 50 (upd v_1 3 v_2) ft); (let v_5 : Int32 := (s_X9_labelled_2_r 78 1 50 (upd v_1 3 v_2) ft); (if v_5 = (-1) then (upd v_4 4 v_5) else (let v_7 : Nat → Int32 := (s_X9_labelled_1_w0 76 0 9 (upd v_4 4 v_5) ft); (let v_8 : Int32 := (s_X9_labelled_1_r 76 0 9 (upd v_4 4 v_5) ft); (if v_8 = (-1) then (upd v_7 5 v_8) else (let v_10 : Nat → Int32 := (s_X9_labelled_2_w0 72 1 99 (upd v_7 5 v_8) ft); (let v_11 : Int32 := (s_X9_labelled_2_r 72 1 99 (upd v_7 5 v_8) ft); (upd v_10 6 v_11))))))))))))
theorem z_X9_readPlant (x : Nat → Int32) (ft : Nat → Int32) : s_X9_readPlant_r x ft = 0 ∨ s_X9_readPlant_r x ft = 1 := by unfold s_X9_readPlant_r; (try dsimp only); exact (z_ite (Or.inl rfl) (z_ite (Or.inl rfl) (z_ite (Or.inl rfl) (z_ite (Or.inl rfl) (Or.inr rfl)))))
abbrev rmX9_readPlant : Room := ({ frames := 3, cells := 0, slots := 0, locals := 73 } : Room)
set_option maxHeartbeats 4000000 in
set_option maxRecDepth 100000 in
theorem c_X9_readPlant (l : Launch) (G : va_G) (y : Nat → ClassId) (h : Nat) (q : Nat) (x : Nat → Int32) (ft : Nat → Int32) (sz : Nat) : Met l yX9_readPlant wsX9_readPlant rmX9_readPlant (PH G y [.ref h] [kX9 h q x, aC y q 60 ft] sz) (QHi G (s_X9_readPlant_r x ft) (fun _ : Unit => [kX9 h q (s_X9_readPlant_w0 x ft), aC y q 60 ft]) (va_A [kX9 h q x, aC y q 60 ft] sz)) 0 0 (va_A [kX9 h q x, aC y q 60 ft] sz) := by
  refine Met.ofW (cc := cX9_readPlant) (maxL := 1) (ret := (some .boolean)) (by decide) rfl ?_
  intro p e s m args below meth c s₁ B hml hv
  obtain ⟨rfl, hsz, hP, ⟨hK, hN⟩, hD0⟩ := hv
  have hx := B.exec
  have hb := B.bytes
  have hr := B.returns
  have hts := atoms_spec (ws := wsX9_readPlant) B.pre
  have hown : s.vm.findClass RX9 = some m.cls := findClass_of_methodNamed B.named
  have hlocks := B.notSynchronized
  have i_X9 : ∀ w ∈ u_ws RX9 TX9 12, w ∈ wsX9_readPlant := by decide +kernel
  subst hsz
  have hD := hD0.self (sz := s.heap.size)
  generalize hAe : va_A [kX9 h q x, aC y q 60 ft] s.heap.size = A at hD ⊢
  have hA : ∀ q : Nat, s.heap.size ≤ q → A q := fun q h => by rw [← hAe]; exact Or.inr h
  have hS : va_S A s.heap s.heap [] := va_S.rf
  have hP : va_P G vwCl [kX9 h q x, aC y q 60 ft] s.heap := hP
  have hl := lv_entry ([.ref h]) (n := 1) (Nat.le_of_ble_eq_true rfl)
  rw [lg_entry_eq]
  generalize (lg_sl ([.ref h]) ++ List.replicate (1 - (lg_sl ([.ref h])).length) Slot.unset).toArray = ls at hl ⊢
  have hl : lv_has ls 1 [(0, .ref h)] := hl
  obtain ⟨QQ, hQQ⟩ : ∃ zq9, zq9 = MQ below (QHi G (s_X9_readPlant_r x ft) (fun _ : Unit => [kX9 h q (s_X9_readPlant_w0 x ft), aC y q 60 ft]) A) ([.ref h] : List Value).toArray s 0 0 A := ⟨_, rfl⟩
  rw [← hQQ]
  refine lv_aload_n hx hb dX9_readPlant_0 rfl (lv_at hl 0 rfl) ?_
  refine lv_aload_n hx hb dX9_readPlant_1 rfl (lv_at hl 0 rfl) ?_
  refine lv_bipush (v := 71) hx hb dX9_readPlant_2 (by decide) ?_
  refine lv_iconst (v := 2) hx hb dX9_readPlant_4 (by decide) ?_
  refine lv_iconst (v := 1) hx hb dX9_readPlant_5 (by decide) ?_
  refine lv_bipush (v := 20) hx hb dX9_readPlant_6 (by decide) ?_
  refine cl_Hi (wr := []) (fun _ : Unit => [kX9 h q (s_X9_labelled_2_w0 71 1 20 x ft), aC y q 60 ft]) [0, 1] [] [0, 1] (va_runV (As := [.int 71, .int 2, .int 1, .int 20]) (rest := [.ref h]) ⟨hx, hb, hml, hown, hts⟩ (c_X9_labelled_2 l G y h 71 1 20 q x ft s.heap.size) (cwV 4 hts gX9_readPlant_X9_labelled rfl rfl rfl (by decide +kernel) ⟨Nat.le_of_ble_eq_true rfl, Nat.le_of_ble_eq_true rfl⟩) (PH_V (hP.sub (ws' := [kX9 h q x, aC y q 60 ft]) [0, 1] rfl) hK hN (hD.sub (ws' := [kX9 h q x, aC y q 60 ft]) [0, 1] (by decide) rfl) (ci := 7) (q0 := 0) rfl rfl) rfl rfl hl.1 rfl (lv_room (Nat.le_of_ble_eq_true rfl)) dX9_readPlant_8 ⟨Nat.le_of_ble_eq_true rfl, Nat.le_of_ble_eq_true rfl⟩) hP hD hS hA rfl rfl rfl (by decide) rfl (fun _ => rfl) (fun _ H locs hP hD hS => ?_)
  have hP : va_P G vwCl [kX9 h q (s_X9_labelled_2_w0 71 1 20 x ft), aC y q 60 ft] H := hP
  have hD : va_D A [kX9 h q (s_X9_labelled_2_w0 71 1 20 x ft), aC y q 60 ft] := hD
  obtain ⟨v_1, e_v_1⟩ : ∃ zq9 : Nat → Int32, zq9 = (s_X9_labelled_2_w0 71 1 20 x ft) := ⟨_, rfl⟩
  have hP : va_P G vwCl [kX9 h q v_1, aC y q 60 ft] H := by rw [e_v_1]; exact hP
  have hD : va_D A [kX9 h q v_1, aC y q 60 ft] := by rw [e_v_1]; exact hD
  obtain ⟨v_2, e_v_2⟩ : ∃ zq9 : Int32, zq9 = (s_X9_labelled_2_r 71 1 20 x ft) := ⟨_, rfl⟩
  refine rw_i (x' := v_2) e_v_2.symm ?_
  refine va_put (D := G) (ci := 7) (v := .int v_2) (ty := .int) (C := RX9) (T := TX9) (N := 12) hx hb hts i_X9 tyX9 tyX9_ok nmX9 hown hK hP hD hS 0 rfl rfl 3 (by decide) (hts (.fieldLink RX9 49 "RelayTuner$Text" "gain" "I") (by decide +kernel)) (fun _ h9 => h9) rfl (by decide +kernel) rfl rfl (Nat.le_of_ble_eq_true rfl) dX9_readPlant_11 (fun H locs hP hD hS => ?_)
  have hP : va_P G vwCl [kX9 h q (upd v_1 3 v_2), aC y q 60 ft] H := hP
  have hD : va_D A [kX9 h q (upd v_1 3 v_2), aC y q 60 ft] := hD
  refine lv_aload_n hx hb dX9_readPlant_14 rfl (lv_at hl 0 rfl) ?_
  refine va_get (D := G) (ci := 7) (v := .int v_2) (C := RX9) (T := TX9) (N := 12) hx hb hts i_X9 hown hK hP 0 rfl rfl 3 (by decide) (hts (.fieldLink RX9 49 "RelayTuner$Text" "gain" "I") (by decide +kernel)) (fun _ h9 => h9) rfl dX9_readPlant_15 ?_
  refine lv_iconst (v := (-1)) hx hb dX9_readPlant_18 (by decide) ?_
  refine lv_icmp_ne (tgt := 24) hx hb dX9_readPlant_19 (by decide) (fun c_3 => ?_) (fun c_3 => ?_)
  · refine lv_aload_n hx hb dX9_readPlant_24 rfl (lv_at hl 0 rfl) ?_
    refine lv_aload_n hx hb dX9_readPlant_25 rfl (lv_at hl 0 rfl) ?_
    refine lv_bipush (v := 78) hx hb dX9_readPlant_26 (by decide) ?_
    refine lv_iconst (v := 2) hx hb dX9_readPlant_28 (by decide) ?_
    refine lv_iconst (v := 1) hx hb dX9_readPlant_29 (by decide) ?_
    refine lv_bipush (v := 50) hx hb dX9_readPlant_30 (by decide) ?_
    refine cl_Hi (wr := []) (fun _ : Unit => [kX9 h q (s_X9_labelled_2_w0 78 1 50 (upd v_1 3 v_2) ft), aC y q 60 ft]) [0, 1] [] [0, 1] (va_runV (As := [.int 78, .int 2, .int 1, .int 50]) (rest := [.ref h]) ⟨hx, hb, hml, hown, hts⟩ (c_X9_labelled_2 l G y h 78 1 50 q (upd v_1 3 v_2) ft H.size) (cwV 4 hts gX9_readPlant_X9_labelled rfl rfl rfl (by decide +kernel) ⟨Nat.le_of_ble_eq_true rfl, Nat.le_of_ble_eq_true rfl⟩) (PH_V (hP.sub (ws' := [kX9 h q (upd v_1 3 v_2), aC y q 60 ft]) [0, 1] rfl) hK hN (hD.sub (ws' := [kX9 h q (upd v_1 3 v_2), aC y q 60 ft]) [0, 1] (by decide) rfl) (ci := 7) (q0 := 0) rfl rfl) rfl rfl hl.1 rfl (lv_room (Nat.le_of_ble_eq_true rfl)) dX9_readPlant_32 ⟨Nat.le_of_ble_eq_true rfl, Nat.le_of_ble_eq_true rfl⟩) hP hD hS hA rfl rfl rfl (by decide) rfl (fun _ => rfl) (fun _ H locs hP hD hS => ?_)
    have hP : va_P G vwCl [kX9 h q (s_X9_labelled_2_w0 78 1 50 (upd v_1 3 v_2) ft), aC y q 60 ft] H := hP
    have hD : va_D A [kX9 h q (s_X9_labelled_2_w0 78 1 50 (upd v_1 3 v_2) ft), aC y q 60 ft] := hD
    obtain ⟨v_4, e_v_4⟩ : ∃ zq9 : Nat → Int32, zq9 = (s_X9_labelled_2_w0 78 1 50 (upd v_1 3 v_2) ft) := ⟨_, rfl⟩
    have hP : va_P G vwCl [kX9 h q v_4, aC y q 60 ft] H := by rw [e_v_4]; exact hP
    have hD : va_D A [kX9 h q v_4, aC y q 60 ft] := by rw [e_v_4]; exact hD
    obtain ⟨v_5, e_v_5⟩ : ∃ zq9 : Int32, zq9 = (s_X9_labelled_2_r 78 1 50 (upd v_1 3 v_2) ft) := ⟨_, rfl⟩
    refine rw_i (x' := v_5) e_v_5.symm ?_
    refine va_put (D := G) (ci := 7) (v := .int v_5) (ty := .int) (C := RX9) (T := TX9) (N := 12) hx hb hts i_X9 tyX9 tyX9_ok nmX9 hown hK hP hD hS 0 rfl rfl 4 (by decide) (hts (.fieldLink RX9 55 "RelayTuner$Text" "inertia" "I") (by decide +kernel)) (fun _ h9 => h9) rfl (by decide +kernel) rfl rfl (Nat.le_of_ble_eq_true rfl) dX9_readPlant_35 (fun H locs hP hD hS => ?_)
    have hP : va_P G vwCl [kX9 h q (upd v_4 4 v_5), aC y q 60 ft] H := hP
    have hD : va_D A [kX9 h q (upd v_4 4 v_5), aC y q 60 ft] := hD
    refine lv_aload_n hx hb dX9_readPlant_38 rfl (lv_at hl 0 rfl) ?_
    refine va_get (D := G) (ci := 7) (v := .int v_5) (C := RX9) (T := TX9) (N := 12) hx hb hts i_X9 hown hK hP 0 rfl rfl 4 (by decide) (hts (.fieldLink RX9 55 "RelayTuner$Text" "inertia" "I") (by decide +kernel)) (fun _ h9 => h9) rfl dX9_readPlant_39 ?_
    refine lv_iconst (v := (-1)) hx hb dX9_readPlant_42 (by decide) ?_
    refine lv_icmp_ne (tgt := 48) hx hb dX9_readPlant_43 (by decide) (fun c_6 => ?_) (fun c_6 => ?_)
    · refine lv_aload_n hx hb dX9_readPlant_48 rfl (lv_at hl 0 rfl) ?_
      refine lv_aload_n hx hb dX9_readPlant_49 rfl (lv_at hl 0 rfl) ?_
      refine lv_bipush (v := 76) hx hb dX9_readPlant_50 (by decide) ?_
      refine lv_iconst (v := 1) hx hb dX9_readPlant_52 (by decide) ?_
      refine lv_iconst (v := 0) hx hb dX9_readPlant_53 (by decide) ?_
      refine lv_bipush (v := 9) hx hb dX9_readPlant_54 (by decide) ?_
      refine cl_Hi (wr := []) (fun _ : Unit => [kX9 h q (s_X9_labelled_1_w0 76 0 9 (upd v_4 4 v_5) ft), aC y q 60 ft]) [0, 1] [] [0, 1] (va_runV (As := [.int 76, .int 1, .int 0, .int 9]) (rest := [.ref h]) ⟨hx, hb, hml, hown, hts⟩ (c_X9_labelled_1 l G y h 76 0 9 q (upd v_4 4 v_5) ft H.size) (cwV 4 hts gX9_readPlant_X9_labelled rfl rfl rfl (by decide +kernel) ⟨Nat.le_of_ble_eq_true rfl, Nat.le_of_ble_eq_true rfl⟩) (PH_V (hP.sub (ws' := [kX9 h q (upd v_4 4 v_5), aC y q 60 ft]) [0, 1] rfl) hK hN (hD.sub (ws' := [kX9 h q (upd v_4 4 v_5), aC y q 60 ft]) [0, 1] (by decide) rfl) (ci := 7) (q0 := 0) rfl rfl) rfl rfl hl.1 rfl (lv_room (Nat.le_of_ble_eq_true rfl)) dX9_readPlant_56 ⟨Nat.le_of_ble_eq_true rfl, Nat.le_of_ble_eq_true rfl⟩) hP hD hS hA rfl rfl rfl (by decide) rfl (fun _ => rfl) (fun _ H locs hP hD hS => ?_)
      have hP : va_P G vwCl [kX9 h q (s_X9_labelled_1_w0 76 0 9 (upd v_4 4 v_5) ft), aC y q 60 ft] H := hP
      have hD : va_D A [kX9 h q (s_X9_labelled_1_w0 76 0 9 (upd v_4 4 v_5) ft), aC y q 60 ft] := hD
      obtain ⟨v_7, e_v_7⟩ : ∃ zq9 : Nat → Int32, zq9 = (s_X9_labelled_1_w0 76 0 9 (upd v_4 4 v_5) ft) := ⟨_, rfl⟩
      have hP : va_P G vwCl [kX9 h q v_7, aC y q 60 ft] H := by rw [e_v_7]; exact hP
      have hD : va_D A [kX9 h q v_7, aC y q 60 ft] := by rw [e_v_7]; exact hD
      obtain ⟨v_8, e_v_8⟩ : ∃ zq9 : Int32, zq9 = (s_X9_labelled_1_r 76 0 9 (upd v_4 4 v_5) ft) := ⟨_, rfl⟩
      refine rw_i (x' := v_8) e_v_8.symm ?_
      refine va_put (D := G) (ci := 7) (v := .int v_8) (ty := .int) (C := RX9) (T := TX9) (N := 12) hx hb hts i_X9 tyX9 tyX9_ok nmX9 hown hK hP hD hS 0 rfl rfl 5 (by decide) (hts (.fieldLink RX9 59 "RelayTuner$Text" "delay" "I") (by decide +kernel)) (fun _ h9 => h9) rfl (by decide +kernel) rfl rfl (Nat.le_of_ble_eq_true rfl) dX9_readPlant_59 (fun H locs hP hD hS => ?_)
      have hP : va_P G vwCl [kX9 h q (upd v_7 5 v_8), aC y q 60 ft] H := hP
      have hD : va_D A [kX9 h q (upd v_7 5 v_8), aC y q 60 ft] := hD
      refine lv_aload_n hx hb dX9_readPlant_62 rfl (lv_at hl 0 rfl) ?_
      refine va_get (D := G) (ci := 7) (v := .int v_8) (C := RX9) (T := TX9) (N := 12) hx hb hts i_X9 hown hK hP 0 rfl rfl 5 (by decide) (hts (.fieldLink RX9 59 "RelayTuner$Text" "delay" "I") (by decide +kernel)) (fun _ h9 => h9) rfl dX9_readPlant_63 ?_
      refine lv_iconst (v := (-1)) hx hb dX9_readPlant_66 (by decide) ?_
      refine lv_icmp_ne (tgt := 72) hx hb dX9_readPlant_67 (by decide) (fun c_9 => ?_) (fun c_9 => ?_)
      · refine lv_aload_n hx hb dX9_readPlant_72 rfl (lv_at hl 0 rfl) ?_
        refine lv_aload_n hx hb dX9_readPlant_73 rfl (lv_at hl 0 rfl) ?_
        refine lv_bipush (v := 72) hx hb dX9_readPlant_74 (by decide) ?_
        refine lv_iconst (v := 2) hx hb dX9_readPlant_76 (by decide) ?_
        refine lv_iconst (v := 1) hx hb dX9_readPlant_77 (by decide) ?_
        refine lv_bipush (v := 99) hx hb dX9_readPlant_78 (by decide) ?_
        refine cl_Hi (wr := []) (fun _ : Unit => [kX9 h q (s_X9_labelled_2_w0 72 1 99 (upd v_7 5 v_8) ft), aC y q 60 ft]) [0, 1] [] [0, 1] (va_runV (As := [.int 72, .int 2, .int 1, .int 99]) (rest := [.ref h]) ⟨hx, hb, hml, hown, hts⟩ (c_X9_labelled_2 l G y h 72 1 99 q (upd v_7 5 v_8) ft H.size) (cwV 4 hts gX9_readPlant_X9_labelled rfl rfl rfl (by decide +kernel) ⟨Nat.le_of_ble_eq_true rfl, Nat.le_of_ble_eq_true rfl⟩) (PH_V (hP.sub (ws' := [kX9 h q (upd v_7 5 v_8), aC y q 60 ft]) [0, 1] rfl) hK hN (hD.sub (ws' := [kX9 h q (upd v_7 5 v_8), aC y q 60 ft]) [0, 1] (by decide) rfl) (ci := 7) (q0 := 0) rfl rfl) rfl rfl hl.1 rfl (lv_room (Nat.le_of_ble_eq_true rfl)) dX9_readPlant_80 ⟨Nat.le_of_ble_eq_true rfl, Nat.le_of_ble_eq_true rfl⟩) hP hD hS hA rfl rfl rfl (by decide) rfl (fun _ => rfl) (fun _ H locs hP hD hS => ?_)
        have hP : va_P G vwCl [kX9 h q (s_X9_labelled_2_w0 72 1 99 (upd v_7 5 v_8) ft), aC y q 60 ft] H := hP
        have hD : va_D A [kX9 h q (s_X9_labelled_2_w0 72 1 99 (upd v_7 5 v_8) ft), aC y q 60 ft] := hD
        obtain ⟨v_10, e_v_10⟩ : ∃ zq9 : Nat → Int32, zq9 = (s_X9_labelled_2_w0 72 1 99 (upd v_7 5 v_8) ft) := ⟨_, rfl⟩
        have hP : va_P G vwCl [kX9 h q v_10, aC y q 60 ft] H := by rw [e_v_10]; exact hP
        have hD : va_D A [kX9 h q v_10, aC y q 60 ft] := by rw [e_v_10]; exact hD
        obtain ⟨v_11, e_v_11⟩ : ∃ zq9 : Int32, zq9 = (s_X9_labelled_2_r 72 1 99 (upd v_7 5 v_8) ft) := ⟨_, rfl⟩
        refine rw_i (x' := v_11) e_v_11.symm ?_
        refine va_put (D := G) (ci := 7) (v := .int v_11) (ty := .int) (C := RX9) (T := TX9) (N := 12) hx hb hts i_X9 tyX9 tyX9_ok nmX9 hown hK hP hD hS 0 rfl rfl 6 (by decide) (hts (.fieldLink RX9 63 "RelayTuner$Text" "fullPower" "I") (by decide +kernel)) (fun _ h9 => h9) rfl (by decide +kernel) rfl rfl (Nat.le_of_ble_eq_true rfl) dX9_readPlant_83 (fun H locs hP hD hS => ?_)
        have hP : va_P G vwCl [kX9 h q (upd v_10 6 v_11), aC y q 60 ft] H := hP
        have hD : va_D A [kX9 h q (upd v_10 6 v_11), aC y q 60 ft] := hD
        refine lv_aload_n hx hb dX9_readPlant_86 rfl (lv_at hl 0 rfl) ?_
        refine va_get (D := G) (ci := 7) (v := .int v_11) (C := RX9) (T := TX9) (N := 12) hx hb hts i_X9 hown hK hP 0 rfl rfl 6 (by decide) (hts (.fieldLink RX9 63 "RelayTuner$Text" "fullPower" "I") (by decide +kernel)) (fun _ h9 => h9) rfl dX9_readPlant_87 ?_
        refine lv_iconst (v := (-1)) hx hb dX9_readPlant_90 (by decide) ?_
        have J99_15 : ∀ (v_13 : Int32) (e_v_13 : v_13 = (if v_11 = (-1) then 0 else 1)) (z_14 : v_13 = 0 ∨ v_13 = 1) (ls : Array Slot) (hl : lv_has ls 1 []), W p l e (headSpec wsX9_readPlant rmX9_readPlant).room s m ([.ref h] : List Value).toArray below meth c H locs 0 0 QQ (F0 m 99 ls [.int v_13]) := by
          intro v_13 e_v_13 z_14 ls hl
          rw [hQQ]
          exact W.zret hx hb hr (nz_bool z_14) (end_Hi () hP hD hS (by subst e_v_13; subst e_v_11; subst e_v_10; subst e_v_8; subst e_v_7; subst e_v_5; subst e_v_4; subst e_v_2; subst e_v_1; unfold s_X9_readPlant_r; exact ((if_neg c_3).trans ((if_neg c_6).trans (if_neg c_9))).symm) (congrArg (fun (z0 : Nat → Int32) => [kX9 h q z0, aC y q 60 ft]) (by subst e_v_13; subst e_v_11; subst e_v_10; subst e_v_8; subst e_v_7; subst e_v_5; subst e_v_4; subst e_v_2; subst e_v_1; unfold s_X9_readPlant_w0; exact ((if_neg c_3).trans ((if_neg c_6).trans (if_neg c_9))).symm))) hS.2.2 dX9_readPlant_99
        refine lv_icmp_eq (tgt := 98) hx hb dX9_readPlant_91 (by decide) (fun c_12 => ?_) (fun c_12 => ?_)
        · refine lv_iconst (v := 0) hx hb dX9_readPlant_98 (by decide) ?_
          exact J99_15 _ (if_pos c_12).symm (Or.inl rfl) ls (lv_sub hl [] rfl)
        · refine lv_iconst (v := 1) hx hb dX9_readPlant_94 (by decide) ?_
          refine lv_goto (tgt := 99) hx hb dX9_readPlant_95 (by decide) ?_
          exact J99_15 _ (if_neg c_12).symm (Or.inr rfl) ls (lv_sub hl [] rfl)
      · refine lv_iconst (v := 0) hx hb dX9_readPlant_70 (by decide) ?_
        rw [hQQ]
        exact W.zret hx hb hr (nz_bool (Or.inl rfl)) (end_Hi () hP hD hS (by subst e_v_8; subst e_v_7; subst e_v_5; subst e_v_4; subst e_v_2; subst e_v_1; unfold s_X9_readPlant_r; exact ((if_neg c_3).trans ((if_neg c_6).trans (if_pos c_9))).symm) (congrArg (fun (z0 : Nat → Int32) => [kX9 h q z0, aC y q 60 ft]) (by subst e_v_8; subst e_v_7; subst e_v_5; subst e_v_4; subst e_v_2; subst e_v_1; unfold s_X9_readPlant_w0; exact ((if_neg c_3).trans ((if_neg c_6).trans (if_pos c_9))).symm))) hS.2.2 dX9_readPlant_71
    · refine lv_iconst (v := 0) hx hb dX9_readPlant_46 (by decide) ?_
      rw [hQQ]
      exact W.zret hx hb hr (nz_bool (Or.inl rfl)) (end_Hi () hP hD hS (by subst e_v_5; subst e_v_4; subst e_v_2; subst e_v_1; unfold s_X9_readPlant_r; exact ((if_neg c_3).trans (if_pos c_6)).symm) (congrArg (fun (z0 : Nat → Int32) => [kX9 h q z0, aC y q 60 ft]) (by subst e_v_5; subst e_v_4; subst e_v_2; subst e_v_1; unfold s_X9_readPlant_w0; exact ((if_neg c_3).trans (if_pos c_6)).symm))) hS.2.2 dX9_readPlant_47
  · refine lv_iconst (v := 0) hx hb dX9_readPlant_22 (by decide) ?_
    rw [hQQ]
    exact W.zret hx hb hr (nz_bool (Or.inl rfl)) (end_Hi () hP hD hS (by subst e_v_2; subst e_v_1; unfold s_X9_readPlant_r; exact (if_pos c_3).symm) (congrArg (fun (z0 : Nat → Int32) => [kX9 h q z0, aC y q 60 ft]) (by subst e_v_2; subst e_v_1; unfold s_X9_readPlant_w0; exact (if_pos c_3).symm))) hS.2.2 dX9_readPlant_23

def s_X9_readPart_r (x : Nat → Int32) (ft : Nat → Int32) : Int32 := (if (s_X9_isHere_r 65 x ft) = 0 then (if (s_X9_isHere_r 83 x ft) = 0 then (if (s_X9_isHere_r 66 x ft) = 0 then (if (s_X9_isHere_r 84 x ft) = 0 then 0 else (if (x 9) = (-1) then (let v_7 : Int32 := (s_X9_labelled_2_r 84 0 99 x ft); (let v_9 : Int32 := (if v_7 = (-1) then 0 else 1); v_9)) else 0)) else (if (x 8) = (-1) then (let v_22 : Int32 := (s_X9_labelled_2_r 66 0 20 x ft); (let v_24 : Int32 := (if v_22 = (-1) then 0 else 1); v_24)) else (if (s_X9_isHere_r 84 x ft) = 0 then 0 else (if (x 9) = (-1) then (let v_16 : Int32 := (s_X9_labelled_2_r 84 0 99 x ft); (let v_18 : Int32 := (if v_16 = (-1) then 0 else 1); v_18)) else 0)))) else (if (x 7) = (-1) then (let v_53 : Int32 := (s_X9_labelled_3_r 83 0 999 x ft); (let v_55 : Int32 := (if v_53 = (-1) then 0 else 1); v_55)) else (if (s_X9_isHere_r 66 x ft) = 0 then (if (s_X9_isHere_r 84 x ft) = 0 then 0 else (if (x 9) = (-1) then (let v_32 : Int32 := (s_X9_labelled_2_r 84 0 99 x ft); (let v_34 : Int32 := (if v_32 = (-1) then 0 else 1); v_34)) else 0)) else (if (x 8) = (-1) then (let v_47 : Int32 := (s_X9_labelled_2_r 66 0 20 x ft); (let v_49 : Int32 := (if v_47 = (-1) then 0 else 1); v_49)) else (if (s_X9_isHere_r 84 x ft) = 0 then 0 else (if (x 9) = (-1) then (let v_41 : Int32 := (s_X9_labelled_2_r 84 0 99 x ft); (let v_43 : Int32 := (if v_41 = (-1) then 0 else 1); v_43)) else 0)))))) else (if (x 10) = 0 then (let v_116 : Int32 := (s_X9_readAmbient_r x ft); v_116) else (if (s_X9_isHere_r 83 x ft) = 0 then (if (s_X9_isHere_r 66 x ft) = 0 then (if (s_X9_isHere_r 84 x ft) = 0 then 0 else (if (x 9) = (-1) then (let v_64 : Int32 := (s_X9_labelled_2_r 84 0 99 x ft); (let v_66 : Int32 := (if v_64 = (-1) then 0 else 1); v_66)) else 0)) else (if (x 8) = (-1) then (let v_79 : Int32 := (s_X9_labelled_2_r 66 0 20 x ft); (let v_81 : Int32 := (if v_79 = (-1) then 0 else 1); v_81)) else (if (s_X9_isHere_r 84 x ft) = 0 then 0 else (if (x 9) = (-1) then (let v_73 : Int32 := (s_X9_labelled_2_r 84 0 99 x ft); (let v_75 : Int32 := (if v_73 = (-1) then 0 else 1); v_75)) else 0)))) else (if (x 7) = (-1) then (let v_110 : Int32 := (s_X9_labelled_3_r 83 0 999 x ft); (let v_112 : Int32 := (if v_110 = (-1) then 0 else 1); v_112)) else (if (s_X9_isHere_r 66 x ft) = 0 then (if (s_X9_isHere_r 84 x ft) = 0 then 0 else (if (x 9) = (-1) then (let v_89 : Int32 := (s_X9_labelled_2_r 84 0 99 x ft); (let v_91 : Int32 := (if v_89 = (-1) then 0 else 1); v_91)) else 0)) else (if (x 8) = (-1) then (let v_104 : Int32 := (s_X9_labelled_2_r 66 0 20 x ft); (let v_106 : Int32 := (if v_104 = (-1) then 0 else 1); v_106)) else (if (s_X9_isHere_r 84 x ft) = 0 then 0 else (if (x 9) = (-1) then (let v_98 : Int32 := (s_X9_labelled_2_r 84 0 99 x ft); (let v_100 : Int32 := (if v_98 = (-1) then 0 else 1); v_100)) else 0))))))))
def s_X9_readPart_w0 (x : Nat → Int32) (ft : Nat → Int32) : Nat → Int32 := (if (s_X9_isHere_r 65 x ft) = 0 then (if (s_X9_isHere_r 83 x ft) = 0 then (if (s_X9_isHere_r 66 x ft) = 0 then (if (s_X9_isHere_r 84 x ft) = 0 then x else (if (x 9) = (-1) then (let v_6 : Nat → Int32 := (s_X9_labelled_2_w0 84 0 99 x ft); (let v_7 : Int32 := (s_X9_labelled_2_r 84 0 99 x ft); (upd v_6 9 v_7))) else x)) else (if (x 8) = (-1) then (let v_21 : Nat → Int32 := (s_X9_labelled_2_w0 66 0 20 x ft); (let v_22 : Int32 := (s_X9_labelled_2_r 66 0 20 x ft); (upd v_21 8 v_22))) else (if (s_X9_isHere_r 84 x ft) = 0 then x else (if (x 9) = (-1) then (let v_15 : Nat → Int32 := (s_X9_labelled_2_w0 84 0 99 x ft); (let v_16 : Int32 := (s_X9_labelled_2_r 84 0 99 x ft); (upd v_15 9 v_16))) else x)))) else (if (x 7) = (-1) then (let v_52 : Nat → Int32 := (s_X9_labelled_3_w0 83 0 999 x ft); (let v_53 : Int32 := (s_X9_labelled_3_r 83 0 999 x ft); (upd v_52 7 v_53))) else (if (s_X9_isHere_r 66 x ft) = 0 then (if (s_X9_isHere_r 84 x ft) = 0 then x else (if (x 9) = (-1) then (let v_31 : Nat → Int32 := (s_X9_labelled_2_w0 84 0 99 x ft); (let v_32 : Int32 := (s_X9_labelled_2_r 84 0 99 x ft); (upd v_31 9 v_32))) else x)) else (if (x 8) = (-1) then (let v_46 : Nat → Int32 := (s_X9_labelled_2_w0 66 0 20 x ft); (let v_47 : Int32 := (s_X9_labelled_2_r 66 0 20 x ft); (upd v_46 8 v_47))) else (if (s_X9_isHere_r 84 x ft) = 0 then x else (if (x 9) = (-1) then (let v_40 : Nat → Int32 := (s_X9_labelled_2_w0 84 0 99 x ft); (let v_41 : Int32 := (s_X9_labelled_2_r 84 0 99 x ft); (upd v_40 9 v_41))) else x)))))) else (if (x 10) = 0 then (let v_115 : Nat → Int32 := (s_X9_readAmbient_w0 x ft); v_115) else (if (s_X9_isHere_r 83 x ft) = 0 then (if (s_X9_isHere_r 66 x ft) = 0 then (if (s_X9_isHere_r 84 x ft) = 0 then x else (if (x 9) = (-1) then (let v_63 : Nat → Int32 := (s_X9_labelled_2_w0 84 0 99 x ft); (let v_64 : Int32 := (s_X9_labelled_2_r 84 0 99 x ft); (upd v_63 9 v_64))) else x)) else (if (x 8) = (-1) then (let v_78 : Nat → Int32 := (s_X9_labelled_2_w0 66 0 20 x ft); (let v_79 : Int32 := (s_X9_labelled_2_r 66 0 20 x ft); (upd v_78 8 v_79))) else (if (s_X9_isHere_r 84 x ft) = 0 then x else (if (x 9) = (-1) then (let v_72 : Nat → Int32 := (s_X9_labelled_2_w0 84 0 99 x ft); (let v_73 : Int32 := (s_X9_labelled_2_r 84 0 99 x ft); (upd v_72 9 v_73))) else x)))) else (if (x 7) = (-1) then (let v_109 : Nat → Int32 := (s_X9_labelled_3_w0 83 0 999 x ft); (let v_110 : Int32 := (s_X9_labelled_3_r 83 0 999 x ft); (upd v_109 7 v_110))) else (if (s_X9_isHere_r 66 x ft) = 0 then (if (s_X9_isHere_r 84 x ft) = 0 then x else (if (x 9) = (-1) then (let v_88 : Nat → Int32 := (s_X9_labelled_2_w0 84 0 99 x ft); (let v_89 : Int32 := (s_X9_labelled_2_r 84 0 99 x ft); (upd v_88 9 v_89))) else x)) else (if (x 8) = (-1) then (let v_103 : Nat → Int32 := (s_X9_labelled_2_w0 66 0 20 x ft); (let v_104 : Int32 := (s_X9_labelled_2_r 66 0 20 x ft); (upd v_103 8 v_104))) else (if (s_X9_isHere_r 84 x ft) = 0 then x else (if (x 9) = (-1) then (let v_97 : Nat → Int32 := (s_X9_labelled_2_w0 84 0 99 x ft); (let v_98 : Int32 := (s_X9_labelled_2_r 84 0 99 x ft); (upd v_97 9 v_98))) else x))))))))
theorem z_X9_readPart (x : Nat → Int32) (ft : Nat → Int32) : s_X9_readPart_r x ft = 0 ∨ s_X9_readPart_r x ft = 1 := by unfold s_X9_readPart_r; (try dsimp only); exact (z_ite (z_ite (z_ite (z_ite (Or.inl rfl) (z_ite (z_ite (Or.inl rfl) (Or.inr rfl)) (Or.inl rfl))) (z_ite (z_ite (Or.inl rfl) (Or.inr rfl)) (z_ite (Or.inl rfl) (z_ite (z_ite (Or.inl rfl) (Or.inr rfl)) (Or.inl rfl))))) (z_ite (z_ite (Or.inl rfl) (Or.inr rfl)) (z_ite (z_ite (Or.inl rfl) (z_ite (z_ite (Or.inl rfl) (Or.inr rfl)) (Or.inl rfl))) (z_ite (z_ite (Or.inl rfl) (Or.inr rfl)) (z_ite (Or.inl rfl) (z_ite (z_ite (Or.inl rfl) (Or.inr rfl)) (Or.inl rfl))))))) (z_ite (z_X9_readAmbient _ _) (z_ite (z_ite (z_ite (Or.inl rfl) (z_ite (z_ite (Or.inl rfl) (Or.inr rfl)) (Or.inl rfl))) (z_ite (z_ite (Or.inl rfl) (Or.inr rfl)) (z_ite (Or.inl rfl) (z_ite (z_ite (Or.inl rfl) (Or.inr rfl)) (Or.inl rfl))))) (z_ite (z_ite (Or.inl rfl) (Or.inr rfl)) (z_ite (z_ite (Or.inl rfl) (z_ite (z_ite (Or.inl rfl) (Or.inr rfl)) (Or.inl rfl))) (z_ite (z_ite (Or.inl rfl) (Or.inr rfl)) (z_ite (Or.inl rfl) (z_ite (z_ite (Or.inl rfl) (Or.inr rfl)) (Or.inl rfl)))))))))
abbrev rmX9_readPart : Room := ({ frames := 3, cells := 0, slots := 0, locals := 73 } : Room)
set_option maxHeartbeats 4000000 in
set_option maxRecDepth 100000 in
theorem c_X9_readPart (l : Launch) (G : va_G) (y : Nat → ClassId) (h : Nat) (q : Nat) (x : Nat → Int32) (ft : Nat → Int32) (sz : Nat) : Met l yX9_readPart wsX9_readPart rmX9_readPart (PH G y [.ref h] [kX9 h q x, aC y q 60 ft] sz) (QHi G (s_X9_readPart_r x ft) (fun _ : Unit => [kX9 h q (s_X9_readPart_w0 x ft), aC y q 60 ft]) (va_A [kX9 h q x, aC y q 60 ft] sz)) 0 0 (va_A [kX9 h q x, aC y q 60 ft] sz) := by
  refine Met.ofW (cc := cX9_readPart) (maxL := 1) (ret := (some .boolean)) (by decide) rfl ?_
  intro p e s m args below meth c s₁ B hml hv
  obtain ⟨rfl, hsz, hP, ⟨hK, hN⟩, hD0⟩ := hv
  have hx := B.exec
  have hb := B.bytes
  have hr := B.returns
  have hts := atoms_spec (ws := wsX9_readPart) B.pre
  have hown : s.vm.findClass RX9 = some m.cls := findClass_of_methodNamed B.named
  have hlocks := B.notSynchronized
  have i_X9 : ∀ w ∈ u_ws RX9 TX9 12, w ∈ wsX9_readPart := by decide +kernel
  subst hsz
  have hD := hD0.self (sz := s.heap.size)
  generalize hAe : va_A [kX9 h q x, aC y q 60 ft] s.heap.size = A at hD ⊢
  have hA : ∀ q : Nat, s.heap.size ≤ q → A q := fun q h => by rw [← hAe]; exact Or.inr h
  have hS : va_S A s.heap s.heap [] := va_S.rf
  have hP : va_P G vwCl [kX9 h q x, aC y q 60 ft] s.heap := hP
  have hl := lv_entry ([.ref h]) (n := 1) (Nat.le_of_ble_eq_true rfl)
  rw [lg_entry_eq]
  generalize (lg_sl ([.ref h]) ++ List.replicate (1 - (lg_sl ([.ref h])).length) Slot.unset).toArray = ls at hl ⊢
  have hl : lv_has ls 1 [(0, .ref h)] := hl
  obtain ⟨QQ, hQQ⟩ : ∃ zq9, zq9 = MQ below (QHi G (s_X9_readPart_r x ft) (fun _ : Unit => [kX9 h q (s_X9_readPart_w0 x ft), aC y q 60 ft]) A) ([.ref h] : List Value).toArray s 0 0 A := ⟨_, rfl⟩
  rw [← hQQ]
  refine lv_aload_n hx hb dX9_readPart_0 rfl (lv_at hl 0 rfl) ?_
  refine lv_bipush (v := 65) hx hb dX9_readPart_1 (by decide) ?_
  refine cl_Ri (va_runV (As := [.int 65]) (rest := []) ⟨hx, hb, hml, hown, hts⟩ (c_X9_isHere l G y h 65 q x ft) (cwV 1 hts gX9_readPart_X9_isHere rfl rfl rfl (by decide +kernel) ⟨Nat.le_of_ble_eq_true rfl, Nat.le_of_ble_eq_true rfl⟩) (PR_V (hP.sub (ws' := [kX9 h q x, aC y q 60 ft]) [0, 1] rfl) hK hN (ci := 7) (q0 := 0) rfl rfl) rfl rfl hl.1 rfl (lv_room (Nat.le_of_ble_eq_true rfl)) dX9_readPart_3 ⟨Nat.le_of_ble_eq_true rfl, Nat.le_of_ble_eq_true rfl⟩) ?_
  refine lv_if_eq (tgt := 21) hx hb dX9_readPart_6 (by decide) (fun c_1 => ?_) (fun c_1 => ?_)
  · refine lv_aload_n hx hb dX9_readPart_21 rfl (lv_at hl 0 rfl) ?_
    refine lv_bipush (v := 83) hx hb dX9_readPart_22 (by decide) ?_
    refine cl_Ri (va_runV (As := [.int 83]) (rest := []) ⟨hx, hb, hml, hown, hts⟩ (c_X9_isHere l G y h 83 q x ft) (cwV 1 hts gX9_readPart_X9_isHere rfl rfl rfl (by decide +kernel) ⟨Nat.le_of_ble_eq_true rfl, Nat.le_of_ble_eq_true rfl⟩) (PR_V (hP.sub (ws' := [kX9 h q x, aC y q 60 ft]) [0, 1] rfl) hK hN (ci := 7) (q0 := 0) rfl rfl) rfl rfl hl.1 rfl (lv_room (Nat.le_of_ble_eq_true rfl)) dX9_readPart_24 ⟨Nat.le_of_ble_eq_true rfl, Nat.le_of_ble_eq_true rfl⟩) ?_
    refine lv_if_eq (tgt := 67) hx hb dX9_readPart_27 (by decide) (fun c_2 => ?_) (fun c_2 => ?_)
    · refine lv_aload_n hx hb dX9_readPart_67 rfl (lv_at hl 0 rfl) ?_
      refine lv_bipush (v := 66) hx hb dX9_readPart_68 (by decide) ?_
      refine cl_Ri (va_runV (As := [.int 66]) (rest := []) ⟨hx, hb, hml, hown, hts⟩ (c_X9_isHere l G y h 66 q x ft) (cwV 1 hts gX9_readPart_X9_isHere rfl rfl rfl (by decide +kernel) ⟨Nat.le_of_ble_eq_true rfl, Nat.le_of_ble_eq_true rfl⟩) (PR_V (hP.sub (ws' := [kX9 h q x, aC y q 60 ft]) [0, 1] rfl) hK hN (ci := 7) (q0 := 0) rfl rfl) rfl rfl hl.1 rfl (lv_room (Nat.le_of_ble_eq_true rfl)) dX9_readPart_70 ⟨Nat.le_of_ble_eq_true rfl, Nat.le_of_ble_eq_true rfl⟩) ?_
      refine lv_if_eq (tgt := 112) hx hb dX9_readPart_73 (by decide) (fun c_3 => ?_) (fun c_3 => ?_)
      · refine lv_aload_n hx hb dX9_readPart_112 rfl (lv_at hl 0 rfl) ?_
        refine lv_bipush (v := 84) hx hb dX9_readPart_113 (by decide) ?_
        refine cl_Ri (va_runV (As := [.int 84]) (rest := []) ⟨hx, hb, hml, hown, hts⟩ (c_X9_isHere l G y h 84 q x ft) (cwV 1 hts gX9_readPart_X9_isHere rfl rfl rfl (by decide +kernel) ⟨Nat.le_of_ble_eq_true rfl, Nat.le_of_ble_eq_true rfl⟩) (PR_V (hP.sub (ws' := [kX9 h q x, aC y q 60 ft]) [0, 1] rfl) hK hN (ci := 7) (q0 := 0) rfl rfl) rfl rfl hl.1 rfl (lv_room (Nat.le_of_ble_eq_true rfl)) dX9_readPart_115 ⟨Nat.le_of_ble_eq_true rfl, Nat.le_of_ble_eq_true rfl⟩) ?_
        refine lv_if_eq (tgt := 157) hx hb dX9_readPart_118 (by decide) (fun c_4 => ?_) (fun c_4 => ?_)
        · refine lv_iconst (v := 0) hx hb dX9_readPart_157 (by decide) ?_
          rw [hQQ]
          exact W.zret hx hb hr (nz_bool (Or.inl rfl)) (end_Hi () hP hD hS (by unfold s_X9_readPart_r; exact ((if_pos c_1).trans ((if_pos c_2).trans ((if_pos c_3).trans (if_pos c_4)))).symm) (congrArg (fun (z0 : Nat → Int32) => [kX9 h q z0, aC y q 60 ft]) (by unfold s_X9_readPart_w0; exact ((if_pos c_1).trans ((if_pos c_2).trans ((if_pos c_3).trans (if_pos c_4)))).symm))) hS.2.2 dX9_readPart_158
        · refine lv_aload_n hx hb dX9_readPart_121 rfl (lv_at hl 0 rfl) ?_
          refine va_get (D := G) (ci := 7) (v := .int (x 9)) (C := RX9) (T := TX9) (N := 12) hx hb hts i_X9 hown hK hP 0 rfl rfl 9 (by decide) (hts (.fieldLink RX9 28 "RelayTuner$Text" "tolerance" "I") (by decide +kernel)) (fun _ h9 => h9) rfl dX9_readPart_122 ?_
          refine lv_iconst (v := (-1)) hx hb dX9_readPart_125 (by decide) ?_
          refine lv_icmp_ne (tgt := 157) hx hb dX9_readPart_126 (by decide) (fun c_5 => ?_) (fun c_5 => ?_)
          · refine lv_iconst (v := 0) hx hb dX9_readPart_157 (by decide) ?_
            rw [hQQ]
            exact W.zret hx hb hr (nz_bool (Or.inl rfl)) (end_Hi () hP hD hS (by unfold s_X9_readPart_r; exact ((if_pos c_1).trans ((if_pos c_2).trans ((if_pos c_3).trans ((if_neg c_4).trans (if_neg c_5))))).symm) (congrArg (fun (z0 : Nat → Int32) => [kX9 h q z0, aC y q 60 ft]) (by unfold s_X9_readPart_w0; exact ((if_pos c_1).trans ((if_pos c_2).trans ((if_pos c_3).trans ((if_neg c_4).trans (if_neg c_5))))).symm))) hS.2.2 dX9_readPart_158
          · refine lv_aload_n hx hb dX9_readPart_129 rfl (lv_at hl 0 rfl) ?_
            refine lv_aload_n hx hb dX9_readPart_130 rfl (lv_at hl 0 rfl) ?_
            refine lv_bipush (v := 84) hx hb dX9_readPart_131 (by decide) ?_
            refine lv_iconst (v := 2) hx hb dX9_readPart_133 (by decide) ?_
            refine lv_iconst (v := 0) hx hb dX9_readPart_134 (by decide) ?_
            refine lv_bipush (v := 99) hx hb dX9_readPart_135 (by decide) ?_
            refine cl_Hi (wr := []) (fun _ : Unit => [kX9 h q (s_X9_labelled_2_w0 84 0 99 x ft), aC y q 60 ft]) [0, 1] [] [0, 1] (va_runV (As := [.int 84, .int 2, .int 0, .int 99]) (rest := [.ref h]) ⟨hx, hb, hml, hown, hts⟩ (c_X9_labelled_2 l G y h 84 0 99 q x ft s.heap.size) (cwV 4 hts gX9_readPart_X9_labelled rfl rfl rfl (by decide +kernel) ⟨Nat.le_of_ble_eq_true rfl, Nat.le_of_ble_eq_true rfl⟩) (PH_V (hP.sub (ws' := [kX9 h q x, aC y q 60 ft]) [0, 1] rfl) hK hN (hD.sub (ws' := [kX9 h q x, aC y q 60 ft]) [0, 1] (by decide) rfl) (ci := 7) (q0 := 0) rfl rfl) rfl rfl hl.1 rfl (lv_room (Nat.le_of_ble_eq_true rfl)) dX9_readPart_137 ⟨Nat.le_of_ble_eq_true rfl, Nat.le_of_ble_eq_true rfl⟩) hP hD hS hA rfl rfl rfl (by decide) rfl (fun _ => rfl) (fun _ H locs hP hD hS => ?_)
            have hP : va_P G vwCl [kX9 h q (s_X9_labelled_2_w0 84 0 99 x ft), aC y q 60 ft] H := hP
            have hD : va_D A [kX9 h q (s_X9_labelled_2_w0 84 0 99 x ft), aC y q 60 ft] := hD
            obtain ⟨v_6, e_v_6⟩ : ∃ zq9 : Nat → Int32, zq9 = (s_X9_labelled_2_w0 84 0 99 x ft) := ⟨_, rfl⟩
            have hP : va_P G vwCl [kX9 h q v_6, aC y q 60 ft] H := by rw [e_v_6]; exact hP
            have hD : va_D A [kX9 h q v_6, aC y q 60 ft] := by rw [e_v_6]; exact hD
            obtain ⟨v_7, e_v_7⟩ : ∃ zq9 : Int32, zq9 = (s_X9_labelled_2_r 84 0 99 x ft) := ⟨_, rfl⟩
            refine rw_i (x' := v_7) e_v_7.symm ?_
            refine va_put (D := G) (ci := 7) (v := .int v_7) (ty := .int) (C := RX9) (T := TX9) (N := 12) hx hb hts i_X9 tyX9 tyX9_ok nmX9 hown hK hP hD hS 0 rfl rfl 9 (by decide) (hts (.fieldLink RX9 28 "RelayTuner$Text" "tolerance" "I") (by decide +kernel)) (fun _ h9 => h9) rfl (by decide +kernel) rfl rfl (Nat.le_of_ble_eq_true rfl) dX9_readPart_140 (fun H locs hP hD hS => ?_)
            have hP : va_P G vwCl [kX9 h q (upd v_6 9 v_7), aC y q 60 ft] H := hP
            have hD : va_D A [kX9 h q (upd v_6 9 v_7), aC y q 60 ft] := hD
            refine lv_aload_n hx hb dX9_readPart_143 rfl (lv_at hl 0 rfl) ?_
            refine va_get (D := G) (ci := 7) (v := .int v_7) (C := RX9) (T := TX9) (N := 12) hx hb hts i_X9 hown hK hP 0 rfl rfl 9 (by decide) (hts (.fieldLink RX9 28 "RelayTuner$Text" "tolerance" "I") (by decide +kernel)) (fun _ h9 => h9) rfl dX9_readPart_144 ?_
            refine lv_iconst (v := (-1)) hx hb dX9_readPart_147 (by decide) ?_
            have J156_11 : ∀ (v_9 : Int32) (e_v_9 : v_9 = (if v_7 = (-1) then 0 else 1)) (z_10 : v_9 = 0 ∨ v_9 = 1) (ls : Array Slot) (hl : lv_has ls 1 []), W p l e (headSpec wsX9_readPart rmX9_readPart).room s m ([.ref h] : List Value).toArray below meth c H locs 0 0 QQ (F0 m 156 ls [.int v_9]) := by
              intro v_9 e_v_9 z_10 ls hl
              rw [hQQ]
              exact W.zret hx hb hr (nz_bool z_10) (end_Hi () hP hD hS (by subst e_v_9; subst e_v_7; subst e_v_6; unfold s_X9_readPart_r; exact ((if_pos c_1).trans ((if_pos c_2).trans ((if_pos c_3).trans ((if_neg c_4).trans (if_pos c_5))))).symm) (congrArg (fun (z0 : Nat → Int32) => [kX9 h q z0, aC y q 60 ft]) (by subst e_v_9; subst e_v_7; subst e_v_6; unfold s_X9_readPart_w0; exact ((if_pos c_1).trans ((if_pos c_2).trans ((if_pos c_3).trans ((if_neg c_4).trans (if_pos c_5))))).symm))) hS.2.2 dX9_readPart_156
            refine lv_icmp_eq (tgt := 155) hx hb dX9_readPart_148 (by decide) (fun c_8 => ?_) (fun c_8 => ?_)
            · refine lv_iconst (v := 0) hx hb dX9_readPart_155 (by decide) ?_
              exact J156_11 _ (if_pos c_8).symm (Or.inl rfl) ls (lv_sub hl [] rfl)
            · refine lv_iconst (v := 1) hx hb dX9_readPart_151 (by decide) ?_
              refine lv_goto (tgt := 156) hx hb dX9_readPart_152 (by decide) ?_
              exact J156_11 _ (if_neg c_8).symm (Or.inr rfl) ls (lv_sub hl [] rfl)
      · refine lv_aload_n hx hb dX9_readPart_76 rfl (lv_at hl 0 rfl) ?_
        refine va_get (D := G) (ci := 7) (v := .int (x 8)) (C := RX9) (T := TX9) (N := 12) hx hb hts i_X9 hown hK hP 0 rfl rfl 8 (by decide) (hts (.fieldLink RX9 25 "RelayTuner$Text" "band" "I") (by decide +kernel)) (fun _ h9 => h9) rfl dX9_readPart_77 ?_
        refine lv_iconst (v := (-1)) hx hb dX9_readPart_80 (by decide) ?_
        refine lv_icmp_ne (tgt := 112) hx hb dX9_readPart_81 (by decide) (fun c_12 => ?_) (fun c_12 => ?_)
        · refine lv_aload_n hx hb dX9_readPart_112 rfl (lv_at hl 0 rfl) ?_
          refine lv_bipush (v := 84) hx hb dX9_readPart_113 (by decide) ?_
          refine cl_Ri (va_runV (As := [.int 84]) (rest := []) ⟨hx, hb, hml, hown, hts⟩ (c_X9_isHere l G y h 84 q x ft) (cwV 1 hts gX9_readPart_X9_isHere rfl rfl rfl (by decide +kernel) ⟨Nat.le_of_ble_eq_true rfl, Nat.le_of_ble_eq_true rfl⟩) (PR_V (hP.sub (ws' := [kX9 h q x, aC y q 60 ft]) [0, 1] rfl) hK hN (ci := 7) (q0 := 0) rfl rfl) rfl rfl hl.1 rfl (lv_room (Nat.le_of_ble_eq_true rfl)) dX9_readPart_115 ⟨Nat.le_of_ble_eq_true rfl, Nat.le_of_ble_eq_true rfl⟩) ?_
          refine lv_if_eq (tgt := 157) hx hb dX9_readPart_118 (by decide) (fun c_13 => ?_) (fun c_13 => ?_)
          · refine lv_iconst (v := 0) hx hb dX9_readPart_157 (by decide) ?_
            rw [hQQ]
            exact W.zret hx hb hr (nz_bool (Or.inl rfl)) (end_Hi () hP hD hS (by unfold s_X9_readPart_r; exact ((if_pos c_1).trans ((if_pos c_2).trans ((if_neg c_3).trans ((if_neg c_12).trans (if_pos c_13))))).symm) (congrArg (fun (z0 : Nat → Int32) => [kX9 h q z0, aC y q 60 ft]) (by unfold s_X9_readPart_w0; exact ((if_pos c_1).trans ((if_pos c_2).trans ((if_neg c_3).trans ((if_neg c_12).trans (if_pos c_13))))).symm))) hS.2.2 dX9_readPart_158
          · refine lv_aload_n hx hb dX9_readPart_121 rfl (lv_at hl 0 rfl) ?_
            refine va_get (D := G) (ci := 7) (v := .int (x 9)) (C := RX9) (T := TX9) (N := 12) hx hb hts i_X9 hown hK hP 0 rfl rfl 9 (by decide) (hts (.fieldLink RX9 28 "RelayTuner$Text" "tolerance" "I") (by decide +kernel)) (fun _ h9 => h9) rfl dX9_readPart_122 ?_
            refine lv_iconst (v := (-1)) hx hb dX9_readPart_125 (by decide) ?_
            refine lv_icmp_ne (tgt := 157) hx hb dX9_readPart_126 (by decide) (fun c_14 => ?_) (fun c_14 => ?_)
            · refine lv_iconst (v := 0) hx hb dX9_readPart_157 (by decide) ?_
              rw [hQQ]
              exact W.zret hx hb hr (nz_bool (Or.inl rfl)) (end_Hi () hP hD hS (by unfold s_X9_readPart_r; exact ((if_pos c_1).trans ((if_pos c_2).trans ((if_neg c_3).trans ((if_neg c_12).trans ((if_neg c_13).trans (if_neg c_14)))))).symm) (congrArg (fun (z0 : Nat → Int32) => [kX9 h q z0, aC y q 60 ft]) (by unfold s_X9_readPart_w0; exact ((if_pos c_1).trans ((if_pos c_2).trans ((if_neg c_3).trans ((if_neg c_12).trans ((if_neg c_13).trans (if_neg c_14)))))).symm))) hS.2.2 dX9_readPart_158
            · refine lv_aload_n hx hb dX9_readPart_129 rfl (lv_at hl 0 rfl) ?_
              refine lv_aload_n hx hb dX9_readPart_130 rfl (lv_at hl 0 rfl) ?_
              refine lv_bipush (v := 84) hx hb dX9_readPart_131 (by decide) ?_
              refine lv_iconst (v := 2) hx hb dX9_readPart_133 (by decide) ?_
              refine lv_iconst (v := 0) hx hb dX9_readPart_134 (by decide) ?_
              refine lv_bipush (v := 99) hx hb dX9_readPart_135 (by decide) ?_
              refine cl_Hi (wr := []) (fun _ : Unit => [kX9 h q (s_X9_labelled_2_w0 84 0 99 x ft), aC y q 60 ft]) [0, 1] [] [0, 1] (va_runV (As := [.int 84, .int 2, .int 0, .int 99]) (rest := [.ref h]) ⟨hx, hb, hml, hown, hts⟩ (c_X9_labelled_2 l G y h 84 0 99 q x ft s.heap.size) (cwV 4 hts gX9_readPart_X9_labelled rfl rfl rfl (by decide +kernel) ⟨Nat.le_of_ble_eq_true rfl, Nat.le_of_ble_eq_true rfl⟩) (PH_V (hP.sub (ws' := [kX9 h q x, aC y q 60 ft]) [0, 1] rfl) hK hN (hD.sub (ws' := [kX9 h q x, aC y q 60 ft]) [0, 1] (by decide) rfl) (ci := 7) (q0 := 0) rfl rfl) rfl rfl hl.1 rfl (lv_room (Nat.le_of_ble_eq_true rfl)) dX9_readPart_137 ⟨Nat.le_of_ble_eq_true rfl, Nat.le_of_ble_eq_true rfl⟩) hP hD hS hA rfl rfl rfl (by decide) rfl (fun _ => rfl) (fun _ H locs hP hD hS => ?_)
              have hP : va_P G vwCl [kX9 h q (s_X9_labelled_2_w0 84 0 99 x ft), aC y q 60 ft] H := hP
              have hD : va_D A [kX9 h q (s_X9_labelled_2_w0 84 0 99 x ft), aC y q 60 ft] := hD
              obtain ⟨v_15, e_v_15⟩ : ∃ zq9 : Nat → Int32, zq9 = (s_X9_labelled_2_w0 84 0 99 x ft) := ⟨_, rfl⟩
              have hP : va_P G vwCl [kX9 h q v_15, aC y q 60 ft] H := by rw [e_v_15]; exact hP
              have hD : va_D A [kX9 h q v_15, aC y q 60 ft] := by rw [e_v_15]; exact hD
              obtain ⟨v_16, e_v_16⟩ : ∃ zq9 : Int32, zq9 = (s_X9_labelled_2_r 84 0 99 x ft) := ⟨_, rfl⟩
              refine rw_i (x' := v_16) e_v_16.symm ?_
              refine va_put (D := G) (ci := 7) (v := .int v_16) (ty := .int) (C := RX9) (T := TX9) (N := 12) hx hb hts i_X9 tyX9 tyX9_ok nmX9 hown hK hP hD hS 0 rfl rfl 9 (by decide) (hts (.fieldLink RX9 28 "RelayTuner$Text" "tolerance" "I") (by decide +kernel)) (fun _ h9 => h9) rfl (by decide +kernel) rfl rfl (Nat.le_of_ble_eq_true rfl) dX9_readPart_140 (fun H locs hP hD hS => ?_)
              have hP : va_P G vwCl [kX9 h q (upd v_15 9 v_16), aC y q 60 ft] H := hP
              have hD : va_D A [kX9 h q (upd v_15 9 v_16), aC y q 60 ft] := hD
              refine lv_aload_n hx hb dX9_readPart_143 rfl (lv_at hl 0 rfl) ?_
              refine va_get (D := G) (ci := 7) (v := .int v_16) (C := RX9) (T := TX9) (N := 12) hx hb hts i_X9 hown hK hP 0 rfl rfl 9 (by decide) (hts (.fieldLink RX9 28 "RelayTuner$Text" "tolerance" "I") (by decide +kernel)) (fun _ h9 => h9) rfl dX9_readPart_144 ?_
              refine lv_iconst (v := (-1)) hx hb dX9_readPart_147 (by decide) ?_
              have J156_20 : ∀ (v_18 : Int32) (e_v_18 : v_18 = (if v_16 = (-1) then 0 else 1)) (z_19 : v_18 = 0 ∨ v_18 = 1) (ls : Array Slot) (hl : lv_has ls 1 []), W p l e (headSpec wsX9_readPart rmX9_readPart).room s m ([.ref h] : List Value).toArray below meth c H locs 0 0 QQ (F0 m 156 ls [.int v_18]) := by
                intro v_18 e_v_18 z_19 ls hl
                rw [hQQ]
                exact W.zret hx hb hr (nz_bool z_19) (end_Hi () hP hD hS (by subst e_v_18; subst e_v_16; subst e_v_15; unfold s_X9_readPart_r; exact ((if_pos c_1).trans ((if_pos c_2).trans ((if_neg c_3).trans ((if_neg c_12).trans ((if_neg c_13).trans (if_pos c_14)))))).symm) (congrArg (fun (z0 : Nat → Int32) => [kX9 h q z0, aC y q 60 ft]) (by subst e_v_18; subst e_v_16; subst e_v_15; unfold s_X9_readPart_w0; exact ((if_pos c_1).trans ((if_pos c_2).trans ((if_neg c_3).trans ((if_neg c_12).trans ((if_neg c_13).trans (if_pos c_14)))))).symm))) hS.2.2 dX9_readPart_156
              refine lv_icmp_eq (tgt := 155) hx hb dX9_readPart_148 (by decide) (fun c_17 => ?_) (fun c_17 => ?_)
              · refine lv_iconst (v := 0) hx hb dX9_readPart_155 (by decide) ?_
                exact J156_20 _ (if_pos c_17).symm (Or.inl rfl) ls (lv_sub hl [] rfl)
              · refine lv_iconst (v := 1) hx hb dX9_readPart_151 (by decide) ?_
                refine lv_goto (tgt := 156) hx hb dX9_readPart_152 (by decide) ?_
                exact J156_20 _ (if_neg c_17).symm (Or.inr rfl) ls (lv_sub hl [] rfl)
        · refine lv_aload_n hx hb dX9_readPart_84 rfl (lv_at hl 0 rfl) ?_
          refine lv_aload_n hx hb dX9_readPart_85 rfl (lv_at hl 0 rfl) ?_
          refine lv_bipush (v := 66) hx hb dX9_readPart_86 (by decide) ?_
          refine lv_iconst (v := 2) hx hb dX9_readPart_88 (by decide) ?_
          refine lv_iconst (v := 0) hx hb dX9_readPart_89 (by decide) ?_
          refine lv_bipush (v := 20) hx hb dX9_readPart_90 (by decide) ?_
          refine cl_Hi (wr := []) (fun _ : Unit => [kX9 h q (s_X9_labelled_2_w0 66 0 20 x ft), aC y q 60 ft]) [0, 1] [] [0, 1] (va_runV (As := [.int 66, .int 2, .int 0, .int 20]) (rest := [.ref h]) ⟨hx, hb, hml, hown, hts⟩ (c_X9_labelled_2 l G y h 66 0 20 q x ft s.heap.size) (cwV 4 hts gX9_readPart_X9_labelled rfl rfl rfl (by decide +kernel) ⟨Nat.le_of_ble_eq_true rfl, Nat.le_of_ble_eq_true rfl⟩) (PH_V (hP.sub (ws' := [kX9 h q x, aC y q 60 ft]) [0, 1] rfl) hK hN (hD.sub (ws' := [kX9 h q x, aC y q 60 ft]) [0, 1] (by decide) rfl) (ci := 7) (q0 := 0) rfl rfl) rfl rfl hl.1 rfl (lv_room (Nat.le_of_ble_eq_true rfl)) dX9_readPart_92 ⟨Nat.le_of_ble_eq_true rfl, Nat.le_of_ble_eq_true rfl⟩) hP hD hS hA rfl rfl rfl (by decide) rfl (fun _ => rfl) (fun _ H locs hP hD hS => ?_)
          have hP : va_P G vwCl [kX9 h q (s_X9_labelled_2_w0 66 0 20 x ft), aC y q 60 ft] H := hP
          have hD : va_D A [kX9 h q (s_X9_labelled_2_w0 66 0 20 x ft), aC y q 60 ft] := hD
          obtain ⟨v_21, e_v_21⟩ : ∃ zq9 : Nat → Int32, zq9 = (s_X9_labelled_2_w0 66 0 20 x ft) := ⟨_, rfl⟩
          have hP : va_P G vwCl [kX9 h q v_21, aC y q 60 ft] H := by rw [e_v_21]; exact hP
          have hD : va_D A [kX9 h q v_21, aC y q 60 ft] := by rw [e_v_21]; exact hD
          obtain ⟨v_22, e_v_22⟩ : ∃ zq9 : Int32, zq9 = (s_X9_labelled_2_r 66 0 20 x ft) := ⟨_, rfl⟩
          refine rw_i (x' := v_22) e_v_22.symm ?_
          refine va_put (D := G) (ci := 7) (v := .int v_22) (ty := .int) (C := RX9) (T := TX9) (N := 12) hx hb hts i_X9 tyX9 tyX9_ok nmX9 hown hK hP hD hS 0 rfl rfl 8 (by decide) (hts (.fieldLink RX9 25 "RelayTuner$Text" "band" "I") (by decide +kernel)) (fun _ h9 => h9) rfl (by decide +kernel) rfl rfl (Nat.le_of_ble_eq_true rfl) dX9_readPart_95 (fun H locs hP hD hS => ?_)
          have hP : va_P G vwCl [kX9 h q (upd v_21 8 v_22), aC y q 60 ft] H := hP
          have hD : va_D A [kX9 h q (upd v_21 8 v_22), aC y q 60 ft] := hD
          refine lv_aload_n hx hb dX9_readPart_98 rfl (lv_at hl 0 rfl) ?_
          refine va_get (D := G) (ci := 7) (v := .int v_22) (C := RX9) (T := TX9) (N := 12) hx hb hts i_X9 hown hK hP 0 rfl rfl 8 (by decide) (hts (.fieldLink RX9 25 "RelayTuner$Text" "band" "I") (by decide +kernel)) (fun _ h9 => h9) rfl dX9_readPart_99 ?_
          refine lv_iconst (v := (-1)) hx hb dX9_readPart_102 (by decide) ?_
          have J111_26 : ∀ (v_24 : Int32) (e_v_24 : v_24 = (if v_22 = (-1) then 0 else 1)) (z_25 : v_24 = 0 ∨ v_24 = 1) (ls : Array Slot) (hl : lv_has ls 1 []), W p l e (headSpec wsX9_readPart rmX9_readPart).room s m ([.ref h] : List Value).toArray below meth c H locs 0 0 QQ (F0 m 111 ls [.int v_24]) := by
            intro v_24 e_v_24 z_25 ls hl
            rw [hQQ]
            exact W.zret hx hb hr (nz_bool z_25) (end_Hi () hP hD hS (by subst e_v_24; subst e_v_22; subst e_v_21; unfold s_X9_readPart_r; exact ((if_pos c_1).trans ((if_pos c_2).trans ((if_neg c_3).trans (if_pos c_12)))).symm) (congrArg (fun (z0 : Nat → Int32) => [kX9 h q z0, aC y q 60 ft]) (by subst e_v_24; subst e_v_22; subst e_v_21; unfold s_X9_readPart_w0; exact ((if_pos c_1).trans ((if_pos c_2).trans ((if_neg c_3).trans (if_pos c_12)))).symm))) hS.2.2 dX9_readPart_111
          refine lv_icmp_eq (tgt := 110) hx hb dX9_readPart_103 (by decide) (fun c_23 => ?_) (fun c_23 => ?_)
          · refine lv_iconst (v := 0) hx hb dX9_readPart_110 (by decide) ?_
            exact J111_26 _ (if_pos c_23).symm (Or.inl rfl) ls (lv_sub hl [] rfl)
          · refine lv_iconst (v := 1) hx hb dX9_readPart_106 (by decide) ?_
            refine lv_goto (tgt := 111) hx hb dX9_readPart_107 (by decide) ?_
            exact J111_26 _ (if_neg c_23).symm (Or.inr rfl) ls (lv_sub hl [] rfl)
    · refine lv_aload_n hx hb dX9_readPart_30 rfl (lv_at hl 0 rfl) ?_
      refine va_get (D := G) (ci := 7) (v := .int (x 7)) (C := RX9) (T := TX9) (N := 12) hx hb hts i_X9 hown hK hP 0 rfl rfl 7 (by decide) (hts (.fieldLink RX9 22 "RelayTuner$Text" "setPoint" "I") (by decide +kernel)) (fun _ h9 => h9) rfl dX9_readPart_31 ?_
      refine lv_iconst (v := (-1)) hx hb dX9_readPart_34 (by decide) ?_
      refine lv_icmp_ne (tgt := 67) hx hb dX9_readPart_35 (by decide) (fun c_27 => ?_) (fun c_27 => ?_)
      · refine lv_aload_n hx hb dX9_readPart_67 rfl (lv_at hl 0 rfl) ?_
        refine lv_bipush (v := 66) hx hb dX9_readPart_68 (by decide) ?_
        refine cl_Ri (va_runV (As := [.int 66]) (rest := []) ⟨hx, hb, hml, hown, hts⟩ (c_X9_isHere l G y h 66 q x ft) (cwV 1 hts gX9_readPart_X9_isHere rfl rfl rfl (by decide +kernel) ⟨Nat.le_of_ble_eq_true rfl, Nat.le_of_ble_eq_true rfl⟩) (PR_V (hP.sub (ws' := [kX9 h q x, aC y q 60 ft]) [0, 1] rfl) hK hN (ci := 7) (q0 := 0) rfl rfl) rfl rfl hl.1 rfl (lv_room (Nat.le_of_ble_eq_true rfl)) dX9_readPart_70 ⟨Nat.le_of_ble_eq_true rfl, Nat.le_of_ble_eq_true rfl⟩) ?_
        refine lv_if_eq (tgt := 112) hx hb dX9_readPart_73 (by decide) (fun c_28 => ?_) (fun c_28 => ?_)
        · refine lv_aload_n hx hb dX9_readPart_112 rfl (lv_at hl 0 rfl) ?_
          refine lv_bipush (v := 84) hx hb dX9_readPart_113 (by decide) ?_
          refine cl_Ri (va_runV (As := [.int 84]) (rest := []) ⟨hx, hb, hml, hown, hts⟩ (c_X9_isHere l G y h 84 q x ft) (cwV 1 hts gX9_readPart_X9_isHere rfl rfl rfl (by decide +kernel) ⟨Nat.le_of_ble_eq_true rfl, Nat.le_of_ble_eq_true rfl⟩) (PR_V (hP.sub (ws' := [kX9 h q x, aC y q 60 ft]) [0, 1] rfl) hK hN (ci := 7) (q0 := 0) rfl rfl) rfl rfl hl.1 rfl (lv_room (Nat.le_of_ble_eq_true rfl)) dX9_readPart_115 ⟨Nat.le_of_ble_eq_true rfl, Nat.le_of_ble_eq_true rfl⟩) ?_
          refine lv_if_eq (tgt := 157) hx hb dX9_readPart_118 (by decide) (fun c_29 => ?_) (fun c_29 => ?_)
          · refine lv_iconst (v := 0) hx hb dX9_readPart_157 (by decide) ?_
            rw [hQQ]
            exact W.zret hx hb hr (nz_bool (Or.inl rfl)) (end_Hi () hP hD hS (by unfold s_X9_readPart_r; exact ((if_pos c_1).trans ((if_neg c_2).trans ((if_neg c_27).trans ((if_pos c_28).trans (if_pos c_29))))).symm) (congrArg (fun (z0 : Nat → Int32) => [kX9 h q z0, aC y q 60 ft]) (by unfold s_X9_readPart_w0; exact ((if_pos c_1).trans ((if_neg c_2).trans ((if_neg c_27).trans ((if_pos c_28).trans (if_pos c_29))))).symm))) hS.2.2 dX9_readPart_158
          · refine lv_aload_n hx hb dX9_readPart_121 rfl (lv_at hl 0 rfl) ?_
            refine va_get (D := G) (ci := 7) (v := .int (x 9)) (C := RX9) (T := TX9) (N := 12) hx hb hts i_X9 hown hK hP 0 rfl rfl 9 (by decide) (hts (.fieldLink RX9 28 "RelayTuner$Text" "tolerance" "I") (by decide +kernel)) (fun _ h9 => h9) rfl dX9_readPart_122 ?_
            refine lv_iconst (v := (-1)) hx hb dX9_readPart_125 (by decide) ?_
            refine lv_icmp_ne (tgt := 157) hx hb dX9_readPart_126 (by decide) (fun c_30 => ?_) (fun c_30 => ?_)
            · refine lv_iconst (v := 0) hx hb dX9_readPart_157 (by decide) ?_
              rw [hQQ]
              exact W.zret hx hb hr (nz_bool (Or.inl rfl)) (end_Hi () hP hD hS (by unfold s_X9_readPart_r; exact ((if_pos c_1).trans ((if_neg c_2).trans ((if_neg c_27).trans ((if_pos c_28).trans ((if_neg c_29).trans (if_neg c_30)))))).symm) (congrArg (fun (z0 : Nat → Int32) => [kX9 h q z0, aC y q 60 ft]) (by unfold s_X9_readPart_w0; exact ((if_pos c_1).trans ((if_neg c_2).trans ((if_neg c_27).trans ((if_pos c_28).trans ((if_neg c_29).trans (if_neg c_30)))))).symm))) hS.2.2 dX9_readPart_158
            · refine lv_aload_n hx hb dX9_readPart_129 rfl (lv_at hl 0 rfl) ?_
              refine lv_aload_n hx hb dX9_readPart_130 rfl (lv_at hl 0 rfl) ?_
              refine lv_bipush (v := 84) hx hb dX9_readPart_131 (by decide) ?_
              refine lv_iconst (v := 2) hx hb dX9_readPart_133 (by decide) ?_
              refine lv_iconst (v := 0) hx hb dX9_readPart_134 (by decide) ?_
              refine lv_bipush (v := 99) hx hb dX9_readPart_135 (by decide) ?_
              refine cl_Hi (wr := []) (fun _ : Unit => [kX9 h q (s_X9_labelled_2_w0 84 0 99 x ft), aC y q 60 ft]) [0, 1] [] [0, 1] (va_runV (As := [.int 84, .int 2, .int 0, .int 99]) (rest := [.ref h]) ⟨hx, hb, hml, hown, hts⟩ (c_X9_labelled_2 l G y h 84 0 99 q x ft s.heap.size) (cwV 4 hts gX9_readPart_X9_labelled rfl rfl rfl (by decide +kernel) ⟨Nat.le_of_ble_eq_true rfl, Nat.le_of_ble_eq_true rfl⟩) (PH_V (hP.sub (ws' := [kX9 h q x, aC y q 60 ft]) [0, 1] rfl) hK hN (hD.sub (ws' := [kX9 h q x, aC y q 60 ft]) [0, 1] (by decide) rfl) (ci := 7) (q0 := 0) rfl rfl) rfl rfl hl.1 rfl (lv_room (Nat.le_of_ble_eq_true rfl)) dX9_readPart_137 ⟨Nat.le_of_ble_eq_true rfl, Nat.le_of_ble_eq_true rfl⟩) hP hD hS hA rfl rfl rfl (by decide) rfl (fun _ => rfl) (fun _ H locs hP hD hS => ?_)
              have hP : va_P G vwCl [kX9 h q (s_X9_labelled_2_w0 84 0 99 x ft), aC y q 60 ft] H := hP
              have hD : va_D A [kX9 h q (s_X9_labelled_2_w0 84 0 99 x ft), aC y q 60 ft] := hD
              obtain ⟨v_31, e_v_31⟩ : ∃ zq9 : Nat → Int32, zq9 = (s_X9_labelled_2_w0 84 0 99 x ft) := ⟨_, rfl⟩
              have hP : va_P G vwCl [kX9 h q v_31, aC y q 60 ft] H := by rw [e_v_31]; exact hP
              have hD : va_D A [kX9 h q v_31, aC y q 60 ft] := by rw [e_v_31]; exact hD
              obtain ⟨v_32, e_v_32⟩ : ∃ zq9 : Int32, zq9 = (s_X9_labelled_2_r 84 0 99 x ft) := ⟨_, rfl⟩
              refine rw_i (x' := v_32) e_v_32.symm ?_
              refine va_put (D := G) (ci := 7) (v := .int v_32) (ty := .int) (C := RX9) (T := TX9) (N := 12) hx hb hts i_X9 tyX9 tyX9_ok nmX9 hown hK hP hD hS 0 rfl rfl 9 (by decide) (hts (.fieldLink RX9 28 "RelayTuner$Text" "tolerance" "I") (by decide +kernel)) (fun _ h9 => h9) rfl (by decide +kernel) rfl rfl (Nat.le_of_ble_eq_true rfl) dX9_readPart_140 (fun H locs hP hD hS => ?_)
              have hP : va_P G vwCl [kX9 h q (upd v_31 9 v_32), aC y q 60 ft] H := hP
              have hD : va_D A [kX9 h q (upd v_31 9 v_32), aC y q 60 ft] := hD
              refine lv_aload_n hx hb dX9_readPart_143 rfl (lv_at hl 0 rfl) ?_
              refine va_get (D := G) (ci := 7) (v := .int v_32) (C := RX9) (T := TX9) (N := 12) hx hb hts i_X9 hown hK hP 0 rfl rfl 9 (by decide) (hts (.fieldLink RX9 28 "RelayTuner$Text" "tolerance" "I") (by decide +kernel)) (fun _ h9 => h9) rfl dX9_readPart_144 ?_
              refine lv_iconst (v := (-1)) hx hb dX9_readPart_147 (by decide) ?_
              have J156_36 : ∀ (v_34 : Int32) (e_v_34 : v_34 = (if v_32 = (-1) then 0 else 1)) (z_35 : v_34 = 0 ∨ v_34 = 1) (ls : Array Slot) (hl : lv_has ls 1 []), W p l e (headSpec wsX9_readPart rmX9_readPart).room s m ([.ref h] : List Value).toArray below meth c H locs 0 0 QQ (F0 m 156 ls [.int v_34]) := by
                intro v_34 e_v_34 z_35 ls hl
                rw [hQQ]
                exact W.zret hx hb hr (nz_bool z_35) (end_Hi () hP hD hS (by subst e_v_34; subst e_v_32; subst e_v_31; unfold s_X9_readPart_r; exact ((if_pos c_1).trans ((if_neg c_2).trans ((if_neg c_27).trans ((if_pos c_28).trans ((if_neg c_29).trans (if_pos c_30)))))).symm) (congrArg (fun (z0 : Nat → Int32) => [kX9 h q z0, aC y q 60 ft]) (by subst e_v_34; subst e_v_32; subst e_v_31; unfold s_X9_readPart_w0; exact ((if_pos c_1).trans ((if_neg c_2).trans ((if_neg c_27).trans ((if_pos c_28).trans ((if_neg c_29).trans (if_pos c_30)))))).symm))) hS.2.2 dX9_readPart_156
              refine lv_icmp_eq (tgt := 155) hx hb dX9_readPart_148 (by decide) (fun c_33 => ?_) (fun c_33 => ?_)
              · refine lv_iconst (v := 0) hx hb dX9_readPart_155 (by decide) ?_
                exact J156_36 _ (if_pos c_33).symm (Or.inl rfl) ls (lv_sub hl [] rfl)
              · refine lv_iconst (v := 1) hx hb dX9_readPart_151 (by decide) ?_
                refine lv_goto (tgt := 156) hx hb dX9_readPart_152 (by decide) ?_
                exact J156_36 _ (if_neg c_33).symm (Or.inr rfl) ls (lv_sub hl [] rfl)
        · refine lv_aload_n hx hb dX9_readPart_76 rfl (lv_at hl 0 rfl) ?_
          refine va_get (D := G) (ci := 7) (v := .int (x 8)) (C := RX9) (T := TX9) (N := 12) hx hb hts i_X9 hown hK hP 0 rfl rfl 8 (by decide) (hts (.fieldLink RX9 25 "RelayTuner$Text" "band" "I") (by decide +kernel)) (fun _ h9 => h9) rfl dX9_readPart_77 ?_
          refine lv_iconst (v := (-1)) hx hb dX9_readPart_80 (by decide) ?_
          refine lv_icmp_ne (tgt := 112) hx hb dX9_readPart_81 (by decide) (fun c_37 => ?_) (fun c_37 => ?_)
          · refine lv_aload_n hx hb dX9_readPart_112 rfl (lv_at hl 0 rfl) ?_
            refine lv_bipush (v := 84) hx hb dX9_readPart_113 (by decide) ?_
            refine cl_Ri (va_runV (As := [.int 84]) (rest := []) ⟨hx, hb, hml, hown, hts⟩ (c_X9_isHere l G y h 84 q x ft) (cwV 1 hts gX9_readPart_X9_isHere rfl rfl rfl (by decide +kernel) ⟨Nat.le_of_ble_eq_true rfl, Nat.le_of_ble_eq_true rfl⟩) (PR_V (hP.sub (ws' := [kX9 h q x, aC y q 60 ft]) [0, 1] rfl) hK hN (ci := 7) (q0 := 0) rfl rfl) rfl rfl hl.1 rfl (lv_room (Nat.le_of_ble_eq_true rfl)) dX9_readPart_115 ⟨Nat.le_of_ble_eq_true rfl, Nat.le_of_ble_eq_true rfl⟩) ?_
            refine lv_if_eq (tgt := 157) hx hb dX9_readPart_118 (by decide) (fun c_38 => ?_) (fun c_38 => ?_)
            · refine lv_iconst (v := 0) hx hb dX9_readPart_157 (by decide) ?_
              rw [hQQ]
              exact W.zret hx hb hr (nz_bool (Or.inl rfl)) (end_Hi () hP hD hS (by unfold s_X9_readPart_r; exact ((if_pos c_1).trans ((if_neg c_2).trans ((if_neg c_27).trans ((if_neg c_28).trans ((if_neg c_37).trans (if_pos c_38)))))).symm) (congrArg (fun (z0 : Nat → Int32) => [kX9 h q z0, aC y q 60 ft]) (by unfold s_X9_readPart_w0; exact ((if_pos c_1).trans ((if_neg c_2).trans ((if_neg c_27).trans ((if_neg c_28).trans ((if_neg c_37).trans (if_pos c_38)))))).symm))) hS.2.2 dX9_readPart_158
            · refine lv_aload_n hx hb dX9_readPart_121 rfl (lv_at hl 0 rfl) ?_
              refine va_get (D := G) (ci := 7) (v := .int (x 9)) (C := RX9) (T := TX9) (N := 12) hx hb hts i_X9 hown hK hP 0 rfl rfl 9 (by decide) (hts (.fieldLink RX9 28 "RelayTuner$Text" "tolerance" "I") (by decide +kernel)) (fun _ h9 => h9) rfl dX9_readPart_122 ?_
              refine lv_iconst (v := (-1)) hx hb dX9_readPart_125 (by decide) ?_
              refine lv_icmp_ne (tgt := 157) hx hb dX9_readPart_126 (by decide) (fun c_39 => ?_) (fun c_39 => ?_)
              · refine lv_iconst (v := 0) hx hb dX9_readPart_157 (by decide) ?_
                rw [hQQ]
                exact W.zret hx hb hr (nz_bool (Or.inl rfl)) (end_Hi () hP hD hS (by unfold s_X9_readPart_r; exact ((if_pos c_1).trans ((if_neg c_2).trans ((if_neg c_27).trans ((if_neg c_28).trans ((if_neg c_37).trans ((if_neg c_38).trans (if_neg c_39))))))).symm) (congrArg (fun (z0 : Nat → Int32) => [kX9 h q z0, aC y q 60 ft]) (by unfold s_X9_readPart_w0; exact ((if_pos c_1).trans ((if_neg c_2).trans ((if_neg c_27).trans ((if_neg c_28).trans ((if_neg c_37).trans ((if_neg c_38).trans (if_neg c_39))))))).symm))) hS.2.2 dX9_readPart_158
              · refine lv_aload_n hx hb dX9_readPart_129 rfl (lv_at hl 0 rfl) ?_
                refine lv_aload_n hx hb dX9_readPart_130 rfl (lv_at hl 0 rfl) ?_
                refine lv_bipush (v := 84) hx hb dX9_readPart_131 (by decide) ?_
                refine lv_iconst (v := 2) hx hb dX9_readPart_133 (by decide) ?_
                refine lv_iconst (v := 0) hx hb dX9_readPart_134 (by decide) ?_
                refine lv_bipush (v := 99) hx hb dX9_readPart_135 (by decide) ?_
                refine cl_Hi (wr := []) (fun _ : Unit => [kX9 h q (s_X9_labelled_2_w0 84 0 99 x ft), aC y q 60 ft]) [0, 1] [] [0, 1] (va_runV (As := [.int 84, .int 2, .int 0, .int 99]) (rest := [.ref h]) ⟨hx, hb, hml, hown, hts⟩ (c_X9_labelled_2 l G y h 84 0 99 q x ft s.heap.size) (cwV 4 hts gX9_readPart_X9_labelled rfl rfl rfl (by decide +kernel) ⟨Nat.le_of_ble_eq_true rfl, Nat.le_of_ble_eq_true rfl⟩) (PH_V (hP.sub (ws' := [kX9 h q x, aC y q 60 ft]) [0, 1] rfl) hK hN (hD.sub (ws' := [kX9 h q x, aC y q 60 ft]) [0, 1] (by decide) rfl) (ci := 7) (q0 := 0) rfl rfl) rfl rfl hl.1 rfl (lv_room (Nat.le_of_ble_eq_true rfl)) dX9_readPart_137 ⟨Nat.le_of_ble_eq_true rfl, Nat.le_of_ble_eq_true rfl⟩) hP hD hS hA rfl rfl rfl (by decide) rfl (fun _ => rfl) (fun _ H locs hP hD hS => ?_)
                have hP : va_P G vwCl [kX9 h q (s_X9_labelled_2_w0 84 0 99 x ft), aC y q 60 ft] H := hP
                have hD : va_D A [kX9 h q (s_X9_labelled_2_w0 84 0 99 x ft), aC y q 60 ft] := hD
                obtain ⟨v_40, e_v_40⟩ : ∃ zq9 : Nat → Int32, zq9 = (s_X9_labelled_2_w0 84 0 99 x ft) := ⟨_, rfl⟩
                have hP : va_P G vwCl [kX9 h q v_40, aC y q 60 ft] H := by rw [e_v_40]; exact hP
                have hD : va_D A [kX9 h q v_40, aC y q 60 ft] := by rw [e_v_40]; exact hD
                obtain ⟨v_41, e_v_41⟩ : ∃ zq9 : Int32, zq9 = (s_X9_labelled_2_r 84 0 99 x ft) := ⟨_, rfl⟩
                refine rw_i (x' := v_41) e_v_41.symm ?_
                refine va_put (D := G) (ci := 7) (v := .int v_41) (ty := .int) (C := RX9) (T := TX9) (N := 12) hx hb hts i_X9 tyX9 tyX9_ok nmX9 hown hK hP hD hS 0 rfl rfl 9 (by decide) (hts (.fieldLink RX9 28 "RelayTuner$Text" "tolerance" "I") (by decide +kernel)) (fun _ h9 => h9) rfl (by decide +kernel) rfl rfl (Nat.le_of_ble_eq_true rfl) dX9_readPart_140 (fun H locs hP hD hS => ?_)
                have hP : va_P G vwCl [kX9 h q (upd v_40 9 v_41), aC y q 60 ft] H := hP
                have hD : va_D A [kX9 h q (upd v_40 9 v_41), aC y q 60 ft] := hD
                refine lv_aload_n hx hb dX9_readPart_143 rfl (lv_at hl 0 rfl) ?_
                refine va_get (D := G) (ci := 7) (v := .int v_41) (C := RX9) (T := TX9) (N := 12) hx hb hts i_X9 hown hK hP 0 rfl rfl 9 (by decide) (hts (.fieldLink RX9 28 "RelayTuner$Text" "tolerance" "I") (by decide +kernel)) (fun _ h9 => h9) rfl dX9_readPart_144 ?_
                refine lv_iconst (v := (-1)) hx hb dX9_readPart_147 (by decide) ?_
                have J156_45 : ∀ (v_43 : Int32) (e_v_43 : v_43 = (if v_41 = (-1) then 0 else 1)) (z_44 : v_43 = 0 ∨ v_43 = 1) (ls : Array Slot) (hl : lv_has ls 1 []), W p l e (headSpec wsX9_readPart rmX9_readPart).room s m ([.ref h] : List Value).toArray below meth c H locs 0 0 QQ (F0 m 156 ls [.int v_43]) := by
                  intro v_43 e_v_43 z_44 ls hl
                  rw [hQQ]
                  exact W.zret hx hb hr (nz_bool z_44) (end_Hi () hP hD hS (by subst e_v_43; subst e_v_41; subst e_v_40; unfold s_X9_readPart_r; exact ((if_pos c_1).trans ((if_neg c_2).trans ((if_neg c_27).trans ((if_neg c_28).trans ((if_neg c_37).trans ((if_neg c_38).trans (if_pos c_39))))))).symm) (congrArg (fun (z0 : Nat → Int32) => [kX9 h q z0, aC y q 60 ft]) (by subst e_v_43; subst e_v_41; subst e_v_40; unfold s_X9_readPart_w0; exact ((if_pos c_1).trans ((if_neg c_2).trans ((if_neg c_27).trans ((if_neg c_28).trans ((if_neg c_37).trans ((if_neg c_38).trans (if_pos c_39))))))).symm))) hS.2.2 dX9_readPart_156
                refine lv_icmp_eq (tgt := 155) hx hb dX9_readPart_148 (by decide) (fun c_42 => ?_) (fun c_42 => ?_)
                · refine lv_iconst (v := 0) hx hb dX9_readPart_155 (by decide) ?_
                  exact J156_45 _ (if_pos c_42).symm (Or.inl rfl) ls (lv_sub hl [] rfl)
                · refine lv_iconst (v := 1) hx hb dX9_readPart_151 (by decide) ?_
                  refine lv_goto (tgt := 156) hx hb dX9_readPart_152 (by decide) ?_
                  exact J156_45 _ (if_neg c_42).symm (Or.inr rfl) ls (lv_sub hl [] rfl)
          · refine lv_aload_n hx hb dX9_readPart_84 rfl (lv_at hl 0 rfl) ?_
            refine lv_aload_n hx hb dX9_readPart_85 rfl (lv_at hl 0 rfl) ?_
            refine lv_bipush (v := 66) hx hb dX9_readPart_86 (by decide) ?_
            refine lv_iconst (v := 2) hx hb dX9_readPart_88 (by decide) ?_
            refine lv_iconst (v := 0) hx hb dX9_readPart_89 (by decide) ?_
            refine lv_bipush (v := 20) hx hb dX9_readPart_90 (by decide) ?_
            refine cl_Hi (wr := []) (fun _ : Unit => [kX9 h q (s_X9_labelled_2_w0 66 0 20 x ft), aC y q 60 ft]) [0, 1] [] [0, 1] (va_runV (As := [.int 66, .int 2, .int 0, .int 20]) (rest := [.ref h]) ⟨hx, hb, hml, hown, hts⟩ (c_X9_labelled_2 l G y h 66 0 20 q x ft s.heap.size) (cwV 4 hts gX9_readPart_X9_labelled rfl rfl rfl (by decide +kernel) ⟨Nat.le_of_ble_eq_true rfl, Nat.le_of_ble_eq_true rfl⟩) (PH_V (hP.sub (ws' := [kX9 h q x, aC y q 60 ft]) [0, 1] rfl) hK hN (hD.sub (ws' := [kX9 h q x, aC y q 60 ft]) [0, 1] (by decide) rfl) (ci := 7) (q0 := 0) rfl rfl) rfl rfl hl.1 rfl (lv_room (Nat.le_of_ble_eq_true rfl)) dX9_readPart_92 ⟨Nat.le_of_ble_eq_true rfl, Nat.le_of_ble_eq_true rfl⟩) hP hD hS hA rfl rfl rfl (by decide) rfl (fun _ => rfl) (fun _ H locs hP hD hS => ?_)
            have hP : va_P G vwCl [kX9 h q (s_X9_labelled_2_w0 66 0 20 x ft), aC y q 60 ft] H := hP
            have hD : va_D A [kX9 h q (s_X9_labelled_2_w0 66 0 20 x ft), aC y q 60 ft] := hD
            obtain ⟨v_46, e_v_46⟩ : ∃ zq9 : Nat → Int32, zq9 = (s_X9_labelled_2_w0 66 0 20 x ft) := ⟨_, rfl⟩
            have hP : va_P G vwCl [kX9 h q v_46, aC y q 60 ft] H := by rw [e_v_46]; exact hP
            have hD : va_D A [kX9 h q v_46, aC y q 60 ft] := by rw [e_v_46]; exact hD
            obtain ⟨v_47, e_v_47⟩ : ∃ zq9 : Int32, zq9 = (s_X9_labelled_2_r 66 0 20 x ft) := ⟨_, rfl⟩
            refine rw_i (x' := v_47) e_v_47.symm ?_
            refine va_put (D := G) (ci := 7) (v := .int v_47) (ty := .int) (C := RX9) (T := TX9) (N := 12) hx hb hts i_X9 tyX9 tyX9_ok nmX9 hown hK hP hD hS 0 rfl rfl 8 (by decide) (hts (.fieldLink RX9 25 "RelayTuner$Text" "band" "I") (by decide +kernel)) (fun _ h9 => h9) rfl (by decide +kernel) rfl rfl (Nat.le_of_ble_eq_true rfl) dX9_readPart_95 (fun H locs hP hD hS => ?_)
            have hP : va_P G vwCl [kX9 h q (upd v_46 8 v_47), aC y q 60 ft] H := hP
            have hD : va_D A [kX9 h q (upd v_46 8 v_47), aC y q 60 ft] := hD
            refine lv_aload_n hx hb dX9_readPart_98 rfl (lv_at hl 0 rfl) ?_
            refine va_get (D := G) (ci := 7) (v := .int v_47) (C := RX9) (T := TX9) (N := 12) hx hb hts i_X9 hown hK hP 0 rfl rfl 8 (by decide) (hts (.fieldLink RX9 25 "RelayTuner$Text" "band" "I") (by decide +kernel)) (fun _ h9 => h9) rfl dX9_readPart_99 ?_
            refine lv_iconst (v := (-1)) hx hb dX9_readPart_102 (by decide) ?_
            have J111_51 : ∀ (v_49 : Int32) (e_v_49 : v_49 = (if v_47 = (-1) then 0 else 1)) (z_50 : v_49 = 0 ∨ v_49 = 1) (ls : Array Slot) (hl : lv_has ls 1 []), W p l e (headSpec wsX9_readPart rmX9_readPart).room s m ([.ref h] : List Value).toArray below meth c H locs 0 0 QQ (F0 m 111 ls [.int v_49]) := by
              intro v_49 e_v_49 z_50 ls hl
              rw [hQQ]
              exact W.zret hx hb hr (nz_bool z_50) (end_Hi () hP hD hS (by subst e_v_49; subst e_v_47; subst e_v_46; unfold s_X9_readPart_r; exact ((if_pos c_1).trans ((if_neg c_2).trans ((if_neg c_27).trans ((if_neg c_28).trans (if_pos c_37))))).symm) (congrArg (fun (z0 : Nat → Int32) => [kX9 h q z0, aC y q 60 ft]) (by subst e_v_49; subst e_v_47; subst e_v_46; unfold s_X9_readPart_w0; exact ((if_pos c_1).trans ((if_neg c_2).trans ((if_neg c_27).trans ((if_neg c_28).trans (if_pos c_37))))).symm))) hS.2.2 dX9_readPart_111
            refine lv_icmp_eq (tgt := 110) hx hb dX9_readPart_103 (by decide) (fun c_48 => ?_) (fun c_48 => ?_)
            · refine lv_iconst (v := 0) hx hb dX9_readPart_110 (by decide) ?_
              exact J111_51 _ (if_pos c_48).symm (Or.inl rfl) ls (lv_sub hl [] rfl)
            · refine lv_iconst (v := 1) hx hb dX9_readPart_106 (by decide) ?_
              refine lv_goto (tgt := 111) hx hb dX9_readPart_107 (by decide) ?_
              exact J111_51 _ (if_neg c_48).symm (Or.inr rfl) ls (lv_sub hl [] rfl)
      · refine lv_aload_n hx hb dX9_readPart_38 rfl (lv_at hl 0 rfl) ?_
        refine lv_aload_n hx hb dX9_readPart_39 rfl (lv_at hl 0 rfl) ?_
        refine lv_bipush (v := 83) hx hb dX9_readPart_40 (by decide) ?_
        refine lv_iconst (v := 3) hx hb dX9_readPart_42 (by decide) ?_
        refine lv_iconst (v := 0) hx hb dX9_readPart_43 (by decide) ?_
        refine lv_sipush (v := 999) hx hb dX9_readPart_44 (by decide) ?_
        refine cl_Hi (wr := []) (fun _ : Unit => [kX9 h q (s_X9_labelled_3_w0 83 0 999 x ft), aC y q 60 ft]) [0, 1] [] [0, 1] (va_runV (As := [.int 83, .int 3, .int 0, .int 999]) (rest := [.ref h]) ⟨hx, hb, hml, hown, hts⟩ (c_X9_labelled_3 l G y h 83 0 999 q x ft s.heap.size) (cwV 4 hts gX9_readPart_X9_labelled rfl rfl rfl (by decide +kernel) ⟨Nat.le_of_ble_eq_true rfl, Nat.le_of_ble_eq_true rfl⟩) (PH_V (hP.sub (ws' := [kX9 h q x, aC y q 60 ft]) [0, 1] rfl) hK hN (hD.sub (ws' := [kX9 h q x, aC y q 60 ft]) [0, 1] (by decide) rfl) (ci := 7) (q0 := 0) rfl rfl) rfl rfl hl.1 rfl (lv_room (Nat.le_of_ble_eq_true rfl)) dX9_readPart_47 ⟨Nat.le_of_ble_eq_true rfl, Nat.le_of_ble_eq_true rfl⟩) hP hD hS hA rfl rfl rfl (by decide) rfl (fun _ => rfl) (fun _ H locs hP hD hS => ?_)
        have hP : va_P G vwCl [kX9 h q (s_X9_labelled_3_w0 83 0 999 x ft), aC y q 60 ft] H := hP
        have hD : va_D A [kX9 h q (s_X9_labelled_3_w0 83 0 999 x ft), aC y q 60 ft] := hD
        obtain ⟨v_52, e_v_52⟩ : ∃ zq9 : Nat → Int32, zq9 = (s_X9_labelled_3_w0 83 0 999 x ft) := ⟨_, rfl⟩
        have hP : va_P G vwCl [kX9 h q v_52, aC y q 60 ft] H := by rw [e_v_52]; exact hP
        have hD : va_D A [kX9 h q v_52, aC y q 60 ft] := by rw [e_v_52]; exact hD
        obtain ⟨v_53, e_v_53⟩ : ∃ zq9 : Int32, zq9 = (s_X9_labelled_3_r 83 0 999 x ft) := ⟨_, rfl⟩
        refine rw_i (x' := v_53) e_v_53.symm ?_
        refine va_put (D := G) (ci := 7) (v := .int v_53) (ty := .int) (C := RX9) (T := TX9) (N := 12) hx hb hts i_X9 tyX9 tyX9_ok nmX9 hown hK hP hD hS 0 rfl rfl 7 (by decide) (hts (.fieldLink RX9 22 "RelayTuner$Text" "setPoint" "I") (by decide +kernel)) (fun _ h9 => h9) rfl (by decide +kernel) rfl rfl (Nat.le_of_ble_eq_true rfl) dX9_readPart_50 (fun H locs hP hD hS => ?_)
        have hP : va_P G vwCl [kX9 h q (upd v_52 7 v_53), aC y q 60 ft] H := hP
        have hD : va_D A [kX9 h q (upd v_52 7 v_53), aC y q 60 ft] := hD
        refine lv_aload_n hx hb dX9_readPart_53 rfl (lv_at hl 0 rfl) ?_
        refine va_get (D := G) (ci := 7) (v := .int v_53) (C := RX9) (T := TX9) (N := 12) hx hb hts i_X9 hown hK hP 0 rfl rfl 7 (by decide) (hts (.fieldLink RX9 22 "RelayTuner$Text" "setPoint" "I") (by decide +kernel)) (fun _ h9 => h9) rfl dX9_readPart_54 ?_
        refine lv_iconst (v := (-1)) hx hb dX9_readPart_57 (by decide) ?_
        have J66_57 : ∀ (v_55 : Int32) (e_v_55 : v_55 = (if v_53 = (-1) then 0 else 1)) (z_56 : v_55 = 0 ∨ v_55 = 1) (ls : Array Slot) (hl : lv_has ls 1 []), W p l e (headSpec wsX9_readPart rmX9_readPart).room s m ([.ref h] : List Value).toArray below meth c H locs 0 0 QQ (F0 m 66 ls [.int v_55]) := by
          intro v_55 e_v_55 z_56 ls hl
          rw [hQQ]
          exact W.zret hx hb hr (nz_bool z_56) (end_Hi () hP hD hS (by subst e_v_55; subst e_v_53; subst e_v_52; unfold s_X9_readPart_r; exact ((if_pos c_1).trans ((if_neg c_2).trans (if_pos c_27))).symm) (congrArg (fun (z0 : Nat → Int32) => [kX9 h q z0, aC y q 60 ft]) (by subst e_v_55; subst e_v_53; subst e_v_52; unfold s_X9_readPart_w0; exact ((if_pos c_1).trans ((if_neg c_2).trans (if_pos c_27))).symm))) hS.2.2 dX9_readPart_66
        refine lv_icmp_eq (tgt := 65) hx hb dX9_readPart_58 (by decide) (fun c_54 => ?_) (fun c_54 => ?_)
        · refine lv_iconst (v := 0) hx hb dX9_readPart_65 (by decide) ?_
          exact J66_57 _ (if_pos c_54).symm (Or.inl rfl) ls (lv_sub hl [] rfl)
        · refine lv_iconst (v := 1) hx hb dX9_readPart_61 (by decide) ?_
          refine lv_goto (tgt := 66) hx hb dX9_readPart_62 (by decide) ?_
          exact J66_57 _ (if_neg c_54).symm (Or.inr rfl) ls (lv_sub hl [] rfl)
  · refine lv_aload_n hx hb dX9_readPart_9 rfl (lv_at hl 0 rfl) ?_
    refine va_get (D := G) (ci := 7) (v := .int (x 10)) (C := RX9) (T := TX9) (N := 12) hx hb hts i_X9 hown hK hP 0 rfl rfl 10 (by decide) (hts (.fieldLink RX9 31 "RelayTuner$Text" "hasAmbient" "Z") (by decide +kernel)) (fun _ h9 => h9) rfl dX9_readPart_10 ?_
    refine lv_if_ne (tgt := 21) hx hb dX9_readPart_13 (by decide) (fun c_58 => ?_) (fun c_58 => ?_)
    · refine lv_aload_n hx hb dX9_readPart_21 rfl (lv_at hl 0 rfl) ?_
      refine lv_bipush (v := 83) hx hb dX9_readPart_22 (by decide) ?_
      refine cl_Ri (va_runV (As := [.int 83]) (rest := []) ⟨hx, hb, hml, hown, hts⟩ (c_X9_isHere l G y h 83 q x ft) (cwV 1 hts gX9_readPart_X9_isHere rfl rfl rfl (by decide +kernel) ⟨Nat.le_of_ble_eq_true rfl, Nat.le_of_ble_eq_true rfl⟩) (PR_V (hP.sub (ws' := [kX9 h q x, aC y q 60 ft]) [0, 1] rfl) hK hN (ci := 7) (q0 := 0) rfl rfl) rfl rfl hl.1 rfl (lv_room (Nat.le_of_ble_eq_true rfl)) dX9_readPart_24 ⟨Nat.le_of_ble_eq_true rfl, Nat.le_of_ble_eq_true rfl⟩) ?_
      refine lv_if_eq (tgt := 67) hx hb dX9_readPart_27 (by decide) (fun c_59 => ?_) (fun c_59 => ?_)
      · refine lv_aload_n hx hb dX9_readPart_67 rfl (lv_at hl 0 rfl) ?_
        refine lv_bipush (v := 66) hx hb dX9_readPart_68 (by decide) ?_
        refine cl_Ri (va_runV (As := [.int 66]) (rest := []) ⟨hx, hb, hml, hown, hts⟩ (c_X9_isHere l G y h 66 q x ft) (cwV 1 hts gX9_readPart_X9_isHere rfl rfl rfl (by decide +kernel) ⟨Nat.le_of_ble_eq_true rfl, Nat.le_of_ble_eq_true rfl⟩) (PR_V (hP.sub (ws' := [kX9 h q x, aC y q 60 ft]) [0, 1] rfl) hK hN (ci := 7) (q0 := 0) rfl rfl) rfl rfl hl.1 rfl (lv_room (Nat.le_of_ble_eq_true rfl)) dX9_readPart_70 ⟨Nat.le_of_ble_eq_true rfl, Nat.le_of_ble_eq_true rfl⟩) ?_
        refine lv_if_eq (tgt := 112) hx hb dX9_readPart_73 (by decide) (fun c_60 => ?_) (fun c_60 => ?_)
        · refine lv_aload_n hx hb dX9_readPart_112 rfl (lv_at hl 0 rfl) ?_
          refine lv_bipush (v := 84) hx hb dX9_readPart_113 (by decide) ?_
          refine cl_Ri (va_runV (As := [.int 84]) (rest := []) ⟨hx, hb, hml, hown, hts⟩ (c_X9_isHere l G y h 84 q x ft) (cwV 1 hts gX9_readPart_X9_isHere rfl rfl rfl (by decide +kernel) ⟨Nat.le_of_ble_eq_true rfl, Nat.le_of_ble_eq_true rfl⟩) (PR_V (hP.sub (ws' := [kX9 h q x, aC y q 60 ft]) [0, 1] rfl) hK hN (ci := 7) (q0 := 0) rfl rfl) rfl rfl hl.1 rfl (lv_room (Nat.le_of_ble_eq_true rfl)) dX9_readPart_115 ⟨Nat.le_of_ble_eq_true rfl, Nat.le_of_ble_eq_true rfl⟩) ?_
          refine lv_if_eq (tgt := 157) hx hb dX9_readPart_118 (by decide) (fun c_61 => ?_) (fun c_61 => ?_)
          · refine lv_iconst (v := 0) hx hb dX9_readPart_157 (by decide) ?_
            rw [hQQ]
            exact W.zret hx hb hr (nz_bool (Or.inl rfl)) (end_Hi () hP hD hS (by unfold s_X9_readPart_r; exact ((if_neg c_1).trans ((if_neg c_58).trans ((if_pos c_59).trans ((if_pos c_60).trans (if_pos c_61))))).symm) (congrArg (fun (z0 : Nat → Int32) => [kX9 h q z0, aC y q 60 ft]) (by unfold s_X9_readPart_w0; exact ((if_neg c_1).trans ((if_neg c_58).trans ((if_pos c_59).trans ((if_pos c_60).trans (if_pos c_61))))).symm))) hS.2.2 dX9_readPart_158
          · refine lv_aload_n hx hb dX9_readPart_121 rfl (lv_at hl 0 rfl) ?_
            refine va_get (D := G) (ci := 7) (v := .int (x 9)) (C := RX9) (T := TX9) (N := 12) hx hb hts i_X9 hown hK hP 0 rfl rfl 9 (by decide) (hts (.fieldLink RX9 28 "RelayTuner$Text" "tolerance" "I") (by decide +kernel)) (fun _ h9 => h9) rfl dX9_readPart_122 ?_
            refine lv_iconst (v := (-1)) hx hb dX9_readPart_125 (by decide) ?_
            refine lv_icmp_ne (tgt := 157) hx hb dX9_readPart_126 (by decide) (fun c_62 => ?_) (fun c_62 => ?_)
            · refine lv_iconst (v := 0) hx hb dX9_readPart_157 (by decide) ?_
              rw [hQQ]
              exact W.zret hx hb hr (nz_bool (Or.inl rfl)) (end_Hi () hP hD hS (by unfold s_X9_readPart_r; exact ((if_neg c_1).trans ((if_neg c_58).trans ((if_pos c_59).trans ((if_pos c_60).trans ((if_neg c_61).trans (if_neg c_62)))))).symm) (congrArg (fun (z0 : Nat → Int32) => [kX9 h q z0, aC y q 60 ft]) (by unfold s_X9_readPart_w0; exact ((if_neg c_1).trans ((if_neg c_58).trans ((if_pos c_59).trans ((if_pos c_60).trans ((if_neg c_61).trans (if_neg c_62)))))).symm))) hS.2.2 dX9_readPart_158
            · refine lv_aload_n hx hb dX9_readPart_129 rfl (lv_at hl 0 rfl) ?_
              refine lv_aload_n hx hb dX9_readPart_130 rfl (lv_at hl 0 rfl) ?_
              refine lv_bipush (v := 84) hx hb dX9_readPart_131 (by decide) ?_
              refine lv_iconst (v := 2) hx hb dX9_readPart_133 (by decide) ?_
              refine lv_iconst (v := 0) hx hb dX9_readPart_134 (by decide) ?_
              refine lv_bipush (v := 99) hx hb dX9_readPart_135 (by decide) ?_
              refine cl_Hi (wr := []) (fun _ : Unit => [kX9 h q (s_X9_labelled_2_w0 84 0 99 x ft), aC y q 60 ft]) [0, 1] [] [0, 1] (va_runV (As := [.int 84, .int 2, .int 0, .int 99]) (rest := [.ref h]) ⟨hx, hb, hml, hown, hts⟩ (c_X9_labelled_2 l G y h 84 0 99 q x ft s.heap.size) (cwV 4 hts gX9_readPart_X9_labelled rfl rfl rfl (by decide +kernel) ⟨Nat.le_of_ble_eq_true rfl, Nat.le_of_ble_eq_true rfl⟩) (PH_V (hP.sub (ws' := [kX9 h q x, aC y q 60 ft]) [0, 1] rfl) hK hN (hD.sub (ws' := [kX9 h q x, aC y q 60 ft]) [0, 1] (by decide) rfl) (ci := 7) (q0 := 0) rfl rfl) rfl rfl hl.1 rfl (lv_room (Nat.le_of_ble_eq_true rfl)) dX9_readPart_137 ⟨Nat.le_of_ble_eq_true rfl, Nat.le_of_ble_eq_true rfl⟩) hP hD hS hA rfl rfl rfl (by decide) rfl (fun _ => rfl) (fun _ H locs hP hD hS => ?_)
              have hP : va_P G vwCl [kX9 h q (s_X9_labelled_2_w0 84 0 99 x ft), aC y q 60 ft] H := hP
              have hD : va_D A [kX9 h q (s_X9_labelled_2_w0 84 0 99 x ft), aC y q 60 ft] := hD
              obtain ⟨v_63, e_v_63⟩ : ∃ zq9 : Nat → Int32, zq9 = (s_X9_labelled_2_w0 84 0 99 x ft) := ⟨_, rfl⟩
              have hP : va_P G vwCl [kX9 h q v_63, aC y q 60 ft] H := by rw [e_v_63]; exact hP
              have hD : va_D A [kX9 h q v_63, aC y q 60 ft] := by rw [e_v_63]; exact hD
              obtain ⟨v_64, e_v_64⟩ : ∃ zq9 : Int32, zq9 = (s_X9_labelled_2_r 84 0 99 x ft) := ⟨_, rfl⟩
              refine rw_i (x' := v_64) e_v_64.symm ?_
              refine va_put (D := G) (ci := 7) (v := .int v_64) (ty := .int) (C := RX9) (T := TX9) (N := 12) hx hb hts i_X9 tyX9 tyX9_ok nmX9 hown hK hP hD hS 0 rfl rfl 9 (by decide) (hts (.fieldLink RX9 28 "RelayTuner$Text" "tolerance" "I") (by decide +kernel)) (fun _ h9 => h9) rfl (by decide +kernel) rfl rfl (Nat.le_of_ble_eq_true rfl) dX9_readPart_140 (fun H locs hP hD hS => ?_)
              have hP : va_P G vwCl [kX9 h q (upd v_63 9 v_64), aC y q 60 ft] H := hP
              have hD : va_D A [kX9 h q (upd v_63 9 v_64), aC y q 60 ft] := hD
              refine lv_aload_n hx hb dX9_readPart_143 rfl (lv_at hl 0 rfl) ?_
              refine va_get (D := G) (ci := 7) (v := .int v_64) (C := RX9) (T := TX9) (N := 12) hx hb hts i_X9 hown hK hP 0 rfl rfl 9 (by decide) (hts (.fieldLink RX9 28 "RelayTuner$Text" "tolerance" "I") (by decide +kernel)) (fun _ h9 => h9) rfl dX9_readPart_144 ?_
              refine lv_iconst (v := (-1)) hx hb dX9_readPart_147 (by decide) ?_
              have J156_68 : ∀ (v_66 : Int32) (e_v_66 : v_66 = (if v_64 = (-1) then 0 else 1)) (z_67 : v_66 = 0 ∨ v_66 = 1) (ls : Array Slot) (hl : lv_has ls 1 []), W p l e (headSpec wsX9_readPart rmX9_readPart).room s m ([.ref h] : List Value).toArray below meth c H locs 0 0 QQ (F0 m 156 ls [.int v_66]) := by
                intro v_66 e_v_66 z_67 ls hl
                rw [hQQ]
                exact W.zret hx hb hr (nz_bool z_67) (end_Hi () hP hD hS (by subst e_v_66; subst e_v_64; subst e_v_63; unfold s_X9_readPart_r; exact ((if_neg c_1).trans ((if_neg c_58).trans ((if_pos c_59).trans ((if_pos c_60).trans ((if_neg c_61).trans (if_pos c_62)))))).symm) (congrArg (fun (z0 : Nat → Int32) => [kX9 h q z0, aC y q 60 ft]) (by subst e_v_66; subst e_v_64; subst e_v_63; unfold s_X9_readPart_w0; exact ((if_neg c_1).trans ((if_neg c_58).trans ((if_pos c_59).trans ((if_pos c_60).trans ((if_neg c_61).trans (if_pos c_62)))))).symm))) hS.2.2 dX9_readPart_156
              refine lv_icmp_eq (tgt := 155) hx hb dX9_readPart_148 (by decide) (fun c_65 => ?_) (fun c_65 => ?_)
              · refine lv_iconst (v := 0) hx hb dX9_readPart_155 (by decide) ?_
                exact J156_68 _ (if_pos c_65).symm (Or.inl rfl) ls (lv_sub hl [] rfl)
              · refine lv_iconst (v := 1) hx hb dX9_readPart_151 (by decide) ?_
                refine lv_goto (tgt := 156) hx hb dX9_readPart_152 (by decide) ?_
                exact J156_68 _ (if_neg c_65).symm (Or.inr rfl) ls (lv_sub hl [] rfl)
        · refine lv_aload_n hx hb dX9_readPart_76 rfl (lv_at hl 0 rfl) ?_
          refine va_get (D := G) (ci := 7) (v := .int (x 8)) (C := RX9) (T := TX9) (N := 12) hx hb hts i_X9 hown hK hP 0 rfl rfl 8 (by decide) (hts (.fieldLink RX9 25 "RelayTuner$Text" "band" "I") (by decide +kernel)) (fun _ h9 => h9) rfl dX9_readPart_77 ?_
          refine lv_iconst (v := (-1)) hx hb dX9_readPart_80 (by decide) ?_
          refine lv_icmp_ne (tgt := 112) hx hb dX9_readPart_81 (by decide) (fun c_69 => ?_) (fun c_69 => ?_)
          · refine lv_aload_n hx hb dX9_readPart_112 rfl (lv_at hl 0 rfl) ?_
            refine lv_bipush (v := 84) hx hb dX9_readPart_113 (by decide) ?_
            refine cl_Ri (va_runV (As := [.int 84]) (rest := []) ⟨hx, hb, hml, hown, hts⟩ (c_X9_isHere l G y h 84 q x ft) (cwV 1 hts gX9_readPart_X9_isHere rfl rfl rfl (by decide +kernel) ⟨Nat.le_of_ble_eq_true rfl, Nat.le_of_ble_eq_true rfl⟩) (PR_V (hP.sub (ws' := [kX9 h q x, aC y q 60 ft]) [0, 1] rfl) hK hN (ci := 7) (q0 := 0) rfl rfl) rfl rfl hl.1 rfl (lv_room (Nat.le_of_ble_eq_true rfl)) dX9_readPart_115 ⟨Nat.le_of_ble_eq_true rfl, Nat.le_of_ble_eq_true rfl⟩) ?_
            refine lv_if_eq (tgt := 157) hx hb dX9_readPart_118 (by decide) (fun c_70 => ?_) (fun c_70 => ?_)
            · refine lv_iconst (v := 0) hx hb dX9_readPart_157 (by decide) ?_
              rw [hQQ]
              exact W.zret hx hb hr (nz_bool (Or.inl rfl)) (end_Hi () hP hD hS (by unfold s_X9_readPart_r; exact ((if_neg c_1).trans ((if_neg c_58).trans ((if_pos c_59).trans ((if_neg c_60).trans ((if_neg c_69).trans (if_pos c_70)))))).symm) (congrArg (fun (z0 : Nat → Int32) => [kX9 h q z0, aC y q 60 ft]) (by unfold s_X9_readPart_w0; exact ((if_neg c_1).trans ((if_neg c_58).trans ((if_pos c_59).trans ((if_neg c_60).trans ((if_neg c_69).trans (if_pos c_70)))))).symm))) hS.2.2 dX9_readPart_158
            · refine lv_aload_n hx hb dX9_readPart_121 rfl (lv_at hl 0 rfl) ?_
              refine va_get (D := G) (ci := 7) (v := .int (x 9)) (C := RX9) (T := TX9) (N := 12) hx hb hts i_X9 hown hK hP 0 rfl rfl 9 (by decide) (hts (.fieldLink RX9 28 "RelayTuner$Text" "tolerance" "I") (by decide +kernel)) (fun _ h9 => h9) rfl dX9_readPart_122 ?_
              refine lv_iconst (v := (-1)) hx hb dX9_readPart_125 (by decide) ?_
              refine lv_icmp_ne (tgt := 157) hx hb dX9_readPart_126 (by decide) (fun c_71 => ?_) (fun c_71 => ?_)
              · refine lv_iconst (v := 0) hx hb dX9_readPart_157 (by decide) ?_
                rw [hQQ]
                exact W.zret hx hb hr (nz_bool (Or.inl rfl)) (end_Hi () hP hD hS (by unfold s_X9_readPart_r; exact ((if_neg c_1).trans ((if_neg c_58).trans ((if_pos c_59).trans ((if_neg c_60).trans ((if_neg c_69).trans ((if_neg c_70).trans (if_neg c_71))))))).symm) (congrArg (fun (z0 : Nat → Int32) => [kX9 h q z0, aC y q 60 ft]) (by unfold s_X9_readPart_w0; exact ((if_neg c_1).trans ((if_neg c_58).trans ((if_pos c_59).trans ((if_neg c_60).trans ((if_neg c_69).trans ((if_neg c_70).trans (if_neg c_71))))))).symm))) hS.2.2 dX9_readPart_158
              · refine lv_aload_n hx hb dX9_readPart_129 rfl (lv_at hl 0 rfl) ?_
                refine lv_aload_n hx hb dX9_readPart_130 rfl (lv_at hl 0 rfl) ?_
                refine lv_bipush (v := 84) hx hb dX9_readPart_131 (by decide) ?_
                refine lv_iconst (v := 2) hx hb dX9_readPart_133 (by decide) ?_
                refine lv_iconst (v := 0) hx hb dX9_readPart_134 (by decide) ?_
                refine lv_bipush (v := 99) hx hb dX9_readPart_135 (by decide) ?_
                refine cl_Hi (wr := []) (fun _ : Unit => [kX9 h q (s_X9_labelled_2_w0 84 0 99 x ft), aC y q 60 ft]) [0, 1] [] [0, 1] (va_runV (As := [.int 84, .int 2, .int 0, .int 99]) (rest := [.ref h]) ⟨hx, hb, hml, hown, hts⟩ (c_X9_labelled_2 l G y h 84 0 99 q x ft s.heap.size) (cwV 4 hts gX9_readPart_X9_labelled rfl rfl rfl (by decide +kernel) ⟨Nat.le_of_ble_eq_true rfl, Nat.le_of_ble_eq_true rfl⟩) (PH_V (hP.sub (ws' := [kX9 h q x, aC y q 60 ft]) [0, 1] rfl) hK hN (hD.sub (ws' := [kX9 h q x, aC y q 60 ft]) [0, 1] (by decide) rfl) (ci := 7) (q0 := 0) rfl rfl) rfl rfl hl.1 rfl (lv_room (Nat.le_of_ble_eq_true rfl)) dX9_readPart_137 ⟨Nat.le_of_ble_eq_true rfl, Nat.le_of_ble_eq_true rfl⟩) hP hD hS hA rfl rfl rfl (by decide) rfl (fun _ => rfl) (fun _ H locs hP hD hS => ?_)
                have hP : va_P G vwCl [kX9 h q (s_X9_labelled_2_w0 84 0 99 x ft), aC y q 60 ft] H := hP
                have hD : va_D A [kX9 h q (s_X9_labelled_2_w0 84 0 99 x ft), aC y q 60 ft] := hD
                obtain ⟨v_72, e_v_72⟩ : ∃ zq9 : Nat → Int32, zq9 = (s_X9_labelled_2_w0 84 0 99 x ft) := ⟨_, rfl⟩
                have hP : va_P G vwCl [kX9 h q v_72, aC y q 60 ft] H := by rw [e_v_72]; exact hP
                have hD : va_D A [kX9 h q v_72, aC y q 60 ft] := by rw [e_v_72]; exact hD
                obtain ⟨v_73, e_v_73⟩ : ∃ zq9 : Int32, zq9 = (s_X9_labelled_2_r 84 0 99 x ft) := ⟨_, rfl⟩
                refine rw_i (x' := v_73) e_v_73.symm ?_
                refine va_put (D := G) (ci := 7) (v := .int v_73) (ty := .int) (C := RX9) (T := TX9) (N := 12) hx hb hts i_X9 tyX9 tyX9_ok nmX9 hown hK hP hD hS 0 rfl rfl 9 (by decide) (hts (.fieldLink RX9 28 "RelayTuner$Text" "tolerance" "I") (by decide +kernel)) (fun _ h9 => h9) rfl (by decide +kernel) rfl rfl (Nat.le_of_ble_eq_true rfl) dX9_readPart_140 (fun H locs hP hD hS => ?_)
                have hP : va_P G vwCl [kX9 h q (upd v_72 9 v_73), aC y q 60 ft] H := hP
                have hD : va_D A [kX9 h q (upd v_72 9 v_73), aC y q 60 ft] := hD
                refine lv_aload_n hx hb dX9_readPart_143 rfl (lv_at hl 0 rfl) ?_
                refine va_get (D := G) (ci := 7) (v := .int v_73) (C := RX9) (T := TX9) (N := 12) hx hb hts i_X9 hown hK hP 0 rfl rfl 9 (by decide) (hts (.fieldLink RX9 28 "RelayTuner$Text" "tolerance" "I") (by decide +kernel)) (fun _ h9 => h9) rfl dX9_readPart_144 ?_
                refine lv_iconst (v := (-1)) hx hb dX9_readPart_147 (by decide) ?_
                have J156_77 : ∀ (v_75 : Int32) (e_v_75 : v_75 = (if v_73 = (-1) then 0 else 1)) (z_76 : v_75 = 0 ∨ v_75 = 1) (ls : Array Slot) (hl : lv_has ls 1 []), W p l e (headSpec wsX9_readPart rmX9_readPart).room s m ([.ref h] : List Value).toArray below meth c H locs 0 0 QQ (F0 m 156 ls [.int v_75]) := by
                  intro v_75 e_v_75 z_76 ls hl
                  rw [hQQ]
                  exact W.zret hx hb hr (nz_bool z_76) (end_Hi () hP hD hS (by subst e_v_75; subst e_v_73; subst e_v_72; unfold s_X9_readPart_r; exact ((if_neg c_1).trans ((if_neg c_58).trans ((if_pos c_59).trans ((if_neg c_60).trans ((if_neg c_69).trans ((if_neg c_70).trans (if_pos c_71))))))).symm) (congrArg (fun (z0 : Nat → Int32) => [kX9 h q z0, aC y q 60 ft]) (by subst e_v_75; subst e_v_73; subst e_v_72; unfold s_X9_readPart_w0; exact ((if_neg c_1).trans ((if_neg c_58).trans ((if_pos c_59).trans ((if_neg c_60).trans ((if_neg c_69).trans ((if_neg c_70).trans (if_pos c_71))))))).symm))) hS.2.2 dX9_readPart_156
                refine lv_icmp_eq (tgt := 155) hx hb dX9_readPart_148 (by decide) (fun c_74 => ?_) (fun c_74 => ?_)
                · refine lv_iconst (v := 0) hx hb dX9_readPart_155 (by decide) ?_
                  exact J156_77 _ (if_pos c_74).symm (Or.inl rfl) ls (lv_sub hl [] rfl)
                · refine lv_iconst (v := 1) hx hb dX9_readPart_151 (by decide) ?_
                  refine lv_goto (tgt := 156) hx hb dX9_readPart_152 (by decide) ?_
                  exact J156_77 _ (if_neg c_74).symm (Or.inr rfl) ls (lv_sub hl [] rfl)
          · refine lv_aload_n hx hb dX9_readPart_84 rfl (lv_at hl 0 rfl) ?_
            refine lv_aload_n hx hb dX9_readPart_85 rfl (lv_at hl 0 rfl) ?_
            refine lv_bipush (v := 66) hx hb dX9_readPart_86 (by decide) ?_
            refine lv_iconst (v := 2) hx hb dX9_readPart_88 (by decide) ?_
            refine lv_iconst (v := 0) hx hb dX9_readPart_89 (by decide) ?_
            refine lv_bipush (v := 20) hx hb dX9_readPart_90 (by decide) ?_
            refine cl_Hi (wr := []) (fun _ : Unit => [kX9 h q (s_X9_labelled_2_w0 66 0 20 x ft), aC y q 60 ft]) [0, 1] [] [0, 1] (va_runV (As := [.int 66, .int 2, .int 0, .int 20]) (rest := [.ref h]) ⟨hx, hb, hml, hown, hts⟩ (c_X9_labelled_2 l G y h 66 0 20 q x ft s.heap.size) (cwV 4 hts gX9_readPart_X9_labelled rfl rfl rfl (by decide +kernel) ⟨Nat.le_of_ble_eq_true rfl, Nat.le_of_ble_eq_true rfl⟩) (PH_V (hP.sub (ws' := [kX9 h q x, aC y q 60 ft]) [0, 1] rfl) hK hN (hD.sub (ws' := [kX9 h q x, aC y q 60 ft]) [0, 1] (by decide) rfl) (ci := 7) (q0 := 0) rfl rfl) rfl rfl hl.1 rfl (lv_room (Nat.le_of_ble_eq_true rfl)) dX9_readPart_92 ⟨Nat.le_of_ble_eq_true rfl, Nat.le_of_ble_eq_true rfl⟩) hP hD hS hA rfl rfl rfl (by decide) rfl (fun _ => rfl) (fun _ H locs hP hD hS => ?_)
            have hP : va_P G vwCl [kX9 h q (s_X9_labelled_2_w0 66 0 20 x ft), aC y q 60 ft] H := hP
            have hD : va_D A [kX9 h q (s_X9_labelled_2_w0 66 0 20 x ft), aC y q 60 ft] := hD
            obtain ⟨v_78, e_v_78⟩ : ∃ zq9 : Nat → Int32, zq9 = (s_X9_labelled_2_w0 66 0 20 x ft) := ⟨_, rfl⟩
            have hP : va_P G vwCl [kX9 h q v_78, aC y q 60 ft] H := by rw [e_v_78]; exact hP
            have hD : va_D A [kX9 h q v_78, aC y q 60 ft] := by rw [e_v_78]; exact hD
            obtain ⟨v_79, e_v_79⟩ : ∃ zq9 : Int32, zq9 = (s_X9_labelled_2_r 66 0 20 x ft) := ⟨_, rfl⟩
            refine rw_i (x' := v_79) e_v_79.symm ?_
            refine va_put (D := G) (ci := 7) (v := .int v_79) (ty := .int) (C := RX9) (T := TX9) (N := 12) hx hb hts i_X9 tyX9 tyX9_ok nmX9 hown hK hP hD hS 0 rfl rfl 8 (by decide) (hts (.fieldLink RX9 25 "RelayTuner$Text" "band" "I") (by decide +kernel)) (fun _ h9 => h9) rfl (by decide +kernel) rfl rfl (Nat.le_of_ble_eq_true rfl) dX9_readPart_95 (fun H locs hP hD hS => ?_)
            have hP : va_P G vwCl [kX9 h q (upd v_78 8 v_79), aC y q 60 ft] H := hP
            have hD : va_D A [kX9 h q (upd v_78 8 v_79), aC y q 60 ft] := hD
            refine lv_aload_n hx hb dX9_readPart_98 rfl (lv_at hl 0 rfl) ?_
            refine va_get (D := G) (ci := 7) (v := .int v_79) (C := RX9) (T := TX9) (N := 12) hx hb hts i_X9 hown hK hP 0 rfl rfl 8 (by decide) (hts (.fieldLink RX9 25 "RelayTuner$Text" "band" "I") (by decide +kernel)) (fun _ h9 => h9) rfl dX9_readPart_99 ?_
            refine lv_iconst (v := (-1)) hx hb dX9_readPart_102 (by decide) ?_
            have J111_83 : ∀ (v_81 : Int32) (e_v_81 : v_81 = (if v_79 = (-1) then 0 else 1)) (z_82 : v_81 = 0 ∨ v_81 = 1) (ls : Array Slot) (hl : lv_has ls 1 []), W p l e (headSpec wsX9_readPart rmX9_readPart).room s m ([.ref h] : List Value).toArray below meth c H locs 0 0 QQ (F0 m 111 ls [.int v_81]) := by
              intro v_81 e_v_81 z_82 ls hl
              rw [hQQ]
              exact W.zret hx hb hr (nz_bool z_82) (end_Hi () hP hD hS (by subst e_v_81; subst e_v_79; subst e_v_78; unfold s_X9_readPart_r; exact ((if_neg c_1).trans ((if_neg c_58).trans ((if_pos c_59).trans ((if_neg c_60).trans (if_pos c_69))))).symm) (congrArg (fun (z0 : Nat → Int32) => [kX9 h q z0, aC y q 60 ft]) (by subst e_v_81; subst e_v_79; subst e_v_78; unfold s_X9_readPart_w0; exact ((if_neg c_1).trans ((if_neg c_58).trans ((if_pos c_59).trans ((if_neg c_60).trans (if_pos c_69))))).symm))) hS.2.2 dX9_readPart_111
            refine lv_icmp_eq (tgt := 110) hx hb dX9_readPart_103 (by decide) (fun c_80 => ?_) (fun c_80 => ?_)
            · refine lv_iconst (v := 0) hx hb dX9_readPart_110 (by decide) ?_
              exact J111_83 _ (if_pos c_80).symm (Or.inl rfl) ls (lv_sub hl [] rfl)
            · refine lv_iconst (v := 1) hx hb dX9_readPart_106 (by decide) ?_
              refine lv_goto (tgt := 111) hx hb dX9_readPart_107 (by decide) ?_
              exact J111_83 _ (if_neg c_80).symm (Or.inr rfl) ls (lv_sub hl [] rfl)
      · refine lv_aload_n hx hb dX9_readPart_30 rfl (lv_at hl 0 rfl) ?_
        refine va_get (D := G) (ci := 7) (v := .int (x 7)) (C := RX9) (T := TX9) (N := 12) hx hb hts i_X9 hown hK hP 0 rfl rfl 7 (by decide) (hts (.fieldLink RX9 22 "RelayTuner$Text" "setPoint" "I") (by decide +kernel)) (fun _ h9 => h9) rfl dX9_readPart_31 ?_
        refine lv_iconst (v := (-1)) hx hb dX9_readPart_34 (by decide) ?_
        refine lv_icmp_ne (tgt := 67) hx hb dX9_readPart_35 (by decide) (fun c_84 => ?_) (fun c_84 => ?_)
        · refine lv_aload_n hx hb dX9_readPart_67 rfl (lv_at hl 0 rfl) ?_
          refine lv_bipush (v := 66) hx hb dX9_readPart_68 (by decide) ?_
          refine cl_Ri (va_runV (As := [.int 66]) (rest := []) ⟨hx, hb, hml, hown, hts⟩ (c_X9_isHere l G y h 66 q x ft) (cwV 1 hts gX9_readPart_X9_isHere rfl rfl rfl (by decide +kernel) ⟨Nat.le_of_ble_eq_true rfl, Nat.le_of_ble_eq_true rfl⟩) (PR_V (hP.sub (ws' := [kX9 h q x, aC y q 60 ft]) [0, 1] rfl) hK hN (ci := 7) (q0 := 0) rfl rfl) rfl rfl hl.1 rfl (lv_room (Nat.le_of_ble_eq_true rfl)) dX9_readPart_70 ⟨Nat.le_of_ble_eq_true rfl, Nat.le_of_ble_eq_true rfl⟩) ?_
          refine lv_if_eq (tgt := 112) hx hb dX9_readPart_73 (by decide) (fun c_85 => ?_) (fun c_85 => ?_)
          · refine lv_aload_n hx hb dX9_readPart_112 rfl (lv_at hl 0 rfl) ?_
            refine lv_bipush (v := 84) hx hb dX9_readPart_113 (by decide) ?_
            refine cl_Ri (va_runV (As := [.int 84]) (rest := []) ⟨hx, hb, hml, hown, hts⟩ (c_X9_isHere l G y h 84 q x ft) (cwV 1 hts gX9_readPart_X9_isHere rfl rfl rfl (by decide +kernel) ⟨Nat.le_of_ble_eq_true rfl, Nat.le_of_ble_eq_true rfl⟩) (PR_V (hP.sub (ws' := [kX9 h q x, aC y q 60 ft]) [0, 1] rfl) hK hN (ci := 7) (q0 := 0) rfl rfl) rfl rfl hl.1 rfl (lv_room (Nat.le_of_ble_eq_true rfl)) dX9_readPart_115 ⟨Nat.le_of_ble_eq_true rfl, Nat.le_of_ble_eq_true rfl⟩) ?_
            refine lv_if_eq (tgt := 157) hx hb dX9_readPart_118 (by decide) (fun c_86 => ?_) (fun c_86 => ?_)
            · refine lv_iconst (v := 0) hx hb dX9_readPart_157 (by decide) ?_
              rw [hQQ]
              exact W.zret hx hb hr (nz_bool (Or.inl rfl)) (end_Hi () hP hD hS (by unfold s_X9_readPart_r; exact ((if_neg c_1).trans ((if_neg c_58).trans ((if_neg c_59).trans ((if_neg c_84).trans ((if_pos c_85).trans (if_pos c_86)))))).symm) (congrArg (fun (z0 : Nat → Int32) => [kX9 h q z0, aC y q 60 ft]) (by unfold s_X9_readPart_w0; exact ((if_neg c_1).trans ((if_neg c_58).trans ((if_neg c_59).trans ((if_neg c_84).trans ((if_pos c_85).trans (if_pos c_86)))))).symm))) hS.2.2 dX9_readPart_158
            · refine lv_aload_n hx hb dX9_readPart_121 rfl (lv_at hl 0 rfl) ?_
              refine va_get (D := G) (ci := 7) (v := .int (x 9)) (C := RX9) (T := TX9) (N := 12) hx hb hts i_X9 hown hK hP 0 rfl rfl 9 (by decide) (hts (.fieldLink RX9 28 "RelayTuner$Text" "tolerance" "I") (by decide +kernel)) (fun _ h9 => h9) rfl dX9_readPart_122 ?_
              refine lv_iconst (v := (-1)) hx hb dX9_readPart_125 (by decide) ?_
              refine lv_icmp_ne (tgt := 157) hx hb dX9_readPart_126 (by decide) (fun c_87 => ?_) (fun c_87 => ?_)
              · refine lv_iconst (v := 0) hx hb dX9_readPart_157 (by decide) ?_
                rw [hQQ]
                exact W.zret hx hb hr (nz_bool (Or.inl rfl)) (end_Hi () hP hD hS (by unfold s_X9_readPart_r; exact ((if_neg c_1).trans ((if_neg c_58).trans ((if_neg c_59).trans ((if_neg c_84).trans ((if_pos c_85).trans ((if_neg c_86).trans (if_neg c_87))))))).symm) (congrArg (fun (z0 : Nat → Int32) => [kX9 h q z0, aC y q 60 ft]) (by unfold s_X9_readPart_w0; exact ((if_neg c_1).trans ((if_neg c_58).trans ((if_neg c_59).trans ((if_neg c_84).trans ((if_pos c_85).trans ((if_neg c_86).trans (if_neg c_87))))))).symm))) hS.2.2 dX9_readPart_158
              · refine lv_aload_n hx hb dX9_readPart_129 rfl (lv_at hl 0 rfl) ?_
                refine lv_aload_n hx hb dX9_readPart_130 rfl (lv_at hl 0 rfl) ?_
                refine lv_bipush (v := 84) hx hb dX9_readPart_131 (by decide) ?_
                refine lv_iconst (v := 2) hx hb dX9_readPart_133 (by decide) ?_
                refine lv_iconst (v := 0) hx hb dX9_readPart_134 (by decide) ?_
                refine lv_bipush (v := 99) hx hb dX9_readPart_135 (by decide) ?_
                refine cl_Hi (wr := []) (fun _ : Unit => [kX9 h q (s_X9_labelled_2_w0 84 0 99 x ft), aC y q 60 ft]) [0, 1] [] [0, 1] (va_runV (As := [.int 84, .int 2, .int 0, .int 99]) (rest := [.ref h]) ⟨hx, hb, hml, hown, hts⟩ (c_X9_labelled_2 l G y h 84 0 99 q x ft s.heap.size) (cwV 4 hts gX9_readPart_X9_labelled rfl rfl rfl (by decide +kernel) ⟨Nat.le_of_ble_eq_true rfl, Nat.le_of_ble_eq_true rfl⟩) (PH_V (hP.sub (ws' := [kX9 h q x, aC y q 60 ft]) [0, 1] rfl) hK hN (hD.sub (ws' := [kX9 h q x, aC y q 60 ft]) [0, 1] (by decide) rfl) (ci := 7) (q0 := 0) rfl rfl) rfl rfl hl.1 rfl (lv_room (Nat.le_of_ble_eq_true rfl)) dX9_readPart_137 ⟨Nat.le_of_ble_eq_true rfl, Nat.le_of_ble_eq_true rfl⟩) hP hD hS hA rfl rfl rfl (by decide) rfl (fun _ => rfl) (fun _ H locs hP hD hS => ?_)
                have hP : va_P G vwCl [kX9 h q (s_X9_labelled_2_w0 84 0 99 x ft), aC y q 60 ft] H := hP
                have hD : va_D A [kX9 h q (s_X9_labelled_2_w0 84 0 99 x ft), aC y q 60 ft] := hD
                obtain ⟨v_88, e_v_88⟩ : ∃ zq9 : Nat → Int32, zq9 = (s_X9_labelled_2_w0 84 0 99 x ft) := ⟨_, rfl⟩
                have hP : va_P G vwCl [kX9 h q v_88, aC y q 60 ft] H := by rw [e_v_88]; exact hP
                have hD : va_D A [kX9 h q v_88, aC y q 60 ft] := by rw [e_v_88]; exact hD
                obtain ⟨v_89, e_v_89⟩ : ∃ zq9 : Int32, zq9 = (s_X9_labelled_2_r 84 0 99 x ft) := ⟨_, rfl⟩
                refine rw_i (x' := v_89) e_v_89.symm ?_
                refine va_put (D := G) (ci := 7) (v := .int v_89) (ty := .int) (C := RX9) (T := TX9) (N := 12) hx hb hts i_X9 tyX9 tyX9_ok nmX9 hown hK hP hD hS 0 rfl rfl 9 (by decide) (hts (.fieldLink RX9 28 "RelayTuner$Text" "tolerance" "I") (by decide +kernel)) (fun _ h9 => h9) rfl (by decide +kernel) rfl rfl (Nat.le_of_ble_eq_true rfl) dX9_readPart_140 (fun H locs hP hD hS => ?_)
                have hP : va_P G vwCl [kX9 h q (upd v_88 9 v_89), aC y q 60 ft] H := hP
                have hD : va_D A [kX9 h q (upd v_88 9 v_89), aC y q 60 ft] := hD
                refine lv_aload_n hx hb dX9_readPart_143 rfl (lv_at hl 0 rfl) ?_
                refine va_get (D := G) (ci := 7) (v := .int v_89) (C := RX9) (T := TX9) (N := 12) hx hb hts i_X9 hown hK hP 0 rfl rfl 9 (by decide) (hts (.fieldLink RX9 28 "RelayTuner$Text" "tolerance" "I") (by decide +kernel)) (fun _ h9 => h9) rfl dX9_readPart_144 ?_
                refine lv_iconst (v := (-1)) hx hb dX9_readPart_147 (by decide) ?_
                have J156_93 : ∀ (v_91 : Int32) (e_v_91 : v_91 = (if v_89 = (-1) then 0 else 1)) (z_92 : v_91 = 0 ∨ v_91 = 1) (ls : Array Slot) (hl : lv_has ls 1 []), W p l e (headSpec wsX9_readPart rmX9_readPart).room s m ([.ref h] : List Value).toArray below meth c H locs 0 0 QQ (F0 m 156 ls [.int v_91]) := by
                  intro v_91 e_v_91 z_92 ls hl
                  rw [hQQ]
                  exact W.zret hx hb hr (nz_bool z_92) (end_Hi () hP hD hS (by subst e_v_91; subst e_v_89; subst e_v_88; unfold s_X9_readPart_r; exact ((if_neg c_1).trans ((if_neg c_58).trans ((if_neg c_59).trans ((if_neg c_84).trans ((if_pos c_85).trans ((if_neg c_86).trans (if_pos c_87))))))).symm) (congrArg (fun (z0 : Nat → Int32) => [kX9 h q z0, aC y q 60 ft]) (by subst e_v_91; subst e_v_89; subst e_v_88; unfold s_X9_readPart_w0; exact ((if_neg c_1).trans ((if_neg c_58).trans ((if_neg c_59).trans ((if_neg c_84).trans ((if_pos c_85).trans ((if_neg c_86).trans (if_pos c_87))))))).symm))) hS.2.2 dX9_readPart_156
                refine lv_icmp_eq (tgt := 155) hx hb dX9_readPart_148 (by decide) (fun c_90 => ?_) (fun c_90 => ?_)
                · refine lv_iconst (v := 0) hx hb dX9_readPart_155 (by decide) ?_
                  exact J156_93 _ (if_pos c_90).symm (Or.inl rfl) ls (lv_sub hl [] rfl)
                · refine lv_iconst (v := 1) hx hb dX9_readPart_151 (by decide) ?_
                  refine lv_goto (tgt := 156) hx hb dX9_readPart_152 (by decide) ?_
                  exact J156_93 _ (if_neg c_90).symm (Or.inr rfl) ls (lv_sub hl [] rfl)
          · refine lv_aload_n hx hb dX9_readPart_76 rfl (lv_at hl 0 rfl) ?_
            refine va_get (D := G) (ci := 7) (v := .int (x 8)) (C := RX9) (T := TX9) (N := 12) hx hb hts i_X9 hown hK hP 0 rfl rfl 8 (by decide) (hts (.fieldLink RX9 25 "RelayTuner$Text" "band" "I") (by decide +kernel)) (fun _ h9 => h9) rfl dX9_readPart_77 ?_
            refine lv_iconst (v := (-1)) hx hb dX9_readPart_80 (by decide) ?_
            refine lv_icmp_ne (tgt := 112) hx hb dX9_readPart_81 (by decide) (fun c_94 => ?_) (fun c_94 => ?_)
            · refine lv_aload_n hx hb dX9_readPart_112 rfl (lv_at hl 0 rfl) ?_
              refine lv_bipush (v := 84) hx hb dX9_readPart_113 (by decide) ?_
              refine cl_Ri (va_runV (As := [.int 84]) (rest := []) ⟨hx, hb, hml, hown, hts⟩ (c_X9_isHere l G y h 84 q x ft) (cwV 1 hts gX9_readPart_X9_isHere rfl rfl rfl (by decide +kernel) ⟨Nat.le_of_ble_eq_true rfl, Nat.le_of_ble_eq_true rfl⟩) (PR_V (hP.sub (ws' := [kX9 h q x, aC y q 60 ft]) [0, 1] rfl) hK hN (ci := 7) (q0 := 0) rfl rfl) rfl rfl hl.1 rfl (lv_room (Nat.le_of_ble_eq_true rfl)) dX9_readPart_115 ⟨Nat.le_of_ble_eq_true rfl, Nat.le_of_ble_eq_true rfl⟩) ?_
              refine lv_if_eq (tgt := 157) hx hb dX9_readPart_118 (by decide) (fun c_95 => ?_) (fun c_95 => ?_)
              · refine lv_iconst (v := 0) hx hb dX9_readPart_157 (by decide) ?_
                rw [hQQ]
                exact W.zret hx hb hr (nz_bool (Or.inl rfl)) (end_Hi () hP hD hS (by unfold s_X9_readPart_r; exact ((if_neg c_1).trans ((if_neg c_58).trans ((if_neg c_59).trans ((if_neg c_84).trans ((if_neg c_85).trans ((if_neg c_94).trans (if_pos c_95))))))).symm) (congrArg (fun (z0 : Nat → Int32) => [kX9 h q z0, aC y q 60 ft]) (by unfold s_X9_readPart_w0; exact ((if_neg c_1).trans ((if_neg c_58).trans ((if_neg c_59).trans ((if_neg c_84).trans ((if_neg c_85).trans ((if_neg c_94).trans (if_pos c_95))))))).symm))) hS.2.2 dX9_readPart_158
              · refine lv_aload_n hx hb dX9_readPart_121 rfl (lv_at hl 0 rfl) ?_
                refine va_get (D := G) (ci := 7) (v := .int (x 9)) (C := RX9) (T := TX9) (N := 12) hx hb hts i_X9 hown hK hP 0 rfl rfl 9 (by decide) (hts (.fieldLink RX9 28 "RelayTuner$Text" "tolerance" "I") (by decide +kernel)) (fun _ h9 => h9) rfl dX9_readPart_122 ?_
                refine lv_iconst (v := (-1)) hx hb dX9_readPart_125 (by decide) ?_
                refine lv_icmp_ne (tgt := 157) hx hb dX9_readPart_126 (by decide) (fun c_96 => ?_) (fun c_96 => ?_)
                · refine lv_iconst (v := 0) hx hb dX9_readPart_157 (by decide) ?_
                  rw [hQQ]
                  exact W.zret hx hb hr (nz_bool (Or.inl rfl)) (end_Hi () hP hD hS (by unfold s_X9_readPart_r; exact ((if_neg c_1).trans ((if_neg c_58).trans ((if_neg c_59).trans ((if_neg c_84).trans ((if_neg c_85).trans ((if_neg c_94).trans ((if_neg c_95).trans (if_neg c_96)))))))).symm) (congrArg (fun (z0 : Nat → Int32) => [kX9 h q z0, aC y q 60 ft]) (by unfold s_X9_readPart_w0; exact ((if_neg c_1).trans ((if_neg c_58).trans ((if_neg c_59).trans ((if_neg c_84).trans ((if_neg c_85).trans ((if_neg c_94).trans ((if_neg c_95).trans (if_neg c_96)))))))).symm))) hS.2.2 dX9_readPart_158
                · refine lv_aload_n hx hb dX9_readPart_129 rfl (lv_at hl 0 rfl) ?_
                  refine lv_aload_n hx hb dX9_readPart_130 rfl (lv_at hl 0 rfl) ?_
                  refine lv_bipush (v := 84) hx hb dX9_readPart_131 (by decide) ?_
                  refine lv_iconst (v := 2) hx hb dX9_readPart_133 (by decide) ?_
                  refine lv_iconst (v := 0) hx hb dX9_readPart_134 (by decide) ?_
                  refine lv_bipush (v := 99) hx hb dX9_readPart_135 (by decide) ?_
                  refine cl_Hi (wr := []) (fun _ : Unit => [kX9 h q (s_X9_labelled_2_w0 84 0 99 x ft), aC y q 60 ft]) [0, 1] [] [0, 1] (va_runV (As := [.int 84, .int 2, .int 0, .int 99]) (rest := [.ref h]) ⟨hx, hb, hml, hown, hts⟩ (c_X9_labelled_2 l G y h 84 0 99 q x ft s.heap.size) (cwV 4 hts gX9_readPart_X9_labelled rfl rfl rfl (by decide +kernel) ⟨Nat.le_of_ble_eq_true rfl, Nat.le_of_ble_eq_true rfl⟩) (PH_V (hP.sub (ws' := [kX9 h q x, aC y q 60 ft]) [0, 1] rfl) hK hN (hD.sub (ws' := [kX9 h q x, aC y q 60 ft]) [0, 1] (by decide) rfl) (ci := 7) (q0 := 0) rfl rfl) rfl rfl hl.1 rfl (lv_room (Nat.le_of_ble_eq_true rfl)) dX9_readPart_137 ⟨Nat.le_of_ble_eq_true rfl, Nat.le_of_ble_eq_true rfl⟩) hP hD hS hA rfl rfl rfl (by decide) rfl (fun _ => rfl) (fun _ H locs hP hD hS => ?_)
                  have hP : va_P G vwCl [kX9 h q (s_X9_labelled_2_w0 84 0 99 x ft), aC y q 60 ft] H := hP
                  have hD : va_D A [kX9 h q (s_X9_labelled_2_w0 84 0 99 x ft), aC y q 60 ft] := hD
                  obtain ⟨v_97, e_v_97⟩ : ∃ zq9 : Nat → Int32, zq9 = (s_X9_labelled_2_w0 84 0 99 x ft) := ⟨_, rfl⟩
                  have hP : va_P G vwCl [kX9 h q v_97, aC y q 60 ft] H := by rw [e_v_97]; exact hP
                  have hD : va_D A [kX9 h q v_97, aC y q 60 ft] := by rw [e_v_97]; exact hD
                  obtain ⟨v_98, e_v_98⟩ : ∃ zq9 : Int32, zq9 = (s_X9_labelled_2_r 84 0 99 x ft) := ⟨_, rfl⟩
                  refine rw_i (x' := v_98) e_v_98.symm ?_
                  refine va_put (D := G) (ci := 7) (v := .int v_98) (ty := .int) (C := RX9) (T := TX9) (N := 12) hx hb hts i_X9 tyX9 tyX9_ok nmX9 hown hK hP hD hS 0 rfl rfl 9 (by decide) (hts (.fieldLink RX9 28 "RelayTuner$Text" "tolerance" "I") (by decide +kernel)) (fun _ h9 => h9) rfl (by decide +kernel) rfl rfl (Nat.le_of_ble_eq_true rfl) dX9_readPart_140 (fun H locs hP hD hS => ?_)
                  have hP : va_P G vwCl [kX9 h q (upd v_97 9 v_98), aC y q 60 ft] H := hP
                  have hD : va_D A [kX9 h q (upd v_97 9 v_98), aC y q 60 ft] := hD
                  refine lv_aload_n hx hb dX9_readPart_143 rfl (lv_at hl 0 rfl) ?_
                  refine va_get (D := G) (ci := 7) (v := .int v_98) (C := RX9) (T := TX9) (N := 12) hx hb hts i_X9 hown hK hP 0 rfl rfl 9 (by decide) (hts (.fieldLink RX9 28 "RelayTuner$Text" "tolerance" "I") (by decide +kernel)) (fun _ h9 => h9) rfl dX9_readPart_144 ?_
                  refine lv_iconst (v := (-1)) hx hb dX9_readPart_147 (by decide) ?_
                  have J156_102 : ∀ (v_100 : Int32) (e_v_100 : v_100 = (if v_98 = (-1) then 0 else 1)) (z_101 : v_100 = 0 ∨ v_100 = 1) (ls : Array Slot) (hl : lv_has ls 1 []), W p l e (headSpec wsX9_readPart rmX9_readPart).room s m ([.ref h] : List Value).toArray below meth c H locs 0 0 QQ (F0 m 156 ls [.int v_100]) := by
                    intro v_100 e_v_100 z_101 ls hl
                    rw [hQQ]
                    exact W.zret hx hb hr (nz_bool z_101) (end_Hi () hP hD hS (by subst e_v_100; subst e_v_98; subst e_v_97; unfold s_X9_readPart_r; exact ((if_neg c_1).trans ((if_neg c_58).trans ((if_neg c_59).trans ((if_neg c_84).trans ((if_neg c_85).trans ((if_neg c_94).trans ((if_neg c_95).trans (if_pos c_96)))))))).symm) (congrArg (fun (z0 : Nat → Int32) => [kX9 h q z0, aC y q 60 ft]) (by subst e_v_100; subst e_v_98; subst e_v_97; unfold s_X9_readPart_w0; exact ((if_neg c_1).trans ((if_neg c_58).trans ((if_neg c_59).trans ((if_neg c_84).trans ((if_neg c_85).trans ((if_neg c_94).trans ((if_neg c_95).trans (if_pos c_96)))))))).symm))) hS.2.2 dX9_readPart_156
                  refine lv_icmp_eq (tgt := 155) hx hb dX9_readPart_148 (by decide) (fun c_99 => ?_) (fun c_99 => ?_)
                  · refine lv_iconst (v := 0) hx hb dX9_readPart_155 (by decide) ?_
                    exact J156_102 _ (if_pos c_99).symm (Or.inl rfl) ls (lv_sub hl [] rfl)
                  · refine lv_iconst (v := 1) hx hb dX9_readPart_151 (by decide) ?_
                    refine lv_goto (tgt := 156) hx hb dX9_readPart_152 (by decide) ?_
                    exact J156_102 _ (if_neg c_99).symm (Or.inr rfl) ls (lv_sub hl [] rfl)
            · refine lv_aload_n hx hb dX9_readPart_84 rfl (lv_at hl 0 rfl) ?_
              refine lv_aload_n hx hb dX9_readPart_85 rfl (lv_at hl 0 rfl) ?_
              refine lv_bipush (v := 66) hx hb dX9_readPart_86 (by decide) ?_
              refine lv_iconst (v := 2) hx hb dX9_readPart_88 (by decide) ?_
              refine lv_iconst (v := 0) hx hb dX9_readPart_89 (by decide) ?_
              refine lv_bipush (v := 20) hx hb dX9_readPart_90 (by decide) ?_
              refine cl_Hi (wr := []) (fun _ : Unit => [kX9 h q (s_X9_labelled_2_w0 66 0 20 x ft), aC y q 60 ft]) [0, 1] [] [0, 1] (va_runV (As := [.int 66, .int 2, .int 0, .int 20]) (rest := [.ref h]) ⟨hx, hb, hml, hown, hts⟩ (c_X9_labelled_2 l G y h 66 0 20 q x ft s.heap.size) (cwV 4 hts gX9_readPart_X9_labelled rfl rfl rfl (by decide +kernel) ⟨Nat.le_of_ble_eq_true rfl, Nat.le_of_ble_eq_true rfl⟩) (PH_V (hP.sub (ws' := [kX9 h q x, aC y q 60 ft]) [0, 1] rfl) hK hN (hD.sub (ws' := [kX9 h q x, aC y q 60 ft]) [0, 1] (by decide) rfl) (ci := 7) (q0 := 0) rfl rfl) rfl rfl hl.1 rfl (lv_room (Nat.le_of_ble_eq_true rfl)) dX9_readPart_92 ⟨Nat.le_of_ble_eq_true rfl, Nat.le_of_ble_eq_true rfl⟩) hP hD hS hA rfl rfl rfl (by decide) rfl (fun _ => rfl) (fun _ H locs hP hD hS => ?_)
              have hP : va_P G vwCl [kX9 h q (s_X9_labelled_2_w0 66 0 20 x ft), aC y q 60 ft] H := hP
              have hD : va_D A [kX9 h q (s_X9_labelled_2_w0 66 0 20 x ft), aC y q 60 ft] := hD
              obtain ⟨v_103, e_v_103⟩ : ∃ zq9 : Nat → Int32, zq9 = (s_X9_labelled_2_w0 66 0 20 x ft) := ⟨_, rfl⟩
              have hP : va_P G vwCl [kX9 h q v_103, aC y q 60 ft] H := by rw [e_v_103]; exact hP
              have hD : va_D A [kX9 h q v_103, aC y q 60 ft] := by rw [e_v_103]; exact hD
              obtain ⟨v_104, e_v_104⟩ : ∃ zq9 : Int32, zq9 = (s_X9_labelled_2_r 66 0 20 x ft) := ⟨_, rfl⟩
              refine rw_i (x' := v_104) e_v_104.symm ?_
              refine va_put (D := G) (ci := 7) (v := .int v_104) (ty := .int) (C := RX9) (T := TX9) (N := 12) hx hb hts i_X9 tyX9 tyX9_ok nmX9 hown hK hP hD hS 0 rfl rfl 8 (by decide) (hts (.fieldLink RX9 25 "RelayTuner$Text" "band" "I") (by decide +kernel)) (fun _ h9 => h9) rfl (by decide +kernel) rfl rfl (Nat.le_of_ble_eq_true rfl) dX9_readPart_95 (fun H locs hP hD hS => ?_)
              have hP : va_P G vwCl [kX9 h q (upd v_103 8 v_104), aC y q 60 ft] H := hP
              have hD : va_D A [kX9 h q (upd v_103 8 v_104), aC y q 60 ft] := hD
              refine lv_aload_n hx hb dX9_readPart_98 rfl (lv_at hl 0 rfl) ?_
              refine va_get (D := G) (ci := 7) (v := .int v_104) (C := RX9) (T := TX9) (N := 12) hx hb hts i_X9 hown hK hP 0 rfl rfl 8 (by decide) (hts (.fieldLink RX9 25 "RelayTuner$Text" "band" "I") (by decide +kernel)) (fun _ h9 => h9) rfl dX9_readPart_99 ?_
              refine lv_iconst (v := (-1)) hx hb dX9_readPart_102 (by decide) ?_
              have J111_108 : ∀ (v_106 : Int32) (e_v_106 : v_106 = (if v_104 = (-1) then 0 else 1)) (z_107 : v_106 = 0 ∨ v_106 = 1) (ls : Array Slot) (hl : lv_has ls 1 []), W p l e (headSpec wsX9_readPart rmX9_readPart).room s m ([.ref h] : List Value).toArray below meth c H locs 0 0 QQ (F0 m 111 ls [.int v_106]) := by
                intro v_106 e_v_106 z_107 ls hl
                rw [hQQ]
                exact W.zret hx hb hr (nz_bool z_107) (end_Hi () hP hD hS (by subst e_v_106; subst e_v_104; subst e_v_103; unfold s_X9_readPart_r; exact ((if_neg c_1).trans ((if_neg c_58).trans ((if_neg c_59).trans ((if_neg c_84).trans ((if_neg c_85).trans (if_pos c_94)))))).symm) (congrArg (fun (z0 : Nat → Int32) => [kX9 h q z0, aC y q 60 ft]) (by subst e_v_106; subst e_v_104; subst e_v_103; unfold s_X9_readPart_w0; exact ((if_neg c_1).trans ((if_neg c_58).trans ((if_neg c_59).trans ((if_neg c_84).trans ((if_neg c_85).trans (if_pos c_94)))))).symm))) hS.2.2 dX9_readPart_111
              refine lv_icmp_eq (tgt := 110) hx hb dX9_readPart_103 (by decide) (fun c_105 => ?_) (fun c_105 => ?_)
              · refine lv_iconst (v := 0) hx hb dX9_readPart_110 (by decide) ?_
                exact J111_108 _ (if_pos c_105).symm (Or.inl rfl) ls (lv_sub hl [] rfl)
              · refine lv_iconst (v := 1) hx hb dX9_readPart_106 (by decide) ?_
                refine lv_goto (tgt := 111) hx hb dX9_readPart_107 (by decide) ?_
                exact J111_108 _ (if_neg c_105).symm (Or.inr rfl) ls (lv_sub hl [] rfl)
        · refine lv_aload_n hx hb dX9_readPart_38 rfl (lv_at hl 0 rfl) ?_
          refine lv_aload_n hx hb dX9_readPart_39 rfl (lv_at hl 0 rfl) ?_
          refine lv_bipush (v := 83) hx hb dX9_readPart_40 (by decide) ?_
          refine lv_iconst (v := 3) hx hb dX9_readPart_42 (by decide) ?_
          refine lv_iconst (v := 0) hx hb dX9_readPart_43 (by decide) ?_
          refine lv_sipush (v := 999) hx hb dX9_readPart_44 (by decide) ?_
          refine cl_Hi (wr := []) (fun _ : Unit => [kX9 h q (s_X9_labelled_3_w0 83 0 999 x ft), aC y q 60 ft]) [0, 1] [] [0, 1] (va_runV (As := [.int 83, .int 3, .int 0, .int 999]) (rest := [.ref h]) ⟨hx, hb, hml, hown, hts⟩ (c_X9_labelled_3 l G y h 83 0 999 q x ft s.heap.size) (cwV 4 hts gX9_readPart_X9_labelled rfl rfl rfl (by decide +kernel) ⟨Nat.le_of_ble_eq_true rfl, Nat.le_of_ble_eq_true rfl⟩) (PH_V (hP.sub (ws' := [kX9 h q x, aC y q 60 ft]) [0, 1] rfl) hK hN (hD.sub (ws' := [kX9 h q x, aC y q 60 ft]) [0, 1] (by decide) rfl) (ci := 7) (q0 := 0) rfl rfl) rfl rfl hl.1 rfl (lv_room (Nat.le_of_ble_eq_true rfl)) dX9_readPart_47 ⟨Nat.le_of_ble_eq_true rfl, Nat.le_of_ble_eq_true rfl⟩) hP hD hS hA rfl rfl rfl (by decide) rfl (fun _ => rfl) (fun _ H locs hP hD hS => ?_)
          have hP : va_P G vwCl [kX9 h q (s_X9_labelled_3_w0 83 0 999 x ft), aC y q 60 ft] H := hP
          have hD : va_D A [kX9 h q (s_X9_labelled_3_w0 83 0 999 x ft), aC y q 60 ft] := hD
          obtain ⟨v_109, e_v_109⟩ : ∃ zq9 : Nat → Int32, zq9 = (s_X9_labelled_3_w0 83 0 999 x ft) := ⟨_, rfl⟩
          have hP : va_P G vwCl [kX9 h q v_109, aC y q 60 ft] H := by rw [e_v_109]; exact hP
          have hD : va_D A [kX9 h q v_109, aC y q 60 ft] := by rw [e_v_109]; exact hD
          obtain ⟨v_110, e_v_110⟩ : ∃ zq9 : Int32, zq9 = (s_X9_labelled_3_r 83 0 999 x ft) := ⟨_, rfl⟩
          refine rw_i (x' := v_110) e_v_110.symm ?_
          refine va_put (D := G) (ci := 7) (v := .int v_110) (ty := .int) (C := RX9) (T := TX9) (N := 12) hx hb hts i_X9 tyX9 tyX9_ok nmX9 hown hK hP hD hS 0 rfl rfl 7 (by decide) (hts (.fieldLink RX9 22 "RelayTuner$Text" "setPoint" "I") (by decide +kernel)) (fun _ h9 => h9) rfl (by decide +kernel) rfl rfl (Nat.le_of_ble_eq_true rfl) dX9_readPart_50 (fun H locs hP hD hS => ?_)
          have hP : va_P G vwCl [kX9 h q (upd v_109 7 v_110), aC y q 60 ft] H := hP
          have hD : va_D A [kX9 h q (upd v_109 7 v_110), aC y q 60 ft] := hD
          refine lv_aload_n hx hb dX9_readPart_53 rfl (lv_at hl 0 rfl) ?_
          refine va_get (D := G) (ci := 7) (v := .int v_110) (C := RX9) (T := TX9) (N := 12) hx hb hts i_X9 hown hK hP 0 rfl rfl 7 (by decide) (hts (.fieldLink RX9 22 "RelayTuner$Text" "setPoint" "I") (by decide +kernel)) (fun _ h9 => h9) rfl dX9_readPart_54 ?_
          refine lv_iconst (v := (-1)) hx hb dX9_readPart_57 (by decide) ?_
          have J66_114 : ∀ (v_112 : Int32) (e_v_112 : v_112 = (if v_110 = (-1) then 0 else 1)) (z_113 : v_112 = 0 ∨ v_112 = 1) (ls : Array Slot) (hl : lv_has ls 1 []), W p l e (headSpec wsX9_readPart rmX9_readPart).room s m ([.ref h] : List Value).toArray below meth c H locs 0 0 QQ (F0 m 66 ls [.int v_112]) := by
            intro v_112 e_v_112 z_113 ls hl
            rw [hQQ]
            exact W.zret hx hb hr (nz_bool z_113) (end_Hi () hP hD hS (by subst e_v_112; subst e_v_110; subst e_v_109; unfold s_X9_readPart_r; exact ((if_neg c_1).trans ((if_neg c_58).trans ((if_neg c_59).trans (if_pos c_84)))).symm) (congrArg (fun (z0 : Nat → Int32) => [kX9 h q z0, aC y q 60 ft]) (by subst e_v_112; subst e_v_110; subst e_v_109; unfold s_X9_readPart_w0; exact ((if_neg c_1).trans ((if_neg c_58).trans ((if_neg c_59).trans (if_pos c_84)))).symm))) hS.2.2 dX9_readPart_66
          refine lv_icmp_eq (tgt := 65) hx hb dX9_readPart_58 (by decide) (fun c_111 => ?_) (fun c_111 => ?_)
          · refine lv_iconst (v := 0) hx hb dX9_readPart_65 (by decide) ?_
            exact J66_114 _ (if_pos c_111).symm (Or.inl rfl) ls (lv_sub hl [] rfl)
          · refine lv_iconst (v := 1) hx hb dX9_readPart_61 (by decide) ?_
            refine lv_goto (tgt := 66) hx hb dX9_readPart_62 (by decide) ?_
            exact J66_114 _ (if_neg c_111).symm (Or.inr rfl) ls (lv_sub hl [] rfl)
    · refine lv_aload_n hx hb dX9_readPart_16 rfl (lv_at hl 0 rfl) ?_
      refine cl_Hi (wr := []) (fun _ : Unit => [kX9 h q (s_X9_readAmbient_w0 x ft), aC y q 60 ft]) [0, 1] [] [0, 1] (va_runV (As := []) (rest := []) ⟨hx, hb, hml, hown, hts⟩ (c_X9_readAmbient l G y h q x ft s.heap.size) (cwV 0 hts gX9_readPart_X9_readAmbient rfl rfl rfl (by decide +kernel) ⟨Nat.le_of_ble_eq_true rfl, Nat.le_of_ble_eq_true rfl⟩) (PH_V (hP.sub (ws' := [kX9 h q x, aC y q 60 ft]) [0, 1] rfl) hK hN (hD.sub (ws' := [kX9 h q x, aC y q 60 ft]) [0, 1] (by decide) rfl) (ci := 7) (q0 := 0) rfl rfl) rfl rfl hl.1 rfl (lv_room (Nat.le_of_ble_eq_true rfl)) dX9_readPart_17 ⟨Nat.le_of_ble_eq_true rfl, Nat.le_of_ble_eq_true rfl⟩) hP hD hS hA rfl rfl rfl (by decide) rfl (fun _ => rfl) (fun _ H locs hP hD hS => ?_)
      have hP : va_P G vwCl [kX9 h q (s_X9_readAmbient_w0 x ft), aC y q 60 ft] H := hP
      have hD : va_D A [kX9 h q (s_X9_readAmbient_w0 x ft), aC y q 60 ft] := hD
      obtain ⟨v_115, e_v_115⟩ : ∃ zq9 : Nat → Int32, zq9 = (s_X9_readAmbient_w0 x ft) := ⟨_, rfl⟩
      have hP : va_P G vwCl [kX9 h q v_115, aC y q 60 ft] H := by rw [e_v_115]; exact hP
      have hD : va_D A [kX9 h q v_115, aC y q 60 ft] := by rw [e_v_115]; exact hD
      obtain ⟨v_116, e_v_116⟩ : ∃ zq9 : Int32, zq9 = (s_X9_readAmbient_r x ft) := ⟨_, rfl⟩
      refine rw_i (x' := v_116) e_v_116.symm ?_
      rw [hQQ]
      exact W.zret hx hb hr (nz_bool (by rw [e_v_116]; exact (z_X9_readAmbient x ft))) (end_Hi () hP hD hS (by subst e_v_116; subst e_v_115; unfold s_X9_readPart_r; exact ((if_neg c_1).trans (if_pos c_58)).symm) (congrArg (fun (z0 : Nat → Int32) => [kX9 h q z0, aC y q 60 ft]) (by subst e_v_116; subst e_v_115; unfold s_X9_readPart_w0; exact ((if_neg c_1).trans (if_pos c_58)).symm))) hS.2.2 dX9_readPart_20

abbrev rmL_put : Room := ({ frames := 8, cells := 2, slots := 12, locals := 133 } : Room)
set_option maxHeartbeats 2000000 in
set_option maxRecDepth 20000 in
theorem c_L_put (l : Launch) (G : va_G) (y : Nat → ClassId) (hp : Nat) (hq : Nat) (v : Int32) (wp : va_W) (wq : va_W) (T : List Int32) (z : Zs) (Hs : List Zs) (s0 s1 : Option Zs) (sz : Nat) (hOp : OB y hp T z Hs s0 s1 wp) (hOq : OB y hq T z Hs s0 s1 wq) (hz : TS z) (hF : FX_put v T) (hfl : l.stackTraces = false) : Met l yL_put wsL_put rmL_put (PHZ G y [.ref hp, .ref hq, .int v] (wp ++ wq) sz) (QO G 1 (fun w9 => ∃ wp9 wq9, w9 = wp9 ++ wq9 ∧ OB y hp (T ++ [v]) z Hs s0 s1 wp9 ∧ OB y hq (T ++ [v]) z Hs s0 s1 wq9) (va_A (wp ++ wq) sz)) 2 12 (va_A (wp ++ wq) sz) := by
  refine Met.ofW (cc := cL_put) (maxL := 3) (ret := (some .boolean)) (by decide) rfl ?_
  intro p e s m args below meth c s₁ B hml hv
  obtain ⟨rfl, hsz, hP, ⟨hK, hN⟩, hD0, hTY⟩ := hv
  have hx := B.exec
  have hb := B.bytes
  have hr := B.returns
  have hts := atoms_spec (ws := wsL_put) B.pre
  have hown : s.vm.findClass RL = some m.cls := findClass_of_methodNamed B.named
  subst hsz
  have hD := hD0.self (sz := s.heap.size)
  generalize hAe : va_A (wp ++ wq) s.heap.size = A at hD hTY ⊢
  have hA : ∀ q : Nat, s.heap.size ≤ q → A q := fun q h => by rw [← hAe]; exact Or.inr h
  have hS : va_S A s.heap s.heap [] := va_S.rf
  obtain ⟨k_2, f_5, k_10, f_13⟩ := hF
  have hl := lv_entry ([.ref hp, .ref hq, .int v]) (n := 3) (Nat.le_of_ble_eq_true rfl)
  rw [lg_entry_eq]
  generalize (lg_sl ([.ref hp, .ref hq, .int v]) ++ List.replicate (3 - (lg_sl ([.ref hp, .ref hq, .int v])).length) Slot.unset).toArray = ls at hl ⊢
  have hl : lv_has ls 3 [(0, .ref hp), (1, .ref hq), (2, .int v)] := hl
  obtain ⟨QQ, hQQ⟩ : ∃ zq9, zq9 = MQ below (QO G 1 (fun w9 => ∃ wp9 wq9, w9 = wp9 ++ wq9 ∧ OB y hp (T ++ [v]) z Hs s0 s1 wp9 ∧ OB y hq (T ++ [v]) z Hs s0 s1 wq9) A) ([.ref hp, .ref hq, .int v] : List Value).toArray s 2 12 A := ⟨_, rfl⟩
  rw [← hQQ]
  refine lv_aload_n hx hb dL_put_0 rfl (lv_at hl 0 rfl) ?_
  refine lv_iload_n hx hb dL_put_1 rfl (lv_at hl 2 rfl) ?_
  refine cl_O (Φ := fun x9 => ∃ w9, x9 = w9 ++ wq ∧ (fun w9 => (kApp v T = 0 ∧ OB y hp (T ++ [v]) z Hs s0 s1 w9) ∨ (¬ kApp v T = 0 ∧ OB y hp T z Hs s0 s1 w9)) w9) (vx_runSX (As := [.ref hp, .int v]) (rest := []) ⟨hx, hb, hml, hown, hts⟩ (z_fx (wr := wq) (W := wp ++ wq) (fun x9 => x9 ++ wq) (w_append l G y hp v wp T z Hs s0 s1 s.heap.size hOp hz  hfl) List.perm_append_comm (fun _ => List.perm_append_comm) (fun x9 hx9 => ⟨x9, rfl, hx9⟩)) (vx_cwSW 2 hts gL_put_L_tryAppend rfl rfl rfl (by decide +kernel) ⟨Nat.le_of_ble_eq_true rfl, Nat.le_of_ble_eq_true rfl⟩) (PHZ_S hP hK hN hD hTY hS (F_0 hD hS hA)) rfl rfl hl.1 rfl (lv_room (Nat.le_of_ble_eq_true rfl)) dL_put_2 ⟨Nat.le_of_ble_eq_true rfl, Nat.le_of_ble_eq_true rfl⟩) hD hS hA (fun x8 H locs hO9 hP hD hS => ?_)
  obtain ⟨wp, rfl, hOp⟩ := hO9
  have hOp : OB y hp (T ++ [v]) z Hs s0 s1 wp := oy k_2 hOp
  refine lv_if_le (tgt := 20) hx hb dL_put_5 (by decide) (fun c9 => absurd c9 f_5) (fun _ => ?_)
  refine lv_aload_n hx hb dL_put_8 rfl (lv_at hl 1 rfl) ?_
  refine lv_iload_n hx hb dL_put_9 rfl (lv_at hl 2 rfl) ?_
  refine cl_O (Φ := fun x9 => ∃ w9, x9 = wp ++ w9 ∧ (fun w9 => (kApp v T = 0 ∧ OB y hq (T ++ [v]) z Hs s0 s1 w9) ∨ (¬ kApp v T = 0 ∧ OB y hq T z Hs s0 s1 w9)) w9) (vx_runSX (As := [.ref hq, .int v]) (rest := []) ⟨hx, hb, hml, hown, hts⟩ (z_fx (wr := wp) (W := wp ++ wq) (fun x9 => wp ++ x9) (w_append l G y hq v wq T z Hs s0 s1 H.size hOq hz  hfl) (List.Perm.refl _) (fun _ => List.Perm.refl _) (fun x9 hx9 => ⟨x9, rfl, hx9⟩)) (vx_cwSW 2 hts gL_put_L_tryAppend rfl rfl rfl (by decide +kernel) ⟨Nat.le_of_ble_eq_true rfl, Nat.le_of_ble_eq_true rfl⟩) (PHZ_S hP hK hN hD hTY hS (F_0 hD hS hA)) rfl rfl hl.1 rfl (lv_room (Nat.le_of_ble_eq_true rfl)) dL_put_10 ⟨Nat.le_of_ble_eq_true rfl, Nat.le_of_ble_eq_true rfl⟩) hD hS hA (fun x8 H locs hO9 hP hD hS => ?_)
  obtain ⟨wq, rfl, hOq⟩ := hO9
  have hOq : OB y hq (T ++ [v]) z Hs s0 s1 wq := oy k_10 hOq
  refine lv_if_le (tgt := 20) hx hb dL_put_13 (by decide) (fun c9 => absurd c9 f_13) (fun _ => ?_)
  refine lv_iconst (v := 1) hx hb dL_put_16 (by decide) ?_
  refine lv_goto (tgt := 21) hx hb dL_put_17 (by decide) ?_
  rw [hQQ]
  refine W.widen (k := 2) (n := 12) (by omega) (by omega) ?_
  exact W.zret hx hb hr (nz_bool (Or.inr rfl)) (end_O (⟨wp, wq, rfl, hOp, hOq⟩) hP hD hS rfl) hS.2.2 dL_put_21
abbrev rmL_two : Room := ({ frames := 9, cells := 4, slots := 24, locals := 155 } : Room)
set_option maxHeartbeats 2000000 in
set_option maxRecDepth 20000 in
theorem c_L_two (l : Launch) (G : va_G) (y : Nat → ClassId) (hp : Nat) (hq : Nat) (v : Int32) (wp : va_W) (wq : va_W) (T : List Int32) (z : Zs) (Hs : List Zs) (s0 s1 : Option Zs) (sz : Nat) (hOp : OB y hp T z Hs s0 s1 wp) (hOq : OB y hq T z Hs s0 s1 wq) (hz : TS z) (hF : FX_two v T) (hfl : l.stackTraces = false) : Met l yL_two wsL_two rmL_two (PHZ G y [.ref hp, .ref hq, .int v] (wp ++ wq) sz) (QO G 1 (fun w9 => ∃ wp9 wq9, w9 = wp9 ++ wq9 ∧ OB y hp ((T ++ [(48 + (v / 10))]) ++ [(48 + (v - v / 10 * 10))]) z Hs s0 s1 wp9 ∧ OB y hq ((T ++ [(48 + (v / 10))]) ++ [(48 + (v - v / 10 * 10))]) z Hs s0 s1 wq9) (va_A (wp ++ wq) sz)) 4 24 (va_A (wp ++ wq) sz) := by
  refine Met.ofW (cc := cL_two) (maxL := 3) (ret := (some .boolean)) (by decide) rfl ?_
  intro p e s m args below meth c s₁ B hml hv
  obtain ⟨rfl, hsz, hP, ⟨hK, hN⟩, hD0, hTY⟩ := hv
  have hx := B.exec
  have hb := B.bytes
  have hr := B.returns
  have hts := atoms_spec (ws := wsL_two) B.pre
  have hown : s.vm.findClass RL = some m.cls := findClass_of_methodNamed B.named
  subst hsz
  have hD := hD0.self (sz := s.heap.size)
  generalize hAe : va_A (wp ++ wq) s.heap.size = A at hD hTY ⊢
  have hA : ∀ q : Nat, s.heap.size ≤ q → A q := fun q h => by rw [← hAe]; exact Or.inr h
  have hS : va_S A s.heap s.heap [] := va_S.rf
  obtain ⟨m_9, m_24⟩ := hF
  have hl := lv_entry ([.ref hp, .ref hq, .int v]) (n := 3) (Nat.le_of_ble_eq_true rfl)
  rw [lg_entry_eq]
  generalize (lg_sl ([.ref hp, .ref hq, .int v]) ++ List.replicate (3 - (lg_sl ([.ref hp, .ref hq, .int v])).length) Slot.unset).toArray = ls at hl ⊢
  have hl : lv_has ls 3 [(0, .ref hp), (1, .ref hq), (2, .int v)] := hl
  obtain ⟨QQ, hQQ⟩ : ∃ zq9, zq9 = MQ below (QO G 1 (fun w9 => ∃ wp9 wq9, w9 = wp9 ++ wq9 ∧ OB y hp ((T ++ [(48 + (v / 10))]) ++ [(48 + (v - v / 10 * 10))]) z Hs s0 s1 wp9 ∧ OB y hq ((T ++ [(48 + (v / 10))]) ++ [(48 + (v - v / 10 * 10))]) z Hs s0 s1 wq9) A) ([.ref hp, .ref hq, .int v] : List Value).toArray s 4 24 A := ⟨_, rfl⟩
  rw [← hQQ]
  refine lv_aload_n hx hb dL_two_0 rfl (lv_at hl 0 rfl) ?_
  refine lv_aload_n hx hb dL_two_1 rfl (lv_at hl 1 rfl) ?_
  refine lv_bipush (v := 48) hx hb dL_two_2 (by decide) ?_
  refine lv_iload_n hx hb dL_two_4 rfl (lv_at hl 2 rfl) ?_
  refine lv_bipush (v := 10) hx hb dL_two_5 (by decide) ?_
  refine lv_idiv hx hb dL_two_7 (by decide) ?_
  refine lv_iadd hx hb dL_two_8 ?_
  refine cl_OM (Φ := fun x9 => ∃ wp9 wq9, x9 = wp9 ++ wq9 ∧ OB y hp (T ++ [(48 + (v / 10))]) z Hs s0 s1 wp9 ∧ OB y hq (T ++ [(48 + (v / 10))]) z Hs s0 s1 wq9) (va_runS (As := [.ref hp, .ref hq, .int (48 + (v / 10))]) (rest := []) ⟨hx, hb, hml, hown, hts⟩ (c_L_put l G y hp hq (48 + (v / 10)) wp wq T z Hs s0 s1 s.heap.size hOp hOq hz m_9 hfl) (va_cwS 3 hts gL_two_L_put rfl rfl rfl (by decide +kernel) ⟨Nat.le_of_ble_eq_true rfl, Nat.le_of_ble_eq_true rfl⟩) (PHZ_S hP hK hN hD hTY hS (F_0 hD hS hA)) rfl rfl hl.1 rfl (lv_room (Nat.le_of_ble_eq_true rfl)) dL_two_9 ⟨Nat.le_of_ble_eq_true rfl, Nat.le_of_ble_eq_true rfl⟩) hD hS hA (fun x8 H locs hO9 hP hD hS => ?_)
  obtain ⟨wp, wq, rfl, hOp, hOq⟩ := hO9
  refine lv_if_eq (tgt := 34) hx hb dL_two_12 (by decide) (fun c_1 => (by first | exact absurd c_1 (by decide : ¬ ((1 : Int32) = 0)) | exact absurd (by decide : ¬ ((1 : Int32) = 0)) c_1)) (fun _ => ?_)
  refine lv_aload_n hx hb dL_two_15 rfl (lv_at hl 0 rfl) ?_
  refine lv_aload_n hx hb dL_two_16 rfl (lv_at hl 1 rfl) ?_
  refine lv_bipush (v := 48) hx hb dL_two_17 (by decide) ?_
  refine lv_iload_n hx hb dL_two_19 rfl (lv_at hl 2 rfl) ?_
  refine lv_bipush (v := 10) hx hb dL_two_20 (by decide) ?_
  refine lv_irem hx hb dL_two_22 (by decide) ?_
  refine lv_iadd hx hb dL_two_23 ?_
  refine cl_OM (Φ := fun x9 => ∃ wp9 wq9, x9 = wp9 ++ wq9 ∧ OB y hp ((T ++ [(48 + (v / 10))]) ++ [(48 + (v - v / 10 * 10))]) z Hs s0 s1 wp9 ∧ OB y hq ((T ++ [(48 + (v / 10))]) ++ [(48 + (v - v / 10 * 10))]) z Hs s0 s1 wq9) (va_runS (As := [.ref hp, .ref hq, .int (48 + (v - v / 10 * 10))]) (rest := []) ⟨hx, hb, hml, hown, hts⟩ (c_L_put l G y hp hq (48 + (v - v / 10 * 10)) wp wq (T ++ [(48 + (v / 10))]) z Hs s0 s1 H.size hOp hOq hz m_24 hfl) (va_cwS 3 hts gL_two_L_put rfl rfl rfl (by decide +kernel) ⟨Nat.le_of_ble_eq_true rfl, Nat.le_of_ble_eq_true rfl⟩) (PHZ_S hP hK hN hD hTY hS (F_0 hD hS hA)) rfl rfl hl.1 rfl (lv_room (Nat.le_of_ble_eq_true rfl)) dL_two_24 ⟨Nat.le_of_ble_eq_true rfl, Nat.le_of_ble_eq_true rfl⟩) hD hS hA (fun x8 H locs hO9 hP hD hS => ?_)
  obtain ⟨wp, wq, rfl, hOp, hOq⟩ := hO9
  refine lv_if_eq (tgt := 34) hx hb dL_two_27 (by decide) (fun c_2 => (by first | exact absurd c_2 (by decide : ¬ ((1 : Int32) = 0)) | exact absurd (by decide : ¬ ((1 : Int32) = 0)) c_2)) (fun _ => ?_)
  refine lv_iconst (v := 1) hx hb dL_two_30 (by decide) ?_
  refine lv_goto (tgt := 35) hx hb dL_two_31 (by decide) ?_
  rw [hQQ]
  refine W.widen (k := 4) (n := 24) (by omega) (by omega) ?_
  exact W.zret hx hb hr (nz_bool (Or.inr rfl)) (end_O (⟨wp, wq, rfl, hOp, hOq⟩) hP hD hS rfl) hS.2.2 dL_two_35
abbrev rmL_span : Room := ({ frames := 8, cells := 2, slots := 12, locals := 135 } : Room)
set_option maxHeartbeats 2000000 in
set_option maxRecDepth 20000 in
theorem c_L_span (l : Launch) (G : va_G) (y : Nat → ClassId) (h : Nat) (j : Int32) (w : va_W) (T : List Int32) (z : Zs) (Hs : List Zs) (s0 s1 : Option Zs) (sz : Nat) (hO : OB y h T z Hs s0 s1 w) (hz : TS z) (hF : FX_span z) (hfl : l.stackTraces = false) : Met l yL_span wsL_span rmL_span (PHZ G y [.ref h, .int j] w sz) (QO G (spanF j z) (fun w9 => OB y h T z Hs s0 s1 w9) (va_A w sz)) 2 12 (va_A w sz) := by
  refine Met.ofW (cc := cL_span) (maxL := 2) (ret := (some .int)) (by decide) rfl ?_
  intro p e s m args below meth c s₁ B hml hv
  obtain ⟨rfl, hsz, hP, ⟨hK, hN⟩, hD0, hTY⟩ := hv
  have hx := B.exec
  have hb := B.bytes
  have hr := B.returns
  have hts := atoms_spec (ws := wsL_span) B.pre
  have hown : s.vm.findClass RL = some m.cls := findClass_of_methodNamed B.named
  subst hsz
  have hD := hD0.self (sz := s.heap.size)
  generalize hAe : va_A w s.heap.size = A at hD hTY ⊢
  have hA : ∀ q : Nat, s.heap.size ≤ q → A q := fun q h => by rw [← hAe]; exact Or.inr h
  have hS : va_S A s.heap s.heap [] := va_S.rf
  have hl := lv_entry ([.ref h, .int j]) (n := 2) (Nat.le_of_ble_eq_true rfl)
  rw [lg_entry_eq]
  generalize (lg_sl ([.ref h, .int j]) ++ List.replicate (2 - (lg_sl ([.ref h, .int j])).length) Slot.unset).toArray = ls at hl ⊢
  have hl : lv_has ls 2 [(0, .ref h), (1, .int j)] := hl
  obtain ⟨QQ, hQQ⟩ : ∃ zq9, zq9 = MQ below (QO G (spanF j z) (fun w9 => OB y h T z Hs s0 s1 w9) A) ([.ref h, .int j] : List Value).toArray s 2 12 A := ⟨_, rfl⟩
  rw [← hQQ]
  refine lv_aload_n hx hb dL_span_0 rfl (lv_at hl 0 rfl) ?_
  refine lv_iload_n hx hb dL_span_1 rfl (lv_at hl 1 rfl) ?_
  refine lv_iconst (v := 1) hx hb dL_span_2 (by decide) ?_
  refine cl_O (Φ := (fun w9 => OB y h T z Hs s0 s1 w9)) (vx_runSX (As := [.ref h, .int j, .int 1]) (rest := []) ⟨hx, hb, hml, hown, hts⟩ (w_swing l G y h j 1 w T z Hs s0 s1 s.heap.size hO hz  hfl) (vx_cwSW 3 hts gL_span_L_trySwing rfl rfl rfl (by decide +kernel) ⟨Nat.le_of_ble_eq_true rfl, Nat.le_of_ble_eq_true rfl⟩) (PHZ_S hP hK hN hD hTY hS (F_0 hD hS hA)) rfl rfl hl.1 rfl (lv_room (Nat.le_of_ble_eq_true rfl)) dL_span_3 ⟨Nat.le_of_ble_eq_true rfl, Nat.le_of_ble_eq_true rfl⟩) hD hS hA (fun w H locs hO hP hD hS => ?_)
  refine lv_aload_n hx hb dL_span_6 rfl (lv_at hl 0 rfl) ?_
  refine lv_iload_n hx hb dL_span_7 rfl (lv_at hl 1 rfl) ?_
  refine lv_iconst (v := 2) hx hb dL_span_8 (by decide) ?_
  refine cl_O (Φ := (fun w9 => OB y h T z Hs s0 s1 w9)) (vx_runSX (As := [.ref h, .int j, .int 2]) (rest := [.int (qSwing j 1 z)]) ⟨hx, hb, hml, hown, hts⟩ (w_swing l G y h j 2 w T z Hs s0 s1 H.size hO hz  hfl) (vx_cwSW 3 hts gL_span_L_trySwing rfl rfl rfl (by decide +kernel) ⟨Nat.le_of_ble_eq_true rfl, Nat.le_of_ble_eq_true rfl⟩) (PHZ_S hP hK hN hD hTY hS (F_0 hD hS hA)) rfl rfl hl.1 rfl (lv_room (Nat.le_of_ble_eq_true rfl)) dL_span_9 ⟨Nat.le_of_ble_eq_true rfl, Nat.le_of_ble_eq_true rfl⟩) hD hS hA (fun w H locs hO hP hD hS => ?_)
  refine lv_isub hx hb dL_span_12 ?_
  rw [hQQ]
  refine W.widen (k := 2) (n := 12) (by omega) (by omega) ?_
  exact W.iret hx hb hr (end_O hO hP hD hS rfl) hS.2.2 dL_span_13
abbrev rmL_scripts : Room := ({ frames := 9, cells := 32, slots := 192, locals := 215 } : Room)
set_option maxHeartbeats 2000000 in
set_option maxRecDepth 20000 in
theorem c_L_scripts (l : Launch) (G : va_G) (y : Nat → ClassId) (h : Nat) (x : Int32) (w : va_W) (T : List Int32) (z : Zs) (Hs : List Zs) (s0 s1 : Option Zs) (sz : Nat) (hO : OB y h T z Hs s0 s1 w) (hz : TS z) (hF : FX_scripts x T z Hs s0 s1) (hfl : l.stackTraces = false) : Met l yL_scripts wsL_scripts rmL_scripts (PHZ G y [.ref h, .int x] w sz) (QO G 1 (fun w9 => OB y h T z Hs s0 s1 w9) (va_A w sz)) 32 192 (va_A w sz) := by
  refine Met.ofW (cc := cL_scripts) (maxL := 7) (ret := (some .boolean)) (by decide) rfl ?_
  intro p e s m args below meth c s₁ B hml hv
  obtain ⟨rfl, hsz, hP, ⟨hK, hN⟩, hD0, hTY⟩ := hv
  have hx := B.exec
  have hb := B.bytes
  have hr := B.returns
  have hts := atoms_spec (ws := wsL_scripts) B.pre
  have hown : s.vm.findClass RL = some m.cls := findClass_of_methodNamed B.named
  subst hsz
  have hD := hD0.self (sz := s.heap.size)
  generalize hAe : va_A w s.heap.size = A at hD hTY ⊢
  have hA : ∀ q : Nat, s.heap.size ≤ q → A q := fun q h => by rw [← hAe]; exact Or.inr h
  have hS : va_S A s.heap s.heap [] := va_S.rf
  obtain ⟨f_44, f_57, f_68, f_79, f_92, f_103, f_116, f_127, f_138, f_151, f_162, f_173, f_186, f_197, f_230, f_252, f_263, f_291, f_305, f_322, f_333, f_342, f_353, f_370, f_477, f_461, f_434, f_409⟩ := hF
  have hl := lv_entry ([.ref h, .int x]) (n := 7) (Nat.le_of_ble_eq_true rfl)
  rw [lg_entry_eq]
  generalize (lg_sl ([.ref h, .int x]) ++ List.replicate (7 - (lg_sl ([.ref h, .int x])).length) Slot.unset).toArray = ls at hl ⊢
  have hl : lv_has ls 7 [(0, .ref h), (1, .int x)] := hl
  obtain ⟨QQ, hQQ⟩ : ∃ zq9, zq9 = MQ below (QO G 1 (fun w9 => OB y h T z Hs s0 s1 w9) A) ([.ref h, .int x] : List Value).toArray s 32 192 A := ⟨_, rfl⟩
  rw [← hQQ]
  refine lv_aload_n hx hb dL_scripts_0 rfl (lv_at hl 0 rfl) ?_
  refine lv_bipush (v := 12) hx hb dL_scripts_1 (by decide) ?_
  refine cl_O (Φ := (fun w9 => OB y h T z Hs s0 s1 w9)) (vx_runSX (As := [.ref h, .int 12]) (rest := []) ⟨hx, hb, hml, hown, hts⟩ (w_about l G y h 12 w T z Hs s0 s1 s.heap.size hO hz  hfl) (vx_cwSW 2 hts gL_scripts_L_tryAbout rfl rfl rfl (by decide +kernel) ⟨Nat.le_of_ble_eq_true rfl, Nat.le_of_ble_eq_true rfl⟩) (PHZ_S hP hK hN hD hTY hS (F_0 hD hS hA)) rfl rfl hl.1 rfl (lv_room (Nat.le_of_ble_eq_true rfl)) dL_scripts_3 ⟨Nat.le_of_ble_eq_true rfl, Nat.le_of_ble_eq_true rfl⟩) hD hS hA (fun w H locs hO hP hD hS => ?_)
  refine lv_istore_n (lv' := [(2, .int (qAbout 12 z)), (0, .ref h), (1, .int x)]) hx hb dL_scripts_6 rfl hl (by decide) rfl (fun ls hl => ?_)
  refine lv_aload_n hx hb dL_scripts_7 rfl (lv_at hl 1 rfl) ?_
  refine lv_bipush (v := 17) hx hb dL_scripts_8 (by decide) ?_
  refine cl_O (Φ := (fun w9 => OB y h T z Hs s0 s1 w9)) (vx_runSX (As := [.ref h, .int 17]) (rest := []) ⟨hx, hb, hml, hown, hts⟩ (w_about l G y h 17 w T z Hs s0 s1 H.size hO hz  hfl) (vx_cwSW 2 hts gL_scripts_L_tryAbout rfl rfl rfl (by decide +kernel) ⟨Nat.le_of_ble_eq_true rfl, Nat.le_of_ble_eq_true rfl⟩) (PHZ_S hP hK hN hD hTY hS (F_0 hD hS hA)) rfl rfl hl.1 rfl (lv_room (Nat.le_of_ble_eq_true rfl)) dL_scripts_10 ⟨Nat.le_of_ble_eq_true rfl, Nat.le_of_ble_eq_true rfl⟩) hD hS hA (fun w H locs hO hP hD hS => ?_)
  refine lv_istore_n (lv' := [(3, .int (qAbout 17 z)), (2, .int (qAbout 12 z)), (0, .ref h), (1, .int x)]) hx hb dL_scripts_13 rfl hl (by decide) rfl (fun ls hl => ?_)
  refine lv_aload_n hx hb dL_scripts_14 rfl (lv_at hl 2 rfl) ?_
  refine lv_bipush (v := 18) hx hb dL_scripts_15 (by decide) ?_
  refine cl_O (Φ := (fun w9 => OB y h T z Hs s0 s1 w9)) (vx_runSX (As := [.ref h, .int 18]) (rest := []) ⟨hx, hb, hml, hown, hts⟩ (w_about l G y h 18 w T z Hs s0 s1 H.size hO hz  hfl) (vx_cwSW 2 hts gL_scripts_L_tryAbout rfl rfl rfl (by decide +kernel) ⟨Nat.le_of_ble_eq_true rfl, Nat.le_of_ble_eq_true rfl⟩) (PHZ_S hP hK hN hD hTY hS (F_0 hD hS hA)) rfl rfl hl.1 rfl (lv_room (Nat.le_of_ble_eq_true rfl)) dL_scripts_17 ⟨Nat.le_of_ble_eq_true rfl, Nat.le_of_ble_eq_true rfl⟩) hD hS hA (fun w H locs hO hP hD hS => ?_)
  refine lv_istore (lv' := [(4, .int (qAbout 18 z)), (3, .int (qAbout 17 z)), (2, .int (qAbout 12 z)), (0, .ref h), (1, .int x)]) hx hb dL_scripts_20 hl (by decide) rfl (fun ls hl => ?_)
  refine lv_aload_n hx hb dL_scripts_22 rfl (lv_at hl 3 rfl) ?_
  refine lv_iload_n hx hb dL_scripts_23 rfl (lv_at hl 4 rfl) ?_
  refine lv_i2l (v := x.toInt64) hx hb dL_scripts_24 rfl ?_
  refine lv_ldc2 (v := 173) hx hb hown (hts (.constantLong RL 212 173) (by decide +kernel)) dL_scripts_25 ?_
  refine lv_lmul hx hb dL_scripts_28 ?_
  refine lv_bipush (v := 15) hx hb dL_scripts_29 (by decide) ?_
  refine cl_O (Φ := (fun w9 => OB y h T z Hs s0 s1 w9)) (vx_runSX (As := [.ref h, .long (x.toInt64 * 173), .int 15]) (rest := []) ⟨hx, hb, hml, hown, hts⟩ (w_simulate l G y h (x.toInt64 * 173) 15 w T z Hs s0 s1 H.size hO hz  hfl) (vx_cwSW 3 hts gL_scripts_L_trySimulate rfl rfl rfl (by decide +kernel) ⟨Nat.le_of_ble_eq_true rfl, Nat.le_of_ble_eq_true rfl⟩) (PHZ_S hP hK hN hD hTY hS (F_0 hD hS hA)) rfl rfl hl.1 rfl (lv_room (Nat.le_of_ble_eq_true rfl)) dL_scripts_31 ⟨Nat.le_of_ble_eq_true rfl, Nat.le_of_ble_eq_true rfl⟩) hD hS hA (fun w H locs hO hP hD hS => ?_)
  refine lv_istore (lv' := [(5, .int (qSim (x.toInt64 * 173) 15 z)), (4, .int (qAbout 18 z)), (3, .int (qAbout 17 z)), (2, .int (qAbout 12 z)), (0, .ref h), (1, .int x)]) hx hb dL_scripts_34 hl (by decide) rfl (fun ls hl => ?_)
  refine lv_aload_n hx hb dL_scripts_36 rfl (lv_at hl 4 rfl) ?_
  refine lv_iconst (v := 1) hx hb dL_scripts_37 (by decide) ?_
  refine lv_ldc2 (v := 10000) hx hb hown (hts (.constantLong RL 214 10000) (by decide +kernel)) dL_scripts_38 ?_
  refine cl_O (Φ := (fun w9 => OB y h T z Hs s0 s1 w9)) (vx_runSX (As := [.ref h, .int 1, .long 10000]) (rest := []) ⟨hx, hb, hml, hown, hts⟩ (w_runScript l G y h 1 10000 w T z Hs s0 s1 H.size hO hz  hfl) (vx_cwSW 3 hts gL_scripts_L_tryScript rfl rfl rfl (by decide +kernel) ⟨Nat.le_of_ble_eq_true rfl, Nat.le_of_ble_eq_true rfl⟩) (PHZ_S hP hK hN hD hTY hS (F_0 hD hS hA)) rfl rfl hl.1 rfl (lv_room (Nat.le_of_ble_eq_true rfl)) dL_scripts_41 ⟨Nat.le_of_ble_eq_true rfl, Nat.le_of_ble_eq_true rfl⟩) hD hS hA (fun w H locs hO hP hD hS => ?_)
  refine lv_if_ne (tgt := 270) hx hb dL_scripts_44 (by decide) (fun c9 => absurd f_44 c9) (fun _ => ?_)
  refine lv_aload_n hx hb dL_scripts_47 rfl (lv_at hl 4 rfl) ?_
  refine lv_iconst (v := 1) hx hb dL_scripts_48 (by decide) ?_
  refine lv_ldc2 (v := 10200) hx hb hown (hts (.constantLong RL 216 10200) (by decide +kernel)) dL_scripts_49 ?_
  refine cl_O (Φ := (fun w9 => OB y h T z Hs s0 s1 w9)) (vx_runSX (As := [.ref h, .int 1, .long 10200]) (rest := []) ⟨hx, hb, hml, hown, hts⟩ (w_runScript l G y h 1 10200 w T z Hs s0 s1 H.size hO hz  hfl) (vx_cwSW 3 hts gL_scripts_L_tryScript rfl rfl rfl (by decide +kernel) ⟨Nat.le_of_ble_eq_true rfl, Nat.le_of_ble_eq_true rfl⟩) (PHZ_S hP hK hN hD hTY hS (F_0 hD hS hA)) rfl rfl hl.1 rfl (lv_room (Nat.le_of_ble_eq_true rfl)) dL_scripts_52 ⟨Nat.le_of_ble_eq_true rfl, Nat.le_of_ble_eq_true rfl⟩) hD hS hA (fun w H locs hO hP hD hS => ?_)
  refine lv_ldc (v := (-99999)) hx hb hown (hts (.constant RL 119 (-99999)) (by decide +kernel)) dL_scripts_55 ?_
  refine lv_icmp_ne (tgt := 270) hx hb dL_scripts_57 (by decide) (fun c9 => absurd f_57 c9) (fun _ => ?_)
  refine lv_aload_n hx hb dL_scripts_60 rfl (lv_at hl 4 rfl) ?_
  refine lv_iconst (v := 1) hx hb dL_scripts_61 (by decide) ?_
  refine lv_ldc2 (v := 10201) hx hb hown (hts (.constantLong RL 218 10201) (by decide +kernel)) dL_scripts_62 ?_
  refine cl_O (Φ := (fun w9 => OB y h T z Hs s0 s1 w9)) (vx_runSX (As := [.ref h, .int 1, .long 10201]) (rest := []) ⟨hx, hb, hml, hown, hts⟩ (w_runScript l G y h 1 10201 w T z Hs s0 s1 H.size hO hz  hfl) (vx_cwSW 3 hts gL_scripts_L_tryScript rfl rfl rfl (by decide +kernel) ⟨Nat.le_of_ble_eq_true rfl, Nat.le_of_ble_eq_true rfl⟩) (PHZ_S hP hK hN hD hTY hS (F_0 hD hS hA)) rfl rfl hl.1 rfl (lv_room (Nat.le_of_ble_eq_true rfl)) dL_scripts_65 ⟨Nat.le_of_ble_eq_true rfl, Nat.le_of_ble_eq_true rfl⟩) hD hS hA (fun w H locs hO hP hD hS => ?_)
  refine lv_if_ne (tgt := 270) hx hb dL_scripts_68 (by decide) (fun c9 => absurd f_68 c9) (fun _ => ?_)
  refine lv_aload_n hx hb dL_scripts_71 rfl (lv_at hl 4 rfl) ?_
  refine lv_iconst (v := 1) hx hb dL_scripts_72 (by decide) ?_
  refine lv_ldc2 (v := 20003) hx hb hown (hts (.constantLong RL 220 20003) (by decide +kernel)) dL_scripts_73 ?_
  refine cl_O (Φ := (fun w9 => OB y h T z Hs s0 s1 w9)) (vx_runSX (As := [.ref h, .int 1, .long 20003]) (rest := []) ⟨hx, hb, hml, hown, hts⟩ (w_runScript l G y h 1 20003 w T z Hs s0 s1 H.size hO hz  hfl) (vx_cwSW 3 hts gL_scripts_L_tryScript rfl rfl rfl (by decide +kernel) ⟨Nat.le_of_ble_eq_true rfl, Nat.le_of_ble_eq_true rfl⟩) (PHZ_S hP hK hN hD hTY hS (F_0 hD hS hA)) rfl rfl hl.1 rfl (lv_room (Nat.le_of_ble_eq_true rfl)) dL_scripts_76 ⟨Nat.le_of_ble_eq_true rfl, Nat.le_of_ble_eq_true rfl⟩) hD hS hA (fun w H locs hO hP hD hS => ?_)
  refine lv_if_ne (tgt := 270) hx hb dL_scripts_79 (by decide) (fun c9 => absurd f_79 c9) (fun _ => ?_)
  refine lv_aload_n hx hb dL_scripts_82 rfl (lv_at hl 4 rfl) ?_
  refine lv_iconst (v := 1) hx hb dL_scripts_83 (by decide) ?_
  refine lv_ldc2 (v := 20002) hx hb hown (hts (.constantLong RL 222 20002) (by decide +kernel)) dL_scripts_84 ?_
  refine cl_O (Φ := (fun w9 => OB y h T z Hs s0 s1 w9)) (vx_runSX (As := [.ref h, .int 1, .long 20002]) (rest := []) ⟨hx, hb, hml, hown, hts⟩ (w_runScript l G y h 1 20002 w T z Hs s0 s1 H.size hO hz  hfl) (vx_cwSW 3 hts gL_scripts_L_tryScript rfl rfl rfl (by decide +kernel) ⟨Nat.le_of_ble_eq_true rfl, Nat.le_of_ble_eq_true rfl⟩) (PHZ_S hP hK hN hD hTY hS (F_0 hD hS hA)) rfl rfl hl.1 rfl (lv_room (Nat.le_of_ble_eq_true rfl)) dL_scripts_87 ⟨Nat.le_of_ble_eq_true rfl, Nat.le_of_ble_eq_true rfl⟩) hD hS hA (fun w H locs hO hP hD hS => ?_)
  refine lv_ldc (v := (-99999)) hx hb hown (hts (.constant RL 119 (-99999)) (by decide +kernel)) dL_scripts_90 ?_
  refine lv_icmp_ne (tgt := 270) hx hb dL_scripts_92 (by decide) (fun c9 => absurd f_92 c9) (fun _ => ?_)
  refine lv_aload_n hx hb dL_scripts_95 rfl (lv_at hl 4 rfl) ?_
  refine lv_iconst (v := 1) hx hb dL_scripts_96 (by decide) ?_
  refine lv_ldc2 (v := 30501) hx hb hown (hts (.constantLong RL 224 30501) (by decide +kernel)) dL_scripts_97 ?_
  refine cl_O (Φ := (fun w9 => OB y h T z Hs s0 s1 w9)) (vx_runSX (As := [.ref h, .int 1, .long 30501]) (rest := []) ⟨hx, hb, hml, hown, hts⟩ (w_runScript l G y h 1 30501 w T z Hs s0 s1 H.size hO hz  hfl) (vx_cwSW 3 hts gL_scripts_L_tryScript rfl rfl rfl (by decide +kernel) ⟨Nat.le_of_ble_eq_true rfl, Nat.le_of_ble_eq_true rfl⟩) (PHZ_S hP hK hN hD hTY hS (F_0 hD hS hA)) rfl rfl hl.1 rfl (lv_room (Nat.le_of_ble_eq_true rfl)) dL_scripts_100 ⟨Nat.le_of_ble_eq_true rfl, Nat.le_of_ble_eq_true rfl⟩) hD hS hA (fun w H locs hO hP hD hS => ?_)
  refine lv_if_ne (tgt := 270) hx hb dL_scripts_103 (by decide) (fun c9 => absurd f_103 c9) (fun _ => ?_)
  refine lv_aload_n hx hb dL_scripts_106 rfl (lv_at hl 4 rfl) ?_
  refine lv_iconst (v := 1) hx hb dL_scripts_107 (by decide) ?_
  refine lv_ldc2 (v := 31500) hx hb hown (hts (.constantLong RL 226 31500) (by decide +kernel)) dL_scripts_108 ?_
  refine cl_O (Φ := (fun w9 => OB y h T z Hs s0 s1 w9)) (vx_runSX (As := [.ref h, .int 1, .long 31500]) (rest := []) ⟨hx, hb, hml, hown, hts⟩ (w_runScript l G y h 1 31500 w T z Hs s0 s1 H.size hO hz  hfl) (vx_cwSW 3 hts gL_scripts_L_tryScript rfl rfl rfl (by decide +kernel) ⟨Nat.le_of_ble_eq_true rfl, Nat.le_of_ble_eq_true rfl⟩) (PHZ_S hP hK hN hD hTY hS (F_0 hD hS hA)) rfl rfl hl.1 rfl (lv_room (Nat.le_of_ble_eq_true rfl)) dL_scripts_111 ⟨Nat.le_of_ble_eq_true rfl, Nat.le_of_ble_eq_true rfl⟩) hD hS hA (fun w H locs hO hP hD hS => ?_)
  refine lv_ldc (v := (-99999)) hx hb hown (hts (.constant RL 119 (-99999)) (by decide +kernel)) dL_scripts_114 ?_
  refine lv_icmp_ne (tgt := 270) hx hb dL_scripts_116 (by decide) (fun c9 => absurd f_116 c9) (fun _ => ?_)
  refine lv_aload_n hx hb dL_scripts_119 rfl (lv_at hl 4 rfl) ?_
  refine lv_iconst (v := 1) hx hb dL_scripts_120 (by decide) ?_
  refine lv_ldc2 (v := 32000) hx hb hown (hts (.constantLong RL 228 32000) (by decide +kernel)) dL_scripts_121 ?_
  refine cl_O (Φ := (fun w9 => OB y h T z Hs s0 s1 w9)) (vx_runSX (As := [.ref h, .int 1, .long 32000]) (rest := []) ⟨hx, hb, hml, hown, hts⟩ (w_runScript l G y h 1 32000 w T z Hs s0 s1 H.size hO hz  hfl) (vx_cwSW 3 hts gL_scripts_L_tryScript rfl rfl rfl (by decide +kernel) ⟨Nat.le_of_ble_eq_true rfl, Nat.le_of_ble_eq_true rfl⟩) (PHZ_S hP hK hN hD hTY hS (F_0 hD hS hA)) rfl rfl hl.1 rfl (lv_room (Nat.le_of_ble_eq_true rfl)) dL_scripts_124 ⟨Nat.le_of_ble_eq_true rfl, Nat.le_of_ble_eq_true rfl⟩) hD hS hA (fun w H locs hO hP hD hS => ?_)
  refine lv_if_ne (tgt := 270) hx hb dL_scripts_127 (by decide) (fun c9 => absurd f_127 c9) (fun _ => ?_)
  refine lv_aload_n hx hb dL_scripts_130 rfl (lv_at hl 4 rfl) ?_
  refine lv_iconst (v := 1) hx hb dL_scripts_131 (by decide) ?_
  refine lv_ldc2 (v := 44001) hx hb hown (hts (.constantLong RL 230 44001) (by decide +kernel)) dL_scripts_132 ?_
  refine cl_O (Φ := (fun w9 => OB y h T z Hs s0 s1 w9)) (vx_runSX (As := [.ref h, .int 1, .long 44001]) (rest := []) ⟨hx, hb, hml, hown, hts⟩ (w_runScript l G y h 1 44001 w T z Hs s0 s1 H.size hO hz  hfl) (vx_cwSW 3 hts gL_scripts_L_tryScript rfl rfl rfl (by decide +kernel) ⟨Nat.le_of_ble_eq_true rfl, Nat.le_of_ble_eq_true rfl⟩) (PHZ_S hP hK hN hD hTY hS (F_0 hD hS hA)) rfl rfl hl.1 rfl (lv_room (Nat.le_of_ble_eq_true rfl)) dL_scripts_135 ⟨Nat.le_of_ble_eq_true rfl, Nat.le_of_ble_eq_true rfl⟩) hD hS hA (fun w H locs hO hP hD hS => ?_)
  refine lv_if_ne (tgt := 270) hx hb dL_scripts_138 (by decide) (fun c9 => absurd f_138 c9) (fun _ => ?_)
  refine lv_aload_n hx hb dL_scripts_141 rfl (lv_at hl 4 rfl) ?_
  refine lv_iconst (v := 1) hx hb dL_scripts_142 (by decide) ?_
  refine lv_ldc2 (v := 45999) hx hb hown (hts (.constantLong RL 232 45999) (by decide +kernel)) dL_scripts_143 ?_
  refine cl_O (Φ := (fun w9 => OB y h T z Hs s0 s1 w9)) (vx_runSX (As := [.ref h, .int 1, .long 45999]) (rest := []) ⟨hx, hb, hml, hown, hts⟩ (w_runScript l G y h 1 45999 w T z Hs s0 s1 H.size hO hz  hfl) (vx_cwSW 3 hts gL_scripts_L_tryScript rfl rfl rfl (by decide +kernel) ⟨Nat.le_of_ble_eq_true rfl, Nat.le_of_ble_eq_true rfl⟩) (PHZ_S hP hK hN hD hTY hS (F_0 hD hS hA)) rfl rfl hl.1 rfl (lv_room (Nat.le_of_ble_eq_true rfl)) dL_scripts_146 ⟨Nat.le_of_ble_eq_true rfl, Nat.le_of_ble_eq_true rfl⟩) hD hS hA (fun w H locs hO hP hD hS => ?_)
  refine lv_ldc (v := (-99999)) hx hb hown (hts (.constant RL 119 (-99999)) (by decide +kernel)) dL_scripts_149 ?_
  refine lv_icmp_ne (tgt := 270) hx hb dL_scripts_151 (by decide) (fun c9 => absurd f_151 c9) (fun _ => ?_)
  refine lv_aload_n hx hb dL_scripts_154 rfl (lv_at hl 4 rfl) ?_
  refine lv_iconst (v := 1) hx hb dL_scripts_155 (by decide) ?_
  refine lv_ldc2 (v := 46021) hx hb hown (hts (.constantLong RL 234 46021) (by decide +kernel)) dL_scripts_156 ?_
  refine cl_O (Φ := (fun w9 => OB y h T z Hs s0 s1 w9)) (vx_runSX (As := [.ref h, .int 1, .long 46021]) (rest := []) ⟨hx, hb, hml, hown, hts⟩ (w_runScript l G y h 1 46021 w T z Hs s0 s1 H.size hO hz  hfl) (vx_cwSW 3 hts gL_scripts_L_tryScript rfl rfl rfl (by decide +kernel) ⟨Nat.le_of_ble_eq_true rfl, Nat.le_of_ble_eq_true rfl⟩) (PHZ_S hP hK hN hD hTY hS (F_0 hD hS hA)) rfl rfl hl.1 rfl (lv_room (Nat.le_of_ble_eq_true rfl)) dL_scripts_159 ⟨Nat.le_of_ble_eq_true rfl, Nat.le_of_ble_eq_true rfl⟩) hD hS hA (fun w H locs hO hP hD hS => ?_)
  refine lv_if_ne (tgt := 270) hx hb dL_scripts_162 (by decide) (fun c9 => absurd f_162 c9) (fun _ => ?_)
  refine lv_aload_n hx hb dL_scripts_165 rfl (lv_at hl 4 rfl) ?_
  refine lv_iconst (v := 1) hx hb dL_scripts_166 (by decide) ?_
  refine lv_ldc2 (v := 47100) hx hb hown (hts (.constantLong RL 236 47100) (by decide +kernel)) dL_scripts_167 ?_
  refine cl_O (Φ := (fun w9 => OB y h T z Hs s0 s1 w9)) (vx_runSX (As := [.ref h, .int 1, .long 47100]) (rest := []) ⟨hx, hb, hml, hown, hts⟩ (w_runScript l G y h 1 47100 w T z Hs s0 s1 H.size hO hz  hfl) (vx_cwSW 3 hts gL_scripts_L_tryScript rfl rfl rfl (by decide +kernel) ⟨Nat.le_of_ble_eq_true rfl, Nat.le_of_ble_eq_true rfl⟩) (PHZ_S hP hK hN hD hTY hS (F_0 hD hS hA)) rfl rfl hl.1 rfl (lv_room (Nat.le_of_ble_eq_true rfl)) dL_scripts_170 ⟨Nat.le_of_ble_eq_true rfl, Nat.le_of_ble_eq_true rfl⟩) hD hS hA (fun w H locs hO hP hD hS => ?_)
  refine lv_if_ne (tgt := 270) hx hb dL_scripts_173 (by decide) (fun c9 => absurd f_173 c9) (fun _ => ?_)
  refine lv_aload_n hx hb dL_scripts_176 rfl (lv_at hl 4 rfl) ?_
  refine lv_iconst (v := 1) hx hb dL_scripts_177 (by decide) ?_
  refine lv_ldc2 (v := 49999) hx hb hown (hts (.constantLong RL 238 49999) (by decide +kernel)) dL_scripts_178 ?_
  refine cl_O (Φ := (fun w9 => OB y h T z Hs s0 s1 w9)) (vx_runSX (As := [.ref h, .int 1, .long 49999]) (rest := []) ⟨hx, hb, hml, hown, hts⟩ (w_runScript l G y h 1 49999 w T z Hs s0 s1 H.size hO hz  hfl) (vx_cwSW 3 hts gL_scripts_L_tryScript rfl rfl rfl (by decide +kernel) ⟨Nat.le_of_ble_eq_true rfl, Nat.le_of_ble_eq_true rfl⟩) (PHZ_S hP hK hN hD hTY hS (F_0 hD hS hA)) rfl rfl hl.1 rfl (lv_room (Nat.le_of_ble_eq_true rfl)) dL_scripts_181 ⟨Nat.le_of_ble_eq_true rfl, Nat.le_of_ble_eq_true rfl⟩) hD hS hA (fun w H locs hO hP hD hS => ?_)
  refine lv_ldc (v := (-99999)) hx hb hown (hts (.constant RL 119 (-99999)) (by decide +kernel)) dL_scripts_184 ?_
  refine lv_icmp_ne (tgt := 270) hx hb dL_scripts_186 (by decide) (fun c9 => absurd f_186 c9) (fun _ => ?_)
  refine lv_aload_n hx hb dL_scripts_189 rfl (lv_at hl 4 rfl) ?_
  refine lv_iconst (v := 1) hx hb dL_scripts_190 (by decide) ?_
  refine lv_ldc2 (v := 50004) hx hb hown (hts (.constantLong RL 240 50004) (by decide +kernel)) dL_scripts_191 ?_
  refine cl_O (Φ := (fun w9 => OB y h T z Hs s0 s1 w9)) (vx_runSX (As := [.ref h, .int 1, .long 50004]) (rest := []) ⟨hx, hb, hml, hown, hts⟩ (w_runScript l G y h 1 50004 w T z Hs s0 s1 H.size hO hz  hfl) (vx_cwSW 3 hts gL_scripts_L_tryScript rfl rfl rfl (by decide +kernel) ⟨Nat.le_of_ble_eq_true rfl, Nat.le_of_ble_eq_true rfl⟩) (PHZ_S hP hK hN hD hTY hS (F_0 hD hS hA)) rfl rfl hl.1 rfl (lv_room (Nat.le_of_ble_eq_true rfl)) dL_scripts_194 ⟨Nat.le_of_ble_eq_true rfl, Nat.le_of_ble_eq_true rfl⟩) hD hS hA (fun w H locs hO hP hD hS => ?_)
  refine lv_if_ne (tgt := 270) hx hb dL_scripts_197 (by decide) (fun c9 => absurd f_197 c9) (fun _ => ?_)
  refine lv_aload_n hx hb dL_scripts_200 rfl (lv_at hl 4 rfl) ?_
  refine lv_iconst (v := 1) hx hb dL_scripts_201 (by decide) ?_
  refine lv_ldc2 (v := 50000) hx hb hown (hts (.constantLong RL 242 50000) (by decide +kernel)) dL_scripts_202 ?_
  refine lv_iload_n hx hb dL_scripts_205 rfl (lv_at hl 5 rfl) ?_
  refine lv_iconst (v := 4) hx hb dL_scripts_206 (by decide) ?_
  refine lv_irem hx hb dL_scripts_207 (by decide) ?_
  refine lv_i2l (v := (x - x / 4 * 4).toInt64) hx hb dL_scripts_208 rfl ?_
  refine lv_ladd hx hb dL_scripts_209 ?_
  refine cl_O (Φ := (fun w9 => OB y h T z Hs s0 s1 w9)) (vx_runSX (As := [.ref h, .int 1, .long (50000 + (x - x / 4 * 4).toInt64)]) (rest := []) ⟨hx, hb, hml, hown, hts⟩ (w_runScript l G y h 1 (50000 + (x - x / 4 * 4).toInt64) w T z Hs s0 s1 H.size hO hz  hfl) (vx_cwSW 3 hts gL_scripts_L_tryScript rfl rfl rfl (by decide +kernel) ⟨Nat.le_of_ble_eq_true rfl, Nat.le_of_ble_eq_true rfl⟩) (PHZ_S hP hK hN hD hTY hS (F_0 hD hS hA)) rfl rfl hl.1 rfl (lv_room (Nat.le_of_ble_eq_true rfl)) dL_scripts_210 ⟨Nat.le_of_ble_eq_true rfl, Nat.le_of_ble_eq_true rfl⟩) hD hS hA (fun w H locs hO hP hD hS => ?_)
  refine lv_iload_n hx hb dL_scripts_213 rfl (lv_at hl 2 rfl) ?_
  have J230_17 : ∀ (v_16 : Int32) (e_v_16 : v_16 = (if (qAbout 17 z) ≤ 0 then (0 : Int32) else (if 8 ≤ (qAbout 18 z) then (0 : Int32) else (-99999 : Int32)))) (w : va_W) (hO : OB y h T z Hs s0 s1 w) (H : Heap) (locs : List Loc) (hP : va_P G vwCl w H) (hD : va_D A w) (hS : va_S A s.heap H locs) (ls : Array Slot) (hl : lv_has ls 7 [(5, .int (qSim (x.toInt64 * 173) 15 z)), (4, .int (qAbout 18 z)), (3, .int (qAbout 17 z)), (2, .int (qAbout 12 z)), (0, .ref h), (1, .int x)]), W p l e (headSpec wsL_scripts rmL_scripts).room s m ([.ref h, .int x] : List Value).toArray below meth c H locs 19 114 QQ (F0 m 230 ls [.int v_16, .int (qScript 1 (50000 + (x - x / 4 * 4).toInt64) z)]) := by
    intro v_16 e_v_16 w hO H locs hP hD hS ls hl
    subst e_v_16
    refine lv_icmp_ne (tgt := 270) hx hb dL_scripts_230 (by decide) (fun c9 => absurd f_230 c9) (fun _ => ?_)
    refine lv_aload_n hx hb dL_scripts_233 rfl (lv_at hl 4 rfl) ?_
    refine lv_iconst (v := 1) hx hb dL_scripts_234 (by decide) ?_
    refine lv_ldc2 (v := 60000) hx hb hown (hts (.constantLong RL 244 60000) (by decide +kernel)) dL_scripts_235 ?_
    refine cl_O (Φ := (fun w9 => OB y h T z Hs s0 s1 w9)) (vx_runSX (As := [.ref h, .int 1, .long 60000]) (rest := []) ⟨hx, hb, hml, hown, hts⟩ (w_runScript l G y h 1 60000 w T z Hs s0 s1 H.size hO hz  hfl) (vx_cwSW 3 hts gL_scripts_L_tryScript rfl rfl rfl (by decide +kernel) ⟨Nat.le_of_ble_eq_true rfl, Nat.le_of_ble_eq_true rfl⟩) (PHZ_S hP hK hN hD hTY hS (F_0 hD hS hA)) rfl rfl hl.1 rfl (lv_room (Nat.le_of_ble_eq_true rfl)) dL_scripts_238 ⟨Nat.le_of_ble_eq_true rfl, Nat.le_of_ble_eq_true rfl⟩) hD hS hA (fun w H locs hO hP hD hS => ?_)
    refine lv_iload hx hb dL_scripts_241 (lv_at hl 1 rfl) ?_
    have J252_21 : ∀ (v_20 : Int32) (e_v_20 : v_20 = (if (qAbout 18 z) ≤ 0 then (0 : Int32) else (-99999 : Int32))) (w : va_W) (hO : OB y h T z Hs s0 s1 w) (H : Heap) (locs : List Loc) (hP : va_P G vwCl w H) (hD : va_D A w) (hS : va_S A s.heap H locs) (ls : Array Slot) (hl : lv_has ls 7 [(5, .int (qSim (x.toInt64 * 173) 15 z)), (4, .int (qAbout 18 z)), (3, .int (qAbout 17 z)), (2, .int (qAbout 12 z)), (0, .ref h), (1, .int x)]), W p l e (headSpec wsL_scripts rmL_scripts).room s m ([.ref h, .int x] : List Value).toArray below meth c H locs 20 120 QQ (F0 m 252 ls [.int v_20, .int (qScript 1 60000 z)]) := by
      intro v_20 e_v_20 w hO H locs hP hD hS ls hl
      subst e_v_20
      refine lv_icmp_ne (tgt := 270) hx hb dL_scripts_252 (by decide) (fun c9 => absurd f_252 c9) (fun _ => ?_)
      refine lv_aload_n hx hb dL_scripts_255 rfl (lv_at hl 4 rfl) ?_
      refine lv_iconst (v := 1) hx hb dL_scripts_256 (by decide) ?_
      refine lv_ldc2 (v := 60001) hx hb hown (hts (.constantLong RL 246 60001) (by decide +kernel)) dL_scripts_257 ?_
      refine cl_O (Φ := (fun w9 => OB y h T z Hs s0 s1 w9)) (vx_runSX (As := [.ref h, .int 1, .long 60001]) (rest := []) ⟨hx, hb, hml, hown, hts⟩ (w_runScript l G y h 1 60001 w T z Hs s0 s1 H.size hO hz  hfl) (vx_cwSW 3 hts gL_scripts_L_tryScript rfl rfl rfl (by decide +kernel) ⟨Nat.le_of_ble_eq_true rfl, Nat.le_of_ble_eq_true rfl⟩) (PHZ_S hP hK hN hD hTY hS (F_0 hD hS hA)) rfl rfl hl.1 rfl (lv_room (Nat.le_of_ble_eq_true rfl)) dL_scripts_260 ⟨Nat.le_of_ble_eq_true rfl, Nat.le_of_ble_eq_true rfl⟩) hD hS hA (fun w H locs hO hP hD hS => ?_)
      refine lv_if_ne (tgt := 270) hx hb dL_scripts_263 (by decide) (fun c9 => absurd f_263 c9) (fun _ => ?_)
      refine lv_iconst (v := 1) hx hb dL_scripts_266 (by decide) ?_
      refine lv_goto (tgt := 271) hx hb dL_scripts_267 (by decide) ?_
      refine lv_istore (lv' := [(6, .int 1), (5, .int (qSim (x.toInt64 * 173) 15 z)), (4, .int (qAbout 18 z)), (3, .int (qAbout 17 z)), (2, .int (qAbout 12 z)), (0, .ref h), (1, .int x)]) hx hb dL_scripts_271 hl (by decide) rfl (fun ls hl => ?_)
      refine lv_iload hx hb dL_scripts_273 (lv_at hl 0 rfl) ?_
      refine lv_if_eq (tgt := 377) hx hb dL_scripts_275 (by decide) (fun c_24 => (by first | exact absurd c_24 (by decide : ¬ ((1 : Int32) = 0)) | exact absurd (by decide : ¬ ((1 : Int32) = 0)) c_24)) (fun _ => ?_)
      refine lv_aload_n hx hb dL_scripts_278 rfl (lv_at hl 5 rfl) ?_
      refine lv_iconst (v := 1) hx hb dL_scripts_279 (by decide) ?_
      refine lv_ldc2 (v := 80000) hx hb hown (hts (.constantLong RL 248 80000) (by decide +kernel)) dL_scripts_280 ?_
      refine lv_iload_n hx hb dL_scripts_283 rfl (lv_at hl 3 rfl) ?_
      refine lv_i2l (v := (qAbout 17 z).toInt64) hx hb dL_scripts_284 rfl ?_
      refine lv_ladd hx hb dL_scripts_285 ?_
      refine cl_O (Φ := (fun w9 => OB y h T z Hs s0 s1 w9)) (vx_runSX (As := [.ref h, .int 1, .long (80000 + (qAbout 17 z).toInt64)]) (rest := []) ⟨hx, hb, hml, hown, hts⟩ (w_runScript l G y h 1 (80000 + (qAbout 17 z).toInt64) w T z Hs s0 s1 H.size hO hz  hfl) (vx_cwSW 3 hts gL_scripts_L_tryScript rfl rfl rfl (by decide +kernel) ⟨Nat.le_of_ble_eq_true rfl, Nat.le_of_ble_eq_true rfl⟩) (PHZ_S hP hK hN hD hTY hS (F_0 hD hS hA)) rfl rfl hl.1 rfl (lv_room (Nat.le_of_ble_eq_true rfl)) dL_scripts_286 ⟨Nat.le_of_ble_eq_true rfl, Nat.le_of_ble_eq_true rfl⟩) hD hS hA (fun w H locs hO hP hD hS => ?_)
      refine lv_ldc (v := (-99999)) hx hb hown (hts (.constant RL 119 (-99999)) (by decide +kernel)) dL_scripts_289 ?_
      refine lv_icmp_ne (tgt := 377) hx hb dL_scripts_291 (by decide) (fun c9 => absurd f_291 c9) (fun _ => ?_)
      refine lv_aload_n hx hb dL_scripts_294 rfl (lv_at hl 5 rfl) ?_
      refine lv_iconst (v := 1) hx hb dL_scripts_295 (by decide) ?_
      refine lv_ldc2 (v := 80001) hx hb hown (hts (.constantLong RL 250 80001) (by decide +kernel)) dL_scripts_296 ?_
      refine lv_iload_n hx hb dL_scripts_299 rfl (lv_at hl 3 rfl) ?_
      refine lv_i2l (v := (qAbout 17 z).toInt64) hx hb dL_scripts_300 rfl ?_
      refine lv_ladd hx hb dL_scripts_301 ?_
      refine cl_O (Φ := (fun w9 => OB y h T z Hs s0 s1 w9)) (vx_runSX (As := [.ref h, .int 1, .long (80001 + (qAbout 17 z).toInt64)]) (rest := []) ⟨hx, hb, hml, hown, hts⟩ (w_runScript l G y h 1 (80001 + (qAbout 17 z).toInt64) w T z Hs s0 s1 H.size hO hz  hfl) (vx_cwSW 3 hts gL_scripts_L_tryScript rfl rfl rfl (by decide +kernel) ⟨Nat.le_of_ble_eq_true rfl, Nat.le_of_ble_eq_true rfl⟩) (PHZ_S hP hK hN hD hTY hS (F_0 hD hS hA)) rfl rfl hl.1 rfl (lv_room (Nat.le_of_ble_eq_true rfl)) dL_scripts_302 ⟨Nat.le_of_ble_eq_true rfl, Nat.le_of_ble_eq_true rfl⟩) hD hS hA (fun w H locs hO hP hD hS => ?_)
      refine lv_if_ne (tgt := 377) hx hb dL_scripts_305 (by decide) (fun c9 => absurd f_305 c9) (fun _ => ?_)
      refine lv_aload_n hx hb dL_scripts_308 rfl (lv_at hl 5 rfl) ?_
      refine lv_iconst (v := 1) hx hb dL_scripts_309 (by decide) ?_
      refine lv_ldc2 (v := 90000) hx hb hown (hts (.constantLong RL 252 90000) (by decide +kernel)) dL_scripts_310 ?_
      refine lv_iload hx hb dL_scripts_313 (lv_at hl 2 rfl) ?_
      refine lv_i2l (v := (qAbout 18 z).toInt64) hx hb dL_scripts_315 rfl ?_
      refine lv_ladd hx hb dL_scripts_316 ?_
      refine cl_O (Φ := (fun w9 => OB y h T z Hs s0 s1 w9)) (vx_runSX (As := [.ref h, .int 1, .long (90000 + (qAbout 18 z).toInt64)]) (rest := []) ⟨hx, hb, hml, hown, hts⟩ (w_runScript l G y h 1 (90000 + (qAbout 18 z).toInt64) w T z Hs s0 s1 H.size hO hz  hfl) (vx_cwSW 3 hts gL_scripts_L_tryScript rfl rfl rfl (by decide +kernel) ⟨Nat.le_of_ble_eq_true rfl, Nat.le_of_ble_eq_true rfl⟩) (PHZ_S hP hK hN hD hTY hS (F_0 hD hS hA)) rfl rfl hl.1 rfl (lv_room (Nat.le_of_ble_eq_true rfl)) dL_scripts_317 ⟨Nat.le_of_ble_eq_true rfl, Nat.le_of_ble_eq_true rfl⟩) hD hS hA (fun w H locs hO hP hD hS => ?_)
      refine lv_ldc (v := (-99999)) hx hb hown (hts (.constant RL 119 (-99999)) (by decide +kernel)) dL_scripts_320 ?_
      refine lv_icmp_ne (tgt := 377) hx hb dL_scripts_322 (by decide) (fun c9 => absurd f_322 c9) (fun _ => ?_)
      refine lv_aload_n hx hb dL_scripts_325 rfl (lv_at hl 5 rfl) ?_
      refine lv_iconst (v := 1) hx hb dL_scripts_326 (by decide) ?_
      refine lv_ldc2 (v := 90009) hx hb hown (hts (.constantLong RL 254 90009) (by decide +kernel)) dL_scripts_327 ?_
      refine cl_O (Φ := (fun w9 => OB y h T z Hs s0 s1 w9)) (vx_runSX (As := [.ref h, .int 1, .long 90009]) (rest := []) ⟨hx, hb, hml, hown, hts⟩ (w_runScript l G y h 1 90009 w T z Hs s0 s1 H.size hO hz  hfl) (vx_cwSW 3 hts gL_scripts_L_tryScript rfl rfl rfl (by decide +kernel) ⟨Nat.le_of_ble_eq_true rfl, Nat.le_of_ble_eq_true rfl⟩) (PHZ_S hP hK hN hD hTY hS (F_0 hD hS hA)) rfl rfl hl.1 rfl (lv_room (Nat.le_of_ble_eq_true rfl)) dL_scripts_330 ⟨Nat.le_of_ble_eq_true rfl, Nat.le_of_ble_eq_true rfl⟩) hD hS hA (fun w H locs hO hP hD hS => ?_)
      refine lv_if_ne (tgt := 377) hx hb dL_scripts_333 (by decide) (fun c9 => absurd f_333 c9) (fun _ => ?_)
      refine lv_aload_n hx hb dL_scripts_336 rfl (lv_at hl 5 rfl) ?_
      refine lv_iconst (v := 1) hx hb dL_scripts_337 (by decide) ?_
      refine lv_lconst (v := 0) hx hb dL_scripts_338 rfl ?_
      refine cl_O (Φ := (fun w9 => OB y h T z Hs s0 s1 w9)) (vx_runSX (As := [.ref h, .int 1, .long 0]) (rest := []) ⟨hx, hb, hml, hown, hts⟩ (w_runScript l G y h 1 0 w T z Hs s0 s1 H.size hO hz  hfl) (vx_cwSW 3 hts gL_scripts_L_tryScript rfl rfl rfl (by decide +kernel) ⟨Nat.le_of_ble_eq_true rfl, Nat.le_of_ble_eq_true rfl⟩) (PHZ_S hP hK hN hD hTY hS (F_0 hD hS hA)) rfl rfl hl.1 rfl (lv_room (Nat.le_of_ble_eq_true rfl)) dL_scripts_339 ⟨Nat.le_of_ble_eq_true rfl, Nat.le_of_ble_eq_true rfl⟩) hD hS hA (fun w H locs hO hP hD hS => ?_)
      refine lv_if_ne (tgt := 377) hx hb dL_scripts_342 (by decide) (fun c9 => absurd f_342 c9) (fun _ => ?_)
      refine lv_aload_n hx hb dL_scripts_345 rfl (lv_at hl 5 rfl) ?_
      refine lv_iconst (v := 1) hx hb dL_scripts_346 (by decide) ?_
      refine lv_ldc2 (v := 72000) hx hb hown (hts (.constantLong RL 256 72000) (by decide +kernel)) dL_scripts_347 ?_
      refine cl_O (Φ := (fun w9 => OB y h T z Hs s0 s1 w9)) (vx_runSX (As := [.ref h, .int 1, .long 72000]) (rest := []) ⟨hx, hb, hml, hown, hts⟩ (w_runScript l G y h 1 72000 w T z Hs s0 s1 H.size hO hz  hfl) (vx_cwSW 3 hts gL_scripts_L_tryScript rfl rfl rfl (by decide +kernel) ⟨Nat.le_of_ble_eq_true rfl, Nat.le_of_ble_eq_true rfl⟩) (PHZ_S hP hK hN hD hTY hS (F_0 hD hS hA)) rfl rfl hl.1 rfl (lv_room (Nat.le_of_ble_eq_true rfl)) dL_scripts_350 ⟨Nat.le_of_ble_eq_true rfl, Nat.le_of_ble_eq_true rfl⟩) hD hS hA (fun w H locs hO hP hD hS => ?_)
      refine lv_if_ne (tgt := 377) hx hb dL_scripts_353 (by decide) (fun c9 => absurd f_353 c9) (fun _ => ?_)
      refine lv_iload hx hb dL_scripts_356 (lv_at hl 1 rfl) ?_
      refine lv_aload_n hx hb dL_scripts_358 rfl (lv_at hl 5 rfl) ?_
      refine lv_iload_n hx hb dL_scripts_359 rfl (lv_at hl 6 rfl) ?_
      refine lv_i2l (v := x.toInt64) hx hb dL_scripts_360 rfl ?_
      refine lv_ldc2 (v := 173) hx hb hown (hts (.constantLong RL 212 173) (by decide +kernel)) dL_scripts_361 ?_
      refine lv_lmul hx hb dL_scripts_364 ?_
      refine lv_bipush (v := 15) hx hb dL_scripts_365 (by decide) ?_
      refine cl_O (Φ := (fun w9 => OB y h T z Hs s0 s1 w9)) (vx_runSX (As := [.ref h, .long (x.toInt64 * 173), .int 15]) (rest := [.int (qSim (x.toInt64 * 173) 15 z)]) ⟨hx, hb, hml, hown, hts⟩ (w_simulate l G y h (x.toInt64 * 173) 15 w T z Hs s0 s1 H.size hO hz  hfl) (vx_cwSW 3 hts gL_scripts_L_trySimulate rfl rfl rfl (by decide +kernel) ⟨Nat.le_of_ble_eq_true rfl, Nat.le_of_ble_eq_true rfl⟩) (PHZ_S hP hK hN hD hTY hS (F_0 hD hS hA)) rfl rfl hl.1 rfl (lv_room (Nat.le_of_ble_eq_true rfl)) dL_scripts_367 ⟨Nat.le_of_ble_eq_true rfl, Nat.le_of_ble_eq_true rfl⟩) hD hS hA (fun w H locs hO hP hD hS => ?_)
      refine lv_icmp_ne (tgt := 377) hx hb dL_scripts_370 (by decide) (fun c9 => absurd f_370 c9) (fun _ => ?_)
      refine lv_iconst (v := 1) hx hb dL_scripts_373 (by decide) ?_
      refine lv_goto (tgt := 378) hx hb dL_scripts_374 (by decide) ?_
      refine lv_istore (lv' := [(6, .int 1), (5, .int (qSim (x.toInt64 * 173) 15 z)), (4, .int (qAbout 18 z)), (3, .int (qAbout 17 z)), (2, .int (qAbout 12 z)), (0, .ref h), (1, .int x)]) hx hb dL_scripts_378 hl (by decide) rfl (fun ls hl => ?_)
      refine lv_iload hx hb dL_scripts_380 (lv_at hl 0 rfl) ?_
      refine lv_if_eq (tgt := 484) hx hb dL_scripts_382 (by decide) (fun c_32 => (by first | exact absurd c_32 (by decide : ¬ ((1 : Int32) = 0)) | exact absurd (by decide : ¬ ((1 : Int32) = 0)) c_32)) (fun _ => ?_)
      refine lv_iload_n hx hb dL_scripts_385 rfl (lv_at hl 4 rfl) ?_
      have J412_34 : ∀  (w : va_W) (hO : OB y h T z Hs s0 s1 w) (H : Heap) (locs : List Loc) (hP : va_P G vwCl w H) (hD : va_D A w) (hS : va_S A s.heap H locs) (ls : Array Slot) (hl : lv_has ls 7 [(2, .int (qAbout 12 z)), (0, .ref h)]), W p l e (headSpec wsL_scripts rmL_scripts).room s m ([.ref h, .int x] : List Value).toArray below meth c H locs 29 174 QQ (F0 m 412 ls []) := by
        intro w hO H locs hP hD hS ls hl
        refine lv_iload_n hx hb dL_scripts_412 rfl (lv_at hl 0 rfl) ?_
        have J437_36 : ∀  (w : va_W) (hO : OB y h T z Hs s0 s1 w) (H : Heap) (locs : List Loc) (hP : va_P G vwCl w H) (hD : va_D A w) (hS : va_S A s.heap H locs) (ls : Array Slot) (hl : lv_has ls 7 [(2, .int (qAbout 12 z)), (0, .ref h)]), W p l e (headSpec wsL_scripts rmL_scripts).room s m ([.ref h, .int x] : List Value).toArray below meth c H locs 30 180 QQ (F0 m 437 ls []) := by
          intro w hO H locs hP hD hS ls hl
          refine lv_iload_n hx hb dL_scripts_437 rfl (lv_at hl 0 rfl) ?_
          have J464_38 : ∀  (w : va_W) (hO : OB y h T z Hs s0 s1 w) (H : Heap) (locs : List Loc) (hP : va_P G vwCl w H) (hD : va_D A w) (hS : va_S A s.heap H locs) (ls : Array Slot) (hl : lv_has ls 7 [(2, .int (qAbout 12 z)), (0, .ref h)]), W p l e (headSpec wsL_scripts rmL_scripts).room s m ([.ref h, .int x] : List Value).toArray below meth c H locs 31 186 QQ (F0 m 464 ls []) := by
            intro w hO H locs hP hD hS ls hl
            refine lv_iload_n hx hb dL_scripts_464 rfl (lv_at hl 0 rfl) ?_
            refine lv_iconst (v := (-1)) hx hb dL_scripts_465 (by decide) ?_
            have J480_40 : ∀  (w : va_W) (hO : OB y h T z Hs s0 s1 w) (H : Heap) (locs : List Loc) (hP : va_P G vwCl w H) (hD : va_D A w) (hS : va_S A s.heap H locs) (ls : Array Slot) (hl : lv_has ls 7 []), W p l e (headSpec wsL_scripts rmL_scripts).room s m ([.ref h, .int x] : List Value).toArray below meth c H locs 32 192 QQ (F0 m 480 ls []) := by
              intro w hO H locs hP hD hS ls hl
              refine lv_iconst (v := 1) hx hb dL_scripts_480 (by decide) ?_
              refine lv_goto (tgt := 485) hx hb dL_scripts_481 (by decide) ?_
              rw [hQQ]
              refine W.widen (k := 32) (n := 192) (by omega) (by omega) ?_
              exact W.zret hx hb hr (nz_bool (Or.inr rfl)) (end_O hO hP hD hS rfl) hS.2.2 dL_scripts_485
            refine lv_icmp_gt (tgt := 480) hx hb dL_scripts_466 (by decide) (fun c_39 => ?_) (fun c_39 => ?_)
            · refine W.widen (k := 32) (n := 192) (by omega) (by omega) ?_
              exact J480_40 w hO H locs hP hD hS ls (lv_sub hl [] rfl)
            · refine lv_aload_n hx hb dL_scripts_469 rfl (lv_at hl 1 rfl) ?_
              refine lv_iconst (v := 1) hx hb dL_scripts_470 (by decide) ?_
              refine lv_ldc2 (v := 70000) hx hb hown (hts (.constantLong RL 258 70000) (by decide +kernel)) dL_scripts_471 ?_
              refine cl_O (Φ := (fun w9 => OB y h T z Hs s0 s1 w9)) (vx_runSX (As := [.ref h, .int 1, .long 70000]) (rest := []) ⟨hx, hb, hml, hown, hts⟩ (w_runScript l G y h 1 70000 w T z Hs s0 s1 H.size hO hz  hfl) (vx_cwSW 3 hts gL_scripts_L_tryScript rfl rfl rfl (by decide +kernel) ⟨Nat.le_of_ble_eq_true rfl, Nat.le_of_ble_eq_true rfl⟩) (PHZ_S hP hK hN hD hTY hS (F_0 hD hS hA)) rfl rfl hl.1 rfl (lv_room (Nat.le_of_ble_eq_true rfl)) dL_scripts_474 ⟨Nat.le_of_ble_eq_true rfl, Nat.le_of_ble_eq_true rfl⟩) hD hS hA (fun w H locs hO hP hD hS => ?_)
              refine lv_if_ne (tgt := 484) hx hb dL_scripts_477 (by decide) (fun c9 => absurd (f_477 c_39) c9) (fun _ => ?_)
              exact J480_40 w hO H locs hP hD hS ls (lv_sub hl [] rfl)
          refine lv_if_gt (tgt := 464) hx hb dL_scripts_438 (by decide) (fun c_37 => ?_) (fun c_37 => ?_)
          · refine W.widen (k := 31) (n := 186) (by omega) (by omega) ?_
            exact J464_38 w hO H locs hP hD hS ls (lv_sub hl [0, 1] rfl)
          · refine lv_iload_n hx hb dL_scripts_441 rfl (lv_at hl 0 rfl) ?_
            refine lv_sipush (v := (-999)) hx hb dL_scripts_442 (by decide) ?_
            refine lv_icmp_lt (tgt := 464) hx hb dL_scripts_445 (by decide) (fun c_42 => ?_) (fun c_42 => ?_)
            · refine W.widen (k := 31) (n := 186) (by omega) (by omega) ?_
              exact J464_38 w hO H locs hP hD hS ls (lv_sub hl [0, 1] rfl)
            · refine lv_aload_n hx hb dL_scripts_448 rfl (lv_at hl 1 rfl) ?_
              refine lv_iconst (v := 1) hx hb dL_scripts_449 (by decide) ?_
              refine lv_ldc2 (v := 71000) hx hb hown (hts (.constantLong RL 262 71000) (by decide +kernel)) dL_scripts_450 ?_
              refine lv_iload_n hx hb dL_scripts_453 rfl (lv_at hl 0 rfl) ?_
              refine lv_i2l (v := (qAbout 12 z).toInt64) hx hb dL_scripts_454 rfl ?_
              refine lv_lsub hx hb dL_scripts_455 ?_
              refine cl_O (Φ := (fun w9 => OB y h T z Hs s0 s1 w9)) (vx_runSX (As := [.ref h, .int 1, .long (71000 - (qAbout 12 z).toInt64)]) (rest := []) ⟨hx, hb, hml, hown, hts⟩ (w_runScript l G y h 1 (71000 - (qAbout 12 z).toInt64) w T z Hs s0 s1 H.size hO hz  hfl) (vx_cwSW 3 hts gL_scripts_L_tryScript rfl rfl rfl (by decide +kernel) ⟨Nat.le_of_ble_eq_true rfl, Nat.le_of_ble_eq_true rfl⟩) (PHZ_S hP hK hN hD hTY hS (F_0 hD hS hA)) rfl rfl hl.1 rfl (lv_room (Nat.le_of_ble_eq_true rfl)) dL_scripts_456 ⟨Nat.le_of_ble_eq_true rfl, Nat.le_of_ble_eq_true rfl⟩) hD hS hA (fun w H locs hO hP hD hS => ?_)
              refine lv_ldc (v := (-99999)) hx hb hown (hts (.constant RL 119 (-99999)) (by decide +kernel)) dL_scripts_459 ?_
              refine lv_icmp_ne (tgt := 484) hx hb dL_scripts_461 (by decide) (fun c9 => absurd (f_461 c_37 c_42) c9) (fun _ => ?_)
              exact J464_38 w hO H locs hP hD hS ls (lv_sub hl [0, 1] rfl)
        refine lv_if_lt (tgt := 437) hx hb dL_scripts_413 (by decide) (fun c_35 => ?_) (fun c_35 => ?_)
        · refine W.widen (k := 30) (n := 180) (by omega) (by omega) ?_
          exact J437_36 w hO H locs hP hD hS ls (lv_sub hl [0, 1] rfl)
        · refine lv_iload_n hx hb dL_scripts_416 rfl (lv_at hl 0 rfl) ?_
          refine lv_sipush (v := 998) hx hb dL_scripts_417 (by decide) ?_
          refine lv_icmp_gt (tgt := 437) hx hb dL_scripts_420 (by decide) (fun c_44 => ?_) (fun c_44 => ?_)
          · refine W.widen (k := 30) (n := 180) (by omega) (by omega) ?_
            exact J437_36 w hO H locs hP hD hS ls (lv_sub hl [0, 1] rfl)
          · refine lv_aload_n hx hb dL_scripts_423 rfl (lv_at hl 1 rfl) ?_
            refine lv_iconst (v := 1) hx hb dL_scripts_424 (by decide) ?_
            refine lv_ldc2 (v := 70001) hx hb hown (hts (.constantLong RL 260 70001) (by decide +kernel)) dL_scripts_425 ?_
            refine lv_iload_n hx hb dL_scripts_428 rfl (lv_at hl 0 rfl) ?_
            refine lv_i2l (v := (qAbout 12 z).toInt64) hx hb dL_scripts_429 rfl ?_
            refine lv_ladd hx hb dL_scripts_430 ?_
            refine cl_O (Φ := (fun w9 => OB y h T z Hs s0 s1 w9)) (vx_runSX (As := [.ref h, .int 1, .long (70001 + (qAbout 12 z).toInt64)]) (rest := []) ⟨hx, hb, hml, hown, hts⟩ (w_runScript l G y h 1 (70001 + (qAbout 12 z).toInt64) w T z Hs s0 s1 H.size hO hz  hfl) (vx_cwSW 3 hts gL_scripts_L_tryScript rfl rfl rfl (by decide +kernel) ⟨Nat.le_of_ble_eq_true rfl, Nat.le_of_ble_eq_true rfl⟩) (PHZ_S hP hK hN hD hTY hS (F_0 hD hS hA)) rfl rfl hl.1 rfl (lv_room (Nat.le_of_ble_eq_true rfl)) dL_scripts_431 ⟨Nat.le_of_ble_eq_true rfl, Nat.le_of_ble_eq_true rfl⟩) hD hS hA (fun w H locs hO hP hD hS => ?_)
            refine lv_if_ne (tgt := 484) hx hb dL_scripts_434 (by decide) (fun c9 => absurd (f_434 c_35 c_44) c9) (fun _ => ?_)
            exact J437_36 w hO H locs hP hD hS ls (lv_sub hl [0, 1] rfl)
      refine lv_if_lt (tgt := 412) hx hb dL_scripts_386 (by decide) (fun c_33 => ?_) (fun c_33 => ?_)
      · refine W.widen (k := 29) (n := 174) (by omega) (by omega) ?_
        exact J412_34 w hO H locs hP hD hS ls (lv_sub hl [4, 5] rfl)
      · refine lv_iload_n hx hb dL_scripts_389 rfl (lv_at hl 4 rfl) ?_
        refine lv_sipush (v := 999) hx hb dL_scripts_390 (by decide) ?_
        refine lv_icmp_gt (tgt := 412) hx hb dL_scripts_393 (by decide) (fun c_46 => ?_) (fun c_46 => ?_)
        · refine W.widen (k := 29) (n := 174) (by omega) (by omega) ?_
          exact J412_34 w hO H locs hP hD hS ls (lv_sub hl [4, 5] rfl)
        · refine lv_aload_n hx hb dL_scripts_396 rfl (lv_at hl 5 rfl) ?_
          refine lv_iconst (v := 1) hx hb dL_scripts_397 (by decide) ?_
          refine lv_ldc2 (v := 70000) hx hb hown (hts (.constantLong RL 258 70000) (by decide +kernel)) dL_scripts_398 ?_
          refine lv_iload_n hx hb dL_scripts_401 rfl (lv_at hl 4 rfl) ?_
          refine lv_i2l (v := (qAbout 12 z).toInt64) hx hb dL_scripts_402 rfl ?_
          refine lv_ladd hx hb dL_scripts_403 ?_
          refine cl_O (Φ := (fun w9 => OB y h T z Hs s0 s1 w9)) (vx_runSX (As := [.ref h, .int 1, .long (70000 + (qAbout 12 z).toInt64)]) (rest := []) ⟨hx, hb, hml, hown, hts⟩ (w_runScript l G y h 1 (70000 + (qAbout 12 z).toInt64) w T z Hs s0 s1 H.size hO hz  hfl) (vx_cwSW 3 hts gL_scripts_L_tryScript rfl rfl rfl (by decide +kernel) ⟨Nat.le_of_ble_eq_true rfl, Nat.le_of_ble_eq_true rfl⟩) (PHZ_S hP hK hN hD hTY hS (F_0 hD hS hA)) rfl rfl hl.1 rfl (lv_room (Nat.le_of_ble_eq_true rfl)) dL_scripts_404 ⟨Nat.le_of_ble_eq_true rfl, Nat.le_of_ble_eq_true rfl⟩) hD hS hA (fun w H locs hO hP hD hS => ?_)
          refine lv_ldc (v := (-99999)) hx hb hown (hts (.constant RL 119 (-99999)) (by decide +kernel)) dL_scripts_407 ?_
          refine lv_icmp_ne (tgt := 484) hx hb dL_scripts_409 (by decide) (fun c9 => absurd (f_409 c_33 c_46) c9) (fun _ => ?_)
          exact J412_34 w hO H locs hP hD hS ls (lv_sub hl [4, 5] rfl)
    refine lv_if_le (tgt := 251) hx hb dL_scripts_243 (by decide) (fun c_19 => ?_) (fun c_19 => ?_)
    · refine lv_iconst (v := 0) hx hb dL_scripts_251 (by decide) ?_
      exact J252_21 _ ((if_pos c_19).symm) w hO H locs hP hD hS ls (lv_sub hl [0, 1, 2, 3, 4, 5] rfl)
    · refine lv_ldc (v := (-99999)) hx hb hown (hts (.constant RL 119 (-99999)) (by decide +kernel)) dL_scripts_246 ?_
      refine lv_goto (tgt := 252) hx hb dL_scripts_248 (by decide) ?_
      exact J252_21 _ ((if_neg c_19).symm) w hO H locs hP hD hS ls (lv_sub hl [0, 1, 2, 3, 4, 5] rfl)
  refine lv_if_le (tgt := 229) hx hb dL_scripts_214 (by decide) (fun c_15 => ?_) (fun c_15 => ?_)
  · refine lv_iconst (v := 0) hx hb dL_scripts_229 (by decide) ?_
    exact J230_17 _ ((if_pos c_15).symm) w hO H locs hP hD hS ls (lv_sub hl [0, 1, 2, 3, 4, 5] rfl)
  · refine lv_iload hx hb dL_scripts_217 (lv_at hl 1 rfl) ?_
    refine lv_bipush (v := 8) hx hb dL_scripts_219 (by decide) ?_
    refine lv_icmp_ge (tgt := 229) hx hb dL_scripts_221 (by decide) (fun c_48 => ?_) (fun c_48 => ?_)
    · refine lv_iconst (v := 0) hx hb dL_scripts_229 (by decide) ?_
      exact J230_17 _ (((if_neg c_15).trans (if_pos c_48)).symm) w hO H locs hP hD hS ls (lv_sub hl [0, 1, 2, 3, 4, 5] rfl)
    · refine lv_ldc (v := (-99999)) hx hb hown (hts (.constant RL 119 (-99999)) (by decide +kernel)) dL_scripts_224 ?_
      refine lv_goto (tgt := 230) hx hb dL_scripts_226 (by decide) ?_
      exact J230_17 _ (((if_neg c_15).trans (if_neg c_48)).symm) w hO H locs hP hD hS ls (lv_sub hl [0, 1, 2, 3, 4, 5] rfl)

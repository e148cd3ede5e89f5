/-- a new object -/
def obN (y : Nat → ClassId) (h : Nat) (u : (Nat → Nat) × (Nat → Nat → Nat) × (Nat → Nat → Nat)) : va_W := obE y h u.1 Z0 Z0 zI Z0 zI Z0 Z0 u.2.1 Z0 u.2.2 ++ (kW y u.2.1 (fun _ => zI) (fun _ => Z0) 14 ++ kW y u.2.2 (fun _ => zI) (fun _ => Z0) 2)
theorem ob_new {y : Nat → ClassId} {h : Nat} {u : (Nat → Nat) × (Nat → Nat → Nat) × (Nat → Nat → Nat)} : OB y h [] zI [] none none (obN y h u) := ⟨u.1, Z0, Z0, Z0, zI, Z0, Z0, u.2.1, fun _ => zI, fun _ => Z0, Z0, u.2.2, fun _ => zI, fun _ => Z0, rfl, ⟨rfl, Nat.zero_le _, fun i hi => absurd hi (Nat.not_lt_zero _)⟩, ⟨rfl, Nat.zero_le _, fun i hi => absurd hi (Nat.not_lt_zero _)⟩, ⟨Or.inl ⟨rfl, rfl⟩, Or.inl ⟨rfl, rfl⟩⟩, fun _ => zI_b, fun _ => zI_b⟩
set_option maxHeartbeats 4000000 in
set_option maxRecDepth 100000 in
theorem whole_start {p : Program} {e : Env} {s : State} {m : MethodId} {below : List Frame} {meth : Method} {c : Code} (l : Launch) (hflags : l.flags = flags0) {b L : Nat} {xs : Nat → Int32} (hL : L ≤ 260) (C0 : lw_At p s m meth c b L xs) : W p l e room_1 s m #[Value.ref b] below meth c s.heap [] 0 0 (lw_Z below #[Value.ref b] s) (entryFrame m ([Value.ref b] : List Value).toArray 9) := by
  obtain ⟨hx, hb, hr, hml, hown, hts, hX, hbl, hlocks, hgv⟩ := id C0
  have hfl := hfl_of hflags
  have hN := st_NN hts
  have hTY := st_TY hts hgv
  obtain ⟨G, y, hK⟩ := st_K hts
  have hts0 := hts
  have hts := fun w hh => hts w (wsL_law_in w hh)
  have hown : s.vm.findClass RL = some m.cls := hown
  have hA : ∀ q : Nat, s.heap.size ≤ q → (fun q : Nat => s.heap.size ≤ q) q := fun _ h => h
  have hAO : va_AO "RelayTuner$State" s := va_AO.of (hts0 _ (swX_in (.arrayOver (.object "RelayTuner$State")) (by decide +kernel)))
  have hSc : Sc b L xs (fun q : Nat => s.heap.size ≤ q) s := ⟨hX, hbl, Nat.not_le.mpr hbl, by omega⟩
  have hS : va_S (fun q : Nat => s.heap.size ≤ q) s.heap s.heap [] := va_S.rf
  have hP : va_P G vwCl [] s.heap := pnil
  have hD : va_D (fun q : Nat => s.heap.size ≤ q) [] := dnil
  have hl := lv_entry ([.ref b]) (n := 9) (Nat.le_of_ble_eq_true rfl)
  rw [lg_entry_eq]
  generalize (lg_sl ([.ref b]) ++ List.replicate (9 - (lg_sl ([.ref b])).length) Slot.unset).toArray = ls at hl ⊢
  have hl : lv_has ls 9 [(0, .ref b)] := hl
  refine va_new (D := G) (ci := 9) (fs := [.null, .null, .null, .null, .null, .null]) (C := RX11) (T := TX11) (N := 6) hx hb hts0 inX11 tyX11 tyX11_ok hown (hts0 _ (swX_in (.classLink RL 8 RX11) (by decide +kernel))) (hts0 _ (swX_in (.instantiable RX11 6) (by decide +kernel))) (hts0 _ (swX_in (.initialized RX11) (by decide +kernel))) hK hP hD hS hA rfl (fun j hj => by rcases (show j = 0 ∨ j = 1 ∨ j = 2 ∨ j = 3 ∨ j = 4 ∨ j = 5 by omega) with rfl | rfl | rfl | rfl | rfl | rfl <;> rfl) (Nat.le_of_ble_eq_true rfl) (Nat.le_of_ble_eq_true rfl) dL_law_0 (fun hp H hP hD hS => ?_)
  have hP : va_P G vwCl ([] ++ [(hp, .inr (9, [.null, .null, .null, .null, .null, .null]))]) H := hP
  have hD : va_D (fun q : Nat => s.heap.size ≤ q) ([] ++ [(hp, .inr (9, [.null, .null, .null, .null, .null, .null]))]) := hD
  refine lv_dup hx hb dL_law_3 rfl ?_
  refine cl_HvW (wr := []) (wc := [(hp, .inr (9, [.null, .null, .null, .null, .null, .null]))]) (va_runI (As := []) (rest := [.ref hp]) ⟨hx, hb, hml, hown, hts⟩ (c_X11_init l G y hp H.size) (cwI 0 hts gL_law_X11_init rfl rfl rfl (hts0 _ (swX_in (.initialized RX11) (by decide +kernel))) (hts0 _ (swX_in (.methodLink RL 264 yX11_init) (by decide +kernel))) (hts0 _ (swX_in (.instanceMethod yX11_init) (by decide +kernel))) rfl (by decide +kernel) ⟨Nat.le_of_ble_eq_true rfl, Nat.le_of_ble_eq_true rfl⟩) (PHA_S (P_r hP) hK hN (D_r hD) hAO) rfl rfl hl.1 rfl (lv_room (Nat.le_of_ble_eq_true rfl)) dL_law_4 ⟨Nat.le_of_ble_eq_true rfl, Nat.le_of_ble_eq_true rfl⟩) hP hD hS hA (fun u H locs hP hD hS => ?_)
  have hP : va_P G vwCl (obN y hp u) H := hP
  have hD : va_D (fun q : Nat => s.heap.size ≤ q) (obN y hp u) := hD
  have hOp : OB y hp [] zI [] none none (obN y hp u) := ob_new
  generalize obN y hp u = wp at hP hD hOp
  refine lv_astore_n (lv' := [(1, .ref hp), (0, .ref b)]) hx hb dL_law_7 rfl hl (by decide) rfl (fun ls hl => ?_)
  refine va_new (D := G) (ci := 9) (fs := [.null, .null, .null, .null, .null, .null]) (C := RX11) (T := TX11) (N := 6) hx hb hts0 inX11 tyX11 tyX11_ok hown (hts0 _ (swX_in (.classLink RL 8 RX11) (by decide +kernel))) (hts0 _ (swX_in (.instantiable RX11 6) (by decide +kernel))) (hts0 _ (swX_in (.initialized RX11) (by decide +kernel))) hK hP hD hS hA rfl (fun j hj => by rcases (show j = 0 ∨ j = 1 ∨ j = 2 ∨ j = 3 ∨ j = 4 ∨ j = 5 by omega) with rfl | rfl | rfl | rfl | rfl | rfl <;> rfl) (Nat.le_of_ble_eq_true rfl) (Nat.le_of_ble_eq_true rfl) dL_law_8 (fun hq H hP hD hS => ?_)
  have hP : va_P G vwCl (wp ++ [(hq, .inr (9, [.null, .null, .null, .null, .null, .null]))]) H := hP
  have hD : va_D (fun q : Nat => s.heap.size ≤ q) (wp ++ [(hq, .inr (9, [.null, .null, .null, .null, .null, .null]))]) := hD
  refine lv_dup hx hb dL_law_11 rfl ?_
  refine cl_HvW (wr := wp) (wc := [(hq, .inr (9, [.null, .null, .null, .null, .null, .null]))]) (va_runI (As := []) (rest := [.ref hq]) ⟨hx, hb, hml, hown, hts⟩ (c_X11_init l G y hq H.size) (cwI 0 hts gL_law_X11_init rfl rfl rfl (hts0 _ (swX_in (.initialized RX11) (by decide +kernel))) (hts0 _ (swX_in (.methodLink RL 264 yX11_init) (by decide +kernel))) (hts0 _ (swX_in (.instanceMethod yX11_init) (by decide +kernel))) rfl (by decide +kernel) ⟨Nat.le_of_ble_eq_true rfl, Nat.le_of_ble_eq_true rfl⟩) (PHA_S (P_r hP) hK hN (D_r hD) hAO) rfl rfl hl.1 rfl (lv_room (Nat.le_of_ble_eq_true rfl)) dL_law_12 ⟨Nat.le_of_ble_eq_true rfl, Nat.le_of_ble_eq_true rfl⟩) hP hD hS hA (fun u H locs hP hD hS => ?_)
  have hP : va_P G vwCl (wp ++ obN y hq u) H := hP
  have hD : va_D (fun q : Nat => s.heap.size ≤ q) (wp ++ obN y hq u) := hD
  have hOq : OB y hq [] zI [] none none (obN y hq u) := ob_new
  generalize obN y hq u = wq at hP hD hOq
  refine lv_astore_n (lv' := [(2, .ref hq), (1, .ref hp), (0, .ref b)]) hx hb dL_law_15 rfl hl (by decide) rfl (fun ls hl => ?_)
  refine W.widen (k := 600) (n := 9000) (by decide) (by decide) ?_
  exact law_body hfl rfl rfl hx hb hr hml hown hts hSc hlocks hK hN hTY hA (fx_law L xs) hOp hOq zI_GZ.ts hP hD hS (lv_sub hl [2, 1, 0] rfl)

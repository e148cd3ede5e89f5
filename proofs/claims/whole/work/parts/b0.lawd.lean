set_option maxHeartbeats 2000000 in
set_option maxRecDepth 100000 in
theorem case_0 {p : Program} {l : Launch} {e : Env} {s : State} {m : MethodId} {below : List Frame} {meth : Method} {c : Code} {b L : Nat} {xs : Nat → Int32} {G : va_G} {y : Nat → ClassId} {h : Nat} {a : Nat → Nat} {jq mh : Nat} {w : Nat → Nat} {iv v1 v2 v3 : Int32} {N kc ks : Nat} {H : Heap} {locs : List Loc} {ls : Array Slot} (hfl : l.stackTraces = false) (C0 : lw_At p s m meth c b L xs) (hK : va_K G vwCl (tyJ y) s) (hN : NN s) (hTY : TY (fun q : Nat => s.heap.size ≤ q) s) (hin1 : vp_in (iv + 1) L) (hin2 : vp_in (iv + 2) L) (hin3 : vp_in (iv + 3) L) (hv1 : xs (iv + 1).toNatClampNeg = v1) (hv2 : xs (iv + 2).toNatClampNeg = v2) (hv3 : xs (iv + 3).toNatClampNeg = v3) (hkc : kc + 1 ≤ room_1.cells) (hks : ks + 6 ≤ room_1.slots) (hN9 : N + 12800 < 2147483648) (hI : LI G y h a jq mh w (fun q : Nat => s.heap.size ≤ q) N H) (hS : va_S (fun q : Nat => s.heap.size ≤ q) s.heap H locs) (hl : lv_has ls 7 [(0, .ref b), (1, .ref h), (2, .ref mh), (3, .ref jq), (4, .int iv)]) (KN : ∀ (H : Heap) (locs : List Loc) (ls : Array Slot), LI G y h a jq mh w (fun q : Nat => s.heap.size ≤ q) (N + 200) H → va_S (fun q : Nat => s.heap.size ≤ q) s.heap H locs → lv_has ls 7 [(0, .ref b), (1, .ref h), (2, .ref mh), (3, .ref jq), (4, .int iv)] → W p l e room_1 s m #[Value.ref b] below meth c H locs (kc + 1) (ks + 6) (lw_Z below #[Value.ref b] s) (F0 m 1652 ls [])) : W p l e room_1 s m #[Value.ref b] below meth c H locs kc ks (lw_Z below #[Value.ref b] s) (F0 m 160 ls []) := by
  obtain ⟨hx, hb, hr, hml, hown, hts, hX, hbl, hlocks, hgv⟩ := C0
  have hts := fun w hh => hts w (wsL_law_in w hh)
  have hbA : ¬ (fun q : Nat => s.heap.size ≤ q) b := Nat.not_le.mpr hbl
  have hA : ∀ q : Nat, s.heap.size ≤ q → (fun q : Nat => s.heap.size ≤ q) q := fun _ h => h
  have hK4 : va_K G vwCl (tyG y) s := hK.sub (tys' := tyG y) [0, 1, 2, 3] rfl
  have hown : s.vm.findClass RL = some m.cls := hown
  have hkc0 : kc ≤ room_1.cells := Nat.le_of_succ_le hkc
  have hks0 : ks ≤ room_1.slots := Nat.le_trans (Nat.le_add_right ks 6) hks
  obtain ⟨x9, ft, z, o, zc, oc, x2, ad, zk, ok, fl, sd, zs, os, jo, X, fR, fr, f, g, fd, fk, fz, o2, hP, hD, hW⟩ := hI
  by_cases hk : (s_X11_append_k v1 x9) = 0
  · refine lv_aload_n hx hb dL_law_160 rfl (lv_at hl 1 rfl) ?_
    refine lv_aload_n hx hb dL_law_161 rfl (lv_at hl 0 rfl) ?_
    refine lv_iload hx hb dL_law_162 (lv_at hl 4 rfl) ?_
    refine lv_iconst (v := 1) hx hb dL_law_164 (by decide) ?_
    refine lv_iadd hx hb dL_law_165 ?_
    refine va_sld hx hb hX hbl hbA hS hin1 dL_law_166 ?_
    refine rw_i (x' := v1) hv1 ?_
    refine lv_aload_n hx hb dL_law_167 rfl (lv_at hl 3 rfl) ?_
    have hpm := qm0 (T := (kW y ad zk ok 14) ++ (kW y sd zs os 2)) (pr_0 y h a jq mh w x9 ft z o zc oc x2 ad fl sd jo X fR fr f g fd fk fz o2)
    have hPc : va_P G vwCl ([aJ y jq 1 jo] ++ [kX11 h (a 0) (a 2) (a 16) (a 30) (a 44) (a 46) Z0, kX9 (a 0) (a 1) x9, aC y (a 1) 60 ft]) H := P_r (P_perm hpm hP)
    have hDc : va_D (fun q : Nat => s.heap.size ≤ q) ([aJ y jq 1 jo] ++ [kX11 h (a 0) (a 2) (a 16) (a 30) (a 44) (a 46) Z0, kX9 (a 0) (a 1) x9, aC y (a 1) 60 ft]) := D_r (D_perm hpm hD)
    have hFc : ∀ q, va_A ([aJ y jq 1 jo] ++ [kX11 h (a 0) (a 2) (a 16) (a 30) (a 44) (a 46) Z0, kX9 (a 0) (a 1) x9, aC y (a 1) 60 ft]) H.size q → s.heap.size ≤ q := F_r (D_perm hpm hD) hS hA
    refine cl_LP (fun _ : Unit => ((lwE y h a jq mh w (s_X11_append_w1 x9) (s_X11_append_w2 v1 x9 ft) z o zc oc x2 ad fl sd (vp_updL jo 0 (s_X11_append_r x9).toInt64) X fR fr f g fd fk fz o2) ++ ((kW y ad zk ok 14) ++ (kW y sd zs os 2)))) hpm (fun _ => qm0 (T := (kW y ad zk ok 14) ++ (kW y sd zs os 2)) (pr_0 y h a jq mh w (s_X11_append_w1 x9) (s_X11_append_w2 v1 x9 ft) z o zc oc x2 ad fl sd (vp_updL jo 0 (s_X11_append_r x9).toInt64) X fR fr f g fd fk fz o2)) (vx_runSX (As := [.ref h, .int v1, .ref jq]) (rest := []) ⟨hx, hb, hml, hown, hts⟩ (c_L_append_y l G y h v1 (a 0) (a 2) (a 16) (a 30) (a 44) (a 46) (a 1) x9 ft jq jo H.size hk hfl) (vx_cwSW 3 hts gL_law_L_append rfl rfl rfl (by decide +kernel) ⟨Nat.le_of_ble_eq_true rfl, Nat.le_of_ble_eq_true rfl⟩) (PHL_S hPc hK hN hDc hTY hS hFc) rfl rfl hl.1 rfl (lv_room (Nat.le_of_ble_eq_true rfl)) dL_law_168 ⟨hkc, hks⟩) hP hD hS hA (fun _ H locs hP hD hS => ?_)
    have hP : va_P G vwCl ((lwE y h a jq mh w (s_X11_append_w1 x9) (s_X11_append_w2 v1 x9 ft) z o zc oc x2 ad fl sd (vp_updL jo 0 (s_X11_append_r x9).toInt64) X fR fr f g fd fk fz o2) ++ ((kW y ad zk ok 14) ++ (kW y sd zs os 2))) H := hP
    have hD : va_D (fun q : Nat => s.heap.size ≤ q) ((lwE y h a jq mh w (s_X11_append_w1 x9) (s_X11_append_w2 v1 x9 ft) z o zc oc x2 ad fl sd (vp_updL jo 0 (s_X11_append_r x9).toInt64) X fR fr f g fd fk fz o2) ++ ((kW y ad zk ok 14) ++ (kW y sd zs os 2))) := hD
    refine lv_istore (lv' := [(5, .int 0), (0, .ref b), (1, .ref h), (2, .ref mh), (3, .ref jq), (4, .int iv)]) hx hb dL_law_171 hl (by decide) rfl (fun ls hl => ?_)
    refine lv_aload_n hx hb dL_law_173 rfl (lv_at hl 3 rfl) ?_
    refine lv_aload_n hx hb dL_law_174 rfl (lv_at hl 1 rfl) ?_
    refine lv_iload hx hb dL_law_175 (lv_at hl 5 rfl) ?_
    refine lv_iconst (v := 1) hx hb dL_law_177 (by decide) ?_
    refine lv_iadd hx hb dL_law_178 ?_
    refine va_sld hx hb hX hbl hbA hS hin1 dL_law_179 ?_
    refine rw_i (x' := v1) hv1 ?_
    have hpm := qm0 (T := (kW y ad zk ok 14) ++ (kW y sd zs os 2)) (pr_1 y h a jq mh w (s_X11_append_w1 x9) (s_X11_append_w2 v1 x9 ft) z o zc oc x2 ad fl sd (vp_updL jo 0 (s_X11_append_r x9).toInt64) X fR fr f g fd fk fz o2)
    have hPc : va_P G vwCl [kX12 mh (w 0) (w 1) (w 2) (w 3) (w 4) (w 5) (w 6) (w 7) X, aI y (w 0) 60 fR] H := P_r (P_perm hpm hP)
    have hDc : va_D (fun q : Nat => s.heap.size ≤ q) [kX12 mh (w 0) (w 1) (w 2) (w 3) (w 4) (w 5) (w 6) (w 7) X, aI y (w 0) 60 fR] := D_r (D_perm hpm hD)
    refine cl_MP (fun _ : Unit => ((lwE y h a jq mh w (s_X11_append_w1 x9) (s_X11_append_w2 v1 x9 ft) z o zc oc x2 ad fl sd (vp_updL jo 0 (s_X11_append_r x9).toInt64) (s_X12_append_w0 v1 X) (s_X12_append_w1 v1 X fR) fr f g fd fk fz o2) ++ ((kW y ad zk ok 14) ++ (kW y sd zs os 2)))) hpm (fun _ => qm0 (T := (kW y ad zk ok 14) ++ (kW y sd zs os 2)) (pr_1 y h a jq mh w (s_X11_append_w1 x9) (s_X11_append_w2 v1 x9 ft) z o zc oc x2 ad fl sd (vp_updL jo 0 (s_X11_append_r x9).toInt64) (s_X12_append_w0 v1 X) (s_X12_append_w1 v1 X fR) fr f g fd fk fz o2)) (va_runV (As := [.int v1]) (rest := []) ⟨hx, hb, hml, hown, hts⟩ (c_X12_append l G y mh v1 (w 0) (w 1) (w 2) (w 3) (w 4) (w 5) (w 6) (w 7) X fR H.size (wf_t hW)) (cwV 1 hts gL_law_X12_append rfl rfl rfl (by decide +kernel) ⟨Nat.le_of_ble_eq_true rfl, Nat.le_of_ble_eq_true rfl⟩) (PH_V hPc hK4 hN hDc (ci := 10) (q0 := 0) rfl rfl) rfl rfl hl.1 rfl (lv_room (Nat.le_of_ble_eq_true rfl)) dL_law_180 ⟨hkc, hks⟩) hP hD hS hA (fun _ H locs hP hD hS => ?_)
    have hP : va_P G vwCl ((lwE y h a jq mh w (s_X11_append_w1 x9) (s_X11_append_w2 v1 x9 ft) z o zc oc x2 ad fl sd (vp_updL jo 0 (s_X11_append_r x9).toInt64) (s_X12_append_w0 v1 X) (s_X12_append_w1 v1 X fR) fr f g fd fk fz o2) ++ ((kW y ad zk ok 14) ++ (kW y sd zs os 2))) H := hP
    have hD : va_D (fun q : Nat => s.heap.size ≤ q) ((lwE y h a jq mh w (s_X11_append_w1 x9) (s_X11_append_w2 v1 x9 ft) z o zc oc x2 ad fl sd (vp_updL jo 0 (s_X11_append_r x9).toInt64) (s_X12_append_w0 v1 X) (s_X12_append_w1 v1 X fR) fr f g fd fk fz o2) ++ ((kW y ad zk ok 14) ++ (kW y sd zs os 2))) := hD
    obtain ⟨e1, e2, hW2⟩ := ly_append hW hN9 hk
    have hT : s_X12_thrown_r (s_X12_append_w0 v1 X) = 0 := (thr_eq _).trans e2
    refine lv_istore (lv' := [(6, .int (s_X12_append_r v1 X)), (5, .int 0), (0, .ref b), (1, .ref h), (2, .ref mh), (3, .ref jq), (4, .int iv)]) hx hb dL_law_183 hl (by decide) rfl (fun ls hl => ?_)
    refine lv_aload_n hx hb dL_law_185 rfl (lv_at hl 4 rfl) ?_
    refine cl_Ri (va_runV (As := []) (rest := []) ⟨hx, hb, hml, hown, hts⟩ (c_X12_thrown l G y mh (w 0) (w 1) (w 2) (w 3) (w 4) (w 5) (w 6) (w 7) (s_X12_append_w0 v1 X)) (cwV 0 hts gL_law_X12_thrown rfl rfl rfl (by decide +kernel) ⟨Nat.le_of_ble_eq_true rfl, Nat.le_of_ble_eq_true rfl⟩) (PR_V (sel_P [50] (rfl : sel _ [50] = [kX12 mh (w 0) (w 1) (w 2) (w 3) (w 4) (w 5) (w 6) (w 7) (s_X12_append_w0 v1 X)]) hP) hK4 hN (ci := 10) (q0 := 0) rfl rfl) rfl rfl hl.1 rfl (lv_room (Nat.le_of_ble_eq_true rfl)) dL_law_186 ⟨hkc, hks⟩) ?_
    refine lv_iload hx hb dL_law_189 (lv_at hl 1 rfl) ?_
    refine lv_icmp_eq (tgt := 196) hx hb dL_law_191 (by decide) (fun _ => ?_) (fun c9 => absurd hT c9)
    refine lv_iload hx hb dL_law_196 (lv_at hl 1 rfl) ?_
    refine lv_if_ne (tgt := 213) hx hb dL_law_198 (by decide) (fun c9 => absurd rfl c9) (fun _ => ?_)
    refine lv_aload_n hx hb dL_law_201 rfl (lv_at hl 5 rfl) ?_
    refine lv_iconst (v := 0) hx hb dL_law_202 (by decide) ?_
    refine al_o hx hb hK 59 hP rfl dL_law_203 ?_
    refine lv_iload hx hb dL_law_204 (lv_at hl 0 rfl) ?_
    refine lv_i2l (v := (s_X12_append_r v1 X).toInt64) hx hb dL_law_206 rfl ?_
    refine W.lcmp hx hb dL_law_207 ?_
    refine lv_if_eq (tgt := 213) hx hb dL_law_208 (by decide) (fun _ => ?_) (fun c9 => absurd (lg_o e1) c9)
    refine lv_goto (tgt := 1652) hx hb dL_law_213 (by decide) ?_
    refine W.widen (k := kc + 1) (n := ks + 6) (by omega) (by omega) ?_
    exact KN H locs ls ⟨(s_X11_append_w1 x9), (s_X11_append_w2 v1 x9 ft), z, o, zc, oc, x2, ad, zk, ok, fl, sd, zs, os, (vp_updL jo 0 (s_X11_append_r x9).toInt64), (s_X12_append_w0 v1 X), (s_X12_append_w1 v1 X fR), fr, f, g, fd, fk, fz, o2, hP, hD, hW2⟩ hS (lv_sub hl [2, 3, 4, 5, 6] rfl)
  · refine lv_aload_n hx hb dL_law_160 rfl (lv_at hl 1 rfl) ?_
    refine lv_aload_n hx hb dL_law_161 rfl (lv_at hl 0 rfl) ?_
    refine lv_iload hx hb dL_law_162 (lv_at hl 4 rfl) ?_
    refine lv_iconst (v := 1) hx hb dL_law_164 (by decide) ?_
    refine lv_iadd hx hb dL_law_165 ?_
    refine va_sld hx hb hX hbl hbA hS hin1 dL_law_166 ?_
    refine rw_i (x' := v1) hv1 ?_
    refine lv_aload_n hx hb dL_law_167 rfl (lv_at hl 3 rfl) ?_
    have hpm := qm0 (T := (kW y ad zk ok 14) ++ (kW y sd zs os 2)) (pr_0 y h a jq mh w x9 ft z o zc oc x2 ad fl sd jo X fR fr f g fd fk fz o2)
    have hPc : va_P G vwCl ([aJ y jq 1 jo] ++ [kX11 h (a 0) (a 2) (a 16) (a 30) (a 44) (a 46) Z0, kX9 (a 0) (a 1) x9, aC y (a 1) 60 ft]) H := P_r (P_perm hpm hP)
    have hDc : va_D (fun q : Nat => s.heap.size ≤ q) ([aJ y jq 1 jo] ++ [kX11 h (a 0) (a 2) (a 16) (a 30) (a 44) (a 46) Z0, kX9 (a 0) (a 1) x9, aC y (a 1) 60 ft]) := D_r (D_perm hpm hD)
    have hFc : ∀ q, va_A ([aJ y jq 1 jo] ++ [kX11 h (a 0) (a 2) (a 16) (a 30) (a 44) (a 46) Z0, kX9 (a 0) (a 1) x9, aC y (a 1) 60 ft]) H.size q → s.heap.size ≤ q := F_r (D_perm hpm hD) hS hA
    refine cl_LP (fun _ : Unit => ((lwE y h a jq mh w x9 ft z o zc oc x2 ad fl sd jo X fR fr f g fd fk fz o2) ++ ((kW y ad zk ok 14) ++ (kW y sd zs os 2)))) hpm (fun _ => qm0 (T := (kW y ad zk ok 14) ++ (kW y sd zs os 2)) (pr_0 y h a jq mh w x9 ft z o zc oc x2 ad fl sd jo X fR fr f g fd fk fz o2)) (vx_runSX (As := [.ref h, .int v1, .ref jq]) (rest := []) ⟨hx, hb, hml, hown, hts⟩ (c_L_append_n l G y h v1 (a 0) (a 2) (a 16) (a 30) (a 44) (a 46) (a 1) x9 ft jq jo H.size hk hfl) (vx_cwSW 3 hts gL_law_L_append rfl rfl rfl (by decide +kernel) ⟨Nat.le_of_ble_eq_true rfl, Nat.le_of_ble_eq_true rfl⟩) (PHL_S hPc hK hN hDc hTY hS hFc) rfl rfl hl.1 rfl (lv_room (Nat.le_of_ble_eq_true rfl)) dL_law_168 ⟨hkc, hks⟩) hP hD hS hA (fun _ H locs hP hD hS => ?_)
    have hP : va_P G vwCl ((lwE y h a jq mh w x9 ft z o zc oc x2 ad fl sd jo X fR fr f g fd fk fz o2) ++ ((kW y ad zk ok 14) ++ (kW y sd zs os 2))) H := hP
    have hD : va_D (fun q : Nat => s.heap.size ≤ q) ((lwE y h a jq mh w x9 ft z o zc oc x2 ad fl sd jo X fR fr f g fd fk fz o2) ++ ((kW y ad zk ok 14) ++ (kW y sd zs os 2))) := hD
    refine lv_istore (lv' := [(5, .int (cdK 1 (s_X11_append_k v1 x9))), (0, .ref b), (1, .ref h), (2, .ref mh), (3, .ref jq), (4, .int iv)]) hx hb dL_law_171 hl (by decide) rfl (fun ls hl => ?_)
    refine lv_aload_n hx hb dL_law_173 rfl (lv_at hl 3 rfl) ?_
    refine lv_aload_n hx hb dL_law_174 rfl (lv_at hl 1 rfl) ?_
    refine lv_iload hx hb dL_law_175 (lv_at hl 5 rfl) ?_
    refine lv_iconst (v := 1) hx hb dL_law_177 (by decide) ?_
    refine lv_iadd hx hb dL_law_178 ?_
    refine va_sld hx hb hX hbl hbA hS hin1 dL_law_179 ?_
    refine rw_i (x' := v1) hv1 ?_
    have hpm := qm0 (T := (kW y ad zk ok 14) ++ (kW y sd zs os 2)) (pr_1 y h a jq mh w x9 ft z o zc oc x2 ad fl sd jo X fR fr f g fd fk fz o2)
    have hPc : va_P G vwCl [kX12 mh (w 0) (w 1) (w 2) (w 3) (w 4) (w 5) (w 6) (w 7) X, aI y (w 0) 60 fR] H := P_r (P_perm hpm hP)
    have hDc : va_D (fun q : Nat => s.heap.size ≤ q) [kX12 mh (w 0) (w 1) (w 2) (w 3) (w 4) (w 5) (w 6) (w 7) X, aI y (w 0) 60 fR] := D_r (D_perm hpm hD)
    refine cl_MP (fun _ : Unit => ((lwE y h a jq mh w x9 ft z o zc oc x2 ad fl sd jo (s_X12_append_w0 v1 X) (s_X12_append_w1 v1 X fR) fr f g fd fk fz o2) ++ ((kW y ad zk ok 14) ++ (kW y sd zs os 2)))) hpm (fun _ => qm0 (T := (kW y ad zk ok 14) ++ (kW y sd zs os 2)) (pr_1 y h a jq mh w x9 ft z o zc oc x2 ad fl sd jo (s_X12_append_w0 v1 X) (s_X12_append_w1 v1 X fR) fr f g fd fk fz o2)) (va_runV (As := [.int v1]) (rest := []) ⟨hx, hb, hml, hown, hts⟩ (c_X12_append l G y mh v1 (w 0) (w 1) (w 2) (w 3) (w 4) (w 5) (w 6) (w 7) X fR H.size (wf_t hW)) (cwV 1 hts gL_law_X12_append rfl rfl rfl (by decide +kernel) ⟨Nat.le_of_ble_eq_true rfl, Nat.le_of_ble_eq_true rfl⟩) (PH_V hPc hK4 hN hDc (ci := 10) (q0 := 0) rfl rfl) rfl rfl hl.1 rfl (lv_room (Nat.le_of_ble_eq_true rfl)) dL_law_180 ⟨hkc, hks⟩) hP hD hS hA (fun _ H locs hP hD hS => ?_)
    have hP : va_P G vwCl ((lwE y h a jq mh w x9 ft z o zc oc x2 ad fl sd jo (s_X12_append_w0 v1 X) (s_X12_append_w1 v1 X fR) fr f g fd fk fz o2) ++ ((kW y ad zk ok 14) ++ (kW y sd zs os 2))) H := hP
    have hD : va_D (fun q : Nat => s.heap.size ≤ q) ((lwE y h a jq mh w x9 ft z o zc oc x2 ad fl sd jo (s_X12_append_w0 v1 X) (s_X12_append_w1 v1 X fR) fr f g fd fk fz o2) ++ ((kW y ad zk ok 14) ++ (kW y sd zs os 2))) := hD
    obtain ⟨e2, hW2⟩ := ln_append hW hk
    have hT : s_X12_thrown_r (s_X12_append_w0 v1 X) = cdK 1 (s_X11_append_k v1 x9) := (thr_eq _).trans e2
    refine lv_istore (lv' := [(6, .int (s_X12_append_r v1 X)), (5, .int (cdK 1 (s_X11_append_k v1 x9))), (0, .ref b), (1, .ref h), (2, .ref mh), (3, .ref jq), (4, .int iv)]) hx hb dL_law_183 hl (by decide) rfl (fun ls hl => ?_)
    refine lv_aload_n hx hb dL_law_185 rfl (lv_at hl 4 rfl) ?_
    refine cl_Ri (va_runV (As := []) (rest := []) ⟨hx, hb, hml, hown, hts⟩ (c_X12_thrown l G y mh (w 0) (w 1) (w 2) (w 3) (w 4) (w 5) (w 6) (w 7) (s_X12_append_w0 v1 X)) (cwV 0 hts gL_law_X12_thrown rfl rfl rfl (by decide +kernel) ⟨Nat.le_of_ble_eq_true rfl, Nat.le_of_ble_eq_true rfl⟩) (PR_V (sel_P [50] (rfl : sel _ [50] = [kX12 mh (w 0) (w 1) (w 2) (w 3) (w 4) (w 5) (w 6) (w 7) (s_X12_append_w0 v1 X)]) hP) hK4 hN (ci := 10) (q0 := 0) rfl rfl) rfl rfl hl.1 rfl (lv_room (Nat.le_of_ble_eq_true rfl)) dL_law_186 ⟨hkc, hks⟩) ?_
    refine lv_iload hx hb dL_law_189 (lv_at hl 1 rfl) ?_
    refine lv_icmp_eq (tgt := 196) hx hb dL_law_191 (by decide) (fun _ => ?_) (fun c9 => absurd hT c9)
    refine lv_iload hx hb dL_law_196 (lv_at hl 1 rfl) ?_
    refine lv_if_ne (tgt := 213) hx hb dL_law_198 (by decide) (fun _ => ?_) (fun c9 => absurd c9 (cd_n hk))
    refine lv_goto (tgt := 1652) hx hb dL_law_213 (by decide) ?_
    refine W.widen (k := kc + 1) (n := ks + 6) (by omega) (by omega) ?_
    exact KN H locs ls ⟨x9, ft, z, o, zc, oc, x2, ad, zk, ok, fl, sd, zs, os, jo, (s_X12_append_w0 v1 X), (s_X12_append_w1 v1 X fR), fr, f, g, fd, fk, fz, o2, hP, hD, hW2⟩ hS (lv_sub hl [2, 3, 4, 5, 6] rfl)
set_option maxHeartbeats 2000000 in
set_option maxRecDepth 100000 in
theorem case_1 {p : Program} {l : Launch} {e : Env} {s : State} {m : MethodId} {below : List Frame} {meth : Method} {c : Code} {b L : Nat} {xs : Nat → Int32} {G : va_G} {y : Nat → ClassId} {h : Nat} {a : Nat → Nat} {jq mh : Nat} {w : Nat → Nat} {iv v1 v2 v3 : Int32} {N kc ks : Nat} {H : Heap} {locs : List Loc} {ls : Array Slot} (hfl : l.stackTraces = false) (C0 : lw_At p s m meth c b L xs) (hK : va_K G vwCl (tyJ y) s) (hN : NN s) (hTY : TY (fun q : Nat => s.heap.size ≤ q) s) (hin1 : vp_in (iv + 1) L) (hin2 : vp_in (iv + 2) L) (hin3 : vp_in (iv + 3) L) (hv1 : xs (iv + 1).toNatClampNeg = v1) (hv2 : xs (iv + 2).toNatClampNeg = v2) (hv3 : xs (iv + 3).toNatClampNeg = v3) (hkc : kc + 1 ≤ room_1.cells) (hks : ks + 6 ≤ room_1.slots) (hN9 : N + 12800 < 2147483648) (hI : LI G y h a jq mh w (fun q : Nat => s.heap.size ≤ q) N H) (hS : va_S (fun q : Nat => s.heap.size ≤ q) s.heap H locs) (hl : lv_has ls 7 [(0, .ref b), (1, .ref h), (2, .ref mh), (3, .ref jq), (4, .int iv)]) (KN : ∀ (H : Heap) (locs : List Loc) (ls : Array Slot), LI G y h a jq mh w (fun q : Nat => s.heap.size ≤ q) (N + 200) H → va_S (fun q : Nat => s.heap.size ≤ q) s.heap H locs → lv_has ls 7 [(0, .ref b), (1, .ref h), (2, .ref mh), (3, .ref jq), (4, .int iv)] → W p l e room_1 s m #[Value.ref b] below meth c H locs (kc + 1) (ks + 6) (lw_Z below #[Value.ref b] s) (F0 m 1652 ls [])) : W p l e room_1 s m #[Value.ref b] below meth c H locs kc ks (lw_Z below #[Value.ref b] s) (F0 m 216 ls []) := by
  obtain ⟨hx, hb, hr, hml, hown, hts, hX, hbl, hlocks, hgv⟩ := C0
  have hts := fun w hh => hts w (wsL_law_in w hh)
  have hbA : ¬ (fun q : Nat => s.heap.size ≤ q) b := Nat.not_le.mpr hbl
  have hA : ∀ q : Nat, s.heap.size ≤ q → (fun q : Nat => s.heap.size ≤ q) q := fun _ h => h
  have hK4 : va_K G vwCl (tyG y) s := hK.sub (tys' := tyG y) [0, 1, 2, 3] rfl
  have hown : s.vm.findClass RL = some m.cls := hown
  have hkc0 : kc ≤ room_1.cells := Nat.le_of_succ_le hkc
  have hks0 : ks ≤ room_1.slots := Nat.le_trans (Nat.le_add_right ks 6) hks
  obtain ⟨x9, ft, z, o, zc, oc, x2, ad, zk, ok, fl, sd, zs, os, jo, X, fR, fr, f, g, fd, fk, fz, o2, hP, hD, hW⟩ := hI
  refine lv_aload_n hx hb dL_law_216 rfl (lv_at hl 1 rfl) ?_
  have hpm := qm0 (T := (kW y ad zk ok 14) ++ (kW y sd zs os 2)) (pr_2 y h a jq mh w x9 ft z o zc oc x2 ad fl sd jo X fR fr f g fd fk fz o2)
  have hPc : va_P G vwCl [kX11 h (a 0) (a 2) (a 16) (a 30) (a 44) (a 46) Z0, kX9 (a 0) (a 1) x9] H := P_r (P_perm hpm hP)
  have hDc : va_D (fun q : Nat => s.heap.size ≤ q) [kX11 h (a 0) (a 2) (a 16) (a 30) (a 44) (a 46) Z0, kX9 (a 0) (a 1) x9] := D_r (D_perm hpm hD)
  refine cl_MP (fun _ : Unit => ((lwE y h a jq mh w (s_X11_clearText_w1 x9) ft z o zc oc x2 ad fl sd jo X fR fr f g fd fk fz o2) ++ ((kW y ad zk ok 14) ++ (kW y sd zs os 2)))) hpm (fun _ => qm0 (T := (kW y ad zk ok 14) ++ (kW y sd zs os 2)) (pr_2 y h a jq mh w (s_X11_clearText_w1 x9) ft z o zc oc x2 ad fl sd jo X fR fr f g fd fk fz o2)) (va_runV (As := []) (rest := []) ⟨hx, hb, hml, hown, hts⟩ (c_X11_clearText l G y h (a 0) (a 2) (a 16) (a 30) (a 44) (a 46) (a 1) x9 H.size) (cwV 0 hts gL_law_X11_clearText rfl rfl rfl (by decide +kernel) ⟨Nat.le_of_ble_eq_true rfl, Nat.le_of_ble_eq_true rfl⟩) (PH_V hPc hK4 hN hDc (ci := 9) (q0 := 0) rfl rfl) rfl rfl hl.1 rfl (lv_room (Nat.le_of_ble_eq_true rfl)) dL_law_217 ⟨hkc0, hks0⟩) hP hD hS hA (fun _ H locs hP hD hS => ?_)
  have hP : va_P G vwCl ((lwE y h a jq mh w (s_X11_clearText_w1 x9) ft z o zc oc x2 ad fl sd jo X fR fr f g fd fk fz o2) ++ ((kW y ad zk ok 14) ++ (kW y sd zs os 2))) H := hP
  have hD : va_D (fun q : Nat => s.heap.size ≤ q) ((lwE y h a jq mh w (s_X11_clearText_w1 x9) ft z o zc oc x2 ad fl sd jo X fR fr f g fd fk fz o2) ++ ((kW y ad zk ok 14) ++ (kW y sd zs os 2))) := hD
  refine lv_aload_n hx hb dL_law_220 rfl (lv_at hl 2 rfl) ?_
  have hpm := qm0 (T := (kW y ad zk ok 14) ++ (kW y sd zs os 2)) (pr_3 y h a jq mh w (s_X11_clearText_w1 x9) ft z o zc oc x2 ad fl sd jo X fR fr f g fd fk fz o2)
  have hPc : va_P G vwCl [kX12 mh (w 0) (w 1) (w 2) (w 3) (w 4) (w 5) (w 6) (w 7) X] H := P_r (P_perm hpm hP)
  have hDc : va_D (fun q : Nat => s.heap.size ≤ q) [kX12 mh (w 0) (w 1) (w 2) (w 3) (w 4) (w 5) (w 6) (w 7) X] := D_r (D_perm hpm hD)
  refine cl_MP (fun _ : Unit => ((lwE y h a jq mh w (s_X11_clearText_w1 x9) ft z o zc oc x2 ad fl sd jo (s_X12_clearText_w0 X) fR fr f g fd fk fz o2) ++ ((kW y ad zk ok 14) ++ (kW y sd zs os 2)))) hpm (fun _ => qm0 (T := (kW y ad zk ok 14) ++ (kW y sd zs os 2)) (pr_3 y h a jq mh w (s_X11_clearText_w1 x9) ft z o zc oc x2 ad fl sd jo (s_X12_clearText_w0 X) fR fr f g fd fk fz o2)) (va_runV (As := []) (rest := [.int (s_X11_clearText_r x9)]) ⟨hx, hb, hml, hown, hts⟩ (c_X12_clearText l G y mh (w 0) (w 1) (w 2) (w 3) (w 4) (w 5) (w 6) (w 7) X H.size) (cwV 0 hts gL_law_X12_clearText rfl rfl rfl (by decide +kernel) ⟨Nat.le_of_ble_eq_true rfl, Nat.le_of_ble_eq_true rfl⟩) (PH_V hPc hK4 hN hDc (ci := 10) (q0 := 0) rfl rfl) rfl rfl hl.1 rfl (lv_room (Nat.le_of_ble_eq_true rfl)) dL_law_221 ⟨hkc0, hks0⟩) hP hD hS hA (fun _ H locs hP hD hS => ?_)
  have hP : va_P G vwCl ((lwE y h a jq mh w (s_X11_clearText_w1 x9) ft z o zc oc x2 ad fl sd jo (s_X12_clearText_w0 X) fR fr f g fd fk fz o2) ++ ((kW y ad zk ok 14) ++ (kW y sd zs os 2))) H := hP
  have hD : va_D (fun q : Nat => s.heap.size ≤ q) ((lwE y h a jq mh w (s_X11_clearText_w1 x9) ft z o zc oc x2 ad fl sd jo (s_X12_clearText_w0 X) fR fr f g fd fk fz o2) ++ ((kW y ad zk ok 14) ++ (kW y sd zs os 2))) := hD
  obtain ⟨e1, -, hW2⟩ := clr_st hW
  refine lv_icmp_eq (tgt := 1652) hx hb dL_law_224 (by decide) (fun _ => ?_) (fun c9 => absurd e1 c9)
  refine W.widen (k := kc + 1) (n := ks + 6) (by omega) (by omega) ?_
  exact KN H locs ls ⟨(s_X11_clearText_w1 x9), ft, z, o, zc, oc, x2, ad, zk, ok, fl, sd, zs, os, jo, (s_X12_clearText_w0 X), fR, fr, f, g, fd, fk, fz, o2, hP, hD, (hW2.mono (Nat.le_add_right _ _))⟩ hS (lv_sub hl [0, 1, 2, 3, 4] rfl)
set_option maxHeartbeats 2000000 in
set_option maxRecDepth 100000 in
theorem case_2 {p : Program} {l : Launch} {e : Env} {s : State} {m : MethodId} {below : List Frame} {meth : Method} {c : Code} {b L : Nat} {xs : Nat → Int32} {G : va_G} {y : Nat → ClassId} {h : Nat} {a : Nat → Nat} {jq mh : Nat} {w : Nat → Nat} {iv v1 v2 v3 : Int32} {N kc ks : Nat} {H : Heap} {locs : List Loc} {ls : Array Slot} (hfl : l.stackTraces = false) (C0 : lw_At p s m meth c b L xs) (hK : va_K G vwCl (tyJ y) s) (hN : NN s) (hTY : TY (fun q : Nat => s.heap.size ≤ q) s) (hin1 : vp_in (iv + 1) L) (hin2 : vp_in (iv + 2) L) (hin3 : vp_in (iv + 3) L) (hv1 : xs (iv + 1).toNatClampNeg = v1) (hv2 : xs (iv + 2).toNatClampNeg = v2) (hv3 : xs (iv + 3).toNatClampNeg = v3) (hkc : kc + 1 ≤ room_1.cells) (hks : ks + 6 ≤ room_1.slots) (hN9 : N + 12800 < 2147483648) (hI : LI G y h a jq mh w (fun q : Nat => s.heap.size ≤ q) N H) (hS : va_S (fun q : Nat => s.heap.size ≤ q) s.heap H locs) (hl : lv_has ls 7 [(0, .ref b), (1, .ref h), (2, .ref mh), (3, .ref jq), (4, .int iv)]) (KN : ∀ (H : Heap) (locs : List Loc) (ls : Array Slot), LI G y h a jq mh w (fun q : Nat => s.heap.size ≤ q) (N + 200) H → va_S (fun q : Nat => s.heap.size ≤ q) s.heap H locs → lv_has ls 7 [(0, .ref b), (1, .ref h), (2, .ref mh), (3, .ref jq), (4, .int iv)] → W p l e room_1 s m #[Value.ref b] below meth c H locs (kc + 1) (ks + 6) (lw_Z below #[Value.ref b] s) (F0 m 1652 ls [])) : W p l e room_1 s m #[Value.ref b] below meth c H locs kc ks (lw_Z below #[Value.ref b] s) (F0 m 229 ls []) := by
  obtain ⟨hx, hb, hr, hml, hown, hts, hX, hbl, hlocks, hgv⟩ := C0
  have hts := fun w hh => hts w (wsL_law_in w hh)
  have hbA : ¬ (fun q : Nat => s.heap.size ≤ q) b := Nat.not_le.mpr hbl
  have hA : ∀ q : Nat, s.heap.size ≤ q → (fun q : Nat => s.heap.size ≤ q) q := fun _ h => h
  have hK4 : va_K G vwCl (tyG y) s := hK.sub (tys' := tyG y) [0, 1, 2, 3] rfl
  have hown : s.vm.findClass RL = some m.cls := hown
  have hkc0 : kc ≤ room_1.cells := Nat.le_of_succ_le hkc
  have hks0 : ks ≤ room_1.slots := Nat.le_trans (Nat.le_add_right ks 6) hks
  obtain ⟨x9, ft, z, o, zc, oc, x2, ad, zk, ok, fl, sd, zs, os, jo, X, fR, fr, f, g, fd, fk, fz, o2, hP, hD, hW⟩ := hI
  refine lv_aload_n hx hb dL_law_229 rfl (lv_at hl 1 rfl) ?_
  have hpm := qm0 (T := (kW y ad zk ok 14) ++ (kW y sd zs os 2)) (pr_4 y h a jq mh w x9 ft z o zc oc x2 ad fl sd jo X fR fr f g fd fk fz o2)
  have hPc : va_P G vwCl [kX11 h (a 0) (a 2) (a 16) (a 30) (a 44) (a 46) Z0, kX9 (a 0) (a 1) x9, aC y (a 1) 60 ft] H := P_r (P_perm hpm hP)
  have hDc : va_D (fun q : Nat => s.heap.size ≤ q) [kX11 h (a 0) (a 2) (a 16) (a 30) (a 44) (a 46) Z0, kX9 (a 0) (a 1) x9, aC y (a 1) 60 ft] := D_r (D_perm hpm hD)
  refine cl_MP (fun _ : Unit => ((lwE y h a jq mh w (s_X11_errorPosition_w1 x9 ft) ft z o zc oc x2 ad fl sd jo X fR fr f g fd fk fz o2) ++ ((kW y ad zk ok 14) ++ (kW y sd zs os 2)))) hpm (fun _ => qm0 (T := (kW y ad zk ok 14) ++ (kW y sd zs os 2)) (pr_4 y h a jq mh w (s_X11_errorPosition_w1 x9 ft) ft z o zc oc x2 ad fl sd jo X fR fr f g fd fk fz o2)) (va_runV (As := []) (rest := []) ⟨hx, hb, hml, hown, hts⟩ (c_X11_errorPosition l G y h (a 0) (a 2) (a 16) (a 30) (a 44) (a 46) (a 1) x9 ft H.size) (cwV 0 hts gL_law_X11_errorPosition rfl rfl rfl (by decide +kernel) ⟨Nat.le_of_ble_eq_true rfl, Nat.le_of_ble_eq_true rfl⟩) (PH_V hPc hK4 hN hDc (ci := 9) (q0 := 0) rfl rfl) rfl rfl hl.1 rfl (lv_room (Nat.le_of_ble_eq_true rfl)) dL_law_230 ⟨hkc0, hks0⟩) hP hD hS hA (fun _ H locs hP hD hS => ?_)
  have hP : va_P G vwCl ((lwE y h a jq mh w (s_X11_errorPosition_w1 x9 ft) ft z o zc oc x2 ad fl sd jo X fR fr f g fd fk fz o2) ++ ((kW y ad zk ok 14) ++ (kW y sd zs os 2))) H := hP
  have hD : va_D (fun q : Nat => s.heap.size ≤ q) ((lwE y h a jq mh w (s_X11_errorPosition_w1 x9 ft) ft z o zc oc x2 ad fl sd jo X fR fr f g fd fk fz o2) ++ ((kW y ad zk ok 14) ++ (kW y sd zs os 2))) := hD
  refine lv_aload_n hx hb dL_law_233 rfl (lv_at hl 2 rfl) ?_
  have hpm := qm0 (T := (kW y ad zk ok 14) ++ (kW y sd zs os 2)) (pr_5 y h a jq mh w (s_X11_errorPosition_w1 x9 ft) ft z o zc oc x2 ad fl sd jo X fR fr f g fd fk fz o2)
  have hPc : va_P G vwCl [kX12 mh (w 0) (w 1) (w 2) (w 3) (w 4) (w 5) (w 6) (w 7) X, aI y (w 0) 60 fR, aI y (w 1) 154 fr] H := P_r (P_perm hpm hP)
  have hDc : va_D (fun q : Nat => s.heap.size ≤ q) [kX12 mh (w 0) (w 1) (w 2) (w 3) (w 4) (w 5) (w 6) (w 7) X, aI y (w 0) 60 fR, aI y (w 1) 154 fr] := D_r (D_perm hpm hD)
  refine cl_MP (fun _ : Unit => ((lwE y h a jq mh w (s_X11_errorPosition_w1 x9 ft) ft z o zc oc x2 ad fl sd jo (s_X12_errorPosition_w0 X fR fr) fR (s_X12_errorPosition_w2 X fR fr) f g fd fk fz o2) ++ ((kW y ad zk ok 14) ++ (kW y sd zs os 2)))) hpm (fun _ => qm0 (T := (kW y ad zk ok 14) ++ (kW y sd zs os 2)) (pr_5 y h a jq mh w (s_X11_errorPosition_w1 x9 ft) ft z o zc oc x2 ad fl sd jo (s_X12_errorPosition_w0 X fR fr) fR (s_X12_errorPosition_w2 X fR fr) f g fd fk fz o2)) (va_runV (As := []) (rest := [.int (s_X11_errorPosition_r x9 ft)]) ⟨hx, hb, hml, hown, hts⟩ (c_X12_errorPosition l G y mh (w 0) (w 1) (w 2) (w 3) (w 4) (w 5) (w 6) (w 7) X fR fr H.size (wf_t hW)) (cwV 0 hts gL_law_X12_errorPosition rfl rfl rfl (by decide +kernel) ⟨Nat.le_of_ble_eq_true rfl, Nat.le_of_ble_eq_true rfl⟩) (PH_V hPc hK4 hN hDc (ci := 10) (q0 := 0) rfl rfl) rfl rfl hl.1 rfl (lv_room (Nat.le_of_ble_eq_true rfl)) dL_law_234 ⟨hkc0, hks0⟩) hP hD hS hA (fun _ H locs hP hD hS => ?_)
  have hP : va_P G vwCl ((lwE y h a jq mh w (s_X11_errorPosition_w1 x9 ft) ft z o zc oc x2 ad fl sd jo (s_X12_errorPosition_w0 X fR fr) fR (s_X12_errorPosition_w2 X fR fr) f g fd fk fz o2) ++ ((kW y ad zk ok 14) ++ (kW y sd zs os 2))) H := hP
  have hD : va_D (fun q : Nat => s.heap.size ≤ q) ((lwE y h a jq mh w (s_X11_errorPosition_w1 x9 ft) ft z o zc oc x2 ad fl sd jo (s_X12_errorPosition_w0 X fR fr) fR (s_X12_errorPosition_w2 X fR fr) f g fd fk fz o2) ++ ((kW y ad zk ok 14) ++ (kW y sd zs os 2))) := hD
  obtain ⟨e1, -, hW2⟩ := errp_st (fr := fr) hW
  refine lv_icmp_eq (tgt := 1652) hx hb dL_law_237 (by decide) (fun _ => ?_) (fun c9 => absurd e1 c9)
  refine W.widen (k := kc + 1) (n := ks + 6) (by omega) (by omega) ?_
  exact KN H locs ls ⟨(s_X11_errorPosition_w1 x9 ft), ft, z, o, zc, oc, x2, ad, zk, ok, fl, sd, zs, os, jo, (s_X12_errorPosition_w0 X fR fr), fR, (s_X12_errorPosition_w2 X fR fr), f, g, fd, fk, fz, o2, hP, hD, (hW2.mono (Nat.le_add_right _ _))⟩ hS (lv_sub hl [0, 1, 2, 3, 4] rfl)
set_option maxHeartbeats 2000000 in
set_option maxRecDepth 100000 in
theorem case_3 {p : Program} {l : Launch} {e : Env} {s : State} {m : MethodId} {below : List Frame} {meth : Method} {c : Code} {b L : Nat} {xs : Nat → Int32} {G : va_G} {y : Nat → ClassId} {h : Nat} {a : Nat → Nat} {jq mh : Nat} {w : Nat → Nat} {iv v1 v2 v3 : Int32} {N kc ks : Nat} {H : Heap} {locs : List Loc} {ls : Array Slot} (hfl : l.stackTraces = false) (C0 : lw_At p s m meth c b L xs) (hK : va_K G vwCl (tyJ y) s) (hN : NN s) (hTY : TY (fun q : Nat => s.heap.size ≤ q) s) (hin1 : vp_in (iv + 1) L) (hin2 : vp_in (iv + 2) L) (hin3 : vp_in (iv + 3) L) (hv1 : xs (iv + 1).toNatClampNeg = v1) (hv2 : xs (iv + 2).toNatClampNeg = v2) (hv3 : xs (iv + 3).toNatClampNeg = v3) (hkc : kc + 1 ≤ room_1.cells) (hks : ks + 6 ≤ room_1.slots) (hN9 : N + 12800 < 2147483648) (hI : LI G y h a jq mh w (fun q : Nat => s.heap.size ≤ q) N H) (hS : va_S (fun q : Nat => s.heap.size ≤ q) s.heap H locs) (hl : lv_has ls 7 [(0, .ref b), (1, .ref h), (2, .ref mh), (3, .ref jq), (4, .int iv)]) (KN : ∀ (H : Heap) (locs : List Loc) (ls : Array Slot), LI G y h a jq mh w (fun q : Nat => s.heap.size ≤ q) (N + 200) H → va_S (fun q : Nat => s.heap.size ≤ q) s.heap H locs → lv_has ls 7 [(0, .ref b), (1, .ref h), (2, .ref mh), (3, .ref jq), (4, .int iv)] → W p l e room_1 s m #[Value.ref b] below meth c H locs (kc + 1) (ks + 6) (lw_Z below #[Value.ref b] s) (F0 m 1652 ls [])) : W p l e room_1 s m #[Value.ref b] below meth c H locs kc ks (lw_Z below #[Value.ref b] s) (F0 m 242 ls []) := by
  obtain ⟨hx, hb, hr, hml, hown, hts, hX, hbl, hlocks, hgv⟩ := C0
  have hts := fun w hh => hts w (wsL_law_in w hh)
  have hbA : ¬ (fun q : Nat => s.heap.size ≤ q) b := Nat.not_le.mpr hbl
  have hA : ∀ q : Nat, s.heap.size ≤ q → (fun q : Nat => s.heap.size ≤ q) q := fun _ h => h
  have hK4 : va_K G vwCl (tyG y) s := hK.sub (tys' := tyG y) [0, 1, 2, 3] rfl
  have hown : s.vm.findClass RL = some m.cls := hown
  have hkc0 : kc ≤ room_1.cells := Nat.le_of_succ_le hkc
  have hks0 : ks ≤ room_1.slots := Nat.le_trans (Nat.le_add_right ks 6) hks
  obtain ⟨x9, ft, z, o, zc, oc, x2, ad, zk, ok, fl, sd, zs, os, jo, X, fR, fr, f, g, fd, fk, fz, o2, hP, hD, hW⟩ := hI
  by_cases hk : (s_X11_load_k x9 ft) = 0
  · refine lv_aload_n hx hb dL_law_242 rfl (lv_at hl 1 rfl) ?_
    refine lv_aload_n hx hb dL_law_243 rfl (lv_at hl 3 rfl) ?_
    have hpm := qm0 (T := (kW y ad zk ok 14) ++ (kW y sd zs os 2)) (pr_6 y h a jq mh w x9 ft z o zc oc x2 ad fl sd jo X fR fr f g fd fk fz o2)
    have hPc : va_P G vwCl ([aJ y jq 1 jo] ++ [kX11 h (a 0) (a 2) (a 16) (a 30) (a 44) (a 46) Z0, kX9 (a 0) (a 1) x9, aC y (a 1) 60 ft, kX7 (a 2) (a 3) (a 5) (a 6) (a 12) (a 14) (zI 0), kX3 (a 3) (a 4) (zI 1), aI y (a 4) 10 (zI 2), kX1 (a 5) (zI 3), kX8 (a 6) (a 7) (a 8) (a 9) (a 10) (a 11) (zI 4), aI y (a 7) 20 (zI 5), aI y (a 8) 20 (zI 6), aI y (a 9) 20 (zI 7), aI y (a 10) 20 (zI 8), aI y (a 11) 20 Z0, kX10 (a 12) (a 13) (zI 9), aI y (a 13) 32 (zI 10), kX0 (a 14) (a 15) (zI 11), aI y (a 15) 3 (zI 12), kX7 (a 16) (a 17) (a 19) (a 20) (a 26) (a 28) (z 0), kX3 (a 17) (a 18) (z 1), aI y (a 18) 10 (z 2), kX1 (a 19) (z 3), kX8 (a 20) (a 21) (a 22) (a 23) (a 24) (a 25) (z 4), aI y (a 21) 20 (z 5), aI y (a 22) 20 (z 6), aI y (a 23) 20 (z 7), aI y (a 24) 20 (z 8), aI y (a 25) 20 o, kX10 (a 26) (a 27) (z 9), aI y (a 27) 32 (z 10), kX0 (a 28) (a 29) (z 11), aI y (a 29) 3 (z 12), kX2 (a 44) (a 45) x2, kX6 (a 46) (a 47) (a 48) Z0, aZ y (a 48) 2 fl]) H := P_r (P_perm hpm hP)
    have hDc : va_D (fun q : Nat => s.heap.size ≤ q) ([aJ y jq 1 jo] ++ [kX11 h (a 0) (a 2) (a 16) (a 30) (a 44) (a 46) Z0, kX9 (a 0) (a 1) x9, aC y (a 1) 60 ft, kX7 (a 2) (a 3) (a 5) (a 6) (a 12) (a 14) (zI 0), kX3 (a 3) (a 4) (zI 1), aI y (a 4) 10 (zI 2), kX1 (a 5) (zI 3), kX8 (a 6) (a 7) (a 8) (a 9) (a 10) (a 11) (zI 4), aI y (a 7) 20 (zI 5), aI y (a 8) 20 (zI 6), aI y (a 9) 20 (zI 7), aI y (a 10) 20 (zI 8), aI y (a 11) 20 Z0, kX10 (a 12) (a 13) (zI 9), aI y (a 13) 32 (zI 10), kX0 (a 14) (a 15) (zI 11), aI y (a 15) 3 (zI 12), kX7 (a 16) (a 17) (a 19) (a 20) (a 26) (a 28) (z 0), kX3 (a 17) (a 18) (z 1), aI y (a 18) 10 (z 2), kX1 (a 19) (z 3), kX8 (a 20) (a 21) (a 22) (a 23) (a 24) (a 25) (z 4), aI y (a 21) 20 (z 5), aI y (a 22) 20 (z 6), aI y (a 23) 20 (z 7), aI y (a 24) 20 (z 8), aI y (a 25) 20 o, kX10 (a 26) (a 27) (z 9), aI y (a 27) 32 (z 10), kX0 (a 28) (a 29) (z 11), aI y (a 29) 3 (z 12), kX2 (a 44) (a 45) x2, kX6 (a 46) (a 47) (a 48) Z0, aZ y (a 48) 2 fl]) := D_r (D_perm hpm hD)
    have hFc : ∀ q, va_A ([aJ y jq 1 jo] ++ [kX11 h (a 0) (a 2) (a 16) (a 30) (a 44) (a 46) Z0, kX9 (a 0) (a 1) x9, aC y (a 1) 60 ft, kX7 (a 2) (a 3) (a 5) (a 6) (a 12) (a 14) (zI 0), kX3 (a 3) (a 4) (zI 1), aI y (a 4) 10 (zI 2), kX1 (a 5) (zI 3), kX8 (a 6) (a 7) (a 8) (a 9) (a 10) (a 11) (zI 4), aI y (a 7) 20 (zI 5), aI y (a 8) 20 (zI 6), aI y (a 9) 20 (zI 7), aI y (a 10) 20 (zI 8), aI y (a 11) 20 Z0, kX10 (a 12) (a 13) (zI 9), aI y (a 13) 32 (zI 10), kX0 (a 14) (a 15) (zI 11), aI y (a 15) 3 (zI 12), kX7 (a 16) (a 17) (a 19) (a 20) (a 26) (a 28) (z 0), kX3 (a 17) (a 18) (z 1), aI y (a 18) 10 (z 2), kX1 (a 19) (z 3), kX8 (a 20) (a 21) (a 22) (a 23) (a 24) (a 25) (z 4), aI y (a 21) 20 (z 5), aI y (a 22) 20 (z 6), aI y (a 23) 20 (z 7), aI y (a 24) 20 (z 8), aI y (a 25) 20 o, kX10 (a 26) (a 27) (z 9), aI y (a 27) 32 (z 10), kX0 (a 28) (a 29) (z 11), aI y (a 29) 3 (z 12), kX2 (a 44) (a 45) x2, kX6 (a 46) (a 47) (a 48) Z0, aZ y (a 48) 2 fl]) H.size q → s.heap.size ≤ q := F_r (D_perm hpm hD) hS hA
    refine cl_LP (fun _ : Unit => ((lwE y h a jq mh w (s_X11_load_w1 x9 ft) ft (s_X9_putInto_z (s_X9_read_w0 x9 ft) zI) o zc oc (s_X11_load_w31 x2) ad (s_X11_load_w33 fl) sd (vp_updL jo 0 (s_X11_load_r x9 ft zI).toInt64) X fR fr f g fd fk fz o2) ++ ((kW y ad zk ok 14) ++ (kW y sd zs os 2)))) hpm (fun _ => qm0 (T := (kW y ad zk ok 14) ++ (kW y sd zs os 2)) (pr_6 y h a jq mh w (s_X11_load_w1 x9 ft) ft (s_X9_putInto_z (s_X9_read_w0 x9 ft) zI) o zc oc (s_X11_load_w31 x2) ad (s_X11_load_w33 fl) sd (vp_updL jo 0 (s_X11_load_r x9 ft zI).toInt64) X fR fr f g fd fk fz o2)) (vx_runSX (As := [.ref h, .ref jq]) (rest := []) ⟨hx, hb, hml, hown, hts⟩ (c_L_load_y l G y h (a 0) (a 2) (a 16) (a 30) (a 44) (a 46) (a 1) x9 ft (a 3) (a 5) (a 6) (a 12) (a 14) zI (a 4) (a 7) (a 8) (a 9) (a 10) (a 11) Z0 (a 13) (a 15) (a 17) (a 19) (a 20) (a 26) (a 28) z (a 18) (a 21) (a 22) (a 23) (a 24) (a 25) o (a 27) (a 29) (a 45) x2 (a 47) (a 48) Z0 fl jq jo H.size zI_b.1 zI_b.2.1 zI_b.2.2 hk hfl) (vx_cwSW 2 hts gL_law_L_load rfl rfl rfl (by decide +kernel) ⟨Nat.le_of_ble_eq_true rfl, Nat.le_of_ble_eq_true rfl⟩) (PHL_S hPc hK hN hDc hTY hS hFc) rfl rfl hl.1 rfl (lv_room (Nat.le_of_ble_eq_true rfl)) dL_law_244 ⟨hkc, hks⟩) hP hD hS hA (fun _ H locs hP hD hS => ?_)
    have hP : va_P G vwCl ((lwE y h a jq mh w (s_X11_load_w1 x9 ft) ft (s_X9_putInto_z (s_X9_read_w0 x9 ft) zI) o zc oc (s_X11_load_w31 x2) ad (s_X11_load_w33 fl) sd (vp_updL jo 0 (s_X11_load_r x9 ft zI).toInt64) X fR fr f g fd fk fz o2) ++ ((kW y ad zk ok 14) ++ (kW y sd zs os 2))) H := hP
    have hD : va_D (fun q : Nat => s.heap.size ≤ q) ((lwE y h a jq mh w (s_X11_load_w1 x9 ft) ft (s_X9_putInto_z (s_X9_read_w0 x9 ft) zI) o zc oc (s_X11_load_w31 x2) ad (s_X11_load_w33 fl) sd (vp_updL jo 0 (s_X11_load_r x9 ft zI).toInt64) X fR fr f g fd fk fz o2) ++ ((kW y ad zk ok 14) ++ (kW y sd zs os 2))) := hD
    refine lv_istore (lv' := [(5, .int 0), (0, .ref b), (1, .ref h), (2, .ref mh), (3, .ref jq), (4, .int iv)]) hx hb dL_law_247 hl (by decide) rfl (fun ls hl => ?_)
    refine lv_aload_n hx hb dL_law_249 rfl (lv_at hl 3 rfl) ?_
    have hpm := qm0 (T := (kW y ad zk ok 14) ++ (kW y sd zs os 2)) (pr_7 y h a jq mh w (s_X11_load_w1 x9 ft) ft (s_X9_putInto_z (s_X9_read_w0 x9 ft) zI) o zc oc (s_X11_load_w31 x2) ad (s_X11_load_w33 fl) sd (vp_updL jo 0 (s_X11_load_r x9 ft zI).toInt64) X fR fr f g fd fk fz o2)
    have hPc : va_P G vwCl [kX12 mh (w 0) (w 1) (w 2) (w 3) (w 4) (w 5) (w 6) (w 7) X, aI y (w 0) 60 fR, aI y (w 1) 154 fr, aI y (w 2) 154 f, aZ y (w 6) 2 fz] H := P_r (P_perm hpm hP)
    have hDc : va_D (fun q : Nat => s.heap.size ≤ q) [kX12 mh (w 0) (w 1) (w 2) (w 3) (w 4) (w 5) (w 6) (w 7) X, aI y (w 0) 60 fR, aI y (w 1) 154 fr, aI y (w 2) 154 f, aZ y (w 6) 2 fz] := D_r (D_perm hpm hD)
    refine cl_MP (fun _ : Unit => ((lwE y h a jq mh w (s_X11_load_w1 x9 ft) ft (s_X9_putInto_z (s_X9_read_w0 x9 ft) zI) o zc oc (s_X11_load_w31 x2) ad (s_X11_load_w33 fl) sd (vp_updL jo 0 (s_X11_load_r x9 ft zI).toInt64) (s_X12_load_w0 X fR fr) fR (s_X12_load_w2 X fR fr) (s_X12_load_w3 X fR fr f) g fd fk (s_X12_load_w4 X fR fr fz) o2) ++ ((kW y ad zk ok 14) ++ (kW y sd zs os 2)))) hpm (fun _ => qm0 (T := (kW y ad zk ok 14) ++ (kW y sd zs os 2)) (pr_7 y h a jq mh w (s_X11_load_w1 x9 ft) ft (s_X9_putInto_z (s_X9_read_w0 x9 ft) zI) o zc oc (s_X11_load_w31 x2) ad (s_X11_load_w33 fl) sd (vp_updL jo 0 (s_X11_load_r x9 ft zI).toInt64) (s_X12_load_w0 X fR fr) fR (s_X12_load_w2 X fR fr) (s_X12_load_w3 X fR fr f) g fd fk (s_X12_load_w4 X fR fr fz) o2)) (va_runV (As := []) (rest := []) ⟨hx, hb, hml, hown, hts⟩ (c_X12_load l G y mh (w 0) (w 1) (w 2) (w 3) (w 4) (w 5) (w 6) (w 7) X fR fr f fz H.size (wf_t hW)) (cwV 0 hts gL_law_X12_load rfl rfl rfl (by decide +kernel) ⟨Nat.le_of_ble_eq_true rfl, Nat.le_of_ble_eq_true rfl⟩) (PH_V hPc hK4 hN hDc (ci := 10) (q0 := 0) rfl rfl) rfl rfl hl.1 rfl (lv_room (Nat.le_of_ble_eq_true rfl)) dL_law_250 ⟨hkc, hks⟩) hP hD hS hA (fun _ H locs hP hD hS => ?_)
    have hP : va_P G vwCl ((lwE y h a jq mh w (s_X11_load_w1 x9 ft) ft (s_X9_putInto_z (s_X9_read_w0 x9 ft) zI) o zc oc (s_X11_load_w31 x2) ad (s_X11_load_w33 fl) sd (vp_updL jo 0 (s_X11_load_r x9 ft zI).toInt64) (s_X12_load_w0 X fR fr) fR (s_X12_load_w2 X fR fr) (s_X12_load_w3 X fR fr f) g fd fk (s_X12_load_w4 X fR fr fz) o2) ++ ((kW y ad zk ok 14) ++ (kW y sd zs os 2))) H := hP
    have hD : va_D (fun q : Nat => s.heap.size ≤ q) ((lwE y h a jq mh w (s_X11_load_w1 x9 ft) ft (s_X9_putInto_z (s_X9_read_w0 x9 ft) zI) o zc oc (s_X11_load_w31 x2) ad (s_X11_load_w33 fl) sd (vp_updL jo 0 (s_X11_load_r x9 ft zI).toInt64) (s_X12_load_w0 X fR fr) fR (s_X12_load_w2 X fR fr) (s_X12_load_w3 X fR fr f) g fd fk (s_X12_load_w4 X fR fr fz) o2) ++ ((kW y ad zk ok 14) ++ (kW y sd zs os 2))) := hD
    obtain ⟨e1, e2, hW2⟩ := ly_load (fr := fr) hW hN9 hk
    have hT : s_X12_thrown_r (s_X12_load_w0 X fR fr) = 0 := (thr_eq _).trans e2
    refine lv_istore (lv' := [(6, .int (s_X12_load_r X fR fr)), (5, .int 0), (0, .ref b), (1, .ref h), (2, .ref mh), (3, .ref jq), (4, .int iv)]) hx hb dL_law_253 hl (by decide) rfl (fun ls hl => ?_)
    refine lv_aload_n hx hb dL_law_255 rfl (lv_at hl 4 rfl) ?_
    refine cl_Ri (va_runV (As := []) (rest := []) ⟨hx, hb, hml, hown, hts⟩ (c_X12_thrown l G y mh (w 0) (w 1) (w 2) (w 3) (w 4) (w 5) (w 6) (w 7) (s_X12_load_w0 X fR fr)) (cwV 0 hts gL_law_X12_thrown rfl rfl rfl (by decide +kernel) ⟨Nat.le_of_ble_eq_true rfl, Nat.le_of_ble_eq_true rfl⟩) (PR_V (sel_P [50] (rfl : sel _ [50] = [kX12 mh (w 0) (w 1) (w 2) (w 3) (w 4) (w 5) (w 6) (w 7) (s_X12_load_w0 X fR fr)]) hP) hK4 hN (ci := 10) (q0 := 0) rfl rfl) rfl rfl hl.1 rfl (lv_room (Nat.le_of_ble_eq_true rfl)) dL_law_256 ⟨hkc, hks⟩) ?_
    refine lv_iload hx hb dL_law_259 (lv_at hl 1 rfl) ?_
    refine lv_icmp_eq (tgt := 266) hx hb dL_law_261 (by decide) (fun _ => ?_) (fun c9 => absurd hT c9)
    refine lv_iload hx hb dL_law_266 (lv_at hl 1 rfl) ?_
    refine lv_if_ne (tgt := 283) hx hb dL_law_268 (by decide) (fun c9 => absurd rfl c9) (fun _ => ?_)
    refine lv_aload_n hx hb dL_law_271 rfl (lv_at hl 5 rfl) ?_
    refine lv_iconst (v := 0) hx hb dL_law_272 (by decide) ?_
    refine al_o hx hb hK 59 hP rfl dL_law_273 ?_
    refine lv_iload hx hb dL_law_274 (lv_at hl 0 rfl) ?_
    refine lv_i2l (v := (s_X12_load_r X fR fr).toInt64) hx hb dL_law_276 rfl ?_
    refine W.lcmp hx hb dL_law_277 ?_
    refine lv_if_eq (tgt := 283) hx hb dL_law_278 (by decide) (fun _ => ?_) (fun c9 => absurd (lg_o e1) c9)
    refine lv_goto (tgt := 1652) hx hb dL_law_283 (by decide) ?_
    refine W.widen (k := kc + 1) (n := ks + 6) (by omega) (by omega) ?_
    exact KN H locs ls ⟨(s_X11_load_w1 x9 ft), ft, (s_X9_putInto_z (s_X9_read_w0 x9 ft) zI), o, zc, oc, (s_X11_load_w31 x2), ad, zk, ok, (s_X11_load_w33 fl), sd, zs, os, (vp_updL jo 0 (s_X11_load_r x9 ft zI).toInt64), (s_X12_load_w0 X fR fr), fR, (s_X12_load_w2 X fR fr), (s_X12_load_w3 X fR fr f), g, fd, fk, (s_X12_load_w4 X fR fr fz), o2, hP, hD, hW2⟩ hS (lv_sub hl [2, 3, 4, 5, 6] rfl)
  · refine lv_aload_n hx hb dL_law_242 rfl (lv_at hl 1 rfl) ?_
    refine lv_aload_n hx hb dL_law_243 rfl (lv_at hl 3 rfl) ?_
    have hpm := qm0 (T := (kW y ad zk ok 14) ++ (kW y sd zs os 2)) (pr_6 y h a jq mh w x9 ft z o zc oc x2 ad fl sd jo X fR fr f g fd fk fz o2)
    have hPc : va_P G vwCl ([aJ y jq 1 jo] ++ [kX11 h (a 0) (a 2) (a 16) (a 30) (a 44) (a 46) Z0, kX9 (a 0) (a 1) x9, aC y (a 1) 60 ft, kX7 (a 2) (a 3) (a 5) (a 6) (a 12) (a 14) (zI 0), kX3 (a 3) (a 4) (zI 1), aI y (a 4) 10 (zI 2), kX1 (a 5) (zI 3), kX8 (a 6) (a 7) (a 8) (a 9) (a 10) (a 11) (zI 4), aI y (a 7) 20 (zI 5), aI y (a 8) 20 (zI 6), aI y (a 9) 20 (zI 7), aI y (a 10) 20 (zI 8), aI y (a 11) 20 Z0, kX10 (a 12) (a 13) (zI 9), aI y (a 13) 32 (zI 10), kX0 (a 14) (a 15) (zI 11), aI y (a 15) 3 (zI 12), kX7 (a 16) (a 17) (a 19) (a 20) (a 26) (a 28) (z 0), kX3 (a 17) (a 18) (z 1), aI y (a 18) 10 (z 2), kX1 (a 19) (z 3), kX8 (a 20) (a 21) (a 22) (a 23) (a 24) (a 25) (z 4), aI y (a 21) 20 (z 5), aI y (a 22) 20 (z 6), aI y (a 23) 20 (z 7), aI y (a 24) 20 (z 8), aI y (a 25) 20 o, kX10 (a 26) (a 27) (z 9), aI y (a 27) 32 (z 10), kX0 (a 28) (a 29) (z 11), aI y (a 29) 3 (z 12), kX2 (a 44) (a 45) x2, kX6 (a 46) (a 47) (a 48) Z0, aZ y (a 48) 2 fl]) H := P_r (P_perm hpm hP)
    have hDc : va_D (fun q : Nat => s.heap.size ≤ q) ([aJ y jq 1 jo] ++ [kX11 h (a 0) (a 2) (a 16) (a 30) (a 44) (a 46) Z0, kX9 (a 0) (a 1) x9, aC y (a 1) 60 ft, kX7 (a 2) (a 3) (a 5) (a 6) (a 12) (a 14) (zI 0), kX3 (a 3) (a 4) (zI 1), aI y (a 4) 10 (zI 2), kX1 (a 5) (zI 3), kX8 (a 6) (a 7) (a 8) (a 9) (a 10) (a 11) (zI 4), aI y (a 7) 20 (zI 5), aI y (a 8) 20 (zI 6), aI y (a 9) 20 (zI 7), aI y (a 10) 20 (zI 8), aI y (a 11) 20 Z0, kX10 (a 12) (a 13) (zI 9), aI y (a 13) 32 (zI 10), kX0 (a 14) (a 15) (zI 11), aI y (a 15) 3 (zI 12), kX7 (a 16) (a 17) (a 19) (a 20) (a 26) (a 28) (z 0), kX3 (a 17) (a 18) (z 1), aI y (a 18) 10 (z 2), kX1 (a 19) (z 3), kX8 (a 20) (a 21) (a 22) (a 23) (a 24) (a 25) (z 4), aI y (a 21) 20 (z 5), aI y (a 22) 20 (z 6), aI y (a 23) 20 (z 7), aI y (a 24) 20 (z 8), aI y (a 25) 20 o, kX10 (a 26) (a 27) (z 9), aI y (a 27) 32 (z 10), kX0 (a 28) (a 29) (z 11), aI y (a 29) 3 (z 12), kX2 (a 44) (a 45) x2, kX6 (a 46) (a 47) (a 48) Z0, aZ y (a 48) 2 fl]) := D_r (D_perm hpm hD)
    have hFc : ∀ q, va_A ([aJ y jq 1 jo] ++ [kX11 h (a 0) (a 2) (a 16) (a 30) (a 44) (a 46) Z0, kX9 (a 0) (a 1) x9, aC y (a 1) 60 ft, kX7 (a 2) (a 3) (a 5) (a 6) (a 12) (a 14) (zI 0), kX3 (a 3) (a 4) (zI 1), aI y (a 4) 10 (zI 2), kX1 (a 5) (zI 3), kX8 (a 6) (a 7) (a 8) (a 9) (a 10) (a 11) (zI 4), aI y (a 7) 20 (zI 5), aI y (a 8) 20 (zI 6), aI y (a 9) 20 (zI 7), aI y (a 10) 20 (zI 8), aI y (a 11) 20 Z0, kX10 (a 12) (a 13) (zI 9), aI y (a 13) 32 (zI 10), kX0 (a 14) (a 15) (zI 11), aI y (a 15) 3 (zI 12), kX7 (a 16) (a 17) (a 19) (a 20) (a 26) (a 28) (z 0), kX3 (a 17) (a 18) (z 1), aI y (a 18) 10 (z 2), kX1 (a 19) (z 3), kX8 (a 20) (a 21) (a 22) (a 23) (a 24) (a 25) (z 4), aI y (a 21) 20 (z 5), aI y (a 22) 20 (z 6), aI y (a 23) 20 (z 7), aI y (a 24) 20 (z 8), aI y (a 25) 20 o, kX10 (a 26) (a 27) (z 9), aI y (a 27) 32 (z 10), kX0 (a 28) (a 29) (z 11), aI y (a 29) 3 (z 12), kX2 (a 44) (a 45) x2, kX6 (a 46) (a 47) (a 48) Z0, aZ y (a 48) 2 fl]) H.size q → s.heap.size ≤ q := F_r (D_perm hpm hD) hS hA
    refine cl_LP (fun _ : Unit => ((lwE y h a jq mh w (s_X11_load_x1 x9 ft) ft z o zc oc x2 ad fl sd jo X fR fr f g fd fk fz o2) ++ ((kW y ad zk ok 14) ++ (kW y sd zs os 2)))) hpm (fun _ => qm0 (T := (kW y ad zk ok 14) ++ (kW y sd zs os 2)) (pr_6 y h a jq mh w (s_X11_load_x1 x9 ft) ft z o zc oc x2 ad fl sd jo X fR fr f g fd fk fz o2)) (vx_runSX (As := [.ref h, .ref jq]) (rest := []) ⟨hx, hb, hml, hown, hts⟩ (c_L_load_n l G y h (a 0) (a 2) (a 16) (a 30) (a 44) (a 46) (a 1) x9 ft (a 3) (a 5) (a 6) (a 12) (a 14) zI (a 4) (a 7) (a 8) (a 9) (a 10) (a 11) Z0 (a 13) (a 15) (a 17) (a 19) (a 20) (a 26) (a 28) z (a 18) (a 21) (a 22) (a 23) (a 24) (a 25) o (a 27) (a 29) (a 45) x2 (a 47) (a 48) Z0 fl jq jo H.size zI_b.1 zI_b.2.1 zI_b.2.2 hk hfl) (vx_cwSW 2 hts gL_law_L_load rfl rfl rfl (by decide +kernel) ⟨Nat.le_of_ble_eq_true rfl, Nat.le_of_ble_eq_true rfl⟩) (PHL_S hPc hK hN hDc hTY hS hFc) rfl rfl hl.1 rfl (lv_room (Nat.le_of_ble_eq_true rfl)) dL_law_244 ⟨hkc, hks⟩) hP hD hS hA (fun _ H locs hP hD hS => ?_)
    have hP : va_P G vwCl ((lwE y h a jq mh w (s_X11_load_x1 x9 ft) ft z o zc oc x2 ad fl sd jo X fR fr f g fd fk fz o2) ++ ((kW y ad zk ok 14) ++ (kW y sd zs os 2))) H := hP
    have hD : va_D (fun q : Nat => s.heap.size ≤ q) ((lwE y h a jq mh w (s_X11_load_x1 x9 ft) ft z o zc oc x2 ad fl sd jo X fR fr f g fd fk fz o2) ++ ((kW y ad zk ok 14) ++ (kW y sd zs os 2))) := hD
    refine lv_istore (lv' := [(5, .int (cdK 2 (s_X11_load_k x9 ft))), (0, .ref b), (1, .ref h), (2, .ref mh), (3, .ref jq), (4, .int iv)]) hx hb dL_law_247 hl (by decide) rfl (fun ls hl => ?_)
    refine lv_aload_n hx hb dL_law_249 rfl (lv_at hl 3 rfl) ?_
    have hpm := qm0 (T := (kW y ad zk ok 14) ++ (kW y sd zs os 2)) (pr_7 y h a jq mh w (s_X11_load_x1 x9 ft) ft z o zc oc x2 ad fl sd jo X fR fr f g fd fk fz o2)
    have hPc : va_P G vwCl [kX12 mh (w 0) (w 1) (w 2) (w 3) (w 4) (w 5) (w 6) (w 7) X, aI y (w 0) 60 fR, aI y (w 1) 154 fr, aI y (w 2) 154 f, aZ y (w 6) 2 fz] H := P_r (P_perm hpm hP)
    have hDc : va_D (fun q : Nat => s.heap.size ≤ q) [kX12 mh (w 0) (w 1) (w 2) (w 3) (w 4) (w 5) (w 6) (w 7) X, aI y (w 0) 60 fR, aI y (w 1) 154 fr, aI y (w 2) 154 f, aZ y (w 6) 2 fz] := D_r (D_perm hpm hD)
    refine cl_MP (fun _ : Unit => ((lwE y h a jq mh w (s_X11_load_x1 x9 ft) ft z o zc oc x2 ad fl sd jo (s_X12_load_w0 X fR fr) fR (s_X12_load_w2 X fR fr) (s_X12_load_w3 X fR fr f) g fd fk (s_X12_load_w4 X fR fr fz) o2) ++ ((kW y ad zk ok 14) ++ (kW y sd zs os 2)))) hpm (fun _ => qm0 (T := (kW y ad zk ok 14) ++ (kW y sd zs os 2)) (pr_7 y h a jq mh w (s_X11_load_x1 x9 ft) ft z o zc oc x2 ad fl sd jo (s_X12_load_w0 X fR fr) fR (s_X12_load_w2 X fR fr) (s_X12_load_w3 X fR fr f) g fd fk (s_X12_load_w4 X fR fr fz) o2)) (va_runV (As := []) (rest := []) ⟨hx, hb, hml, hown, hts⟩ (c_X12_load l G y mh (w 0) (w 1) (w 2) (w 3) (w 4) (w 5) (w 6) (w 7) X fR fr f fz H.size (wf_t hW)) (cwV 0 hts gL_law_X12_load rfl rfl rfl (by decide +kernel) ⟨Nat.le_of_ble_eq_true rfl, Nat.le_of_ble_eq_true rfl⟩) (PH_V hPc hK4 hN hDc (ci := 10) (q0 := 0) rfl rfl) rfl rfl hl.1 rfl (lv_room (Nat.le_of_ble_eq_true rfl)) dL_law_250 ⟨hkc, hks⟩) hP hD hS hA (fun _ H locs hP hD hS => ?_)
    have hP : va_P G vwCl ((lwE y h a jq mh w (s_X11_load_x1 x9 ft) ft z o zc oc x2 ad fl sd jo (s_X12_load_w0 X fR fr) fR (s_X12_load_w2 X fR fr) (s_X12_load_w3 X fR fr f) g fd fk (s_X12_load_w4 X fR fr fz) o2) ++ ((kW y ad zk ok 14) ++ (kW y sd zs os 2))) H := hP
    have hD : va_D (fun q : Nat => s.heap.size ≤ q) ((lwE y h a jq mh w (s_X11_load_x1 x9 ft) ft z o zc oc x2 ad fl sd jo (s_X12_load_w0 X fR fr) fR (s_X12_load_w2 X fR fr) (s_X12_load_w3 X fR fr f) g fd fk (s_X12_load_w4 X fR fr fz) o2) ++ ((kW y ad zk ok 14) ++ (kW y sd zs os 2))) := hD
    obtain ⟨e2, hW2⟩ := ln_load (fr := fr) hW hk
    have hT : s_X12_thrown_r (s_X12_load_w0 X fR fr) = cdK 2 (s_X11_load_k x9 ft) := (thr_eq _).trans e2
    refine lv_istore (lv' := [(6, .int (s_X12_load_r X fR fr)), (5, .int (cdK 2 (s_X11_load_k x9 ft))), (0, .ref b), (1, .ref h), (2, .ref mh), (3, .ref jq), (4, .int iv)]) hx hb dL_law_253 hl (by decide) rfl (fun ls hl => ?_)
    refine lv_aload_n hx hb dL_law_255 rfl (lv_at hl 4 rfl) ?_
    refine cl_Ri (va_runV (As := []) (rest := []) ⟨hx, hb, hml, hown, hts⟩ (c_X12_thrown l G y mh (w 0) (w 1) (w 2) (w 3) (w 4) (w 5) (w 6) (w 7) (s_X12_load_w0 X fR fr)) (cwV 0 hts gL_law_X12_thrown rfl rfl rfl (by decide +kernel) ⟨Nat.le_of_ble_eq_true rfl, Nat.le_of_ble_eq_true rfl⟩) (PR_V (sel_P [50] (rfl : sel _ [50] = [kX12 mh (w 0) (w 1) (w 2) (w 3) (w 4) (w 5) (w 6) (w 7) (s_X12_load_w0 X fR fr)]) hP) hK4 hN (ci := 10) (q0 := 0) rfl rfl) rfl rfl hl.1 rfl (lv_room (Nat.le_of_ble_eq_true rfl)) dL_law_256 ⟨hkc, hks⟩) ?_
    refine lv_iload hx hb dL_law_259 (lv_at hl 1 rfl) ?_
    refine lv_icmp_eq (tgt := 266) hx hb dL_law_261 (by decide) (fun _ => ?_) (fun c9 => absurd hT c9)
    refine lv_iload hx hb dL_law_266 (lv_at hl 1 rfl) ?_
    refine lv_if_ne (tgt := 283) hx hb dL_law_268 (by decide) (fun _ => ?_) (fun c9 => absurd c9 (cd_n hk))
    refine lv_goto (tgt := 1652) hx hb dL_law_283 (by decide) ?_
    refine W.widen (k := kc + 1) (n := ks + 6) (by omega) (by omega) ?_
    exact KN H locs ls ⟨(s_X11_load_x1 x9 ft), ft, z, o, zc, oc, x2, ad, zk, ok, fl, sd, zs, os, jo, (s_X12_load_w0 X fR fr), fR, (s_X12_load_w2 X fR fr), (s_X12_load_w3 X fR fr f), g, fd, fk, (s_X12_load_w4 X fR fr fz), o2, hP, hD, hW2⟩ hS (lv_sub hl [2, 3, 4, 5, 6] rfl)
set_option maxHeartbeats 2000000 in
set_option maxRecDepth 100000 in
theorem case_4 {p : Program} {l : Launch} {e : Env} {s : State} {m : MethodId} {below : List Frame} {meth : Method} {c : Code} {b L : Nat} {xs : Nat → Int32} {G : va_G} {y : Nat → ClassId} {h : Nat} {a : Nat → Nat} {jq mh : Nat} {w : Nat → Nat} {iv v1 v2 v3 : Int32} {N kc ks : Nat} {H : Heap} {locs : List Loc} {ls : Array Slot} (hfl : l.stackTraces = false) (C0 : lw_At p s m meth c b L xs) (hK : va_K G vwCl (tyJ y) s) (hN : NN s) (hTY : TY (fun q : Nat => s.heap.size ≤ q) s) (hin1 : vp_in (iv + 1) L) (hin2 : vp_in (iv + 2) L) (hin3 : vp_in (iv + 3) L) (hv1 : xs (iv + 1).toNatClampNeg = v1) (hv2 : xs (iv + 2).toNatClampNeg = v2) (hv3 : xs (iv + 3).toNatClampNeg = v3) (hkc : kc + 1 ≤ room_1.cells) (hks : ks + 6 ≤ room_1.slots) (hN9 : N + 12800 < 2147483648) (hI : LI G y h a jq mh w (fun q : Nat => s.heap.size ≤ q) N H) (hS : va_S (fun q : Nat => s.heap.size ≤ q) s.heap H locs) (hl : lv_has ls 7 [(0, .ref b), (1, .ref h), (2, .ref mh), (3, .ref jq), (4, .int iv)]) (KN : ∀ (H : Heap) (locs : List Loc) (ls : Array Slot), LI G y h a jq mh w (fun q : Nat => s.heap.size ≤ q) (N + 200) H → va_S (fun q : Nat => s.heap.size ≤ q) s.heap H locs → lv_has ls 7 [(0, .ref b), (1, .ref h), (2, .ref mh), (3, .ref jq), (4, .int iv)] → W p l e room_1 s m #[Value.ref b] below meth c H locs (kc + 1) (ks + 6) (lw_Z below #[Value.ref b] s) (F0 m 1652 ls [])) : W p l e room_1 s m #[Value.ref b] below meth c H locs kc ks (lw_Z below #[Value.ref b] s) (F0 m 286 ls []) := by
  obtain ⟨hx, hb, hr, hml, hown, hts, hX, hbl, hlocks, hgv⟩ := C0
  have hts := fun w hh => hts w (wsL_law_in w hh)
  have hbA : ¬ (fun q : Nat => s.heap.size ≤ q) b := Nat.not_le.mpr hbl
  have hA : ∀ q : Nat, s.heap.size ≤ q → (fun q : Nat => s.heap.size ≤ q) q := fun _ h => h
  have hK4 : va_K G vwCl (tyG y) s := hK.sub (tys' := tyG y) [0, 1, 2, 3] rfl
  have hown : s.vm.findClass RL = some m.cls := hown
  have hkc0 : kc ≤ room_1.cells := Nat.le_of_succ_le hkc
  have hks0 : ks ≤ room_1.slots := Nat.le_trans (Nat.le_add_right ks 6) hks
  obtain ⟨x9, ft, z, o, zc, oc, x2, ad, zk, ok, fl, sd, zs, os, jo, X, fR, fr, f, g, fd, fk, fz, o2, hP, hD, hW⟩ := hI
  by_cases hk : (s_X11_about_k v1) = 0
  · refine lv_aload_n hx hb dL_law_286 rfl (lv_at hl 1 rfl) ?_
    refine lv_aload_n hx hb dL_law_287 rfl (lv_at hl 0 rfl) ?_
    refine lv_iload hx hb dL_law_288 (lv_at hl 4 rfl) ?_
    refine lv_iconst (v := 1) hx hb dL_law_290 (by decide) ?_
    refine lv_iadd hx hb dL_law_291 ?_
    refine va_sld hx hb hX hbl hbA hS hin1 dL_law_292 ?_
    refine rw_i (x' := v1) hv1 ?_
    refine lv_aload_n hx hb dL_law_293 rfl (lv_at hl 3 rfl) ?_
    have hpm := qm0 (T := (kW y ad zk ok 14) ++ (kW y sd zs os 2)) (pr_8 y h a jq mh w x9 ft z o zc oc x2 ad fl sd jo X fR fr f g fd fk fz o2)
    have hPc : va_P G vwCl ([aJ y jq 1 jo] ++ [kX11 h (a 0) (a 2) (a 16) (a 30) (a 44) (a 46) Z0, kX7 (a 16) (a 17) (a 19) (a 20) (a 26) (a 28) (z 0), kX3 (a 17) (a 18) (z 1), kX1 (a 19) (z 3), kX8 (a 20) (a 21) (a 22) (a 23) (a 24) (a 25) (z 4), aI y (a 21) 20 (z 5), aI y (a 22) 20 (z 6), aI y (a 23) 20 (z 7), aI y (a 24) 20 (z 8), aI y (a 25) 20 o, kX10 (a 26) (a 27) (z 9), kX0 (a 28) (a 29) (z 11)]) H := P_r (P_perm hpm hP)
    have hDc : va_D (fun q : Nat => s.heap.size ≤ q) ([aJ y jq 1 jo] ++ [kX11 h (a 0) (a 2) (a 16) (a 30) (a 44) (a 46) Z0, kX7 (a 16) (a 17) (a 19) (a 20) (a 26) (a 28) (z 0), kX3 (a 17) (a 18) (z 1), kX1 (a 19) (z 3), kX8 (a 20) (a 21) (a 22) (a 23) (a 24) (a 25) (z 4), aI y (a 21) 20 (z 5), aI y (a 22) 20 (z 6), aI y (a 23) 20 (z 7), aI y (a 24) 20 (z 8), aI y (a 25) 20 o, kX10 (a 26) (a 27) (z 9), kX0 (a 28) (a 29) (z 11)]) := D_r (D_perm hpm hD)
    have hFc : ∀ q, va_A ([aJ y jq 1 jo] ++ [kX11 h (a 0) (a 2) (a 16) (a 30) (a 44) (a 46) Z0, kX7 (a 16) (a 17) (a 19) (a 20) (a 26) (a 28) (z 0), kX3 (a 17) (a 18) (z 1), kX1 (a 19) (z 3), kX8 (a 20) (a 21) (a 22) (a 23) (a 24) (a 25) (z 4), aI y (a 21) 20 (z 5), aI y (a 22) 20 (z 6), aI y (a 23) 20 (z 7), aI y (a 24) 20 (z 8), aI y (a 25) 20 o, kX10 (a 26) (a 27) (z 9), kX0 (a 28) (a 29) (z 11)]) H.size q → s.heap.size ≤ q := F_r (D_perm hpm hD) hS hA
    refine cl_LP (fun u : (Nat → Int32) => ((lwE y h a jq mh w x9 ft z u zc oc x2 ad fl sd (vp_updL jo 0 (s_X11_about_r v1 z).toInt64) X fR fr f g fd fk fz o2) ++ ((kW y ad zk ok 14) ++ (kW y sd zs os 2)))) hpm (fun u => qm0 (T := (kW y ad zk ok 14) ++ (kW y sd zs os 2)) (pr_8 y h a jq mh w x9 ft z u zc oc x2 ad fl sd (vp_updL jo 0 (s_X11_about_r v1 z).toInt64) X fR fr f g fd fk fz o2)) (vx_runSX (As := [.ref h, .int v1, .ref jq]) (rest := []) ⟨hx, hb, hml, hown, hts⟩ (c_L_about_y l G y h v1 (a 0) (a 2) (a 16) (a 30) (a 44) (a 46) (a 17) (a 19) (a 20) (a 26) (a 28) z (a 18) (a 21) (a 22) (a 23) (a 24) (a 25) o (a 27) (a 29) jq jo H.size (wf_w hW) hk hfl) (vx_cwSW 3 hts gL_law_L_about rfl rfl rfl (by decide +kernel) ⟨Nat.le_of_ble_eq_true rfl, Nat.le_of_ble_eq_true rfl⟩) (PHL_S hPc hK hN hDc hTY hS hFc) rfl rfl hl.1 rfl (lv_room (Nat.le_of_ble_eq_true rfl)) dL_law_294 ⟨hkc, hks⟩) hP hD hS hA (fun u H locs hP hD hS => ?_)
    obtain ⟨o_1, rfl⟩ : ∃ zq9, zq9 = u := ⟨_, rfl⟩
    have hP : va_P G vwCl ((lwE y h a jq mh w x9 ft z o_1 zc oc x2 ad fl sd (vp_updL jo 0 (s_X11_about_r v1 z).toInt64) X fR fr f g fd fk fz o2) ++ ((kW y ad zk ok 14) ++ (kW y sd zs os 2))) H := hP
    have hD : va_D (fun q : Nat => s.heap.size ≤ q) ((lwE y h a jq mh w x9 ft z o_1 zc oc x2 ad fl sd (vp_updL jo 0 (s_X11_about_r v1 z).toInt64) X fR fr f g fd fk fz o2) ++ ((kW y ad zk ok 14) ++ (kW y sd zs os 2))) := hD
    refine lv_istore (lv' := [(5, .int 0), (0, .ref b), (1, .ref h), (2, .ref mh), (3, .ref jq), (4, .int iv)]) hx hb dL_law_297 hl (by decide) rfl (fun ls hl => ?_)
    refine lv_aload_n hx hb dL_law_299 rfl (lv_at hl 3 rfl) ?_
    refine lv_aload_n hx hb dL_law_300 rfl (lv_at hl 1 rfl) ?_
    refine lv_iload hx hb dL_law_301 (lv_at hl 5 rfl) ?_
    refine lv_iconst (v := 1) hx hb dL_law_303 (by decide) ?_
    refine lv_iadd hx hb dL_law_304 ?_
    refine va_sld hx hb hX hbl hbA hS hin1 dL_law_305 ?_
    refine rw_i (x' := v1) hv1 ?_
    have hpm := qm0 (T := (kW y ad zk ok 14) ++ (kW y sd zs os 2)) (pr_9 y h a jq mh w x9 ft z o_1 zc oc x2 ad fl sd (vp_updL jo 0 (s_X11_about_r v1 z).toInt64) X fR fr f g fd fk fz o2)
    have hPc : va_P G vwCl [kX12 mh (w 0) (w 1) (w 2) (w 3) (w 4) (w 5) (w 6) (w 7) X, aI y (w 2) 154 f, aI y (w 7) 20 o2] H := P_r (P_perm hpm hP)
    have hDc : va_D (fun q : Nat => s.heap.size ≤ q) [kX12 mh (w 0) (w 1) (w 2) (w 3) (w 4) (w 5) (w 6) (w 7) X, aI y (w 2) 154 f, aI y (w 7) 20 o2] := D_r (D_perm hpm hD)
    refine cl_MP (fun u : (Nat → Int32) => ((lwE y h a jq mh w x9 ft z o_1 zc oc x2 ad fl sd (vp_updL jo 0 (s_X11_about_r v1 z).toInt64) (s_X12_about_w0 v1 X) fR fr f g fd fk fz u) ++ ((kW y ad zk ok 14) ++ (kW y sd zs os 2)))) hpm (fun u => qm0 (T := (kW y ad zk ok 14) ++ (kW y sd zs os 2)) (pr_9 y h a jq mh w x9 ft z o_1 zc oc x2 ad fl sd (vp_updL jo 0 (s_X11_about_r v1 z).toInt64) (s_X12_about_w0 v1 X) fR fr f g fd fk fz u)) (va_runV (As := [.int v1]) (rest := []) ⟨hx, hb, hml, hown, hts⟩ (c_X12_about l G y mh v1 (w 0) (w 1) (w 2) (w 3) (w 4) (w 5) (w 6) (w 7) X f o2 H.size (wf_16 hW)) (cwV 1 hts gL_law_X12_about rfl rfl rfl (by decide +kernel) ⟨Nat.le_of_ble_eq_true rfl, Nat.le_of_ble_eq_true rfl⟩) (PH_V hPc hK4 hN hDc (ci := 10) (q0 := 0) rfl rfl) rfl rfl hl.1 rfl (lv_room (Nat.le_of_ble_eq_true rfl)) dL_law_306 ⟨hkc, hks⟩) hP hD hS hA (fun u H locs hP hD hS => ?_)
    obtain ⟨o_X12, rfl⟩ : ∃ zq9, zq9 = u := ⟨_, rfl⟩
    have hP : va_P G vwCl ((lwE y h a jq mh w x9 ft z o_1 zc oc x2 ad fl sd (vp_updL jo 0 (s_X11_about_r v1 z).toInt64) (s_X12_about_w0 v1 X) fR fr f g fd fk fz o_X12) ++ ((kW y ad zk ok 14) ++ (kW y sd zs os 2))) H := hP
    have hD : va_D (fun q : Nat => s.heap.size ≤ q) ((lwE y h a jq mh w x9 ft z o_1 zc oc x2 ad fl sd (vp_updL jo 0 (s_X11_about_r v1 z).toInt64) (s_X12_about_w0 v1 X) fR fr f g fd fk fz o_X12) ++ ((kW y ad zk ok 14) ++ (kW y sd zs os 2))) := hD
    obtain ⟨e1, e2, hW2⟩ := ly_about hW hN9 hk
    have hT : s_X12_thrown_r (s_X12_about_w0 v1 X) = 0 := (thr_eq _).trans e2
    refine lv_istore (lv' := [(6, .int (s_X12_about_r v1 f)), (5, .int 0), (0, .ref b), (1, .ref h), (2, .ref mh), (3, .ref jq), (4, .int iv)]) hx hb dL_law_309 hl (by decide) rfl (fun ls hl => ?_)
    refine lv_aload_n hx hb dL_law_311 rfl (lv_at hl 4 rfl) ?_
    refine cl_Ri (va_runV (As := []) (rest := []) ⟨hx, hb, hml, hown, hts⟩ (c_X12_thrown l G y mh (w 0) (w 1) (w 2) (w 3) (w 4) (w 5) (w 6) (w 7) (s_X12_about_w0 v1 X)) (cwV 0 hts gL_law_X12_thrown rfl rfl rfl (by decide +kernel) ⟨Nat.le_of_ble_eq_true rfl, Nat.le_of_ble_eq_true rfl⟩) (PR_V (sel_P [50] (rfl : sel _ [50] = [kX12 mh (w 0) (w 1) (w 2) (w 3) (w 4) (w 5) (w 6) (w 7) (s_X12_about_w0 v1 X)]) hP) hK4 hN (ci := 10) (q0 := 0) rfl rfl) rfl rfl hl.1 rfl (lv_room (Nat.le_of_ble_eq_true rfl)) dL_law_312 ⟨hkc, hks⟩) ?_
    refine lv_iload hx hb dL_law_315 (lv_at hl 1 rfl) ?_
    refine lv_icmp_eq (tgt := 322) hx hb dL_law_317 (by decide) (fun _ => ?_) (fun c9 => absurd hT c9)
    refine lv_iload hx hb dL_law_322 (lv_at hl 1 rfl) ?_
    refine lv_if_ne (tgt := 339) hx hb dL_law_324 (by decide) (fun c9 => absurd rfl c9) (fun _ => ?_)
    refine lv_aload_n hx hb dL_law_327 rfl (lv_at hl 5 rfl) ?_
    refine lv_iconst (v := 0) hx hb dL_law_328 (by decide) ?_
    refine al_o hx hb hK 59 hP rfl dL_law_329 ?_
    refine lv_iload hx hb dL_law_330 (lv_at hl 0 rfl) ?_
    refine lv_i2l (v := (s_X12_about_r v1 f).toInt64) hx hb dL_law_332 rfl ?_
    refine W.lcmp hx hb dL_law_333 ?_
    refine lv_if_eq (tgt := 339) hx hb dL_law_334 (by decide) (fun _ => ?_) (fun c9 => absurd (lg_o e1) c9)
    refine lv_goto (tgt := 1652) hx hb dL_law_339 (by decide) ?_
    refine W.widen (k := kc + 1) (n := ks + 6) (by omega) (by omega) ?_
    exact KN H locs ls ⟨x9, ft, z, o_1, zc, oc, x2, ad, zk, ok, fl, sd, zs, os, (vp_updL jo 0 (s_X11_about_r v1 z).toInt64), (s_X12_about_w0 v1 X), fR, fr, f, g, fd, fk, fz, o_X12, hP, hD, hW2⟩ hS (lv_sub hl [2, 3, 4, 5, 6] rfl)
  · refine lv_aload_n hx hb dL_law_286 rfl (lv_at hl 1 rfl) ?_
    refine lv_aload_n hx hb dL_law_287 rfl (lv_at hl 0 rfl) ?_
    refine lv_iload hx hb dL_law_288 (lv_at hl 4 rfl) ?_
    refine lv_iconst (v := 1) hx hb dL_law_290 (by decide) ?_
    refine lv_iadd hx hb dL_law_291 ?_
    refine va_sld hx hb hX hbl hbA hS hin1 dL_law_292 ?_
    refine rw_i (x' := v1) hv1 ?_
    refine lv_aload_n hx hb dL_law_293 rfl (lv_at hl 3 rfl) ?_
    have hpm := qm0 (T := (kW y ad zk ok 14) ++ (kW y sd zs os 2)) (pr_8 y h a jq mh w x9 ft z o zc oc x2 ad fl sd jo X fR fr f g fd fk fz o2)
    have hPc : va_P G vwCl ([aJ y jq 1 jo] ++ [kX11 h (a 0) (a 2) (a 16) (a 30) (a 44) (a 46) Z0, kX7 (a 16) (a 17) (a 19) (a 20) (a 26) (a 28) (z 0), kX3 (a 17) (a 18) (z 1), kX1 (a 19) (z 3), kX8 (a 20) (a 21) (a 22) (a 23) (a 24) (a 25) (z 4), aI y (a 21) 20 (z 5), aI y (a 22) 20 (z 6), aI y (a 23) 20 (z 7), aI y (a 24) 20 (z 8), aI y (a 25) 20 o, kX10 (a 26) (a 27) (z 9), kX0 (a 28) (a 29) (z 11)]) H := P_r (P_perm hpm hP)
    have hDc : va_D (fun q : Nat => s.heap.size ≤ q) ([aJ y jq 1 jo] ++ [kX11 h (a 0) (a 2) (a 16) (a 30) (a 44) (a 46) Z0, kX7 (a 16) (a 17) (a 19) (a 20) (a 26) (a 28) (z 0), kX3 (a 17) (a 18) (z 1), kX1 (a 19) (z 3), kX8 (a 20) (a 21) (a 22) (a 23) (a 24) (a 25) (z 4), aI y (a 21) 20 (z 5), aI y (a 22) 20 (z 6), aI y (a 23) 20 (z 7), aI y (a 24) 20 (z 8), aI y (a 25) 20 o, kX10 (a 26) (a 27) (z 9), kX0 (a 28) (a 29) (z 11)]) := D_r (D_perm hpm hD)
    have hFc : ∀ q, va_A ([aJ y jq 1 jo] ++ [kX11 h (a 0) (a 2) (a 16) (a 30) (a 44) (a 46) Z0, kX7 (a 16) (a 17) (a 19) (a 20) (a 26) (a 28) (z 0), kX3 (a 17) (a 18) (z 1), kX1 (a 19) (z 3), kX8 (a 20) (a 21) (a 22) (a 23) (a 24) (a 25) (z 4), aI y (a 21) 20 (z 5), aI y (a 22) 20 (z 6), aI y (a 23) 20 (z 7), aI y (a 24) 20 (z 8), aI y (a 25) 20 o, kX10 (a 26) (a 27) (z 9), kX0 (a 28) (a 29) (z 11)]) H.size q → s.heap.size ≤ q := F_r (D_perm hpm hD) hS hA
    refine cl_LP (fun u : (Nat → Int32) => ((lwE y h a jq mh w x9 ft z u zc oc x2 ad fl sd jo X fR fr f g fd fk fz o2) ++ ((kW y ad zk ok 14) ++ (kW y sd zs os 2)))) hpm (fun u => qm0 (T := (kW y ad zk ok 14) ++ (kW y sd zs os 2)) (pr_8 y h a jq mh w x9 ft z u zc oc x2 ad fl sd jo X fR fr f g fd fk fz o2)) (vx_runSX (As := [.ref h, .int v1, .ref jq]) (rest := []) ⟨hx, hb, hml, hown, hts⟩ (c_L_about_n l G y h v1 (a 0) (a 2) (a 16) (a 30) (a 44) (a 46) (a 17) (a 19) (a 20) (a 26) (a 28) z (a 18) (a 21) (a 22) (a 23) (a 24) (a 25) o (a 27) (a 29) jq jo H.size (wf_w hW) hk hfl) (vx_cwSW 3 hts gL_law_L_about rfl rfl rfl (by decide +kernel) ⟨Nat.le_of_ble_eq_true rfl, Nat.le_of_ble_eq_true rfl⟩) (PHL_S hPc hK hN hDc hTY hS hFc) rfl rfl hl.1 rfl (lv_room (Nat.le_of_ble_eq_true rfl)) dL_law_294 ⟨hkc, hks⟩) hP hD hS hA (fun u H locs hP hD hS => ?_)
    obtain ⟨o_1, rfl⟩ : ∃ zq9, zq9 = u := ⟨_, rfl⟩
    have hP : va_P G vwCl ((lwE y h a jq mh w x9 ft z o_1 zc oc x2 ad fl sd jo X fR fr f g fd fk fz o2) ++ ((kW y ad zk ok 14) ++ (kW y sd zs os 2))) H := hP
    have hD : va_D (fun q : Nat => s.heap.size ≤ q) ((lwE y h a jq mh w x9 ft z o_1 zc oc x2 ad fl sd jo X fR fr f g fd fk fz o2) ++ ((kW y ad zk ok 14) ++ (kW y sd zs os 2))) := hD
    refine lv_istore (lv' := [(5, .int (cdK 1 (s_X11_about_k v1))), (0, .ref b), (1, .ref h), (2, .ref mh), (3, .ref jq), (4, .int iv)]) hx hb dL_law_297 hl (by decide) rfl (fun ls hl => ?_)
    refine lv_aload_n hx hb dL_law_299 rfl (lv_at hl 3 rfl) ?_
    refine lv_aload_n hx hb dL_law_300 rfl (lv_at hl 1 rfl) ?_
    refine lv_iload hx hb dL_law_301 (lv_at hl 5 rfl) ?_
    refine lv_iconst (v := 1) hx hb dL_law_303 (by decide) ?_
    refine lv_iadd hx hb dL_law_304 ?_
    refine va_sld hx hb hX hbl hbA hS hin1 dL_law_305 ?_
    refine rw_i (x' := v1) hv1 ?_
    have hpm := qm0 (T := (kW y ad zk ok 14) ++ (kW y sd zs os 2)) (pr_9 y h a jq mh w x9 ft z o_1 zc oc x2 ad fl sd jo X fR fr f g fd fk fz o2)
    have hPc : va_P G vwCl [kX12 mh (w 0) (w 1) (w 2) (w 3) (w 4) (w 5) (w 6) (w 7) X, aI y (w 2) 154 f, aI y (w 7) 20 o2] H := P_r (P_perm hpm hP)
    have hDc : va_D (fun q : Nat => s.heap.size ≤ q) [kX12 mh (w 0) (w 1) (w 2) (w 3) (w 4) (w 5) (w 6) (w 7) X, aI y (w 2) 154 f, aI y (w 7) 20 o2] := D_r (D_perm hpm hD)
    refine cl_MP (fun u : (Nat → Int32) => ((lwE y h a jq mh w x9 ft z o_1 zc oc x2 ad fl sd jo (s_X12_about_w0 v1 X) fR fr f g fd fk fz u) ++ ((kW y ad zk ok 14) ++ (kW y sd zs os 2)))) hpm (fun u => qm0 (T := (kW y ad zk ok 14) ++ (kW y sd zs os 2)) (pr_9 y h a jq mh w x9 ft z o_1 zc oc x2 ad fl sd jo (s_X12_about_w0 v1 X) fR fr f g fd fk fz u)) (va_runV (As := [.int v1]) (rest := []) ⟨hx, hb, hml, hown, hts⟩ (c_X12_about l G y mh v1 (w 0) (w 1) (w 2) (w 3) (w 4) (w 5) (w 6) (w 7) X f o2 H.size (wf_16 hW)) (cwV 1 hts gL_law_X12_about rfl rfl rfl (by decide +kernel) ⟨Nat.le_of_ble_eq_true rfl, Nat.le_of_ble_eq_true rfl⟩) (PH_V hPc hK4 hN hDc (ci := 10) (q0 := 0) rfl rfl) rfl rfl hl.1 rfl (lv_room (Nat.le_of_ble_eq_true rfl)) dL_law_306 ⟨hkc, hks⟩) hP hD hS hA (fun u H locs hP hD hS => ?_)
    obtain ⟨o_X12, rfl⟩ : ∃ zq9, zq9 = u := ⟨_, rfl⟩
    have hP : va_P G vwCl ((lwE y h a jq mh w x9 ft z o_1 zc oc x2 ad fl sd jo (s_X12_about_w0 v1 X) fR fr f g fd fk fz o_X12) ++ ((kW y ad zk ok 14) ++ (kW y sd zs os 2))) H := hP
    have hD : va_D (fun q : Nat => s.heap.size ≤ q) ((lwE y h a jq mh w x9 ft z o_1 zc oc x2 ad fl sd jo (s_X12_about_w0 v1 X) fR fr f g fd fk fz o_X12) ++ ((kW y ad zk ok 14) ++ (kW y sd zs os 2))) := hD
    obtain ⟨e2, hW2⟩ := ln_about hW hk
    have hT : s_X12_thrown_r (s_X12_about_w0 v1 X) = cdK 1 (s_X11_about_k v1) := (thr_eq _).trans e2
    refine lv_istore (lv' := [(6, .int (s_X12_about_r v1 f)), (5, .int (cdK 1 (s_X11_about_k v1))), (0, .ref b), (1, .ref h), (2, .ref mh), (3, .ref jq), (4, .int iv)]) hx hb dL_law_309 hl (by decide) rfl (fun ls hl => ?_)
    refine lv_aload_n hx hb dL_law_311 rfl (lv_at hl 4 rfl) ?_
    refine cl_Ri (va_runV (As := []) (rest := []) ⟨hx, hb, hml, hown, hts⟩ (c_X12_thrown l G y mh (w 0) (w 1) (w 2) (w 3) (w 4) (w 5) (w 6) (w 7) (s_X12_about_w0 v1 X)) (cwV 0 hts gL_law_X12_thrown rfl rfl rfl (by decide +kernel) ⟨Nat.le_of_ble_eq_true rfl, Nat.le_of_ble_eq_true rfl⟩) (PR_V (sel_P [50] (rfl : sel _ [50] = [kX12 mh (w 0) (w 1) (w 2) (w 3) (w 4) (w 5) (w 6) (w 7) (s_X12_about_w0 v1 X)]) hP) hK4 hN (ci := 10) (q0 := 0) rfl rfl) rfl rfl hl.1 rfl (lv_room (Nat.le_of_ble_eq_true rfl)) dL_law_312 ⟨hkc, hks⟩) ?_
    refine lv_iload hx hb dL_law_315 (lv_at hl 1 rfl) ?_
    refine lv_icmp_eq (tgt := 322) hx hb dL_law_317 (by decide) (fun _ => ?_) (fun c9 => absurd hT c9)
    refine lv_iload hx hb dL_law_322 (lv_at hl 1 rfl) ?_
    refine lv_if_ne (tgt := 339) hx hb dL_law_324 (by decide) (fun _ => ?_) (fun c9 => absurd c9 (cd_n hk))
    refine lv_goto (tgt := 1652) hx hb dL_law_339 (by decide) ?_
    refine W.widen (k := kc + 1) (n := ks + 6) (by omega) (by omega) ?_
    exact KN H locs ls ⟨x9, ft, z, o_1, zc, oc, x2, ad, zk, ok, fl, sd, zs, os, jo, (s_X12_about_w0 v1 X), fR, fr, f, g, fd, fk, fz, o_X12, hP, hD, hW2⟩ hS (lv_sub hl [2, 3, 4, 5, 6] rfl)
set_option maxHeartbeats 2000000 in
set_option maxRecDepth 100000 in
theorem case_5 {p : Program} {l : Launch} {e : Env} {s : State} {m : MethodId} {below : List Frame} {meth : Method} {c : Code} {b L : Nat} {xs : Nat → Int32} {G : va_G} {y : Nat → ClassId} {h : Nat} {a : Nat → Nat} {jq mh : Nat} {w : Nat → Nat} {iv v1 v2 v3 : Int32} {N kc ks : Nat} {H : Heap} {locs : List Loc} {ls : Array Slot} (hfl : l.stackTraces = false) (C0 : lw_At p s m meth c b L xs) (hK : va_K G vwCl (tyJ y) s) (hN : NN s) (hTY : TY (fun q : Nat => s.heap.size ≤ q) s) (hin1 : vp_in (iv + 1) L) (hin2 : vp_in (iv + 2) L) (hin3 : vp_in (iv + 3) L) (hv1 : xs (iv + 1).toNatClampNeg = v1) (hv2 : xs (iv + 2).toNatClampNeg = v2) (hv3 : xs (iv + 3).toNatClampNeg = v3) (hkc : kc + 1 ≤ room_1.cells) (hks : ks + 6 ≤ room_1.slots) (hN9 : N + 12800 < 2147483648) (hI : LI G y h a jq mh w (fun q : Nat => s.heap.size ≤ q) N H) (hS : va_S (fun q : Nat => s.heap.size ≤ q) s.heap H locs) (hl : lv_has ls 7 [(0, .ref b), (1, .ref h), (2, .ref mh), (3, .ref jq), (4, .int iv)]) (KN : ∀ (H : Heap) (locs : List Loc) (ls : Array Slot), LI G y h a jq mh w (fun q : Nat => s.heap.size ≤ q) (N + 200) H → va_S (fun q : Nat => s.heap.size ≤ q) s.heap H locs → lv_has ls 7 [(0, .ref b), (1, .ref h), (2, .ref mh), (3, .ref jq), (4, .int iv)] → W p l e room_1 s m #[Value.ref b] below meth c H locs (kc + 1) (ks + 6) (lw_Z below #[Value.ref b] s) (F0 m 1652 ls [])) : W p l e room_1 s m #[Value.ref b] below meth c H locs kc ks (lw_Z below #[Value.ref b] s) (F0 m 342 ls []) := by
  obtain ⟨hx, hb, hr, hml, hown, hts, hX, hbl, hlocks, hgv⟩ := C0
  have hts := fun w hh => hts w (wsL_law_in w hh)
  have hbA : ¬ (fun q : Nat => s.heap.size ≤ q) b := Nat.not_le.mpr hbl
  have hA : ∀ q : Nat, s.heap.size ≤ q → (fun q : Nat => s.heap.size ≤ q) q := fun _ h => h
  have hK4 : va_K G vwCl (tyG y) s := hK.sub (tys' := tyG y) [0, 1, 2, 3] rfl
  have hown : s.vm.findClass RL = some m.cls := hown
  have hkc0 : kc ≤ room_1.cells := Nat.le_of_succ_le hkc
  have hks0 : ks ≤ room_1.slots := Nat.le_trans (Nat.le_add_right ks 6) hks
  obtain ⟨x9, ft, z, o, zc, oc, x2, ad, zk, ok, fl, sd, zs, os, jo, X, fR, fr, f, g, fd, fk, fz, o2, hP, hD, hW⟩ := hI
  by_cases hk : (s_X11_swing_k v1 v2 z) = 0
  · refine lv_aload_n hx hb dL_law_342 rfl (lv_at hl 1 rfl) ?_
    refine lv_aload_n hx hb dL_law_343 rfl (lv_at hl 0 rfl) ?_
    refine lv_iload hx hb dL_law_344 (lv_at hl 4 rfl) ?_
    refine lv_iconst (v := 1) hx hb dL_law_346 (by decide) ?_
    refine lv_iadd hx hb dL_law_347 ?_
    refine va_sld hx hb hX hbl hbA hS hin1 dL_law_348 ?_
    refine rw_i (x' := v1) hv1 ?_
    refine lv_aload_n hx hb dL_law_349 rfl (lv_at hl 0 rfl) ?_
    refine lv_iload hx hb dL_law_350 (lv_at hl 4 rfl) ?_
    refine lv_iconst (v := 2) hx hb dL_law_352 (by decide) ?_
    refine lv_iadd hx hb dL_law_353 ?_
    refine va_sld hx hb hX hbl hbA hS hin2 dL_law_354 ?_
    refine rw_i (x' := v2) hv2 ?_
    refine lv_aload_n hx hb dL_law_355 rfl (lv_at hl 3 rfl) ?_
    have hpm := qm0 (T := (kW y ad zk ok 14) ++ (kW y sd zs os 2)) (pr_10 y h a jq mh w x9 ft z o zc oc x2 ad fl sd jo X fR fr f g fd fk fz o2)
    have hPc : va_P G vwCl ([aJ y jq 1 jo] ++ [kX11 h (a 0) (a 2) (a 16) (a 30) (a 44) (a 46) Z0, kX7 (a 16) (a 17) (a 19) (a 20) (a 26) (a 28) (z 0), kX1 (a 19) (z 3), kX8 (a 20) (a 21) (a 22) (a 23) (a 24) (a 25) (z 4), aI y (a 21) 20 (z 5), aI y (a 22) 20 (z 6), aI y (a 23) 20 (z 7), aI y (a 24) 20 (z 8), aI y (a 25) 20 o]) H := P_r (P_perm hpm hP)
    have hDc : va_D (fun q : Nat => s.heap.size ≤ q) ([aJ y jq 1 jo] ++ [kX11 h (a 0) (a 2) (a 16) (a 30) (a 44) (a 46) Z0, kX7 (a 16) (a 17) (a 19) (a 20) (a 26) (a 28) (z 0), kX1 (a 19) (z 3), kX8 (a 20) (a 21) (a 22) (a 23) (a 24) (a 25) (z 4), aI y (a 21) 20 (z 5), aI y (a 22) 20 (z 6), aI y (a 23) 20 (z 7), aI y (a 24) 20 (z 8), aI y (a 25) 20 o]) := D_r (D_perm hpm hD)
    have hFc : ∀ q, va_A ([aJ y jq 1 jo] ++ [kX11 h (a 0) (a 2) (a 16) (a 30) (a 44) (a 46) Z0, kX7 (a 16) (a 17) (a 19) (a 20) (a 26) (a 28) (z 0), kX1 (a 19) (z 3), kX8 (a 20) (a 21) (a 22) (a 23) (a 24) (a 25) (z 4), aI y (a 21) 20 (z 5), aI y (a 22) 20 (z 6), aI y (a 23) 20 (z 7), aI y (a 24) 20 (z 8), aI y (a 25) 20 o]) H.size q → s.heap.size ≤ q := F_r (D_perm hpm hD) hS hA
    refine cl_LP (fun u : (Nat → Int32) => ((lwE y h a jq mh w x9 ft z u zc oc x2 ad fl sd (vp_updL jo 0 (s_X11_swing_r v1 v2 z).toInt64) X fR fr f g fd fk fz o2) ++ ((kW y ad zk ok 14) ++ (kW y sd zs os 2)))) hpm (fun u => qm0 (T := (kW y ad zk ok 14) ++ (kW y sd zs os 2)) (pr_10 y h a jq mh w x9 ft z u zc oc x2 ad fl sd (vp_updL jo 0 (s_X11_swing_r v1 v2 z).toInt64) X fR fr f g fd fk fz o2)) (vx_runSX (As := [.ref h, .int v1, .int v2, .ref jq]) (rest := []) ⟨hx, hb, hml, hown, hts⟩ (c_L_swing_y l G y h v1 v2 (a 0) (a 2) (a 16) (a 30) (a 44) (a 46) (a 17) (a 19) (a 20) (a 26) (a 28) z (a 21) (a 22) (a 23) (a 24) (a 25) o jq jo H.size (wf_w hW) hk hfl) (vx_cwSW 4 hts gL_law_L_swing rfl rfl rfl (by decide +kernel) ⟨Nat.le_of_ble_eq_true rfl, Nat.le_of_ble_eq_true rfl⟩) (PHL_S hPc hK hN hDc hTY hS hFc) rfl rfl hl.1 rfl (lv_room (Nat.le_of_ble_eq_true rfl)) dL_law_356 ⟨hkc, hks⟩) hP hD hS hA (fun u H locs hP hD hS => ?_)
    obtain ⟨o_1, rfl⟩ : ∃ zq9, zq9 = u := ⟨_, rfl⟩
    have hP : va_P G vwCl ((lwE y h a jq mh w x9 ft z o_1 zc oc x2 ad fl sd (vp_updL jo 0 (s_X11_swing_r v1 v2 z).toInt64) X fR fr f g fd fk fz o2) ++ ((kW y ad zk ok 14) ++ (kW y sd zs os 2))) H := hP
    have hD : va_D (fun q : Nat => s.heap.size ≤ q) ((lwE y h a jq mh w x9 ft z o_1 zc oc x2 ad fl sd (vp_updL jo 0 (s_X11_swing_r v1 v2 z).toInt64) X fR fr f g fd fk fz o2) ++ ((kW y ad zk ok 14) ++ (kW y sd zs os 2))) := hD
    refine lv_istore (lv' := [(5, .int 0), (0, .ref b), (1, .ref h), (2, .ref mh), (3, .ref jq), (4, .int iv)]) hx hb dL_law_359 hl (by decide) rfl (fun ls hl => ?_)
    refine lv_aload_n hx hb dL_law_361 rfl (lv_at hl 3 rfl) ?_
    refine lv_aload_n hx hb dL_law_362 rfl (lv_at hl 1 rfl) ?_
    refine lv_iload hx hb dL_law_363 (lv_at hl 5 rfl) ?_
    refine lv_iconst (v := 1) hx hb dL_law_365 (by decide) ?_
    refine lv_iadd hx hb dL_law_366 ?_
    refine va_sld hx hb hX hbl hbA hS hin1 dL_law_367 ?_
    refine rw_i (x' := v1) hv1 ?_
    refine lv_aload_n hx hb dL_law_368 rfl (lv_at hl 1 rfl) ?_
    refine lv_iload hx hb dL_law_369 (lv_at hl 5 rfl) ?_
    refine lv_iconst (v := 2) hx hb dL_law_371 (by decide) ?_
    refine lv_iadd hx hb dL_law_372 ?_
    refine va_sld hx hb hX hbl hbA hS hin2 dL_law_373 ?_
    refine rw_i (x' := v2) hv2 ?_
    have hpm := qm0 (T := (kW y ad zk ok 14) ++ (kW y sd zs os 2)) (pr_9 y h a jq mh w x9 ft z o_1 zc oc x2 ad fl sd (vp_updL jo 0 (s_X11_swing_r v1 v2 z).toInt64) X fR fr f g fd fk fz o2)
    have hPc : va_P G vwCl [kX12 mh (w 0) (w 1) (w 2) (w 3) (w 4) (w 5) (w 6) (w 7) X, aI y (w 2) 154 f, aI y (w 7) 20 o2] H := P_r (P_perm hpm hP)
    have hDc : va_D (fun q : Nat => s.heap.size ≤ q) [kX12 mh (w 0) (w 1) (w 2) (w 3) (w 4) (w 5) (w 6) (w 7) X, aI y (w 2) 154 f, aI y (w 7) 20 o2] := D_r (D_perm hpm hD)
    refine cl_MP (fun u : (Nat → Int32) => ((lwE y h a jq mh w x9 ft z o_1 zc oc x2 ad fl sd (vp_updL jo 0 (s_X11_swing_r v1 v2 z).toInt64) (s_X12_swing_w0 v1 v2 X f) fR fr f g fd fk fz u) ++ ((kW y ad zk ok 14) ++ (kW y sd zs os 2)))) hpm (fun u => qm0 (T := (kW y ad zk ok 14) ++ (kW y sd zs os 2)) (pr_9 y h a jq mh w x9 ft z o_1 zc oc x2 ad fl sd (vp_updL jo 0 (s_X11_swing_r v1 v2 z).toInt64) (s_X12_swing_w0 v1 v2 X f) fR fr f g fd fk fz u)) (va_runV (As := [.int v1, .int v2]) (rest := []) ⟨hx, hb, hml, hown, hts⟩ (c_X12_swing l G y mh v1 v2 (w 0) (w 1) (w 2) (w 3) (w 4) (w 5) (w 6) (w 7) X f o2 H.size (wf_16 hW)) (cwV 2 hts gL_law_X12_swing rfl rfl rfl (by decide +kernel) ⟨Nat.le_of_ble_eq_true rfl, Nat.le_of_ble_eq_true rfl⟩) (PH_V hPc hK4 hN hDc (ci := 10) (q0 := 0) rfl rfl) rfl rfl hl.1 rfl (lv_room (Nat.le_of_ble_eq_true rfl)) dL_law_374 ⟨hkc, hks⟩) hP hD hS hA (fun u H locs hP hD hS => ?_)
    obtain ⟨o_X12, rfl⟩ : ∃ zq9, zq9 = u := ⟨_, rfl⟩
    have hP : va_P G vwCl ((lwE y h a jq mh w x9 ft z o_1 zc oc x2 ad fl sd (vp_updL jo 0 (s_X11_swing_r v1 v2 z).toInt64) (s_X12_swing_w0 v1 v2 X f) fR fr f g fd fk fz o_X12) ++ ((kW y ad zk ok 14) ++ (kW y sd zs os 2))) H := hP
    have hD : va_D (fun q : Nat => s.heap.size ≤ q) ((lwE y h a jq mh w x9 ft z o_1 zc oc x2 ad fl sd (vp_updL jo 0 (s_X11_swing_r v1 v2 z).toInt64) (s_X12_swing_w0 v1 v2 X f) fR fr f g fd fk fz o_X12) ++ ((kW y ad zk ok 14) ++ (kW y sd zs os 2))) := hD
    obtain ⟨e1, e2, hW2⟩ := ly_swing hW hN9 hk
    have hT : s_X12_thrown_r (s_X12_swing_w0 v1 v2 X f) = 0 := (thr_eq _).trans e2
    refine lv_istore (lv' := [(6, .int (s_X12_swing_r v1 v2 f)), (5, .int 0), (0, .ref b), (1, .ref h), (2, .ref mh), (3, .ref jq), (4, .int iv)]) hx hb dL_law_377 hl (by decide) rfl (fun ls hl => ?_)
    refine lv_aload_n hx hb dL_law_379 rfl (lv_at hl 4 rfl) ?_
    refine cl_Ri (va_runV (As := []) (rest := []) ⟨hx, hb, hml, hown, hts⟩ (c_X12_thrown l G y mh (w 0) (w 1) (w 2) (w 3) (w 4) (w 5) (w 6) (w 7) (s_X12_swing_w0 v1 v2 X f)) (cwV 0 hts gL_law_X12_thrown rfl rfl rfl (by decide +kernel) ⟨Nat.le_of_ble_eq_true rfl, Nat.le_of_ble_eq_true rfl⟩) (PR_V (sel_P [50] (rfl : sel _ [50] = [kX12 mh (w 0) (w 1) (w 2) (w 3) (w 4) (w 5) (w 6) (w 7) (s_X12_swing_w0 v1 v2 X f)]) hP) hK4 hN (ci := 10) (q0 := 0) rfl rfl) rfl rfl hl.1 rfl (lv_room (Nat.le_of_ble_eq_true rfl)) dL_law_380 ⟨hkc, hks⟩) ?_
    refine lv_iload hx hb dL_law_383 (lv_at hl 1 rfl) ?_
    refine lv_icmp_eq (tgt := 390) hx hb dL_law_385 (by decide) (fun _ => ?_) (fun c9 => absurd hT c9)
    refine lv_iload hx hb dL_law_390 (lv_at hl 1 rfl) ?_
    refine lv_if_ne (tgt := 407) hx hb dL_law_392 (by decide) (fun c9 => absurd rfl c9) (fun _ => ?_)
    refine lv_aload_n hx hb dL_law_395 rfl (lv_at hl 5 rfl) ?_
    refine lv_iconst (v := 0) hx hb dL_law_396 (by decide) ?_
    refine al_o hx hb hK 59 hP rfl dL_law_397 ?_
    refine lv_iload hx hb dL_law_398 (lv_at hl 0 rfl) ?_
    refine lv_i2l (v := (s_X12_swing_r v1 v2 f).toInt64) hx hb dL_law_400 rfl ?_
    refine W.lcmp hx hb dL_law_401 ?_
    refine lv_if_eq (tgt := 407) hx hb dL_law_402 (by decide) (fun _ => ?_) (fun c9 => absurd (lg_o e1) c9)
    refine lv_goto (tgt := 1652) hx hb dL_law_407 (by decide) ?_
    refine W.widen (k := kc + 1) (n := ks + 6) (by omega) (by omega) ?_
    exact KN H locs ls ⟨x9, ft, z, o_1, zc, oc, x2, ad, zk, ok, fl, sd, zs, os, (vp_updL jo 0 (s_X11_swing_r v1 v2 z).toInt64), (s_X12_swing_w0 v1 v2 X f), fR, fr, f, g, fd, fk, fz, o_X12, hP, hD, hW2⟩ hS (lv_sub hl [2, 3, 4, 5, 6] rfl)
  · refine lv_aload_n hx hb dL_law_342 rfl (lv_at hl 1 rfl) ?_
    refine lv_aload_n hx hb dL_law_343 rfl (lv_at hl 0 rfl) ?_
    refine lv_iload hx hb dL_law_344 (lv_at hl 4 rfl) ?_
    refine lv_iconst (v := 1) hx hb dL_law_346 (by decide) ?_
    refine lv_iadd hx hb dL_law_347 ?_
    refine va_sld hx hb hX hbl hbA hS hin1 dL_law_348 ?_
    refine rw_i (x' := v1) hv1 ?_
    refine lv_aload_n hx hb dL_law_349 rfl (lv_at hl 0 rfl) ?_
    refine lv_iload hx hb dL_law_350 (lv_at hl 4 rfl) ?_
    refine lv_iconst (v := 2) hx hb dL_law_352 (by decide) ?_
    refine lv_iadd hx hb dL_law_353 ?_
    refine va_sld hx hb hX hbl hbA hS hin2 dL_law_354 ?_
    refine rw_i (x' := v2) hv2 ?_
    refine lv_aload_n hx hb dL_law_355 rfl (lv_at hl 3 rfl) ?_
    have hpm := qm0 (T := (kW y ad zk ok 14) ++ (kW y sd zs os 2)) (pr_10 y h a jq mh w x9 ft z o zc oc x2 ad fl sd jo X fR fr f g fd fk fz o2)
    have hPc : va_P G vwCl ([aJ y jq 1 jo] ++ [kX11 h (a 0) (a 2) (a 16) (a 30) (a 44) (a 46) Z0, kX7 (a 16) (a 17) (a 19) (a 20) (a 26) (a 28) (z 0), kX1 (a 19) (z 3), kX8 (a 20) (a 21) (a 22) (a 23) (a 24) (a 25) (z 4), aI y (a 21) 20 (z 5), aI y (a 22) 20 (z 6), aI y (a 23) 20 (z 7), aI y (a 24) 20 (z 8), aI y (a 25) 20 o]) H := P_r (P_perm hpm hP)
    have hDc : va_D (fun q : Nat => s.heap.size ≤ q) ([aJ y jq 1 jo] ++ [kX11 h (a 0) (a 2) (a 16) (a 30) (a 44) (a 46) Z0, kX7 (a 16) (a 17) (a 19) (a 20) (a 26) (a 28) (z 0), kX1 (a 19) (z 3), kX8 (a 20) (a 21) (a 22) (a 23) (a 24) (a 25) (z 4), aI y (a 21) 20 (z 5), aI y (a 22) 20 (z 6), aI y (a 23) 20 (z 7), aI y (a 24) 20 (z 8), aI y (a 25) 20 o]) := D_r (D_perm hpm hD)
    have hFc : ∀ q, va_A ([aJ y jq 1 jo] ++ [kX11 h (a 0) (a 2) (a 16) (a 30) (a 44) (a 46) Z0, kX7 (a 16) (a 17) (a 19) (a 20) (a 26) (a 28) (z 0), kX1 (a 19) (z 3), kX8 (a 20) (a 21) (a 22) (a 23) (a 24) (a 25) (z 4), aI y (a 21) 20 (z 5), aI y (a 22) 20 (z 6), aI y (a 23) 20 (z 7), aI y (a 24) 20 (z 8), aI y (a 25) 20 o]) H.size q → s.heap.size ≤ q := F_r (D_perm hpm hD) hS hA
    refine cl_LP (fun u : (Nat → Int32) => ((lwE y h a jq mh w x9 ft z u zc oc x2 ad fl sd jo X fR fr f g fd fk fz o2) ++ ((kW y ad zk ok 14) ++ (kW y sd zs os 2)))) hpm (fun u => qm0 (T := (kW y ad zk ok 14) ++ (kW y sd zs os 2)) (pr_10 y h a jq mh w x9 ft z u zc oc x2 ad fl sd jo X fR fr f g fd fk fz o2)) (vx_runSX (As := [.ref h, .int v1, .int v2, .ref jq]) (rest := []) ⟨hx, hb, hml, hown, hts⟩ (c_L_swing_n l G y h v1 v2 (a 0) (a 2) (a 16) (a 30) (a 44) (a 46) (a 17) (a 19) (a 20) (a 26) (a 28) z (a 21) (a 22) (a 23) (a 24) (a 25) o jq jo H.size (wf_w hW) hk hfl) (vx_cwSW 4 hts gL_law_L_swing rfl rfl rfl (by decide +kernel) ⟨Nat.le_of_ble_eq_true rfl, Nat.le_of_ble_eq_true rfl⟩) (PHL_S hPc hK hN hDc hTY hS hFc) rfl rfl hl.1 rfl (lv_room (Nat.le_of_ble_eq_true rfl)) dL_law_356 ⟨hkc, hks⟩) hP hD hS hA (fun u H locs hP hD hS => ?_)
    obtain ⟨o_1, rfl⟩ : ∃ zq9, zq9 = u := ⟨_, rfl⟩
    have hP : va_P G vwCl ((lwE y h a jq mh w x9 ft z o_1 zc oc x2 ad fl sd jo X fR fr f g fd fk fz o2) ++ ((kW y ad zk ok 14) ++ (kW y sd zs os 2))) H := hP
    have hD : va_D (fun q : Nat => s.heap.size ≤ q) ((lwE y h a jq mh w x9 ft z o_1 zc oc x2 ad fl sd jo X fR fr f g fd fk fz o2) ++ ((kW y ad zk ok 14) ++ (kW y sd zs os 2))) := hD
    refine lv_istore (lv' := [(5, .int (cdK 3 (s_X11_swing_k v1 v2 z))), (0, .ref b), (1, .ref h), (2, .ref mh), (3, .ref jq), (4, .int iv)]) hx hb dL_law_359 hl (by decide) rfl (fun ls hl => ?_)
    refine lv_aload_n hx hb dL_law_361 rfl (lv_at hl 3 rfl) ?_
    refine lv_aload_n hx hb dL_law_362 rfl (lv_at hl 1 rfl) ?_
    refine lv_iload hx hb dL_law_363 (lv_at hl 5 rfl) ?_
    refine lv_iconst (v := 1) hx hb dL_law_365 (by decide) ?_
    refine lv_iadd hx hb dL_law_366 ?_
    refine va_sld hx hb hX hbl hbA hS hin1 dL_law_367 ?_
    refine rw_i (x' := v1) hv1 ?_
    refine lv_aload_n hx hb dL_law_368 rfl (lv_at hl 1 rfl) ?_
    refine lv_iload hx hb dL_law_369 (lv_at hl 5 rfl) ?_
    refine lv_iconst (v := 2) hx hb dL_law_371 (by decide) ?_
    refine lv_iadd hx hb dL_law_372 ?_
    refine va_sld hx hb hX hbl hbA hS hin2 dL_law_373 ?_
    refine rw_i (x' := v2) hv2 ?_
    have hpm := qm0 (T := (kW y ad zk ok 14) ++ (kW y sd zs os 2)) (pr_9 y h a jq mh w x9 ft z o_1 zc oc x2 ad fl sd jo X fR fr f g fd fk fz o2)
    have hPc : va_P G vwCl [kX12 mh (w 0) (w 1) (w 2) (w 3) (w 4) (w 5) (w 6) (w 7) X, aI y (w 2) 154 f, aI y (w 7) 20 o2] H := P_r (P_perm hpm hP)
    have hDc : va_D (fun q : Nat => s.heap.size ≤ q) [kX12 mh (w 0) (w 1) (w 2) (w 3) (w 4) (w 5) (w 6) (w 7) X, aI y (w 2) 154 f, aI y (w 7) 20 o2] := D_r (D_perm hpm hD)
    refine cl_MP (fun u : (Nat → Int32) => ((lwE y h a jq mh w x9 ft z o_1 zc oc x2 ad fl sd jo (s_X12_swing_w0 v1 v2 X f) fR fr f g fd fk fz u) ++ ((kW y ad zk ok 14) ++ (kW y sd zs os 2)))) hpm (fun u => qm0 (T := (kW y ad zk ok 14) ++ (kW y sd zs os 2)) (pr_9 y h a jq mh w x9 ft z o_1 zc oc x2 ad fl sd jo (s_X12_swing_w0 v1 v2 X f) fR fr f g fd fk fz u)) (va_runV (As := [.int v1, .int v2]) (rest := []) ⟨hx, hb, hml, hown, hts⟩ (c_X12_swing l G y mh v1 v2 (w 0) (w 1) (w 2) (w 3) (w 4) (w 5) (w 6) (w 7) X f o2 H.size (wf_16 hW)) (cwV 2 hts gL_law_X12_swing rfl rfl rfl (by decide +kernel) ⟨Nat.le_of_ble_eq_true rfl, Nat.le_of_ble_eq_true rfl⟩) (PH_V hPc hK4 hN hDc (ci := 10) (q0 := 0) rfl rfl) rfl rfl hl.1 rfl (lv_room (Nat.le_of_ble_eq_true rfl)) dL_law_374 ⟨hkc, hks⟩) hP hD hS hA (fun u H locs hP hD hS => ?_)
    obtain ⟨o_X12, rfl⟩ : ∃ zq9, zq9 = u := ⟨_, rfl⟩
    have hP : va_P G vwCl ((lwE y h a jq mh w x9 ft z o_1 zc oc x2 ad fl sd jo (s_X12_swing_w0 v1 v2 X f) fR fr f g fd fk fz o_X12) ++ ((kW y ad zk ok 14) ++ (kW y sd zs os 2))) H := hP
    have hD : va_D (fun q : Nat => s.heap.size ≤ q) ((lwE y h a jq mh w x9 ft z o_1 zc oc x2 ad fl sd jo (s_X12_swing_w0 v1 v2 X f) fR fr f g fd fk fz o_X12) ++ ((kW y ad zk ok 14) ++ (kW y sd zs os 2))) := hD
    obtain ⟨e2, hW2⟩ := ln_swing hW hk
    have hT : s_X12_thrown_r (s_X12_swing_w0 v1 v2 X f) = cdK 3 (s_X11_swing_k v1 v2 z) := (thr_eq _).trans e2
    refine lv_istore (lv' := [(6, .int (s_X12_swing_r v1 v2 f)), (5, .int (cdK 3 (s_X11_swing_k v1 v2 z))), (0, .ref b), (1, .ref h), (2, .ref mh), (3, .ref jq), (4, .int iv)]) hx hb dL_law_377 hl (by decide) rfl (fun ls hl => ?_)
    refine lv_aload_n hx hb dL_law_379 rfl (lv_at hl 4 rfl) ?_
    refine cl_Ri (va_runV (As := []) (rest := []) ⟨hx, hb, hml, hown, hts⟩ (c_X12_thrown l G y mh (w 0) (w 1) (w 2) (w 3) (w 4) (w 5) (w 6) (w 7) (s_X12_swing_w0 v1 v2 X f)) (cwV 0 hts gL_law_X12_thrown rfl rfl rfl (by decide +kernel) ⟨Nat.le_of_ble_eq_true rfl, Nat.le_of_ble_eq_true rfl⟩) (PR_V (sel_P [50] (rfl : sel _ [50] = [kX12 mh (w 0) (w 1) (w 2) (w 3) (w 4) (w 5) (w 6) (w 7) (s_X12_swing_w0 v1 v2 X f)]) hP) hK4 hN (ci := 10) (q0 := 0) rfl rfl) rfl rfl hl.1 rfl (lv_room (Nat.le_of_ble_eq_true rfl)) dL_law_380 ⟨hkc, hks⟩) ?_
    refine lv_iload hx hb dL_law_383 (lv_at hl 1 rfl) ?_
    refine lv_icmp_eq (tgt := 390) hx hb dL_law_385 (by decide) (fun _ => ?_) (fun c9 => absurd hT c9)
    refine lv_iload hx hb dL_law_390 (lv_at hl 1 rfl) ?_
    refine lv_if_ne (tgt := 407) hx hb dL_law_392 (by decide) (fun _ => ?_) (fun c9 => absurd c9 (cd_n hk))
    refine lv_goto (tgt := 1652) hx hb dL_law_407 (by decide) ?_
    refine W.widen (k := kc + 1) (n := ks + 6) (by omega) (by omega) ?_
    exact KN H locs ls ⟨x9, ft, z, o_1, zc, oc, x2, ad, zk, ok, fl, sd, zs, os, jo, (s_X12_swing_w0 v1 v2 X f), fR, fr, f, g, fd, fk, fz, o_X12, hP, hD, hW2⟩ hS (lv_sub hl [2, 3, 4, 5, 6] rfl)
set_option maxHeartbeats 2000000 in
set_option maxRecDepth 100000 in
theorem case_6 {p : Program} {l : Launch} {e : Env} {s : State} {m : MethodId} {below : List Frame} {meth : Method} {c : Code} {b L : Nat} {xs : Nat → Int32} {G : va_G} {y : Nat → ClassId} {h : Nat} {a : Nat → Nat} {jq mh : Nat} {w : Nat → Nat} {iv v1 v2 v3 : Int32} {N kc ks : Nat} {H : Heap} {locs : List Loc} {ls : Array Slot} (hfl : l.stackTraces = false) (C0 : lw_At p s m meth c b L xs) (hK : va_K G vwCl (tyJ y) s) (hN : NN s) (hTY : TY (fun q : Nat => s.heap.size ≤ q) s) (hin1 : vp_in (iv + 1) L) (hin2 : vp_in (iv + 2) L) (hin3 : vp_in (iv + 3) L) (hv1 : xs (iv + 1).toNatClampNeg = v1) (hv2 : xs (iv + 2).toNatClampNeg = v2) (hv3 : xs (iv + 3).toNatClampNeg = v3) (hkc : kc + 1 ≤ room_1.cells) (hks : ks + 6 ≤ room_1.slots) (hN9 : N + 12800 < 2147483648) (hI : LI G y h a jq mh w (fun q : Nat => s.heap.size ≤ q) N H) (hS : va_S (fun q : Nat => s.heap.size ≤ q) s.heap H locs) (hl : lv_has ls 7 [(0, .ref b), (1, .ref h), (2, .ref mh), (3, .ref jq), (4, .int iv)]) (KN : ∀ (H : Heap) (locs : List Loc) (ls : Array Slot), LI G y h a jq mh w (fun q : Nat => s.heap.size ≤ q) (N + 200) H → va_S (fun q : Nat => s.heap.size ≤ q) s.heap H locs → lv_has ls 7 [(0, .ref b), (1, .ref h), (2, .ref mh), (3, .ref jq), (4, .int iv)] → W p l e room_1 s m #[Value.ref b] below meth c H locs (kc + 1) (ks + 6) (lw_Z below #[Value.ref b] s) (F0 m 1652 ls [])) : W p l e room_1 s m #[Value.ref b] below meth c H locs kc ks (lw_Z below #[Value.ref b] s) (F0 m 410 ls []) := by
  obtain ⟨hx, hb, hr, hml, hown, hts, hX, hbl, hlocks, hgv⟩ := C0
  have hts := fun w hh => hts w (wsL_law_in w hh)
  have hbA : ¬ (fun q : Nat => s.heap.size ≤ q) b := Nat.not_le.mpr hbl
  have hA : ∀ q : Nat, s.heap.size ≤ q → (fun q : Nat => s.heap.size ≤ q) q := fun _ h => h
  have hK4 : va_K G vwCl (tyG y) s := hK.sub (tys' := tyG y) [0, 1, 2, 3] rfl
  have hown : s.vm.findClass RL = some m.cls := hown
  have hkc0 : kc ≤ room_1.cells := Nat.le_of_succ_le hkc
  have hks0 : ks ≤ room_1.slots := Nat.le_trans (Nat.le_add_right ks 6) hks
  obtain ⟨x9, ft, z, o, zc, oc, x2, ad, zk, ok, fl, sd, zs, os, jo, X, fR, fr, f, g, fd, fk, fz, o2, hP, hD, hW⟩ := hI
  by_cases hk : (s_X11_account_k v1) = 0
  · refine lv_aload_n hx hb dL_law_410 rfl (lv_at hl 1 rfl) ?_
    refine lv_aload_n hx hb dL_law_411 rfl (lv_at hl 0 rfl) ?_
    refine lv_iload hx hb dL_law_412 (lv_at hl 4 rfl) ?_
    refine lv_iconst (v := 1) hx hb dL_law_414 (by decide) ?_
    refine lv_iadd hx hb dL_law_415 ?_
    refine va_sld hx hb hX hbl hbA hS hin1 dL_law_416 ?_
    refine rw_i (x' := v1) hv1 ?_
    refine lv_aload_n hx hb dL_law_417 rfl (lv_at hl 3 rfl) ?_
    have hpm := qm0 (T := (kW y ad zk ok 14) ++ (kW y sd zs os 2)) (pr_11 y h a jq mh w x9 ft z o zc oc x2 ad fl sd jo X fR fr f g fd fk fz o2)
    have hPc : va_P G vwCl ([aJ y jq 1 jo] ++ [kX11 h (a 0) (a 2) (a 16) (a 30) (a 44) (a 46) Z0, kX7 (a 16) (a 17) (a 19) (a 20) (a 26) (a 28) (z 0), kX0 (a 28) (a 29) (z 11), aI y (a 29) 3 (z 12)]) H := P_r (P_perm hpm hP)
    have hDc : va_D (fun q : Nat => s.heap.size ≤ q) ([aJ y jq 1 jo] ++ [kX11 h (a 0) (a 2) (a 16) (a 30) (a 44) (a 46) Z0, kX7 (a 16) (a 17) (a 19) (a 20) (a 26) (a 28) (z 0), kX0 (a 28) (a 29) (z 11), aI y (a 29) 3 (z 12)]) := D_r (D_perm hpm hD)
    have hFc : ∀ q, va_A ([aJ y jq 1 jo] ++ [kX11 h (a 0) (a 2) (a 16) (a 30) (a 44) (a 46) Z0, kX7 (a 16) (a 17) (a 19) (a 20) (a 26) (a 28) (z 0), kX0 (a 28) (a 29) (z 11), aI y (a 29) 3 (z 12)]) H.size q → s.heap.size ≤ q := F_r (D_perm hpm hD) hS hA
    refine cl_LP (fun _ : Unit => ((lwE y h a jq mh w x9 ft z o zc oc x2 ad fl sd (vp_updL jo 0 (s_X11_account_r v1 z).toInt64) X fR fr f g fd fk fz o2) ++ ((kW y ad zk ok 14) ++ (kW y sd zs os 2)))) hpm (fun _ => qm0 (T := (kW y ad zk ok 14) ++ (kW y sd zs os 2)) (pr_11 y h a jq mh w x9 ft z o zc oc x2 ad fl sd (vp_updL jo 0 (s_X11_account_r v1 z).toInt64) X fR fr f g fd fk fz o2)) (vx_runSX (As := [.ref h, .int v1, .ref jq]) (rest := []) ⟨hx, hb, hml, hown, hts⟩ (c_L_account_y l G y h v1 (a 0) (a 2) (a 16) (a 30) (a 44) (a 46) (a 17) (a 19) (a 20) (a 26) (a 28) z (a 29) jq jo H.size hk hfl) (vx_cwSW 3 hts gL_law_L_account rfl rfl rfl (by decide +kernel) ⟨Nat.le_of_ble_eq_true rfl, Nat.le_of_ble_eq_true rfl⟩) (PHL_S hPc hK hN hDc hTY hS hFc) rfl rfl hl.1 rfl (lv_room (Nat.le_of_ble_eq_true rfl)) dL_law_418 ⟨hkc, hks⟩) hP hD hS hA (fun _ H locs hP hD hS => ?_)
    have hP : va_P G vwCl ((lwE y h a jq mh w x9 ft z o zc oc x2 ad fl sd (vp_updL jo 0 (s_X11_account_r v1 z).toInt64) X fR fr f g fd fk fz o2) ++ ((kW y ad zk ok 14) ++ (kW y sd zs os 2))) H := hP
    have hD : va_D (fun q : Nat => s.heap.size ≤ q) ((lwE y h a jq mh w x9 ft z o zc oc x2 ad fl sd (vp_updL jo 0 (s_X11_account_r v1 z).toInt64) X fR fr f g fd fk fz o2) ++ ((kW y ad zk ok 14) ++ (kW y sd zs os 2))) := hD
    refine lv_istore (lv' := [(5, .int 0), (0, .ref b), (1, .ref h), (2, .ref mh), (3, .ref jq), (4, .int iv)]) hx hb dL_law_421 hl (by decide) rfl (fun ls hl => ?_)
    refine lv_aload_n hx hb dL_law_423 rfl (lv_at hl 3 rfl) ?_
    refine lv_aload_n hx hb dL_law_424 rfl (lv_at hl 1 rfl) ?_
    refine lv_iload hx hb dL_law_425 (lv_at hl 5 rfl) ?_
    refine lv_iconst (v := 1) hx hb dL_law_427 (by decide) ?_
    refine lv_iadd hx hb dL_law_428 ?_
    refine va_sld hx hb hX hbl hbA hS hin1 dL_law_429 ?_
    refine rw_i (x' := v1) hv1 ?_
    have hpm := qm0 (T := (kW y ad zk ok 14) ++ (kW y sd zs os 2)) (pr_12 y h a jq mh w x9 ft z o zc oc x2 ad fl sd (vp_updL jo 0 (s_X11_account_r v1 z).toInt64) X fR fr f g fd fk fz o2)
    have hPc : va_P G vwCl [kX12 mh (w 0) (w 1) (w 2) (w 3) (w 4) (w 5) (w 6) (w 7) X, aI y (w 2) 154 f] H := P_r (P_perm hpm hP)
    have hDc : va_D (fun q : Nat => s.heap.size ≤ q) [kX12 mh (w 0) (w 1) (w 2) (w 3) (w 4) (w 5) (w 6) (w 7) X, aI y (w 2) 154 f] := D_r (D_perm hpm hD)
    refine cl_MP (fun _ : Unit => ((lwE y h a jq mh w x9 ft z o zc oc x2 ad fl sd (vp_updL jo 0 (s_X11_account_r v1 z).toInt64) (s_X12_account_w0 v1 X) fR fr f g fd fk fz o2) ++ ((kW y ad zk ok 14) ++ (kW y sd zs os 2)))) hpm (fun _ => qm0 (T := (kW y ad zk ok 14) ++ (kW y sd zs os 2)) (pr_12 y h a jq mh w x9 ft z o zc oc x2 ad fl sd (vp_updL jo 0 (s_X11_account_r v1 z).toInt64) (s_X12_account_w0 v1 X) fR fr f g fd fk fz o2)) (va_runV (As := [.int v1]) (rest := []) ⟨hx, hb, hml, hown, hts⟩ (c_X12_account l G y mh v1 (w 0) (w 1) (w 2) (w 3) (w 4) (w 5) (w 6) (w 7) X f H.size) (cwV 1 hts gL_law_X12_account rfl rfl rfl (by decide +kernel) ⟨Nat.le_of_ble_eq_true rfl, Nat.le_of_ble_eq_true rfl⟩) (PH_V hPc hK4 hN hDc (ci := 10) (q0 := 0) rfl rfl) rfl rfl hl.1 rfl (lv_room (Nat.le_of_ble_eq_true rfl)) dL_law_430 ⟨hkc, hks⟩) hP hD hS hA (fun _ H locs hP hD hS => ?_)
    have hP : va_P G vwCl ((lwE y h a jq mh w x9 ft z o zc oc x2 ad fl sd (vp_updL jo 0 (s_X11_account_r v1 z).toInt64) (s_X12_account_w0 v1 X) fR fr f g fd fk fz o2) ++ ((kW y ad zk ok 14) ++ (kW y sd zs os 2))) H := hP
    have hD : va_D (fun q : Nat => s.heap.size ≤ q) ((lwE y h a jq mh w x9 ft z o zc oc x2 ad fl sd (vp_updL jo 0 (s_X11_account_r v1 z).toInt64) (s_X12_account_w0 v1 X) fR fr f g fd fk fz o2) ++ ((kW y ad zk ok 14) ++ (kW y sd zs os 2))) := hD
    obtain ⟨e1, e2, hW2⟩ := ly_account hW hN9 hk
    have hT : s_X12_thrown_r (s_X12_account_w0 v1 X) = 0 := (thr_eq _).trans e2
    refine lv_istore (lv' := [(6, .int (s_X12_account_r v1 f)), (5, .int 0), (0, .ref b), (1, .ref h), (2, .ref mh), (3, .ref jq), (4, .int iv)]) hx hb dL_law_433 hl (by decide) rfl (fun ls hl => ?_)
    refine lv_aload_n hx hb dL_law_435 rfl (lv_at hl 4 rfl) ?_
    refine cl_Ri (va_runV (As := []) (rest := []) ⟨hx, hb, hml, hown, hts⟩ (c_X12_thrown l G y mh (w 0) (w 1) (w 2) (w 3) (w 4) (w 5) (w 6) (w 7) (s_X12_account_w0 v1 X)) (cwV 0 hts gL_law_X12_thrown rfl rfl rfl (by decide +kernel) ⟨Nat.le_of_ble_eq_true rfl, Nat.le_of_ble_eq_true rfl⟩) (PR_V (sel_P [50] (rfl : sel _ [50] = [kX12 mh (w 0) (w 1) (w 2) (w 3) (w 4) (w 5) (w 6) (w 7) (s_X12_account_w0 v1 X)]) hP) hK4 hN (ci := 10) (q0 := 0) rfl rfl) rfl rfl hl.1 rfl (lv_room (Nat.le_of_ble_eq_true rfl)) dL_law_436 ⟨hkc, hks⟩) ?_
    refine lv_iload hx hb dL_law_439 (lv_at hl 1 rfl) ?_
    refine lv_icmp_eq (tgt := 446) hx hb dL_law_441 (by decide) (fun _ => ?_) (fun c9 => absurd hT c9)
    refine lv_iload hx hb dL_law_446 (lv_at hl 1 rfl) ?_
    refine lv_if_ne (tgt := 463) hx hb dL_law_448 (by decide) (fun c9 => absurd rfl c9) (fun _ => ?_)
    refine lv_aload_n hx hb dL_law_451 rfl (lv_at hl 5 rfl) ?_
    refine lv_iconst (v := 0) hx hb dL_law_452 (by decide) ?_
    refine al_o hx hb hK 59 hP rfl dL_law_453 ?_
    refine lv_iload hx hb dL_law_454 (lv_at hl 0 rfl) ?_
    refine lv_i2l (v := (s_X12_account_r v1 f).toInt64) hx hb dL_law_456 rfl ?_
    refine W.lcmp hx hb dL_law_457 ?_
    refine lv_if_eq (tgt := 463) hx hb dL_law_458 (by decide) (fun _ => ?_) (fun c9 => absurd (lg_o e1) c9)
    refine lv_goto (tgt := 1652) hx hb dL_law_463 (by decide) ?_
    refine W.widen (k := kc + 1) (n := ks + 6) (by omega) (by omega) ?_
    exact KN H locs ls ⟨x9, ft, z, o, zc, oc, x2, ad, zk, ok, fl, sd, zs, os, (vp_updL jo 0 (s_X11_account_r v1 z).toInt64), (s_X12_account_w0 v1 X), fR, fr, f, g, fd, fk, fz, o2, hP, hD, hW2⟩ hS (lv_sub hl [2, 3, 4, 5, 6] rfl)
  · refine lv_aload_n hx hb dL_law_410 rfl (lv_at hl 1 rfl) ?_
    refine lv_aload_n hx hb dL_law_411 rfl (lv_at hl 0 rfl) ?_
    refine lv_iload hx hb dL_law_412 (lv_at hl 4 rfl) ?_
    refine lv_iconst (v := 1) hx hb dL_law_414 (by decide) ?_
    refine lv_iadd hx hb dL_law_415 ?_
    refine va_sld hx hb hX hbl hbA hS hin1 dL_law_416 ?_
    refine rw_i (x' := v1) hv1 ?_
    refine lv_aload_n hx hb dL_law_417 rfl (lv_at hl 3 rfl) ?_
    have hpm := qm0 (T := (kW y ad zk ok 14) ++ (kW y sd zs os 2)) (pr_11 y h a jq mh w x9 ft z o zc oc x2 ad fl sd jo X fR fr f g fd fk fz o2)
    have hPc : va_P G vwCl ([aJ y jq 1 jo] ++ [kX11 h (a 0) (a 2) (a 16) (a 30) (a 44) (a 46) Z0, kX7 (a 16) (a 17) (a 19) (a 20) (a 26) (a 28) (z 0), kX0 (a 28) (a 29) (z 11), aI y (a 29) 3 (z 12)]) H := P_r (P_perm hpm hP)
    have hDc : va_D (fun q : Nat => s.heap.size ≤ q) ([aJ y jq 1 jo] ++ [kX11 h (a 0) (a 2) (a 16) (a 30) (a 44) (a 46) Z0, kX7 (a 16) (a 17) (a 19) (a 20) (a 26) (a 28) (z 0), kX0 (a 28) (a 29) (z 11), aI y (a 29) 3 (z 12)]) := D_r (D_perm hpm hD)
    have hFc : ∀ q, va_A ([aJ y jq 1 jo] ++ [kX11 h (a 0) (a 2) (a 16) (a 30) (a 44) (a 46) Z0, kX7 (a 16) (a 17) (a 19) (a 20) (a 26) (a 28) (z 0), kX0 (a 28) (a 29) (z 11), aI y (a 29) 3 (z 12)]) H.size q → s.heap.size ≤ q := F_r (D_perm hpm hD) hS hA
    refine cl_LP (fun _ : Unit => ((lwE y h a jq mh w x9 ft z o zc oc x2 ad fl sd jo X fR fr f g fd fk fz o2) ++ ((kW y ad zk ok 14) ++ (kW y sd zs os 2)))) hpm (fun _ => qm0 (T := (kW y ad zk ok 14) ++ (kW y sd zs os 2)) (pr_11 y h a jq mh w x9 ft z o zc oc x2 ad fl sd jo X fR fr f g fd fk fz o2)) (vx_runSX (As := [.ref h, .int v1, .ref jq]) (rest := []) ⟨hx, hb, hml, hown, hts⟩ (c_L_account_n l G y h v1 (a 0) (a 2) (a 16) (a 30) (a 44) (a 46) (a 17) (a 19) (a 20) (a 26) (a 28) z (a 29) jq jo H.size hk hfl) (vx_cwSW 3 hts gL_law_L_account rfl rfl rfl (by decide +kernel) ⟨Nat.le_of_ble_eq_true rfl, Nat.le_of_ble_eq_true rfl⟩) (PHL_S hPc hK hN hDc hTY hS hFc) rfl rfl hl.1 rfl (lv_room (Nat.le_of_ble_eq_true rfl)) dL_law_418 ⟨hkc, hks⟩) hP hD hS hA (fun _ H locs hP hD hS => ?_)
    have hP : va_P G vwCl ((lwE y h a jq mh w x9 ft z o zc oc x2 ad fl sd jo X fR fr f g fd fk fz o2) ++ ((kW y ad zk ok 14) ++ (kW y sd zs os 2))) H := hP
    have hD : va_D (fun q : Nat => s.heap.size ≤ q) ((lwE y h a jq mh w x9 ft z o zc oc x2 ad fl sd jo X fR fr f g fd fk fz o2) ++ ((kW y ad zk ok 14) ++ (kW y sd zs os 2))) := hD
    refine lv_istore (lv' := [(5, .int (cdK 1 (s_X11_account_k v1))), (0, .ref b), (1, .ref h), (2, .ref mh), (3, .ref jq), (4, .int iv)]) hx hb dL_law_421 hl (by decide) rfl (fun ls hl => ?_)
    refine lv_aload_n hx hb dL_law_423 rfl (lv_at hl 3 rfl) ?_
    refine lv_aload_n hx hb dL_law_424 rfl (lv_at hl 1 rfl) ?_
    refine lv_iload hx hb dL_law_425 (lv_at hl 5 rfl) ?_
    refine lv_iconst (v := 1) hx hb dL_law_427 (by decide) ?_
    refine lv_iadd hx hb dL_law_428 ?_
    refine va_sld hx hb hX hbl hbA hS hin1 dL_law_429 ?_
    refine rw_i (x' := v1) hv1 ?_
    have hpm := qm0 (T := (kW y ad zk ok 14) ++ (kW y sd zs os 2)) (pr_12 y h a jq mh w x9 ft z o zc oc x2 ad fl sd jo X fR fr f g fd fk fz o2)
    have hPc : va_P G vwCl [kX12 mh (w 0) (w 1) (w 2) (w 3) (w 4) (w 5) (w 6) (w 7) X, aI y (w 2) 154 f] H := P_r (P_perm hpm hP)
    have hDc : va_D (fun q : Nat => s.heap.size ≤ q) [kX12 mh (w 0) (w 1) (w 2) (w 3) (w 4) (w 5) (w 6) (w 7) X, aI y (w 2) 154 f] := D_r (D_perm hpm hD)
    refine cl_MP (fun _ : Unit => ((lwE y h a jq mh w x9 ft z o zc oc x2 ad fl sd jo (s_X12_account_w0 v1 X) fR fr f g fd fk fz o2) ++ ((kW y ad zk ok 14) ++ (kW y sd zs os 2)))) hpm (fun _ => qm0 (T := (kW y ad zk ok 14) ++ (kW y sd zs os 2)) (pr_12 y h a jq mh w x9 ft z o zc oc x2 ad fl sd jo (s_X12_account_w0 v1 X) fR fr f g fd fk fz o2)) (va_runV (As := [.int v1]) (rest := []) ⟨hx, hb, hml, hown, hts⟩ (c_X12_account l G y mh v1 (w 0) (w 1) (w 2) (w 3) (w 4) (w 5) (w 6) (w 7) X f H.size) (cwV 1 hts gL_law_X12_account rfl rfl rfl (by decide +kernel) ⟨Nat.le_of_ble_eq_true rfl, Nat.le_of_ble_eq_true rfl⟩) (PH_V hPc hK4 hN hDc (ci := 10) (q0 := 0) rfl rfl) rfl rfl hl.1 rfl (lv_room (Nat.le_of_ble_eq_true rfl)) dL_law_430 ⟨hkc, hks⟩) hP hD hS hA (fun _ H locs hP hD hS => ?_)
    have hP : va_P G vwCl ((lwE y h a jq mh w x9 ft z o zc oc x2 ad fl sd jo (s_X12_account_w0 v1 X) fR fr f g fd fk fz o2) ++ ((kW y ad zk ok 14) ++ (kW y sd zs os 2))) H := hP
    have hD : va_D (fun q : Nat => s.heap.size ≤ q) ((lwE y h a jq mh w x9 ft z o zc oc x2 ad fl sd jo (s_X12_account_w0 v1 X) fR fr f g fd fk fz o2) ++ ((kW y ad zk ok 14) ++ (kW y sd zs os 2))) := hD
    obtain ⟨e2, hW2⟩ := ln_account hW hk
    have hT : s_X12_thrown_r (s_X12_account_w0 v1 X) = cdK 1 (s_X11_account_k v1) := (thr_eq _).trans e2
    refine lv_istore (lv' := [(6, .int (s_X12_account_r v1 f)), (5, .int (cdK 1 (s_X11_account_k v1))), (0, .ref b), (1, .ref h), (2, .ref mh), (3, .ref jq), (4, .int iv)]) hx hb dL_law_433 hl (by decide) rfl (fun ls hl => ?_)
    refine lv_aload_n hx hb dL_law_435 rfl (lv_at hl 4 rfl) ?_
    refine cl_Ri (va_runV (As := []) (rest := []) ⟨hx, hb, hml, hown, hts⟩ (c_X12_thrown l G y mh (w 0) (w 1) (w 2) (w 3) (w 4) (w 5) (w 6) (w 7) (s_X12_account_w0 v1 X)) (cwV 0 hts gL_law_X12_thrown rfl rfl rfl (by decide +kernel) ⟨Nat.le_of_ble_eq_true rfl, Nat.le_of_ble_eq_true rfl⟩) (PR_V (sel_P [50] (rfl : sel _ [50] = [kX12 mh (w 0) (w 1) (w 2) (w 3) (w 4) (w 5) (w 6) (w 7) (s_X12_account_w0 v1 X)]) hP) hK4 hN (ci := 10) (q0 := 0) rfl rfl) rfl rfl hl.1 rfl (lv_room (Nat.le_of_ble_eq_true rfl)) dL_law_436 ⟨hkc, hks⟩) ?_
    refine lv_iload hx hb dL_law_439 (lv_at hl 1 rfl) ?_
    refine lv_icmp_eq (tgt := 446) hx hb dL_law_441 (by decide) (fun _ => ?_) (fun c9 => absurd hT c9)
    refine lv_iload hx hb dL_law_446 (lv_at hl 1 rfl) ?_
    refine lv_if_ne (tgt := 463) hx hb dL_law_448 (by decide) (fun _ => ?_) (fun c9 => absurd c9 (cd_n hk))
    refine lv_goto (tgt := 1652) hx hb dL_law_463 (by decide) ?_
    refine W.widen (k := kc + 1) (n := ks + 6) (by omega) (by omega) ?_
    exact KN H locs ls ⟨x9, ft, z, o, zc, oc, x2, ad, zk, ok, fl, sd, zs, os, jo, (s_X12_account_w0 v1 X), fR, fr, f, g, fd, fk, fz, o2, hP, hD, hW2⟩ hS (lv_sub hl [2, 3, 4, 5, 6] rfl)
set_option maxHeartbeats 2000000 in
set_option maxRecDepth 100000 in
theorem case_7 {p : Program} {l : Launch} {e : Env} {s : State} {m : MethodId} {below : List Frame} {meth : Method} {c : Code} {b L : Nat} {xs : Nat → Int32} {G : va_G} {y : Nat → ClassId} {h : Nat} {a : Nat → Nat} {jq mh : Nat} {w : Nat → Nat} {iv v1 v2 v3 : Int32} {N kc ks : Nat} {H : Heap} {locs : List Loc} {ls : Array Slot} (hfl : l.stackTraces = false) (C0 : lw_At p s m meth c b L xs) (hK : va_K G vwCl (tyJ y) s) (hN : NN s) (hTY : TY (fun q : Nat => s.heap.size ≤ q) s) (hin1 : vp_in (iv + 1) L) (hin2 : vp_in (iv + 2) L) (hin3 : vp_in (iv + 3) L) (hv1 : xs (iv + 1).toNatClampNeg = v1) (hv2 : xs (iv + 2).toNatClampNeg = v2) (hv3 : xs (iv + 3).toNatClampNeg = v3) (hkc : kc + 1 ≤ room_1.cells) (hks : ks + 6 ≤ room_1.slots) (hN9 : N + 12800 < 2147483648) (hI : LI G y h a jq mh w (fun q : Nat => s.heap.size ≤ q) N H) (hS : va_S (fun q : Nat => s.heap.size ≤ q) s.heap H locs) (hl : lv_has ls 7 [(0, .ref b), (1, .ref h), (2, .ref mh), (3, .ref jq), (4, .int iv)]) (KN : ∀ (H : Heap) (locs : List Loc) (ls : Array Slot), LI G y h a jq mh w (fun q : Nat => s.heap.size ≤ q) (N + 200) H → va_S (fun q : Nat => s.heap.size ≤ q) s.heap H locs → lv_has ls 7 [(0, .ref b), (1, .ref h), (2, .ref mh), (3, .ref jq), (4, .int iv)] → W p l e room_1 s m #[Value.ref b] below meth c H locs (kc + 1) (ks + 6) (lw_Z below #[Value.ref b] s) (F0 m 1652 ls [])) : W p l e room_1 s m #[Value.ref b] below meth c H locs kc ks (lw_Z below #[Value.ref b] s) (F0 m 466 ls []) := by
  obtain ⟨hx, hb, hr, hml, hown, hts, hX, hbl, hlocks, hgv⟩ := C0
  have hts := fun w hh => hts w (wsL_law_in w hh)
  have hbA : ¬ (fun q : Nat => s.heap.size ≤ q) b := Nat.not_le.mpr hbl
  have hA : ∀ q : Nat, s.heap.size ≤ q → (fun q : Nat => s.heap.size ≤ q) q := fun _ h => h
  have hK4 : va_K G vwCl (tyG y) s := hK.sub (tys' := tyG y) [0, 1, 2, 3] rfl
  have hown : s.vm.findClass RL = some m.cls := hown
  have hkc0 : kc ≤ room_1.cells := Nat.le_of_succ_le hkc
  have hks0 : ks ≤ room_1.slots := Nat.le_trans (Nat.le_add_right ks 6) hks
  obtain ⟨x9, ft, z, o, zc, oc, x2, ad, zk, ok, fl, sd, zs, os, jo, X, fR, fr, f, g, fd, fk, fz, o2, hP, hD, hW⟩ := hI
  by_cases hk : (s_X11_tick_k v1) = 0
  · refine lv_aload_n hx hb dL_law_466 rfl (lv_at hl 1 rfl) ?_
    refine lv_aload_n hx hb dL_law_467 rfl (lv_at hl 0 rfl) ?_
    refine lv_iload hx hb dL_law_468 (lv_at hl 4 rfl) ?_
    refine lv_iconst (v := 1) hx hb dL_law_470 (by decide) ?_
    refine lv_iadd hx hb dL_law_471 ?_
    refine va_sld hx hb hX hbl hbA hS hin1 dL_law_472 ?_
    refine rw_i (x' := v1) hv1 ?_
    refine lv_aload_n hx hb dL_law_473 rfl (lv_at hl 3 rfl) ?_
    have hpm := qm1 (T1 := (kW y ad zk ok 14)) (T2 := (kW y sd zs os 2)) (pr_13 y h a jq mh w x9 ft z o zc oc x2 ad fl sd jo X fR fr f g fd fk fz o2)
    have hPc : va_P G vwCl ([aJ y jq 1 jo] ++ ([kX11 h (a 0) (a 2) (a 16) (a 30) (a 44) (a 46) Z0, kX2 (a 44) (a 45) x2, aQ y (a 45) 14 (fun i => some (ad i 0)), kX7 (a 16) (a 17) (a 19) (a 20) (a 26) (a 28) (z 0), kX3 (a 17) (a 18) (z 1), aI y (a 18) 10 (z 2), kX1 (a 19) (z 3), kX8 (a 20) (a 21) (a 22) (a 23) (a 24) (a 25) (z 4), aI y (a 21) 20 (z 5), aI y (a 22) 20 (z 6), aI y (a 23) 20 (z 7), aI y (a 24) 20 (z 8), aI y (a 25) 20 o, kX10 (a 26) (a 27) (z 9), aI y (a 27) 32 (z 10), kX0 (a 28) (a 29) (z 11), aI y (a 29) 3 (z 12)] ++ (kW y ad zk ok 14))) H := P_r (P_perm hpm hP)
    have hDc : va_D (fun q : Nat => s.heap.size ≤ q) ([aJ y jq 1 jo] ++ ([kX11 h (a 0) (a 2) (a 16) (a 30) (a 44) (a 46) Z0, kX2 (a 44) (a 45) x2, aQ y (a 45) 14 (fun i => some (ad i 0)), kX7 (a 16) (a 17) (a 19) (a 20) (a 26) (a 28) (z 0), kX3 (a 17) (a 18) (z 1), aI y (a 18) 10 (z 2), kX1 (a 19) (z 3), kX8 (a 20) (a 21) (a 22) (a 23) (a 24) (a 25) (z 4), aI y (a 21) 20 (z 5), aI y (a 22) 20 (z 6), aI y (a 23) 20 (z 7), aI y (a 24) 20 (z 8), aI y (a 25) 20 o, kX10 (a 26) (a 27) (z 9), aI y (a 27) 32 (z 10), kX0 (a 28) (a 29) (z 11), aI y (a 29) 3 (z 12)] ++ (kW y ad zk ok 14))) := D_r (D_perm hpm hD)
    have hFc : ∀ q, va_A ([aJ y jq 1 jo] ++ ([kX11 h (a 0) (a 2) (a 16) (a 30) (a 44) (a 46) Z0, kX2 (a 44) (a 45) x2, aQ y (a 45) 14 (fun i => some (ad i 0)), kX7 (a 16) (a 17) (a 19) (a 20) (a 26) (a 28) (z 0), kX3 (a 17) (a 18) (z 1), aI y (a 18) 10 (z 2), kX1 (a 19) (z 3), kX8 (a 20) (a 21) (a 22) (a 23) (a 24) (a 25) (z 4), aI y (a 21) 20 (z 5), aI y (a 22) 20 (z 6), aI y (a 23) 20 (z 7), aI y (a 24) 20 (z 8), aI y (a 25) 20 o, kX10 (a 26) (a 27) (z 9), aI y (a 27) 32 (z 10), kX0 (a 28) (a 29) (z 11), aI y (a 29) 3 (z 12)] ++ (kW y ad zk ok 14))) H.size q → s.heap.size ≤ q := F_r (D_perm hpm hD) hS hA
    refine cl_LP (fun u : (Nat → Int32) => ((lwE y h a jq mh w x9 ft (s_X7_pass_z v1 z) u zc oc (upd x2 1 (nI (rmC (tn (x2 1)) + 1))) (rmT (tn (x2 1)) ad) fl sd (vp_updL jo 0 (s_X11_tick_r v1 z).toInt64) X fR fr f g fd fk fz o2) ++ ((kW y (rmT (tn (x2 1)) ad) (uK (rmT (tn (x2 1)) zk) (rmC (tn (x2 1))) z) (rmT (tn (x2 1)) ok) 14) ++ (kW y sd zs os 2)))) hpm (fun u => qm1 (T1 := (kW y (rmT (tn (x2 1)) ad) (uK (rmT (tn (x2 1)) zk) (rmC (tn (x2 1))) z) (rmT (tn (x2 1)) ok) 14)) (T2 := (kW y sd zs os 2)) (pr_13 y h a jq mh w x9 ft (s_X7_pass_z v1 z) u zc oc (upd x2 1 (nI (rmC (tn (x2 1)) + 1))) (rmT (tn (x2 1)) ad) fl sd (vp_updL jo 0 (s_X11_tick_r v1 z).toInt64) X fR fr f g fd fk fz o2)) (vx_runSX (As := [.ref h, .int v1, .ref jq]) (rest := []) ⟨hx, hb, hml, hown, hts⟩ (c_L_tick_y l G y h v1 (a 0) (a 2) (a 16) (a 30) (a 44) (a 46) (a 45) x2 (a 17) (a 19) (a 20) (a 26) (a 28) z (a 18) (a 21) (a 22) (a 23) (a 24) (a 25) o (a 27) (a 29) ad zk ok jq jo H.size (wf_c hW) (wf_b hW).1 (wf_b hW).2.1 (wf_b hW).2.2 (WR.tc hW.2.1) hk hfl) (vx_cwSW 3 hts gL_law_L_tick rfl rfl rfl (by decide +kernel) ⟨Nat.le_of_ble_eq_true rfl, Nat.le_of_ble_eq_true rfl⟩) (PHL_S hPc hK hN hDc hTY hS hFc) rfl rfl hl.1 rfl (lv_room (Nat.le_of_ble_eq_true rfl)) dL_law_474 ⟨hkc, hks⟩) hP hD hS hA (fun u H locs hP hD hS => ?_)
    obtain ⟨o_1, rfl⟩ : ∃ zq9, zq9 = u := ⟨_, rfl⟩
    have hP : va_P G vwCl ((lwE y h a jq mh w x9 ft (s_X7_pass_z v1 z) o_1 zc oc (upd x2 1 (nI (rmC (tn (x2 1)) + 1))) (rmT (tn (x2 1)) ad) fl sd (vp_updL jo 0 (s_X11_tick_r v1 z).toInt64) X fR fr f g fd fk fz o2) ++ ((kW y (rmT (tn (x2 1)) ad) (uK (rmT (tn (x2 1)) zk) (rmC (tn (x2 1))) z) (rmT (tn (x2 1)) ok) 14) ++ (kW y sd zs os 2))) H := hP
    have hD : va_D (fun q : Nat => s.heap.size ≤ q) ((lwE y h a jq mh w x9 ft (s_X7_pass_z v1 z) o_1 zc oc (upd x2 1 (nI (rmC (tn (x2 1)) + 1))) (rmT (tn (x2 1)) ad) fl sd (vp_updL jo 0 (s_X11_tick_r v1 z).toInt64) X fR fr f g fd fk fz o2) ++ ((kW y (rmT (tn (x2 1)) ad) (uK (rmT (tn (x2 1)) zk) (rmC (tn (x2 1))) z) (rmT (tn (x2 1)) ok) 14) ++ (kW y sd zs os 2))) := hD
    refine lv_istore (lv' := [(5, .int 0), (0, .ref b), (1, .ref h), (2, .ref mh), (3, .ref jq), (4, .int iv)]) hx hb dL_law_477 hl (by decide) rfl (fun ls hl => ?_)
    refine lv_aload_n hx hb dL_law_479 rfl (lv_at hl 3 rfl) ?_
    refine lv_aload_n hx hb dL_law_480 rfl (lv_at hl 1 rfl) ?_
    refine lv_iload hx hb dL_law_481 (lv_at hl 5 rfl) ?_
    refine lv_iconst (v := 1) hx hb dL_law_483 (by decide) ?_
    refine lv_iadd hx hb dL_law_484 ?_
    refine va_sld hx hb hX hbl hbA hS hin1 dL_law_485 ?_
    refine rw_i (x' := v1) hv1 ?_
    have hpm := qm0 (T := (kW y (rmT (tn (x2 1)) ad) (uK (rmT (tn (x2 1)) zk) (rmC (tn (x2 1))) z) (rmT (tn (x2 1)) ok) 14) ++ (kW y sd zs os 2)) (pr_14 y h a jq mh w x9 ft (s_X7_pass_z v1 z) o_1 zc oc (upd x2 1 (nI (rmC (tn (x2 1)) + 1))) (rmT (tn (x2 1)) ad) fl sd (vp_updL jo 0 (s_X11_tick_r v1 z).toInt64) X fR fr f g fd fk fz o2)
    have hPc : va_P G vwCl [kX12 mh (w 0) (w 1) (w 2) (w 3) (w 4) (w 5) (w 6) (w 7) X, aI y (w 2) 154 f, aI y (w 4) 2156 fd] H := P_r (P_perm hpm hP)
    have hDc : va_D (fun q : Nat => s.heap.size ≤ q) [kX12 mh (w 0) (w 1) (w 2) (w 3) (w 4) (w 5) (w 6) (w 7) X, aI y (w 2) 154 f, aI y (w 4) 2156 fd] := D_r (D_perm hpm hD)
    refine cl_MP (fun _ : Unit => ((lwE y h a jq mh w x9 ft (s_X7_pass_z v1 z) o_1 zc oc (upd x2 1 (nI (rmC (tn (x2 1)) + 1))) (rmT (tn (x2 1)) ad) fl sd (vp_updL jo 0 (s_X11_tick_r v1 z).toInt64) (s_X12_tick_w0 v1 X) fR fr (s_X12_tick_w1 v1 f) g (s_X12_tick_w2 v1 X f fd) fk fz o2) ++ ((kW y (rmT (tn (x2 1)) ad) (uK (rmT (tn (x2 1)) zk) (rmC (tn (x2 1))) z) (rmT (tn (x2 1)) ok) 14) ++ (kW y sd zs os 2)))) hpm (fun _ => qm0 (T := (kW y (rmT (tn (x2 1)) ad) (uK (rmT (tn (x2 1)) zk) (rmC (tn (x2 1))) z) (rmT (tn (x2 1)) ok) 14) ++ (kW y sd zs os 2)) (pr_14 y h a jq mh w x9 ft (s_X7_pass_z v1 z) o_1 zc oc (upd x2 1 (nI (rmC (tn (x2 1)) + 1))) (rmT (tn (x2 1)) ad) fl sd (vp_updL jo 0 (s_X11_tick_r v1 z).toInt64) (s_X12_tick_w0 v1 X) fR fr (s_X12_tick_w1 v1 f) g (s_X12_tick_w2 v1 X f fd) fk fz o2)) (va_runV (As := [.int v1]) (rest := []) ⟨hx, hb, hml, hown, hts⟩ (c_X12_tick l G y mh v1 (w 0) (w 1) (w 2) (w 3) (w 4) (w 5) (w 6) (w 7) X f fd H.size (wf_8 hW) (wf_TK hW)) (cwV 1 hts gL_law_X12_tick rfl rfl rfl (by decide +kernel) ⟨Nat.le_of_ble_eq_true rfl, Nat.le_of_ble_eq_true rfl⟩) (PH_V hPc hK4 hN hDc (ci := 10) (q0 := 0) rfl rfl) rfl rfl hl.1 rfl (lv_room (Nat.le_of_ble_eq_true rfl)) dL_law_486 ⟨hkc, hks⟩) hP hD hS hA (fun _ H locs hP hD hS => ?_)
    have hP : va_P G vwCl ((lwE y h a jq mh w x9 ft (s_X7_pass_z v1 z) o_1 zc oc (upd x2 1 (nI (rmC (tn (x2 1)) + 1))) (rmT (tn (x2 1)) ad) fl sd (vp_updL jo 0 (s_X11_tick_r v1 z).toInt64) (s_X12_tick_w0 v1 X) fR fr (s_X12_tick_w1 v1 f) g (s_X12_tick_w2 v1 X f fd) fk fz o2) ++ ((kW y (rmT (tn (x2 1)) ad) (uK (rmT (tn (x2 1)) zk) (rmC (tn (x2 1))) z) (rmT (tn (x2 1)) ok) 14) ++ (kW y sd zs os 2))) H := hP
    have hD : va_D (fun q : Nat => s.heap.size ≤ q) ((lwE y h a jq mh w x9 ft (s_X7_pass_z v1 z) o_1 zc oc (upd x2 1 (nI (rmC (tn (x2 1)) + 1))) (rmT (tn (x2 1)) ad) fl sd (vp_updL jo 0 (s_X11_tick_r v1 z).toInt64) (s_X12_tick_w0 v1 X) fR fr (s_X12_tick_w1 v1 f) g (s_X12_tick_w2 v1 X f fd) fk fz o2) ++ ((kW y (rmT (tn (x2 1)) ad) (uK (rmT (tn (x2 1)) zk) (rmC (tn (x2 1))) z) (rmT (tn (x2 1)) ok) 14) ++ (kW y sd zs os 2))) := hD
    obtain ⟨e1, e2, hW2⟩ := ly_tick hW hN9 hk
    have hT : s_X12_thrown_r (s_X12_tick_w0 v1 X) = 0 := (thr_eq _).trans e2
    refine lv_istore (lv' := [(6, .int (s_X12_tick_r v1 f)), (5, .int 0), (0, .ref b), (1, .ref h), (2, .ref mh), (3, .ref jq), (4, .int iv)]) hx hb dL_law_489 hl (by decide) rfl (fun ls hl => ?_)
    refine lv_aload_n hx hb dL_law_491 rfl (lv_at hl 4 rfl) ?_
    refine cl_Ri (va_runV (As := []) (rest := []) ⟨hx, hb, hml, hown, hts⟩ (c_X12_thrown l G y mh (w 0) (w 1) (w 2) (w 3) (w 4) (w 5) (w 6) (w 7) (s_X12_tick_w0 v1 X)) (cwV 0 hts gL_law_X12_thrown rfl rfl rfl (by decide +kernel) ⟨Nat.le_of_ble_eq_true rfl, Nat.le_of_ble_eq_true rfl⟩) (PR_V (sel_P [50] (rfl : sel _ [50] = [kX12 mh (w 0) (w 1) (w 2) (w 3) (w 4) (w 5) (w 6) (w 7) (s_X12_tick_w0 v1 X)]) hP) hK4 hN (ci := 10) (q0 := 0) rfl rfl) rfl rfl hl.1 rfl (lv_room (Nat.le_of_ble_eq_true rfl)) dL_law_492 ⟨hkc, hks⟩) ?_
    refine lv_iload hx hb dL_law_495 (lv_at hl 1 rfl) ?_
    refine lv_icmp_eq (tgt := 502) hx hb dL_law_497 (by decide) (fun _ => ?_) (fun c9 => absurd hT c9)
    refine lv_iload hx hb dL_law_502 (lv_at hl 1 rfl) ?_
    refine lv_if_ne (tgt := 519) hx hb dL_law_504 (by decide) (fun c9 => absurd rfl c9) (fun _ => ?_)
    refine lv_aload_n hx hb dL_law_507 rfl (lv_at hl 5 rfl) ?_
    refine lv_iconst (v := 0) hx hb dL_law_508 (by decide) ?_
    refine al_o hx hb hK 59 hP rfl dL_law_509 ?_
    refine lv_iload hx hb dL_law_510 (lv_at hl 0 rfl) ?_
    refine lv_i2l (v := (s_X12_tick_r v1 f).toInt64) hx hb dL_law_512 rfl ?_
    refine W.lcmp hx hb dL_law_513 ?_
    refine lv_if_eq (tgt := 519) hx hb dL_law_514 (by decide) (fun _ => ?_) (fun c9 => absurd (lg_o e1) c9)
    refine lv_goto (tgt := 1652) hx hb dL_law_519 (by decide) ?_
    refine W.widen (k := kc + 1) (n := ks + 6) (by omega) (by omega) ?_
    exact KN H locs ls ⟨x9, ft, (s_X7_pass_z v1 z), o_1, zc, oc, (upd x2 1 (nI (rmC (tn (x2 1)) + 1))), (rmT (tn (x2 1)) ad), (uK (rmT (tn (x2 1)) zk) (rmC (tn (x2 1))) z), (rmT (tn (x2 1)) ok), fl, sd, zs, os, (vp_updL jo 0 (s_X11_tick_r v1 z).toInt64), (s_X12_tick_w0 v1 X), fR, fr, (s_X12_tick_w1 v1 f), g, (s_X12_tick_w2 v1 X f fd), fk, fz, o2, hP, hD, hW2⟩ hS (lv_sub hl [2, 3, 4, 5, 6] rfl)
  · refine lv_aload_n hx hb dL_law_466 rfl (lv_at hl 1 rfl) ?_
    refine lv_aload_n hx hb dL_law_467 rfl (lv_at hl 0 rfl) ?_
    refine lv_iload hx hb dL_law_468 (lv_at hl 4 rfl) ?_
    refine lv_iconst (v := 1) hx hb dL_law_470 (by decide) ?_
    refine lv_iadd hx hb dL_law_471 ?_
    refine va_sld hx hb hX hbl hbA hS hin1 dL_law_472 ?_
    refine rw_i (x' := v1) hv1 ?_
    refine lv_aload_n hx hb dL_law_473 rfl (lv_at hl 3 rfl) ?_
    have hpm := qm1 (T1 := (kW y ad zk ok 14)) (T2 := (kW y sd zs os 2)) (pr_13 y h a jq mh w x9 ft z o zc oc x2 ad fl sd jo X fR fr f g fd fk fz o2)
    have hPc : va_P G vwCl ([aJ y jq 1 jo] ++ ([kX11 h (a 0) (a 2) (a 16) (a 30) (a 44) (a 46) Z0, kX2 (a 44) (a 45) x2, aQ y (a 45) 14 (fun i => some (ad i 0)), kX7 (a 16) (a 17) (a 19) (a 20) (a 26) (a 28) (z 0), kX3 (a 17) (a 18) (z 1), aI y (a 18) 10 (z 2), kX1 (a 19) (z 3), kX8 (a 20) (a 21) (a 22) (a 23) (a 24) (a 25) (z 4), aI y (a 21) 20 (z 5), aI y (a 22) 20 (z 6), aI y (a 23) 20 (z 7), aI y (a 24) 20 (z 8), aI y (a 25) 20 o, kX10 (a 26) (a 27) (z 9), aI y (a 27) 32 (z 10), kX0 (a 28) (a 29) (z 11), aI y (a 29) 3 (z 12)] ++ (kW y ad zk ok 14))) H := P_r (P_perm hpm hP)
    have hDc : va_D (fun q : Nat => s.heap.size ≤ q) ([aJ y jq 1 jo] ++ ([kX11 h (a 0) (a 2) (a 16) (a 30) (a 44) (a 46) Z0, kX2 (a 44) (a 45) x2, aQ y (a 45) 14 (fun i => some (ad i 0)), kX7 (a 16) (a 17) (a 19) (a 20) (a 26) (a 28) (z 0), kX3 (a 17) (a 18) (z 1), aI y (a 18) 10 (z 2), kX1 (a 19) (z 3), kX8 (a 20) (a 21) (a 22) (a 23) (a 24) (a 25) (z 4), aI y (a 21) 20 (z 5), aI y (a 22) 20 (z 6), aI y (a 23) 20 (z 7), aI y (a 24) 20 (z 8), aI y (a 25) 20 o, kX10 (a 26) (a 27) (z 9), aI y (a 27) 32 (z 10), kX0 (a 28) (a 29) (z 11), aI y (a 29) 3 (z 12)] ++ (kW y ad zk ok 14))) := D_r (D_perm hpm hD)
    have hFc : ∀ q, va_A ([aJ y jq 1 jo] ++ ([kX11 h (a 0) (a 2) (a 16) (a 30) (a 44) (a 46) Z0, kX2 (a 44) (a 45) x2, aQ y (a 45) 14 (fun i => some (ad i 0)), kX7 (a 16) (a 17) (a 19) (a 20) (a 26) (a 28) (z 0), kX3 (a 17) (a 18) (z 1), aI y (a 18) 10 (z 2), kX1 (a 19) (z 3), kX8 (a 20) (a 21) (a 22) (a 23) (a 24) (a 25) (z 4), aI y (a 21) 20 (z 5), aI y (a 22) 20 (z 6), aI y (a 23) 20 (z 7), aI y (a 24) 20 (z 8), aI y (a 25) 20 o, kX10 (a 26) (a 27) (z 9), aI y (a 27) 32 (z 10), kX0 (a 28) (a 29) (z 11), aI y (a 29) 3 (z 12)] ++ (kW y ad zk ok 14))) H.size q → s.heap.size ≤ q := F_r (D_perm hpm hD) hS hA
    refine cl_LP (fun u : (Nat → Int32) => ((lwE y h a jq mh w x9 ft z u zc oc x2 ad fl sd jo X fR fr f g fd fk fz o2) ++ ((kW y ad zk ok 14) ++ (kW y sd zs os 2)))) hpm (fun u => qm1 (T1 := (kW y ad zk ok 14)) (T2 := (kW y sd zs os 2)) (pr_13 y h a jq mh w x9 ft z u zc oc x2 ad fl sd jo X fR fr f g fd fk fz o2)) (vx_runSX (As := [.ref h, .int v1, .ref jq]) (rest := []) ⟨hx, hb, hml, hown, hts⟩ (c_L_tick_n l G y h v1 (a 0) (a 2) (a 16) (a 30) (a 44) (a 46) (a 45) x2 (a 17) (a 19) (a 20) (a 26) (a 28) z (a 18) (a 21) (a 22) (a 23) (a 24) (a 25) o (a 27) (a 29) ad zk ok jq jo H.size (wf_c hW) (wf_b hW).1 (wf_b hW).2.1 (wf_b hW).2.2 (WR.tc hW.2.1) hk hfl) (vx_cwSW 3 hts gL_law_L_tick rfl rfl rfl (by decide +kernel) ⟨Nat.le_of_ble_eq_true rfl, Nat.le_of_ble_eq_true rfl⟩) (PHL_S hPc hK hN hDc hTY hS hFc) rfl rfl hl.1 rfl (lv_room (Nat.le_of_ble_eq_true rfl)) dL_law_474 ⟨hkc, hks⟩) hP hD hS hA (fun u H locs hP hD hS => ?_)
    obtain ⟨o_1, rfl⟩ : ∃ zq9, zq9 = u := ⟨_, rfl⟩
    have hP : va_P G vwCl ((lwE y h a jq mh w x9 ft z o_1 zc oc x2 ad fl sd jo X fR fr f g fd fk fz o2) ++ ((kW y ad zk ok 14) ++ (kW y sd zs os 2))) H := hP
    have hD : va_D (fun q : Nat => s.heap.size ≤ q) ((lwE y h a jq mh w x9 ft z o_1 zc oc x2 ad fl sd jo X fR fr f g fd fk fz o2) ++ ((kW y ad zk ok 14) ++ (kW y sd zs os 2))) := hD
    refine lv_istore (lv' := [(5, .int (cdK 1 (s_X11_tick_k v1))), (0, .ref b), (1, .ref h), (2, .ref mh), (3, .ref jq), (4, .int iv)]) hx hb dL_law_477 hl (by decide) rfl (fun ls hl => ?_)
    refine lv_aload_n hx hb dL_law_479 rfl (lv_at hl 3 rfl) ?_
    refine lv_aload_n hx hb dL_law_480 rfl (lv_at hl 1 rfl) ?_
    refine lv_iload hx hb dL_law_481 (lv_at hl 5 rfl) ?_
    refine lv_iconst (v := 1) hx hb dL_law_483 (by decide) ?_
    refine lv_iadd hx hb dL_law_484 ?_
    refine va_sld hx hb hX hbl hbA hS hin1 dL_law_485 ?_
    refine rw_i (x' := v1) hv1 ?_
    have hpm := qm0 (T := (kW y ad zk ok 14) ++ (kW y sd zs os 2)) (pr_14 y h a jq mh w x9 ft z o_1 zc oc x2 ad fl sd jo X fR fr f g fd fk fz o2)
    have hPc : va_P G vwCl [kX12 mh (w 0) (w 1) (w 2) (w 3) (w 4) (w 5) (w 6) (w 7) X, aI y (w 2) 154 f, aI y (w 4) 2156 fd] H := P_r (P_perm hpm hP)
    have hDc : va_D (fun q : Nat => s.heap.size ≤ q) [kX12 mh (w 0) (w 1) (w 2) (w 3) (w 4) (w 5) (w 6) (w 7) X, aI y (w 2) 154 f, aI y (w 4) 2156 fd] := D_r (D_perm hpm hD)
    refine cl_MP (fun _ : Unit => ((lwE y h a jq mh w x9 ft z o_1 zc oc x2 ad fl sd jo (s_X12_tick_w0 v1 X) fR fr (s_X12_tick_w1 v1 f) g (s_X12_tick_w2 v1 X f fd) fk fz o2) ++ ((kW y ad zk ok 14) ++ (kW y sd zs os 2)))) hpm (fun _ => qm0 (T := (kW y ad zk ok 14) ++ (kW y sd zs os 2)) (pr_14 y h a jq mh w x9 ft z o_1 zc oc x2 ad fl sd jo (s_X12_tick_w0 v1 X) fR fr (s_X12_tick_w1 v1 f) g (s_X12_tick_w2 v1 X f fd) fk fz o2)) (va_runV (As := [.int v1]) (rest := []) ⟨hx, hb, hml, hown, hts⟩ (c_X12_tick l G y mh v1 (w 0) (w 1) (w 2) (w 3) (w 4) (w 5) (w 6) (w 7) X f fd H.size (wf_8 hW) (wf_TK hW)) (cwV 1 hts gL_law_X12_tick rfl rfl rfl (by decide +kernel) ⟨Nat.le_of_ble_eq_true rfl, Nat.le_of_ble_eq_true rfl⟩) (PH_V hPc hK4 hN hDc (ci := 10) (q0 := 0) rfl rfl) rfl rfl hl.1 rfl (lv_room (Nat.le_of_ble_eq_true rfl)) dL_law_486 ⟨hkc, hks⟩) hP hD hS hA (fun _ H locs hP hD hS => ?_)
    have hP : va_P G vwCl ((lwE y h a jq mh w x9 ft z o_1 zc oc x2 ad fl sd jo (s_X12_tick_w0 v1 X) fR fr (s_X12_tick_w1 v1 f) g (s_X12_tick_w2 v1 X f fd) fk fz o2) ++ ((kW y ad zk ok 14) ++ (kW y sd zs os 2))) H := hP
    have hD : va_D (fun q : Nat => s.heap.size ≤ q) ((lwE y h a jq mh w x9 ft z o_1 zc oc x2 ad fl sd jo (s_X12_tick_w0 v1 X) fR fr (s_X12_tick_w1 v1 f) g (s_X12_tick_w2 v1 X f fd) fk fz o2) ++ ((kW y ad zk ok 14) ++ (kW y sd zs os 2))) := hD
    obtain ⟨e2, hW2⟩ := ln_tick hW hk
    have hT : s_X12_thrown_r (s_X12_tick_w0 v1 X) = cdK 1 (s_X11_tick_k v1) := (thr_eq _).trans e2
    refine lv_istore (lv' := [(6, .int (s_X12_tick_r v1 f)), (5, .int (cdK 1 (s_X11_tick_k v1))), (0, .ref b), (1, .ref h), (2, .ref mh), (3, .ref jq), (4, .int iv)]) hx hb dL_law_489 hl (by decide) rfl (fun ls hl => ?_)
    refine lv_aload_n hx hb dL_law_491 rfl (lv_at hl 4 rfl) ?_
    refine cl_Ri (va_runV (As := []) (rest := []) ⟨hx, hb, hml, hown, hts⟩ (c_X12_thrown l G y mh (w 0) (w 1) (w 2) (w 3) (w 4) (w 5) (w 6) (w 7) (s_X12_tick_w0 v1 X)) (cwV 0 hts gL_law_X12_thrown rfl rfl rfl (by decide +kernel) ⟨Nat.le_of_ble_eq_true rfl, Nat.le_of_ble_eq_true rfl⟩) (PR_V (sel_P [50] (rfl : sel _ [50] = [kX12 mh (w 0) (w 1) (w 2) (w 3) (w 4) (w 5) (w 6) (w 7) (s_X12_tick_w0 v1 X)]) hP) hK4 hN (ci := 10) (q0 := 0) rfl rfl) rfl rfl hl.1 rfl (lv_room (Nat.le_of_ble_eq_true rfl)) dL_law_492 ⟨hkc, hks⟩) ?_
    refine lv_iload hx hb dL_law_495 (lv_at hl 1 rfl) ?_
    refine lv_icmp_eq (tgt := 502) hx hb dL_law_497 (by decide) (fun _ => ?_) (fun c9 => absurd hT c9)
    refine lv_iload hx hb dL_law_502 (lv_at hl 1 rfl) ?_
    refine lv_if_ne (tgt := 519) hx hb dL_law_504 (by decide) (fun _ => ?_) (fun c9 => absurd c9 (cd_n hk))
    refine lv_goto (tgt := 1652) hx hb dL_law_519 (by decide) ?_
    refine W.widen (k := kc + 1) (n := ks + 6) (by omega) (by omega) ?_
    exact KN H locs ls ⟨x9, ft, z, o_1, zc, oc, x2, ad, zk, ok, fl, sd, zs, os, jo, (s_X12_tick_w0 v1 X), fR, fr, (s_X12_tick_w1 v1 f), g, (s_X12_tick_w2 v1 X f fd), fk, fz, o2, hP, hD, hW2⟩ hS (lv_sub hl [2, 3, 4, 5, 6] rfl)
set_option maxHeartbeats 2000000 in
set_option maxRecDepth 100000 in
theorem case_8 {p : Program} {l : Launch} {e : Env} {s : State} {m : MethodId} {below : List Frame} {meth : Method} {c : Code} {b L : Nat} {xs : Nat → Int32} {G : va_G} {y : Nat → ClassId} {h : Nat} {a : Nat → Nat} {jq mh : Nat} {w : Nat → Nat} {iv v1 v2 v3 : Int32} {N kc ks : Nat} {H : Heap} {locs : List Loc} {ls : Array Slot} (hfl : l.stackTraces = false) (C0 : lw_At p s m meth c b L xs) (hK : va_K G vwCl (tyJ y) s) (hN : NN s) (hTY : TY (fun q : Nat => s.heap.size ≤ q) s) (hin1 : vp_in (iv + 1) L) (hin2 : vp_in (iv + 2) L) (hin3 : vp_in (iv + 3) L) (hv1 : xs (iv + 1).toNatClampNeg = v1) (hv2 : xs (iv + 2).toNatClampNeg = v2) (hv3 : xs (iv + 3).toNatClampNeg = v3) (hkc : kc + 1 ≤ room_1.cells) (hks : ks + 6 ≤ room_1.slots) (hN9 : N + 12800 < 2147483648) (hI : LI G y h a jq mh w (fun q : Nat => s.heap.size ≤ q) N H) (hS : va_S (fun q : Nat => s.heap.size ≤ q) s.heap H locs) (hl : lv_has ls 7 [(0, .ref b), (1, .ref h), (2, .ref mh), (3, .ref jq), (4, .int iv)]) (KN : ∀ (H : Heap) (locs : List Loc) (ls : Array Slot), LI G y h a jq mh w (fun q : Nat => s.heap.size ≤ q) (N + 200) H → va_S (fun q : Nat => s.heap.size ≤ q) s.heap H locs → lv_has ls 7 [(0, .ref b), (1, .ref h), (2, .ref mh), (3, .ref jq), (4, .int iv)] → W p l e room_1 s m #[Value.ref b] below meth c H locs (kc + 1) (ks + 6) (lw_Z below #[Value.ref b] s) (F0 m 1652 ls [])) : W p l e room_1 s m #[Value.ref b] below meth c H locs kc ks (lw_Z below #[Value.ref b] s) (F0 m 522 ls []) := by
  obtain ⟨hx, hb, hr, hml, hown, hts, hX, hbl, hlocks, hgv⟩ := C0
  have hts := fun w hh => hts w (wsL_law_in w hh)
  have hbA : ¬ (fun q : Nat => s.heap.size ≤ q) b := Nat.not_le.mpr hbl
  have hA : ∀ q : Nat, s.heap.size ≤ q → (fun q : Nat => s.heap.size ≤ q) q := fun _ h => h
  have hK4 : va_K G vwCl (tyG y) s := hK.sub (tys' := tyG y) [0, 1, 2, 3] rfl
  have hown : s.vm.findClass RL = some m.cls := hown
  have hkc0 : kc ≤ room_1.cells := Nat.le_of_succ_le hkc
  have hks0 : ks ≤ room_1.slots := Nat.le_trans (Nat.le_add_right ks 6) hks
  obtain ⟨x9, ft, z, o, zc, oc, x2, ad, zk, ok, fl, sd, zs, os, jo, X, fR, fr, f, g, fd, fk, fz, o2, hP, hD, hW⟩ := hI
  by_cases hk : (s_X11_mode_k v1) = 0
  · refine lv_aload_n hx hb dL_law_522 rfl (lv_at hl 1 rfl) ?_
    refine lv_aload_n hx hb dL_law_523 rfl (lv_at hl 0 rfl) ?_
    refine lv_iload hx hb dL_law_524 (lv_at hl 4 rfl) ?_
    refine lv_iconst (v := 1) hx hb dL_law_526 (by decide) ?_
    refine lv_iadd hx hb dL_law_527 ?_
    refine va_sld hx hb hX hbl hbA hS hin1 dL_law_528 ?_
    refine rw_i (x' := v1) hv1 ?_
    refine lv_aload_n hx hb dL_law_529 rfl (lv_at hl 3 rfl) ?_
    have hpm := qm1 (T1 := (kW y ad zk ok 14)) (T2 := (kW y sd zs os 2)) (pr_13 y h a jq mh w x9 ft z o zc oc x2 ad fl sd jo X fR fr f g fd fk fz o2)
    have hPc : va_P G vwCl ([aJ y jq 1 jo] ++ ([kX11 h (a 0) (a 2) (a 16) (a 30) (a 44) (a 46) Z0, kX2 (a 44) (a 45) x2, aQ y (a 45) 14 (fun i => some (ad i 0)), kX7 (a 16) (a 17) (a 19) (a 20) (a 26) (a 28) (z 0), kX3 (a 17) (a 18) (z 1), aI y (a 18) 10 (z 2), kX1 (a 19) (z 3), kX8 (a 20) (a 21) (a 22) (a 23) (a 24) (a 25) (z 4), aI y (a 21) 20 (z 5), aI y (a 22) 20 (z 6), aI y (a 23) 20 (z 7), aI y (a 24) 20 (z 8), aI y (a 25) 20 o, kX10 (a 26) (a 27) (z 9), aI y (a 27) 32 (z 10), kX0 (a 28) (a 29) (z 11), aI y (a 29) 3 (z 12)] ++ (kW y ad zk ok 14))) H := P_r (P_perm hpm hP)
    have hDc : va_D (fun q : Nat => s.heap.size ≤ q) ([aJ y jq 1 jo] ++ ([kX11 h (a 0) (a 2) (a 16) (a 30) (a 44) (a 46) Z0, kX2 (a 44) (a 45) x2, aQ y (a 45) 14 (fun i => some (ad i 0)), kX7 (a 16) (a 17) (a 19) (a 20) (a 26) (a 28) (z 0), kX3 (a 17) (a 18) (z 1), aI y (a 18) 10 (z 2), kX1 (a 19) (z 3), kX8 (a 20) (a 21) (a 22) (a 23) (a 24) (a 25) (z 4), aI y (a 21) 20 (z 5), aI y (a 22) 20 (z 6), aI y (a 23) 20 (z 7), aI y (a 24) 20 (z 8), aI y (a 25) 20 o, kX10 (a 26) (a 27) (z 9), aI y (a 27) 32 (z 10), kX0 (a 28) (a 29) (z 11), aI y (a 29) 3 (z 12)] ++ (kW y ad zk ok 14))) := D_r (D_perm hpm hD)
    have hFc : ∀ q, va_A ([aJ y jq 1 jo] ++ ([kX11 h (a 0) (a 2) (a 16) (a 30) (a 44) (a 46) Z0, kX2 (a 44) (a 45) x2, aQ y (a 45) 14 (fun i => some (ad i 0)), kX7 (a 16) (a 17) (a 19) (a 20) (a 26) (a 28) (z 0), kX3 (a 17) (a 18) (z 1), aI y (a 18) 10 (z 2), kX1 (a 19) (z 3), kX8 (a 20) (a 21) (a 22) (a 23) (a 24) (a 25) (z 4), aI y (a 21) 20 (z 5), aI y (a 22) 20 (z 6), aI y (a 23) 20 (z 7), aI y (a 24) 20 (z 8), aI y (a 25) 20 o, kX10 (a 26) (a 27) (z 9), aI y (a 27) 32 (z 10), kX0 (a 28) (a 29) (z 11), aI y (a 29) 3 (z 12)] ++ (kW y ad zk ok 14))) H.size q → s.heap.size ≤ q := F_r (D_perm hpm hD) hS hA
    refine cl_LP (fun _ : Unit => ((lwE y h a jq mh w x9 ft (s_X7_changeMode_z v1 z) o zc oc (upd x2 1 (nI (rmC (tn (x2 1)) + 1))) (rmT (tn (x2 1)) ad) fl sd (vp_updL jo 0 (s_X11_mode_r z).toInt64) X fR fr f g fd fk fz o2) ++ ((kW y (rmT (tn (x2 1)) ad) (uK (rmT (tn (x2 1)) zk) (rmC (tn (x2 1))) z) (rmT (tn (x2 1)) ok) 14) ++ (kW y sd zs os 2)))) hpm (fun _ => qm1 (T1 := (kW y (rmT (tn (x2 1)) ad) (uK (rmT (tn (x2 1)) zk) (rmC (tn (x2 1))) z) (rmT (tn (x2 1)) ok) 14)) (T2 := (kW y sd zs os 2)) (pr_13 y h a jq mh w x9 ft (s_X7_changeMode_z v1 z) o zc oc (upd x2 1 (nI (rmC (tn (x2 1)) + 1))) (rmT (tn (x2 1)) ad) fl sd (vp_updL jo 0 (s_X11_mode_r z).toInt64) X fR fr f g fd fk fz o2)) (vx_runSX (As := [.ref h, .int v1, .ref jq]) (rest := []) ⟨hx, hb, hml, hown, hts⟩ (c_L_mode_y l G y h v1 (a 0) (a 2) (a 16) (a 30) (a 44) (a 46) (a 45) x2 (a 17) (a 19) (a 20) (a 26) (a 28) z (a 18) (a 21) (a 22) (a 23) (a 24) (a 25) o (a 27) (a 29) ad zk ok jq jo H.size (wf_c hW) (wf_b hW).1 (wf_b hW).2.1 (wf_b hW).2.2 hk hfl) (vx_cwSW 3 hts gL_law_L_mode rfl rfl rfl (by decide +kernel) ⟨Nat.le_of_ble_eq_true rfl, Nat.le_of_ble_eq_true rfl⟩) (PHL_S hPc hK hN hDc hTY hS hFc) rfl rfl hl.1 rfl (lv_room (Nat.le_of_ble_eq_true rfl)) dL_law_530 ⟨hkc, hks⟩) hP hD hS hA (fun _ H locs hP hD hS => ?_)
    have hP : va_P G vwCl ((lwE y h a jq mh w x9 ft (s_X7_changeMode_z v1 z) o zc oc (upd x2 1 (nI (rmC (tn (x2 1)) + 1))) (rmT (tn (x2 1)) ad) fl sd (vp_updL jo 0 (s_X11_mode_r z).toInt64) X fR fr f g fd fk fz o2) ++ ((kW y (rmT (tn (x2 1)) ad) (uK (rmT (tn (x2 1)) zk) (rmC (tn (x2 1))) z) (rmT (tn (x2 1)) ok) 14) ++ (kW y sd zs os 2))) H := hP
    have hD : va_D (fun q : Nat => s.heap.size ≤ q) ((lwE y h a jq mh w x9 ft (s_X7_changeMode_z v1 z) o zc oc (upd x2 1 (nI (rmC (tn (x2 1)) + 1))) (rmT (tn (x2 1)) ad) fl sd (vp_updL jo 0 (s_X11_mode_r z).toInt64) X fR fr f g fd fk fz o2) ++ ((kW y (rmT (tn (x2 1)) ad) (uK (rmT (tn (x2 1)) zk) (rmC (tn (x2 1))) z) (rmT (tn (x2 1)) ok) 14) ++ (kW y sd zs os 2))) := hD
    refine lv_istore (lv' := [(5, .int 0), (0, .ref b), (1, .ref h), (2, .ref mh), (3, .ref jq), (4, .int iv)]) hx hb dL_law_533 hl (by decide) rfl (fun ls hl => ?_)
    refine lv_aload_n hx hb dL_law_535 rfl (lv_at hl 3 rfl) ?_
    refine lv_aload_n hx hb dL_law_536 rfl (lv_at hl 1 rfl) ?_
    refine lv_iload hx hb dL_law_537 (lv_at hl 5 rfl) ?_
    refine lv_iconst (v := 1) hx hb dL_law_539 (by decide) ?_
    refine lv_iadd hx hb dL_law_540 ?_
    refine va_sld hx hb hX hbl hbA hS hin1 dL_law_541 ?_
    refine rw_i (x' := v1) hv1 ?_
    have hpm := qm0 (T := (kW y (rmT (tn (x2 1)) ad) (uK (rmT (tn (x2 1)) zk) (rmC (tn (x2 1))) z) (rmT (tn (x2 1)) ok) 14) ++ (kW y sd zs os 2)) (pr_14 y h a jq mh w x9 ft (s_X7_changeMode_z v1 z) o zc oc (upd x2 1 (nI (rmC (tn (x2 1)) + 1))) (rmT (tn (x2 1)) ad) fl sd (vp_updL jo 0 (s_X11_mode_r z).toInt64) X fR fr f g fd fk fz o2)
    have hPc : va_P G vwCl [kX12 mh (w 0) (w 1) (w 2) (w 3) (w 4) (w 5) (w 6) (w 7) X, aI y (w 2) 154 f, aI y (w 4) 2156 fd] H := P_r (P_perm hpm hP)
    have hDc : va_D (fun q : Nat => s.heap.size ≤ q) [kX12 mh (w 0) (w 1) (w 2) (w 3) (w 4) (w 5) (w 6) (w 7) X, aI y (w 2) 154 f, aI y (w 4) 2156 fd] := D_r (D_perm hpm hD)
    refine cl_MP (fun _ : Unit => ((lwE y h a jq mh w x9 ft (s_X7_changeMode_z v1 z) o zc oc (upd x2 1 (nI (rmC (tn (x2 1)) + 1))) (rmT (tn (x2 1)) ad) fl sd (vp_updL jo 0 (s_X11_mode_r z).toInt64) (s_X12_mode_w0 v1 X) fR fr (s_X12_mode_w1 v1 f) g (s_X12_mode_w2 v1 X f fd) fk fz o2) ++ ((kW y (rmT (tn (x2 1)) ad) (uK (rmT (tn (x2 1)) zk) (rmC (tn (x2 1))) z) (rmT (tn (x2 1)) ok) 14) ++ (kW y sd zs os 2)))) hpm (fun _ => qm0 (T := (kW y (rmT (tn (x2 1)) ad) (uK (rmT (tn (x2 1)) zk) (rmC (tn (x2 1))) z) (rmT (tn (x2 1)) ok) 14) ++ (kW y sd zs os 2)) (pr_14 y h a jq mh w x9 ft (s_X7_changeMode_z v1 z) o zc oc (upd x2 1 (nI (rmC (tn (x2 1)) + 1))) (rmT (tn (x2 1)) ad) fl sd (vp_updL jo 0 (s_X11_mode_r z).toInt64) (s_X12_mode_w0 v1 X) fR fr (s_X12_mode_w1 v1 f) g (s_X12_mode_w2 v1 X f fd) fk fz o2)) (va_runV (As := [.int v1]) (rest := []) ⟨hx, hb, hml, hown, hts⟩ (c_X12_mode l G y mh v1 (w 0) (w 1) (w 2) (w 3) (w 4) (w 5) (w 6) (w 7) X f fd H.size (wf_8 hW)) (cwV 1 hts gL_law_X12_mode rfl rfl rfl (by decide +kernel) ⟨Nat.le_of_ble_eq_true rfl, Nat.le_of_ble_eq_true rfl⟩) (PH_V hPc hK4 hN hDc (ci := 10) (q0 := 0) rfl rfl) rfl rfl hl.1 rfl (lv_room (Nat.le_of_ble_eq_true rfl)) dL_law_542 ⟨hkc, hks⟩) hP hD hS hA (fun _ H locs hP hD hS => ?_)
    have hP : va_P G vwCl ((lwE y h a jq mh w x9 ft (s_X7_changeMode_z v1 z) o zc oc (upd x2 1 (nI (rmC (tn (x2 1)) + 1))) (rmT (tn (x2 1)) ad) fl sd (vp_updL jo 0 (s_X11_mode_r z).toInt64) (s_X12_mode_w0 v1 X) fR fr (s_X12_mode_w1 v1 f) g (s_X12_mode_w2 v1 X f fd) fk fz o2) ++ ((kW y (rmT (tn (x2 1)) ad) (uK (rmT (tn (x2 1)) zk) (rmC (tn (x2 1))) z) (rmT (tn (x2 1)) ok) 14) ++ (kW y sd zs os 2))) H := hP
    have hD : va_D (fun q : Nat => s.heap.size ≤ q) ((lwE y h a jq mh w x9 ft (s_X7_changeMode_z v1 z) o zc oc (upd x2 1 (nI (rmC (tn (x2 1)) + 1))) (rmT (tn (x2 1)) ad) fl sd (vp_updL jo 0 (s_X11_mode_r z).toInt64) (s_X12_mode_w0 v1 X) fR fr (s_X12_mode_w1 v1 f) g (s_X12_mode_w2 v1 X f fd) fk fz o2) ++ ((kW y (rmT (tn (x2 1)) ad) (uK (rmT (tn (x2 1)) zk) (rmC (tn (x2 1))) z) (rmT (tn (x2 1)) ok) 14) ++ (kW y sd zs os 2))) := hD
    obtain ⟨e1, e2, hW2⟩ := ly_mode hW hN9 hk
    have hT : s_X12_thrown_r (s_X12_mode_w0 v1 X) = 0 := (thr_eq _).trans e2
    refine lv_istore (lv' := [(6, .int (s_X12_mode_r v1 f)), (5, .int 0), (0, .ref b), (1, .ref h), (2, .ref mh), (3, .ref jq), (4, .int iv)]) hx hb dL_law_545 hl (by decide) rfl (fun ls hl => ?_)
    refine lv_aload_n hx hb dL_law_547 rfl (lv_at hl 4 rfl) ?_
    refine cl_Ri (va_runV (As := []) (rest := []) ⟨hx, hb, hml, hown, hts⟩ (c_X12_thrown l G y mh (w 0) (w 1) (w 2) (w 3) (w 4) (w 5) (w 6) (w 7) (s_X12_mode_w0 v1 X)) (cwV 0 hts gL_law_X12_thrown rfl rfl rfl (by decide +kernel) ⟨Nat.le_of_ble_eq_true rfl, Nat.le_of_ble_eq_true rfl⟩) (PR_V (sel_P [50] (rfl : sel _ [50] = [kX12 mh (w 0) (w 1) (w 2) (w 3) (w 4) (w 5) (w 6) (w 7) (s_X12_mode_w0 v1 X)]) hP) hK4 hN (ci := 10) (q0 := 0) rfl rfl) rfl rfl hl.1 rfl (lv_room (Nat.le_of_ble_eq_true rfl)) dL_law_548 ⟨hkc, hks⟩) ?_
    refine lv_iload hx hb dL_law_551 (lv_at hl 1 rfl) ?_
    refine lv_icmp_eq (tgt := 558) hx hb dL_law_553 (by decide) (fun _ => ?_) (fun c9 => absurd hT c9)
    refine lv_iload hx hb dL_law_558 (lv_at hl 1 rfl) ?_
    refine lv_if_ne (tgt := 575) hx hb dL_law_560 (by decide) (fun c9 => absurd rfl c9) (fun _ => ?_)
    refine lv_aload_n hx hb dL_law_563 rfl (lv_at hl 5 rfl) ?_
    refine lv_iconst (v := 0) hx hb dL_law_564 (by decide) ?_
    refine al_o hx hb hK 59 hP rfl dL_law_565 ?_
    refine lv_iload hx hb dL_law_566 (lv_at hl 0 rfl) ?_
    refine lv_i2l (v := (s_X12_mode_r v1 f).toInt64) hx hb dL_law_568 rfl ?_
    refine W.lcmp hx hb dL_law_569 ?_
    refine lv_if_eq (tgt := 575) hx hb dL_law_570 (by decide) (fun _ => ?_) (fun c9 => absurd (lg_o e1) c9)
    refine lv_goto (tgt := 1652) hx hb dL_law_575 (by decide) ?_
    refine W.widen (k := kc + 1) (n := ks + 6) (by omega) (by omega) ?_
    exact KN H locs ls ⟨x9, ft, (s_X7_changeMode_z v1 z), o, zc, oc, (upd x2 1 (nI (rmC (tn (x2 1)) + 1))), (rmT (tn (x2 1)) ad), (uK (rmT (tn (x2 1)) zk) (rmC (tn (x2 1))) z), (rmT (tn (x2 1)) ok), fl, sd, zs, os, (vp_updL jo 0 (s_X11_mode_r z).toInt64), (s_X12_mode_w0 v1 X), fR, fr, (s_X12_mode_w1 v1 f), g, (s_X12_mode_w2 v1 X f fd), fk, fz, o2, hP, hD, hW2⟩ hS (lv_sub hl [2, 3, 4, 5, 6] rfl)
  · refine lv_aload_n hx hb dL_law_522 rfl (lv_at hl 1 rfl) ?_
    refine lv_aload_n hx hb dL_law_523 rfl (lv_at hl 0 rfl) ?_
    refine lv_iload hx hb dL_law_524 (lv_at hl 4 rfl) ?_
    refine lv_iconst (v := 1) hx hb dL_law_526 (by decide) ?_
    refine lv_iadd hx hb dL_law_527 ?_
    refine va_sld hx hb hX hbl hbA hS hin1 dL_law_528 ?_
    refine rw_i (x' := v1) hv1 ?_
    refine lv_aload_n hx hb dL_law_529 rfl (lv_at hl 3 rfl) ?_
    have hpm := qm1 (T1 := (kW y ad zk ok 14)) (T2 := (kW y sd zs os 2)) (pr_13 y h a jq mh w x9 ft z o zc oc x2 ad fl sd jo X fR fr f g fd fk fz o2)
    have hPc : va_P G vwCl ([aJ y jq 1 jo] ++ ([kX11 h (a 0) (a 2) (a 16) (a 30) (a 44) (a 46) Z0, kX2 (a 44) (a 45) x2, aQ y (a 45) 14 (fun i => some (ad i 0)), kX7 (a 16) (a 17) (a 19) (a 20) (a 26) (a 28) (z 0), kX3 (a 17) (a 18) (z 1), aI y (a 18) 10 (z 2), kX1 (a 19) (z 3), kX8 (a 20) (a 21) (a 22) (a 23) (a 24) (a 25) (z 4), aI y (a 21) 20 (z 5), aI y (a 22) 20 (z 6), aI y (a 23) 20 (z 7), aI y (a 24) 20 (z 8), aI y (a 25) 20 o, kX10 (a 26) (a 27) (z 9), aI y (a 27) 32 (z 10), kX0 (a 28) (a 29) (z 11), aI y (a 29) 3 (z 12)] ++ (kW y ad zk ok 14))) H := P_r (P_perm hpm hP)
    have hDc : va_D (fun q : Nat => s.heap.size ≤ q) ([aJ y jq 1 jo] ++ ([kX11 h (a 0) (a 2) (a 16) (a 30) (a 44) (a 46) Z0, kX2 (a 44) (a 45) x2, aQ y (a 45) 14 (fun i => some (ad i 0)), kX7 (a 16) (a 17) (a 19) (a 20) (a 26) (a 28) (z 0), kX3 (a 17) (a 18) (z 1), aI y (a 18) 10 (z 2), kX1 (a 19) (z 3), kX8 (a 20) (a 21) (a 22) (a 23) (a 24) (a 25) (z 4), aI y (a 21) 20 (z 5), aI y (a 22) 20 (z 6), aI y (a 23) 20 (z 7), aI y (a 24) 20 (z 8), aI y (a 25) 20 o, kX10 (a 26) (a 27) (z 9), aI y (a 27) 32 (z 10), kX0 (a 28) (a 29) (z 11), aI y (a 29) 3 (z 12)] ++ (kW y ad zk ok 14))) := D_r (D_perm hpm hD)
    have hFc : ∀ q, va_A ([aJ y jq 1 jo] ++ ([kX11 h (a 0) (a 2) (a 16) (a 30) (a 44) (a 46) Z0, kX2 (a 44) (a 45) x2, aQ y (a 45) 14 (fun i => some (ad i 0)), kX7 (a 16) (a 17) (a 19) (a 20) (a 26) (a 28) (z 0), kX3 (a 17) (a 18) (z 1), aI y (a 18) 10 (z 2), kX1 (a 19) (z 3), kX8 (a 20) (a 21) (a 22) (a 23) (a 24) (a 25) (z 4), aI y (a 21) 20 (z 5), aI y (a 22) 20 (z 6), aI y (a 23) 20 (z 7), aI y (a 24) 20 (z 8), aI y (a 25) 20 o, kX10 (a 26) (a 27) (z 9), aI y (a 27) 32 (z 10), kX0 (a 28) (a 29) (z 11), aI y (a 29) 3 (z 12)] ++ (kW y ad zk ok 14))) H.size q → s.heap.size ≤ q := F_r (D_perm hpm hD) hS hA
    refine cl_LP (fun _ : Unit => ((lwE y h a jq mh w x9 ft z o zc oc x2 ad fl sd jo X fR fr f g fd fk fz o2) ++ ((kW y ad zk ok 14) ++ (kW y sd zs os 2)))) hpm (fun _ => qm1 (T1 := (kW y ad zk ok 14)) (T2 := (kW y sd zs os 2)) (pr_13 y h a jq mh w x9 ft z o zc oc x2 ad fl sd jo X fR fr f g fd fk fz o2)) (vx_runSX (As := [.ref h, .int v1, .ref jq]) (rest := []) ⟨hx, hb, hml, hown, hts⟩ (c_L_mode_n l G y h v1 (a 0) (a 2) (a 16) (a 30) (a 44) (a 46) (a 45) x2 (a 17) (a 19) (a 20) (a 26) (a 28) z (a 18) (a 21) (a 22) (a 23) (a 24) (a 25) o (a 27) (a 29) ad zk ok jq jo H.size (wf_c hW) (wf_b hW).1 (wf_b hW).2.1 (wf_b hW).2.2 hk hfl) (vx_cwSW 3 hts gL_law_L_mode rfl rfl rfl (by decide +kernel) ⟨Nat.le_of_ble_eq_true rfl, Nat.le_of_ble_eq_true rfl⟩) (PHL_S hPc hK hN hDc hTY hS hFc) rfl rfl hl.1 rfl (lv_room (Nat.le_of_ble_eq_true rfl)) dL_law_530 ⟨hkc, hks⟩) hP hD hS hA (fun _ H locs hP hD hS => ?_)
    have hP : va_P G vwCl ((lwE y h a jq mh w x9 ft z o zc oc x2 ad fl sd jo X fR fr f g fd fk fz o2) ++ ((kW y ad zk ok 14) ++ (kW y sd zs os 2))) H := hP
    have hD : va_D (fun q : Nat => s.heap.size ≤ q) ((lwE y h a jq mh w x9 ft z o zc oc x2 ad fl sd jo X fR fr f g fd fk fz o2) ++ ((kW y ad zk ok 14) ++ (kW y sd zs os 2))) := hD
    refine lv_istore (lv' := [(5, .int (cdK 1 (s_X11_mode_k v1))), (0, .ref b), (1, .ref h), (2, .ref mh), (3, .ref jq), (4, .int iv)]) hx hb dL_law_533 hl (by decide) rfl (fun ls hl => ?_)
    refine lv_aload_n hx hb dL_law_535 rfl (lv_at hl 3 rfl) ?_
    refine lv_aload_n hx hb dL_law_536 rfl (lv_at hl 1 rfl) ?_
    refine lv_iload hx hb dL_law_537 (lv_at hl 5 rfl) ?_
    refine lv_iconst (v := 1) hx hb dL_law_539 (by decide) ?_
    refine lv_iadd hx hb dL_law_540 ?_
    refine va_sld hx hb hX hbl hbA hS hin1 dL_law_541 ?_
    refine rw_i (x' := v1) hv1 ?_
    have hpm := qm0 (T := (kW y ad zk ok 14) ++ (kW y sd zs os 2)) (pr_14 y h a jq mh w x9 ft z o zc oc x2 ad fl sd jo X fR fr f g fd fk fz o2)
    have hPc : va_P G vwCl [kX12 mh (w 0) (w 1) (w 2) (w 3) (w 4) (w 5) (w 6) (w 7) X, aI y (w 2) 154 f, aI y (w 4) 2156 fd] H := P_r (P_perm hpm hP)
    have hDc : va_D (fun q : Nat => s.heap.size ≤ q) [kX12 mh (w 0) (w 1) (w 2) (w 3) (w 4) (w 5) (w 6) (w 7) X, aI y (w 2) 154 f, aI y (w 4) 2156 fd] := D_r (D_perm hpm hD)
    refine cl_MP (fun _ : Unit => ((lwE y h a jq mh w x9 ft z o zc oc x2 ad fl sd jo (s_X12_mode_w0 v1 X) fR fr (s_X12_mode_w1 v1 f) g (s_X12_mode_w2 v1 X f fd) fk fz o2) ++ ((kW y ad zk ok 14) ++ (kW y sd zs os 2)))) hpm (fun _ => qm0 (T := (kW y ad zk ok 14) ++ (kW y sd zs os 2)) (pr_14 y h a jq mh w x9 ft z o zc oc x2 ad fl sd jo (s_X12_mode_w0 v1 X) fR fr (s_X12_mode_w1 v1 f) g (s_X12_mode_w2 v1 X f fd) fk fz o2)) (va_runV (As := [.int v1]) (rest := []) ⟨hx, hb, hml, hown, hts⟩ (c_X12_mode l G y mh v1 (w 0) (w 1) (w 2) (w 3) (w 4) (w 5) (w 6) (w 7) X f fd H.size (wf_8 hW)) (cwV 1 hts gL_law_X12_mode rfl rfl rfl (by decide +kernel) ⟨Nat.le_of_ble_eq_true rfl, Nat.le_of_ble_eq_true rfl⟩) (PH_V hPc hK4 hN hDc (ci := 10) (q0 := 0) rfl rfl) rfl rfl hl.1 rfl (lv_room (Nat.le_of_ble_eq_true rfl)) dL_law_542 ⟨hkc, hks⟩) hP hD hS hA (fun _ H locs hP hD hS => ?_)
    have hP : va_P G vwCl ((lwE y h a jq mh w x9 ft z o zc oc x2 ad fl sd jo (s_X12_mode_w0 v1 X) fR fr (s_X12_mode_w1 v1 f) g (s_X12_mode_w2 v1 X f fd) fk fz o2) ++ ((kW y ad zk ok 14) ++ (kW y sd zs os 2))) H := hP
    have hD : va_D (fun q : Nat => s.heap.size ≤ q) ((lwE y h a jq mh w x9 ft z o zc oc x2 ad fl sd jo (s_X12_mode_w0 v1 X) fR fr (s_X12_mode_w1 v1 f) g (s_X12_mode_w2 v1 X f fd) fk fz o2) ++ ((kW y ad zk ok 14) ++ (kW y sd zs os 2))) := hD
    obtain ⟨e2, hW2⟩ := ln_mode hW hk
    have hT : s_X12_thrown_r (s_X12_mode_w0 v1 X) = cdK 1 (s_X11_mode_k v1) := (thr_eq _).trans e2
    refine lv_istore (lv' := [(6, .int (s_X12_mode_r v1 f)), (5, .int (cdK 1 (s_X11_mode_k v1))), (0, .ref b), (1, .ref h), (2, .ref mh), (3, .ref jq), (4, .int iv)]) hx hb dL_law_545 hl (by decide) rfl (fun ls hl => ?_)
    refine lv_aload_n hx hb dL_law_547 rfl (lv_at hl 4 rfl) ?_
    refine cl_Ri (va_runV (As := []) (rest := []) ⟨hx, hb, hml, hown, hts⟩ (c_X12_thrown l G y mh (w 0) (w 1) (w 2) (w 3) (w 4) (w 5) (w 6) (w 7) (s_X12_mode_w0 v1 X)) (cwV 0 hts gL_law_X12_thrown rfl rfl rfl (by decide +kernel) ⟨Nat.le_of_ble_eq_true rfl, Nat.le_of_ble_eq_true rfl⟩) (PR_V (sel_P [50] (rfl : sel _ [50] = [kX12 mh (w 0) (w 1) (w 2) (w 3) (w 4) (w 5) (w 6) (w 7) (s_X12_mode_w0 v1 X)]) hP) hK4 hN (ci := 10) (q0 := 0) rfl rfl) rfl rfl hl.1 rfl (lv_room (Nat.le_of_ble_eq_true rfl)) dL_law_548 ⟨hkc, hks⟩) ?_
    refine lv_iload hx hb dL_law_551 (lv_at hl 1 rfl) ?_
    refine lv_icmp_eq (tgt := 558) hx hb dL_law_553 (by decide) (fun _ => ?_) (fun c9 => absurd hT c9)
    refine lv_iload hx hb dL_law_558 (lv_at hl 1 rfl) ?_
    refine lv_if_ne (tgt := 575) hx hb dL_law_560 (by decide) (fun _ => ?_) (fun c9 => absurd c9 (cd_n hk))
    refine lv_goto (tgt := 1652) hx hb dL_law_575 (by decide) ?_
    refine W.widen (k := kc + 1) (n := ks + 6) (by omega) (by omega) ?_
    exact KN H locs ls ⟨x9, ft, z, o, zc, oc, x2, ad, zk, ok, fl, sd, zs, os, jo, (s_X12_mode_w0 v1 X), fR, fr, (s_X12_mode_w1 v1 f), g, (s_X12_mode_w2 v1 X f fd), fk, fz, o2, hP, hD, hW2⟩ hS (lv_sub hl [2, 3, 4, 5, 6] rfl)

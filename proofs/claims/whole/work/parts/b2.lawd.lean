set_option maxHeartbeats 2000000 in
set_option maxRecDepth 100000 in
theorem case_18 {p : Program} {l : Launch} {e : Env} {s : State} {m : MethodId} {below : List Frame} {meth : Method} {c : Code} {b L : Nat} {xs : Nat → Int32} {G : va_G} {y : Nat → ClassId} {h : Nat} {a : Nat → Nat} {jq mh : Nat} {w : Nat → Nat} {iv v1 v2 v3 : Int32} {N kc ks : Nat} {H : Heap} {locs : List Loc} {ls : Array Slot} (hfl : l.stackTraces = false) (C0 : lw_At p s m meth c b L xs) (hK : va_K G vwCl (tyJ y) s) (hN : NN s) (hTY : TY (fun q : Nat => s.heap.size ≤ q) s) (hin1 : vp_in (iv + 1) L) (hin2 : vp_in (iv + 2) L) (hin3 : vp_in (iv + 3) L) (hv1 : xs (iv + 1).toNatClampNeg = v1) (hv2 : xs (iv + 2).toNatClampNeg = v2) (hv3 : xs (iv + 3).toNatClampNeg = v3) (hkc : kc + 1 ≤ room_1.cells) (hks : ks + 6 ≤ room_1.slots) (hN9 : N + 12800 < 2147483648) (hI : LI G y h a jq mh w (fun q : Nat => s.heap.size ≤ q) N H) (hS : va_S (fun q : Nat => s.heap.size ≤ q) s.heap H locs) (hl : lv_has ls 7 [(0, .ref b), (1, .ref h), (2, .ref mh), (3, .ref jq), (4, .int iv)]) (KN : ∀ (H : Heap) (locs : List Loc) (ls : Array Slot), LI G y h a jq mh w (fun q : Nat => s.heap.size ≤ q) (N + 200) H → va_S (fun q : Nat => s.heap.size ≤ q) s.heap H locs → lv_has ls 7 [(0, .ref b), (1, .ref h), (2, .ref mh), (3, .ref jq), (4, .int iv)] → W p l e room_1 s m #[Value.ref b] below meth c H locs (kc + 1) (ks + 6) (lw_Z below #[Value.ref b] s) (F0 m 1652 ls [])) : W p l e room_1 s m #[Value.ref b] below meth c H locs kc ks (lw_Z below #[Value.ref b] s) (F0 m 1024 ls []) := by
  obtain ⟨hx, hb, hr, hml, hown, hts, hX, hbl, hlocks, hgv⟩ := C0
  have hts := fun w hh => hts w (wsL_law_in w hh)
  have hbA : ¬ (fun q : Nat => s.heap.size ≤ q) b := Nat.not_le.mpr hbl
  have hA : ∀ q : Nat, s.heap.size ≤ q → (fun q : Nat => s.heap.size ≤ q) q := fun _ h => h
  have hK4 : va_K G vwCl (tyG y) s := hK.sub (tys' := tyG y) [0, 1, 2, 3] rfl
  have hown : s.vm.findClass RL = some m.cls := hown
  have hkc0 : kc ≤ room_1.cells := Nat.le_of_succ_le hkc
  have hks0 : ks ≤ room_1.slots := Nat.le_trans (Nat.le_add_right ks 6) hks
  obtain ⟨x9, ft, z, o, zc, oc, x2, ad, zk, ok, fl, sd, zs, os, jo, X, fR, fr, f, g, fd, fk, fz, o2, hP, hD, hW⟩ := hI
  by_cases hk : (s_X11_toleranceFor_k v1) = 0
  · refine lv_aload_n hx hb dL_law_1024 rfl (lv_at hl 1 rfl) ?_
    refine lv_aload_n hx hb dL_law_1025 rfl (lv_at hl 0 rfl) ?_
    refine lv_iload hx hb dL_law_1026 (lv_at hl 4 rfl) ?_
    refine lv_iconst (v := 1) hx hb dL_law_1028 (by decide) ?_
    refine lv_iadd hx hb dL_law_1029 ?_
    refine va_sld hx hb hX hbl hbA hS hin1 dL_law_1030 ?_
    refine rw_i (x' := v1) hv1 ?_
    refine lv_aload_n hx hb dL_law_1031 rfl (lv_at hl 3 rfl) ?_
    have hpm := qm0 (T := (kW y ad zk ok 14) ++ (kW y sd zs os 2)) (pr_19 y h a jq mh w x9 ft z o zc oc x2 ad fl sd jo X fR fr f g fd fk fz o2)
    have hPc : va_P G vwCl ([aJ y jq 1 jo] ++ [kX11 h (a 0) (a 2) (a 16) (a 30) (a 44) (a 46) Z0, kX7 (a 16) (a 17) (a 19) (a 20) (a 26) (a 28) (z 0), kX8 (a 20) (a 21) (a 22) (a 23) (a 24) (a 25) (z 4), aI y (a 21) 20 (z 5), aI y (a 22) 20 (z 6), aI y (a 23) 20 (z 7), aI y (a 24) 20 (z 8), aI y (a 25) 20 o]) H := P_r (P_perm hpm hP)
    have hDc : va_D (fun q : Nat => s.heap.size ≤ q) ([aJ y jq 1 jo] ++ [kX11 h (a 0) (a 2) (a 16) (a 30) (a 44) (a 46) Z0, kX7 (a 16) (a 17) (a 19) (a 20) (a 26) (a 28) (z 0), kX8 (a 20) (a 21) (a 22) (a 23) (a 24) (a 25) (z 4), aI y (a 21) 20 (z 5), aI y (a 22) 20 (z 6), aI y (a 23) 20 (z 7), aI y (a 24) 20 (z 8), aI y (a 25) 20 o]) := D_r (D_perm hpm hD)
    have hFc : ∀ q, va_A ([aJ y jq 1 jo] ++ [kX11 h (a 0) (a 2) (a 16) (a 30) (a 44) (a 46) Z0, kX7 (a 16) (a 17) (a 19) (a 20) (a 26) (a 28) (z 0), kX8 (a 20) (a 21) (a 22) (a 23) (a 24) (a 25) (z 4), aI y (a 21) 20 (z 5), aI y (a 22) 20 (z 6), aI y (a 23) 20 (z 7), aI y (a 24) 20 (z 8), aI y (a 25) 20 o]) H.size q → s.heap.size ≤ q := F_r (D_perm hpm hD) hS hA
    refine cl_LP (fun u : (Nat → Int32) => ((lwE y h a jq mh w x9 ft z u zc oc x2 ad fl sd (vp_updL jo 0 (s_X11_toleranceFor_r v1 z).toInt64) X fR fr f g fd fk fz o2) ++ ((kW y ad zk ok 14) ++ (kW y sd zs os 2)))) hpm (fun u => qm0 (T := (kW y ad zk ok 14) ++ (kW y sd zs os 2)) (pr_19 y h a jq mh w x9 ft z u zc oc x2 ad fl sd (vp_updL jo 0 (s_X11_toleranceFor_r v1 z).toInt64) X fR fr f g fd fk fz o2)) (vx_runSX (As := [.ref h, .int v1, .ref jq]) (rest := []) ⟨hx, hb, hml, hown, hts⟩ (c_L_toleranceFor_y l G y h v1 (a 0) (a 2) (a 16) (a 30) (a 44) (a 46) (a 17) (a 19) (a 20) (a 26) (a 28) z (a 21) (a 22) (a 23) (a 24) (a 25) o jq jo H.size (wf_w hW) hk hfl) (vx_cwSW 3 hts gL_law_L_toleranceFor rfl rfl rfl (by decide +kernel) ⟨Nat.le_of_ble_eq_true rfl, Nat.le_of_ble_eq_true rfl⟩) (PHL_S hPc hK hN hDc hTY hS hFc) rfl rfl hl.1 rfl (lv_room (Nat.le_of_ble_eq_true rfl)) dL_law_1032 ⟨hkc, hks⟩) hP hD hS hA (fun u H locs hP hD hS => ?_)
    obtain ⟨o_1, rfl⟩ : ∃ zq9, zq9 = u := ⟨_, rfl⟩
    have hP : va_P G vwCl ((lwE y h a jq mh w x9 ft z o_1 zc oc x2 ad fl sd (vp_updL jo 0 (s_X11_toleranceFor_r v1 z).toInt64) X fR fr f g fd fk fz o2) ++ ((kW y ad zk ok 14) ++ (kW y sd zs os 2))) H := hP
    have hD : va_D (fun q : Nat => s.heap.size ≤ q) ((lwE y h a jq mh w x9 ft z o_1 zc oc x2 ad fl sd (vp_updL jo 0 (s_X11_toleranceFor_r v1 z).toInt64) X fR fr f g fd fk fz o2) ++ ((kW y ad zk ok 14) ++ (kW y sd zs os 2))) := hD
    refine lv_istore (lv' := [(5, .int 0), (0, .ref b), (1, .ref h), (2, .ref mh), (3, .ref jq), (4, .int iv)]) hx hb dL_law_1035 hl (by decide) rfl (fun ls hl => ?_)
    refine lv_aload_n hx hb dL_law_1037 rfl (lv_at hl 3 rfl) ?_
    refine lv_aload_n hx hb dL_law_1038 rfl (lv_at hl 1 rfl) ?_
    refine lv_iload hx hb dL_law_1039 (lv_at hl 5 rfl) ?_
    refine lv_iconst (v := 1) hx hb dL_law_1041 (by decide) ?_
    refine lv_iadd hx hb dL_law_1042 ?_
    refine va_sld hx hb hX hbl hbA hS hin1 dL_law_1043 ?_
    refine rw_i (x' := v1) hv1 ?_
    have hpm := qm0 (T := (kW y ad zk ok 14) ++ (kW y sd zs os 2)) (pr_20 y h a jq mh w x9 ft z o_1 zc oc x2 ad fl sd (vp_updL jo 0 (s_X11_toleranceFor_r v1 z).toInt64) X fR fr f g fd fk fz o2)
    have hPc : va_P G vwCl [kX12 mh (w 0) (w 1) (w 2) (w 3) (w 4) (w 5) (w 6) (w 7) X, aI y (w 2) 154 f, aI y (w 3) 154 g, aI y (w 7) 20 o2] H := P_r (P_perm hpm hP)
    have hDc : va_D (fun q : Nat => s.heap.size ≤ q) [kX12 mh (w 0) (w 1) (w 2) (w 3) (w 4) (w 5) (w 6) (w 7) X, aI y (w 2) 154 f, aI y (w 3) 154 g, aI y (w 7) 20 o2] := D_r (D_perm hpm hD)
    refine cl_MP (fun u : (Nat → Int32) × (Nat → Int32) => ((lwE y h a jq mh w x9 ft z o_1 zc oc x2 ad fl sd (vp_updL jo 0 (s_X11_toleranceFor_r v1 z).toInt64) (s_X12_toleranceFor_w0 v1 X) fR fr f u.1 fd fk fz u.2) ++ ((kW y ad zk ok 14) ++ (kW y sd zs os 2)))) hpm (fun u => qm0 (T := (kW y ad zk ok 14) ++ (kW y sd zs os 2)) (pr_20 y h a jq mh w x9 ft z o_1 zc oc x2 ad fl sd (vp_updL jo 0 (s_X11_toleranceFor_r v1 z).toInt64) (s_X12_toleranceFor_w0 v1 X) fR fr f u.1 fd fk fz u.2)) (va_runV (As := [.int v1]) (rest := []) ⟨hx, hb, hml, hown, hts⟩ (c_X12_toleranceFor l G y mh v1 (w 0) (w 1) (w 2) (w 3) (w 4) (w 5) (w 6) (w 7) X f g o2 H.size (wf_16 hW)) (cwV 1 hts gL_law_X12_toleranceFor rfl rfl rfl (by decide +kernel) ⟨Nat.le_of_ble_eq_true rfl, Nat.le_of_ble_eq_true rfl⟩) (PH_V hPc hK4 hN hDc (ci := 10) (q0 := 0) rfl rfl) rfl rfl hl.1 rfl (lv_room (Nat.le_of_ble_eq_true rfl)) dL_law_1044 ⟨hkc, hks⟩) hP hD hS hA (fun u H locs hP hD hS => ?_)
    obtain ⟨g_X12, o_X12⟩ := u
    have hP : va_P G vwCl ((lwE y h a jq mh w x9 ft z o_1 zc oc x2 ad fl sd (vp_updL jo 0 (s_X11_toleranceFor_r v1 z).toInt64) (s_X12_toleranceFor_w0 v1 X) fR fr f g_X12 fd fk fz o_X12) ++ ((kW y ad zk ok 14) ++ (kW y sd zs os 2))) H := hP
    have hD : va_D (fun q : Nat => s.heap.size ≤ q) ((lwE y h a jq mh w x9 ft z o_1 zc oc x2 ad fl sd (vp_updL jo 0 (s_X11_toleranceFor_r v1 z).toInt64) (s_X12_toleranceFor_w0 v1 X) fR fr f g_X12 fd fk fz o_X12) ++ ((kW y ad zk ok 14) ++ (kW y sd zs os 2))) := hD
    obtain ⟨e1, e2, hW2⟩ := ly_toleranceFor hW hN9 hk
    have hT : s_X12_thrown_r (s_X12_toleranceFor_w0 v1 X) = 0 := (thr_eq _).trans e2
    refine lv_istore (lv' := [(6, .int (s_X12_toleranceFor_r v1 f)), (5, .int 0), (0, .ref b), (1, .ref h), (2, .ref mh), (3, .ref jq), (4, .int iv)]) hx hb dL_law_1047 hl (by decide) rfl (fun ls hl => ?_)
    refine lv_aload_n hx hb dL_law_1049 rfl (lv_at hl 4 rfl) ?_
    refine cl_Ri (va_runV (As := []) (rest := []) ⟨hx, hb, hml, hown, hts⟩ (c_X12_thrown l G y mh (w 0) (w 1) (w 2) (w 3) (w 4) (w 5) (w 6) (w 7) (s_X12_toleranceFor_w0 v1 X)) (cwV 0 hts gL_law_X12_thrown rfl rfl rfl (by decide +kernel) ⟨Nat.le_of_ble_eq_true rfl, Nat.le_of_ble_eq_true rfl⟩) (PR_V (sel_P [50] (rfl : sel _ [50] = [kX12 mh (w 0) (w 1) (w 2) (w 3) (w 4) (w 5) (w 6) (w 7) (s_X12_toleranceFor_w0 v1 X)]) hP) hK4 hN (ci := 10) (q0 := 0) rfl rfl) rfl rfl hl.1 rfl (lv_room (Nat.le_of_ble_eq_true rfl)) dL_law_1050 ⟨hkc, hks⟩) ?_
    refine lv_iload hx hb dL_law_1053 (lv_at hl 1 rfl) ?_
    refine lv_icmp_eq (tgt := 1060) hx hb dL_law_1055 (by decide) (fun _ => ?_) (fun c9 => absurd hT c9)
    refine lv_iload hx hb dL_law_1060 (lv_at hl 1 rfl) ?_
    refine lv_if_ne (tgt := 1077) hx hb dL_law_1062 (by decide) (fun c9 => absurd rfl c9) (fun _ => ?_)
    refine lv_aload_n hx hb dL_law_1065 rfl (lv_at hl 5 rfl) ?_
    refine lv_iconst (v := 0) hx hb dL_law_1066 (by decide) ?_
    refine al_o hx hb hK 59 hP rfl dL_law_1067 ?_
    refine lv_iload hx hb dL_law_1068 (lv_at hl 0 rfl) ?_
    refine lv_i2l (v := (s_X12_toleranceFor_r v1 f).toInt64) hx hb dL_law_1070 rfl ?_
    refine W.lcmp hx hb dL_law_1071 ?_
    refine lv_if_eq (tgt := 1077) hx hb dL_law_1072 (by decide) (fun _ => ?_) (fun c9 => absurd (lg_o e1) c9)
    refine lv_goto (tgt := 1652) hx hb dL_law_1077 (by decide) ?_
    refine W.widen (k := kc + 1) (n := ks + 6) (by omega) (by omega) ?_
    exact KN H locs ls ⟨x9, ft, z, o_1, zc, oc, x2, ad, zk, ok, fl, sd, zs, os, (vp_updL jo 0 (s_X11_toleranceFor_r v1 z).toInt64), (s_X12_toleranceFor_w0 v1 X), fR, fr, f, g_X12, fd, fk, fz, o_X12, hP, hD, hW2⟩ hS (lv_sub hl [2, 3, 4, 5, 6] rfl)
  · refine lv_aload_n hx hb dL_law_1024 rfl (lv_at hl 1 rfl) ?_
    refine lv_aload_n hx hb dL_law_1025 rfl (lv_at hl 0 rfl) ?_
    refine lv_iload hx hb dL_law_1026 (lv_at hl 4 rfl) ?_
    refine lv_iconst (v := 1) hx hb dL_law_1028 (by decide) ?_
    refine lv_iadd hx hb dL_law_1029 ?_
    refine va_sld hx hb hX hbl hbA hS hin1 dL_law_1030 ?_
    refine rw_i (x' := v1) hv1 ?_
    refine lv_aload_n hx hb dL_law_1031 rfl (lv_at hl 3 rfl) ?_
    have hpm := qm0 (T := (kW y ad zk ok 14) ++ (kW y sd zs os 2)) (pr_19 y h a jq mh w x9 ft z o zc oc x2 ad fl sd jo X fR fr f g fd fk fz o2)
    have hPc : va_P G vwCl ([aJ y jq 1 jo] ++ [kX11 h (a 0) (a 2) (a 16) (a 30) (a 44) (a 46) Z0, kX7 (a 16) (a 17) (a 19) (a 20) (a 26) (a 28) (z 0), kX8 (a 20) (a 21) (a 22) (a 23) (a 24) (a 25) (z 4), aI y (a 21) 20 (z 5), aI y (a 22) 20 (z 6), aI y (a 23) 20 (z 7), aI y (a 24) 20 (z 8), aI y (a 25) 20 o]) H := P_r (P_perm hpm hP)
    have hDc : va_D (fun q : Nat => s.heap.size ≤ q) ([aJ y jq 1 jo] ++ [kX11 h (a 0) (a 2) (a 16) (a 30) (a 44) (a 46) Z0, kX7 (a 16) (a 17) (a 19) (a 20) (a 26) (a 28) (z 0), kX8 (a 20) (a 21) (a 22) (a 23) (a 24) (a 25) (z 4), aI y (a 21) 20 (z 5), aI y (a 22) 20 (z 6), aI y (a 23) 20 (z 7), aI y (a 24) 20 (z 8), aI y (a 25) 20 o]) := D_r (D_perm hpm hD)
    have hFc : ∀ q, va_A ([aJ y jq 1 jo] ++ [kX11 h (a 0) (a 2) (a 16) (a 30) (a 44) (a 46) Z0, kX7 (a 16) (a 17) (a 19) (a 20) (a 26) (a 28) (z 0), kX8 (a 20) (a 21) (a 22) (a 23) (a 24) (a 25) (z 4), aI y (a 21) 20 (z 5), aI y (a 22) 20 (z 6), aI y (a 23) 20 (z 7), aI y (a 24) 20 (z 8), aI y (a 25) 20 o]) H.size q → s.heap.size ≤ q := F_r (D_perm hpm hD) hS hA
    refine cl_LP (fun u : (Nat → Int32) => ((lwE y h a jq mh w x9 ft z u zc oc x2 ad fl sd jo X fR fr f g fd fk fz o2) ++ ((kW y ad zk ok 14) ++ (kW y sd zs os 2)))) hpm (fun u => qm0 (T := (kW y ad zk ok 14) ++ (kW y sd zs os 2)) (pr_19 y h a jq mh w x9 ft z u zc oc x2 ad fl sd jo X fR fr f g fd fk fz o2)) (vx_runSX (As := [.ref h, .int v1, .ref jq]) (rest := []) ⟨hx, hb, hml, hown, hts⟩ (c_L_toleranceFor_n l G y h v1 (a 0) (a 2) (a 16) (a 30) (a 44) (a 46) (a 17) (a 19) (a 20) (a 26) (a 28) z (a 21) (a 22) (a 23) (a 24) (a 25) o jq jo H.size (wf_w hW) hk hfl) (vx_cwSW 3 hts gL_law_L_toleranceFor rfl rfl rfl (by decide +kernel) ⟨Nat.le_of_ble_eq_true rfl, Nat.le_of_ble_eq_true rfl⟩) (PHL_S hPc hK hN hDc hTY hS hFc) rfl rfl hl.1 rfl (lv_room (Nat.le_of_ble_eq_true rfl)) dL_law_1032 ⟨hkc, hks⟩) hP hD hS hA (fun u H locs hP hD hS => ?_)
    obtain ⟨o_1, rfl⟩ : ∃ zq9, zq9 = u := ⟨_, rfl⟩
    have hP : va_P G vwCl ((lwE y h a jq mh w x9 ft z o_1 zc oc x2 ad fl sd jo X fR fr f g fd fk fz o2) ++ ((kW y ad zk ok 14) ++ (kW y sd zs os 2))) H := hP
    have hD : va_D (fun q : Nat => s.heap.size ≤ q) ((lwE y h a jq mh w x9 ft z o_1 zc oc x2 ad fl sd jo X fR fr f g fd fk fz o2) ++ ((kW y ad zk ok 14) ++ (kW y sd zs os 2))) := hD
    refine lv_istore (lv' := [(5, .int (cdK 1 (s_X11_toleranceFor_k v1))), (0, .ref b), (1, .ref h), (2, .ref mh), (3, .ref jq), (4, .int iv)]) hx hb dL_law_1035 hl (by decide) rfl (fun ls hl => ?_)
    refine lv_aload_n hx hb dL_law_1037 rfl (lv_at hl 3 rfl) ?_
    refine lv_aload_n hx hb dL_law_1038 rfl (lv_at hl 1 rfl) ?_
    refine lv_iload hx hb dL_law_1039 (lv_at hl 5 rfl) ?_
    refine lv_iconst (v := 1) hx hb dL_law_1041 (by decide) ?_
    refine lv_iadd hx hb dL_law_1042 ?_
    refine va_sld hx hb hX hbl hbA hS hin1 dL_law_1043 ?_
    refine rw_i (x' := v1) hv1 ?_
    have hpm := qm0 (T := (kW y ad zk ok 14) ++ (kW y sd zs os 2)) (pr_20 y h a jq mh w x9 ft z o_1 zc oc x2 ad fl sd jo X fR fr f g fd fk fz o2)
    have hPc : va_P G vwCl [kX12 mh (w 0) (w 1) (w 2) (w 3) (w 4) (w 5) (w 6) (w 7) X, aI y (w 2) 154 f, aI y (w 3) 154 g, aI y (w 7) 20 o2] H := P_r (P_perm hpm hP)
    have hDc : va_D (fun q : Nat => s.heap.size ≤ q) [kX12 mh (w 0) (w 1) (w 2) (w 3) (w 4) (w 5) (w 6) (w 7) X, aI y (w 2) 154 f, aI y (w 3) 154 g, aI y (w 7) 20 o2] := D_r (D_perm hpm hD)
    refine cl_MP (fun u : (Nat → Int32) × (Nat → Int32) => ((lwE y h a jq mh w x9 ft z o_1 zc oc x2 ad fl sd jo (s_X12_toleranceFor_w0 v1 X) fR fr f u.1 fd fk fz u.2) ++ ((kW y ad zk ok 14) ++ (kW y sd zs os 2)))) hpm (fun u => qm0 (T := (kW y ad zk ok 14) ++ (kW y sd zs os 2)) (pr_20 y h a jq mh w x9 ft z o_1 zc oc x2 ad fl sd jo (s_X12_toleranceFor_w0 v1 X) fR fr f u.1 fd fk fz u.2)) (va_runV (As := [.int v1]) (rest := []) ⟨hx, hb, hml, hown, hts⟩ (c_X12_toleranceFor l G y mh v1 (w 0) (w 1) (w 2) (w 3) (w 4) (w 5) (w 6) (w 7) X f g o2 H.size (wf_16 hW)) (cwV 1 hts gL_law_X12_toleranceFor rfl rfl rfl (by decide +kernel) ⟨Nat.le_of_ble_eq_true rfl, Nat.le_of_ble_eq_true rfl⟩) (PH_V hPc hK4 hN hDc (ci := 10) (q0 := 0) rfl rfl) rfl rfl hl.1 rfl (lv_room (Nat.le_of_ble_eq_true rfl)) dL_law_1044 ⟨hkc, hks⟩) hP hD hS hA (fun u H locs hP hD hS => ?_)
    obtain ⟨g_X12, o_X12⟩ := u
    have hP : va_P G vwCl ((lwE y h a jq mh w x9 ft z o_1 zc oc x2 ad fl sd jo (s_X12_toleranceFor_w0 v1 X) fR fr f g_X12 fd fk fz o_X12) ++ ((kW y ad zk ok 14) ++ (kW y sd zs os 2))) H := hP
    have hD : va_D (fun q : Nat => s.heap.size ≤ q) ((lwE y h a jq mh w x9 ft z o_1 zc oc x2 ad fl sd jo (s_X12_toleranceFor_w0 v1 X) fR fr f g_X12 fd fk fz o_X12) ++ ((kW y ad zk ok 14) ++ (kW y sd zs os 2))) := hD
    obtain ⟨e2, hW2⟩ := ln_toleranceFor hW hk
    have hT : s_X12_thrown_r (s_X12_toleranceFor_w0 v1 X) = cdK 1 (s_X11_toleranceFor_k v1) := (thr_eq _).trans e2
    refine lv_istore (lv' := [(6, .int (s_X12_toleranceFor_r v1 f)), (5, .int (cdK 1 (s_X11_toleranceFor_k v1))), (0, .ref b), (1, .ref h), (2, .ref mh), (3, .ref jq), (4, .int iv)]) hx hb dL_law_1047 hl (by decide) rfl (fun ls hl => ?_)
    refine lv_aload_n hx hb dL_law_1049 rfl (lv_at hl 4 rfl) ?_
    refine cl_Ri (va_runV (As := []) (rest := []) ⟨hx, hb, hml, hown, hts⟩ (c_X12_thrown l G y mh (w 0) (w 1) (w 2) (w 3) (w 4) (w 5) (w 6) (w 7) (s_X12_toleranceFor_w0 v1 X)) (cwV 0 hts gL_law_X12_thrown rfl rfl rfl (by decide +kernel) ⟨Nat.le_of_ble_eq_true rfl, Nat.le_of_ble_eq_true rfl⟩) (PR_V (sel_P [50] (rfl : sel _ [50] = [kX12 mh (w 0) (w 1) (w 2) (w 3) (w 4) (w 5) (w 6) (w 7) (s_X12_toleranceFor_w0 v1 X)]) hP) hK4 hN (ci := 10) (q0 := 0) rfl rfl) rfl rfl hl.1 rfl (lv_room (Nat.le_of_ble_eq_true rfl)) dL_law_1050 ⟨hkc, hks⟩) ?_
    refine lv_iload hx hb dL_law_1053 (lv_at hl 1 rfl) ?_
    refine lv_icmp_eq (tgt := 1060) hx hb dL_law_1055 (by decide) (fun _ => ?_) (fun c9 => absurd hT c9)
    refine lv_iload hx hb dL_law_1060 (lv_at hl 1 rfl) ?_
    refine lv_if_ne (tgt := 1077) hx hb dL_law_1062 (by decide) (fun _ => ?_) (fun c9 => absurd c9 (cd_n hk))
    refine lv_goto (tgt := 1652) hx hb dL_law_1077 (by decide) ?_
    refine W.widen (k := kc + 1) (n := ks + 6) (by omega) (by omega) ?_
    exact KN H locs ls ⟨x9, ft, z, o_1, zc, oc, x2, ad, zk, ok, fl, sd, zs, os, jo, (s_X12_toleranceFor_w0 v1 X), fR, fr, f, g_X12, fd, fk, fz, o_X12, hP, hD, hW2⟩ hS (lv_sub hl [2, 3, 4, 5, 6] rfl)
set_option maxHeartbeats 2000000 in
set_option maxRecDepth 100000 in
theorem case_19 {p : Program} {l : Launch} {e : Env} {s : State} {m : MethodId} {below : List Frame} {meth : Method} {c : Code} {b L : Nat} {xs : Nat → Int32} {G : va_G} {y : Nat → ClassId} {h : Nat} {a : Nat → Nat} {jq mh : Nat} {w : Nat → Nat} {iv v1 v2 v3 : Int32} {N kc ks : Nat} {H : Heap} {locs : List Loc} {ls : Array Slot} (hfl : l.stackTraces = false) (C0 : lw_At p s m meth c b L xs) (hK : va_K G vwCl (tyJ y) s) (hN : NN s) (hTY : TY (fun q : Nat => s.heap.size ≤ q) s) (hin1 : vp_in (iv + 1) L) (hin2 : vp_in (iv + 2) L) (hin3 : vp_in (iv + 3) L) (hv1 : xs (iv + 1).toNatClampNeg = v1) (hv2 : xs (iv + 2).toNatClampNeg = v2) (hv3 : xs (iv + 3).toNatClampNeg = v3) (hkc : kc + 1 ≤ room_1.cells) (hks : ks + 6 ≤ room_1.slots) (hN9 : N + 12800 < 2147483648) (hI : LI G y h a jq mh w (fun q : Nat => s.heap.size ≤ q) N H) (hS : va_S (fun q : Nat => s.heap.size ≤ q) s.heap H locs) (hl : lv_has ls 7 [(0, .ref b), (1, .ref h), (2, .ref mh), (3, .ref jq), (4, .int iv)]) (KN : ∀ (H : Heap) (locs : List Loc) (ls : Array Slot), LI G y h a jq mh w (fun q : Nat => s.heap.size ≤ q) (N + 200) H → va_S (fun q : Nat => s.heap.size ≤ q) s.heap H locs → lv_has ls 7 [(0, .ref b), (1, .ref h), (2, .ref mh), (3, .ref jq), (4, .int iv)] → W p l e room_1 s m #[Value.ref b] below meth c H locs (kc + 1) (ks + 6) (lw_Z below #[Value.ref b] s) (F0 m 1652 ls [])) : W p l e room_1 s m #[Value.ref b] below meth c H locs kc ks (lw_Z below #[Value.ref b] s) (F0 m 1080 ls []) := by
  obtain ⟨hx, hb, hr, hml, hown, hts, hX, hbl, hlocks, hgv⟩ := C0
  have hts := fun w hh => hts w (wsL_law_in w hh)
  have hbA : ¬ (fun q : Nat => s.heap.size ≤ q) b := Nat.not_le.mpr hbl
  have hA : ∀ q : Nat, s.heap.size ≤ q → (fun q : Nat => s.heap.size ≤ q) q := fun _ h => h
  have hK4 : va_K G vwCl (tyG y) s := hK.sub (tys' := tyG y) [0, 1, 2, 3] rfl
  have hown : s.vm.findClass RL = some m.cls := hown
  have hkc0 : kc ≤ room_1.cells := Nat.le_of_succ_le hkc
  have hks0 : ks ≤ room_1.slots := Nat.le_trans (Nat.le_add_right ks 6) hks
  obtain ⟨x9, ft, z, o, zc, oc, x2, ad, zk, ok, fl, sd, zs, os, jo, X, fR, fr, f, g, fd, fk, fz, o2, hP, hD, hW⟩ := hI
  by_cases hk : (s_X11_ahead_k v1 v2) = 0
  · refine lv_aload_n hx hb dL_law_1080 rfl (lv_at hl 1 rfl) ?_
    refine lv_aload_n hx hb dL_law_1081 rfl (lv_at hl 0 rfl) ?_
    refine lv_iload hx hb dL_law_1082 (lv_at hl 4 rfl) ?_
    refine lv_iconst (v := 1) hx hb dL_law_1084 (by decide) ?_
    refine lv_iadd hx hb dL_law_1085 ?_
    refine va_sld hx hb hX hbl hbA hS hin1 dL_law_1086 ?_
    refine rw_i (x' := v1) hv1 ?_
    refine lv_aload_n hx hb dL_law_1087 rfl (lv_at hl 0 rfl) ?_
    refine lv_iload hx hb dL_law_1088 (lv_at hl 4 rfl) ?_
    refine lv_iconst (v := 2) hx hb dL_law_1090 (by decide) ?_
    refine lv_iadd hx hb dL_law_1091 ?_
    refine va_sld hx hb hX hbl hbA hS hin2 dL_law_1092 ?_
    refine rw_i (x' := v2) hv2 ?_
    refine lv_aload_n hx hb dL_law_1093 rfl (lv_at hl 3 rfl) ?_
    have hpm := qm0 (T := (kW y ad zk ok 14) ++ (kW y sd zs os 2)) (pr_21 y h a jq mh w x9 ft z o zc oc x2 ad fl sd jo X fR fr f g fd fk fz o2)
    have hPc : va_P G vwCl ([aJ y jq 1 jo] ++ [kX11 h (a 0) (a 2) (a 16) (a 30) (a 44) (a 46) Z0, kX7 (a 16) (a 17) (a 19) (a 20) (a 26) (a 28) (z 0), kX3 (a 17) (a 18) (z 1), aI y (a 18) 10 (z 2), kX1 (a 19) (z 3), kX8 (a 20) (a 21) (a 22) (a 23) (a 24) (a 25) (z 4), aI y (a 21) 20 (z 5), aI y (a 22) 20 (z 6), aI y (a 23) 20 (z 7), aI y (a 24) 20 (z 8), aI y (a 25) 20 o, kX10 (a 26) (a 27) (z 9), aI y (a 27) 32 (z 10), kX0 (a 28) (a 29) (z 11), aI y (a 29) 3 (z 12), kX7 (a 30) (a 31) (a 33) (a 34) (a 40) (a 42) (zc 0), kX3 (a 31) (a 32) (zc 1), aI y (a 32) 10 (zc 2), kX1 (a 33) (zc 3), kX8 (a 34) (a 35) (a 36) (a 37) (a 38) (a 39) (zc 4), aI y (a 35) 20 (zc 5), aI y (a 36) 20 (zc 6), aI y (a 37) 20 (zc 7), aI y (a 38) 20 (zc 8), aI y (a 39) 20 oc, kX10 (a 40) (a 41) (zc 9), aI y (a 41) 32 (zc 10), kX0 (a 42) (a 43) (zc 11), aI y (a 43) 3 (zc 12)]) H := P_r (P_perm hpm hP)
    have hDc : va_D (fun q : Nat => s.heap.size ≤ q) ([aJ y jq 1 jo] ++ [kX11 h (a 0) (a 2) (a 16) (a 30) (a 44) (a 46) Z0, kX7 (a 16) (a 17) (a 19) (a 20) (a 26) (a 28) (z 0), kX3 (a 17) (a 18) (z 1), aI y (a 18) 10 (z 2), kX1 (a 19) (z 3), kX8 (a 20) (a 21) (a 22) (a 23) (a 24) (a 25) (z 4), aI y (a 21) 20 (z 5), aI y (a 22) 20 (z 6), aI y (a 23) 20 (z 7), aI y (a 24) 20 (z 8), aI y (a 25) 20 o, kX10 (a 26) (a 27) (z 9), aI y (a 27) 32 (z 10), kX0 (a 28) (a 29) (z 11), aI y (a 29) 3 (z 12), kX7 (a 30) (a 31) (a 33) (a 34) (a 40) (a 42) (zc 0), kX3 (a 31) (a 32) (zc 1), aI y (a 32) 10 (zc 2), kX1 (a 33) (zc 3), kX8 (a 34) (a 35) (a 36) (a 37) (a 38) (a 39) (zc 4), aI y (a 35) 20 (zc 5), aI y (a 36) 20 (zc 6), aI y (a 37) 20 (zc 7), aI y (a 38) 20 (zc 8), aI y (a 39) 20 oc, kX10 (a 40) (a 41) (zc 9), aI y (a 41) 32 (zc 10), kX0 (a 42) (a 43) (zc 11), aI y (a 43) 3 (zc 12)]) := D_r (D_perm hpm hD)
    have hFc : ∀ q, va_A ([aJ y jq 1 jo] ++ [kX11 h (a 0) (a 2) (a 16) (a 30) (a 44) (a 46) Z0, kX7 (a 16) (a 17) (a 19) (a 20) (a 26) (a 28) (z 0), kX3 (a 17) (a 18) (z 1), aI y (a 18) 10 (z 2), kX1 (a 19) (z 3), kX8 (a 20) (a 21) (a 22) (a 23) (a 24) (a 25) (z 4), aI y (a 21) 20 (z 5), aI y (a 22) 20 (z 6), aI y (a 23) 20 (z 7), aI y (a 24) 20 (z 8), aI y (a 25) 20 o, kX10 (a 26) (a 27) (z 9), aI y (a 27) 32 (z 10), kX0 (a 28) (a 29) (z 11), aI y (a 29) 3 (z 12), kX7 (a 30) (a 31) (a 33) (a 34) (a 40) (a 42) (zc 0), kX3 (a 31) (a 32) (zc 1), aI y (a 32) 10 (zc 2), kX1 (a 33) (zc 3), kX8 (a 34) (a 35) (a 36) (a 37) (a 38) (a 39) (zc 4), aI y (a 35) 20 (zc 5), aI y (a 36) 20 (zc 6), aI y (a 37) 20 (zc 7), aI y (a 38) 20 (zc 8), aI y (a 39) 20 oc, kX10 (a 40) (a 41) (zc 9), aI y (a 41) 32 (zc 10), kX0 (a 42) (a 43) (zc 11), aI y (a 43) 3 (zc 12)]) H.size q → s.heap.size ≤ q := F_r (D_perm hpm hD) hS hA
    refine cl_LP (fun u : (Nat → Nat → Int32) => ((lwE y h a jq mh w x9 ft z o u oc x2 ad fl sd (vp_updL jo 0 (s_X11_ahead_r v1 v2 z).toInt64) X fR fr f g fd fk fz o2) ++ ((kW y ad zk ok 14) ++ (kW y sd zs os 2)))) hpm (fun u => qm0 (T := (kW y ad zk ok 14) ++ (kW y sd zs os 2)) (pr_21 y h a jq mh w x9 ft z o u oc x2 ad fl sd (vp_updL jo 0 (s_X11_ahead_r v1 v2 z).toInt64) X fR fr f g fd fk fz o2)) (vx_runSX (As := [.ref h, .int v1, .int v2, .ref jq]) (rest := []) ⟨hx, hb, hml, hown, hts⟩ (c_L_ahead_y l G y h v1 v2 (a 0) (a 2) (a 16) (a 30) (a 44) (a 46) (a 17) (a 19) (a 20) (a 26) (a 28) z (a 18) (a 21) (a 22) (a 23) (a 24) (a 25) o (a 27) (a 29) (a 31) (a 33) (a 34) (a 40) (a 42) zc (a 32) (a 35) (a 36) (a 37) (a 38) (a 39) oc (a 41) (a 43) jq jo H.size (wf_b hW).1 (wf_b hW).2.1 (wf_b hW).2.2 (WR.tc hW.2.1) hk hfl) (vx_cwSW 4 hts gL_law_L_ahead rfl rfl rfl (by decide +kernel) ⟨Nat.le_of_ble_eq_true rfl, Nat.le_of_ble_eq_true rfl⟩) (PHL_S hPc hK hN hDc hTY hS hFc) rfl rfl hl.1 rfl (lv_room (Nat.le_of_ble_eq_true rfl)) dL_law_1094 ⟨hkc, hks⟩) hP hD hS hA (fun u H locs hP hD hS => ?_)
    obtain ⟨c9_1, rfl⟩ : ∃ zq9, zq9 = u := ⟨_, rfl⟩
    have hP : va_P G vwCl ((lwE y h a jq mh w x9 ft z o c9_1 oc x2 ad fl sd (vp_updL jo 0 (s_X11_ahead_r v1 v2 z).toInt64) X fR fr f g fd fk fz o2) ++ ((kW y ad zk ok 14) ++ (kW y sd zs os 2))) H := hP
    have hD : va_D (fun q : Nat => s.heap.size ≤ q) ((lwE y h a jq mh w x9 ft z o c9_1 oc x2 ad fl sd (vp_updL jo 0 (s_X11_ahead_r v1 v2 z).toInt64) X fR fr f g fd fk fz o2) ++ ((kW y ad zk ok 14) ++ (kW y sd zs os 2))) := hD
    refine lv_istore (lv' := [(5, .int 0), (0, .ref b), (1, .ref h), (2, .ref mh), (3, .ref jq), (4, .int iv)]) hx hb dL_law_1097 hl (by decide) rfl (fun ls hl => ?_)
    refine lv_aload_n hx hb dL_law_1099 rfl (lv_at hl 3 rfl) ?_
    refine lv_aload_n hx hb dL_law_1100 rfl (lv_at hl 1 rfl) ?_
    refine lv_iload hx hb dL_law_1101 (lv_at hl 5 rfl) ?_
    refine lv_iconst (v := 1) hx hb dL_law_1103 (by decide) ?_
    refine lv_iadd hx hb dL_law_1104 ?_
    refine va_sld hx hb hX hbl hbA hS hin1 dL_law_1105 ?_
    refine rw_i (x' := v1) hv1 ?_
    refine lv_aload_n hx hb dL_law_1106 rfl (lv_at hl 1 rfl) ?_
    refine lv_iload hx hb dL_law_1107 (lv_at hl 5 rfl) ?_
    refine lv_iconst (v := 2) hx hb dL_law_1109 (by decide) ?_
    refine lv_iadd hx hb dL_law_1110 ?_
    refine va_sld hx hb hX hbl hbA hS hin2 dL_law_1111 ?_
    refine rw_i (x' := v2) hv2 ?_
    have hpm := qm0 (T := (kW y ad zk ok 14) ++ (kW y sd zs os 2)) (pr_22 y h a jq mh w x9 ft z o c9_1 oc x2 ad fl sd (vp_updL jo 0 (s_X11_ahead_r v1 v2 z).toInt64) X fR fr f g fd fk fz o2)
    have hPc : va_P G vwCl [kX12 mh (w 0) (w 1) (w 2) (w 3) (w 4) (w 5) (w 6) (w 7) X, aI y (w 2) 154 f, aI y (w 3) 154 g] H := P_r (P_perm hpm hP)
    have hDc : va_D (fun q : Nat => s.heap.size ≤ q) [kX12 mh (w 0) (w 1) (w 2) (w 3) (w 4) (w 5) (w 6) (w 7) X, aI y (w 2) 154 f, aI y (w 3) 154 g] := D_r (D_perm hpm hD)
    refine cl_MP (fun u : (Nat → Int32) => ((lwE y h a jq mh w x9 ft z o c9_1 oc x2 ad fl sd (vp_updL jo 0 (s_X11_ahead_r v1 v2 z).toInt64) (s_X12_ahead_w0 v1 v2 X f) fR fr f u fd fk fz o2) ++ ((kW y ad zk ok 14) ++ (kW y sd zs os 2)))) hpm (fun u => qm0 (T := (kW y ad zk ok 14) ++ (kW y sd zs os 2)) (pr_22 y h a jq mh w x9 ft z o c9_1 oc x2 ad fl sd (vp_updL jo 0 (s_X11_ahead_r v1 v2 z).toInt64) (s_X12_ahead_w0 v1 v2 X f) fR fr f u fd fk fz o2)) (va_runV (As := [.int v1, .int v2]) (rest := []) ⟨hx, hb, hml, hown, hts⟩ (c_X12_ahead l G y mh v1 v2 (w 0) (w 1) (w 2) (w 3) (w 4) (w 5) (w 6) (w 7) X f g H.size (wf_TK hW)) (cwV 2 hts gL_law_X12_ahead rfl rfl rfl (by decide +kernel) ⟨Nat.le_of_ble_eq_true rfl, Nat.le_of_ble_eq_true rfl⟩) (PH_V hPc hK4 hN hDc (ci := 10) (q0 := 0) rfl rfl) rfl rfl hl.1 rfl (lv_room (Nat.le_of_ble_eq_true rfl)) dL_law_1112 ⟨hkc, hks⟩) hP hD hS hA (fun u H locs hP hD hS => ?_)
    obtain ⟨g_X12, rfl⟩ : ∃ zq9, zq9 = u := ⟨_, rfl⟩
    have hP : va_P G vwCl ((lwE y h a jq mh w x9 ft z o c9_1 oc x2 ad fl sd (vp_updL jo 0 (s_X11_ahead_r v1 v2 z).toInt64) (s_X12_ahead_w0 v1 v2 X f) fR fr f g_X12 fd fk fz o2) ++ ((kW y ad zk ok 14) ++ (kW y sd zs os 2))) H := hP
    have hD : va_D (fun q : Nat => s.heap.size ≤ q) ((lwE y h a jq mh w x9 ft z o c9_1 oc x2 ad fl sd (vp_updL jo 0 (s_X11_ahead_r v1 v2 z).toInt64) (s_X12_ahead_w0 v1 v2 X f) fR fr f g_X12 fd fk fz o2) ++ ((kW y ad zk ok 14) ++ (kW y sd zs os 2))) := hD
    obtain ⟨e1, e2, hW2⟩ := ly_ahead hW hN9 hk
    have hT : s_X12_thrown_r (s_X12_ahead_w0 v1 v2 X f) = 0 := (thr_eq _).trans e2
    refine lv_istore (lv' := [(6, .int (s_X12_ahead_r v1 v2 f)), (5, .int 0), (0, .ref b), (1, .ref h), (2, .ref mh), (3, .ref jq), (4, .int iv)]) hx hb dL_law_1115 hl (by decide) rfl (fun ls hl => ?_)
    refine lv_aload_n hx hb dL_law_1117 rfl (lv_at hl 4 rfl) ?_
    refine cl_Ri (va_runV (As := []) (rest := []) ⟨hx, hb, hml, hown, hts⟩ (c_X12_thrown l G y mh (w 0) (w 1) (w 2) (w 3) (w 4) (w 5) (w 6) (w 7) (s_X12_ahead_w0 v1 v2 X f)) (cwV 0 hts gL_law_X12_thrown rfl rfl rfl (by decide +kernel) ⟨Nat.le_of_ble_eq_true rfl, Nat.le_of_ble_eq_true rfl⟩) (PR_V (sel_P [50] (rfl : sel _ [50] = [kX12 mh (w 0) (w 1) (w 2) (w 3) (w 4) (w 5) (w 6) (w 7) (s_X12_ahead_w0 v1 v2 X f)]) hP) hK4 hN (ci := 10) (q0 := 0) rfl rfl) rfl rfl hl.1 rfl (lv_room (Nat.le_of_ble_eq_true rfl)) dL_law_1118 ⟨hkc, hks⟩) ?_
    refine lv_iload hx hb dL_law_1121 (lv_at hl 1 rfl) ?_
    refine lv_icmp_eq (tgt := 1128) hx hb dL_law_1123 (by decide) (fun _ => ?_) (fun c9 => absurd hT c9)
    refine lv_iload hx hb dL_law_1128 (lv_at hl 1 rfl) ?_
    refine lv_if_ne (tgt := 1145) hx hb dL_law_1130 (by decide) (fun c9 => absurd rfl c9) (fun _ => ?_)
    refine lv_aload_n hx hb dL_law_1133 rfl (lv_at hl 5 rfl) ?_
    refine lv_iconst (v := 0) hx hb dL_law_1134 (by decide) ?_
    refine al_o hx hb hK 59 hP rfl dL_law_1135 ?_
    refine lv_iload hx hb dL_law_1136 (lv_at hl 0 rfl) ?_
    refine lv_i2l (v := (s_X12_ahead_r v1 v2 f).toInt64) hx hb dL_law_1138 rfl ?_
    refine W.lcmp hx hb dL_law_1139 ?_
    refine lv_if_eq (tgt := 1145) hx hb dL_law_1140 (by decide) (fun _ => ?_) (fun c9 => absurd (lg_o e1) c9)
    refine lv_goto (tgt := 1652) hx hb dL_law_1145 (by decide) ?_
    refine W.widen (k := kc + 1) (n := ks + 6) (by omega) (by omega) ?_
    exact KN H locs ls ⟨x9, ft, z, o, c9_1, oc, x2, ad, zk, ok, fl, sd, zs, os, (vp_updL jo 0 (s_X11_ahead_r v1 v2 z).toInt64), (s_X12_ahead_w0 v1 v2 X f), fR, fr, f, g_X12, fd, fk, fz, o2, hP, hD, hW2⟩ hS (lv_sub hl [2, 3, 4, 5, 6] rfl)
  · refine lv_aload_n hx hb dL_law_1080 rfl (lv_at hl 1 rfl) ?_
    refine lv_aload_n hx hb dL_law_1081 rfl (lv_at hl 0 rfl) ?_
    refine lv_iload hx hb dL_law_1082 (lv_at hl 4 rfl) ?_
    refine lv_iconst (v := 1) hx hb dL_law_1084 (by decide) ?_
    refine lv_iadd hx hb dL_law_1085 ?_
    refine va_sld hx hb hX hbl hbA hS hin1 dL_law_1086 ?_
    refine rw_i (x' := v1) hv1 ?_
    refine lv_aload_n hx hb dL_law_1087 rfl (lv_at hl 0 rfl) ?_
    refine lv_iload hx hb dL_law_1088 (lv_at hl 4 rfl) ?_
    refine lv_iconst (v := 2) hx hb dL_law_1090 (by decide) ?_
    refine lv_iadd hx hb dL_law_1091 ?_
    refine va_sld hx hb hX hbl hbA hS hin2 dL_law_1092 ?_
    refine rw_i (x' := v2) hv2 ?_
    refine lv_aload_n hx hb dL_law_1093 rfl (lv_at hl 3 rfl) ?_
    have hpm := qm0 (T := (kW y ad zk ok 14) ++ (kW y sd zs os 2)) (pr_21 y h a jq mh w x9 ft z o zc oc x2 ad fl sd jo X fR fr f g fd fk fz o2)
    have hPc : va_P G vwCl ([aJ y jq 1 jo] ++ [kX11 h (a 0) (a 2) (a 16) (a 30) (a 44) (a 46) Z0, kX7 (a 16) (a 17) (a 19) (a 20) (a 26) (a 28) (z 0), kX3 (a 17) (a 18) (z 1), aI y (a 18) 10 (z 2), kX1 (a 19) (z 3), kX8 (a 20) (a 21) (a 22) (a 23) (a 24) (a 25) (z 4), aI y (a 21) 20 (z 5), aI y (a 22) 20 (z 6), aI y (a 23) 20 (z 7), aI y (a 24) 20 (z 8), aI y (a 25) 20 o, kX10 (a 26) (a 27) (z 9), aI y (a 27) 32 (z 10), kX0 (a 28) (a 29) (z 11), aI y (a 29) 3 (z 12), kX7 (a 30) (a 31) (a 33) (a 34) (a 40) (a 42) (zc 0), kX3 (a 31) (a 32) (zc 1), aI y (a 32) 10 (zc 2), kX1 (a 33) (zc 3), kX8 (a 34) (a 35) (a 36) (a 37) (a 38) (a 39) (zc 4), aI y (a 35) 20 (zc 5), aI y (a 36) 20 (zc 6), aI y (a 37) 20 (zc 7), aI y (a 38) 20 (zc 8), aI y (a 39) 20 oc, kX10 (a 40) (a 41) (zc 9), aI y (a 41) 32 (zc 10), kX0 (a 42) (a 43) (zc 11), aI y (a 43) 3 (zc 12)]) H := P_r (P_perm hpm hP)
    have hDc : va_D (fun q : Nat => s.heap.size ≤ q) ([aJ y jq 1 jo] ++ [kX11 h (a 0) (a 2) (a 16) (a 30) (a 44) (a 46) Z0, kX7 (a 16) (a 17) (a 19) (a 20) (a 26) (a 28) (z 0), kX3 (a 17) (a 18) (z 1), aI y (a 18) 10 (z 2), kX1 (a 19) (z 3), kX8 (a 20) (a 21) (a 22) (a 23) (a 24) (a 25) (z 4), aI y (a 21) 20 (z 5), aI y (a 22) 20 (z 6), aI y (a 23) 20 (z 7), aI y (a 24) 20 (z 8), aI y (a 25) 20 o, kX10 (a 26) (a 27) (z 9), aI y (a 27) 32 (z 10), kX0 (a 28) (a 29) (z 11), aI y (a 29) 3 (z 12), kX7 (a 30) (a 31) (a 33) (a 34) (a 40) (a 42) (zc 0), kX3 (a 31) (a 32) (zc 1), aI y (a 32) 10 (zc 2), kX1 (a 33) (zc 3), kX8 (a 34) (a 35) (a 36) (a 37) (a 38) (a 39) (zc 4), aI y (a 35) 20 (zc 5), aI y (a 36) 20 (zc 6), aI y (a 37) 20 (zc 7), aI y (a 38) 20 (zc 8), aI y (a 39) 20 oc, kX10 (a 40) (a 41) (zc 9), aI y (a 41) 32 (zc 10), kX0 (a 42) (a 43) (zc 11), aI y (a 43) 3 (zc 12)]) := D_r (D_perm hpm hD)
    have hFc : ∀ q, va_A ([aJ y jq 1 jo] ++ [kX11 h (a 0) (a 2) (a 16) (a 30) (a 44) (a 46) Z0, kX7 (a 16) (a 17) (a 19) (a 20) (a 26) (a 28) (z 0), kX3 (a 17) (a 18) (z 1), aI y (a 18) 10 (z 2), kX1 (a 19) (z 3), kX8 (a 20) (a 21) (a 22) (a 23) (a 24) (a 25) (z 4), aI y (a 21) 20 (z 5), aI y (a 22) 20 (z 6), aI y (a 23) 20 (z 7), aI y (a 24) 20 (z 8), aI y (a 25) 20 o, kX10 (a 26) (a 27) (z 9), aI y (a 27) 32 (z 10), kX0 (a 28) (a 29) (z 11), aI y (a 29) 3 (z 12), kX7 (a 30) (a 31) (a 33) (a 34) (a 40) (a 42) (zc 0), kX3 (a 31) (a 32) (zc 1), aI y (a 32) 10 (zc 2), kX1 (a 33) (zc 3), kX8 (a 34) (a 35) (a 36) (a 37) (a 38) (a 39) (zc 4), aI y (a 35) 20 (zc 5), aI y (a 36) 20 (zc 6), aI y (a 37) 20 (zc 7), aI y (a 38) 20 (zc 8), aI y (a 39) 20 oc, kX10 (a 40) (a 41) (zc 9), aI y (a 41) 32 (zc 10), kX0 (a 42) (a 43) (zc 11), aI y (a 43) 3 (zc 12)]) H.size q → s.heap.size ≤ q := F_r (D_perm hpm hD) hS hA
    refine cl_LP (fun u : (Nat → Nat → Int32) => ((lwE y h a jq mh w x9 ft z o u oc x2 ad fl sd jo X fR fr f g fd fk fz o2) ++ ((kW y ad zk ok 14) ++ (kW y sd zs os 2)))) hpm (fun u => qm0 (T := (kW y ad zk ok 14) ++ (kW y sd zs os 2)) (pr_21 y h a jq mh w x9 ft z o u oc x2 ad fl sd jo X fR fr f g fd fk fz o2)) (vx_runSX (As := [.ref h, .int v1, .int v2, .ref jq]) (rest := []) ⟨hx, hb, hml, hown, hts⟩ (c_L_ahead_n l G y h v1 v2 (a 0) (a 2) (a 16) (a 30) (a 44) (a 46) (a 17) (a 19) (a 20) (a 26) (a 28) z (a 18) (a 21) (a 22) (a 23) (a 24) (a 25) o (a 27) (a 29) (a 31) (a 33) (a 34) (a 40) (a 42) zc (a 32) (a 35) (a 36) (a 37) (a 38) (a 39) oc (a 41) (a 43) jq jo H.size (wf_b hW).1 (wf_b hW).2.1 (wf_b hW).2.2 (WR.tc hW.2.1) hk hfl) (vx_cwSW 4 hts gL_law_L_ahead rfl rfl rfl (by decide +kernel) ⟨Nat.le_of_ble_eq_true rfl, Nat.le_of_ble_eq_true rfl⟩) (PHL_S hPc hK hN hDc hTY hS hFc) rfl rfl hl.1 rfl (lv_room (Nat.le_of_ble_eq_true rfl)) dL_law_1094 ⟨hkc, hks⟩) hP hD hS hA (fun u H locs hP hD hS => ?_)
    obtain ⟨c9_1, rfl⟩ : ∃ zq9, zq9 = u := ⟨_, rfl⟩
    have hP : va_P G vwCl ((lwE y h a jq mh w x9 ft z o c9_1 oc x2 ad fl sd jo X fR fr f g fd fk fz o2) ++ ((kW y ad zk ok 14) ++ (kW y sd zs os 2))) H := hP
    have hD : va_D (fun q : Nat => s.heap.size ≤ q) ((lwE y h a jq mh w x9 ft z o c9_1 oc x2 ad fl sd jo X fR fr f g fd fk fz o2) ++ ((kW y ad zk ok 14) ++ (kW y sd zs os 2))) := hD
    refine lv_istore (lv' := [(5, .int (cdK 1 (s_X11_ahead_k v1 v2))), (0, .ref b), (1, .ref h), (2, .ref mh), (3, .ref jq), (4, .int iv)]) hx hb dL_law_1097 hl (by decide) rfl (fun ls hl => ?_)
    refine lv_aload_n hx hb dL_law_1099 rfl (lv_at hl 3 rfl) ?_
    refine lv_aload_n hx hb dL_law_1100 rfl (lv_at hl 1 rfl) ?_
    refine lv_iload hx hb dL_law_1101 (lv_at hl 5 rfl) ?_
    refine lv_iconst (v := 1) hx hb dL_law_1103 (by decide) ?_
    refine lv_iadd hx hb dL_law_1104 ?_
    refine va_sld hx hb hX hbl hbA hS hin1 dL_law_1105 ?_
    refine rw_i (x' := v1) hv1 ?_
    refine lv_aload_n hx hb dL_law_1106 rfl (lv_at hl 1 rfl) ?_
    refine lv_iload hx hb dL_law_1107 (lv_at hl 5 rfl) ?_
    refine lv_iconst (v := 2) hx hb dL_law_1109 (by decide) ?_
    refine lv_iadd hx hb dL_law_1110 ?_
    refine va_sld hx hb hX hbl hbA hS hin2 dL_law_1111 ?_
    refine rw_i (x' := v2) hv2 ?_
    have hpm := qm0 (T := (kW y ad zk ok 14) ++ (kW y sd zs os 2)) (pr_22 y h a jq mh w x9 ft z o c9_1 oc x2 ad fl sd jo X fR fr f g fd fk fz o2)
    have hPc : va_P G vwCl [kX12 mh (w 0) (w 1) (w 2) (w 3) (w 4) (w 5) (w 6) (w 7) X, aI y (w 2) 154 f, aI y (w 3) 154 g] H := P_r (P_perm hpm hP)
    have hDc : va_D (fun q : Nat => s.heap.size ≤ q) [kX12 mh (w 0) (w 1) (w 2) (w 3) (w 4) (w 5) (w 6) (w 7) X, aI y (w 2) 154 f, aI y (w 3) 154 g] := D_r (D_perm hpm hD)
    refine cl_MP (fun u : (Nat → Int32) => ((lwE y h a jq mh w x9 ft z o c9_1 oc x2 ad fl sd jo (s_X12_ahead_w0 v1 v2 X f) fR fr f u fd fk fz o2) ++ ((kW y ad zk ok 14) ++ (kW y sd zs os 2)))) hpm (fun u => qm0 (T := (kW y ad zk ok 14) ++ (kW y sd zs os 2)) (pr_22 y h a jq mh w x9 ft z o c9_1 oc x2 ad fl sd jo (s_X12_ahead_w0 v1 v2 X f) fR fr f u fd fk fz o2)) (va_runV (As := [.int v1, .int v2]) (rest := []) ⟨hx, hb, hml, hown, hts⟩ (c_X12_ahead l G y mh v1 v2 (w 0) (w 1) (w 2) (w 3) (w 4) (w 5) (w 6) (w 7) X f g H.size (wf_TK hW)) (cwV 2 hts gL_law_X12_ahead rfl rfl rfl (by decide +kernel) ⟨Nat.le_of_ble_eq_true rfl, Nat.le_of_ble_eq_true rfl⟩) (PH_V hPc hK4 hN hDc (ci := 10) (q0 := 0) rfl rfl) rfl rfl hl.1 rfl (lv_room (Nat.le_of_ble_eq_true rfl)) dL_law_1112 ⟨hkc, hks⟩) hP hD hS hA (fun u H locs hP hD hS => ?_)
    obtain ⟨g_X12, rfl⟩ : ∃ zq9, zq9 = u := ⟨_, rfl⟩
    have hP : va_P G vwCl ((lwE y h a jq mh w x9 ft z o c9_1 oc x2 ad fl sd jo (s_X12_ahead_w0 v1 v2 X f) fR fr f g_X12 fd fk fz o2) ++ ((kW y ad zk ok 14) ++ (kW y sd zs os 2))) H := hP
    have hD : va_D (fun q : Nat => s.heap.size ≤ q) ((lwE y h a jq mh w x9 ft z o c9_1 oc x2 ad fl sd jo (s_X12_ahead_w0 v1 v2 X f) fR fr f g_X12 fd fk fz o2) ++ ((kW y ad zk ok 14) ++ (kW y sd zs os 2))) := hD
    obtain ⟨e2, hW2⟩ := ln_ahead hW hk
    have hT : s_X12_thrown_r (s_X12_ahead_w0 v1 v2 X f) = cdK 1 (s_X11_ahead_k v1 v2) := (thr_eq _).trans e2
    refine lv_istore (lv' := [(6, .int (s_X12_ahead_r v1 v2 f)), (5, .int (cdK 1 (s_X11_ahead_k v1 v2))), (0, .ref b), (1, .ref h), (2, .ref mh), (3, .ref jq), (4, .int iv)]) hx hb dL_law_1115 hl (by decide) rfl (fun ls hl => ?_)
    refine lv_aload_n hx hb dL_law_1117 rfl (lv_at hl 4 rfl) ?_
    refine cl_Ri (va_runV (As := []) (rest := []) ⟨hx, hb, hml, hown, hts⟩ (c_X12_thrown l G y mh (w 0) (w 1) (w 2) (w 3) (w 4) (w 5) (w 6) (w 7) (s_X12_ahead_w0 v1 v2 X f)) (cwV 0 hts gL_law_X12_thrown rfl rfl rfl (by decide +kernel) ⟨Nat.le_of_ble_eq_true rfl, Nat.le_of_ble_eq_true rfl⟩) (PR_V (sel_P [50] (rfl : sel _ [50] = [kX12 mh (w 0) (w 1) (w 2) (w 3) (w 4) (w 5) (w 6) (w 7) (s_X12_ahead_w0 v1 v2 X f)]) hP) hK4 hN (ci := 10) (q0 := 0) rfl rfl) rfl rfl hl.1 rfl (lv_room (Nat.le_of_ble_eq_true rfl)) dL_law_1118 ⟨hkc, hks⟩) ?_
    refine lv_iload hx hb dL_law_1121 (lv_at hl 1 rfl) ?_
    refine lv_icmp_eq (tgt := 1128) hx hb dL_law_1123 (by decide) (fun _ => ?_) (fun c9 => absurd hT c9)
    refine lv_iload hx hb dL_law_1128 (lv_at hl 1 rfl) ?_
    refine lv_if_ne (tgt := 1145) hx hb dL_law_1130 (by decide) (fun _ => ?_) (fun c9 => absurd c9 (cd_n hk))
    refine lv_goto (tgt := 1652) hx hb dL_law_1145 (by decide) ?_
    refine W.widen (k := kc + 1) (n := ks + 6) (by omega) (by omega) ?_
    exact KN H locs ls ⟨x9, ft, z, o, c9_1, oc, x2, ad, zk, ok, fl, sd, zs, os, jo, (s_X12_ahead_w0 v1 v2 X f), fR, fr, f, g_X12, fd, fk, fz, o2, hP, hD, hW2⟩ hS (lv_sub hl [2, 3, 4, 5, 6] rfl)
set_option maxHeartbeats 2000000 in
set_option maxRecDepth 100000 in
theorem case_20 {p : Program} {l : Launch} {e : Env} {s : State} {m : MethodId} {below : List Frame} {meth : Method} {c : Code} {b L : Nat} {xs : Nat → Int32} {G : va_G} {y : Nat → ClassId} {h : Nat} {a : Nat → Nat} {jq mh : Nat} {w : Nat → Nat} {iv v1 v2 v3 : Int32} {N kc ks : Nat} {H : Heap} {locs : List Loc} {ls : Array Slot} (hfl : l.stackTraces = false) (C0 : lw_At p s m meth c b L xs) (hK : va_K G vwCl (tyJ y) s) (hN : NN s) (hTY : TY (fun q : Nat => s.heap.size ≤ q) s) (hin1 : vp_in (iv + 1) L) (hin2 : vp_in (iv + 2) L) (hin3 : vp_in (iv + 3) L) (hv1 : xs (iv + 1).toNatClampNeg = v1) (hv2 : xs (iv + 2).toNatClampNeg = v2) (hv3 : xs (iv + 3).toNatClampNeg = v3) (hkc : kc + 1 ≤ room_1.cells) (hks : ks + 6 ≤ room_1.slots) (hN9 : N + 12800 < 2147483648) (hI : LI G y h a jq mh w (fun q : Nat => s.heap.size ≤ q) N H) (hS : va_S (fun q : Nat => s.heap.size ≤ q) s.heap H locs) (hl : lv_has ls 7 [(0, .ref b), (1, .ref h), (2, .ref mh), (3, .ref jq), (4, .int iv)]) (KN : ∀ (H : Heap) (locs : List Loc) (ls : Array Slot), LI G y h a jq mh w (fun q : Nat => s.heap.size ≤ q) (N + 200) H → va_S (fun q : Nat => s.heap.size ≤ q) s.heap H locs → lv_has ls 7 [(0, .ref b), (1, .ref h), (2, .ref mh), (3, .ref jq), (4, .int iv)] → W p l e room_1 s m #[Value.ref b] below meth c H locs (kc + 1) (ks + 6) (lw_Z below #[Value.ref b] s) (F0 m 1652 ls [])) : W p l e room_1 s m #[Value.ref b] below meth c H locs kc ks (lw_Z below #[Value.ref b] s) (F0 m 1148 ls []) := by
  obtain ⟨hx, hb, hr, hml, hown, hts, hX, hbl, hlocks, hgv⟩ := C0
  have hts := fun w hh => hts w (wsL_law_in w hh)
  have hbA : ¬ (fun q : Nat => s.heap.size ≤ q) b := Nat.not_le.mpr hbl
  have hA : ∀ q : Nat, s.heap.size ≤ q → (fun q : Nat => s.heap.size ≤ q) q := fun _ h => h
  have hK4 : va_K G vwCl (tyG y) s := hK.sub (tys' := tyG y) [0, 1, 2, 3] rfl
  have hown : s.vm.findClass RL = some m.cls := hown
  have hkc0 : kc ≤ room_1.cells := Nat.le_of_succ_le hkc
  have hks0 : ks ≤ room_1.slots := Nat.le_trans (Nat.le_add_right ks 6) hks
  obtain ⟨x9, ft, z, o, zc, oc, x2, ad, zk, ok, fl, sd, zs, os, jo, X, fR, fr, f, g, fd, fk, fz, o2, hP, hD, hW⟩ := hI
  by_cases hk : (s_X11_outcome_k v1 v2 v3) = 0
  · refine lv_aload_n hx hb dL_law_1148 rfl (lv_at hl 1 rfl) ?_
    refine lv_aload_n hx hb dL_law_1149 rfl (lv_at hl 0 rfl) ?_
    refine lv_iload hx hb dL_law_1150 (lv_at hl 4 rfl) ?_
    refine lv_iconst (v := 1) hx hb dL_law_1152 (by decide) ?_
    refine lv_iadd hx hb dL_law_1153 ?_
    refine va_sld hx hb hX hbl hbA hS hin1 dL_law_1154 ?_
    refine rw_i (x' := v1) hv1 ?_
    refine lv_aload_n hx hb dL_law_1155 rfl (lv_at hl 0 rfl) ?_
    refine lv_iload hx hb dL_law_1156 (lv_at hl 4 rfl) ?_
    refine lv_iconst (v := 2) hx hb dL_law_1158 (by decide) ?_
    refine lv_iadd hx hb dL_law_1159 ?_
    refine va_sld hx hb hX hbl hbA hS hin2 dL_law_1160 ?_
    refine rw_i (x' := v2) hv2 ?_
    refine lv_aload_n hx hb dL_law_1161 rfl (lv_at hl 0 rfl) ?_
    refine lv_iload hx hb dL_law_1162 (lv_at hl 4 rfl) ?_
    refine lv_iconst (v := 3) hx hb dL_law_1164 (by decide) ?_
    refine lv_iadd hx hb dL_law_1165 ?_
    refine va_sld hx hb hX hbl hbA hS hin3 dL_law_1166 ?_
    refine rw_i (x' := v3) hv3 ?_
    refine lv_aload_n hx hb dL_law_1167 rfl (lv_at hl 3 rfl) ?_
    have hpm := qm0 (T := (kW y ad zk ok 14) ++ (kW y sd zs os 2)) (pr_21 y h a jq mh w x9 ft z o zc oc x2 ad fl sd jo X fR fr f g fd fk fz o2)
    have hPc : va_P G vwCl ([aJ y jq 1 jo] ++ [kX11 h (a 0) (a 2) (a 16) (a 30) (a 44) (a 46) Z0, kX7 (a 16) (a 17) (a 19) (a 20) (a 26) (a 28) (z 0), kX3 (a 17) (a 18) (z 1), aI y (a 18) 10 (z 2), kX1 (a 19) (z 3), kX8 (a 20) (a 21) (a 22) (a 23) (a 24) (a 25) (z 4), aI y (a 21) 20 (z 5), aI y (a 22) 20 (z 6), aI y (a 23) 20 (z 7), aI y (a 24) 20 (z 8), aI y (a 25) 20 o, kX10 (a 26) (a 27) (z 9), aI y (a 27) 32 (z 10), kX0 (a 28) (a 29) (z 11), aI y (a 29) 3 (z 12), kX7 (a 30) (a 31) (a 33) (a 34) (a 40) (a 42) (zc 0), kX3 (a 31) (a 32) (zc 1), aI y (a 32) 10 (zc 2), kX1 (a 33) (zc 3), kX8 (a 34) (a 35) (a 36) (a 37) (a 38) (a 39) (zc 4), aI y (a 35) 20 (zc 5), aI y (a 36) 20 (zc 6), aI y (a 37) 20 (zc 7), aI y (a 38) 20 (zc 8), aI y (a 39) 20 oc, kX10 (a 40) (a 41) (zc 9), aI y (a 41) 32 (zc 10), kX0 (a 42) (a 43) (zc 11), aI y (a 43) 3 (zc 12)]) H := P_r (P_perm hpm hP)
    have hDc : va_D (fun q : Nat => s.heap.size ≤ q) ([aJ y jq 1 jo] ++ [kX11 h (a 0) (a 2) (a 16) (a 30) (a 44) (a 46) Z0, kX7 (a 16) (a 17) (a 19) (a 20) (a 26) (a 28) (z 0), kX3 (a 17) (a 18) (z 1), aI y (a 18) 10 (z 2), kX1 (a 19) (z 3), kX8 (a 20) (a 21) (a 22) (a 23) (a 24) (a 25) (z 4), aI y (a 21) 20 (z 5), aI y (a 22) 20 (z 6), aI y (a 23) 20 (z 7), aI y (a 24) 20 (z 8), aI y (a 25) 20 o, kX10 (a 26) (a 27) (z 9), aI y (a 27) 32 (z 10), kX0 (a 28) (a 29) (z 11), aI y (a 29) 3 (z 12), kX7 (a 30) (a 31) (a 33) (a 34) (a 40) (a 42) (zc 0), kX3 (a 31) (a 32) (zc 1), aI y (a 32) 10 (zc 2), kX1 (a 33) (zc 3), kX8 (a 34) (a 35) (a 36) (a 37) (a 38) (a 39) (zc 4), aI y (a 35) 20 (zc 5), aI y (a 36) 20 (zc 6), aI y (a 37) 20 (zc 7), aI y (a 38) 20 (zc 8), aI y (a 39) 20 oc, kX10 (a 40) (a 41) (zc 9), aI y (a 41) 32 (zc 10), kX0 (a 42) (a 43) (zc 11), aI y (a 43) 3 (zc 12)]) := D_r (D_perm hpm hD)
    have hFc : ∀ q, va_A ([aJ y jq 1 jo] ++ [kX11 h (a 0) (a 2) (a 16) (a 30) (a 44) (a 46) Z0, kX7 (a 16) (a 17) (a 19) (a 20) (a 26) (a 28) (z 0), kX3 (a 17) (a 18) (z 1), aI y (a 18) 10 (z 2), kX1 (a 19) (z 3), kX8 (a 20) (a 21) (a 22) (a 23) (a 24) (a 25) (z 4), aI y (a 21) 20 (z 5), aI y (a 22) 20 (z 6), aI y (a 23) 20 (z 7), aI y (a 24) 20 (z 8), aI y (a 25) 20 o, kX10 (a 26) (a 27) (z 9), aI y (a 27) 32 (z 10), kX0 (a 28) (a 29) (z 11), aI y (a 29) 3 (z 12), kX7 (a 30) (a 31) (a 33) (a 34) (a 40) (a 42) (zc 0), kX3 (a 31) (a 32) (zc 1), aI y (a 32) 10 (zc 2), kX1 (a 33) (zc 3), kX8 (a 34) (a 35) (a 36) (a 37) (a 38) (a 39) (zc 4), aI y (a 35) 20 (zc 5), aI y (a 36) 20 (zc 6), aI y (a 37) 20 (zc 7), aI y (a 38) 20 (zc 8), aI y (a 39) 20 oc, kX10 (a 40) (a 41) (zc 9), aI y (a 41) 32 (zc 10), kX0 (a 42) (a 43) (zc 11), aI y (a 43) 3 (zc 12)]) H.size q → s.heap.size ≤ q := F_r (D_perm hpm hD) hS hA
    refine cl_LP (fun u : (Nat → Int32) × (Nat → Int32) × (Nat → Nat → Int32) => ((lwE y h a jq mh w x9 ft z u.1 u.2.2 u.2.1 x2 ad fl sd (vp_updL jo 0 (s_X11_outcome_r v1 v2 v3 z).toInt64) X fR fr f g fd fk fz o2) ++ ((kW y ad zk ok 14) ++ (kW y sd zs os 2)))) hpm (fun u => qm0 (T := (kW y ad zk ok 14) ++ (kW y sd zs os 2)) (pr_21 y h a jq mh w x9 ft z u.1 u.2.2 u.2.1 x2 ad fl sd (vp_updL jo 0 (s_X11_outcome_r v1 v2 v3 z).toInt64) X fR fr f g fd fk fz o2)) (vx_runSX (As := [.ref h, .int v1, .int v2, .int v3, .ref jq]) (rest := []) ⟨hx, hb, hml, hown, hts⟩ (c_L_outcome_y l G y h v1 v2 v3 (a 0) (a 2) (a 16) (a 30) (a 44) (a 46) (a 17) (a 19) (a 20) (a 26) (a 28) z (a 18) (a 21) (a 22) (a 23) (a 24) (a 25) o (a 27) (a 29) (a 31) (a 33) (a 34) (a 40) (a 42) zc (a 32) (a 35) (a 36) (a 37) (a 38) (a 39) oc (a 41) (a 43) jq jo H.size (wf_b hW).1 (wf_b hW).2.1 (wf_b hW).2.2 (WR.tc hW.2.1) hk hfl) (vx_cwSW 5 hts gL_law_L_outcome rfl rfl rfl (by decide +kernel) ⟨Nat.le_of_ble_eq_true rfl, Nat.le_of_ble_eq_true rfl⟩) (PHL_S hPc hK hN hDc hTY hS hFc) rfl rfl hl.1 rfl (lv_room (Nat.le_of_ble_eq_true rfl)) dL_law_1168 ⟨hkc, hks⟩) hP hD hS hA (fun u H locs hP hD hS => ?_)
    obtain ⟨o_1, oc_1, c9_1⟩ := u
    have hP : va_P G vwCl ((lwE y h a jq mh w x9 ft z o_1 c9_1 oc_1 x2 ad fl sd (vp_updL jo 0 (s_X11_outcome_r v1 v2 v3 z).toInt64) X fR fr f g fd fk fz o2) ++ ((kW y ad zk ok 14) ++ (kW y sd zs os 2))) H := hP
    have hD : va_D (fun q : Nat => s.heap.size ≤ q) ((lwE y h a jq mh w x9 ft z o_1 c9_1 oc_1 x2 ad fl sd (vp_updL jo 0 (s_X11_outcome_r v1 v2 v3 z).toInt64) X fR fr f g fd fk fz o2) ++ ((kW y ad zk ok 14) ++ (kW y sd zs os 2))) := hD
    refine lv_istore (lv' := [(5, .int 0), (0, .ref b), (1, .ref h), (2, .ref mh), (3, .ref jq), (4, .int iv)]) hx hb dL_law_1171 hl (by decide) rfl (fun ls hl => ?_)
    refine lv_aload_n hx hb dL_law_1173 rfl (lv_at hl 3 rfl) ?_
    refine lv_aload_n hx hb dL_law_1174 rfl (lv_at hl 1 rfl) ?_
    refine lv_iload hx hb dL_law_1175 (lv_at hl 5 rfl) ?_
    refine lv_iconst (v := 1) hx hb dL_law_1177 (by decide) ?_
    refine lv_iadd hx hb dL_law_1178 ?_
    refine va_sld hx hb hX hbl hbA hS hin1 dL_law_1179 ?_
    refine rw_i (x' := v1) hv1 ?_
    refine lv_aload_n hx hb dL_law_1180 rfl (lv_at hl 1 rfl) ?_
    refine lv_iload hx hb dL_law_1181 (lv_at hl 5 rfl) ?_
    refine lv_iconst (v := 2) hx hb dL_law_1183 (by decide) ?_
    refine lv_iadd hx hb dL_law_1184 ?_
    refine va_sld hx hb hX hbl hbA hS hin2 dL_law_1185 ?_
    refine rw_i (x' := v2) hv2 ?_
    refine lv_aload_n hx hb dL_law_1186 rfl (lv_at hl 1 rfl) ?_
    refine lv_iload hx hb dL_law_1187 (lv_at hl 5 rfl) ?_
    refine lv_iconst (v := 3) hx hb dL_law_1189 (by decide) ?_
    refine lv_iadd hx hb dL_law_1190 ?_
    refine va_sld hx hb hX hbl hbA hS hin3 dL_law_1191 ?_
    refine rw_i (x' := v3) hv3 ?_
    have hpm := qm0 (T := (kW y ad zk ok 14) ++ (kW y sd zs os 2)) (pr_20 y h a jq mh w x9 ft z o_1 c9_1 oc_1 x2 ad fl sd (vp_updL jo 0 (s_X11_outcome_r v1 v2 v3 z).toInt64) X fR fr f g fd fk fz o2)
    have hPc : va_P G vwCl [kX12 mh (w 0) (w 1) (w 2) (w 3) (w 4) (w 5) (w 6) (w 7) X, aI y (w 2) 154 f, aI y (w 3) 154 g, aI y (w 7) 20 o2] H := P_r (P_perm hpm hP)
    have hDc : va_D (fun q : Nat => s.heap.size ≤ q) [kX12 mh (w 0) (w 1) (w 2) (w 3) (w 4) (w 5) (w 6) (w 7) X, aI y (w 2) 154 f, aI y (w 3) 154 g, aI y (w 7) 20 o2] := D_r (D_perm hpm hD)
    refine cl_MP (fun u : (Nat → Int32) × (Nat → Int32) => ((lwE y h a jq mh w x9 ft z o_1 c9_1 oc_1 x2 ad fl sd (vp_updL jo 0 (s_X11_outcome_r v1 v2 v3 z).toInt64) (s_X12_outcome_w0 v1 v2 v3 X f) fR fr f u.1 fd fk fz u.2) ++ ((kW y ad zk ok 14) ++ (kW y sd zs os 2)))) hpm (fun u => qm0 (T := (kW y ad zk ok 14) ++ (kW y sd zs os 2)) (pr_20 y h a jq mh w x9 ft z o_1 c9_1 oc_1 x2 ad fl sd (vp_updL jo 0 (s_X11_outcome_r v1 v2 v3 z).toInt64) (s_X12_outcome_w0 v1 v2 v3 X f) fR fr f u.1 fd fk fz u.2)) (va_runV (As := [.int v1, .int v2, .int v3]) (rest := []) ⟨hx, hb, hml, hown, hts⟩ (c_X12_outcome l G y mh v1 v2 v3 (w 0) (w 1) (w 2) (w 3) (w 4) (w 5) (w 6) (w 7) X f g o2 H.size (wf_TK hW)) (cwV 3 hts gL_law_X12_outcome rfl rfl rfl (by decide +kernel) ⟨Nat.le_of_ble_eq_true rfl, Nat.le_of_ble_eq_true rfl⟩) (PH_V hPc hK4 hN hDc (ci := 10) (q0 := 0) rfl rfl) rfl rfl hl.1 rfl (lv_room (Nat.le_of_ble_eq_true rfl)) dL_law_1192 ⟨hkc, hks⟩) hP hD hS hA (fun u H locs hP hD hS => ?_)
    obtain ⟨g_X12, o_X12⟩ := u
    have hP : va_P G vwCl ((lwE y h a jq mh w x9 ft z o_1 c9_1 oc_1 x2 ad fl sd (vp_updL jo 0 (s_X11_outcome_r v1 v2 v3 z).toInt64) (s_X12_outcome_w0 v1 v2 v3 X f) fR fr f g_X12 fd fk fz o_X12) ++ ((kW y ad zk ok 14) ++ (kW y sd zs os 2))) H := hP
    have hD : va_D (fun q : Nat => s.heap.size ≤ q) ((lwE y h a jq mh w x9 ft z o_1 c9_1 oc_1 x2 ad fl sd (vp_updL jo 0 (s_X11_outcome_r v1 v2 v3 z).toInt64) (s_X12_outcome_w0 v1 v2 v3 X f) fR fr f g_X12 fd fk fz o_X12) ++ ((kW y ad zk ok 14) ++ (kW y sd zs os 2))) := hD
    obtain ⟨e1, e2, hW2⟩ := ly_outcome hW hN9 hk
    have hT : s_X12_thrown_r (s_X12_outcome_w0 v1 v2 v3 X f) = 0 := (thr_eq _).trans e2
    refine lv_istore (lv' := [(6, .int (s_X12_outcome_r v1 v2 v3 f)), (5, .int 0), (0, .ref b), (1, .ref h), (2, .ref mh), (3, .ref jq), (4, .int iv)]) hx hb dL_law_1195 hl (by decide) rfl (fun ls hl => ?_)
    refine lv_aload_n hx hb dL_law_1197 rfl (lv_at hl 4 rfl) ?_
    refine cl_Ri (va_runV (As := []) (rest := []) ⟨hx, hb, hml, hown, hts⟩ (c_X12_thrown l G y mh (w 0) (w 1) (w 2) (w 3) (w 4) (w 5) (w 6) (w 7) (s_X12_outcome_w0 v1 v2 v3 X f)) (cwV 0 hts gL_law_X12_thrown rfl rfl rfl (by decide +kernel) ⟨Nat.le_of_ble_eq_true rfl, Nat.le_of_ble_eq_true rfl⟩) (PR_V (sel_P [50] (rfl : sel _ [50] = [kX12 mh (w 0) (w 1) (w 2) (w 3) (w 4) (w 5) (w 6) (w 7) (s_X12_outcome_w0 v1 v2 v3 X f)]) hP) hK4 hN (ci := 10) (q0 := 0) rfl rfl) rfl rfl hl.1 rfl (lv_room (Nat.le_of_ble_eq_true rfl)) dL_law_1198 ⟨hkc, hks⟩) ?_
    refine lv_iload hx hb dL_law_1201 (lv_at hl 1 rfl) ?_
    refine lv_icmp_eq (tgt := 1208) hx hb dL_law_1203 (by decide) (fun _ => ?_) (fun c9 => absurd hT c9)
    refine lv_iload hx hb dL_law_1208 (lv_at hl 1 rfl) ?_
    refine lv_if_ne (tgt := 1225) hx hb dL_law_1210 (by decide) (fun c9 => absurd rfl c9) (fun _ => ?_)
    refine lv_aload_n hx hb dL_law_1213 rfl (lv_at hl 5 rfl) ?_
    refine lv_iconst (v := 0) hx hb dL_law_1214 (by decide) ?_
    refine al_o hx hb hK 59 hP rfl dL_law_1215 ?_
    refine lv_iload hx hb dL_law_1216 (lv_at hl 0 rfl) ?_
    refine lv_i2l (v := (s_X12_outcome_r v1 v2 v3 f).toInt64) hx hb dL_law_1218 rfl ?_
    refine W.lcmp hx hb dL_law_1219 ?_
    refine lv_if_eq (tgt := 1225) hx hb dL_law_1220 (by decide) (fun _ => ?_) (fun c9 => absurd (lg_o e1) c9)
    refine lv_goto (tgt := 1652) hx hb dL_law_1225 (by decide) ?_
    refine W.widen (k := kc + 1) (n := ks + 6) (by omega) (by omega) ?_
    exact KN H locs ls ⟨x9, ft, z, o_1, c9_1, oc_1, x2, ad, zk, ok, fl, sd, zs, os, (vp_updL jo 0 (s_X11_outcome_r v1 v2 v3 z).toInt64), (s_X12_outcome_w0 v1 v2 v3 X f), fR, fr, f, g_X12, fd, fk, fz, o_X12, hP, hD, hW2⟩ hS (lv_sub hl [2, 3, 4, 5, 6] rfl)
  · refine lv_aload_n hx hb dL_law_1148 rfl (lv_at hl 1 rfl) ?_
    refine lv_aload_n hx hb dL_law_1149 rfl (lv_at hl 0 rfl) ?_
    refine lv_iload hx hb dL_law_1150 (lv_at hl 4 rfl) ?_
    refine lv_iconst (v := 1) hx hb dL_law_1152 (by decide) ?_
    refine lv_iadd hx hb dL_law_1153 ?_
    refine va_sld hx hb hX hbl hbA hS hin1 dL_law_1154 ?_
    refine rw_i (x' := v1) hv1 ?_
    refine lv_aload_n hx hb dL_law_1155 rfl (lv_at hl 0 rfl) ?_
    refine lv_iload hx hb dL_law_1156 (lv_at hl 4 rfl) ?_
    refine lv_iconst (v := 2) hx hb dL_law_1158 (by decide) ?_
    refine lv_iadd hx hb dL_law_1159 ?_
    refine va_sld hx hb hX hbl hbA hS hin2 dL_law_1160 ?_
    refine rw_i (x' := v2) hv2 ?_
    refine lv_aload_n hx hb dL_law_1161 rfl (lv_at hl 0 rfl) ?_
    refine lv_iload hx hb dL_law_1162 (lv_at hl 4 rfl) ?_
    refine lv_iconst (v := 3) hx hb dL_law_1164 (by decide) ?_
    refine lv_iadd hx hb dL_law_1165 ?_
    refine va_sld hx hb hX hbl hbA hS hin3 dL_law_1166 ?_
    refine rw_i (x' := v3) hv3 ?_
    refine lv_aload_n hx hb dL_law_1167 rfl (lv_at hl 3 rfl) ?_
    have hpm := qm0 (T := (kW y ad zk ok 14) ++ (kW y sd zs os 2)) (pr_21 y h a jq mh w x9 ft z o zc oc x2 ad fl sd jo X fR fr f g fd fk fz o2)
    have hPc : va_P G vwCl ([aJ y jq 1 jo] ++ [kX11 h (a 0) (a 2) (a 16) (a 30) (a 44) (a 46) Z0, kX7 (a 16) (a 17) (a 19) (a 20) (a 26) (a 28) (z 0), kX3 (a 17) (a 18) (z 1), aI y (a 18) 10 (z 2), kX1 (a 19) (z 3), kX8 (a 20) (a 21) (a 22) (a 23) (a 24) (a 25) (z 4), aI y (a 21) 20 (z 5), aI y (a 22) 20 (z 6), aI y (a 23) 20 (z 7), aI y (a 24) 20 (z 8), aI y (a 25) 20 o, kX10 (a 26) (a 27) (z 9), aI y (a 27) 32 (z 10), kX0 (a 28) (a 29) (z 11), aI y (a 29) 3 (z 12), kX7 (a 30) (a 31) (a 33) (a 34) (a 40) (a 42) (zc 0), kX3 (a 31) (a 32) (zc 1), aI y (a 32) 10 (zc 2), kX1 (a 33) (zc 3), kX8 (a 34) (a 35) (a 36) (a 37) (a 38) (a 39) (zc 4), aI y (a 35) 20 (zc 5), aI y (a 36) 20 (zc 6), aI y (a 37) 20 (zc 7), aI y (a 38) 20 (zc 8), aI y (a 39) 20 oc, kX10 (a 40) (a 41) (zc 9), aI y (a 41) 32 (zc 10), kX0 (a 42) (a 43) (zc 11), aI y (a 43) 3 (zc 12)]) H := P_r (P_perm hpm hP)
    have hDc : va_D (fun q : Nat => s.heap.size ≤ q) ([aJ y jq 1 jo] ++ [kX11 h (a 0) (a 2) (a 16) (a 30) (a 44) (a 46) Z0, kX7 (a 16) (a 17) (a 19) (a 20) (a 26) (a 28) (z 0), kX3 (a 17) (a 18) (z 1), aI y (a 18) 10 (z 2), kX1 (a 19) (z 3), kX8 (a 20) (a 21) (a 22) (a 23) (a 24) (a 25) (z 4), aI y (a 21) 20 (z 5), aI y (a 22) 20 (z 6), aI y (a 23) 20 (z 7), aI y (a 24) 20 (z 8), aI y (a 25) 20 o, kX10 (a 26) (a 27) (z 9), aI y (a 27) 32 (z 10), kX0 (a 28) (a 29) (z 11), aI y (a 29) 3 (z 12), kX7 (a 30) (a 31) (a 33) (a 34) (a 40) (a 42) (zc 0), kX3 (a 31) (a 32) (zc 1), aI y (a 32) 10 (zc 2), kX1 (a 33) (zc 3), kX8 (a 34) (a 35) (a 36) (a 37) (a 38) (a 39) (zc 4), aI y (a 35) 20 (zc 5), aI y (a 36) 20 (zc 6), aI y (a 37) 20 (zc 7), aI y (a 38) 20 (zc 8), aI y (a 39) 20 oc, kX10 (a 40) (a 41) (zc 9), aI y (a 41) 32 (zc 10), kX0 (a 42) (a 43) (zc 11), aI y (a 43) 3 (zc 12)]) := D_r (D_perm hpm hD)
    have hFc : ∀ q, va_A ([aJ y jq 1 jo] ++ [kX11 h (a 0) (a 2) (a 16) (a 30) (a 44) (a 46) Z0, kX7 (a 16) (a 17) (a 19) (a 20) (a 26) (a 28) (z 0), kX3 (a 17) (a 18) (z 1), aI y (a 18) 10 (z 2), kX1 (a 19) (z 3), kX8 (a 20) (a 21) (a 22) (a 23) (a 24) (a 25) (z 4), aI y (a 21) 20 (z 5), aI y (a 22) 20 (z 6), aI y (a 23) 20 (z 7), aI y (a 24) 20 (z 8), aI y (a 25) 20 o, kX10 (a 26) (a 27) (z 9), aI y (a 27) 32 (z 10), kX0 (a 28) (a 29) (z 11), aI y (a 29) 3 (z 12), kX7 (a 30) (a 31) (a 33) (a 34) (a 40) (a 42) (zc 0), kX3 (a 31) (a 32) (zc 1), aI y (a 32) 10 (zc 2), kX1 (a 33) (zc 3), kX8 (a 34) (a 35) (a 36) (a 37) (a 38) (a 39) (zc 4), aI y (a 35) 20 (zc 5), aI y (a 36) 20 (zc 6), aI y (a 37) 20 (zc 7), aI y (a 38) 20 (zc 8), aI y (a 39) 20 oc, kX10 (a 40) (a 41) (zc 9), aI y (a 41) 32 (zc 10), kX0 (a 42) (a 43) (zc 11), aI y (a 43) 3 (zc 12)]) H.size q → s.heap.size ≤ q := F_r (D_perm hpm hD) hS hA
    refine cl_LP (fun u : (Nat → Int32) × (Nat → Int32) × (Nat → Nat → Int32) => ((lwE y h a jq mh w x9 ft z u.1 u.2.2 u.2.1 x2 ad fl sd jo X fR fr f g fd fk fz o2) ++ ((kW y ad zk ok 14) ++ (kW y sd zs os 2)))) hpm (fun u => qm0 (T := (kW y ad zk ok 14) ++ (kW y sd zs os 2)) (pr_21 y h a jq mh w x9 ft z u.1 u.2.2 u.2.1 x2 ad fl sd jo X fR fr f g fd fk fz o2)) (vx_runSX (As := [.ref h, .int v1, .int v2, .int v3, .ref jq]) (rest := []) ⟨hx, hb, hml, hown, hts⟩ (c_L_outcome_n l G y h v1 v2 v3 (a 0) (a 2) (a 16) (a 30) (a 44) (a 46) (a 17) (a 19) (a 20) (a 26) (a 28) z (a 18) (a 21) (a 22) (a 23) (a 24) (a 25) o (a 27) (a 29) (a 31) (a 33) (a 34) (a 40) (a 42) zc (a 32) (a 35) (a 36) (a 37) (a 38) (a 39) oc (a 41) (a 43) jq jo H.size (wf_b hW).1 (wf_b hW).2.1 (wf_b hW).2.2 (WR.tc hW.2.1) hk hfl) (vx_cwSW 5 hts gL_law_L_outcome rfl rfl rfl (by decide +kernel) ⟨Nat.le_of_ble_eq_true rfl, Nat.le_of_ble_eq_true rfl⟩) (PHL_S hPc hK hN hDc hTY hS hFc) rfl rfl hl.1 rfl (lv_room (Nat.le_of_ble_eq_true rfl)) dL_law_1168 ⟨hkc, hks⟩) hP hD hS hA (fun u H locs hP hD hS => ?_)
    obtain ⟨o_1, oc_1, c9_1⟩ := u
    have hP : va_P G vwCl ((lwE y h a jq mh w x9 ft z o_1 c9_1 oc_1 x2 ad fl sd jo X fR fr f g fd fk fz o2) ++ ((kW y ad zk ok 14) ++ (kW y sd zs os 2))) H := hP
    have hD : va_D (fun q : Nat => s.heap.size ≤ q) ((lwE y h a jq mh w x9 ft z o_1 c9_1 oc_1 x2 ad fl sd jo X fR fr f g fd fk fz o2) ++ ((kW y ad zk ok 14) ++ (kW y sd zs os 2))) := hD
    refine lv_istore (lv' := [(5, .int (cdK 3 (s_X11_outcome_k v1 v2 v3))), (0, .ref b), (1, .ref h), (2, .ref mh), (3, .ref jq), (4, .int iv)]) hx hb dL_law_1171 hl (by decide) rfl (fun ls hl => ?_)
    refine lv_aload_n hx hb dL_law_1173 rfl (lv_at hl 3 rfl) ?_
    refine lv_aload_n hx hb dL_law_1174 rfl (lv_at hl 1 rfl) ?_
    refine lv_iload hx hb dL_law_1175 (lv_at hl 5 rfl) ?_
    refine lv_iconst (v := 1) hx hb dL_law_1177 (by decide) ?_
    refine lv_iadd hx hb dL_law_1178 ?_
    refine va_sld hx hb hX hbl hbA hS hin1 dL_law_1179 ?_
    refine rw_i (x' := v1) hv1 ?_
    refine lv_aload_n hx hb dL_law_1180 rfl (lv_at hl 1 rfl) ?_
    refine lv_iload hx hb dL_law_1181 (lv_at hl 5 rfl) ?_
    refine lv_iconst (v := 2) hx hb dL_law_1183 (by decide) ?_
    refine lv_iadd hx hb dL_law_1184 ?_
    refine va_sld hx hb hX hbl hbA hS hin2 dL_law_1185 ?_
    refine rw_i (x' := v2) hv2 ?_
    refine lv_aload_n hx hb dL_law_1186 rfl (lv_at hl 1 rfl) ?_
    refine lv_iload hx hb dL_law_1187 (lv_at hl 5 rfl) ?_
    refine lv_iconst (v := 3) hx hb dL_law_1189 (by decide) ?_
    refine lv_iadd hx hb dL_law_1190 ?_
    refine va_sld hx hb hX hbl hbA hS hin3 dL_law_1191 ?_
    refine rw_i (x' := v3) hv3 ?_
    have hpm := qm0 (T := (kW y ad zk ok 14) ++ (kW y sd zs os 2)) (pr_20 y h a jq mh w x9 ft z o_1 c9_1 oc_1 x2 ad fl sd jo X fR fr f g fd fk fz o2)
    have hPc : va_P G vwCl [kX12 mh (w 0) (w 1) (w 2) (w 3) (w 4) (w 5) (w 6) (w 7) X, aI y (w 2) 154 f, aI y (w 3) 154 g, aI y (w 7) 20 o2] H := P_r (P_perm hpm hP)
    have hDc : va_D (fun q : Nat => s.heap.size ≤ q) [kX12 mh (w 0) (w 1) (w 2) (w 3) (w 4) (w 5) (w 6) (w 7) X, aI y (w 2) 154 f, aI y (w 3) 154 g, aI y (w 7) 20 o2] := D_r (D_perm hpm hD)
    refine cl_MP (fun u : (Nat → Int32) × (Nat → Int32) => ((lwE y h a jq mh w x9 ft z o_1 c9_1 oc_1 x2 ad fl sd jo (s_X12_outcome_w0 v1 v2 v3 X f) fR fr f u.1 fd fk fz u.2) ++ ((kW y ad zk ok 14) ++ (kW y sd zs os 2)))) hpm (fun u => qm0 (T := (kW y ad zk ok 14) ++ (kW y sd zs os 2)) (pr_20 y h a jq mh w x9 ft z o_1 c9_1 oc_1 x2 ad fl sd jo (s_X12_outcome_w0 v1 v2 v3 X f) fR fr f u.1 fd fk fz u.2)) (va_runV (As := [.int v1, .int v2, .int v3]) (rest := []) ⟨hx, hb, hml, hown, hts⟩ (c_X12_outcome l G y mh v1 v2 v3 (w 0) (w 1) (w 2) (w 3) (w 4) (w 5) (w 6) (w 7) X f g o2 H.size (wf_TK hW)) (cwV 3 hts gL_law_X12_outcome rfl rfl rfl (by decide +kernel) ⟨Nat.le_of_ble_eq_true rfl, Nat.le_of_ble_eq_true rfl⟩) (PH_V hPc hK4 hN hDc (ci := 10) (q0 := 0) rfl rfl) rfl rfl hl.1 rfl (lv_room (Nat.le_of_ble_eq_true rfl)) dL_law_1192 ⟨hkc, hks⟩) hP hD hS hA (fun u H locs hP hD hS => ?_)
    obtain ⟨g_X12, o_X12⟩ := u
    have hP : va_P G vwCl ((lwE y h a jq mh w x9 ft z o_1 c9_1 oc_1 x2 ad fl sd jo (s_X12_outcome_w0 v1 v2 v3 X f) fR fr f g_X12 fd fk fz o_X12) ++ ((kW y ad zk ok 14) ++ (kW y sd zs os 2))) H := hP
    have hD : va_D (fun q : Nat => s.heap.size ≤ q) ((lwE y h a jq mh w x9 ft z o_1 c9_1 oc_1 x2 ad fl sd jo (s_X12_outcome_w0 v1 v2 v3 X f) fR fr f g_X12 fd fk fz o_X12) ++ ((kW y ad zk ok 14) ++ (kW y sd zs os 2))) := hD
    obtain ⟨e2, hW2⟩ := ln_outcome hW hk
    have hT : s_X12_thrown_r (s_X12_outcome_w0 v1 v2 v3 X f) = cdK 3 (s_X11_outcome_k v1 v2 v3) := (thr_eq _).trans e2
    refine lv_istore (lv' := [(6, .int (s_X12_outcome_r v1 v2 v3 f)), (5, .int (cdK 3 (s_X11_outcome_k v1 v2 v3))), (0, .ref b), (1, .ref h), (2, .ref mh), (3, .ref jq), (4, .int iv)]) hx hb dL_law_1195 hl (by decide) rfl (fun ls hl => ?_)
    refine lv_aload_n hx hb dL_law_1197 rfl (lv_at hl 4 rfl) ?_
    refine cl_Ri (va_runV (As := []) (rest := []) ⟨hx, hb, hml, hown, hts⟩ (c_X12_thrown l G y mh (w 0) (w 1) (w 2) (w 3) (w 4) (w 5) (w 6) (w 7) (s_X12_outcome_w0 v1 v2 v3 X f)) (cwV 0 hts gL_law_X12_thrown rfl rfl rfl (by decide +kernel) ⟨Nat.le_of_ble_eq_true rfl, Nat.le_of_ble_eq_true rfl⟩) (PR_V (sel_P [50] (rfl : sel _ [50] = [kX12 mh (w 0) (w 1) (w 2) (w 3) (w 4) (w 5) (w 6) (w 7) (s_X12_outcome_w0 v1 v2 v3 X f)]) hP) hK4 hN (ci := 10) (q0 := 0) rfl rfl) rfl rfl hl.1 rfl (lv_room (Nat.le_of_ble_eq_true rfl)) dL_law_1198 ⟨hkc, hks⟩) ?_
    refine lv_iload hx hb dL_law_1201 (lv_at hl 1 rfl) ?_
    refine lv_icmp_eq (tgt := 1208) hx hb dL_law_1203 (by decide) (fun _ => ?_) (fun c9 => absurd hT c9)
    refine lv_iload hx hb dL_law_1208 (lv_at hl 1 rfl) ?_
    refine lv_if_ne (tgt := 1225) hx hb dL_law_1210 (by decide) (fun _ => ?_) (fun c9 => absurd c9 (cd_n hk))
    refine lv_goto (tgt := 1652) hx hb dL_law_1225 (by decide) ?_
    refine W.widen (k := kc + 1) (n := ks + 6) (by omega) (by omega) ?_
    exact KN H locs ls ⟨x9, ft, z, o_1, c9_1, oc_1, x2, ad, zk, ok, fl, sd, zs, os, jo, (s_X12_outcome_w0 v1 v2 v3 X f), fR, fr, f, g_X12, fd, fk, fz, o_X12, hP, hD, hW2⟩ hS (lv_sub hl [2, 3, 4, 5, 6] rfl)
set_option maxHeartbeats 2000000 in
set_option maxRecDepth 100000 in
theorem case_21 {p : Program} {l : Launch} {e : Env} {s : State} {m : MethodId} {below : List Frame} {meth : Method} {c : Code} {b L : Nat} {xs : Nat → Int32} {G : va_G} {y : Nat → ClassId} {h : Nat} {a : Nat → Nat} {jq mh : Nat} {w : Nat → Nat} {iv v1 v2 v3 : Int32} {N kc ks : Nat} {H : Heap} {locs : List Loc} {ls : Array Slot} (hfl : l.stackTraces = false) (C0 : lw_At p s m meth c b L xs) (hK : va_K G vwCl (tyJ y) s) (hN : NN s) (hTY : TY (fun q : Nat => s.heap.size ≤ q) s) (hin1 : vp_in (iv + 1) L) (hin2 : vp_in (iv + 2) L) (hin3 : vp_in (iv + 3) L) (hv1 : xs (iv + 1).toNatClampNeg = v1) (hv2 : xs (iv + 2).toNatClampNeg = v2) (hv3 : xs (iv + 3).toNatClampNeg = v3) (hkc : kc + 1 ≤ room_1.cells) (hks : ks + 6 ≤ room_1.slots) (hN9 : N + 12800 < 2147483648) (hI : LI G y h a jq mh w (fun q : Nat => s.heap.size ≤ q) N H) (hS : va_S (fun q : Nat => s.heap.size ≤ q) s.heap H locs) (hl : lv_has ls 7 [(0, .ref b), (1, .ref h), (2, .ref mh), (3, .ref jq), (4, .int iv)]) (KN : ∀ (H : Heap) (locs : List Loc) (ls : Array Slot), LI G y h a jq mh w (fun q : Nat => s.heap.size ≤ q) (N + 200) H → va_S (fun q : Nat => s.heap.size ≤ q) s.heap H locs → lv_has ls 7 [(0, .ref b), (1, .ref h), (2, .ref mh), (3, .ref jq), (4, .int iv)] → W p l e room_1 s m #[Value.ref b] below meth c H locs (kc + 1) (ks + 6) (lw_Z below #[Value.ref b] s) (F0 m 1652 ls [])) : W p l e room_1 s m #[Value.ref b] below meth c H locs kc ks (lw_Z below #[Value.ref b] s) (F0 m 1228 ls []) := by
  obtain ⟨hx, hb, hr, hml, hown, hts, hX, hbl, hlocks, hgv⟩ := C0
  have hts := fun w hh => hts w (wsL_law_in w hh)
  have hbA : ¬ (fun q : Nat => s.heap.size ≤ q) b := Nat.not_le.mpr hbl
  have hA : ∀ q : Nat, s.heap.size ≤ q → (fun q : Nat => s.heap.size ≤ q) q := fun _ h => h
  have hK4 : va_K G vwCl (tyG y) s := hK.sub (tys' := tyG y) [0, 1, 2, 3] rfl
  have hown : s.vm.findClass RL = some m.cls := hown
  have hkc0 : kc ≤ room_1.cells := Nat.le_of_succ_le hkc
  have hks0 : ks ≤ room_1.slots := Nat.le_trans (Nat.le_add_right ks 6) hks
  obtain ⟨x9, ft, z, o, zc, oc, x2, ad, zk, ok, fl, sd, zs, os, jo, X, fR, fr, f, g, fd, fk, fz, o2, hP, hD, hW⟩ := hI
  by_cases hk : (s_X11_bestRule_k v1 z) = 0
  · refine lv_aload_n hx hb dL_law_1228 rfl (lv_at hl 1 rfl) ?_
    refine lv_aload_n hx hb dL_law_1229 rfl (lv_at hl 0 rfl) ?_
    refine lv_iload hx hb dL_law_1230 (lv_at hl 4 rfl) ?_
    refine lv_iconst (v := 1) hx hb dL_law_1232 (by decide) ?_
    refine lv_iadd hx hb dL_law_1233 ?_
    refine va_sld hx hb hX hbl hbA hS hin1 dL_law_1234 ?_
    refine rw_i (x' := v1) hv1 ?_
    refine lv_aload_n hx hb dL_law_1235 rfl (lv_at hl 3 rfl) ?_
    have hpm := qm0 (T := (kW y ad zk ok 14) ++ (kW y sd zs os 2)) (pr_21 y h a jq mh w x9 ft z o zc oc x2 ad fl sd jo X fR fr f g fd fk fz o2)
    have hPc : va_P G vwCl ([aJ y jq 1 jo] ++ [kX11 h (a 0) (a 2) (a 16) (a 30) (a 44) (a 46) Z0, kX7 (a 16) (a 17) (a 19) (a 20) (a 26) (a 28) (z 0), kX3 (a 17) (a 18) (z 1), aI y (a 18) 10 (z 2), kX1 (a 19) (z 3), kX8 (a 20) (a 21) (a 22) (a 23) (a 24) (a 25) (z 4), aI y (a 21) 20 (z 5), aI y (a 22) 20 (z 6), aI y (a 23) 20 (z 7), aI y (a 24) 20 (z 8), aI y (a 25) 20 o, kX10 (a 26) (a 27) (z 9), aI y (a 27) 32 (z 10), kX0 (a 28) (a 29) (z 11), aI y (a 29) 3 (z 12), kX7 (a 30) (a 31) (a 33) (a 34) (a 40) (a 42) (zc 0), kX3 (a 31) (a 32) (zc 1), aI y (a 32) 10 (zc 2), kX1 (a 33) (zc 3), kX8 (a 34) (a 35) (a 36) (a 37) (a 38) (a 39) (zc 4), aI y (a 35) 20 (zc 5), aI y (a 36) 20 (zc 6), aI y (a 37) 20 (zc 7), aI y (a 38) 20 (zc 8), aI y (a 39) 20 oc, kX10 (a 40) (a 41) (zc 9), aI y (a 41) 32 (zc 10), kX0 (a 42) (a 43) (zc 11), aI y (a 43) 3 (zc 12)]) H := P_r (P_perm hpm hP)
    have hDc : va_D (fun q : Nat => s.heap.size ≤ q) ([aJ y jq 1 jo] ++ [kX11 h (a 0) (a 2) (a 16) (a 30) (a 44) (a 46) Z0, kX7 (a 16) (a 17) (a 19) (a 20) (a 26) (a 28) (z 0), kX3 (a 17) (a 18) (z 1), aI y (a 18) 10 (z 2), kX1 (a 19) (z 3), kX8 (a 20) (a 21) (a 22) (a 23) (a 24) (a 25) (z 4), aI y (a 21) 20 (z 5), aI y (a 22) 20 (z 6), aI y (a 23) 20 (z 7), aI y (a 24) 20 (z 8), aI y (a 25) 20 o, kX10 (a 26) (a 27) (z 9), aI y (a 27) 32 (z 10), kX0 (a 28) (a 29) (z 11), aI y (a 29) 3 (z 12), kX7 (a 30) (a 31) (a 33) (a 34) (a 40) (a 42) (zc 0), kX3 (a 31) (a 32) (zc 1), aI y (a 32) 10 (zc 2), kX1 (a 33) (zc 3), kX8 (a 34) (a 35) (a 36) (a 37) (a 38) (a 39) (zc 4), aI y (a 35) 20 (zc 5), aI y (a 36) 20 (zc 6), aI y (a 37) 20 (zc 7), aI y (a 38) 20 (zc 8), aI y (a 39) 20 oc, kX10 (a 40) (a 41) (zc 9), aI y (a 41) 32 (zc 10), kX0 (a 42) (a 43) (zc 11), aI y (a 43) 3 (zc 12)]) := D_r (D_perm hpm hD)
    have hFc : ∀ q, va_A ([aJ y jq 1 jo] ++ [kX11 h (a 0) (a 2) (a 16) (a 30) (a 44) (a 46) Z0, kX7 (a 16) (a 17) (a 19) (a 20) (a 26) (a 28) (z 0), kX3 (a 17) (a 18) (z 1), aI y (a 18) 10 (z 2), kX1 (a 19) (z 3), kX8 (a 20) (a 21) (a 22) (a 23) (a 24) (a 25) (z 4), aI y (a 21) 20 (z 5), aI y (a 22) 20 (z 6), aI y (a 23) 20 (z 7), aI y (a 24) 20 (z 8), aI y (a 25) 20 o, kX10 (a 26) (a 27) (z 9), aI y (a 27) 32 (z 10), kX0 (a 28) (a 29) (z 11), aI y (a 29) 3 (z 12), kX7 (a 30) (a 31) (a 33) (a 34) (a 40) (a 42) (zc 0), kX3 (a 31) (a 32) (zc 1), aI y (a 32) 10 (zc 2), kX1 (a 33) (zc 3), kX8 (a 34) (a 35) (a 36) (a 37) (a 38) (a 39) (zc 4), aI y (a 35) 20 (zc 5), aI y (a 36) 20 (zc 6), aI y (a 37) 20 (zc 7), aI y (a 38) 20 (zc 8), aI y (a 39) 20 oc, kX10 (a 40) (a 41) (zc 9), aI y (a 41) 32 (zc 10), kX0 (a 42) (a 43) (zc 11), aI y (a 43) 3 (zc 12)]) H.size q → s.heap.size ≤ q := F_r (D_perm hpm hD) hS hA
    refine cl_LP (fun u : (Nat → Int32) × (Nat → Int32) × (Nat → Nat → Int32) => ((lwE y h a jq mh w x9 ft z u.1 u.2.2 u.2.1 x2 ad fl sd (vp_updL jo 0 (s_X11_bestRule_r v1 z).toInt64) X fR fr f g fd fk fz o2) ++ ((kW y ad zk ok 14) ++ (kW y sd zs os 2)))) hpm (fun u => qm0 (T := (kW y ad zk ok 14) ++ (kW y sd zs os 2)) (pr_21 y h a jq mh w x9 ft z u.1 u.2.2 u.2.1 x2 ad fl sd (vp_updL jo 0 (s_X11_bestRule_r v1 z).toInt64) X fR fr f g fd fk fz o2)) (vx_runSX (As := [.ref h, .int v1, .ref jq]) (rest := []) ⟨hx, hb, hml, hown, hts⟩ (c_L_bestRule_y l G y h v1 (a 0) (a 2) (a 16) (a 30) (a 44) (a 46) (a 17) (a 19) (a 20) (a 26) (a 28) z (a 18) (a 21) (a 22) (a 23) (a 24) (a 25) o (a 27) (a 29) (a 31) (a 33) (a 34) (a 40) (a 42) zc (a 32) (a 35) (a 36) (a 37) (a 38) (a 39) oc (a 41) (a 43) jq jo H.size (wf_b hW).1 (wf_b hW).2.1 (wf_b hW).2.2 (WR.tc hW.2.1) hk hfl) (vx_cwSW 3 hts gL_law_L_bestRule rfl rfl rfl (by decide +kernel) ⟨Nat.le_of_ble_eq_true rfl, Nat.le_of_ble_eq_true rfl⟩) (PHL_S hPc hK hN hDc hTY hS hFc) rfl rfl hl.1 rfl (lv_room (Nat.le_of_ble_eq_true rfl)) dL_law_1236 ⟨hkc, hks⟩) hP hD hS hA (fun u H locs hP hD hS => ?_)
    obtain ⟨o_1, oc_1, c9_1⟩ := u
    have hP : va_P G vwCl ((lwE y h a jq mh w x9 ft z o_1 c9_1 oc_1 x2 ad fl sd (vp_updL jo 0 (s_X11_bestRule_r v1 z).toInt64) X fR fr f g fd fk fz o2) ++ ((kW y ad zk ok 14) ++ (kW y sd zs os 2))) H := hP
    have hD : va_D (fun q : Nat => s.heap.size ≤ q) ((lwE y h a jq mh w x9 ft z o_1 c9_1 oc_1 x2 ad fl sd (vp_updL jo 0 (s_X11_bestRule_r v1 z).toInt64) X fR fr f g fd fk fz o2) ++ ((kW y ad zk ok 14) ++ (kW y sd zs os 2))) := hD
    refine lv_istore (lv' := [(5, .int 0), (0, .ref b), (1, .ref h), (2, .ref mh), (3, .ref jq), (4, .int iv)]) hx hb dL_law_1239 hl (by decide) rfl (fun ls hl => ?_)
    refine lv_aload_n hx hb dL_law_1241 rfl (lv_at hl 3 rfl) ?_
    refine lv_aload_n hx hb dL_law_1242 rfl (lv_at hl 1 rfl) ?_
    refine lv_iload hx hb dL_law_1243 (lv_at hl 5 rfl) ?_
    refine lv_iconst (v := 1) hx hb dL_law_1245 (by decide) ?_
    refine lv_iadd hx hb dL_law_1246 ?_
    refine va_sld hx hb hX hbl hbA hS hin1 dL_law_1247 ?_
    refine rw_i (x' := v1) hv1 ?_
    have hpm := qm0 (T := (kW y ad zk ok 14) ++ (kW y sd zs os 2)) (pr_20 y h a jq mh w x9 ft z o_1 c9_1 oc_1 x2 ad fl sd (vp_updL jo 0 (s_X11_bestRule_r v1 z).toInt64) X fR fr f g fd fk fz o2)
    have hPc : va_P G vwCl [kX12 mh (w 0) (w 1) (w 2) (w 3) (w 4) (w 5) (w 6) (w 7) X, aI y (w 2) 154 f, aI y (w 3) 154 g, aI y (w 7) 20 o2] H := P_r (P_perm hpm hP)
    have hDc : va_D (fun q : Nat => s.heap.size ≤ q) [kX12 mh (w 0) (w 1) (w 2) (w 3) (w 4) (w 5) (w 6) (w 7) X, aI y (w 2) 154 f, aI y (w 3) 154 g, aI y (w 7) 20 o2] := D_r (D_perm hpm hD)
    refine cl_MP (fun u : (Nat → Int32) × (Nat → Int32) × (Nat → Int32) => ((lwE y h a jq mh w x9 ft z o_1 c9_1 oc_1 x2 ad fl sd (vp_updL jo 0 (s_X11_bestRule_r v1 z).toInt64) (scX (upd X 0 (if (s_X12_in_r v1.toInt64 1 200) = 0 then 1 else 0)) u.1) fR fr f u.2.1 fd fk fz u.2.2) ++ ((kW y ad zk ok 14) ++ (kW y sd zs os 2)))) hpm (fun u => qm0 (T := (kW y ad zk ok 14) ++ (kW y sd zs os 2)) (pr_20 y h a jq mh w x9 ft z o_1 c9_1 oc_1 x2 ad fl sd (vp_updL jo 0 (s_X11_bestRule_r v1 z).toInt64) (scX (upd X 0 (if (s_X12_in_r v1.toInt64 1 200) = 0 then 1 else 0)) u.1) fR fr f u.2.1 fd fk fz u.2.2)) (va_runV (As := [.int v1]) (rest := []) ⟨hx, hb, hml, hown, hts⟩ (c_X12_bestRule l G y mh v1 (w 0) (w 1) (w 2) (w 3) (w 4) (w 5) (w 6) (w 7) X f g o2 H.size (wf_TK hW)) (cwV 1 hts gL_law_X12_bestRule rfl rfl rfl (by decide +kernel) ⟨Nat.le_of_ble_eq_true rfl, Nat.le_of_ble_eq_true rfl⟩) (PH_V hPc hK4 hN hDc (ci := 10) (q0 := 0) rfl rfl) rfl rfl hl.1 rfl (lv_room (Nat.le_of_ble_eq_true rfl)) dL_law_1248 ⟨hkc, hks⟩) hP hD hS hA (fun u H locs hP hD hS => ?_)
    obtain ⟨sx_X12, g_X12, o_X12⟩ := u
    have hP : va_P G vwCl ((lwE y h a jq mh w x9 ft z o_1 c9_1 oc_1 x2 ad fl sd (vp_updL jo 0 (s_X11_bestRule_r v1 z).toInt64) (scX (upd X 0 (if (s_X12_in_r v1.toInt64 1 200) = 0 then 1 else 0)) sx_X12) fR fr f g_X12 fd fk fz o_X12) ++ ((kW y ad zk ok 14) ++ (kW y sd zs os 2))) H := hP
    have hD : va_D (fun q : Nat => s.heap.size ≤ q) ((lwE y h a jq mh w x9 ft z o_1 c9_1 oc_1 x2 ad fl sd (vp_updL jo 0 (s_X11_bestRule_r v1 z).toInt64) (scX (upd X 0 (if (s_X12_in_r v1.toInt64 1 200) = 0 then 1 else 0)) sx_X12) fR fr f g_X12 fd fk fz o_X12) ++ ((kW y ad zk ok 14) ++ (kW y sd zs os 2))) := hD
    obtain ⟨e1, e2, hW2⟩ := ly_bestRule (sx := sx_X12) hW hN9 hk
    have hT : s_X12_thrown_r (scX (upd X 0 (if (s_X12_in_r v1.toInt64 1 200) = 0 then 1 else 0)) sx_X12) = 0 := (thr_eq _).trans e2
    refine lv_istore (lv' := [(6, .int (s_X12_bestRule_r v1 f)), (5, .int 0), (0, .ref b), (1, .ref h), (2, .ref mh), (3, .ref jq), (4, .int iv)]) hx hb dL_law_1251 hl (by decide) rfl (fun ls hl => ?_)
    refine lv_aload_n hx hb dL_law_1253 rfl (lv_at hl 4 rfl) ?_
    refine cl_Ri (va_runV (As := []) (rest := []) ⟨hx, hb, hml, hown, hts⟩ (c_X12_thrown l G y mh (w 0) (w 1) (w 2) (w 3) (w 4) (w 5) (w 6) (w 7) (scX (upd X 0 (if (s_X12_in_r v1.toInt64 1 200) = 0 then 1 else 0)) sx_X12)) (cwV 0 hts gL_law_X12_thrown rfl rfl rfl (by decide +kernel) ⟨Nat.le_of_ble_eq_true rfl, Nat.le_of_ble_eq_true rfl⟩) (PR_V (sel_P [50] (rfl : sel _ [50] = [kX12 mh (w 0) (w 1) (w 2) (w 3) (w 4) (w 5) (w 6) (w 7) (scX (upd X 0 (if (s_X12_in_r v1.toInt64 1 200) = 0 then 1 else 0)) sx_X12)]) hP) hK4 hN (ci := 10) (q0 := 0) rfl rfl) rfl rfl hl.1 rfl (lv_room (Nat.le_of_ble_eq_true rfl)) dL_law_1254 ⟨hkc, hks⟩) ?_
    refine lv_iload hx hb dL_law_1257 (lv_at hl 1 rfl) ?_
    refine lv_icmp_eq (tgt := 1264) hx hb dL_law_1259 (by decide) (fun _ => ?_) (fun c9 => absurd hT c9)
    refine lv_iload hx hb dL_law_1264 (lv_at hl 1 rfl) ?_
    refine lv_if_ne (tgt := 1281) hx hb dL_law_1266 (by decide) (fun c9 => absurd rfl c9) (fun _ => ?_)
    refine lv_aload_n hx hb dL_law_1269 rfl (lv_at hl 5 rfl) ?_
    refine lv_iconst (v := 0) hx hb dL_law_1270 (by decide) ?_
    refine al_o hx hb hK 59 hP rfl dL_law_1271 ?_
    refine lv_iload hx hb dL_law_1272 (lv_at hl 0 rfl) ?_
    refine lv_i2l (v := (s_X12_bestRule_r v1 f).toInt64) hx hb dL_law_1274 rfl ?_
    refine W.lcmp hx hb dL_law_1275 ?_
    refine lv_if_eq (tgt := 1281) hx hb dL_law_1276 (by decide) (fun _ => ?_) (fun c9 => absurd (lg_o e1) c9)
    refine lv_goto (tgt := 1652) hx hb dL_law_1281 (by decide) ?_
    refine W.widen (k := kc + 1) (n := ks + 6) (by omega) (by omega) ?_
    exact KN H locs ls ⟨x9, ft, z, o_1, c9_1, oc_1, x2, ad, zk, ok, fl, sd, zs, os, (vp_updL jo 0 (s_X11_bestRule_r v1 z).toInt64), (scX (upd X 0 (if (s_X12_in_r v1.toInt64 1 200) = 0 then 1 else 0)) sx_X12), fR, fr, f, g_X12, fd, fk, fz, o_X12, hP, hD, hW2⟩ hS (lv_sub hl [2, 3, 4, 5, 6] rfl)
  · refine lv_aload_n hx hb dL_law_1228 rfl (lv_at hl 1 rfl) ?_
    refine lv_aload_n hx hb dL_law_1229 rfl (lv_at hl 0 rfl) ?_
    refine lv_iload hx hb dL_law_1230 (lv_at hl 4 rfl) ?_
    refine lv_iconst (v := 1) hx hb dL_law_1232 (by decide) ?_
    refine lv_iadd hx hb dL_law_1233 ?_
    refine va_sld hx hb hX hbl hbA hS hin1 dL_law_1234 ?_
    refine rw_i (x' := v1) hv1 ?_
    refine lv_aload_n hx hb dL_law_1235 rfl (lv_at hl 3 rfl) ?_
    have hpm := qm0 (T := (kW y ad zk ok 14) ++ (kW y sd zs os 2)) (pr_21 y h a jq mh w x9 ft z o zc oc x2 ad fl sd jo X fR fr f g fd fk fz o2)
    have hPc : va_P G vwCl ([aJ y jq 1 jo] ++ [kX11 h (a 0) (a 2) (a 16) (a 30) (a 44) (a 46) Z0, kX7 (a 16) (a 17) (a 19) (a 20) (a 26) (a 28) (z 0), kX3 (a 17) (a 18) (z 1), aI y (a 18) 10 (z 2), kX1 (a 19) (z 3), kX8 (a 20) (a 21) (a 22) (a 23) (a 24) (a 25) (z 4), aI y (a 21) 20 (z 5), aI y (a 22) 20 (z 6), aI y (a 23) 20 (z 7), aI y (a 24) 20 (z 8), aI y (a 25) 20 o, kX10 (a 26) (a 27) (z 9), aI y (a 27) 32 (z 10), kX0 (a 28) (a 29) (z 11), aI y (a 29) 3 (z 12), kX7 (a 30) (a 31) (a 33) (a 34) (a 40) (a 42) (zc 0), kX3 (a 31) (a 32) (zc 1), aI y (a 32) 10 (zc 2), kX1 (a 33) (zc 3), kX8 (a 34) (a 35) (a 36) (a 37) (a 38) (a 39) (zc 4), aI y (a 35) 20 (zc 5), aI y (a 36) 20 (zc 6), aI y (a 37) 20 (zc 7), aI y (a 38) 20 (zc 8), aI y (a 39) 20 oc, kX10 (a 40) (a 41) (zc 9), aI y (a 41) 32 (zc 10), kX0 (a 42) (a 43) (zc 11), aI y (a 43) 3 (zc 12)]) H := P_r (P_perm hpm hP)
    have hDc : va_D (fun q : Nat => s.heap.size ≤ q) ([aJ y jq 1 jo] ++ [kX11 h (a 0) (a 2) (a 16) (a 30) (a 44) (a 46) Z0, kX7 (a 16) (a 17) (a 19) (a 20) (a 26) (a 28) (z 0), kX3 (a 17) (a 18) (z 1), aI y (a 18) 10 (z 2), kX1 (a 19) (z 3), kX8 (a 20) (a 21) (a 22) (a 23) (a 24) (a 25) (z 4), aI y (a 21) 20 (z 5), aI y (a 22) 20 (z 6), aI y (a 23) 20 (z 7), aI y (a 24) 20 (z 8), aI y (a 25) 20 o, kX10 (a 26) (a 27) (z 9), aI y (a 27) 32 (z 10), kX0 (a 28) (a 29) (z 11), aI y (a 29) 3 (z 12), kX7 (a 30) (a 31) (a 33) (a 34) (a 40) (a 42) (zc 0), kX3 (a 31) (a 32) (zc 1), aI y (a 32) 10 (zc 2), kX1 (a 33) (zc 3), kX8 (a 34) (a 35) (a 36) (a 37) (a 38) (a 39) (zc 4), aI y (a 35) 20 (zc 5), aI y (a 36) 20 (zc 6), aI y (a 37) 20 (zc 7), aI y (a 38) 20 (zc 8), aI y (a 39) 20 oc, kX10 (a 40) (a 41) (zc 9), aI y (a 41) 32 (zc 10), kX0 (a 42) (a 43) (zc 11), aI y (a 43) 3 (zc 12)]) := D_r (D_perm hpm hD)
    have hFc : ∀ q, va_A ([aJ y jq 1 jo] ++ [kX11 h (a 0) (a 2) (a 16) (a 30) (a 44) (a 46) Z0, kX7 (a 16) (a 17) (a 19) (a 20) (a 26) (a 28) (z 0), kX3 (a 17) (a 18) (z 1), aI y (a 18) 10 (z 2), kX1 (a 19) (z 3), kX8 (a 20) (a 21) (a 22) (a 23) (a 24) (a 25) (z 4), aI y (a 21) 20 (z 5), aI y (a 22) 20 (z 6), aI y (a 23) 20 (z 7), aI y (a 24) 20 (z 8), aI y (a 25) 20 o, kX10 (a 26) (a 27) (z 9), aI y (a 27) 32 (z 10), kX0 (a 28) (a 29) (z 11), aI y (a 29) 3 (z 12), kX7 (a 30) (a 31) (a 33) (a 34) (a 40) (a 42) (zc 0), kX3 (a 31) (a 32) (zc 1), aI y (a 32) 10 (zc 2), kX1 (a 33) (zc 3), kX8 (a 34) (a 35) (a 36) (a 37) (a 38) (a 39) (zc 4), aI y (a 35) 20 (zc 5), aI y (a 36) 20 (zc 6), aI y (a 37) 20 (zc 7), aI y (a 38) 20 (zc 8), aI y (a 39) 20 oc, kX10 (a 40) (a 41) (zc 9), aI y (a 41) 32 (zc 10), kX0 (a 42) (a 43) (zc 11), aI y (a 43) 3 (zc 12)]) H.size q → s.heap.size ≤ q := F_r (D_perm hpm hD) hS hA
    refine cl_LP (fun u : (Nat → Int32) × (Nat → Int32) × (Nat → Nat → Int32) => ((lwE y h a jq mh w x9 ft z u.1 u.2.2 u.2.1 x2 ad fl sd jo X fR fr f g fd fk fz o2) ++ ((kW y ad zk ok 14) ++ (kW y sd zs os 2)))) hpm (fun u => qm0 (T := (kW y ad zk ok 14) ++ (kW y sd zs os 2)) (pr_21 y h a jq mh w x9 ft z u.1 u.2.2 u.2.1 x2 ad fl sd jo X fR fr f g fd fk fz o2)) (vx_runSX (As := [.ref h, .int v1, .ref jq]) (rest := []) ⟨hx, hb, hml, hown, hts⟩ (c_L_bestRule_n l G y h v1 (a 0) (a 2) (a 16) (a 30) (a 44) (a 46) (a 17) (a 19) (a 20) (a 26) (a 28) z (a 18) (a 21) (a 22) (a 23) (a 24) (a 25) o (a 27) (a 29) (a 31) (a 33) (a 34) (a 40) (a 42) zc (a 32) (a 35) (a 36) (a 37) (a 38) (a 39) oc (a 41) (a 43) jq jo H.size (wf_b hW).1 (wf_b hW).2.1 (wf_b hW).2.2 (WR.tc hW.2.1) hk hfl) (vx_cwSW 3 hts gL_law_L_bestRule rfl rfl rfl (by decide +kernel) ⟨Nat.le_of_ble_eq_true rfl, Nat.le_of_ble_eq_true rfl⟩) (PHL_S hPc hK hN hDc hTY hS hFc) rfl rfl hl.1 rfl (lv_room (Nat.le_of_ble_eq_true rfl)) dL_law_1236 ⟨hkc, hks⟩) hP hD hS hA (fun u H locs hP hD hS => ?_)
    obtain ⟨o_1, oc_1, c9_1⟩ := u
    have hP : va_P G vwCl ((lwE y h a jq mh w x9 ft z o_1 c9_1 oc_1 x2 ad fl sd jo X fR fr f g fd fk fz o2) ++ ((kW y ad zk ok 14) ++ (kW y sd zs os 2))) H := hP
    have hD : va_D (fun q : Nat => s.heap.size ≤ q) ((lwE y h a jq mh w x9 ft z o_1 c9_1 oc_1 x2 ad fl sd jo X fR fr f g fd fk fz o2) ++ ((kW y ad zk ok 14) ++ (kW y sd zs os 2))) := hD
    refine lv_istore (lv' := [(5, .int (cdK 1 (s_X11_bestRule_k v1 z))), (0, .ref b), (1, .ref h), (2, .ref mh), (3, .ref jq), (4, .int iv)]) hx hb dL_law_1239 hl (by decide) rfl (fun ls hl => ?_)
    refine lv_aload_n hx hb dL_law_1241 rfl (lv_at hl 3 rfl) ?_
    refine lv_aload_n hx hb dL_law_1242 rfl (lv_at hl 1 rfl) ?_
    refine lv_iload hx hb dL_law_1243 (lv_at hl 5 rfl) ?_
    refine lv_iconst (v := 1) hx hb dL_law_1245 (by decide) ?_
    refine lv_iadd hx hb dL_law_1246 ?_
    refine va_sld hx hb hX hbl hbA hS hin1 dL_law_1247 ?_
    refine rw_i (x' := v1) hv1 ?_
    have hpm := qm0 (T := (kW y ad zk ok 14) ++ (kW y sd zs os 2)) (pr_20 y h a jq mh w x9 ft z o_1 c9_1 oc_1 x2 ad fl sd jo X fR fr f g fd fk fz o2)
    have hPc : va_P G vwCl [kX12 mh (w 0) (w 1) (w 2) (w 3) (w 4) (w 5) (w 6) (w 7) X, aI y (w 2) 154 f, aI y (w 3) 154 g, aI y (w 7) 20 o2] H := P_r (P_perm hpm hP)
    have hDc : va_D (fun q : Nat => s.heap.size ≤ q) [kX12 mh (w 0) (w 1) (w 2) (w 3) (w 4) (w 5) (w 6) (w 7) X, aI y (w 2) 154 f, aI y (w 3) 154 g, aI y (w 7) 20 o2] := D_r (D_perm hpm hD)
    refine cl_MP (fun u : (Nat → Int32) × (Nat → Int32) × (Nat → Int32) => ((lwE y h a jq mh w x9 ft z o_1 c9_1 oc_1 x2 ad fl sd jo (scX (upd X 0 (if (s_X12_in_r v1.toInt64 1 200) = 0 then 1 else 0)) u.1) fR fr f u.2.1 fd fk fz u.2.2) ++ ((kW y ad zk ok 14) ++ (kW y sd zs os 2)))) hpm (fun u => qm0 (T := (kW y ad zk ok 14) ++ (kW y sd zs os 2)) (pr_20 y h a jq mh w x9 ft z o_1 c9_1 oc_1 x2 ad fl sd jo (scX (upd X 0 (if (s_X12_in_r v1.toInt64 1 200) = 0 then 1 else 0)) u.1) fR fr f u.2.1 fd fk fz u.2.2)) (va_runV (As := [.int v1]) (rest := []) ⟨hx, hb, hml, hown, hts⟩ (c_X12_bestRule l G y mh v1 (w 0) (w 1) (w 2) (w 3) (w 4) (w 5) (w 6) (w 7) X f g o2 H.size (wf_TK hW)) (cwV 1 hts gL_law_X12_bestRule rfl rfl rfl (by decide +kernel) ⟨Nat.le_of_ble_eq_true rfl, Nat.le_of_ble_eq_true rfl⟩) (PH_V hPc hK4 hN hDc (ci := 10) (q0 := 0) rfl rfl) rfl rfl hl.1 rfl (lv_room (Nat.le_of_ble_eq_true rfl)) dL_law_1248 ⟨hkc, hks⟩) hP hD hS hA (fun u H locs hP hD hS => ?_)
    obtain ⟨sx_X12, g_X12, o_X12⟩ := u
    have hP : va_P G vwCl ((lwE y h a jq mh w x9 ft z o_1 c9_1 oc_1 x2 ad fl sd jo (scX (upd X 0 (if (s_X12_in_r v1.toInt64 1 200) = 0 then 1 else 0)) sx_X12) fR fr f g_X12 fd fk fz o_X12) ++ ((kW y ad zk ok 14) ++ (kW y sd zs os 2))) H := hP
    have hD : va_D (fun q : Nat => s.heap.size ≤ q) ((lwE y h a jq mh w x9 ft z o_1 c9_1 oc_1 x2 ad fl sd jo (scX (upd X 0 (if (s_X12_in_r v1.toInt64 1 200) = 0 then 1 else 0)) sx_X12) fR fr f g_X12 fd fk fz o_X12) ++ ((kW y ad zk ok 14) ++ (kW y sd zs os 2))) := hD
    obtain ⟨e2, hW2⟩ := ln_bestRule (sx := sx_X12) hW hk
    have hT : s_X12_thrown_r (scX (upd X 0 (if (s_X12_in_r v1.toInt64 1 200) = 0 then 1 else 0)) sx_X12) = cdK 1 (s_X11_bestRule_k v1 z) := (thr_eq _).trans e2
    refine lv_istore (lv' := [(6, .int (s_X12_bestRule_r v1 f)), (5, .int (cdK 1 (s_X11_bestRule_k v1 z))), (0, .ref b), (1, .ref h), (2, .ref mh), (3, .ref jq), (4, .int iv)]) hx hb dL_law_1251 hl (by decide) rfl (fun ls hl => ?_)
    refine lv_aload_n hx hb dL_law_1253 rfl (lv_at hl 4 rfl) ?_
    refine cl_Ri (va_runV (As := []) (rest := []) ⟨hx, hb, hml, hown, hts⟩ (c_X12_thrown l G y mh (w 0) (w 1) (w 2) (w 3) (w 4) (w 5) (w 6) (w 7) (scX (upd X 0 (if (s_X12_in_r v1.toInt64 1 200) = 0 then 1 else 0)) sx_X12)) (cwV 0 hts gL_law_X12_thrown rfl rfl rfl (by decide +kernel) ⟨Nat.le_of_ble_eq_true rfl, Nat.le_of_ble_eq_true rfl⟩) (PR_V (sel_P [50] (rfl : sel _ [50] = [kX12 mh (w 0) (w 1) (w 2) (w 3) (w 4) (w 5) (w 6) (w 7) (scX (upd X 0 (if (s_X12_in_r v1.toInt64 1 200) = 0 then 1 else 0)) sx_X12)]) hP) hK4 hN (ci := 10) (q0 := 0) rfl rfl) rfl rfl hl.1 rfl (lv_room (Nat.le_of_ble_eq_true rfl)) dL_law_1254 ⟨hkc, hks⟩) ?_
    refine lv_iload hx hb dL_law_1257 (lv_at hl 1 rfl) ?_
    refine lv_icmp_eq (tgt := 1264) hx hb dL_law_1259 (by decide) (fun _ => ?_) (fun c9 => absurd hT c9)
    refine lv_iload hx hb dL_law_1264 (lv_at hl 1 rfl) ?_
    refine lv_if_ne (tgt := 1281) hx hb dL_law_1266 (by decide) (fun _ => ?_) (fun c9 => absurd c9 (cd_n hk))
    refine lv_goto (tgt := 1652) hx hb dL_law_1281 (by decide) ?_
    refine W.widen (k := kc + 1) (n := ks + 6) (by omega) (by omega) ?_
    exact KN H locs ls ⟨x9, ft, z, o_1, c9_1, oc_1, x2, ad, zk, ok, fl, sd, zs, os, jo, (scX (upd X 0 (if (s_X12_in_r v1.toInt64 1 200) = 0 then 1 else 0)) sx_X12), fR, fr, f, g_X12, fd, fk, fz, o_X12, hP, hD, hW2⟩ hS (lv_sub hl [2, 3, 4, 5, 6] rfl)
set_option maxHeartbeats 2000000 in
set_option maxRecDepth 100000 in
theorem case_22 {p : Program} {l : Launch} {e : Env} {s : State} {m : MethodId} {below : List Frame} {meth : Method} {c : Code} {b L : Nat} {xs : Nat → Int32} {G : va_G} {y : Nat → ClassId} {h : Nat} {a : Nat → Nat} {jq mh : Nat} {w : Nat → Nat} {iv v1 v2 v3 : Int32} {N kc ks : Nat} {H : Heap} {locs : List Loc} {ls : Array Slot} (hfl : l.stackTraces = false) (C0 : lw_At p s m meth c b L xs) (hK : va_K G vwCl (tyJ y) s) (hN : NN s) (hTY : TY (fun q : Nat => s.heap.size ≤ q) s) (hin1 : vp_in (iv + 1) L) (hin2 : vp_in (iv + 2) L) (hin3 : vp_in (iv + 3) L) (hv1 : xs (iv + 1).toNatClampNeg = v1) (hv2 : xs (iv + 2).toNatClampNeg = v2) (hv3 : xs (iv + 3).toNatClampNeg = v3) (hkc : kc + 1 ≤ room_1.cells) (hks : ks + 6 ≤ room_1.slots) (hN9 : N + 12800 < 2147483648) (hI : LI G y h a jq mh w (fun q : Nat => s.heap.size ≤ q) N H) (hS : va_S (fun q : Nat => s.heap.size ≤ q) s.heap H locs) (hl : lv_has ls 7 [(0, .ref b), (1, .ref h), (2, .ref mh), (3, .ref jq), (4, .int iv)]) (KN : ∀ (H : Heap) (locs : List Loc) (ls : Array Slot), LI G y h a jq mh w (fun q : Nat => s.heap.size ≤ q) (N + 200) H → va_S (fun q : Nat => s.heap.size ≤ q) s.heap H locs → lv_has ls 7 [(0, .ref b), (1, .ref h), (2, .ref mh), (3, .ref jq), (4, .int iv)] → W p l e room_1 s m #[Value.ref b] below meth c H locs (kc + 1) (ks + 6) (lw_Z below #[Value.ref b] s) (F0 m 1652 ls [])) : W p l e room_1 s m #[Value.ref b] below meth c H locs kc ks (lw_Z below #[Value.ref b] s) (F0 m 1284 ls []) := by
  obtain ⟨hx, hb, hr, hml, hown, hts, hX, hbl, hlocks, hgv⟩ := C0
  have hts := fun w hh => hts w (wsL_law_in w hh)
  have hbA : ¬ (fun q : Nat => s.heap.size ≤ q) b := Nat.not_le.mpr hbl
  have hA : ∀ q : Nat, s.heap.size ≤ q → (fun q : Nat => s.heap.size ≤ q) q := fun _ h => h
  have hK4 : va_K G vwCl (tyG y) s := hK.sub (tys' := tyG y) [0, 1, 2, 3] rfl
  have hown : s.vm.findClass RL = some m.cls := hown
  have hkc0 : kc ≤ room_1.cells := Nat.le_of_succ_le hkc
  have hks0 : ks ≤ room_1.slots := Nat.le_trans (Nat.le_add_right ks 6) hks
  obtain ⟨x9, ft, z, o, zc, oc, x2, ad, zk, ok, fl, sd, zs, os, jo, X, fR, fr, f, g, fd, fk, fz, o2, hP, hD, hW⟩ := hI
  by_cases hk : (s_X11_settlesAfter_k v1) = 0
  · refine lv_aload_n hx hb dL_law_1284 rfl (lv_at hl 1 rfl) ?_
    refine lv_aload_n hx hb dL_law_1285 rfl (lv_at hl 0 rfl) ?_
    refine lv_iload hx hb dL_law_1286 (lv_at hl 4 rfl) ?_
    refine lv_iconst (v := 1) hx hb dL_law_1288 (by decide) ?_
    refine lv_iadd hx hb dL_law_1289 ?_
    refine va_sld hx hb hX hbl hbA hS hin1 dL_law_1290 ?_
    refine rw_i (x' := v1) hv1 ?_
    refine lv_aload_n hx hb dL_law_1291 rfl (lv_at hl 3 rfl) ?_
    have hpm := qm0 (T := (kW y ad zk ok 14) ++ (kW y sd zs os 2)) (pr_21 y h a jq mh w x9 ft z o zc oc x2 ad fl sd jo X fR fr f g fd fk fz o2)
    have hPc : va_P G vwCl ([aJ y jq 1 jo] ++ [kX11 h (a 0) (a 2) (a 16) (a 30) (a 44) (a 46) Z0, kX7 (a 16) (a 17) (a 19) (a 20) (a 26) (a 28) (z 0), kX3 (a 17) (a 18) (z 1), aI y (a 18) 10 (z 2), kX1 (a 19) (z 3), kX8 (a 20) (a 21) (a 22) (a 23) (a 24) (a 25) (z 4), aI y (a 21) 20 (z 5), aI y (a 22) 20 (z 6), aI y (a 23) 20 (z 7), aI y (a 24) 20 (z 8), aI y (a 25) 20 o, kX10 (a 26) (a 27) (z 9), aI y (a 27) 32 (z 10), kX0 (a 28) (a 29) (z 11), aI y (a 29) 3 (z 12), kX7 (a 30) (a 31) (a 33) (a 34) (a 40) (a 42) (zc 0), kX3 (a 31) (a 32) (zc 1), aI y (a 32) 10 (zc 2), kX1 (a 33) (zc 3), kX8 (a 34) (a 35) (a 36) (a 37) (a 38) (a 39) (zc 4), aI y (a 35) 20 (zc 5), aI y (a 36) 20 (zc 6), aI y (a 37) 20 (zc 7), aI y (a 38) 20 (zc 8), aI y (a 39) 20 oc, kX10 (a 40) (a 41) (zc 9), aI y (a 41) 32 (zc 10), kX0 (a 42) (a 43) (zc 11), aI y (a 43) 3 (zc 12)]) H := P_r (P_perm hpm hP)
    have hDc : va_D (fun q : Nat => s.heap.size ≤ q) ([aJ y jq 1 jo] ++ [kX11 h (a 0) (a 2) (a 16) (a 30) (a 44) (a 46) Z0, kX7 (a 16) (a 17) (a 19) (a 20) (a 26) (a 28) (z 0), kX3 (a 17) (a 18) (z 1), aI y (a 18) 10 (z 2), kX1 (a 19) (z 3), kX8 (a 20) (a 21) (a 22) (a 23) (a 24) (a 25) (z 4), aI y (a 21) 20 (z 5), aI y (a 22) 20 (z 6), aI y (a 23) 20 (z 7), aI y (a 24) 20 (z 8), aI y (a 25) 20 o, kX10 (a 26) (a 27) (z 9), aI y (a 27) 32 (z 10), kX0 (a 28) (a 29) (z 11), aI y (a 29) 3 (z 12), kX7 (a 30) (a 31) (a 33) (a 34) (a 40) (a 42) (zc 0), kX3 (a 31) (a 32) (zc 1), aI y (a 32) 10 (zc 2), kX1 (a 33) (zc 3), kX8 (a 34) (a 35) (a 36) (a 37) (a 38) (a 39) (zc 4), aI y (a 35) 20 (zc 5), aI y (a 36) 20 (zc 6), aI y (a 37) 20 (zc 7), aI y (a 38) 20 (zc 8), aI y (a 39) 20 oc, kX10 (a 40) (a 41) (zc 9), aI y (a 41) 32 (zc 10), kX0 (a 42) (a 43) (zc 11), aI y (a 43) 3 (zc 12)]) := D_r (D_perm hpm hD)
    have hFc : ∀ q, va_A ([aJ y jq 1 jo] ++ [kX11 h (a 0) (a 2) (a 16) (a 30) (a 44) (a 46) Z0, kX7 (a 16) (a 17) (a 19) (a 20) (a 26) (a 28) (z 0), kX3 (a 17) (a 18) (z 1), aI y (a 18) 10 (z 2), kX1 (a 19) (z 3), kX8 (a 20) (a 21) (a 22) (a 23) (a 24) (a 25) (z 4), aI y (a 21) 20 (z 5), aI y (a 22) 20 (z 6), aI y (a 23) 20 (z 7), aI y (a 24) 20 (z 8), aI y (a 25) 20 o, kX10 (a 26) (a 27) (z 9), aI y (a 27) 32 (z 10), kX0 (a 28) (a 29) (z 11), aI y (a 29) 3 (z 12), kX7 (a 30) (a 31) (a 33) (a 34) (a 40) (a 42) (zc 0), kX3 (a 31) (a 32) (zc 1), aI y (a 32) 10 (zc 2), kX1 (a 33) (zc 3), kX8 (a 34) (a 35) (a 36) (a 37) (a 38) (a 39) (zc 4), aI y (a 35) 20 (zc 5), aI y (a 36) 20 (zc 6), aI y (a 37) 20 (zc 7), aI y (a 38) 20 (zc 8), aI y (a 39) 20 oc, kX10 (a 40) (a 41) (zc 9), aI y (a 41) 32 (zc 10), kX0 (a 42) (a 43) (zc 11), aI y (a 43) 3 (zc 12)]) H.size q → s.heap.size ≤ q := F_r (D_perm hpm hD) hS hA
    refine cl_LP (fun u : (Nat → Nat → Int32) => ((lwE y h a jq mh w x9 ft z o u oc x2 ad fl sd (vp_updL jo 0 (s_X11_settlesAfter_r v1 z 200).toInt64) X fR fr f g fd fk fz o2) ++ ((kW y ad zk ok 14) ++ (kW y sd zs os 2)))) hpm (fun u => qm0 (T := (kW y ad zk ok 14) ++ (kW y sd zs os 2)) (pr_21 y h a jq mh w x9 ft z o u oc x2 ad fl sd (vp_updL jo 0 (s_X11_settlesAfter_r v1 z 200).toInt64) X fR fr f g fd fk fz o2)) (vx_runSX (As := [.ref h, .int v1, .ref jq]) (rest := []) ⟨hx, hb, hml, hown, hts⟩ (c_L_settlesAfter_y l G y h v1 (a 0) (a 2) (a 16) (a 30) (a 44) (a 46) (a 17) (a 19) (a 20) (a 26) (a 28) z (a 18) (a 21) (a 22) (a 23) (a 24) (a 25) o (a 27) (a 29) (a 31) (a 33) (a 34) (a 40) (a 42) zc (a 32) (a 35) (a 36) (a 37) (a 38) (a 39) oc (a 41) (a 43) 200 jq jo H.size (wf_b hW).1 (wf_b hW).2.1 (wf_b hW).2.2 (WR.tc hW.2.1) rfl hk hfl) (vx_cwSW 3 hts gL_law_L_settlesAfter rfl rfl rfl (by decide +kernel) ⟨Nat.le_of_ble_eq_true rfl, Nat.le_of_ble_eq_true rfl⟩) (PHL_S hPc hK hN hDc hTY hS hFc) rfl rfl hl.1 rfl (lv_room (Nat.le_of_ble_eq_true rfl)) dL_law_1292 ⟨hkc, hks⟩) hP hD hS hA (fun u H locs hP hD hS => ?_)
    obtain ⟨c9_1, rfl⟩ : ∃ zq9, zq9 = u := ⟨_, rfl⟩
    have hP : va_P G vwCl ((lwE y h a jq mh w x9 ft z o c9_1 oc x2 ad fl sd (vp_updL jo 0 (s_X11_settlesAfter_r v1 z 200).toInt64) X fR fr f g fd fk fz o2) ++ ((kW y ad zk ok 14) ++ (kW y sd zs os 2))) H := hP
    have hD : va_D (fun q : Nat => s.heap.size ≤ q) ((lwE y h a jq mh w x9 ft z o c9_1 oc x2 ad fl sd (vp_updL jo 0 (s_X11_settlesAfter_r v1 z 200).toInt64) X fR fr f g fd fk fz o2) ++ ((kW y ad zk ok 14) ++ (kW y sd zs os 2))) := hD
    refine lv_istore (lv' := [(5, .int 0), (0, .ref b), (1, .ref h), (2, .ref mh), (3, .ref jq), (4, .int iv)]) hx hb dL_law_1295 hl (by decide) rfl (fun ls hl => ?_)
    refine lv_aload_n hx hb dL_law_1297 rfl (lv_at hl 3 rfl) ?_
    refine lv_aload_n hx hb dL_law_1298 rfl (lv_at hl 1 rfl) ?_
    refine lv_iload hx hb dL_law_1299 (lv_at hl 5 rfl) ?_
    refine lv_iconst (v := 1) hx hb dL_law_1301 (by decide) ?_
    refine lv_iadd hx hb dL_law_1302 ?_
    refine va_sld hx hb hX hbl hbA hS hin1 dL_law_1303 ?_
    refine rw_i (x' := v1) hv1 ?_
    have hpm := qm0 (T := (kW y ad zk ok 14) ++ (kW y sd zs os 2)) (pr_22 y h a jq mh w x9 ft z o c9_1 oc x2 ad fl sd (vp_updL jo 0 (s_X11_settlesAfter_r v1 z 200).toInt64) X fR fr f g fd fk fz o2)
    have hPc : va_P G vwCl [kX12 mh (w 0) (w 1) (w 2) (w 3) (w 4) (w 5) (w 6) (w 7) X, aI y (w 2) 154 f, aI y (w 3) 154 g] H := P_r (P_perm hpm hP)
    have hDc : va_D (fun q : Nat => s.heap.size ≤ q) [kX12 mh (w 0) (w 1) (w 2) (w 3) (w 4) (w 5) (w 6) (w 7) X, aI y (w 2) 154 f, aI y (w 3) 154 g] := D_r (D_perm hpm hD)
    refine cl_MP (fun u : (Nat → Int32) => ((lwE y h a jq mh w x9 ft z o c9_1 oc x2 ad fl sd (vp_updL jo 0 (s_X11_settlesAfter_r v1 z 200).toInt64) (s_X12_settlesAfter_w0 v1 X) fR fr f u fd fk fz o2) ++ ((kW y ad zk ok 14) ++ (kW y sd zs os 2)))) hpm (fun u => qm0 (T := (kW y ad zk ok 14) ++ (kW y sd zs os 2)) (pr_22 y h a jq mh w x9 ft z o c9_1 oc x2 ad fl sd (vp_updL jo 0 (s_X11_settlesAfter_r v1 z 200).toInt64) (s_X12_settlesAfter_w0 v1 X) fR fr f u fd fk fz o2)) (va_runV (As := [.int v1]) (rest := []) ⟨hx, hb, hml, hown, hts⟩ (c_X12_settlesAfter l G y mh v1 (w 0) (w 1) (w 2) (w 3) (w 4) (w 5) (w 6) (w 7) X f g H.size (wf_TK hW)) (cwV 1 hts gL_law_X12_settlesAfter rfl rfl rfl (by decide +kernel) ⟨Nat.le_of_ble_eq_true rfl, Nat.le_of_ble_eq_true rfl⟩) (PH_V hPc hK4 hN hDc (ci := 10) (q0 := 0) rfl rfl) rfl rfl hl.1 rfl (lv_room (Nat.le_of_ble_eq_true rfl)) dL_law_1304 ⟨hkc, hks⟩) hP hD hS hA (fun u H locs hP hD hS => ?_)
    obtain ⟨g_X12, rfl⟩ : ∃ zq9, zq9 = u := ⟨_, rfl⟩
    have hP : va_P G vwCl ((lwE y h a jq mh w x9 ft z o c9_1 oc x2 ad fl sd (vp_updL jo 0 (s_X11_settlesAfter_r v1 z 200).toInt64) (s_X12_settlesAfter_w0 v1 X) fR fr f g_X12 fd fk fz o2) ++ ((kW y ad zk ok 14) ++ (kW y sd zs os 2))) H := hP
    have hD : va_D (fun q : Nat => s.heap.size ≤ q) ((lwE y h a jq mh w x9 ft z o c9_1 oc x2 ad fl sd (vp_updL jo 0 (s_X11_settlesAfter_r v1 z 200).toInt64) (s_X12_settlesAfter_w0 v1 X) fR fr f g_X12 fd fk fz o2) ++ ((kW y ad zk ok 14) ++ (kW y sd zs os 2))) := hD
    obtain ⟨e1, e2, hW2⟩ := ly_settlesAfter hW hN9 rfl hk
    have hT : s_X12_thrown_r (s_X12_settlesAfter_w0 v1 X) = 0 := (thr_eq _).trans e2
    refine lv_istore (lv' := [(6, .int (s_X12_settlesAfter_r v1 f)), (5, .int 0), (0, .ref b), (1, .ref h), (2, .ref mh), (3, .ref jq), (4, .int iv)]) hx hb dL_law_1307 hl (by decide) rfl (fun ls hl => ?_)
    refine lv_aload_n hx hb dL_law_1309 rfl (lv_at hl 4 rfl) ?_
    refine cl_Ri (va_runV (As := []) (rest := []) ⟨hx, hb, hml, hown, hts⟩ (c_X12_thrown l G y mh (w 0) (w 1) (w 2) (w 3) (w 4) (w 5) (w 6) (w 7) (s_X12_settlesAfter_w0 v1 X)) (cwV 0 hts gL_law_X12_thrown rfl rfl rfl (by decide +kernel) ⟨Nat.le_of_ble_eq_true rfl, Nat.le_of_ble_eq_true rfl⟩) (PR_V (sel_P [50] (rfl : sel _ [50] = [kX12 mh (w 0) (w 1) (w 2) (w 3) (w 4) (w 5) (w 6) (w 7) (s_X12_settlesAfter_w0 v1 X)]) hP) hK4 hN (ci := 10) (q0 := 0) rfl rfl) rfl rfl hl.1 rfl (lv_room (Nat.le_of_ble_eq_true rfl)) dL_law_1310 ⟨hkc, hks⟩) ?_
    refine lv_iload hx hb dL_law_1313 (lv_at hl 1 rfl) ?_
    refine lv_icmp_eq (tgt := 1320) hx hb dL_law_1315 (by decide) (fun _ => ?_) (fun c9 => absurd hT c9)
    refine lv_iload hx hb dL_law_1320 (lv_at hl 1 rfl) ?_
    refine lv_if_ne (tgt := 1337) hx hb dL_law_1322 (by decide) (fun c9 => absurd rfl c9) (fun _ => ?_)
    refine lv_aload_n hx hb dL_law_1325 rfl (lv_at hl 5 rfl) ?_
    refine lv_iconst (v := 0) hx hb dL_law_1326 (by decide) ?_
    refine al_o hx hb hK 59 hP rfl dL_law_1327 ?_
    refine lv_iload hx hb dL_law_1328 (lv_at hl 0 rfl) ?_
    refine lv_i2l (v := (s_X12_settlesAfter_r v1 f).toInt64) hx hb dL_law_1330 rfl ?_
    refine W.lcmp hx hb dL_law_1331 ?_
    refine lv_if_eq (tgt := 1337) hx hb dL_law_1332 (by decide) (fun _ => ?_) (fun c9 => absurd (lg_o e1) c9)
    refine lv_goto (tgt := 1652) hx hb dL_law_1337 (by decide) ?_
    refine W.widen (k := kc + 1) (n := ks + 6) (by omega) (by omega) ?_
    exact KN H locs ls ⟨x9, ft, z, o, c9_1, oc, x2, ad, zk, ok, fl, sd, zs, os, (vp_updL jo 0 (s_X11_settlesAfter_r v1 z 200).toInt64), (s_X12_settlesAfter_w0 v1 X), fR, fr, f, g_X12, fd, fk, fz, o2, hP, hD, hW2⟩ hS (lv_sub hl [2, 3, 4, 5, 6] rfl)
  · refine lv_aload_n hx hb dL_law_1284 rfl (lv_at hl 1 rfl) ?_
    refine lv_aload_n hx hb dL_law_1285 rfl (lv_at hl 0 rfl) ?_
    refine lv_iload hx hb dL_law_1286 (lv_at hl 4 rfl) ?_
    refine lv_iconst (v := 1) hx hb dL_law_1288 (by decide) ?_
    refine lv_iadd hx hb dL_law_1289 ?_
    refine va_sld hx hb hX hbl hbA hS hin1 dL_law_1290 ?_
    refine rw_i (x' := v1) hv1 ?_
    refine lv_aload_n hx hb dL_law_1291 rfl (lv_at hl 3 rfl) ?_
    have hpm := qm0 (T := (kW y ad zk ok 14) ++ (kW y sd zs os 2)) (pr_21 y h a jq mh w x9 ft z o zc oc x2 ad fl sd jo X fR fr f g fd fk fz o2)
    have hPc : va_P G vwCl ([aJ y jq 1 jo] ++ [kX11 h (a 0) (a 2) (a 16) (a 30) (a 44) (a 46) Z0, kX7 (a 16) (a 17) (a 19) (a 20) (a 26) (a 28) (z 0), kX3 (a 17) (a 18) (z 1), aI y (a 18) 10 (z 2), kX1 (a 19) (z 3), kX8 (a 20) (a 21) (a 22) (a 23) (a 24) (a 25) (z 4), aI y (a 21) 20 (z 5), aI y (a 22) 20 (z 6), aI y (a 23) 20 (z 7), aI y (a 24) 20 (z 8), aI y (a 25) 20 o, kX10 (a 26) (a 27) (z 9), aI y (a 27) 32 (z 10), kX0 (a 28) (a 29) (z 11), aI y (a 29) 3 (z 12), kX7 (a 30) (a 31) (a 33) (a 34) (a 40) (a 42) (zc 0), kX3 (a 31) (a 32) (zc 1), aI y (a 32) 10 (zc 2), kX1 (a 33) (zc 3), kX8 (a 34) (a 35) (a 36) (a 37) (a 38) (a 39) (zc 4), aI y (a 35) 20 (zc 5), aI y (a 36) 20 (zc 6), aI y (a 37) 20 (zc 7), aI y (a 38) 20 (zc 8), aI y (a 39) 20 oc, kX10 (a 40) (a 41) (zc 9), aI y (a 41) 32 (zc 10), kX0 (a 42) (a 43) (zc 11), aI y (a 43) 3 (zc 12)]) H := P_r (P_perm hpm hP)
    have hDc : va_D (fun q : Nat => s.heap.size ≤ q) ([aJ y jq 1 jo] ++ [kX11 h (a 0) (a 2) (a 16) (a 30) (a 44) (a 46) Z0, kX7 (a 16) (a 17) (a 19) (a 20) (a 26) (a 28) (z 0), kX3 (a 17) (a 18) (z 1), aI y (a 18) 10 (z 2), kX1 (a 19) (z 3), kX8 (a 20) (a 21) (a 22) (a 23) (a 24) (a 25) (z 4), aI y (a 21) 20 (z 5), aI y (a 22) 20 (z 6), aI y (a 23) 20 (z 7), aI y (a 24) 20 (z 8), aI y (a 25) 20 o, kX10 (a 26) (a 27) (z 9), aI y (a 27) 32 (z 10), kX0 (a 28) (a 29) (z 11), aI y (a 29) 3 (z 12), kX7 (a 30) (a 31) (a 33) (a 34) (a 40) (a 42) (zc 0), kX3 (a 31) (a 32) (zc 1), aI y (a 32) 10 (zc 2), kX1 (a 33) (zc 3), kX8 (a 34) (a 35) (a 36) (a 37) (a 38) (a 39) (zc 4), aI y (a 35) 20 (zc 5), aI y (a 36) 20 (zc 6), aI y (a 37) 20 (zc 7), aI y (a 38) 20 (zc 8), aI y (a 39) 20 oc, kX10 (a 40) (a 41) (zc 9), aI y (a 41) 32 (zc 10), kX0 (a 42) (a 43) (zc 11), aI y (a 43) 3 (zc 12)]) := D_r (D_perm hpm hD)
    have hFc : ∀ q, va_A ([aJ y jq 1 jo] ++ [kX11 h (a 0) (a 2) (a 16) (a 30) (a 44) (a 46) Z0, kX7 (a 16) (a 17) (a 19) (a 20) (a 26) (a 28) (z 0), kX3 (a 17) (a 18) (z 1), aI y (a 18) 10 (z 2), kX1 (a 19) (z 3), kX8 (a 20) (a 21) (a 22) (a 23) (a 24) (a 25) (z 4), aI y (a 21) 20 (z 5), aI y (a 22) 20 (z 6), aI y (a 23) 20 (z 7), aI y (a 24) 20 (z 8), aI y (a 25) 20 o, kX10 (a 26) (a 27) (z 9), aI y (a 27) 32 (z 10), kX0 (a 28) (a 29) (z 11), aI y (a 29) 3 (z 12), kX7 (a 30) (a 31) (a 33) (a 34) (a 40) (a 42) (zc 0), kX3 (a 31) (a 32) (zc 1), aI y (a 32) 10 (zc 2), kX1 (a 33) (zc 3), kX8 (a 34) (a 35) (a 36) (a 37) (a 38) (a 39) (zc 4), aI y (a 35) 20 (zc 5), aI y (a 36) 20 (zc 6), aI y (a 37) 20 (zc 7), aI y (a 38) 20 (zc 8), aI y (a 39) 20 oc, kX10 (a 40) (a 41) (zc 9), aI y (a 41) 32 (zc 10), kX0 (a 42) (a 43) (zc 11), aI y (a 43) 3 (zc 12)]) H.size q → s.heap.size ≤ q := F_r (D_perm hpm hD) hS hA
    refine cl_LP (fun u : (Nat → Nat → Int32) => ((lwE y h a jq mh w x9 ft z o u oc x2 ad fl sd jo X fR fr f g fd fk fz o2) ++ ((kW y ad zk ok 14) ++ (kW y sd zs os 2)))) hpm (fun u => qm0 (T := (kW y ad zk ok 14) ++ (kW y sd zs os 2)) (pr_21 y h a jq mh w x9 ft z o u oc x2 ad fl sd jo X fR fr f g fd fk fz o2)) (vx_runSX (As := [.ref h, .int v1, .ref jq]) (rest := []) ⟨hx, hb, hml, hown, hts⟩ (c_L_settlesAfter_n l G y h v1 (a 0) (a 2) (a 16) (a 30) (a 44) (a 46) (a 17) (a 19) (a 20) (a 26) (a 28) z (a 18) (a 21) (a 22) (a 23) (a 24) (a 25) o (a 27) (a 29) (a 31) (a 33) (a 34) (a 40) (a 42) zc (a 32) (a 35) (a 36) (a 37) (a 38) (a 39) oc (a 41) (a 43) 200 jq jo H.size (wf_b hW).1 (wf_b hW).2.1 (wf_b hW).2.2 (WR.tc hW.2.1) rfl hk hfl) (vx_cwSW 3 hts gL_law_L_settlesAfter rfl rfl rfl (by decide +kernel) ⟨Nat.le_of_ble_eq_true rfl, Nat.le_of_ble_eq_true rfl⟩) (PHL_S hPc hK hN hDc hTY hS hFc) rfl rfl hl.1 rfl (lv_room (Nat.le_of_ble_eq_true rfl)) dL_law_1292 ⟨hkc, hks⟩) hP hD hS hA (fun u H locs hP hD hS => ?_)
    obtain ⟨c9_1, rfl⟩ : ∃ zq9, zq9 = u := ⟨_, rfl⟩
    have hP : va_P G vwCl ((lwE y h a jq mh w x9 ft z o c9_1 oc x2 ad fl sd jo X fR fr f g fd fk fz o2) ++ ((kW y ad zk ok 14) ++ (kW y sd zs os 2))) H := hP
    have hD : va_D (fun q : Nat => s.heap.size ≤ q) ((lwE y h a jq mh w x9 ft z o c9_1 oc x2 ad fl sd jo X fR fr f g fd fk fz o2) ++ ((kW y ad zk ok 14) ++ (kW y sd zs os 2))) := hD
    refine lv_istore (lv' := [(5, .int (cdK 1 (s_X11_settlesAfter_k v1))), (0, .ref b), (1, .ref h), (2, .ref mh), (3, .ref jq), (4, .int iv)]) hx hb dL_law_1295 hl (by decide) rfl (fun ls hl => ?_)
    refine lv_aload_n hx hb dL_law_1297 rfl (lv_at hl 3 rfl) ?_
    refine lv_aload_n hx hb dL_law_1298 rfl (lv_at hl 1 rfl) ?_
    refine lv_iload hx hb dL_law_1299 (lv_at hl 5 rfl) ?_
    refine lv_iconst (v := 1) hx hb dL_law_1301 (by decide) ?_
    refine lv_iadd hx hb dL_law_1302 ?_
    refine va_sld hx hb hX hbl hbA hS hin1 dL_law_1303 ?_
    refine rw_i (x' := v1) hv1 ?_
    have hpm := qm0 (T := (kW y ad zk ok 14) ++ (kW y sd zs os 2)) (pr_22 y h a jq mh w x9 ft z o c9_1 oc x2 ad fl sd jo X fR fr f g fd fk fz o2)
    have hPc : va_P G vwCl [kX12 mh (w 0) (w 1) (w 2) (w 3) (w 4) (w 5) (w 6) (w 7) X, aI y (w 2) 154 f, aI y (w 3) 154 g] H := P_r (P_perm hpm hP)
    have hDc : va_D (fun q : Nat => s.heap.size ≤ q) [kX12 mh (w 0) (w 1) (w 2) (w 3) (w 4) (w 5) (w 6) (w 7) X, aI y (w 2) 154 f, aI y (w 3) 154 g] := D_r (D_perm hpm hD)
    refine cl_MP (fun u : (Nat → Int32) => ((lwE y h a jq mh w x9 ft z o c9_1 oc x2 ad fl sd jo (s_X12_settlesAfter_w0 v1 X) fR fr f u fd fk fz o2) ++ ((kW y ad zk ok 14) ++ (kW y sd zs os 2)))) hpm (fun u => qm0 (T := (kW y ad zk ok 14) ++ (kW y sd zs os 2)) (pr_22 y h a jq mh w x9 ft z o c9_1 oc x2 ad fl sd jo (s_X12_settlesAfter_w0 v1 X) fR fr f u fd fk fz o2)) (va_runV (As := [.int v1]) (rest := []) ⟨hx, hb, hml, hown, hts⟩ (c_X12_settlesAfter l G y mh v1 (w 0) (w 1) (w 2) (w 3) (w 4) (w 5) (w 6) (w 7) X f g H.size (wf_TK hW)) (cwV 1 hts gL_law_X12_settlesAfter rfl rfl rfl (by decide +kernel) ⟨Nat.le_of_ble_eq_true rfl, Nat.le_of_ble_eq_true rfl⟩) (PH_V hPc hK4 hN hDc (ci := 10) (q0 := 0) rfl rfl) rfl rfl hl.1 rfl (lv_room (Nat.le_of_ble_eq_true rfl)) dL_law_1304 ⟨hkc, hks⟩) hP hD hS hA (fun u H locs hP hD hS => ?_)
    obtain ⟨g_X12, rfl⟩ : ∃ zq9, zq9 = u := ⟨_, rfl⟩
    have hP : va_P G vwCl ((lwE y h a jq mh w x9 ft z o c9_1 oc x2 ad fl sd jo (s_X12_settlesAfter_w0 v1 X) fR fr f g_X12 fd fk fz o2) ++ ((kW y ad zk ok 14) ++ (kW y sd zs os 2))) H := hP
    have hD : va_D (fun q : Nat => s.heap.size ≤ q) ((lwE y h a jq mh w x9 ft z o c9_1 oc x2 ad fl sd jo (s_X12_settlesAfter_w0 v1 X) fR fr f g_X12 fd fk fz o2) ++ ((kW y ad zk ok 14) ++ (kW y sd zs os 2))) := hD
    obtain ⟨e2, hW2⟩ := ln_settlesAfter hW hk
    have hT : s_X12_thrown_r (s_X12_settlesAfter_w0 v1 X) = cdK 1 (s_X11_settlesAfter_k v1) := (thr_eq _).trans e2
    refine lv_istore (lv' := [(6, .int (s_X12_settlesAfter_r v1 f)), (5, .int (cdK 1 (s_X11_settlesAfter_k v1))), (0, .ref b), (1, .ref h), (2, .ref mh), (3, .ref jq), (4, .int iv)]) hx hb dL_law_1307 hl (by decide) rfl (fun ls hl => ?_)
    refine lv_aload_n hx hb dL_law_1309 rfl (lv_at hl 4 rfl) ?_
    refine cl_Ri (va_runV (As := []) (rest := []) ⟨hx, hb, hml, hown, hts⟩ (c_X12_thrown l G y mh (w 0) (w 1) (w 2) (w 3) (w 4) (w 5) (w 6) (w 7) (s_X12_settlesAfter_w0 v1 X)) (cwV 0 hts gL_law_X12_thrown rfl rfl rfl (by decide +kernel) ⟨Nat.le_of_ble_eq_true rfl, Nat.le_of_ble_eq_true rfl⟩) (PR_V (sel_P [50] (rfl : sel _ [50] = [kX12 mh (w 0) (w 1) (w 2) (w 3) (w 4) (w 5) (w 6) (w 7) (s_X12_settlesAfter_w0 v1 X)]) hP) hK4 hN (ci := 10) (q0 := 0) rfl rfl) rfl rfl hl.1 rfl (lv_room (Nat.le_of_ble_eq_true rfl)) dL_law_1310 ⟨hkc, hks⟩) ?_
    refine lv_iload hx hb dL_law_1313 (lv_at hl 1 rfl) ?_
    refine lv_icmp_eq (tgt := 1320) hx hb dL_law_1315 (by decide) (fun _ => ?_) (fun c9 => absurd hT c9)
    refine lv_iload hx hb dL_law_1320 (lv_at hl 1 rfl) ?_
    refine lv_if_ne (tgt := 1337) hx hb dL_law_1322 (by decide) (fun _ => ?_) (fun c9 => absurd c9 (cd_n hk))
    refine lv_goto (tgt := 1652) hx hb dL_law_1337 (by decide) ?_
    refine W.widen (k := kc + 1) (n := ks + 6) (by omega) (by omega) ?_
    exact KN H locs ls ⟨x9, ft, z, o, c9_1, oc, x2, ad, zk, ok, fl, sd, zs, os, jo, (s_X12_settlesAfter_w0 v1 X), fR, fr, f, g_X12, fd, fk, fz, o2, hP, hD, hW2⟩ hS (lv_sub hl [2, 3, 4, 5, 6] rfl)
set_option maxHeartbeats 2000000 in
set_option maxRecDepth 100000 in
theorem case_23 {p : Program} {l : Launch} {e : Env} {s : State} {m : MethodId} {below : List Frame} {meth : Method} {c : Code} {b L : Nat} {xs : Nat → Int32} {G : va_G} {y : Nat → ClassId} {h : Nat} {a : Nat → Nat} {jq mh : Nat} {w : Nat → Nat} {iv v1 v2 v3 : Int32} {N kc ks : Nat} {H : Heap} {locs : List Loc} {ls : Array Slot} (hfl : l.stackTraces = false) (C0 : lw_At p s m meth c b L xs) (hK : va_K G vwCl (tyJ y) s) (hN : NN s) (hTY : TY (fun q : Nat => s.heap.size ≤ q) s) (hin1 : vp_in (iv + 1) L) (hin2 : vp_in (iv + 2) L) (hin3 : vp_in (iv + 3) L) (hv1 : xs (iv + 1).toNatClampNeg = v1) (hv2 : xs (iv + 2).toNatClampNeg = v2) (hv3 : xs (iv + 3).toNatClampNeg = v3) (hkc : kc + 1 ≤ room_1.cells) (hks : ks + 6 ≤ room_1.slots) (hN9 : N + 12800 < 2147483648) (hI : LI G y h a jq mh w (fun q : Nat => s.heap.size ≤ q) N H) (hS : va_S (fun q : Nat => s.heap.size ≤ q) s.heap H locs) (hl : lv_has ls 7 [(0, .ref b), (1, .ref h), (2, .ref mh), (3, .ref jq), (4, .int iv)]) (KN : ∀ (H : Heap) (locs : List Loc) (ls : Array Slot), LI G y h a jq mh w (fun q : Nat => s.heap.size ≤ q) (N + 200) H → va_S (fun q : Nat => s.heap.size ≤ q) s.heap H locs → lv_has ls 7 [(0, .ref b), (1, .ref h), (2, .ref mh), (3, .ref jq), (4, .int iv)] → W p l e room_1 s m #[Value.ref b] below meth c H locs (kc + 1) (ks + 6) (lw_Z below #[Value.ref b] s) (F0 m 1652 ls [])) : W p l e room_1 s m #[Value.ref b] below meth c H locs kc ks (lw_Z below #[Value.ref b] s) (F0 m 1340 ls []) := by
  obtain ⟨hx, hb, hr, hml, hown, hts, hX, hbl, hlocks, hgv⟩ := C0
  have hts := fun w hh => hts w (wsL_law_in w hh)
  have hbA : ¬ (fun q : Nat => s.heap.size ≤ q) b := Nat.not_le.mpr hbl
  have hA : ∀ q : Nat, s.heap.size ≤ q → (fun q : Nat => s.heap.size ≤ q) q := fun _ h => h
  have hK4 : va_K G vwCl (tyG y) s := hK.sub (tys' := tyG y) [0, 1, 2, 3] rfl
  have hown : s.vm.findClass RL = some m.cls := hown
  have hkc0 : kc ≤ room_1.cells := Nat.le_of_succ_le hkc
  have hks0 : ks ≤ room_1.slots := Nat.le_trans (Nat.le_add_right ks 6) hks
  obtain ⟨x9, ft, z, o, zc, oc, x2, ad, zk, ok, fl, sd, zs, os, jo, X, fR, fr, f, g, fd, fk, fz, o2, hP, hD, hW⟩ := hI
  by_cases hk : (s_X11_runScript_k v1 ((v2.toInt64 <<< ((32 : Int32).toInt64 &&& 63)) ||| (v3.toInt64 &&& 4294967295))) = 0
  · refine lv_aload_n hx hb dL_law_1340 rfl (lv_at hl 1 rfl) ?_
    refine lv_aload_n hx hb dL_law_1341 rfl (lv_at hl 0 rfl) ?_
    refine lv_iload hx hb dL_law_1342 (lv_at hl 4 rfl) ?_
    refine lv_iconst (v := 1) hx hb dL_law_1344 (by decide) ?_
    refine lv_iadd hx hb dL_law_1345 ?_
    refine va_sld hx hb hX hbl hbA hS hin1 dL_law_1346 ?_
    refine rw_i (x' := v1) hv1 ?_
    refine lv_aload_n hx hb dL_law_1347 rfl (lv_at hl 0 rfl) ?_
    refine lv_iload hx hb dL_law_1348 (lv_at hl 4 rfl) ?_
    refine lv_iconst (v := 2) hx hb dL_law_1350 (by decide) ?_
    refine lv_iadd hx hb dL_law_1351 ?_
    refine va_sld hx hb hX hbl hbA hS hin2 dL_law_1352 ?_
    refine rw_i (x' := v2) hv2 ?_
    refine lv_i2l (v := v2.toInt64) hx hb dL_law_1353 rfl ?_
    refine lv_bipush (v := 32) hx hb dL_law_1354 (by decide) ?_
    refine lv_lshl (v := (v2.toInt64 <<< ((32 : Int32).toInt64 &&& 63))) hx hb dL_law_1356 rfl ?_
    refine lv_aload_n hx hb dL_law_1357 rfl (lv_at hl 0 rfl) ?_
    refine lv_iload hx hb dL_law_1358 (lv_at hl 4 rfl) ?_
    refine lv_iconst (v := 3) hx hb dL_law_1360 (by decide) ?_
    refine lv_iadd hx hb dL_law_1361 ?_
    refine va_sld hx hb hX hbl hbA hS hin3 dL_law_1362 ?_
    refine rw_i (x' := v3) hv3 ?_
    refine lv_i2l (v := v3.toInt64) hx hb dL_law_1363 rfl ?_
    refine lv_ldc2 (v := 4294967295) hx hb hown (hts (.constantLong RL 177 4294967295) (by decide +kernel)) dL_law_1364 ?_
    refine lv_land hx hb dL_law_1367 ?_
    refine lv_lor hx hb dL_law_1368 ?_
    refine lv_aload_n hx hb dL_law_1369 rfl (lv_at hl 3 rfl) ?_
    have hpm := qm0 (T := (kW y ad zk ok 14) ++ (kW y sd zs os 2)) (pr_21 y h a jq mh w x9 ft z o zc oc x2 ad fl sd jo X fR fr f g fd fk fz o2)
    have hPc : va_P G vwCl ([aJ y jq 1 jo] ++ [kX11 h (a 0) (a 2) (a 16) (a 30) (a 44) (a 46) Z0, kX7 (a 16) (a 17) (a 19) (a 20) (a 26) (a 28) (z 0), kX3 (a 17) (a 18) (z 1), aI y (a 18) 10 (z 2), kX1 (a 19) (z 3), kX8 (a 20) (a 21) (a 22) (a 23) (a 24) (a 25) (z 4), aI y (a 21) 20 (z 5), aI y (a 22) 20 (z 6), aI y (a 23) 20 (z 7), aI y (a 24) 20 (z 8), aI y (a 25) 20 o, kX10 (a 26) (a 27) (z 9), aI y (a 27) 32 (z 10), kX0 (a 28) (a 29) (z 11), aI y (a 29) 3 (z 12), kX7 (a 30) (a 31) (a 33) (a 34) (a 40) (a 42) (zc 0), kX3 (a 31) (a 32) (zc 1), aI y (a 32) 10 (zc 2), kX1 (a 33) (zc 3), kX8 (a 34) (a 35) (a 36) (a 37) (a 38) (a 39) (zc 4), aI y (a 35) 20 (zc 5), aI y (a 36) 20 (zc 6), aI y (a 37) 20 (zc 7), aI y (a 38) 20 (zc 8), aI y (a 39) 20 oc, kX10 (a 40) (a 41) (zc 9), aI y (a 41) 32 (zc 10), kX0 (a 42) (a 43) (zc 11), aI y (a 43) 3 (zc 12)]) H := P_r (P_perm hpm hP)
    have hDc : va_D (fun q : Nat => s.heap.size ≤ q) ([aJ y jq 1 jo] ++ [kX11 h (a 0) (a 2) (a 16) (a 30) (a 44) (a 46) Z0, kX7 (a 16) (a 17) (a 19) (a 20) (a 26) (a 28) (z 0), kX3 (a 17) (a 18) (z 1), aI y (a 18) 10 (z 2), kX1 (a 19) (z 3), kX8 (a 20) (a 21) (a 22) (a 23) (a 24) (a 25) (z 4), aI y (a 21) 20 (z 5), aI y (a 22) 20 (z 6), aI y (a 23) 20 (z 7), aI y (a 24) 20 (z 8), aI y (a 25) 20 o, kX10 (a 26) (a 27) (z 9), aI y (a 27) 32 (z 10), kX0 (a 28) (a 29) (z 11), aI y (a 29) 3 (z 12), kX7 (a 30) (a 31) (a 33) (a 34) (a 40) (a 42) (zc 0), kX3 (a 31) (a 32) (zc 1), aI y (a 32) 10 (zc 2), kX1 (a 33) (zc 3), kX8 (a 34) (a 35) (a 36) (a 37) (a 38) (a 39) (zc 4), aI y (a 35) 20 (zc 5), aI y (a 36) 20 (zc 6), aI y (a 37) 20 (zc 7), aI y (a 38) 20 (zc 8), aI y (a 39) 20 oc, kX10 (a 40) (a 41) (zc 9), aI y (a 41) 32 (zc 10), kX0 (a 42) (a 43) (zc 11), aI y (a 43) 3 (zc 12)]) := D_r (D_perm hpm hD)
    have hFc : ∀ q, va_A ([aJ y jq 1 jo] ++ [kX11 h (a 0) (a 2) (a 16) (a 30) (a 44) (a 46) Z0, kX7 (a 16) (a 17) (a 19) (a 20) (a 26) (a 28) (z 0), kX3 (a 17) (a 18) (z 1), aI y (a 18) 10 (z 2), kX1 (a 19) (z 3), kX8 (a 20) (a 21) (a 22) (a 23) (a 24) (a 25) (z 4), aI y (a 21) 20 (z 5), aI y (a 22) 20 (z 6), aI y (a 23) 20 (z 7), aI y (a 24) 20 (z 8), aI y (a 25) 20 o, kX10 (a 26) (a 27) (z 9), aI y (a 27) 32 (z 10), kX0 (a 28) (a 29) (z 11), aI y (a 29) 3 (z 12), kX7 (a 30) (a 31) (a 33) (a 34) (a 40) (a 42) (zc 0), kX3 (a 31) (a 32) (zc 1), aI y (a 32) 10 (zc 2), kX1 (a 33) (zc 3), kX8 (a 34) (a 35) (a 36) (a 37) (a 38) (a 39) (zc 4), aI y (a 35) 20 (zc 5), aI y (a 36) 20 (zc 6), aI y (a 37) 20 (zc 7), aI y (a 38) 20 (zc 8), aI y (a 39) 20 oc, kX10 (a 40) (a 41) (zc 9), aI y (a 41) 32 (zc 10), kX0 (a 42) (a 43) (zc 11), aI y (a 43) 3 (zc 12)]) H.size q → s.heap.size ≤ q := F_r (D_perm hpm hD) hS hA
    refine cl_LP (fun u : (Nat → Int32) × (Nat → Nat → Int32) => ((lwE y h a jq mh w x9 ft z o u.2 u.1 x2 ad fl sd (vp_updL jo 0 (s_X11_runScript_r v1 ((v2.toInt64 <<< ((32 : Int32).toInt64 &&& 63)) ||| (v3.toInt64 &&& 4294967295)) z).toInt64) X fR fr f g fd fk fz o2) ++ ((kW y ad zk ok 14) ++ (kW y sd zs os 2)))) hpm (fun u => qm0 (T := (kW y ad zk ok 14) ++ (kW y sd zs os 2)) (pr_21 y h a jq mh w x9 ft z o u.2 u.1 x2 ad fl sd (vp_updL jo 0 (s_X11_runScript_r v1 ((v2.toInt64 <<< ((32 : Int32).toInt64 &&& 63)) ||| (v3.toInt64 &&& 4294967295)) z).toInt64) X fR fr f g fd fk fz o2)) (vx_runSX (As := [.ref h, .int v1, .long ((v2.toInt64 <<< ((32 : Int32).toInt64 &&& 63)) ||| (v3.toInt64 &&& 4294967295)), .ref jq]) (rest := []) ⟨hx, hb, hml, hown, hts⟩ (c_L_runScript_y l G y h v1 ((v2.toInt64 <<< ((32 : Int32).toInt64 &&& 63)) ||| (v3.toInt64 &&& 4294967295)) (a 0) (a 2) (a 16) (a 30) (a 44) (a 46) (a 17) (a 19) (a 20) (a 26) (a 28) z (a 18) (a 21) (a 22) (a 23) (a 24) (a 25) o (a 27) (a 29) (a 31) (a 33) (a 34) (a 40) (a 42) zc (a 32) (a 35) (a 36) (a 37) (a 38) (a 39) oc (a 41) (a 43) jq jo H.size (wf_b hW).1 (wf_b hW).2.1 (wf_b hW).2.2 (WR.tc hW.2.1) hk hfl) (vx_cwSW 4 hts gL_law_L_runScript rfl rfl rfl (by decide +kernel) ⟨Nat.le_of_ble_eq_true rfl, Nat.le_of_ble_eq_true rfl⟩) (PHL_S hPc hK hN hDc hTY hS hFc) rfl rfl hl.1 rfl (lv_room (Nat.le_of_ble_eq_true rfl)) dL_law_1370 ⟨hkc, hks⟩) hP hD hS hA (fun u H locs hP hD hS => ?_)
    obtain ⟨oc_1, c9_1⟩ := u
    have hP : va_P G vwCl ((lwE y h a jq mh w x9 ft z o c9_1 oc_1 x2 ad fl sd (vp_updL jo 0 (s_X11_runScript_r v1 ((v2.toInt64 <<< ((32 : Int32).toInt64 &&& 63)) ||| (v3.toInt64 &&& 4294967295)) z).toInt64) X fR fr f g fd fk fz o2) ++ ((kW y ad zk ok 14) ++ (kW y sd zs os 2))) H := hP
    have hD : va_D (fun q : Nat => s.heap.size ≤ q) ((lwE y h a jq mh w x9 ft z o c9_1 oc_1 x2 ad fl sd (vp_updL jo 0 (s_X11_runScript_r v1 ((v2.toInt64 <<< ((32 : Int32).toInt64 &&& 63)) ||| (v3.toInt64 &&& 4294967295)) z).toInt64) X fR fr f g fd fk fz o2) ++ ((kW y ad zk ok 14) ++ (kW y sd zs os 2))) := hD
    refine lv_istore (lv' := [(5, .int 0), (0, .ref b), (1, .ref h), (2, .ref mh), (3, .ref jq), (4, .int iv)]) hx hb dL_law_1373 hl (by decide) rfl (fun ls hl => ?_)
    refine lv_aload_n hx hb dL_law_1375 rfl (lv_at hl 3 rfl) ?_
    refine lv_aload_n hx hb dL_law_1376 rfl (lv_at hl 1 rfl) ?_
    refine lv_iload hx hb dL_law_1377 (lv_at hl 5 rfl) ?_
    refine lv_iconst (v := 1) hx hb dL_law_1379 (by decide) ?_
    refine lv_iadd hx hb dL_law_1380 ?_
    refine va_sld hx hb hX hbl hbA hS hin1 dL_law_1381 ?_
    refine rw_i (x' := v1) hv1 ?_
    refine lv_aload_n hx hb dL_law_1382 rfl (lv_at hl 1 rfl) ?_
    refine lv_iload hx hb dL_law_1383 (lv_at hl 5 rfl) ?_
    refine lv_iconst (v := 2) hx hb dL_law_1385 (by decide) ?_
    refine lv_iadd hx hb dL_law_1386 ?_
    refine va_sld hx hb hX hbl hbA hS hin2 dL_law_1387 ?_
    refine rw_i (x' := v2) hv2 ?_
    refine lv_i2l (v := v2.toInt64) hx hb dL_law_1388 rfl ?_
    refine lv_bipush (v := 32) hx hb dL_law_1389 (by decide) ?_
    refine lv_lshl (v := (v2.toInt64 <<< ((32 : Int32).toInt64 &&& 63))) hx hb dL_law_1391 rfl ?_
    refine lv_aload_n hx hb dL_law_1392 rfl (lv_at hl 1 rfl) ?_
    refine lv_iload hx hb dL_law_1393 (lv_at hl 5 rfl) ?_
    refine lv_iconst (v := 3) hx hb dL_law_1395 (by decide) ?_
    refine lv_iadd hx hb dL_law_1396 ?_
    refine va_sld hx hb hX hbl hbA hS hin3 dL_law_1397 ?_
    refine rw_i (x' := v3) hv3 ?_
    refine lv_i2l (v := v3.toInt64) hx hb dL_law_1398 rfl ?_
    refine lv_ldc2 (v := 4294967295) hx hb hown (hts (.constantLong RL 177 4294967295) (by decide +kernel)) dL_law_1399 ?_
    refine lv_land hx hb dL_law_1402 ?_
    refine lv_lor hx hb dL_law_1403 ?_
    have hpm := qm0 (T := (kW y ad zk ok 14) ++ (kW y sd zs os 2)) (pr_20 y h a jq mh w x9 ft z o c9_1 oc_1 x2 ad fl sd (vp_updL jo 0 (s_X11_runScript_r v1 ((v2.toInt64 <<< ((32 : Int32).toInt64 &&& 63)) ||| (v3.toInt64 &&& 4294967295)) z).toInt64) X fR fr f g fd fk fz o2)
    have hPc : va_P G vwCl [kX12 mh (w 0) (w 1) (w 2) (w 3) (w 4) (w 5) (w 6) (w 7) X, aI y (w 2) 154 f, aI y (w 3) 154 g, aI y (w 7) 20 o2] H := P_r (P_perm hpm hP)
    have hDc : va_D (fun q : Nat => s.heap.size ≤ q) [kX12 mh (w 0) (w 1) (w 2) (w 3) (w 4) (w 5) (w 6) (w 7) X, aI y (w 2) 154 f, aI y (w 3) 154 g, aI y (w 7) 20 o2] := D_r (D_perm hpm hD)
    refine cl_MP (fun u : (Nat → Int32) × (Nat → Int32) => ((lwE y h a jq mh w x9 ft z o c9_1 oc_1 x2 ad fl sd (vp_updL jo 0 (s_X11_runScript_r v1 ((v2.toInt64 <<< ((32 : Int32).toInt64 &&& 63)) ||| (v3.toInt64 &&& 4294967295)) z).toInt64) (s_X12_runScript_w0 v1 ((v2.toInt64 <<< ((32 : Int32).toInt64 &&& 63)) ||| (v3.toInt64 &&& 4294967295)) X) fR fr f u.1 fd fk fz u.2) ++ ((kW y ad zk ok 14) ++ (kW y sd zs os 2)))) hpm (fun u => qm0 (T := (kW y ad zk ok 14) ++ (kW y sd zs os 2)) (pr_20 y h a jq mh w x9 ft z o c9_1 oc_1 x2 ad fl sd (vp_updL jo 0 (s_X11_runScript_r v1 ((v2.toInt64 <<< ((32 : Int32).toInt64 &&& 63)) ||| (v3.toInt64 &&& 4294967295)) z).toInt64) (s_X12_runScript_w0 v1 ((v2.toInt64 <<< ((32 : Int32).toInt64 &&& 63)) ||| (v3.toInt64 &&& 4294967295)) X) fR fr f u.1 fd fk fz u.2)) (va_runV (As := [.int v1, .long ((v2.toInt64 <<< ((32 : Int32).toInt64 &&& 63)) ||| (v3.toInt64 &&& 4294967295))]) (rest := []) ⟨hx, hb, hml, hown, hts⟩ (c_X12_runScript l G y mh v1 ((v2.toInt64 <<< ((32 : Int32).toInt64 &&& 63)) ||| (v3.toInt64 &&& 4294967295)) (w 0) (w 1) (w 2) (w 3) (w 4) (w 5) (w 6) (w 7) X f g o2 H.size (wf_SM hW)) (cwV 2 hts gL_law_X12_runScript rfl rfl rfl (by decide +kernel) ⟨Nat.le_of_ble_eq_true rfl, Nat.le_of_ble_eq_true rfl⟩) (PH_V hPc hK4 hN hDc (ci := 10) (q0 := 0) rfl rfl) rfl rfl hl.1 rfl (lv_room (Nat.le_of_ble_eq_true rfl)) dL_law_1404 ⟨hkc, hks⟩) hP hD hS hA (fun u H locs hP hD hS => ?_)
    obtain ⟨g_X12, o_X12⟩ := u
    have hP : va_P G vwCl ((lwE y h a jq mh w x9 ft z o c9_1 oc_1 x2 ad fl sd (vp_updL jo 0 (s_X11_runScript_r v1 ((v2.toInt64 <<< ((32 : Int32).toInt64 &&& 63)) ||| (v3.toInt64 &&& 4294967295)) z).toInt64) (s_X12_runScript_w0 v1 ((v2.toInt64 <<< ((32 : Int32).toInt64 &&& 63)) ||| (v3.toInt64 &&& 4294967295)) X) fR fr f g_X12 fd fk fz o_X12) ++ ((kW y ad zk ok 14) ++ (kW y sd zs os 2))) H := hP
    have hD : va_D (fun q : Nat => s.heap.size ≤ q) ((lwE y h a jq mh w x9 ft z o c9_1 oc_1 x2 ad fl sd (vp_updL jo 0 (s_X11_runScript_r v1 ((v2.toInt64 <<< ((32 : Int32).toInt64 &&& 63)) ||| (v3.toInt64 &&& 4294967295)) z).toInt64) (s_X12_runScript_w0 v1 ((v2.toInt64 <<< ((32 : Int32).toInt64 &&& 63)) ||| (v3.toInt64 &&& 4294967295)) X) fR fr f g_X12 fd fk fz o_X12) ++ ((kW y ad zk ok 14) ++ (kW y sd zs os 2))) := hD
    obtain ⟨e1, e2, hW2⟩ := ly_runScript hW hN9 hk
    have hT : s_X12_thrown_r (s_X12_runScript_w0 v1 ((v2.toInt64 <<< ((32 : Int32).toInt64 &&& 63)) ||| (v3.toInt64 &&& 4294967295)) X) = 0 := (thr_eq _).trans e2
    refine lv_istore (lv' := [(6, .int (s_X12_runScript_r v1 ((v2.toInt64 <<< ((32 : Int32).toInt64 &&& 63)) ||| (v3.toInt64 &&& 4294967295)) f)), (5, .int 0), (0, .ref b), (1, .ref h), (2, .ref mh), (3, .ref jq), (4, .int iv)]) hx hb dL_law_1407 hl (by decide) rfl (fun ls hl => ?_)
    refine lv_aload_n hx hb dL_law_1409 rfl (lv_at hl 4 rfl) ?_
    refine cl_Ri (va_runV (As := []) (rest := []) ⟨hx, hb, hml, hown, hts⟩ (c_X12_thrown l G y mh (w 0) (w 1) (w 2) (w 3) (w 4) (w 5) (w 6) (w 7) (s_X12_runScript_w0 v1 ((v2.toInt64 <<< ((32 : Int32).toInt64 &&& 63)) ||| (v3.toInt64 &&& 4294967295)) X)) (cwV 0 hts gL_law_X12_thrown rfl rfl rfl (by decide +kernel) ⟨Nat.le_of_ble_eq_true rfl, Nat.le_of_ble_eq_true rfl⟩) (PR_V (sel_P [50] (rfl : sel _ [50] = [kX12 mh (w 0) (w 1) (w 2) (w 3) (w 4) (w 5) (w 6) (w 7) (s_X12_runScript_w0 v1 ((v2.toInt64 <<< ((32 : Int32).toInt64 &&& 63)) ||| (v3.toInt64 &&& 4294967295)) X)]) hP) hK4 hN (ci := 10) (q0 := 0) rfl rfl) rfl rfl hl.1 rfl (lv_room (Nat.le_of_ble_eq_true rfl)) dL_law_1410 ⟨hkc, hks⟩) ?_
    refine lv_iload hx hb dL_law_1413 (lv_at hl 1 rfl) ?_
    refine lv_icmp_eq (tgt := 1420) hx hb dL_law_1415 (by decide) (fun _ => ?_) (fun c9 => absurd hT c9)
    refine lv_iload hx hb dL_law_1420 (lv_at hl 1 rfl) ?_
    refine lv_if_ne (tgt := 1437) hx hb dL_law_1422 (by decide) (fun c9 => absurd rfl c9) (fun _ => ?_)
    refine lv_aload_n hx hb dL_law_1425 rfl (lv_at hl 5 rfl) ?_
    refine lv_iconst (v := 0) hx hb dL_law_1426 (by decide) ?_
    refine al_o hx hb hK 59 hP rfl dL_law_1427 ?_
    refine lv_iload hx hb dL_law_1428 (lv_at hl 0 rfl) ?_
    refine lv_i2l (v := (s_X12_runScript_r v1 ((v2.toInt64 <<< ((32 : Int32).toInt64 &&& 63)) ||| (v3.toInt64 &&& 4294967295)) f).toInt64) hx hb dL_law_1430 rfl ?_
    refine W.lcmp hx hb dL_law_1431 ?_
    refine lv_if_eq (tgt := 1437) hx hb dL_law_1432 (by decide) (fun _ => ?_) (fun c9 => absurd (lg_o e1) c9)
    refine lv_goto (tgt := 1652) hx hb dL_law_1437 (by decide) ?_
    refine W.widen (k := kc + 1) (n := ks + 6) (by omega) (by omega) ?_
    exact KN H locs ls ⟨x9, ft, z, o, c9_1, oc_1, x2, ad, zk, ok, fl, sd, zs, os, (vp_updL jo 0 (s_X11_runScript_r v1 ((v2.toInt64 <<< ((32 : Int32).toInt64 &&& 63)) ||| (v3.toInt64 &&& 4294967295)) z).toInt64), (s_X12_runScript_w0 v1 ((v2.toInt64 <<< ((32 : Int32).toInt64 &&& 63)) ||| (v3.toInt64 &&& 4294967295)) X), fR, fr, f, g_X12, fd, fk, fz, o_X12, hP, hD, hW2⟩ hS (lv_sub hl [2, 3, 4, 5, 6] rfl)
  · refine lv_aload_n hx hb dL_law_1340 rfl (lv_at hl 1 rfl) ?_
    refine lv_aload_n hx hb dL_law_1341 rfl (lv_at hl 0 rfl) ?_
    refine lv_iload hx hb dL_law_1342 (lv_at hl 4 rfl) ?_
    refine lv_iconst (v := 1) hx hb dL_law_1344 (by decide) ?_
    refine lv_iadd hx hb dL_law_1345 ?_
    refine va_sld hx hb hX hbl hbA hS hin1 dL_law_1346 ?_
    refine rw_i (x' := v1) hv1 ?_
    refine lv_aload_n hx hb dL_law_1347 rfl (lv_at hl 0 rfl) ?_
    refine lv_iload hx hb dL_law_1348 (lv_at hl 4 rfl) ?_
    refine lv_iconst (v := 2) hx hb dL_law_1350 (by decide) ?_
    refine lv_iadd hx hb dL_law_1351 ?_
    refine va_sld hx hb hX hbl hbA hS hin2 dL_law_1352 ?_
    refine rw_i (x' := v2) hv2 ?_
    refine lv_i2l (v := v2.toInt64) hx hb dL_law_1353 rfl ?_
    refine lv_bipush (v := 32) hx hb dL_law_1354 (by decide) ?_
    refine lv_lshl (v := (v2.toInt64 <<< ((32 : Int32).toInt64 &&& 63))) hx hb dL_law_1356 rfl ?_
    refine lv_aload_n hx hb dL_law_1357 rfl (lv_at hl 0 rfl) ?_
    refine lv_iload hx hb dL_law_1358 (lv_at hl 4 rfl) ?_
    refine lv_iconst (v := 3) hx hb dL_law_1360 (by decide) ?_
    refine lv_iadd hx hb dL_law_1361 ?_
    refine va_sld hx hb hX hbl hbA hS hin3 dL_law_1362 ?_
    refine rw_i (x' := v3) hv3 ?_
    refine lv_i2l (v := v3.toInt64) hx hb dL_law_1363 rfl ?_
    refine lv_ldc2 (v := 4294967295) hx hb hown (hts (.constantLong RL 177 4294967295) (by decide +kernel)) dL_law_1364 ?_
    refine lv_land hx hb dL_law_1367 ?_
    refine lv_lor hx hb dL_law_1368 ?_
    refine lv_aload_n hx hb dL_law_1369 rfl (lv_at hl 3 rfl) ?_
    have hpm := qm0 (T := (kW y ad zk ok 14) ++ (kW y sd zs os 2)) (pr_21 y h a jq mh w x9 ft z o zc oc x2 ad fl sd jo X fR fr f g fd fk fz o2)
    have hPc : va_P G vwCl ([aJ y jq 1 jo] ++ [kX11 h (a 0) (a 2) (a 16) (a 30) (a 44) (a 46) Z0, kX7 (a 16) (a 17) (a 19) (a 20) (a 26) (a 28) (z 0), kX3 (a 17) (a 18) (z 1), aI y (a 18) 10 (z 2), kX1 (a 19) (z 3), kX8 (a 20) (a 21) (a 22) (a 23) (a 24) (a 25) (z 4), aI y (a 21) 20 (z 5), aI y (a 22) 20 (z 6), aI y (a 23) 20 (z 7), aI y (a 24) 20 (z 8), aI y (a 25) 20 o, kX10 (a 26) (a 27) (z 9), aI y (a 27) 32 (z 10), kX0 (a 28) (a 29) (z 11), aI y (a 29) 3 (z 12), kX7 (a 30) (a 31) (a 33) (a 34) (a 40) (a 42) (zc 0), kX3 (a 31) (a 32) (zc 1), aI y (a 32) 10 (zc 2), kX1 (a 33) (zc 3), kX8 (a 34) (a 35) (a 36) (a 37) (a 38) (a 39) (zc 4), aI y (a 35) 20 (zc 5), aI y (a 36) 20 (zc 6), aI y (a 37) 20 (zc 7), aI y (a 38) 20 (zc 8), aI y (a 39) 20 oc, kX10 (a 40) (a 41) (zc 9), aI y (a 41) 32 (zc 10), kX0 (a 42) (a 43) (zc 11), aI y (a 43) 3 (zc 12)]) H := P_r (P_perm hpm hP)
    have hDc : va_D (fun q : Nat => s.heap.size ≤ q) ([aJ y jq 1 jo] ++ [kX11 h (a 0) (a 2) (a 16) (a 30) (a 44) (a 46) Z0, kX7 (a 16) (a 17) (a 19) (a 20) (a 26) (a 28) (z 0), kX3 (a 17) (a 18) (z 1), aI y (a 18) 10 (z 2), kX1 (a 19) (z 3), kX8 (a 20) (a 21) (a 22) (a 23) (a 24) (a 25) (z 4), aI y (a 21) 20 (z 5), aI y (a 22) 20 (z 6), aI y (a 23) 20 (z 7), aI y (a 24) 20 (z 8), aI y (a 25) 20 o, kX10 (a 26) (a 27) (z 9), aI y (a 27) 32 (z 10), kX0 (a 28) (a 29) (z 11), aI y (a 29) 3 (z 12), kX7 (a 30) (a 31) (a 33) (a 34) (a 40) (a 42) (zc 0), kX3 (a 31) (a 32) (zc 1), aI y (a 32) 10 (zc 2), kX1 (a 33) (zc 3), kX8 (a 34) (a 35) (a 36) (a 37) (a 38) (a 39) (zc 4), aI y (a 35) 20 (zc 5), aI y (a 36) 20 (zc 6), aI y (a 37) 20 (zc 7), aI y (a 38) 20 (zc 8), aI y (a 39) 20 oc, kX10 (a 40) (a 41) (zc 9), aI y (a 41) 32 (zc 10), kX0 (a 42) (a 43) (zc 11), aI y (a 43) 3 (zc 12)]) := D_r (D_perm hpm hD)
    have hFc : ∀ q, va_A ([aJ y jq 1 jo] ++ [kX11 h (a 0) (a 2) (a 16) (a 30) (a 44) (a 46) Z0, kX7 (a 16) (a 17) (a 19) (a 20) (a 26) (a 28) (z 0), kX3 (a 17) (a 18) (z 1), aI y (a 18) 10 (z 2), kX1 (a 19) (z 3), kX8 (a 20) (a 21) (a 22) (a 23) (a 24) (a 25) (z 4), aI y (a 21) 20 (z 5), aI y (a 22) 20 (z 6), aI y (a 23) 20 (z 7), aI y (a 24) 20 (z 8), aI y (a 25) 20 o, kX10 (a 26) (a 27) (z 9), aI y (a 27) 32 (z 10), kX0 (a 28) (a 29) (z 11), aI y (a 29) 3 (z 12), kX7 (a 30) (a 31) (a 33) (a 34) (a 40) (a 42) (zc 0), kX3 (a 31) (a 32) (zc 1), aI y (a 32) 10 (zc 2), kX1 (a 33) (zc 3), kX8 (a 34) (a 35) (a 36) (a 37) (a 38) (a 39) (zc 4), aI y (a 35) 20 (zc 5), aI y (a 36) 20 (zc 6), aI y (a 37) 20 (zc 7), aI y (a 38) 20 (zc 8), aI y (a 39) 20 oc, kX10 (a 40) (a 41) (zc 9), aI y (a 41) 32 (zc 10), kX0 (a 42) (a 43) (zc 11), aI y (a 43) 3 (zc 12)]) H.size q → s.heap.size ≤ q := F_r (D_perm hpm hD) hS hA
    refine cl_LP (fun u : (Nat → Int32) × (Nat → Nat → Int32) => ((lwE y h a jq mh w x9 ft z o u.2 u.1 x2 ad fl sd jo X fR fr f g fd fk fz o2) ++ ((kW y ad zk ok 14) ++ (kW y sd zs os 2)))) hpm (fun u => qm0 (T := (kW y ad zk ok 14) ++ (kW y sd zs os 2)) (pr_21 y h a jq mh w x9 ft z o u.2 u.1 x2 ad fl sd jo X fR fr f g fd fk fz o2)) (vx_runSX (As := [.ref h, .int v1, .long ((v2.toInt64 <<< ((32 : Int32).toInt64 &&& 63)) ||| (v3.toInt64 &&& 4294967295)), .ref jq]) (rest := []) ⟨hx, hb, hml, hown, hts⟩ (c_L_runScript_n l G y h v1 ((v2.toInt64 <<< ((32 : Int32).toInt64 &&& 63)) ||| (v3.toInt64 &&& 4294967295)) (a 0) (a 2) (a 16) (a 30) (a 44) (a 46) (a 17) (a 19) (a 20) (a 26) (a 28) z (a 18) (a 21) (a 22) (a 23) (a 24) (a 25) o (a 27) (a 29) (a 31) (a 33) (a 34) (a 40) (a 42) zc (a 32) (a 35) (a 36) (a 37) (a 38) (a 39) oc (a 41) (a 43) jq jo H.size (wf_b hW).1 (wf_b hW).2.1 (wf_b hW).2.2 (WR.tc hW.2.1) hk hfl) (vx_cwSW 4 hts gL_law_L_runScript rfl rfl rfl (by decide +kernel) ⟨Nat.le_of_ble_eq_true rfl, Nat.le_of_ble_eq_true rfl⟩) (PHL_S hPc hK hN hDc hTY hS hFc) rfl rfl hl.1 rfl (lv_room (Nat.le_of_ble_eq_true rfl)) dL_law_1370 ⟨hkc, hks⟩) hP hD hS hA (fun u H locs hP hD hS => ?_)
    obtain ⟨oc_1, c9_1⟩ := u
    have hP : va_P G vwCl ((lwE y h a jq mh w x9 ft z o c9_1 oc_1 x2 ad fl sd jo X fR fr f g fd fk fz o2) ++ ((kW y ad zk ok 14) ++ (kW y sd zs os 2))) H := hP
    have hD : va_D (fun q : Nat => s.heap.size ≤ q) ((lwE y h a jq mh w x9 ft z o c9_1 oc_1 x2 ad fl sd jo X fR fr f g fd fk fz o2) ++ ((kW y ad zk ok 14) ++ (kW y sd zs os 2))) := hD
    refine lv_istore (lv' := [(5, .int (cdK 1 (s_X11_runScript_k v1 ((v2.toInt64 <<< ((32 : Int32).toInt64 &&& 63)) ||| (v3.toInt64 &&& 4294967295))))), (0, .ref b), (1, .ref h), (2, .ref mh), (3, .ref jq), (4, .int iv)]) hx hb dL_law_1373 hl (by decide) rfl (fun ls hl => ?_)
    refine lv_aload_n hx hb dL_law_1375 rfl (lv_at hl 3 rfl) ?_
    refine lv_aload_n hx hb dL_law_1376 rfl (lv_at hl 1 rfl) ?_
    refine lv_iload hx hb dL_law_1377 (lv_at hl 5 rfl) ?_
    refine lv_iconst (v := 1) hx hb dL_law_1379 (by decide) ?_
    refine lv_iadd hx hb dL_law_1380 ?_
    refine va_sld hx hb hX hbl hbA hS hin1 dL_law_1381 ?_
    refine rw_i (x' := v1) hv1 ?_
    refine lv_aload_n hx hb dL_law_1382 rfl (lv_at hl 1 rfl) ?_
    refine lv_iload hx hb dL_law_1383 (lv_at hl 5 rfl) ?_
    refine lv_iconst (v := 2) hx hb dL_law_1385 (by decide) ?_
    refine lv_iadd hx hb dL_law_1386 ?_
    refine va_sld hx hb hX hbl hbA hS hin2 dL_law_1387 ?_
    refine rw_i (x' := v2) hv2 ?_
    refine lv_i2l (v := v2.toInt64) hx hb dL_law_1388 rfl ?_
    refine lv_bipush (v := 32) hx hb dL_law_1389 (by decide) ?_
    refine lv_lshl (v := (v2.toInt64 <<< ((32 : Int32).toInt64 &&& 63))) hx hb dL_law_1391 rfl ?_
    refine lv_aload_n hx hb dL_law_1392 rfl (lv_at hl 1 rfl) ?_
    refine lv_iload hx hb dL_law_1393 (lv_at hl 5 rfl) ?_
    refine lv_iconst (v := 3) hx hb dL_law_1395 (by decide) ?_
    refine lv_iadd hx hb dL_law_1396 ?_
    refine va_sld hx hb hX hbl hbA hS hin3 dL_law_1397 ?_
    refine rw_i (x' := v3) hv3 ?_
    refine lv_i2l (v := v3.toInt64) hx hb dL_law_1398 rfl ?_
    refine lv_ldc2 (v := 4294967295) hx hb hown (hts (.constantLong RL 177 4294967295) (by decide +kernel)) dL_law_1399 ?_
    refine lv_land hx hb dL_law_1402 ?_
    refine lv_lor hx hb dL_law_1403 ?_
    have hpm := qm0 (T := (kW y ad zk ok 14) ++ (kW y sd zs os 2)) (pr_20 y h a jq mh w x9 ft z o c9_1 oc_1 x2 ad fl sd jo X fR fr f g fd fk fz o2)
    have hPc : va_P G vwCl [kX12 mh (w 0) (w 1) (w 2) (w 3) (w 4) (w 5) (w 6) (w 7) X, aI y (w 2) 154 f, aI y (w 3) 154 g, aI y (w 7) 20 o2] H := P_r (P_perm hpm hP)
    have hDc : va_D (fun q : Nat => s.heap.size ≤ q) [kX12 mh (w 0) (w 1) (w 2) (w 3) (w 4) (w 5) (w 6) (w 7) X, aI y (w 2) 154 f, aI y (w 3) 154 g, aI y (w 7) 20 o2] := D_r (D_perm hpm hD)
    refine cl_MP (fun u : (Nat → Int32) × (Nat → Int32) => ((lwE y h a jq mh w x9 ft z o c9_1 oc_1 x2 ad fl sd jo (s_X12_runScript_w0 v1 ((v2.toInt64 <<< ((32 : Int32).toInt64 &&& 63)) ||| (v3.toInt64 &&& 4294967295)) X) fR fr f u.1 fd fk fz u.2) ++ ((kW y ad zk ok 14) ++ (kW y sd zs os 2)))) hpm (fun u => qm0 (T := (kW y ad zk ok 14) ++ (kW y sd zs os 2)) (pr_20 y h a jq mh w x9 ft z o c9_1 oc_1 x2 ad fl sd jo (s_X12_runScript_w0 v1 ((v2.toInt64 <<< ((32 : Int32).toInt64 &&& 63)) ||| (v3.toInt64 &&& 4294967295)) X) fR fr f u.1 fd fk fz u.2)) (va_runV (As := [.int v1, .long ((v2.toInt64 <<< ((32 : Int32).toInt64 &&& 63)) ||| (v3.toInt64 &&& 4294967295))]) (rest := []) ⟨hx, hb, hml, hown, hts⟩ (c_X12_runScript l G y mh v1 ((v2.toInt64 <<< ((32 : Int32).toInt64 &&& 63)) ||| (v3.toInt64 &&& 4294967295)) (w 0) (w 1) (w 2) (w 3) (w 4) (w 5) (w 6) (w 7) X f g o2 H.size (wf_SM hW)) (cwV 2 hts gL_law_X12_runScript rfl rfl rfl (by decide +kernel) ⟨Nat.le_of_ble_eq_true rfl, Nat.le_of_ble_eq_true rfl⟩) (PH_V hPc hK4 hN hDc (ci := 10) (q0 := 0) rfl rfl) rfl rfl hl.1 rfl (lv_room (Nat.le_of_ble_eq_true rfl)) dL_law_1404 ⟨hkc, hks⟩) hP hD hS hA (fun u H locs hP hD hS => ?_)
    obtain ⟨g_X12, o_X12⟩ := u
    have hP : va_P G vwCl ((lwE y h a jq mh w x9 ft z o c9_1 oc_1 x2 ad fl sd jo (s_X12_runScript_w0 v1 ((v2.toInt64 <<< ((32 : Int32).toInt64 &&& 63)) ||| (v3.toInt64 &&& 4294967295)) X) fR fr f g_X12 fd fk fz o_X12) ++ ((kW y ad zk ok 14) ++ (kW y sd zs os 2))) H := hP
    have hD : va_D (fun q : Nat => s.heap.size ≤ q) ((lwE y h a jq mh w x9 ft z o c9_1 oc_1 x2 ad fl sd jo (s_X12_runScript_w0 v1 ((v2.toInt64 <<< ((32 : Int32).toInt64 &&& 63)) ||| (v3.toInt64 &&& 4294967295)) X) fR fr f g_X12 fd fk fz o_X12) ++ ((kW y ad zk ok 14) ++ (kW y sd zs os 2))) := hD
    obtain ⟨e2, hW2⟩ := ln_runScript hW hk
    have hT : s_X12_thrown_r (s_X12_runScript_w0 v1 ((v2.toInt64 <<< ((32 : Int32).toInt64 &&& 63)) ||| (v3.toInt64 &&& 4294967295)) X) = cdK 1 (s_X11_runScript_k v1 ((v2.toInt64 <<< ((32 : Int32).toInt64 &&& 63)) ||| (v3.toInt64 &&& 4294967295))) := (thr_eq _).trans e2
    refine lv_istore (lv' := [(6, .int (s_X12_runScript_r v1 ((v2.toInt64 <<< ((32 : Int32).toInt64 &&& 63)) ||| (v3.toInt64 &&& 4294967295)) f)), (5, .int (cdK 1 (s_X11_runScript_k v1 ((v2.toInt64 <<< ((32 : Int32).toInt64 &&& 63)) ||| (v3.toInt64 &&& 4294967295))))), (0, .ref b), (1, .ref h), (2, .ref mh), (3, .ref jq), (4, .int iv)]) hx hb dL_law_1407 hl (by decide) rfl (fun ls hl => ?_)
    refine lv_aload_n hx hb dL_law_1409 rfl (lv_at hl 4 rfl) ?_
    refine cl_Ri (va_runV (As := []) (rest := []) ⟨hx, hb, hml, hown, hts⟩ (c_X12_thrown l G y mh (w 0) (w 1) (w 2) (w 3) (w 4) (w 5) (w 6) (w 7) (s_X12_runScript_w0 v1 ((v2.toInt64 <<< ((32 : Int32).toInt64 &&& 63)) ||| (v3.toInt64 &&& 4294967295)) X)) (cwV 0 hts gL_law_X12_thrown rfl rfl rfl (by decide +kernel) ⟨Nat.le_of_ble_eq_true rfl, Nat.le_of_ble_eq_true rfl⟩) (PR_V (sel_P [50] (rfl : sel _ [50] = [kX12 mh (w 0) (w 1) (w 2) (w 3) (w 4) (w 5) (w 6) (w 7) (s_X12_runScript_w0 v1 ((v2.toInt64 <<< ((32 : Int32).toInt64 &&& 63)) ||| (v3.toInt64 &&& 4294967295)) X)]) hP) hK4 hN (ci := 10) (q0 := 0) rfl rfl) rfl rfl hl.1 rfl (lv_room (Nat.le_of_ble_eq_true rfl)) dL_law_1410 ⟨hkc, hks⟩) ?_
    refine lv_iload hx hb dL_law_1413 (lv_at hl 1 rfl) ?_
    refine lv_icmp_eq (tgt := 1420) hx hb dL_law_1415 (by decide) (fun _ => ?_) (fun c9 => absurd hT c9)
    refine lv_iload hx hb dL_law_1420 (lv_at hl 1 rfl) ?_
    refine lv_if_ne (tgt := 1437) hx hb dL_law_1422 (by decide) (fun _ => ?_) (fun c9 => absurd c9 (cd_n hk))
    refine lv_goto (tgt := 1652) hx hb dL_law_1437 (by decide) ?_
    refine W.widen (k := kc + 1) (n := ks + 6) (by omega) (by omega) ?_
    exact KN H locs ls ⟨x9, ft, z, o, c9_1, oc_1, x2, ad, zk, ok, fl, sd, zs, os, jo, (s_X12_runScript_w0 v1 ((v2.toInt64 <<< ((32 : Int32).toInt64 &&& 63)) ||| (v3.toInt64 &&& 4294967295)) X), fR, fr, f, g_X12, fd, fk, fz, o_X12, hP, hD, hW2⟩ hS (lv_sub hl [2, 3, 4, 5, 6] rfl)
set_option maxHeartbeats 2000000 in
set_option maxRecDepth 100000 in
theorem case_24 {p : Program} {l : Launch} {e : Env} {s : State} {m : MethodId} {below : List Frame} {meth : Method} {c : Code} {b L : Nat} {xs : Nat → Int32} {G : va_G} {y : Nat → ClassId} {h : Nat} {a : Nat → Nat} {jq mh : Nat} {w : Nat → Nat} {iv v1 v2 v3 : Int32} {N kc ks : Nat} {H : Heap} {locs : List Loc} {ls : Array Slot} (hfl : l.stackTraces = false) (C0 : lw_At p s m meth c b L xs) (hK : va_K G vwCl (tyJ y) s) (hN : NN s) (hTY : TY (fun q : Nat => s.heap.size ≤ q) s) (hin1 : vp_in (iv + 1) L) (hin2 : vp_in (iv + 2) L) (hin3 : vp_in (iv + 3) L) (hv1 : xs (iv + 1).toNatClampNeg = v1) (hv2 : xs (iv + 2).toNatClampNeg = v2) (hv3 : xs (iv + 3).toNatClampNeg = v3) (hkc : kc + 1 ≤ room_1.cells) (hks : ks + 6 ≤ room_1.slots) (hN9 : N + 12800 < 2147483648) (hI : LI G y h a jq mh w (fun q : Nat => s.heap.size ≤ q) N H) (hS : va_S (fun q : Nat => s.heap.size ≤ q) s.heap H locs) (hl : lv_has ls 7 [(0, .ref b), (1, .ref h), (2, .ref mh), (3, .ref jq), (4, .int iv)]) (KN : ∀ (H : Heap) (locs : List Loc) (ls : Array Slot), LI G y h a jq mh w (fun q : Nat => s.heap.size ≤ q) (N + 200) H → va_S (fun q : Nat => s.heap.size ≤ q) s.heap H locs → lv_has ls 7 [(0, .ref b), (1, .ref h), (2, .ref mh), (3, .ref jq), (4, .int iv)] → W p l e room_1 s m #[Value.ref b] below meth c H locs (kc + 1) (ks + 6) (lw_Z below #[Value.ref b] s) (F0 m 1652 ls [])) : W p l e room_1 s m #[Value.ref b] below meth c H locs kc ks (lw_Z below #[Value.ref b] s) (F0 m 1440 ls []) := by
  obtain ⟨hx, hb, hr, hml, hown, hts, hX, hbl, hlocks, hgv⟩ := C0
  have hts := fun w hh => hts w (wsL_law_in w hh)
  have hbA : ¬ (fun q : Nat => s.heap.size ≤ q) b := Nat.not_le.mpr hbl
  have hA : ∀ q : Nat, s.heap.size ≤ q → (fun q : Nat => s.heap.size ≤ q) q := fun _ h => h
  have hK4 : va_K G vwCl (tyG y) s := hK.sub (tys' := tyG y) [0, 1, 2, 3] rfl
  have hown : s.vm.findClass RL = some m.cls := hown
  have hkc0 : kc ≤ room_1.cells := Nat.le_of_succ_le hkc
  have hks0 : ks ≤ room_1.slots := Nat.le_trans (Nat.le_add_right ks 6) hks
  obtain ⟨x9, ft, z, o, zc, oc, x2, ad, zk, ok, fl, sd, zs, os, jo, X, fR, fr, f, g, fd, fk, fz, o2, hP, hD, hW⟩ := hI
  by_cases hk : (s_X11_simulate_k v3) = 0
  · refine lv_aload_n hx hb dL_law_1440 rfl (lv_at hl 1 rfl) ?_
    refine lv_aload_n hx hb dL_law_1441 rfl (lv_at hl 0 rfl) ?_
    refine lv_iload hx hb dL_law_1442 (lv_at hl 4 rfl) ?_
    refine lv_iconst (v := 1) hx hb dL_law_1444 (by decide) ?_
    refine lv_iadd hx hb dL_law_1445 ?_
    refine va_sld hx hb hX hbl hbA hS hin1 dL_law_1446 ?_
    refine rw_i (x' := v1) hv1 ?_
    refine lv_i2l (v := v1.toInt64) hx hb dL_law_1447 rfl ?_
    refine lv_bipush (v := 32) hx hb dL_law_1448 (by decide) ?_
    refine lv_lshl (v := (v1.toInt64 <<< ((32 : Int32).toInt64 &&& 63))) hx hb dL_law_1450 rfl ?_
    refine lv_aload_n hx hb dL_law_1451 rfl (lv_at hl 0 rfl) ?_
    refine lv_iload hx hb dL_law_1452 (lv_at hl 4 rfl) ?_
    refine lv_iconst (v := 2) hx hb dL_law_1454 (by decide) ?_
    refine lv_iadd hx hb dL_law_1455 ?_
    refine va_sld hx hb hX hbl hbA hS hin2 dL_law_1456 ?_
    refine rw_i (x' := v2) hv2 ?_
    refine lv_i2l (v := v2.toInt64) hx hb dL_law_1457 rfl ?_
    refine lv_ldc2 (v := 4294967295) hx hb hown (hts (.constantLong RL 177 4294967295) (by decide +kernel)) dL_law_1458 ?_
    refine lv_land hx hb dL_law_1461 ?_
    refine lv_lor hx hb dL_law_1462 ?_
    refine lv_aload_n hx hb dL_law_1463 rfl (lv_at hl 0 rfl) ?_
    refine lv_iload hx hb dL_law_1464 (lv_at hl 4 rfl) ?_
    refine lv_iconst (v := 3) hx hb dL_law_1466 (by decide) ?_
    refine lv_iadd hx hb dL_law_1467 ?_
    refine va_sld hx hb hX hbl hbA hS hin3 dL_law_1468 ?_
    refine rw_i (x' := v3) hv3 ?_
    refine lv_aload_n hx hb dL_law_1469 rfl (lv_at hl 3 rfl) ?_
    have hpm := qm0 (T := (kW y ad zk ok 14) ++ (kW y sd zs os 2)) (pr_21 y h a jq mh w x9 ft z o zc oc x2 ad fl sd jo X fR fr f g fd fk fz o2)
    have hPc : va_P G vwCl ([aJ y jq 1 jo] ++ [kX11 h (a 0) (a 2) (a 16) (a 30) (a 44) (a 46) Z0, kX7 (a 16) (a 17) (a 19) (a 20) (a 26) (a 28) (z 0), kX3 (a 17) (a 18) (z 1), aI y (a 18) 10 (z 2), kX1 (a 19) (z 3), kX8 (a 20) (a 21) (a 22) (a 23) (a 24) (a 25) (z 4), aI y (a 21) 20 (z 5), aI y (a 22) 20 (z 6), aI y (a 23) 20 (z 7), aI y (a 24) 20 (z 8), aI y (a 25) 20 o, kX10 (a 26) (a 27) (z 9), aI y (a 27) 32 (z 10), kX0 (a 28) (a 29) (z 11), aI y (a 29) 3 (z 12), kX7 (a 30) (a 31) (a 33) (a 34) (a 40) (a 42) (zc 0), kX3 (a 31) (a 32) (zc 1), aI y (a 32) 10 (zc 2), kX1 (a 33) (zc 3), kX8 (a 34) (a 35) (a 36) (a 37) (a 38) (a 39) (zc 4), aI y (a 35) 20 (zc 5), aI y (a 36) 20 (zc 6), aI y (a 37) 20 (zc 7), aI y (a 38) 20 (zc 8), aI y (a 39) 20 oc, kX10 (a 40) (a 41) (zc 9), aI y (a 41) 32 (zc 10), kX0 (a 42) (a 43) (zc 11), aI y (a 43) 3 (zc 12)]) H := P_r (P_perm hpm hP)
    have hDc : va_D (fun q : Nat => s.heap.size ≤ q) ([aJ y jq 1 jo] ++ [kX11 h (a 0) (a 2) (a 16) (a 30) (a 44) (a 46) Z0, kX7 (a 16) (a 17) (a 19) (a 20) (a 26) (a 28) (z 0), kX3 (a 17) (a 18) (z 1), aI y (a 18) 10 (z 2), kX1 (a 19) (z 3), kX8 (a 20) (a 21) (a 22) (a 23) (a 24) (a 25) (z 4), aI y (a 21) 20 (z 5), aI y (a 22) 20 (z 6), aI y (a 23) 20 (z 7), aI y (a 24) 20 (z 8), aI y (a 25) 20 o, kX10 (a 26) (a 27) (z 9), aI y (a 27) 32 (z 10), kX0 (a 28) (a 29) (z 11), aI y (a 29) 3 (z 12), kX7 (a 30) (a 31) (a 33) (a 34) (a 40) (a 42) (zc 0), kX3 (a 31) (a 32) (zc 1), aI y (a 32) 10 (zc 2), kX1 (a 33) (zc 3), kX8 (a 34) (a 35) (a 36) (a 37) (a 38) (a 39) (zc 4), aI y (a 35) 20 (zc 5), aI y (a 36) 20 (zc 6), aI y (a 37) 20 (zc 7), aI y (a 38) 20 (zc 8), aI y (a 39) 20 oc, kX10 (a 40) (a 41) (zc 9), aI y (a 41) 32 (zc 10), kX0 (a 42) (a 43) (zc 11), aI y (a 43) 3 (zc 12)]) := D_r (D_perm hpm hD)
    have hFc : ∀ q, va_A ([aJ y jq 1 jo] ++ [kX11 h (a 0) (a 2) (a 16) (a 30) (a 44) (a 46) Z0, kX7 (a 16) (a 17) (a 19) (a 20) (a 26) (a 28) (z 0), kX3 (a 17) (a 18) (z 1), aI y (a 18) 10 (z 2), kX1 (a 19) (z 3), kX8 (a 20) (a 21) (a 22) (a 23) (a 24) (a 25) (z 4), aI y (a 21) 20 (z 5), aI y (a 22) 20 (z 6), aI y (a 23) 20 (z 7), aI y (a 24) 20 (z 8), aI y (a 25) 20 o, kX10 (a 26) (a 27) (z 9), aI y (a 27) 32 (z 10), kX0 (a 28) (a 29) (z 11), aI y (a 29) 3 (z 12), kX7 (a 30) (a 31) (a 33) (a 34) (a 40) (a 42) (zc 0), kX3 (a 31) (a 32) (zc 1), aI y (a 32) 10 (zc 2), kX1 (a 33) (zc 3), kX8 (a 34) (a 35) (a 36) (a 37) (a 38) (a 39) (zc 4), aI y (a 35) 20 (zc 5), aI y (a 36) 20 (zc 6), aI y (a 37) 20 (zc 7), aI y (a 38) 20 (zc 8), aI y (a 39) 20 oc, kX10 (a 40) (a 41) (zc 9), aI y (a 41) 32 (zc 10), kX0 (a 42) (a 43) (zc 11), aI y (a 43) 3 (zc 12)]) H.size q → s.heap.size ≤ q := F_r (D_perm hpm hD) hS hA
    refine cl_LP (fun u : (Nat → Int32) × (Nat → Nat → Int32) => ((lwE y h a jq mh w x9 ft z o u.2 u.1 x2 ad fl sd (vp_updL jo 0 (s_X11_simulate_r ((v1.toInt64 <<< ((32 : Int32).toInt64 &&& 63)) ||| (v2.toInt64 &&& 4294967295)) v3 z).toInt64) X fR fr f g fd fk fz o2) ++ ((kW y ad zk ok 14) ++ (kW y sd zs os 2)))) hpm (fun u => qm0 (T := (kW y ad zk ok 14) ++ (kW y sd zs os 2)) (pr_21 y h a jq mh w x9 ft z o u.2 u.1 x2 ad fl sd (vp_updL jo 0 (s_X11_simulate_r ((v1.toInt64 <<< ((32 : Int32).toInt64 &&& 63)) ||| (v2.toInt64 &&& 4294967295)) v3 z).toInt64) X fR fr f g fd fk fz o2)) (vx_runSX (As := [.ref h, .long ((v1.toInt64 <<< ((32 : Int32).toInt64 &&& 63)) ||| (v2.toInt64 &&& 4294967295)), .int v3, .ref jq]) (rest := []) ⟨hx, hb, hml, hown, hts⟩ (c_L_simulate_y l G y h ((v1.toInt64 <<< ((32 : Int32).toInt64 &&& 63)) ||| (v2.toInt64 &&& 4294967295)) v3 (a 0) (a 2) (a 16) (a 30) (a 44) (a 46) (a 17) (a 19) (a 20) (a 26) (a 28) z (a 18) (a 21) (a 22) (a 23) (a 24) (a 25) o (a 27) (a 29) (a 31) (a 33) (a 34) (a 40) (a 42) zc (a 32) (a 35) (a 36) (a 37) (a 38) (a 39) oc (a 41) (a 43) jq jo H.size (wf_b hW).1 (wf_b hW).2.1 (wf_b hW).2.2 (WR.tc hW.2.1) hk hfl) (vx_cwSW 4 hts gL_law_L_simulate rfl rfl rfl (by decide +kernel) ⟨Nat.le_of_ble_eq_true rfl, Nat.le_of_ble_eq_true rfl⟩) (PHL_S hPc hK hN hDc hTY hS hFc) rfl rfl hl.1 rfl (lv_room (Nat.le_of_ble_eq_true rfl)) dL_law_1470 ⟨hkc, hks⟩) hP hD hS hA (fun u H locs hP hD hS => ?_)
    obtain ⟨oc_1, c9_1⟩ := u
    have hP : va_P G vwCl ((lwE y h a jq mh w x9 ft z o c9_1 oc_1 x2 ad fl sd (vp_updL jo 0 (s_X11_simulate_r ((v1.toInt64 <<< ((32 : Int32).toInt64 &&& 63)) ||| (v2.toInt64 &&& 4294967295)) v3 z).toInt64) X fR fr f g fd fk fz o2) ++ ((kW y ad zk ok 14) ++ (kW y sd zs os 2))) H := hP
    have hD : va_D (fun q : Nat => s.heap.size ≤ q) ((lwE y h a jq mh w x9 ft z o c9_1 oc_1 x2 ad fl sd (vp_updL jo 0 (s_X11_simulate_r ((v1.toInt64 <<< ((32 : Int32).toInt64 &&& 63)) ||| (v2.toInt64 &&& 4294967295)) v3 z).toInt64) X fR fr f g fd fk fz o2) ++ ((kW y ad zk ok 14) ++ (kW y sd zs os 2))) := hD
    refine lv_istore (lv' := [(5, .int 0), (0, .ref b), (1, .ref h), (2, .ref mh), (3, .ref jq), (4, .int iv)]) hx hb dL_law_1473 hl (by decide) rfl (fun ls hl => ?_)
    refine lv_aload_n hx hb dL_law_1475 rfl (lv_at hl 3 rfl) ?_
    refine lv_aload_n hx hb dL_law_1476 rfl (lv_at hl 1 rfl) ?_
    refine lv_iload hx hb dL_law_1477 (lv_at hl 5 rfl) ?_
    refine lv_iconst (v := 1) hx hb dL_law_1479 (by decide) ?_
    refine lv_iadd hx hb dL_law_1480 ?_
    refine va_sld hx hb hX hbl hbA hS hin1 dL_law_1481 ?_
    refine rw_i (x' := v1) hv1 ?_
    refine lv_i2l (v := v1.toInt64) hx hb dL_law_1482 rfl ?_
    refine lv_bipush (v := 32) hx hb dL_law_1483 (by decide) ?_
    refine lv_lshl (v := (v1.toInt64 <<< ((32 : Int32).toInt64 &&& 63))) hx hb dL_law_1485 rfl ?_
    refine lv_aload_n hx hb dL_law_1486 rfl (lv_at hl 1 rfl) ?_
    refine lv_iload hx hb dL_law_1487 (lv_at hl 5 rfl) ?_
    refine lv_iconst (v := 2) hx hb dL_law_1489 (by decide) ?_
    refine lv_iadd hx hb dL_law_1490 ?_
    refine va_sld hx hb hX hbl hbA hS hin2 dL_law_1491 ?_
    refine rw_i (x' := v2) hv2 ?_
    refine lv_i2l (v := v2.toInt64) hx hb dL_law_1492 rfl ?_
    refine lv_ldc2 (v := 4294967295) hx hb hown (hts (.constantLong RL 177 4294967295) (by decide +kernel)) dL_law_1493 ?_
    refine lv_land hx hb dL_law_1496 ?_
    refine lv_lor hx hb dL_law_1497 ?_
    refine lv_aload_n hx hb dL_law_1498 rfl (lv_at hl 1 rfl) ?_
    refine lv_iload hx hb dL_law_1499 (lv_at hl 5 rfl) ?_
    refine lv_iconst (v := 3) hx hb dL_law_1501 (by decide) ?_
    refine lv_iadd hx hb dL_law_1502 ?_
    refine va_sld hx hb hX hbl hbA hS hin3 dL_law_1503 ?_
    refine rw_i (x' := v3) hv3 ?_
    have hpm := qm0 (T := (kW y ad zk ok 14) ++ (kW y sd zs os 2)) (pr_20 y h a jq mh w x9 ft z o c9_1 oc_1 x2 ad fl sd (vp_updL jo 0 (s_X11_simulate_r ((v1.toInt64 <<< ((32 : Int32).toInt64 &&& 63)) ||| (v2.toInt64 &&& 4294967295)) v3 z).toInt64) X fR fr f g fd fk fz o2)
    have hPc : va_P G vwCl [kX12 mh (w 0) (w 1) (w 2) (w 3) (w 4) (w 5) (w 6) (w 7) X, aI y (w 2) 154 f, aI y (w 3) 154 g, aI y (w 7) 20 o2] H := P_r (P_perm hpm hP)
    have hDc : va_D (fun q : Nat => s.heap.size ≤ q) [kX12 mh (w 0) (w 1) (w 2) (w 3) (w 4) (w 5) (w 6) (w 7) X, aI y (w 2) 154 f, aI y (w 3) 154 g, aI y (w 7) 20 o2] := D_r (D_perm hpm hD)
    refine cl_MP (fun u : (Nat → Int32) × (Nat → Int32) => ((lwE y h a jq mh w x9 ft z o c9_1 oc_1 x2 ad fl sd (vp_updL jo 0 (s_X11_simulate_r ((v1.toInt64 <<< ((32 : Int32).toInt64 &&& 63)) ||| (v2.toInt64 &&& 4294967295)) v3 z).toInt64) (s_X12_simulate_w0 v3 X) fR fr f u.1 fd fk fz u.2) ++ ((kW y ad zk ok 14) ++ (kW y sd zs os 2)))) hpm (fun u => qm0 (T := (kW y ad zk ok 14) ++ (kW y sd zs os 2)) (pr_20 y h a jq mh w x9 ft z o c9_1 oc_1 x2 ad fl sd (vp_updL jo 0 (s_X11_simulate_r ((v1.toInt64 <<< ((32 : Int32).toInt64 &&& 63)) ||| (v2.toInt64 &&& 4294967295)) v3 z).toInt64) (s_X12_simulate_w0 v3 X) fR fr f u.1 fd fk fz u.2)) (va_runV (As := [.long ((v1.toInt64 <<< ((32 : Int32).toInt64 &&& 63)) ||| (v2.toInt64 &&& 4294967295)), .int v3]) (rest := []) ⟨hx, hb, hml, hown, hts⟩ (c_X12_simulate l G y mh ((v1.toInt64 <<< ((32 : Int32).toInt64 &&& 63)) ||| (v2.toInt64 &&& 4294967295)) v3 (w 0) (w 1) (w 2) (w 3) (w 4) (w 5) (w 6) (w 7) X f g o2 H.size (wf_TK hW)) (cwV 2 hts gL_law_X12_simulate rfl rfl rfl (by decide +kernel) ⟨Nat.le_of_ble_eq_true rfl, Nat.le_of_ble_eq_true rfl⟩) (PH_V hPc hK4 hN hDc (ci := 10) (q0 := 0) rfl rfl) rfl rfl hl.1 rfl (lv_room (Nat.le_of_ble_eq_true rfl)) dL_law_1504 ⟨hkc, hks⟩) hP hD hS hA (fun u H locs hP hD hS => ?_)
    obtain ⟨g_X12, o_X12⟩ := u
    have hP : va_P G vwCl ((lwE y h a jq mh w x9 ft z o c9_1 oc_1 x2 ad fl sd (vp_updL jo 0 (s_X11_simulate_r ((v1.toInt64 <<< ((32 : Int32).toInt64 &&& 63)) ||| (v2.toInt64 &&& 4294967295)) v3 z).toInt64) (s_X12_simulate_w0 v3 X) fR fr f g_X12 fd fk fz o_X12) ++ ((kW y ad zk ok 14) ++ (kW y sd zs os 2))) H := hP
    have hD : va_D (fun q : Nat => s.heap.size ≤ q) ((lwE y h a jq mh w x9 ft z o c9_1 oc_1 x2 ad fl sd (vp_updL jo 0 (s_X11_simulate_r ((v1.toInt64 <<< ((32 : Int32).toInt64 &&& 63)) ||| (v2.toInt64 &&& 4294967295)) v3 z).toInt64) (s_X12_simulate_w0 v3 X) fR fr f g_X12 fd fk fz o_X12) ++ ((kW y ad zk ok 14) ++ (kW y sd zs os 2))) := hD
    obtain ⟨e1, e2, hW2⟩ := ly_simulate hW hN9 hk
    have hT : s_X12_thrown_r (s_X12_simulate_w0 v3 X) = 0 := (thr_eq _).trans e2
    refine lv_istore (lv' := [(6, .int (s_X12_simulate_r ((v1.toInt64 <<< ((32 : Int32).toInt64 &&& 63)) ||| (v2.toInt64 &&& 4294967295)) v3 f)), (5, .int 0), (0, .ref b), (1, .ref h), (2, .ref mh), (3, .ref jq), (4, .int iv)]) hx hb dL_law_1507 hl (by decide) rfl (fun ls hl => ?_)
    refine lv_aload_n hx hb dL_law_1509 rfl (lv_at hl 4 rfl) ?_
    refine cl_Ri (va_runV (As := []) (rest := []) ⟨hx, hb, hml, hown, hts⟩ (c_X12_thrown l G y mh (w 0) (w 1) (w 2) (w 3) (w 4) (w 5) (w 6) (w 7) (s_X12_simulate_w0 v3 X)) (cwV 0 hts gL_law_X12_thrown rfl rfl rfl (by decide +kernel) ⟨Nat.le_of_ble_eq_true rfl, Nat.le_of_ble_eq_true rfl⟩) (PR_V (sel_P [50] (rfl : sel _ [50] = [kX12 mh (w 0) (w 1) (w 2) (w 3) (w 4) (w 5) (w 6) (w 7) (s_X12_simulate_w0 v3 X)]) hP) hK4 hN (ci := 10) (q0 := 0) rfl rfl) rfl rfl hl.1 rfl (lv_room (Nat.le_of_ble_eq_true rfl)) dL_law_1510 ⟨hkc, hks⟩) ?_
    refine lv_iload hx hb dL_law_1513 (lv_at hl 1 rfl) ?_
    refine lv_icmp_eq (tgt := 1520) hx hb dL_law_1515 (by decide) (fun _ => ?_) (fun c9 => absurd hT c9)
    refine lv_iload hx hb dL_law_1520 (lv_at hl 1 rfl) ?_
    refine lv_if_ne (tgt := 1537) hx hb dL_law_1522 (by decide) (fun c9 => absurd rfl c9) (fun _ => ?_)
    refine lv_aload_n hx hb dL_law_1525 rfl (lv_at hl 5 rfl) ?_
    refine lv_iconst (v := 0) hx hb dL_law_1526 (by decide) ?_
    refine al_o hx hb hK 59 hP rfl dL_law_1527 ?_
    refine lv_iload hx hb dL_law_1528 (lv_at hl 0 rfl) ?_
    refine lv_i2l (v := (s_X12_simulate_r ((v1.toInt64 <<< ((32 : Int32).toInt64 &&& 63)) ||| (v2.toInt64 &&& 4294967295)) v3 f).toInt64) hx hb dL_law_1530 rfl ?_
    refine W.lcmp hx hb dL_law_1531 ?_
    refine lv_if_eq (tgt := 1537) hx hb dL_law_1532 (by decide) (fun _ => ?_) (fun c9 => absurd (lg_o e1) c9)
    refine lv_goto (tgt := 1652) hx hb dL_law_1537 (by decide) ?_
    refine W.widen (k := kc + 1) (n := ks + 6) (by omega) (by omega) ?_
    exact KN H locs ls ⟨x9, ft, z, o, c9_1, oc_1, x2, ad, zk, ok, fl, sd, zs, os, (vp_updL jo 0 (s_X11_simulate_r ((v1.toInt64 <<< ((32 : Int32).toInt64 &&& 63)) ||| (v2.toInt64 &&& 4294967295)) v3 z).toInt64), (s_X12_simulate_w0 v3 X), fR, fr, f, g_X12, fd, fk, fz, o_X12, hP, hD, hW2⟩ hS (lv_sub hl [2, 3, 4, 5, 6] rfl)
  · refine lv_aload_n hx hb dL_law_1440 rfl (lv_at hl 1 rfl) ?_
    refine lv_aload_n hx hb dL_law_1441 rfl (lv_at hl 0 rfl) ?_
    refine lv_iload hx hb dL_law_1442 (lv_at hl 4 rfl) ?_
    refine lv_iconst (v := 1) hx hb dL_law_1444 (by decide) ?_
    refine lv_iadd hx hb dL_law_1445 ?_
    refine va_sld hx hb hX hbl hbA hS hin1 dL_law_1446 ?_
    refine rw_i (x' := v1) hv1 ?_
    refine lv_i2l (v := v1.toInt64) hx hb dL_law_1447 rfl ?_
    refine lv_bipush (v := 32) hx hb dL_law_1448 (by decide) ?_
    refine lv_lshl (v := (v1.toInt64 <<< ((32 : Int32).toInt64 &&& 63))) hx hb dL_law_1450 rfl ?_
    refine lv_aload_n hx hb dL_law_1451 rfl (lv_at hl 0 rfl) ?_
    refine lv_iload hx hb dL_law_1452 (lv_at hl 4 rfl) ?_
    refine lv_iconst (v := 2) hx hb dL_law_1454 (by decide) ?_
    refine lv_iadd hx hb dL_law_1455 ?_
    refine va_sld hx hb hX hbl hbA hS hin2 dL_law_1456 ?_
    refine rw_i (x' := v2) hv2 ?_
    refine lv_i2l (v := v2.toInt64) hx hb dL_law_1457 rfl ?_
    refine lv_ldc2 (v := 4294967295) hx hb hown (hts (.constantLong RL 177 4294967295) (by decide +kernel)) dL_law_1458 ?_
    refine lv_land hx hb dL_law_1461 ?_
    refine lv_lor hx hb dL_law_1462 ?_
    refine lv_aload_n hx hb dL_law_1463 rfl (lv_at hl 0 rfl) ?_
    refine lv_iload hx hb dL_law_1464 (lv_at hl 4 rfl) ?_
    refine lv_iconst (v := 3) hx hb dL_law_1466 (by decide) ?_
    refine lv_iadd hx hb dL_law_1467 ?_
    refine va_sld hx hb hX hbl hbA hS hin3 dL_law_1468 ?_
    refine rw_i (x' := v3) hv3 ?_
    refine lv_aload_n hx hb dL_law_1469 rfl (lv_at hl 3 rfl) ?_
    have hpm := qm0 (T := (kW y ad zk ok 14) ++ (kW y sd zs os 2)) (pr_21 y h a jq mh w x9 ft z o zc oc x2 ad fl sd jo X fR fr f g fd fk fz o2)
    have hPc : va_P G vwCl ([aJ y jq 1 jo] ++ [kX11 h (a 0) (a 2) (a 16) (a 30) (a 44) (a 46) Z0, kX7 (a 16) (a 17) (a 19) (a 20) (a 26) (a 28) (z 0), kX3 (a 17) (a 18) (z 1), aI y (a 18) 10 (z 2), kX1 (a 19) (z 3), kX8 (a 20) (a 21) (a 22) (a 23) (a 24) (a 25) (z 4), aI y (a 21) 20 (z 5), aI y (a 22) 20 (z 6), aI y (a 23) 20 (z 7), aI y (a 24) 20 (z 8), aI y (a 25) 20 o, kX10 (a 26) (a 27) (z 9), aI y (a 27) 32 (z 10), kX0 (a 28) (a 29) (z 11), aI y (a 29) 3 (z 12), kX7 (a 30) (a 31) (a 33) (a 34) (a 40) (a 42) (zc 0), kX3 (a 31) (a 32) (zc 1), aI y (a 32) 10 (zc 2), kX1 (a 33) (zc 3), kX8 (a 34) (a 35) (a 36) (a 37) (a 38) (a 39) (zc 4), aI y (a 35) 20 (zc 5), aI y (a 36) 20 (zc 6), aI y (a 37) 20 (zc 7), aI y (a 38) 20 (zc 8), aI y (a 39) 20 oc, kX10 (a 40) (a 41) (zc 9), aI y (a 41) 32 (zc 10), kX0 (a 42) (a 43) (zc 11), aI y (a 43) 3 (zc 12)]) H := P_r (P_perm hpm hP)
    have hDc : va_D (fun q : Nat => s.heap.size ≤ q) ([aJ y jq 1 jo] ++ [kX11 h (a 0) (a 2) (a 16) (a 30) (a 44) (a 46) Z0, kX7 (a 16) (a 17) (a 19) (a 20) (a 26) (a 28) (z 0), kX3 (a 17) (a 18) (z 1), aI y (a 18) 10 (z 2), kX1 (a 19) (z 3), kX8 (a 20) (a 21) (a 22) (a 23) (a 24) (a 25) (z 4), aI y (a 21) 20 (z 5), aI y (a 22) 20 (z 6), aI y (a 23) 20 (z 7), aI y (a 24) 20 (z 8), aI y (a 25) 20 o, kX10 (a 26) (a 27) (z 9), aI y (a 27) 32 (z 10), kX0 (a 28) (a 29) (z 11), aI y (a 29) 3 (z 12), kX7 (a 30) (a 31) (a 33) (a 34) (a 40) (a 42) (zc 0), kX3 (a 31) (a 32) (zc 1), aI y (a 32) 10 (zc 2), kX1 (a 33) (zc 3), kX8 (a 34) (a 35) (a 36) (a 37) (a 38) (a 39) (zc 4), aI y (a 35) 20 (zc 5), aI y (a 36) 20 (zc 6), aI y (a 37) 20 (zc 7), aI y (a 38) 20 (zc 8), aI y (a 39) 20 oc, kX10 (a 40) (a 41) (zc 9), aI y (a 41) 32 (zc 10), kX0 (a 42) (a 43) (zc 11), aI y (a 43) 3 (zc 12)]) := D_r (D_perm hpm hD)
    have hFc : ∀ q, va_A ([aJ y jq 1 jo] ++ [kX11 h (a 0) (a 2) (a 16) (a 30) (a 44) (a 46) Z0, kX7 (a 16) (a 17) (a 19) (a 20) (a 26) (a 28) (z 0), kX3 (a 17) (a 18) (z 1), aI y (a 18) 10 (z 2), kX1 (a 19) (z 3), kX8 (a 20) (a 21) (a 22) (a 23) (a 24) (a 25) (z 4), aI y (a 21) 20 (z 5), aI y (a 22) 20 (z 6), aI y (a 23) 20 (z 7), aI y (a 24) 20 (z 8), aI y (a 25) 20 o, kX10 (a 26) (a 27) (z 9), aI y (a 27) 32 (z 10), kX0 (a 28) (a 29) (z 11), aI y (a 29) 3 (z 12), kX7 (a 30) (a 31) (a 33) (a 34) (a 40) (a 42) (zc 0), kX3 (a 31) (a 32) (zc 1), aI y (a 32) 10 (zc 2), kX1 (a 33) (zc 3), kX8 (a 34) (a 35) (a 36) (a 37) (a 38) (a 39) (zc 4), aI y (a 35) 20 (zc 5), aI y (a 36) 20 (zc 6), aI y (a 37) 20 (zc 7), aI y (a 38) 20 (zc 8), aI y (a 39) 20 oc, kX10 (a 40) (a 41) (zc 9), aI y (a 41) 32 (zc 10), kX0 (a 42) (a 43) (zc 11), aI y (a 43) 3 (zc 12)]) H.size q → s.heap.size ≤ q := F_r (D_perm hpm hD) hS hA
    refine cl_LP (fun u : (Nat → Int32) × (Nat → Nat → Int32) => ((lwE y h a jq mh w x9 ft z o u.2 u.1 x2 ad fl sd jo X fR fr f g fd fk fz o2) ++ ((kW y ad zk ok 14) ++ (kW y sd zs os 2)))) hpm (fun u => qm0 (T := (kW y ad zk ok 14) ++ (kW y sd zs os 2)) (pr_21 y h a jq mh w x9 ft z o u.2 u.1 x2 ad fl sd jo X fR fr f g fd fk fz o2)) (vx_runSX (As := [.ref h, .long ((v1.toInt64 <<< ((32 : Int32).toInt64 &&& 63)) ||| (v2.toInt64 &&& 4294967295)), .int v3, .ref jq]) (rest := []) ⟨hx, hb, hml, hown, hts⟩ (c_L_simulate_n l G y h ((v1.toInt64 <<< ((32 : Int32).toInt64 &&& 63)) ||| (v2.toInt64 &&& 4294967295)) v3 (a 0) (a 2) (a 16) (a 30) (a 44) (a 46) (a 17) (a 19) (a 20) (a 26) (a 28) z (a 18) (a 21) (a 22) (a 23) (a 24) (a 25) o (a 27) (a 29) (a 31) (a 33) (a 34) (a 40) (a 42) zc (a 32) (a 35) (a 36) (a 37) (a 38) (a 39) oc (a 41) (a 43) jq jo H.size (wf_b hW).1 (wf_b hW).2.1 (wf_b hW).2.2 (WR.tc hW.2.1) hk hfl) (vx_cwSW 4 hts gL_law_L_simulate rfl rfl rfl (by decide +kernel) ⟨Nat.le_of_ble_eq_true rfl, Nat.le_of_ble_eq_true rfl⟩) (PHL_S hPc hK hN hDc hTY hS hFc) rfl rfl hl.1 rfl (lv_room (Nat.le_of_ble_eq_true rfl)) dL_law_1470 ⟨hkc, hks⟩) hP hD hS hA (fun u H locs hP hD hS => ?_)
    obtain ⟨oc_1, c9_1⟩ := u
    have hP : va_P G vwCl ((lwE y h a jq mh w x9 ft z o c9_1 oc_1 x2 ad fl sd jo X fR fr f g fd fk fz o2) ++ ((kW y ad zk ok 14) ++ (kW y sd zs os 2))) H := hP
    have hD : va_D (fun q : Nat => s.heap.size ≤ q) ((lwE y h a jq mh w x9 ft z o c9_1 oc_1 x2 ad fl sd jo X fR fr f g fd fk fz o2) ++ ((kW y ad zk ok 14) ++ (kW y sd zs os 2))) := hD
    refine lv_istore (lv' := [(5, .int (cdK 1 (s_X11_simulate_k v3))), (0, .ref b), (1, .ref h), (2, .ref mh), (3, .ref jq), (4, .int iv)]) hx hb dL_law_1473 hl (by decide) rfl (fun ls hl => ?_)
    refine lv_aload_n hx hb dL_law_1475 rfl (lv_at hl 3 rfl) ?_
    refine lv_aload_n hx hb dL_law_1476 rfl (lv_at hl 1 rfl) ?_
    refine lv_iload hx hb dL_law_1477 (lv_at hl 5 rfl) ?_
    refine lv_iconst (v := 1) hx hb dL_law_1479 (by decide) ?_
    refine lv_iadd hx hb dL_law_1480 ?_
    refine va_sld hx hb hX hbl hbA hS hin1 dL_law_1481 ?_
    refine rw_i (x' := v1) hv1 ?_
    refine lv_i2l (v := v1.toInt64) hx hb dL_law_1482 rfl ?_
    refine lv_bipush (v := 32) hx hb dL_law_1483 (by decide) ?_
    refine lv_lshl (v := (v1.toInt64 <<< ((32 : Int32).toInt64 &&& 63))) hx hb dL_law_1485 rfl ?_
    refine lv_aload_n hx hb dL_law_1486 rfl (lv_at hl 1 rfl) ?_
    refine lv_iload hx hb dL_law_1487 (lv_at hl 5 rfl) ?_
    refine lv_iconst (v := 2) hx hb dL_law_1489 (by decide) ?_
    refine lv_iadd hx hb dL_law_1490 ?_
    refine va_sld hx hb hX hbl hbA hS hin2 dL_law_1491 ?_
    refine rw_i (x' := v2) hv2 ?_
    refine lv_i2l (v := v2.toInt64) hx hb dL_law_1492 rfl ?_
    refine lv_ldc2 (v := 4294967295) hx hb hown (hts (.constantLong RL 177 4294967295) (by decide +kernel)) dL_law_1493 ?_
    refine lv_land hx hb dL_law_1496 ?_
    refine lv_lor hx hb dL_law_1497 ?_
    refine lv_aload_n hx hb dL_law_1498 rfl (lv_at hl 1 rfl) ?_
    refine lv_iload hx hb dL_law_1499 (lv_at hl 5 rfl) ?_
    refine lv_iconst (v := 3) hx hb dL_law_1501 (by decide) ?_
    refine lv_iadd hx hb dL_law_1502 ?_
    refine va_sld hx hb hX hbl hbA hS hin3 dL_law_1503 ?_
    refine rw_i (x' := v3) hv3 ?_
    have hpm := qm0 (T := (kW y ad zk ok 14) ++ (kW y sd zs os 2)) (pr_20 y h a jq mh w x9 ft z o c9_1 oc_1 x2 ad fl sd jo X fR fr f g fd fk fz o2)
    have hPc : va_P G vwCl [kX12 mh (w 0) (w 1) (w 2) (w 3) (w 4) (w 5) (w 6) (w 7) X, aI y (w 2) 154 f, aI y (w 3) 154 g, aI y (w 7) 20 o2] H := P_r (P_perm hpm hP)
    have hDc : va_D (fun q : Nat => s.heap.size ≤ q) [kX12 mh (w 0) (w 1) (w 2) (w 3) (w 4) (w 5) (w 6) (w 7) X, aI y (w 2) 154 f, aI y (w 3) 154 g, aI y (w 7) 20 o2] := D_r (D_perm hpm hD)
    refine cl_MP (fun u : (Nat → Int32) × (Nat → Int32) => ((lwE y h a jq mh w x9 ft z o c9_1 oc_1 x2 ad fl sd jo (s_X12_simulate_w0 v3 X) fR fr f u.1 fd fk fz u.2) ++ ((kW y ad zk ok 14) ++ (kW y sd zs os 2)))) hpm (fun u => qm0 (T := (kW y ad zk ok 14) ++ (kW y sd zs os 2)) (pr_20 y h a jq mh w x9 ft z o c9_1 oc_1 x2 ad fl sd jo (s_X12_simulate_w0 v3 X) fR fr f u.1 fd fk fz u.2)) (va_runV (As := [.long ((v1.toInt64 <<< ((32 : Int32).toInt64 &&& 63)) ||| (v2.toInt64 &&& 4294967295)), .int v3]) (rest := []) ⟨hx, hb, hml, hown, hts⟩ (c_X12_simulate l G y mh ((v1.toInt64 <<< ((32 : Int32).toInt64 &&& 63)) ||| (v2.toInt64 &&& 4294967295)) v3 (w 0) (w 1) (w 2) (w 3) (w 4) (w 5) (w 6) (w 7) X f g o2 H.size (wf_TK hW)) (cwV 2 hts gL_law_X12_simulate rfl rfl rfl (by decide +kernel) ⟨Nat.le_of_ble_eq_true rfl, Nat.le_of_ble_eq_true rfl⟩) (PH_V hPc hK4 hN hDc (ci := 10) (q0 := 0) rfl rfl) rfl rfl hl.1 rfl (lv_room (Nat.le_of_ble_eq_true rfl)) dL_law_1504 ⟨hkc, hks⟩) hP hD hS hA (fun u H locs hP hD hS => ?_)
    obtain ⟨g_X12, o_X12⟩ := u
    have hP : va_P G vwCl ((lwE y h a jq mh w x9 ft z o c9_1 oc_1 x2 ad fl sd jo (s_X12_simulate_w0 v3 X) fR fr f g_X12 fd fk fz o_X12) ++ ((kW y ad zk ok 14) ++ (kW y sd zs os 2))) H := hP
    have hD : va_D (fun q : Nat => s.heap.size ≤ q) ((lwE y h a jq mh w x9 ft z o c9_1 oc_1 x2 ad fl sd jo (s_X12_simulate_w0 v3 X) fR fr f g_X12 fd fk fz o_X12) ++ ((kW y ad zk ok 14) ++ (kW y sd zs os 2))) := hD
    obtain ⟨e2, hW2⟩ := ln_simulate hW hk
    have hT : s_X12_thrown_r (s_X12_simulate_w0 v3 X) = cdK 1 (s_X11_simulate_k v3) := (thr_eq _).trans e2
    refine lv_istore (lv' := [(6, .int (s_X12_simulate_r ((v1.toInt64 <<< ((32 : Int32).toInt64 &&& 63)) ||| (v2.toInt64 &&& 4294967295)) v3 f)), (5, .int (cdK 1 (s_X11_simulate_k v3))), (0, .ref b), (1, .ref h), (2, .ref mh), (3, .ref jq), (4, .int iv)]) hx hb dL_law_1507 hl (by decide) rfl (fun ls hl => ?_)
    refine lv_aload_n hx hb dL_law_1509 rfl (lv_at hl 4 rfl) ?_
    refine cl_Ri (va_runV (As := []) (rest := []) ⟨hx, hb, hml, hown, hts⟩ (c_X12_thrown l G y mh (w 0) (w 1) (w 2) (w 3) (w 4) (w 5) (w 6) (w 7) (s_X12_simulate_w0 v3 X)) (cwV 0 hts gL_law_X12_thrown rfl rfl rfl (by decide +kernel) ⟨Nat.le_of_ble_eq_true rfl, Nat.le_of_ble_eq_true rfl⟩) (PR_V (sel_P [50] (rfl : sel _ [50] = [kX12 mh (w 0) (w 1) (w 2) (w 3) (w 4) (w 5) (w 6) (w 7) (s_X12_simulate_w0 v3 X)]) hP) hK4 hN (ci := 10) (q0 := 0) rfl rfl) rfl rfl hl.1 rfl (lv_room (Nat.le_of_ble_eq_true rfl)) dL_law_1510 ⟨hkc, hks⟩) ?_
    refine lv_iload hx hb dL_law_1513 (lv_at hl 1 rfl) ?_
    refine lv_icmp_eq (tgt := 1520) hx hb dL_law_1515 (by decide) (fun _ => ?_) (fun c9 => absurd hT c9)
    refine lv_iload hx hb dL_law_1520 (lv_at hl 1 rfl) ?_
    refine lv_if_ne (tgt := 1537) hx hb dL_law_1522 (by decide) (fun _ => ?_) (fun c9 => absurd c9 (cd_n hk))
    refine lv_goto (tgt := 1652) hx hb dL_law_1537 (by decide) ?_
    refine W.widen (k := kc + 1) (n := ks + 6) (by omega) (by omega) ?_
    exact KN H locs ls ⟨x9, ft, z, o, c9_1, oc_1, x2, ad, zk, ok, fl, sd, zs, os, jo, (s_X12_simulate_w0 v3 X), fR, fr, f, g_X12, fd, fk, fz, o_X12, hP, hD, hW2⟩ hS (lv_sub hl [2, 3, 4, 5, 6] rfl)
set_option maxHeartbeats 2000000 in
set_option maxRecDepth 100000 in
theorem case_25 {p : Program} {l : Launch} {e : Env} {s : State} {m : MethodId} {below : List Frame} {meth : Method} {c : Code} {b L : Nat} {xs : Nat → Int32} {G : va_G} {y : Nat → ClassId} {h : Nat} {a : Nat → Nat} {jq mh : Nat} {w : Nat → Nat} {iv v1 v2 v3 : Int32} {N kc ks : Nat} {H : Heap} {locs : List Loc} {ls : Array Slot} (hfl : l.stackTraces = false) (C0 : lw_At p s m meth c b L xs) (hK : va_K G vwCl (tyJ y) s) (hN : NN s) (hTY : TY (fun q : Nat => s.heap.size ≤ q) s) (hin1 : vp_in (iv + 1) L) (hin2 : vp_in (iv + 2) L) (hin3 : vp_in (iv + 3) L) (hv1 : xs (iv + 1).toNatClampNeg = v1) (hv2 : xs (iv + 2).toNatClampNeg = v2) (hv3 : xs (iv + 3).toNatClampNeg = v3) (hkc : kc + 1 ≤ room_1.cells) (hks : ks + 6 ≤ room_1.slots) (hN9 : N + 12800 < 2147483648) (hI : LI G y h a jq mh w (fun q : Nat => s.heap.size ≤ q) N H) (hS : va_S (fun q : Nat => s.heap.size ≤ q) s.heap H locs) (hl : lv_has ls 7 [(0, .ref b), (1, .ref h), (2, .ref mh), (3, .ref jq), (4, .int iv)]) (KN : ∀ (H : Heap) (locs : List Loc) (ls : Array Slot), LI G y h a jq mh w (fun q : Nat => s.heap.size ≤ q) (N + 200) H → va_S (fun q : Nat => s.heap.size ≤ q) s.heap H locs → lv_has ls 7 [(0, .ref b), (1, .ref h), (2, .ref mh), (3, .ref jq), (4, .int iv)] → W p l e room_1 s m #[Value.ref b] below meth c H locs (kc + 1) (ks + 6) (lw_Z below #[Value.ref b] s) (F0 m 1652 ls [])) : W p l e room_1 s m #[Value.ref b] below meth c H locs kc ks (lw_Z below #[Value.ref b] s) (F0 m 1540 ls []) := by
  obtain ⟨hx, hb, hr, hml, hown, hts, hX, hbl, hlocks, hgv⟩ := C0
  have hts := fun w hh => hts w (wsL_law_in w hh)
  have hbA : ¬ (fun q : Nat => s.heap.size ≤ q) b := Nat.not_le.mpr hbl
  have hA : ∀ q : Nat, s.heap.size ≤ q → (fun q : Nat => s.heap.size ≤ q) q := fun _ h => h
  have hK4 : va_K G vwCl (tyG y) s := hK.sub (tys' := tyG y) [0, 1, 2, 3] rfl
  have hown : s.vm.findClass RL = some m.cls := hown
  have hkc0 : kc ≤ room_1.cells := Nat.le_of_succ_le hkc
  have hks0 : ks ≤ room_1.slots := Nat.le_trans (Nat.le_add_right ks 6) hks
  obtain ⟨x9, ft, z, o, zc, oc, x2, ad, zk, ok, fl, sd, zs, os, jo, X, fR, fr, f, g, fd, fk, fz, o2, hP, hD, hW⟩ := hI
  by_cases hk : (s_X11_save_k v1) = 0
  · refine lv_aload_n hx hb dL_law_1540 rfl (lv_at hl 1 rfl) ?_
    refine lv_aload_n hx hb dL_law_1541 rfl (lv_at hl 0 rfl) ?_
    refine lv_iload hx hb dL_law_1542 (lv_at hl 4 rfl) ?_
    refine lv_iconst (v := 1) hx hb dL_law_1544 (by decide) ?_
    refine lv_iadd hx hb dL_law_1545 ?_
    refine va_sld hx hb hX hbl hbA hS hin1 dL_law_1546 ?_
    refine rw_i (x' := v1) hv1 ?_
    refine lv_aload_n hx hb dL_law_1547 rfl (lv_at hl 3 rfl) ?_
    have hpm := qm2 (T1 := (kW y ad zk ok 14)) (T2 := (kW y sd zs os 2)) (pr_23 y h a jq mh w x9 ft z o zc oc x2 ad fl sd jo X fR fr f g fd fk fz o2)
    have hPc : va_P G vwCl ([aJ y jq 1 jo] ++ ([kX11 h (a 0) (a 2) (a 16) (a 30) (a 44) (a 46) Z0, kX6 (a 46) (a 47) (a 48) Z0, aQ y (a 47) 2 (fun i => some (sd i 0)), aZ y (a 48) 2 fl, kX7 (a 16) (a 17) (a 19) (a 20) (a 26) (a 28) (z 0), kX3 (a 17) (a 18) (z 1), aI y (a 18) 10 (z 2), kX1 (a 19) (z 3), kX8 (a 20) (a 21) (a 22) (a 23) (a 24) (a 25) (z 4), aI y (a 21) 20 (z 5), aI y (a 22) 20 (z 6), aI y (a 23) 20 (z 7), aI y (a 24) 20 (z 8), aI y (a 25) 20 o, kX10 (a 26) (a 27) (z 9), aI y (a 27) 32 (z 10), kX0 (a 28) (a 29) (z 11), aI y (a 29) 3 (z 12)] ++ (kW y sd zs os 2))) H := P_r (P_perm hpm hP)
    have hDc : va_D (fun q : Nat => s.heap.size ≤ q) ([aJ y jq 1 jo] ++ ([kX11 h (a 0) (a 2) (a 16) (a 30) (a 44) (a 46) Z0, kX6 (a 46) (a 47) (a 48) Z0, aQ y (a 47) 2 (fun i => some (sd i 0)), aZ y (a 48) 2 fl, kX7 (a 16) (a 17) (a 19) (a 20) (a 26) (a 28) (z 0), kX3 (a 17) (a 18) (z 1), aI y (a 18) 10 (z 2), kX1 (a 19) (z 3), kX8 (a 20) (a 21) (a 22) (a 23) (a 24) (a 25) (z 4), aI y (a 21) 20 (z 5), aI y (a 22) 20 (z 6), aI y (a 23) 20 (z 7), aI y (a 24) 20 (z 8), aI y (a 25) 20 o, kX10 (a 26) (a 27) (z 9), aI y (a 27) 32 (z 10), kX0 (a 28) (a 29) (z 11), aI y (a 29) 3 (z 12)] ++ (kW y sd zs os 2))) := D_r (D_perm hpm hD)
    have hFc : ∀ q, va_A ([aJ y jq 1 jo] ++ ([kX11 h (a 0) (a 2) (a 16) (a 30) (a 44) (a 46) Z0, kX6 (a 46) (a 47) (a 48) Z0, aQ y (a 47) 2 (fun i => some (sd i 0)), aZ y (a 48) 2 fl, kX7 (a 16) (a 17) (a 19) (a 20) (a 26) (a 28) (z 0), kX3 (a 17) (a 18) (z 1), aI y (a 18) 10 (z 2), kX1 (a 19) (z 3), kX8 (a 20) (a 21) (a 22) (a 23) (a 24) (a 25) (z 4), aI y (a 21) 20 (z 5), aI y (a 22) 20 (z 6), aI y (a 23) 20 (z 7), aI y (a 24) 20 (z 8), aI y (a 25) 20 o, kX10 (a 26) (a 27) (z 9), aI y (a 27) 32 (z 10), kX0 (a 28) (a 29) (z 11), aI y (a 29) 3 (z 12)] ++ (kW y sd zs os 2))) H.size q → s.heap.size ≤ q := F_r (D_perm hpm hD) hS hA
    refine cl_LP (fun _ : Unit => ((lwE y h a jq mh w x9 ft z o zc oc x2 ad (upd fl (tn v1) 1) sd (vp_updL jo 0 (s_X11_save_r z).toInt64) X fR fr f g fd fk fz o2) ++ ((kW y ad zk ok 14) ++ (kW y sd (uK zs (tn v1) z) os 2)))) hpm (fun _ => qm2 (T1 := (kW y ad zk ok 14)) (T2 := (kW y sd (uK zs (tn v1) z) os 2)) (pr_23 y h a jq mh w x9 ft z o zc oc x2 ad (upd fl (tn v1) 1) sd (vp_updL jo 0 (s_X11_save_r z).toInt64) X fR fr f g fd fk fz o2)) (vx_runSX (As := [.ref h, .int v1, .ref jq]) (rest := []) ⟨hx, hb, hml, hown, hts⟩ (c_L_save_y l G y h v1 (a 0) (a 2) (a 16) (a 30) (a 44) (a 46) (a 47) (a 48) Z0 fl (a 17) (a 19) (a 20) (a 26) (a 28) z (a 18) (a 21) (a 22) (a 23) (a 24) (a 25) o (a 27) (a 29) sd zs os jq jo H.size (wf_b hW).1 (wf_b hW).2.1 (wf_b hW).2.2 hk hfl) (vx_cwSW 3 hts gL_law_L_save rfl rfl rfl (by decide +kernel) ⟨Nat.le_of_ble_eq_true rfl, Nat.le_of_ble_eq_true rfl⟩) (PHL_S hPc hK hN hDc hTY hS hFc) rfl rfl hl.1 rfl (lv_room (Nat.le_of_ble_eq_true rfl)) dL_law_1548 ⟨hkc, hks⟩) hP hD hS hA (fun _ H locs hP hD hS => ?_)
    have hP : va_P G vwCl ((lwE y h a jq mh w x9 ft z o zc oc x2 ad (upd fl (tn v1) 1) sd (vp_updL jo 0 (s_X11_save_r z).toInt64) X fR fr f g fd fk fz o2) ++ ((kW y ad zk ok 14) ++ (kW y sd (uK zs (tn v1) z) os 2))) H := hP
    have hD : va_D (fun q : Nat => s.heap.size ≤ q) ((lwE y h a jq mh w x9 ft z o zc oc x2 ad (upd fl (tn v1) 1) sd (vp_updL jo 0 (s_X11_save_r z).toInt64) X fR fr f g fd fk fz o2) ++ ((kW y ad zk ok 14) ++ (kW y sd (uK zs (tn v1) z) os 2))) := hD
    refine lv_istore (lv' := [(5, .int 0), (0, .ref b), (1, .ref h), (2, .ref mh), (3, .ref jq), (4, .int iv)]) hx hb dL_law_1551 hl (by decide) rfl (fun ls hl => ?_)
    refine lv_aload_n hx hb dL_law_1553 rfl (lv_at hl 3 rfl) ?_
    refine lv_aload_n hx hb dL_law_1554 rfl (lv_at hl 1 rfl) ?_
    refine lv_iload hx hb dL_law_1555 (lv_at hl 5 rfl) ?_
    refine lv_iconst (v := 1) hx hb dL_law_1557 (by decide) ?_
    refine lv_iadd hx hb dL_law_1558 ?_
    refine va_sld hx hb hX hbl hbA hS hin1 dL_law_1559 ?_
    refine rw_i (x' := v1) hv1 ?_
    have hpm := qm0 (T := (kW y ad zk ok 14) ++ (kW y sd (uK zs (tn v1) z) os 2)) (pr_24 y h a jq mh w x9 ft z o zc oc x2 ad (upd fl (tn v1) 1) sd (vp_updL jo 0 (s_X11_save_r z).toInt64) X fR fr f g fd fk fz o2)
    have hPc : va_P G vwCl [kX12 mh (w 0) (w 1) (w 2) (w 3) (w 4) (w 5) (w 6) (w 7) X, aI y (w 2) 154 f, aI y (w 5) 308 fk, aZ y (w 6) 2 fz] H := P_r (P_perm hpm hP)
    have hDc : va_D (fun q : Nat => s.heap.size ≤ q) [kX12 mh (w 0) (w 1) (w 2) (w 3) (w 4) (w 5) (w 6) (w 7) X, aI y (w 2) 154 f, aI y (w 5) 308 fk, aZ y (w 6) 2 fz] := D_r (D_perm hpm hD)
    refine cl_MP (fun _ : Unit => ((lwE y h a jq mh w x9 ft z o zc oc x2 ad (upd fl (tn v1) 1) sd (vp_updL jo 0 (s_X11_save_r z).toInt64) (s_X12_save_w0 v1 X) fR fr f g fd (s_X12_save_w2 v1 f fk) (s_X12_save_w3 v1 fz) o2) ++ ((kW y ad zk ok 14) ++ (kW y sd (uK zs (tn v1) z) os 2)))) hpm (fun _ => qm0 (T := (kW y ad zk ok 14) ++ (kW y sd (uK zs (tn v1) z) os 2)) (pr_24 y h a jq mh w x9 ft z o zc oc x2 ad (upd fl (tn v1) 1) sd (vp_updL jo 0 (s_X11_save_r z).toInt64) (s_X12_save_w0 v1 X) fR fr f g fd (s_X12_save_w2 v1 f fk) (s_X12_save_w3 v1 fz) o2)) (va_runV (As := [.int v1]) (rest := []) ⟨hx, hb, hml, hown, hts⟩ (c_X12_save l G y mh v1 (w 0) (w 1) (w 2) (w 3) (w 4) (w 5) (w 6) (w 7) X f fk fz H.size) (cwV 1 hts gL_law_X12_save rfl rfl rfl (by decide +kernel) ⟨Nat.le_of_ble_eq_true rfl, Nat.le_of_ble_eq_true rfl⟩) (PH_V hPc hK4 hN hDc (ci := 10) (q0 := 0) rfl rfl) rfl rfl hl.1 rfl (lv_room (Nat.le_of_ble_eq_true rfl)) dL_law_1560 ⟨hkc, hks⟩) hP hD hS hA (fun _ H locs hP hD hS => ?_)
    have hP : va_P G vwCl ((lwE y h a jq mh w x9 ft z o zc oc x2 ad (upd fl (tn v1) 1) sd (vp_updL jo 0 (s_X11_save_r z).toInt64) (s_X12_save_w0 v1 X) fR fr f g fd (s_X12_save_w2 v1 f fk) (s_X12_save_w3 v1 fz) o2) ++ ((kW y ad zk ok 14) ++ (kW y sd (uK zs (tn v1) z) os 2))) H := hP
    have hD : va_D (fun q : Nat => s.heap.size ≤ q) ((lwE y h a jq mh w x9 ft z o zc oc x2 ad (upd fl (tn v1) 1) sd (vp_updL jo 0 (s_X11_save_r z).toInt64) (s_X12_save_w0 v1 X) fR fr f g fd (s_X12_save_w2 v1 f fk) (s_X12_save_w3 v1 fz) o2) ++ ((kW y ad zk ok 14) ++ (kW y sd (uK zs (tn v1) z) os 2))) := hD
    obtain ⟨e1, e2, hW2⟩ := ly_save hW hN9 hk
    have hT : s_X12_thrown_r (s_X12_save_w0 v1 X) = 0 := (thr_eq _).trans e2
    refine lv_istore (lv' := [(6, .int (s_X12_save_r v1 f)), (5, .int 0), (0, .ref b), (1, .ref h), (2, .ref mh), (3, .ref jq), (4, .int iv)]) hx hb dL_law_1563 hl (by decide) rfl (fun ls hl => ?_)
    refine lv_aload_n hx hb dL_law_1565 rfl (lv_at hl 4 rfl) ?_
    refine cl_Ri (va_runV (As := []) (rest := []) ⟨hx, hb, hml, hown, hts⟩ (c_X12_thrown l G y mh (w 0) (w 1) (w 2) (w 3) (w 4) (w 5) (w 6) (w 7) (s_X12_save_w0 v1 X)) (cwV 0 hts gL_law_X12_thrown rfl rfl rfl (by decide +kernel) ⟨Nat.le_of_ble_eq_true rfl, Nat.le_of_ble_eq_true rfl⟩) (PR_V (sel_P [50] (rfl : sel _ [50] = [kX12 mh (w 0) (w 1) (w 2) (w 3) (w 4) (w 5) (w 6) (w 7) (s_X12_save_w0 v1 X)]) hP) hK4 hN (ci := 10) (q0 := 0) rfl rfl) rfl rfl hl.1 rfl (lv_room (Nat.le_of_ble_eq_true rfl)) dL_law_1566 ⟨hkc, hks⟩) ?_
    refine lv_iload hx hb dL_law_1569 (lv_at hl 1 rfl) ?_
    refine lv_icmp_eq (tgt := 1576) hx hb dL_law_1571 (by decide) (fun _ => ?_) (fun c9 => absurd hT c9)
    refine lv_iload hx hb dL_law_1576 (lv_at hl 1 rfl) ?_
    refine lv_if_ne (tgt := 1593) hx hb dL_law_1578 (by decide) (fun c9 => absurd rfl c9) (fun _ => ?_)
    refine lv_aload_n hx hb dL_law_1581 rfl (lv_at hl 5 rfl) ?_
    refine lv_iconst (v := 0) hx hb dL_law_1582 (by decide) ?_
    refine al_o hx hb hK 59 hP rfl dL_law_1583 ?_
    refine lv_iload hx hb dL_law_1584 (lv_at hl 0 rfl) ?_
    refine lv_i2l (v := (s_X12_save_r v1 f).toInt64) hx hb dL_law_1586 rfl ?_
    refine W.lcmp hx hb dL_law_1587 ?_
    refine lv_if_eq (tgt := 1593) hx hb dL_law_1588 (by decide) (fun _ => ?_) (fun c9 => absurd (lg_o e1) c9)
    refine lv_goto (tgt := 1652) hx hb dL_law_1593 (by decide) ?_
    refine W.widen (k := kc + 1) (n := ks + 6) (by omega) (by omega) ?_
    exact KN H locs ls ⟨x9, ft, z, o, zc, oc, x2, ad, zk, ok, (upd fl (tn v1) 1), sd, (uK zs (tn v1) z), os, (vp_updL jo 0 (s_X11_save_r z).toInt64), (s_X12_save_w0 v1 X), fR, fr, f, g, fd, (s_X12_save_w2 v1 f fk), (s_X12_save_w3 v1 fz), o2, hP, hD, hW2⟩ hS (lv_sub hl [2, 3, 4, 5, 6] rfl)
  · refine lv_aload_n hx hb dL_law_1540 rfl (lv_at hl 1 rfl) ?_
    refine lv_aload_n hx hb dL_law_1541 rfl (lv_at hl 0 rfl) ?_
    refine lv_iload hx hb dL_law_1542 (lv_at hl 4 rfl) ?_
    refine lv_iconst (v := 1) hx hb dL_law_1544 (by decide) ?_
    refine lv_iadd hx hb dL_law_1545 ?_
    refine va_sld hx hb hX hbl hbA hS hin1 dL_law_1546 ?_
    refine rw_i (x' := v1) hv1 ?_
    refine lv_aload_n hx hb dL_law_1547 rfl (lv_at hl 3 rfl) ?_
    have hpm := qm2 (T1 := (kW y ad zk ok 14)) (T2 := (kW y sd zs os 2)) (pr_23 y h a jq mh w x9 ft z o zc oc x2 ad fl sd jo X fR fr f g fd fk fz o2)
    have hPc : va_P G vwCl ([aJ y jq 1 jo] ++ ([kX11 h (a 0) (a 2) (a 16) (a 30) (a 44) (a 46) Z0, kX6 (a 46) (a 47) (a 48) Z0, aQ y (a 47) 2 (fun i => some (sd i 0)), aZ y (a 48) 2 fl, kX7 (a 16) (a 17) (a 19) (a 20) (a 26) (a 28) (z 0), kX3 (a 17) (a 18) (z 1), aI y (a 18) 10 (z 2), kX1 (a 19) (z 3), kX8 (a 20) (a 21) (a 22) (a 23) (a 24) (a 25) (z 4), aI y (a 21) 20 (z 5), aI y (a 22) 20 (z 6), aI y (a 23) 20 (z 7), aI y (a 24) 20 (z 8), aI y (a 25) 20 o, kX10 (a 26) (a 27) (z 9), aI y (a 27) 32 (z 10), kX0 (a 28) (a 29) (z 11), aI y (a 29) 3 (z 12)] ++ (kW y sd zs os 2))) H := P_r (P_perm hpm hP)
    have hDc : va_D (fun q : Nat => s.heap.size ≤ q) ([aJ y jq 1 jo] ++ ([kX11 h (a 0) (a 2) (a 16) (a 30) (a 44) (a 46) Z0, kX6 (a 46) (a 47) (a 48) Z0, aQ y (a 47) 2 (fun i => some (sd i 0)), aZ y (a 48) 2 fl, kX7 (a 16) (a 17) (a 19) (a 20) (a 26) (a 28) (z 0), kX3 (a 17) (a 18) (z 1), aI y (a 18) 10 (z 2), kX1 (a 19) (z 3), kX8 (a 20) (a 21) (a 22) (a 23) (a 24) (a 25) (z 4), aI y (a 21) 20 (z 5), aI y (a 22) 20 (z 6), aI y (a 23) 20 (z 7), aI y (a 24) 20 (z 8), aI y (a 25) 20 o, kX10 (a 26) (a 27) (z 9), aI y (a 27) 32 (z 10), kX0 (a 28) (a 29) (z 11), aI y (a 29) 3 (z 12)] ++ (kW y sd zs os 2))) := D_r (D_perm hpm hD)
    have hFc : ∀ q, va_A ([aJ y jq 1 jo] ++ ([kX11 h (a 0) (a 2) (a 16) (a 30) (a 44) (a 46) Z0, kX6 (a 46) (a 47) (a 48) Z0, aQ y (a 47) 2 (fun i => some (sd i 0)), aZ y (a 48) 2 fl, kX7 (a 16) (a 17) (a 19) (a 20) (a 26) (a 28) (z 0), kX3 (a 17) (a 18) (z 1), aI y (a 18) 10 (z 2), kX1 (a 19) (z 3), kX8 (a 20) (a 21) (a 22) (a 23) (a 24) (a 25) (z 4), aI y (a 21) 20 (z 5), aI y (a 22) 20 (z 6), aI y (a 23) 20 (z 7), aI y (a 24) 20 (z 8), aI y (a 25) 20 o, kX10 (a 26) (a 27) (z 9), aI y (a 27) 32 (z 10), kX0 (a 28) (a 29) (z 11), aI y (a 29) 3 (z 12)] ++ (kW y sd zs os 2))) H.size q → s.heap.size ≤ q := F_r (D_perm hpm hD) hS hA
    refine cl_LP (fun _ : Unit => ((lwE y h a jq mh w x9 ft z o zc oc x2 ad fl sd jo X fR fr f g fd fk fz o2) ++ ((kW y ad zk ok 14) ++ (kW y sd zs os 2)))) hpm (fun _ => qm2 (T1 := (kW y ad zk ok 14)) (T2 := (kW y sd zs os 2)) (pr_23 y h a jq mh w x9 ft z o zc oc x2 ad fl sd jo X fR fr f g fd fk fz o2)) (vx_runSX (As := [.ref h, .int v1, .ref jq]) (rest := []) ⟨hx, hb, hml, hown, hts⟩ (c_L_save_n l G y h v1 (a 0) (a 2) (a 16) (a 30) (a 44) (a 46) (a 47) (a 48) Z0 fl (a 17) (a 19) (a 20) (a 26) (a 28) z (a 18) (a 21) (a 22) (a 23) (a 24) (a 25) o (a 27) (a 29) sd zs os jq jo H.size (wf_b hW).1 (wf_b hW).2.1 (wf_b hW).2.2 hk hfl) (vx_cwSW 3 hts gL_law_L_save rfl rfl rfl (by decide +kernel) ⟨Nat.le_of_ble_eq_true rfl, Nat.le_of_ble_eq_true rfl⟩) (PHL_S hPc hK hN hDc hTY hS hFc) rfl rfl hl.1 rfl (lv_room (Nat.le_of_ble_eq_true rfl)) dL_law_1548 ⟨hkc, hks⟩) hP hD hS hA (fun _ H locs hP hD hS => ?_)
    have hP : va_P G vwCl ((lwE y h a jq mh w x9 ft z o zc oc x2 ad fl sd jo X fR fr f g fd fk fz o2) ++ ((kW y ad zk ok 14) ++ (kW y sd zs os 2))) H := hP
    have hD : va_D (fun q : Nat => s.heap.size ≤ q) ((lwE y h a jq mh w x9 ft z o zc oc x2 ad fl sd jo X fR fr f g fd fk fz o2) ++ ((kW y ad zk ok 14) ++ (kW y sd zs os 2))) := hD
    refine lv_istore (lv' := [(5, .int (cdK 3 (s_X11_save_k v1))), (0, .ref b), (1, .ref h), (2, .ref mh), (3, .ref jq), (4, .int iv)]) hx hb dL_law_1551 hl (by decide) rfl (fun ls hl => ?_)
    refine lv_aload_n hx hb dL_law_1553 rfl (lv_at hl 3 rfl) ?_
    refine lv_aload_n hx hb dL_law_1554 rfl (lv_at hl 1 rfl) ?_
    refine lv_iload hx hb dL_law_1555 (lv_at hl 5 rfl) ?_
    refine lv_iconst (v := 1) hx hb dL_law_1557 (by decide) ?_
    refine lv_iadd hx hb dL_law_1558 ?_
    refine va_sld hx hb hX hbl hbA hS hin1 dL_law_1559 ?_
    refine rw_i (x' := v1) hv1 ?_
    have hpm := qm0 (T := (kW y ad zk ok 14) ++ (kW y sd zs os 2)) (pr_24 y h a jq mh w x9 ft z o zc oc x2 ad fl sd jo X fR fr f g fd fk fz o2)
    have hPc : va_P G vwCl [kX12 mh (w 0) (w 1) (w 2) (w 3) (w 4) (w 5) (w 6) (w 7) X, aI y (w 2) 154 f, aI y (w 5) 308 fk, aZ y (w 6) 2 fz] H := P_r (P_perm hpm hP)
    have hDc : va_D (fun q : Nat => s.heap.size ≤ q) [kX12 mh (w 0) (w 1) (w 2) (w 3) (w 4) (w 5) (w 6) (w 7) X, aI y (w 2) 154 f, aI y (w 5) 308 fk, aZ y (w 6) 2 fz] := D_r (D_perm hpm hD)
    refine cl_MP (fun _ : Unit => ((lwE y h a jq mh w x9 ft z o zc oc x2 ad fl sd jo (s_X12_save_w0 v1 X) fR fr f g fd (s_X12_save_w2 v1 f fk) (s_X12_save_w3 v1 fz) o2) ++ ((kW y ad zk ok 14) ++ (kW y sd zs os 2)))) hpm (fun _ => qm0 (T := (kW y ad zk ok 14) ++ (kW y sd zs os 2)) (pr_24 y h a jq mh w x9 ft z o zc oc x2 ad fl sd jo (s_X12_save_w0 v1 X) fR fr f g fd (s_X12_save_w2 v1 f fk) (s_X12_save_w3 v1 fz) o2)) (va_runV (As := [.int v1]) (rest := []) ⟨hx, hb, hml, hown, hts⟩ (c_X12_save l G y mh v1 (w 0) (w 1) (w 2) (w 3) (w 4) (w 5) (w 6) (w 7) X f fk fz H.size) (cwV 1 hts gL_law_X12_save rfl rfl rfl (by decide +kernel) ⟨Nat.le_of_ble_eq_true rfl, Nat.le_of_ble_eq_true rfl⟩) (PH_V hPc hK4 hN hDc (ci := 10) (q0 := 0) rfl rfl) rfl rfl hl.1 rfl (lv_room (Nat.le_of_ble_eq_true rfl)) dL_law_1560 ⟨hkc, hks⟩) hP hD hS hA (fun _ H locs hP hD hS => ?_)
    have hP : va_P G vwCl ((lwE y h a jq mh w x9 ft z o zc oc x2 ad fl sd jo (s_X12_save_w0 v1 X) fR fr f g fd (s_X12_save_w2 v1 f fk) (s_X12_save_w3 v1 fz) o2) ++ ((kW y ad zk ok 14) ++ (kW y sd zs os 2))) H := hP
    have hD : va_D (fun q : Nat => s.heap.size ≤ q) ((lwE y h a jq mh w x9 ft z o zc oc x2 ad fl sd jo (s_X12_save_w0 v1 X) fR fr f g fd (s_X12_save_w2 v1 f fk) (s_X12_save_w3 v1 fz) o2) ++ ((kW y ad zk ok 14) ++ (kW y sd zs os 2))) := hD
    obtain ⟨e2, hW2⟩ := ln_save hW hk
    have hT : s_X12_thrown_r (s_X12_save_w0 v1 X) = cdK 3 (s_X11_save_k v1) := (thr_eq _).trans e2
    refine lv_istore (lv' := [(6, .int (s_X12_save_r v1 f)), (5, .int (cdK 3 (s_X11_save_k v1))), (0, .ref b), (1, .ref h), (2, .ref mh), (3, .ref jq), (4, .int iv)]) hx hb dL_law_1563 hl (by decide) rfl (fun ls hl => ?_)
    refine lv_aload_n hx hb dL_law_1565 rfl (lv_at hl 4 rfl) ?_
    refine cl_Ri (va_runV (As := []) (rest := []) ⟨hx, hb, hml, hown, hts⟩ (c_X12_thrown l G y mh (w 0) (w 1) (w 2) (w 3) (w 4) (w 5) (w 6) (w 7) (s_X12_save_w0 v1 X)) (cwV 0 hts gL_law_X12_thrown rfl rfl rfl (by decide +kernel) ⟨Nat.le_of_ble_eq_true rfl, Nat.le_of_ble_eq_true rfl⟩) (PR_V (sel_P [50] (rfl : sel _ [50] = [kX12 mh (w 0) (w 1) (w 2) (w 3) (w 4) (w 5) (w 6) (w 7) (s_X12_save_w0 v1 X)]) hP) hK4 hN (ci := 10) (q0 := 0) rfl rfl) rfl rfl hl.1 rfl (lv_room (Nat.le_of_ble_eq_true rfl)) dL_law_1566 ⟨hkc, hks⟩) ?_
    refine lv_iload hx hb dL_law_1569 (lv_at hl 1 rfl) ?_
    refine lv_icmp_eq (tgt := 1576) hx hb dL_law_1571 (by decide) (fun _ => ?_) (fun c9 => absurd hT c9)
    refine lv_iload hx hb dL_law_1576 (lv_at hl 1 rfl) ?_
    refine lv_if_ne (tgt := 1593) hx hb dL_law_1578 (by decide) (fun _ => ?_) (fun c9 => absurd c9 (cd_n hk))
    refine lv_goto (tgt := 1652) hx hb dL_law_1593 (by decide) ?_
    refine W.widen (k := kc + 1) (n := ks + 6) (by omega) (by omega) ?_
    exact KN H locs ls ⟨x9, ft, z, o, zc, oc, x2, ad, zk, ok, fl, sd, zs, os, jo, (s_X12_save_w0 v1 X), fR, fr, f, g, fd, (s_X12_save_w2 v1 f fk), (s_X12_save_w3 v1 fz), o2, hP, hD, hW2⟩ hS (lv_sub hl [2, 3, 4, 5, 6] rfl)
set_option maxHeartbeats 2000000 in
set_option maxRecDepth 100000 in
theorem case_26 {p : Program} {l : Launch} {e : Env} {s : State} {m : MethodId} {below : List Frame} {meth : Method} {c : Code} {b L : Nat} {xs : Nat → Int32} {G : va_G} {y : Nat → ClassId} {h : Nat} {a : Nat → Nat} {jq mh : Nat} {w : Nat → Nat} {iv v1 v2 v3 : Int32} {N kc ks : Nat} {H : Heap} {locs : List Loc} {ls : Array Slot} (hfl : l.stackTraces = false) (C0 : lw_At p s m meth c b L xs) (hK : va_K G vwCl (tyJ y) s) (hN : NN s) (hTY : TY (fun q : Nat => s.heap.size ≤ q) s) (hin1 : vp_in (iv + 1) L) (hin2 : vp_in (iv + 2) L) (hin3 : vp_in (iv + 3) L) (hv1 : xs (iv + 1).toNatClampNeg = v1) (hv2 : xs (iv + 2).toNatClampNeg = v2) (hv3 : xs (iv + 3).toNatClampNeg = v3) (hkc : kc + 1 ≤ room_1.cells) (hks : ks + 6 ≤ room_1.slots) (hN9 : N + 12800 < 2147483648) (hI : LI G y h a jq mh w (fun q : Nat => s.heap.size ≤ q) N H) (hS : va_S (fun q : Nat => s.heap.size ≤ q) s.heap H locs) (hl : lv_has ls 7 [(0, .ref b), (1, .ref h), (2, .ref mh), (3, .ref jq), (4, .int iv)]) (KN : ∀ (H : Heap) (locs : List Loc) (ls : Array Slot), LI G y h a jq mh w (fun q : Nat => s.heap.size ≤ q) (N + 200) H → va_S (fun q : Nat => s.heap.size ≤ q) s.heap H locs → lv_has ls 7 [(0, .ref b), (1, .ref h), (2, .ref mh), (3, .ref jq), (4, .int iv)] → W p l e room_1 s m #[Value.ref b] below meth c H locs (kc + 1) (ks + 6) (lw_Z below #[Value.ref b] s) (F0 m 1652 ls [])) : W p l e room_1 s m #[Value.ref b] below meth c H locs kc ks (lw_Z below #[Value.ref b] s) (F0 m 1596 ls []) := by
  obtain ⟨hx, hb, hr, hml, hown, hts, hX, hbl, hlocks, hgv⟩ := C0
  have hts := fun w hh => hts w (wsL_law_in w hh)
  have hbA : ¬ (fun q : Nat => s.heap.size ≤ q) b := Nat.not_le.mpr hbl
  have hA : ∀ q : Nat, s.heap.size ≤ q → (fun q : Nat => s.heap.size ≤ q) q := fun _ h => h
  have hK4 : va_K G vwCl (tyG y) s := hK.sub (tys' := tyG y) [0, 1, 2, 3] rfl
  have hown : s.vm.findClass RL = some m.cls := hown
  have hkc0 : kc ≤ room_1.cells := Nat.le_of_succ_le hkc
  have hks0 : ks ≤ room_1.slots := Nat.le_trans (Nat.le_add_right ks 6) hks
  obtain ⟨x9, ft, z, o, zc, oc, x2, ad, zk, ok, fl, sd, zs, os, jo, X, fR, fr, f, g, fd, fk, fz, o2, hP, hD, hW⟩ := hI
  by_cases hk : (s_X11_restore_k v1 fl) = 0
  · refine lv_aload_n hx hb dL_law_1596 rfl (lv_at hl 1 rfl) ?_
    refine lv_aload_n hx hb dL_law_1597 rfl (lv_at hl 0 rfl) ?_
    refine lv_iload hx hb dL_law_1598 (lv_at hl 4 rfl) ?_
    refine lv_iconst (v := 1) hx hb dL_law_1600 (by decide) ?_
    refine lv_iadd hx hb dL_law_1601 ?_
    refine va_sld hx hb hX hbl hbA hS hin1 dL_law_1602 ?_
    refine rw_i (x' := v1) hv1 ?_
    refine lv_aload_n hx hb dL_law_1603 rfl (lv_at hl 3 rfl) ?_
    have hpm := qm2 (T1 := (kW y ad zk ok 14)) (T2 := (kW y sd zs os 2)) (pr_25 y h a jq mh w x9 ft z o zc oc x2 ad fl sd jo X fR fr f g fd fk fz o2)
    have hPc : va_P G vwCl ([aJ y jq 1 jo] ++ ([kX11 h (a 0) (a 2) (a 16) (a 30) (a 44) (a 46) Z0, kX2 (a 44) (a 45) x2, kX6 (a 46) (a 47) (a 48) Z0, aQ y (a 47) 2 (fun i => some (sd i 0)), aZ y (a 48) 2 fl, kX7 (a 16) (a 17) (a 19) (a 20) (a 26) (a 28) (z 0), kX3 (a 17) (a 18) (z 1), aI y (a 18) 10 (z 2), kX1 (a 19) (z 3), kX8 (a 20) (a 21) (a 22) (a 23) (a 24) (a 25) (z 4), aI y (a 21) 20 (z 5), aI y (a 22) 20 (z 6), aI y (a 23) 20 (z 7), aI y (a 24) 20 (z 8), aI y (a 25) 20 o, kX10 (a 26) (a 27) (z 9), aI y (a 27) 32 (z 10), kX0 (a 28) (a 29) (z 11), aI y (a 29) 3 (z 12)] ++ (kW y sd zs os 2))) H := P_r (P_perm hpm hP)
    have hDc : va_D (fun q : Nat => s.heap.size ≤ q) ([aJ y jq 1 jo] ++ ([kX11 h (a 0) (a 2) (a 16) (a 30) (a 44) (a 46) Z0, kX2 (a 44) (a 45) x2, kX6 (a 46) (a 47) (a 48) Z0, aQ y (a 47) 2 (fun i => some (sd i 0)), aZ y (a 48) 2 fl, kX7 (a 16) (a 17) (a 19) (a 20) (a 26) (a 28) (z 0), kX3 (a 17) (a 18) (z 1), aI y (a 18) 10 (z 2), kX1 (a 19) (z 3), kX8 (a 20) (a 21) (a 22) (a 23) (a 24) (a 25) (z 4), aI y (a 21) 20 (z 5), aI y (a 22) 20 (z 6), aI y (a 23) 20 (z 7), aI y (a 24) 20 (z 8), aI y (a 25) 20 o, kX10 (a 26) (a 27) (z 9), aI y (a 27) 32 (z 10), kX0 (a 28) (a 29) (z 11), aI y (a 29) 3 (z 12)] ++ (kW y sd zs os 2))) := D_r (D_perm hpm hD)
    have hFc : ∀ q, va_A ([aJ y jq 1 jo] ++ ([kX11 h (a 0) (a 2) (a 16) (a 30) (a 44) (a 46) Z0, kX2 (a 44) (a 45) x2, kX6 (a 46) (a 47) (a 48) Z0, aQ y (a 47) 2 (fun i => some (sd i 0)), aZ y (a 48) 2 fl, kX7 (a 16) (a 17) (a 19) (a 20) (a 26) (a 28) (z 0), kX3 (a 17) (a 18) (z 1), aI y (a 18) 10 (z 2), kX1 (a 19) (z 3), kX8 (a 20) (a 21) (a 22) (a 23) (a 24) (a 25) (z 4), aI y (a 21) 20 (z 5), aI y (a 22) 20 (z 6), aI y (a 23) 20 (z 7), aI y (a 24) 20 (z 8), aI y (a 25) 20 o, kX10 (a 26) (a 27) (z 9), aI y (a 27) 32 (z 10), kX0 (a 28) (a 29) (z 11), aI y (a 29) 3 (z 12)] ++ (kW y sd zs os 2))) H.size q → s.heap.size ≤ q := F_r (D_perm hpm hD) hS hA
    refine cl_LP (fun _ : Unit => ((lwE y h a jq mh w x9 ft (zs (tn v1)) o zc oc (s_X11_restore_w1 x2) ad fl sd (vp_updL jo 0 (s_X11_restore_r v1 zs).toInt64) X fR fr f g fd fk fz o2) ++ ((kW y ad zk ok 14) ++ (kW y sd zs os 2)))) hpm (fun _ => qm2 (T1 := (kW y ad zk ok 14)) (T2 := (kW y sd zs os 2)) (pr_25 y h a jq mh w x9 ft (zs (tn v1)) o zc oc (s_X11_restore_w1 x2) ad fl sd (vp_updL jo 0 (s_X11_restore_r v1 zs).toInt64) X fR fr f g fd fk fz o2)) (vx_runSX (As := [.ref h, .int v1, .ref jq]) (rest := []) ⟨hx, hb, hml, hown, hts⟩ (c_L_restore_y l G y h v1 (a 0) (a 2) (a 16) (a 30) (a 44) (a 46) (a 45) x2 (a 47) (a 48) Z0 fl (a 17) (a 19) (a 20) (a 26) (a 28) z (a 18) (a 21) (a 22) (a 23) (a 24) (a 25) o (a 27) (a 29) sd zs os jq jo H.size (hW.2.2.2.2.2 _).1 (hW.2.2.2.2.2 _).2.1 (hW.2.2.2.2.2 _).2.2 hk hfl) (vx_cwSW 3 hts gL_law_L_restore rfl rfl rfl (by decide +kernel) ⟨Nat.le_of_ble_eq_true rfl, Nat.le_of_ble_eq_true rfl⟩) (PHL_S hPc hK hN hDc hTY hS hFc) rfl rfl hl.1 rfl (lv_room (Nat.le_of_ble_eq_true rfl)) dL_law_1604 ⟨hkc, hks⟩) hP hD hS hA (fun _ H locs hP hD hS => ?_)
    have hP : va_P G vwCl ((lwE y h a jq mh w x9 ft (zs (tn v1)) o zc oc (s_X11_restore_w1 x2) ad fl sd (vp_updL jo 0 (s_X11_restore_r v1 zs).toInt64) X fR fr f g fd fk fz o2) ++ ((kW y ad zk ok 14) ++ (kW y sd zs os 2))) H := hP
    have hD : va_D (fun q : Nat => s.heap.size ≤ q) ((lwE y h a jq mh w x9 ft (zs (tn v1)) o zc oc (s_X11_restore_w1 x2) ad fl sd (vp_updL jo 0 (s_X11_restore_r v1 zs).toInt64) X fR fr f g fd fk fz o2) ++ ((kW y ad zk ok 14) ++ (kW y sd zs os 2))) := hD
    refine lv_istore (lv' := [(5, .int 0), (0, .ref b), (1, .ref h), (2, .ref mh), (3, .ref jq), (4, .int iv)]) hx hb dL_law_1607 hl (by decide) rfl (fun ls hl => ?_)
    refine lv_aload_n hx hb dL_law_1609 rfl (lv_at hl 3 rfl) ?_
    refine lv_aload_n hx hb dL_law_1610 rfl (lv_at hl 1 rfl) ?_
    refine lv_iload hx hb dL_law_1611 (lv_at hl 5 rfl) ?_
    refine lv_iconst (v := 1) hx hb dL_law_1613 (by decide) ?_
    refine lv_iadd hx hb dL_law_1614 ?_
    refine va_sld hx hb hX hbl hbA hS hin1 dL_law_1615 ?_
    refine rw_i (x' := v1) hv1 ?_
    have hpm := qm0 (T := (kW y ad zk ok 14) ++ (kW y sd zs os 2)) (pr_24 y h a jq mh w x9 ft (zs (tn v1)) o zc oc (s_X11_restore_w1 x2) ad fl sd (vp_updL jo 0 (s_X11_restore_r v1 zs).toInt64) X fR fr f g fd fk fz o2)
    have hPc : va_P G vwCl [kX12 mh (w 0) (w 1) (w 2) (w 3) (w 4) (w 5) (w 6) (w 7) X, aI y (w 2) 154 f, aI y (w 5) 308 fk, aZ y (w 6) 2 fz] H := P_r (P_perm hpm hP)
    have hDc : va_D (fun q : Nat => s.heap.size ≤ q) [kX12 mh (w 0) (w 1) (w 2) (w 3) (w 4) (w 5) (w 6) (w 7) X, aI y (w 2) 154 f, aI y (w 5) 308 fk, aZ y (w 6) 2 fz] := D_r (D_perm hpm hD)
    refine cl_MP (fun _ : Unit => ((lwE y h a jq mh w x9 ft (zs (tn v1)) o zc oc (s_X11_restore_w1 x2) ad fl sd (vp_updL jo 0 (s_X11_restore_r v1 zs).toInt64) (s_X12_restore_w0 v1 X fz) fR fr (s_X12_restore_w1 v1 f fk fz) g fd fk fz o2) ++ ((kW y ad zk ok 14) ++ (kW y sd zs os 2)))) hpm (fun _ => qm0 (T := (kW y ad zk ok 14) ++ (kW y sd zs os 2)) (pr_24 y h a jq mh w x9 ft (zs (tn v1)) o zc oc (s_X11_restore_w1 x2) ad fl sd (vp_updL jo 0 (s_X11_restore_r v1 zs).toInt64) (s_X12_restore_w0 v1 X fz) fR fr (s_X12_restore_w1 v1 f fk fz) g fd fk fz o2)) (va_runV (As := [.int v1]) (rest := []) ⟨hx, hb, hml, hown, hts⟩ (c_X12_restore l G y mh v1 (w 0) (w 1) (w 2) (w 3) (w 4) (w 5) (w 6) (w 7) X f fk fz H.size) (cwV 1 hts gL_law_X12_restore rfl rfl rfl (by decide +kernel) ⟨Nat.le_of_ble_eq_true rfl, Nat.le_of_ble_eq_true rfl⟩) (PH_V hPc hK4 hN hDc (ci := 10) (q0 := 0) rfl rfl) rfl rfl hl.1 rfl (lv_room (Nat.le_of_ble_eq_true rfl)) dL_law_1616 ⟨hkc, hks⟩) hP hD hS hA (fun _ H locs hP hD hS => ?_)
    have hP : va_P G vwCl ((lwE y h a jq mh w x9 ft (zs (tn v1)) o zc oc (s_X11_restore_w1 x2) ad fl sd (vp_updL jo 0 (s_X11_restore_r v1 zs).toInt64) (s_X12_restore_w0 v1 X fz) fR fr (s_X12_restore_w1 v1 f fk fz) g fd fk fz o2) ++ ((kW y ad zk ok 14) ++ (kW y sd zs os 2))) H := hP
    have hD : va_D (fun q : Nat => s.heap.size ≤ q) ((lwE y h a jq mh w x9 ft (zs (tn v1)) o zc oc (s_X11_restore_w1 x2) ad fl sd (vp_updL jo 0 (s_X11_restore_r v1 zs).toInt64) (s_X12_restore_w0 v1 X fz) fR fr (s_X12_restore_w1 v1 f fk fz) g fd fk fz o2) ++ ((kW y ad zk ok 14) ++ (kW y sd zs os 2))) := hD
    obtain ⟨e1, e2, hW2⟩ := ly_restore hW hN9 hk
    have hT : s_X12_thrown_r (s_X12_restore_w0 v1 X fz) = 0 := (thr_eq _).trans e2
    refine lv_istore (lv' := [(6, .int (s_X12_restore_r v1 f fk fz)), (5, .int 0), (0, .ref b), (1, .ref h), (2, .ref mh), (3, .ref jq), (4, .int iv)]) hx hb dL_law_1619 hl (by decide) rfl (fun ls hl => ?_)
    refine lv_aload_n hx hb dL_law_1621 rfl (lv_at hl 4 rfl) ?_
    refine cl_Ri (va_runV (As := []) (rest := []) ⟨hx, hb, hml, hown, hts⟩ (c_X12_thrown l G y mh (w 0) (w 1) (w 2) (w 3) (w 4) (w 5) (w 6) (w 7) (s_X12_restore_w0 v1 X fz)) (cwV 0 hts gL_law_X12_thrown rfl rfl rfl (by decide +kernel) ⟨Nat.le_of_ble_eq_true rfl, Nat.le_of_ble_eq_true rfl⟩) (PR_V (sel_P [50] (rfl : sel _ [50] = [kX12 mh (w 0) (w 1) (w 2) (w 3) (w 4) (w 5) (w 6) (w 7) (s_X12_restore_w0 v1 X fz)]) hP) hK4 hN (ci := 10) (q0 := 0) rfl rfl) rfl rfl hl.1 rfl (lv_room (Nat.le_of_ble_eq_true rfl)) dL_law_1622 ⟨hkc, hks⟩) ?_
    refine lv_iload hx hb dL_law_1625 (lv_at hl 1 rfl) ?_
    refine lv_icmp_eq (tgt := 1632) hx hb dL_law_1627 (by decide) (fun _ => ?_) (fun c9 => absurd hT c9)
    refine lv_iload hx hb dL_law_1632 (lv_at hl 1 rfl) ?_
    refine lv_if_ne (tgt := 1649) hx hb dL_law_1634 (by decide) (fun c9 => absurd rfl c9) (fun _ => ?_)
    refine lv_aload_n hx hb dL_law_1637 rfl (lv_at hl 5 rfl) ?_
    refine lv_iconst (v := 0) hx hb dL_law_1638 (by decide) ?_
    refine al_o hx hb hK 59 hP rfl dL_law_1639 ?_
    refine lv_iload hx hb dL_law_1640 (lv_at hl 0 rfl) ?_
    refine lv_i2l (v := (s_X12_restore_r v1 f fk fz).toInt64) hx hb dL_law_1642 rfl ?_
    refine W.lcmp hx hb dL_law_1643 ?_
    refine lv_if_eq (tgt := 1649) hx hb dL_law_1644 (by decide) (fun _ => ?_) (fun c9 => absurd (lg_o e1) c9)
    refine lv_goto (tgt := 1652) hx hb dL_law_1649 (by decide) ?_
    refine W.widen (k := kc + 1) (n := ks + 6) (by omega) (by omega) ?_
    exact KN H locs ls ⟨x9, ft, (zs (tn v1)), o, zc, oc, (s_X11_restore_w1 x2), ad, zk, ok, fl, sd, zs, os, (vp_updL jo 0 (s_X11_restore_r v1 zs).toInt64), (s_X12_restore_w0 v1 X fz), fR, fr, (s_X12_restore_w1 v1 f fk fz), g, fd, fk, fz, o2, hP, hD, hW2⟩ hS (lv_sub hl [2, 3, 4, 5, 6] rfl)
  · refine lv_aload_n hx hb dL_law_1596 rfl (lv_at hl 1 rfl) ?_
    refine lv_aload_n hx hb dL_law_1597 rfl (lv_at hl 0 rfl) ?_
    refine lv_iload hx hb dL_law_1598 (lv_at hl 4 rfl) ?_
    refine lv_iconst (v := 1) hx hb dL_law_1600 (by decide) ?_
    refine lv_iadd hx hb dL_law_1601 ?_
    refine va_sld hx hb hX hbl hbA hS hin1 dL_law_1602 ?_
    refine rw_i (x' := v1) hv1 ?_
    refine lv_aload_n hx hb dL_law_1603 rfl (lv_at hl 3 rfl) ?_
    have hpm := qm2 (T1 := (kW y ad zk ok 14)) (T2 := (kW y sd zs os 2)) (pr_25 y h a jq mh w x9 ft z o zc oc x2 ad fl sd jo X fR fr f g fd fk fz o2)
    have hPc : va_P G vwCl ([aJ y jq 1 jo] ++ ([kX11 h (a 0) (a 2) (a 16) (a 30) (a 44) (a 46) Z0, kX2 (a 44) (a 45) x2, kX6 (a 46) (a 47) (a 48) Z0, aQ y (a 47) 2 (fun i => some (sd i 0)), aZ y (a 48) 2 fl, kX7 (a 16) (a 17) (a 19) (a 20) (a 26) (a 28) (z 0), kX3 (a 17) (a 18) (z 1), aI y (a 18) 10 (z 2), kX1 (a 19) (z 3), kX8 (a 20) (a 21) (a 22) (a 23) (a 24) (a 25) (z 4), aI y (a 21) 20 (z 5), aI y (a 22) 20 (z 6), aI y (a 23) 20 (z 7), aI y (a 24) 20 (z 8), aI y (a 25) 20 o, kX10 (a 26) (a 27) (z 9), aI y (a 27) 32 (z 10), kX0 (a 28) (a 29) (z 11), aI y (a 29) 3 (z 12)] ++ (kW y sd zs os 2))) H := P_r (P_perm hpm hP)
    have hDc : va_D (fun q : Nat => s.heap.size ≤ q) ([aJ y jq 1 jo] ++ ([kX11 h (a 0) (a 2) (a 16) (a 30) (a 44) (a 46) Z0, kX2 (a 44) (a 45) x2, kX6 (a 46) (a 47) (a 48) Z0, aQ y (a 47) 2 (fun i => some (sd i 0)), aZ y (a 48) 2 fl, kX7 (a 16) (a 17) (a 19) (a 20) (a 26) (a 28) (z 0), kX3 (a 17) (a 18) (z 1), aI y (a 18) 10 (z 2), kX1 (a 19) (z 3), kX8 (a 20) (a 21) (a 22) (a 23) (a 24) (a 25) (z 4), aI y (a 21) 20 (z 5), aI y (a 22) 20 (z 6), aI y (a 23) 20 (z 7), aI y (a 24) 20 (z 8), aI y (a 25) 20 o, kX10 (a 26) (a 27) (z 9), aI y (a 27) 32 (z 10), kX0 (a 28) (a 29) (z 11), aI y (a 29) 3 (z 12)] ++ (kW y sd zs os 2))) := D_r (D_perm hpm hD)
    have hFc : ∀ q, va_A ([aJ y jq 1 jo] ++ ([kX11 h (a 0) (a 2) (a 16) (a 30) (a 44) (a 46) Z0, kX2 (a 44) (a 45) x2, kX6 (a 46) (a 47) (a 48) Z0, aQ y (a 47) 2 (fun i => some (sd i 0)), aZ y (a 48) 2 fl, kX7 (a 16) (a 17) (a 19) (a 20) (a 26) (a 28) (z 0), kX3 (a 17) (a 18) (z 1), aI y (a 18) 10 (z 2), kX1 (a 19) (z 3), kX8 (a 20) (a 21) (a 22) (a 23) (a 24) (a 25) (z 4), aI y (a 21) 20 (z 5), aI y (a 22) 20 (z 6), aI y (a 23) 20 (z 7), aI y (a 24) 20 (z 8), aI y (a 25) 20 o, kX10 (a 26) (a 27) (z 9), aI y (a 27) 32 (z 10), kX0 (a 28) (a 29) (z 11), aI y (a 29) 3 (z 12)] ++ (kW y sd zs os 2))) H.size q → s.heap.size ≤ q := F_r (D_perm hpm hD) hS hA
    refine cl_LP (fun _ : Unit => ((lwE y h a jq mh w x9 ft z o zc oc x2 ad fl sd jo X fR fr f g fd fk fz o2) ++ ((kW y ad zk ok 14) ++ (kW y sd zs os 2)))) hpm (fun _ => qm2 (T1 := (kW y ad zk ok 14)) (T2 := (kW y sd zs os 2)) (pr_25 y h a jq mh w x9 ft z o zc oc x2 ad fl sd jo X fR fr f g fd fk fz o2)) (vx_runSX (As := [.ref h, .int v1, .ref jq]) (rest := []) ⟨hx, hb, hml, hown, hts⟩ (c_L_restore_n l G y h v1 (a 0) (a 2) (a 16) (a 30) (a 44) (a 46) (a 45) x2 (a 47) (a 48) Z0 fl (a 17) (a 19) (a 20) (a 26) (a 28) z (a 18) (a 21) (a 22) (a 23) (a 24) (a 25) o (a 27) (a 29) sd zs os jq jo H.size (hW.2.2.2.2.2 _).1 (hW.2.2.2.2.2 _).2.1 (hW.2.2.2.2.2 _).2.2 hk hfl) (vx_cwSW 3 hts gL_law_L_restore rfl rfl rfl (by decide +kernel) ⟨Nat.le_of_ble_eq_true rfl, Nat.le_of_ble_eq_true rfl⟩) (PHL_S hPc hK hN hDc hTY hS hFc) rfl rfl hl.1 rfl (lv_room (Nat.le_of_ble_eq_true rfl)) dL_law_1604 ⟨hkc, hks⟩) hP hD hS hA (fun _ H locs hP hD hS => ?_)
    have hP : va_P G vwCl ((lwE y h a jq mh w x9 ft z o zc oc x2 ad fl sd jo X fR fr f g fd fk fz o2) ++ ((kW y ad zk ok 14) ++ (kW y sd zs os 2))) H := hP
    have hD : va_D (fun q : Nat => s.heap.size ≤ q) ((lwE y h a jq mh w x9 ft z o zc oc x2 ad fl sd jo X fR fr f g fd fk fz o2) ++ ((kW y ad zk ok 14) ++ (kW y sd zs os 2))) := hD
    refine lv_istore (lv' := [(5, .int (cdK 3 (s_X11_restore_k v1 fl))), (0, .ref b), (1, .ref h), (2, .ref mh), (3, .ref jq), (4, .int iv)]) hx hb dL_law_1607 hl (by decide) rfl (fun ls hl => ?_)
    refine lv_aload_n hx hb dL_law_1609 rfl (lv_at hl 3 rfl) ?_
    refine lv_aload_n hx hb dL_law_1610 rfl (lv_at hl 1 rfl) ?_
    refine lv_iload hx hb dL_law_1611 (lv_at hl 5 rfl) ?_
    refine lv_iconst (v := 1) hx hb dL_law_1613 (by decide) ?_
    refine lv_iadd hx hb dL_law_1614 ?_
    refine va_sld hx hb hX hbl hbA hS hin1 dL_law_1615 ?_
    refine rw_i (x' := v1) hv1 ?_
    have hpm := qm0 (T := (kW y ad zk ok 14) ++ (kW y sd zs os 2)) (pr_24 y h a jq mh w x9 ft z o zc oc x2 ad fl sd jo X fR fr f g fd fk fz o2)
    have hPc : va_P G vwCl [kX12 mh (w 0) (w 1) (w 2) (w 3) (w 4) (w 5) (w 6) (w 7) X, aI y (w 2) 154 f, aI y (w 5) 308 fk, aZ y (w 6) 2 fz] H := P_r (P_perm hpm hP)
    have hDc : va_D (fun q : Nat => s.heap.size ≤ q) [kX12 mh (w 0) (w 1) (w 2) (w 3) (w 4) (w 5) (w 6) (w 7) X, aI y (w 2) 154 f, aI y (w 5) 308 fk, aZ y (w 6) 2 fz] := D_r (D_perm hpm hD)
    refine cl_MP (fun _ : Unit => ((lwE y h a jq mh w x9 ft z o zc oc x2 ad fl sd jo (s_X12_restore_w0 v1 X fz) fR fr (s_X12_restore_w1 v1 f fk fz) g fd fk fz o2) ++ ((kW y ad zk ok 14) ++ (kW y sd zs os 2)))) hpm (fun _ => qm0 (T := (kW y ad zk ok 14) ++ (kW y sd zs os 2)) (pr_24 y h a jq mh w x9 ft z o zc oc x2 ad fl sd jo (s_X12_restore_w0 v1 X fz) fR fr (s_X12_restore_w1 v1 f fk fz) g fd fk fz o2)) (va_runV (As := [.int v1]) (rest := []) ⟨hx, hb, hml, hown, hts⟩ (c_X12_restore l G y mh v1 (w 0) (w 1) (w 2) (w 3) (w 4) (w 5) (w 6) (w 7) X f fk fz H.size) (cwV 1 hts gL_law_X12_restore rfl rfl rfl (by decide +kernel) ⟨Nat.le_of_ble_eq_true rfl, Nat.le_of_ble_eq_true rfl⟩) (PH_V hPc hK4 hN hDc (ci := 10) (q0 := 0) rfl rfl) rfl rfl hl.1 rfl (lv_room (Nat.le_of_ble_eq_true rfl)) dL_law_1616 ⟨hkc, hks⟩) hP hD hS hA (fun _ H locs hP hD hS => ?_)
    have hP : va_P G vwCl ((lwE y h a jq mh w x9 ft z o zc oc x2 ad fl sd jo (s_X12_restore_w0 v1 X fz) fR fr (s_X12_restore_w1 v1 f fk fz) g fd fk fz o2) ++ ((kW y ad zk ok 14) ++ (kW y sd zs os 2))) H := hP
    have hD : va_D (fun q : Nat => s.heap.size ≤ q) ((lwE y h a jq mh w x9 ft z o zc oc x2 ad fl sd jo (s_X12_restore_w0 v1 X fz) fR fr (s_X12_restore_w1 v1 f fk fz) g fd fk fz o2) ++ ((kW y ad zk ok 14) ++ (kW y sd zs os 2))) := hD
    obtain ⟨e2, hW2⟩ := ln_restore hW hk
    have hT : s_X12_thrown_r (s_X12_restore_w0 v1 X fz) = cdK 3 (s_X11_restore_k v1 fl) := (thr_eq _).trans e2
    refine lv_istore (lv' := [(6, .int (s_X12_restore_r v1 f fk fz)), (5, .int (cdK 3 (s_X11_restore_k v1 fl))), (0, .ref b), (1, .ref h), (2, .ref mh), (3, .ref jq), (4, .int iv)]) hx hb dL_law_1619 hl (by decide) rfl (fun ls hl => ?_)
    refine lv_aload_n hx hb dL_law_1621 rfl (lv_at hl 4 rfl) ?_
    refine cl_Ri (va_runV (As := []) (rest := []) ⟨hx, hb, hml, hown, hts⟩ (c_X12_thrown l G y mh (w 0) (w 1) (w 2) (w 3) (w 4) (w 5) (w 6) (w 7) (s_X12_restore_w0 v1 X fz)) (cwV 0 hts gL_law_X12_thrown rfl rfl rfl (by decide +kernel) ⟨Nat.le_of_ble_eq_true rfl, Nat.le_of_ble_eq_true rfl⟩) (PR_V (sel_P [50] (rfl : sel _ [50] = [kX12 mh (w 0) (w 1) (w 2) (w 3) (w 4) (w 5) (w 6) (w 7) (s_X12_restore_w0 v1 X fz)]) hP) hK4 hN (ci := 10) (q0 := 0) rfl rfl) rfl rfl hl.1 rfl (lv_room (Nat.le_of_ble_eq_true rfl)) dL_law_1622 ⟨hkc, hks⟩) ?_
    refine lv_iload hx hb dL_law_1625 (lv_at hl 1 rfl) ?_
    refine lv_icmp_eq (tgt := 1632) hx hb dL_law_1627 (by decide) (fun _ => ?_) (fun c9 => absurd hT c9)
    refine lv_iload hx hb dL_law_1632 (lv_at hl 1 rfl) ?_
    refine lv_if_ne (tgt := 1649) hx hb dL_law_1634 (by decide) (fun _ => ?_) (fun c9 => absurd c9 (cd_n hk))
    refine lv_goto (tgt := 1652) hx hb dL_law_1649 (by decide) ?_
    refine W.widen (k := kc + 1) (n := ks + 6) (by omega) (by omega) ?_
    exact KN H locs ls ⟨x9, ft, z, o, zc, oc, x2, ad, zk, ok, fl, sd, zs, os, jo, (s_X12_restore_w0 v1 X fz), fR, fr, (s_X12_restore_w1 v1 f fk fz), g, fd, fk, fz, o2, hP, hD, hW2⟩ hS (lv_sub hl [2, 3, 4, 5, 6] rfl)

set_option maxHeartbeats 2000000 in
set_option maxRecDepth 100000 in
theorem case_9 {p : Program} {l : Launch} {e : Env} {s : State} {m : MethodId} {below : List Frame} {meth : Method} {c : Code} {b L : Nat} {xs : Nat → Int32} {G : va_G} {y : Nat → ClassId} {h : Nat} {a : Nat → Nat} {jq mh : Nat} {w : Nat → Nat} {iv v1 v2 v3 : Int32} {N kc ks : Nat} {H : Heap} {locs : List Loc} {ls : Array Slot} (hfl : l.stackTraces = false) (C0 : lw_At p s m meth c b L xs) (hK : va_K G vwCl (tyJ y) s) (hN : NN s) (hTY : TY (fun q : Nat => s.heap.size ≤ q) s) (hin1 : vp_in (iv + 1) L) (hin2 : vp_in (iv + 2) L) (hin3 : vp_in (iv + 3) L) (hv1 : xs (iv + 1).toNatClampNeg = v1) (hv2 : xs (iv + 2).toNatClampNeg = v2) (hv3 : xs (iv + 3).toNatClampNeg = v3) (hkc : kc + 1 ≤ room_1.cells) (hks : ks + 6 ≤ room_1.slots) (hN9 : N + 12800 < 2147483648) (hI : LI G y h a jq mh w (fun q : Nat => s.heap.size ≤ q) N H) (hS : va_S (fun q : Nat => s.heap.size ≤ q) s.heap H locs) (hl : lv_has ls 7 [(0, .ref b), (1, .ref h), (2, .ref mh), (3, .ref jq), (4, .int iv)]) (KN : ∀ (H : Heap) (locs : List Loc) (ls : Array Slot), LI G y h a jq mh w (fun q : Nat => s.heap.size ≤ q) (N + 200) H → va_S (fun q : Nat => s.heap.size ≤ q) s.heap H locs → lv_has ls 7 [(0, .ref b), (1, .ref h), (2, .ref mh), (3, .ref jq), (4, .int iv)] → W p l e room_1 s m #[Value.ref b] below meth c H locs (kc + 1) (ks + 6) (lw_Z below #[Value.ref b] s) (F0 m 1652 ls [])) : W p l e room_1 s m #[Value.ref b] below meth c H locs kc ks (lw_Z below #[Value.ref b] s) (F0 m 578 ls []) := by
  obtain ⟨hx, hb, hr, hml, hown, hts, hX, hbl, hlocks, hgv⟩ := C0
  have hts := fun w hh => hts w (wsL_law_in w hh)
  have hbA : ¬ (fun q : Nat => s.heap.size ≤ q) b := Nat.not_le.mpr hbl
  have hA : ∀ q : Nat, s.heap.size ≤ q → (fun q : Nat => s.heap.size ≤ q) q := fun _ h => h
  have hK4 : va_K G vwCl (tyG y) s := hK.sub (tys' := tyG y) [0, 1, 2, 3] rfl
  have hown : s.vm.findClass RL = some m.cls := hown
  have hkc0 : kc ≤ room_1.cells := Nat.le_of_succ_le hkc
  have hks0 : ks ≤ room_1.slots := Nat.le_trans (Nat.le_add_right ks 6) hks
  obtain ⟨x9, ft, z, o, zc, oc, x2, ad, zk, ok, fl, sd, zs, os, jo, X, fR, fr, f, g, fd, fk, fz, o2, hP, hD, hW⟩ := hI
  by_cases hk : (s_X11_set_k v1 v2) = 0
  · refine lv_aload_n hx hb dL_law_578 rfl (lv_at hl 1 rfl) ?_
    refine lv_aload_n hx hb dL_law_579 rfl (lv_at hl 0 rfl) ?_
    refine lv_iload hx hb dL_law_580 (lv_at hl 4 rfl) ?_
    refine lv_iconst (v := 1) hx hb dL_law_582 (by decide) ?_
    refine lv_iadd hx hb dL_law_583 ?_
    refine va_sld hx hb hX hbl hbA hS hin1 dL_law_584 ?_
    refine rw_i (x' := v1) hv1 ?_
    refine lv_aload_n hx hb dL_law_585 rfl (lv_at hl 0 rfl) ?_
    refine lv_iload hx hb dL_law_586 (lv_at hl 4 rfl) ?_
    refine lv_iconst (v := 2) hx hb dL_law_588 (by decide) ?_
    refine lv_iadd hx hb dL_law_589 ?_
    refine va_sld hx hb hX hbl hbA hS hin2 dL_law_590 ?_
    refine rw_i (x' := v2) hv2 ?_
    refine lv_aload_n hx hb dL_law_591 rfl (lv_at hl 3 rfl) ?_
    have hpm := qm1 (T1 := (kW y ad zk ok 14)) (T2 := (kW y sd zs os 2)) (pr_13 y h a jq mh w x9 ft z o zc oc x2 ad fl sd jo X fR fr f g fd fk fz o2)
    have hPc : va_P G vwCl ([aJ y jq 1 jo] ++ ([kX11 h (a 0) (a 2) (a 16) (a 30) (a 44) (a 46) Z0, kX2 (a 44) (a 45) x2, aQ y (a 45) 14 (fun i => some (ad i 0)), kX7 (a 16) (a 17) (a 19) (a 20) (a 26) (a 28) (z 0), kX3 (a 17) (a 18) (z 1), aI y (a 18) 10 (z 2), kX1 (a 19) (z 3), kX8 (a 20) (a 21) (a 22) (a 23) (a 24) (a 25) (z 4), aI y (a 21) 20 (z 5), aI y (a 22) 20 (z 6), aI y (a 23) 20 (z 7), aI y (a 24) 20 (z 8), aI y (a 25) 20 o, kX10 (a 26) (a 27) (z 9), aI y (a 27) 32 (z 10), kX0 (a 28) (a 29) (z 11), aI y (a 29) 3 (z 12)] ++ (kW y ad zk ok 14))) H := P_r (P_perm hpm hP)
    have hDc : va_D (fun q : Nat => s.heap.size ≤ q) ([aJ y jq 1 jo] ++ ([kX11 h (a 0) (a 2) (a 16) (a 30) (a 44) (a 46) Z0, kX2 (a 44) (a 45) x2, aQ y (a 45) 14 (fun i => some (ad i 0)), kX7 (a 16) (a 17) (a 19) (a 20) (a 26) (a 28) (z 0), kX3 (a 17) (a 18) (z 1), aI y (a 18) 10 (z 2), kX1 (a 19) (z 3), kX8 (a 20) (a 21) (a 22) (a 23) (a 24) (a 25) (z 4), aI y (a 21) 20 (z 5), aI y (a 22) 20 (z 6), aI y (a 23) 20 (z 7), aI y (a 24) 20 (z 8), aI y (a 25) 20 o, kX10 (a 26) (a 27) (z 9), aI y (a 27) 32 (z 10), kX0 (a 28) (a 29) (z 11), aI y (a 29) 3 (z 12)] ++ (kW y ad zk ok 14))) := D_r (D_perm hpm hD)
    have hFc : ∀ q, va_A ([aJ y jq 1 jo] ++ ([kX11 h (a 0) (a 2) (a 16) (a 30) (a 44) (a 46) Z0, kX2 (a 44) (a 45) x2, aQ y (a 45) 14 (fun i => some (ad i 0)), kX7 (a 16) (a 17) (a 19) (a 20) (a 26) (a 28) (z 0), kX3 (a 17) (a 18) (z 1), aI y (a 18) 10 (z 2), kX1 (a 19) (z 3), kX8 (a 20) (a 21) (a 22) (a 23) (a 24) (a 25) (z 4), aI y (a 21) 20 (z 5), aI y (a 22) 20 (z 6), aI y (a 23) 20 (z 7), aI y (a 24) 20 (z 8), aI y (a 25) 20 o, kX10 (a 26) (a 27) (z 9), aI y (a 27) 32 (z 10), kX0 (a 28) (a 29) (z 11), aI y (a 29) 3 (z 12)] ++ (kW y ad zk ok 14))) H.size q → s.heap.size ≤ q := F_r (D_perm hpm hD) hS hA
    refine cl_LP (fun _ : Unit => ((lwE y h a jq mh w x9 ft (s_X7_put_z v1 v2 z) o zc oc (upd x2 1 (nI (rmC (tn (x2 1)) + 1))) (rmT (tn (x2 1)) ad) fl sd (vp_updL jo 0 (s_X11_set_r v1 z).toInt64) X fR fr f g fd fk fz o2) ++ ((kW y (rmT (tn (x2 1)) ad) (uK (rmT (tn (x2 1)) zk) (rmC (tn (x2 1))) z) (rmT (tn (x2 1)) ok) 14) ++ (kW y sd zs os 2)))) hpm (fun _ => qm1 (T1 := (kW y (rmT (tn (x2 1)) ad) (uK (rmT (tn (x2 1)) zk) (rmC (tn (x2 1))) z) (rmT (tn (x2 1)) ok) 14)) (T2 := (kW y sd zs os 2)) (pr_13 y h a jq mh w x9 ft (s_X7_put_z v1 v2 z) o zc oc (upd x2 1 (nI (rmC (tn (x2 1)) + 1))) (rmT (tn (x2 1)) ad) fl sd (vp_updL jo 0 (s_X11_set_r v1 z).toInt64) X fR fr f g fd fk fz o2)) (vx_runSX (As := [.ref h, .int v1, .int v2, .ref jq]) (rest := []) ⟨hx, hb, hml, hown, hts⟩ (c_L_set_y l G y h v1 v2 (a 0) (a 2) (a 16) (a 30) (a 44) (a 46) (a 45) x2 (a 17) (a 19) (a 20) (a 26) (a 28) z (a 18) (a 21) (a 22) (a 23) (a 24) (a 25) o (a 27) (a 29) ad zk ok jq jo H.size (wf_c hW) (wf_b hW).1 (wf_b hW).2.1 (wf_b hW).2.2 hk hfl) (vx_cwSW 4 hts gL_law_L_set rfl rfl rfl (by decide +kernel) ⟨Nat.le_of_ble_eq_true rfl, Nat.le_of_ble_eq_true rfl⟩) (PHL_S hPc hK hN hDc hTY hS hFc) rfl rfl hl.1 rfl (lv_room (Nat.le_of_ble_eq_true rfl)) dL_law_592 ⟨hkc, hks⟩) hP hD hS hA (fun _ H locs hP hD hS => ?_)
    have hP : va_P G vwCl ((lwE y h a jq mh w x9 ft (s_X7_put_z v1 v2 z) o zc oc (upd x2 1 (nI (rmC (tn (x2 1)) + 1))) (rmT (tn (x2 1)) ad) fl sd (vp_updL jo 0 (s_X11_set_r v1 z).toInt64) X fR fr f g fd fk fz o2) ++ ((kW y (rmT (tn (x2 1)) ad) (uK (rmT (tn (x2 1)) zk) (rmC (tn (x2 1))) z) (rmT (tn (x2 1)) ok) 14) ++ (kW y sd zs os 2))) H := hP
    have hD : va_D (fun q : Nat => s.heap.size ≤ q) ((lwE y h a jq mh w x9 ft (s_X7_put_z v1 v2 z) o zc oc (upd x2 1 (nI (rmC (tn (x2 1)) + 1))) (rmT (tn (x2 1)) ad) fl sd (vp_updL jo 0 (s_X11_set_r v1 z).toInt64) X fR fr f g fd fk fz o2) ++ ((kW y (rmT (tn (x2 1)) ad) (uK (rmT (tn (x2 1)) zk) (rmC (tn (x2 1))) z) (rmT (tn (x2 1)) ok) 14) ++ (kW y sd zs os 2))) := hD
    refine lv_istore (lv' := [(5, .int 0), (0, .ref b), (1, .ref h), (2, .ref mh), (3, .ref jq), (4, .int iv)]) hx hb dL_law_595 hl (by decide) rfl (fun ls hl => ?_)
    refine lv_aload_n hx hb dL_law_597 rfl (lv_at hl 3 rfl) ?_
    refine lv_aload_n hx hb dL_law_598 rfl (lv_at hl 1 rfl) ?_
    refine lv_iload hx hb dL_law_599 (lv_at hl 5 rfl) ?_
    refine lv_iconst (v := 1) hx hb dL_law_601 (by decide) ?_
    refine lv_iadd hx hb dL_law_602 ?_
    refine va_sld hx hb hX hbl hbA hS hin1 dL_law_603 ?_
    refine rw_i (x' := v1) hv1 ?_
    refine lv_aload_n hx hb dL_law_604 rfl (lv_at hl 1 rfl) ?_
    refine lv_iload hx hb dL_law_605 (lv_at hl 5 rfl) ?_
    refine lv_iconst (v := 2) hx hb dL_law_607 (by decide) ?_
    refine lv_iadd hx hb dL_law_608 ?_
    refine va_sld hx hb hX hbl hbA hS hin2 dL_law_609 ?_
    refine rw_i (x' := v2) hv2 ?_
    have hpm := qm0 (T := (kW y (rmT (tn (x2 1)) ad) (uK (rmT (tn (x2 1)) zk) (rmC (tn (x2 1))) z) (rmT (tn (x2 1)) ok) 14) ++ (kW y sd zs os 2)) (pr_14 y h a jq mh w x9 ft (s_X7_put_z v1 v2 z) o zc oc (upd x2 1 (nI (rmC (tn (x2 1)) + 1))) (rmT (tn (x2 1)) ad) fl sd (vp_updL jo 0 (s_X11_set_r v1 z).toInt64) X fR fr f g fd fk fz o2)
    have hPc : va_P G vwCl [kX12 mh (w 0) (w 1) (w 2) (w 3) (w 4) (w 5) (w 6) (w 7) X, aI y (w 2) 154 f, aI y (w 4) 2156 fd] H := P_r (P_perm hpm hP)
    have hDc : va_D (fun q : Nat => s.heap.size ≤ q) [kX12 mh (w 0) (w 1) (w 2) (w 3) (w 4) (w 5) (w 6) (w 7) X, aI y (w 2) 154 f, aI y (w 4) 2156 fd] := D_r (D_perm hpm hD)
    refine cl_MP (fun _ : Unit => ((lwE y h a jq mh w x9 ft (s_X7_put_z v1 v2 z) o zc oc (upd x2 1 (nI (rmC (tn (x2 1)) + 1))) (rmT (tn (x2 1)) ad) fl sd (vp_updL jo 0 (s_X11_set_r v1 z).toInt64) (s_X12_set_w0 v1 v2 X) fR fr (s_X12_set_w1 v1 v2 f) g (s_X12_set_w2 v1 v2 X f fd) fk fz o2) ++ ((kW y (rmT (tn (x2 1)) ad) (uK (rmT (tn (x2 1)) zk) (rmC (tn (x2 1))) z) (rmT (tn (x2 1)) ok) 14) ++ (kW y sd zs os 2)))) hpm (fun _ => qm0 (T := (kW y (rmT (tn (x2 1)) ad) (uK (rmT (tn (x2 1)) zk) (rmC (tn (x2 1))) z) (rmT (tn (x2 1)) ok) 14) ++ (kW y sd zs os 2)) (pr_14 y h a jq mh w x9 ft (s_X7_put_z v1 v2 z) o zc oc (upd x2 1 (nI (rmC (tn (x2 1)) + 1))) (rmT (tn (x2 1)) ad) fl sd (vp_updL jo 0 (s_X11_set_r v1 z).toInt64) (s_X12_set_w0 v1 v2 X) fR fr (s_X12_set_w1 v1 v2 f) g (s_X12_set_w2 v1 v2 X f fd) fk fz o2)) (va_runV (As := [.int v1, .int v2]) (rest := []) ⟨hx, hb, hml, hown, hts⟩ (c_X12_set l G y mh v1 v2 (w 0) (w 1) (w 2) (w 3) (w 4) (w 5) (w 6) (w 7) X f fd H.size (wf_8 hW)) (cwV 2 hts gL_law_X12_set rfl rfl rfl (by decide +kernel) ⟨Nat.le_of_ble_eq_true rfl, Nat.le_of_ble_eq_true rfl⟩) (PH_V hPc hK4 hN hDc (ci := 10) (q0 := 0) rfl rfl) rfl rfl hl.1 rfl (lv_room (Nat.le_of_ble_eq_true rfl)) dL_law_610 ⟨hkc, hks⟩) hP hD hS hA (fun _ H locs hP hD hS => ?_)
    have hP : va_P G vwCl ((lwE y h a jq mh w x9 ft (s_X7_put_z v1 v2 z) o zc oc (upd x2 1 (nI (rmC (tn (x2 1)) + 1))) (rmT (tn (x2 1)) ad) fl sd (vp_updL jo 0 (s_X11_set_r v1 z).toInt64) (s_X12_set_w0 v1 v2 X) fR fr (s_X12_set_w1 v1 v2 f) g (s_X12_set_w2 v1 v2 X f fd) fk fz o2) ++ ((kW y (rmT (tn (x2 1)) ad) (uK (rmT (tn (x2 1)) zk) (rmC (tn (x2 1))) z) (rmT (tn (x2 1)) ok) 14) ++ (kW y sd zs os 2))) H := hP
    have hD : va_D (fun q : Nat => s.heap.size ≤ q) ((lwE y h a jq mh w x9 ft (s_X7_put_z v1 v2 z) o zc oc (upd x2 1 (nI (rmC (tn (x2 1)) + 1))) (rmT (tn (x2 1)) ad) fl sd (vp_updL jo 0 (s_X11_set_r v1 z).toInt64) (s_X12_set_w0 v1 v2 X) fR fr (s_X12_set_w1 v1 v2 f) g (s_X12_set_w2 v1 v2 X f fd) fk fz o2) ++ ((kW y (rmT (tn (x2 1)) ad) (uK (rmT (tn (x2 1)) zk) (rmC (tn (x2 1))) z) (rmT (tn (x2 1)) ok) 14) ++ (kW y sd zs os 2))) := hD
    obtain ⟨e1, e2, hW2⟩ := ly_set hW hN9 hk
    have hT : s_X12_thrown_r (s_X12_set_w0 v1 v2 X) = 0 := (thr_eq _).trans e2
    refine lv_istore (lv' := [(6, .int (s_X12_set_r v1 v2 f)), (5, .int 0), (0, .ref b), (1, .ref h), (2, .ref mh), (3, .ref jq), (4, .int iv)]) hx hb dL_law_613 hl (by decide) rfl (fun ls hl => ?_)
    refine lv_aload_n hx hb dL_law_615 rfl (lv_at hl 4 rfl) ?_
    refine cl_Ri (va_runV (As := []) (rest := []) ⟨hx, hb, hml, hown, hts⟩ (c_X12_thrown l G y mh (w 0) (w 1) (w 2) (w 3) (w 4) (w 5) (w 6) (w 7) (s_X12_set_w0 v1 v2 X)) (cwV 0 hts gL_law_X12_thrown rfl rfl rfl (by decide +kernel) ⟨Nat.le_of_ble_eq_true rfl, Nat.le_of_ble_eq_true rfl⟩) (PR_V (sel_P [50] (rfl : sel _ [50] = [kX12 mh (w 0) (w 1) (w 2) (w 3) (w 4) (w 5) (w 6) (w 7) (s_X12_set_w0 v1 v2 X)]) hP) hK4 hN (ci := 10) (q0 := 0) rfl rfl) rfl rfl hl.1 rfl (lv_room (Nat.le_of_ble_eq_true rfl)) dL_law_616 ⟨hkc, hks⟩) ?_
    refine lv_iload hx hb dL_law_619 (lv_at hl 1 rfl) ?_
    refine lv_icmp_eq (tgt := 626) hx hb dL_law_621 (by decide) (fun _ => ?_) (fun c9 => absurd hT c9)
    refine lv_iload hx hb dL_law_626 (lv_at hl 1 rfl) ?_
    refine lv_if_ne (tgt := 643) hx hb dL_law_628 (by decide) (fun c9 => absurd rfl c9) (fun _ => ?_)
    refine lv_aload_n hx hb dL_law_631 rfl (lv_at hl 5 rfl) ?_
    refine lv_iconst (v := 0) hx hb dL_law_632 (by decide) ?_
    refine al_o hx hb hK 59 hP rfl dL_law_633 ?_
    refine lv_iload hx hb dL_law_634 (lv_at hl 0 rfl) ?_
    refine lv_i2l (v := (s_X12_set_r v1 v2 f).toInt64) hx hb dL_law_636 rfl ?_
    refine W.lcmp hx hb dL_law_637 ?_
    refine lv_if_eq (tgt := 643) hx hb dL_law_638 (by decide) (fun _ => ?_) (fun c9 => absurd (lg_o e1) c9)
    refine lv_goto (tgt := 1652) hx hb dL_law_643 (by decide) ?_
    refine W.widen (k := kc + 1) (n := ks + 6) (by omega) (by omega) ?_
    exact KN H locs ls ⟨x9, ft, (s_X7_put_z v1 v2 z), o, zc, oc, (upd x2 1 (nI (rmC (tn (x2 1)) + 1))), (rmT (tn (x2 1)) ad), (uK (rmT (tn (x2 1)) zk) (rmC (tn (x2 1))) z), (rmT (tn (x2 1)) ok), fl, sd, zs, os, (vp_updL jo 0 (s_X11_set_r v1 z).toInt64), (s_X12_set_w0 v1 v2 X), fR, fr, (s_X12_set_w1 v1 v2 f), g, (s_X12_set_w2 v1 v2 X f fd), fk, fz, o2, hP, hD, hW2⟩ hS (lv_sub hl [2, 3, 4, 5, 6] rfl)
  · refine lv_aload_n hx hb dL_law_578 rfl (lv_at hl 1 rfl) ?_
    refine lv_aload_n hx hb dL_law_579 rfl (lv_at hl 0 rfl) ?_
    refine lv_iload hx hb dL_law_580 (lv_at hl 4 rfl) ?_
    refine lv_iconst (v := 1) hx hb dL_law_582 (by decide) ?_
    refine lv_iadd hx hb dL_law_583 ?_
    refine va_sld hx hb hX hbl hbA hS hin1 dL_law_584 ?_
    refine rw_i (x' := v1) hv1 ?_
    refine lv_aload_n hx hb dL_law_585 rfl (lv_at hl 0 rfl) ?_
    refine lv_iload hx hb dL_law_586 (lv_at hl 4 rfl) ?_
    refine lv_iconst (v := 2) hx hb dL_law_588 (by decide) ?_
    refine lv_iadd hx hb dL_law_589 ?_
    refine va_sld hx hb hX hbl hbA hS hin2 dL_law_590 ?_
    refine rw_i (x' := v2) hv2 ?_
    refine lv_aload_n hx hb dL_law_591 rfl (lv_at hl 3 rfl) ?_
    have hpm := qm1 (T1 := (kW y ad zk ok 14)) (T2 := (kW y sd zs os 2)) (pr_13 y h a jq mh w x9 ft z o zc oc x2 ad fl sd jo X fR fr f g fd fk fz o2)
    have hPc : va_P G vwCl ([aJ y jq 1 jo] ++ ([kX11 h (a 0) (a 2) (a 16) (a 30) (a 44) (a 46) Z0, kX2 (a 44) (a 45) x2, aQ y (a 45) 14 (fun i => some (ad i 0)), kX7 (a 16) (a 17) (a 19) (a 20) (a 26) (a 28) (z 0), kX3 (a 17) (a 18) (z 1), aI y (a 18) 10 (z 2), kX1 (a 19) (z 3), kX8 (a 20) (a 21) (a 22) (a 23) (a 24) (a 25) (z 4), aI y (a 21) 20 (z 5), aI y (a 22) 20 (z 6), aI y (a 23) 20 (z 7), aI y (a 24) 20 (z 8), aI y (a 25) 20 o, kX10 (a 26) (a 27) (z 9), aI y (a 27) 32 (z 10), kX0 (a 28) (a 29) (z 11), aI y (a 29) 3 (z 12)] ++ (kW y ad zk ok 14))) H := P_r (P_perm hpm hP)
    have hDc : va_D (fun q : Nat => s.heap.size ≤ q) ([aJ y jq 1 jo] ++ ([kX11 h (a 0) (a 2) (a 16) (a 30) (a 44) (a 46) Z0, kX2 (a 44) (a 45) x2, aQ y (a 45) 14 (fun i => some (ad i 0)), kX7 (a 16) (a 17) (a 19) (a 20) (a 26) (a 28) (z 0), kX3 (a 17) (a 18) (z 1), aI y (a 18) 10 (z 2), kX1 (a 19) (z 3), kX8 (a 20) (a 21) (a 22) (a 23) (a 24) (a 25) (z 4), aI y (a 21) 20 (z 5), aI y (a 22) 20 (z 6), aI y (a 23) 20 (z 7), aI y (a 24) 20 (z 8), aI y (a 25) 20 o, kX10 (a 26) (a 27) (z 9), aI y (a 27) 32 (z 10), kX0 (a 28) (a 29) (z 11), aI y (a 29) 3 (z 12)] ++ (kW y ad zk ok 14))) := D_r (D_perm hpm hD)
    have hFc : ∀ q, va_A ([aJ y jq 1 jo] ++ ([kX11 h (a 0) (a 2) (a 16) (a 30) (a 44) (a 46) Z0, kX2 (a 44) (a 45) x2, aQ y (a 45) 14 (fun i => some (ad i 0)), kX7 (a 16) (a 17) (a 19) (a 20) (a 26) (a 28) (z 0), kX3 (a 17) (a 18) (z 1), aI y (a 18) 10 (z 2), kX1 (a 19) (z 3), kX8 (a 20) (a 21) (a 22) (a 23) (a 24) (a 25) (z 4), aI y (a 21) 20 (z 5), aI y (a 22) 20 (z 6), aI y (a 23) 20 (z 7), aI y (a 24) 20 (z 8), aI y (a 25) 20 o, kX10 (a 26) (a 27) (z 9), aI y (a 27) 32 (z 10), kX0 (a 28) (a 29) (z 11), aI y (a 29) 3 (z 12)] ++ (kW y ad zk ok 14))) H.size q → s.heap.size ≤ q := F_r (D_perm hpm hD) hS hA
    refine cl_LP (fun _ : Unit => ((lwE y h a jq mh w x9 ft z o zc oc x2 ad fl sd jo X fR fr f g fd fk fz o2) ++ ((kW y ad zk ok 14) ++ (kW y sd zs os 2)))) hpm (fun _ => qm1 (T1 := (kW y ad zk ok 14)) (T2 := (kW y sd zs os 2)) (pr_13 y h a jq mh w x9 ft z o zc oc x2 ad fl sd jo X fR fr f g fd fk fz o2)) (vx_runSX (As := [.ref h, .int v1, .int v2, .ref jq]) (rest := []) ⟨hx, hb, hml, hown, hts⟩ (c_L_set_n l G y h v1 v2 (a 0) (a 2) (a 16) (a 30) (a 44) (a 46) (a 45) x2 (a 17) (a 19) (a 20) (a 26) (a 28) z (a 18) (a 21) (a 22) (a 23) (a 24) (a 25) o (a 27) (a 29) ad zk ok jq jo H.size (wf_c hW) (wf_b hW).1 (wf_b hW).2.1 (wf_b hW).2.2 hk hfl) (vx_cwSW 4 hts gL_law_L_set rfl rfl rfl (by decide +kernel) ⟨Nat.le_of_ble_eq_true rfl, Nat.le_of_ble_eq_true rfl⟩) (PHL_S hPc hK hN hDc hTY hS hFc) rfl rfl hl.1 rfl (lv_room (Nat.le_of_ble_eq_true rfl)) dL_law_592 ⟨hkc, hks⟩) hP hD hS hA (fun _ H locs hP hD hS => ?_)
    have hP : va_P G vwCl ((lwE y h a jq mh w x9 ft z o zc oc x2 ad fl sd jo X fR fr f g fd fk fz o2) ++ ((kW y ad zk ok 14) ++ (kW y sd zs os 2))) H := hP
    have hD : va_D (fun q : Nat => s.heap.size ≤ q) ((lwE y h a jq mh w x9 ft z o zc oc x2 ad fl sd jo X fR fr f g fd fk fz o2) ++ ((kW y ad zk ok 14) ++ (kW y sd zs os 2))) := hD
    refine lv_istore (lv' := [(5, .int (cdK 1 (s_X11_set_k v1 v2))), (0, .ref b), (1, .ref h), (2, .ref mh), (3, .ref jq), (4, .int iv)]) hx hb dL_law_595 hl (by decide) rfl (fun ls hl => ?_)
    refine lv_aload_n hx hb dL_law_597 rfl (lv_at hl 3 rfl) ?_
    refine lv_aload_n hx hb dL_law_598 rfl (lv_at hl 1 rfl) ?_
    refine lv_iload hx hb dL_law_599 (lv_at hl 5 rfl) ?_
    refine lv_iconst (v := 1) hx hb dL_law_601 (by decide) ?_
    refine lv_iadd hx hb dL_law_602 ?_
    refine va_sld hx hb hX hbl hbA hS hin1 dL_law_603 ?_
    refine rw_i (x' := v1) hv1 ?_
    refine lv_aload_n hx hb dL_law_604 rfl (lv_at hl 1 rfl) ?_
    refine lv_iload hx hb dL_law_605 (lv_at hl 5 rfl) ?_
    refine lv_iconst (v := 2) hx hb dL_law_607 (by decide) ?_
    refine lv_iadd hx hb dL_law_608 ?_
    refine va_sld hx hb hX hbl hbA hS hin2 dL_law_609 ?_
    refine rw_i (x' := v2) hv2 ?_
    have hpm := qm0 (T := (kW y ad zk ok 14) ++ (kW y sd zs os 2)) (pr_14 y h a jq mh w x9 ft z o zc oc x2 ad fl sd jo X fR fr f g fd fk fz o2)
    have hPc : va_P G vwCl [kX12 mh (w 0) (w 1) (w 2) (w 3) (w 4) (w 5) (w 6) (w 7) X, aI y (w 2) 154 f, aI y (w 4) 2156 fd] H := P_r (P_perm hpm hP)
    have hDc : va_D (fun q : Nat => s.heap.size ≤ q) [kX12 mh (w 0) (w 1) (w 2) (w 3) (w 4) (w 5) (w 6) (w 7) X, aI y (w 2) 154 f, aI y (w 4) 2156 fd] := D_r (D_perm hpm hD)
    refine cl_MP (fun _ : Unit => ((lwE y h a jq mh w x9 ft z o zc oc x2 ad fl sd jo (s_X12_set_w0 v1 v2 X) fR fr (s_X12_set_w1 v1 v2 f) g (s_X12_set_w2 v1 v2 X f fd) fk fz o2) ++ ((kW y ad zk ok 14) ++ (kW y sd zs os 2)))) hpm (fun _ => qm0 (T := (kW y ad zk ok 14) ++ (kW y sd zs os 2)) (pr_14 y h a jq mh w x9 ft z o zc oc x2 ad fl sd jo (s_X12_set_w0 v1 v2 X) fR fr (s_X12_set_w1 v1 v2 f) g (s_X12_set_w2 v1 v2 X f fd) fk fz o2)) (va_runV (As := [.int v1, .int v2]) (rest := []) ⟨hx, hb, hml, hown, hts⟩ (c_X12_set l G y mh v1 v2 (w 0) (w 1) (w 2) (w 3) (w 4) (w 5) (w 6) (w 7) X f fd H.size (wf_8 hW)) (cwV 2 hts gL_law_X12_set rfl rfl rfl (by decide +kernel) ⟨Nat.le_of_ble_eq_true rfl, Nat.le_of_ble_eq_true rfl⟩) (PH_V hPc hK4 hN hDc (ci := 10) (q0 := 0) rfl rfl) rfl rfl hl.1 rfl (lv_room (Nat.le_of_ble_eq_true rfl)) dL_law_610 ⟨hkc, hks⟩) hP hD hS hA (fun _ H locs hP hD hS => ?_)
    have hP : va_P G vwCl ((lwE y h a jq mh w x9 ft z o zc oc x2 ad fl sd jo (s_X12_set_w0 v1 v2 X) fR fr (s_X12_set_w1 v1 v2 f) g (s_X12_set_w2 v1 v2 X f fd) fk fz o2) ++ ((kW y ad zk ok 14) ++ (kW y sd zs os 2))) H := hP
    have hD : va_D (fun q : Nat => s.heap.size ≤ q) ((lwE y h a jq mh w x9 ft z o zc oc x2 ad fl sd jo (s_X12_set_w0 v1 v2 X) fR fr (s_X12_set_w1 v1 v2 f) g (s_X12_set_w2 v1 v2 X f fd) fk fz o2) ++ ((kW y ad zk ok 14) ++ (kW y sd zs os 2))) := hD
    obtain ⟨e2, hW2⟩ := ln_set hW hk
    have hT : s_X12_thrown_r (s_X12_set_w0 v1 v2 X) = cdK 1 (s_X11_set_k v1 v2) := (thr_eq _).trans e2
    refine lv_istore (lv' := [(6, .int (s_X12_set_r v1 v2 f)), (5, .int (cdK 1 (s_X11_set_k v1 v2))), (0, .ref b), (1, .ref h), (2, .ref mh), (3, .ref jq), (4, .int iv)]) hx hb dL_law_613 hl (by decide) rfl (fun ls hl => ?_)
    refine lv_aload_n hx hb dL_law_615 rfl (lv_at hl 4 rfl) ?_
    refine cl_Ri (va_runV (As := []) (rest := []) ⟨hx, hb, hml, hown, hts⟩ (c_X12_thrown l G y mh (w 0) (w 1) (w 2) (w 3) (w 4) (w 5) (w 6) (w 7) (s_X12_set_w0 v1 v2 X)) (cwV 0 hts gL_law_X12_thrown rfl rfl rfl (by decide +kernel) ⟨Nat.le_of_ble_eq_true rfl, Nat.le_of_ble_eq_true rfl⟩) (PR_V (sel_P [50] (rfl : sel _ [50] = [kX12 mh (w 0) (w 1) (w 2) (w 3) (w 4) (w 5) (w 6) (w 7) (s_X12_set_w0 v1 v2 X)]) hP) hK4 hN (ci := 10) (q0 := 0) rfl rfl) rfl rfl hl.1 rfl (lv_room (Nat.le_of_ble_eq_true rfl)) dL_law_616 ⟨hkc, hks⟩) ?_
    refine lv_iload hx hb dL_law_619 (lv_at hl 1 rfl) ?_
    refine lv_icmp_eq (tgt := 626) hx hb dL_law_621 (by decide) (fun _ => ?_) (fun c9 => absurd hT c9)
    refine lv_iload hx hb dL_law_626 (lv_at hl 1 rfl) ?_
    refine lv_if_ne (tgt := 643) hx hb dL_law_628 (by decide) (fun _ => ?_) (fun c9 => absurd c9 (cd_n hk))
    refine lv_goto (tgt := 1652) hx hb dL_law_643 (by decide) ?_
    refine W.widen (k := kc + 1) (n := ks + 6) (by omega) (by omega) ?_
    exact KN H locs ls ⟨x9, ft, z, o, zc, oc, x2, ad, zk, ok, fl, sd, zs, os, jo, (s_X12_set_w0 v1 v2 X), fR, fr, (s_X12_set_w1 v1 v2 f), g, (s_X12_set_w2 v1 v2 X f fd), fk, fz, o2, hP, hD, hW2⟩ hS (lv_sub hl [2, 3, 4, 5, 6] rfl)
set_option maxHeartbeats 2000000 in
set_option maxRecDepth 100000 in
theorem case_10 {p : Program} {l : Launch} {e : Env} {s : State} {m : MethodId} {below : List Frame} {meth : Method} {c : Code} {b L : Nat} {xs : Nat → Int32} {G : va_G} {y : Nat → ClassId} {h : Nat} {a : Nat → Nat} {jq mh : Nat} {w : Nat → Nat} {iv v1 v2 v3 : Int32} {N kc ks : Nat} {H : Heap} {locs : List Loc} {ls : Array Slot} (hfl : l.stackTraces = false) (C0 : lw_At p s m meth c b L xs) (hK : va_K G vwCl (tyJ y) s) (hN : NN s) (hTY : TY (fun q : Nat => s.heap.size ≤ q) s) (hin1 : vp_in (iv + 1) L) (hin2 : vp_in (iv + 2) L) (hin3 : vp_in (iv + 3) L) (hv1 : xs (iv + 1).toNatClampNeg = v1) (hv2 : xs (iv + 2).toNatClampNeg = v2) (hv3 : xs (iv + 3).toNatClampNeg = v3) (hkc : kc + 1 ≤ room_1.cells) (hks : ks + 6 ≤ room_1.slots) (hN9 : N + 12800 < 2147483648) (hI : LI G y h a jq mh w (fun q : Nat => s.heap.size ≤ q) N H) (hS : va_S (fun q : Nat => s.heap.size ≤ q) s.heap H locs) (hl : lv_has ls 7 [(0, .ref b), (1, .ref h), (2, .ref mh), (3, .ref jq), (4, .int iv)]) (KN : ∀ (H : Heap) (locs : List Loc) (ls : Array Slot), LI G y h a jq mh w (fun q : Nat => s.heap.size ≤ q) (N + 200) H → va_S (fun q : Nat => s.heap.size ≤ q) s.heap H locs → lv_has ls 7 [(0, .ref b), (1, .ref h), (2, .ref mh), (3, .ref jq), (4, .int iv)] → W p l e room_1 s m #[Value.ref b] below meth c H locs (kc + 1) (ks + 6) (lw_Z below #[Value.ref b] s) (F0 m 1652 ls [])) : W p l e room_1 s m #[Value.ref b] below meth c H locs kc ks (lw_Z below #[Value.ref b] s) (F0 m 646 ls []) := by
  obtain ⟨hx, hb, hr, hml, hown, hts, hX, hbl, hlocks, hgv⟩ := C0
  have hts := fun w hh => hts w (wsL_law_in w hh)
  have hbA : ¬ (fun q : Nat => s.heap.size ≤ q) b := Nat.not_le.mpr hbl
  have hA : ∀ q : Nat, s.heap.size ≤ q → (fun q : Nat => s.heap.size ≤ q) q := fun _ h => h
  have hK4 : va_K G vwCl (tyG y) s := hK.sub (tys' := tyG y) [0, 1, 2, 3] rfl
  have hown : s.vm.findClass RL = some m.cls := hown
  have hkc0 : kc ≤ room_1.cells := Nat.le_of_succ_le hkc
  have hks0 : ks ≤ room_1.slots := Nat.le_trans (Nat.le_add_right ks 6) hks
  obtain ⟨x9, ft, z, o, zc, oc, x2, ad, zk, ok, fl, sd, zs, os, jo, X, fR, fr, f, g, fd, fk, fz, o2, hP, hD, hW⟩ := hI
  by_cases hk : (s_X11_disturb_k v1) = 0
  · refine lv_aload_n hx hb dL_law_646 rfl (lv_at hl 1 rfl) ?_
    refine lv_aload_n hx hb dL_law_647 rfl (lv_at hl 0 rfl) ?_
    refine lv_iload hx hb dL_law_648 (lv_at hl 4 rfl) ?_
    refine lv_iconst (v := 1) hx hb dL_law_650 (by decide) ?_
    refine lv_iadd hx hb dL_law_651 ?_
    refine va_sld hx hb hX hbl hbA hS hin1 dL_law_652 ?_
    refine rw_i (x' := v1) hv1 ?_
    refine lv_aload_n hx hb dL_law_653 rfl (lv_at hl 3 rfl) ?_
    have hpm := qm1 (T1 := (kW y ad zk ok 14)) (T2 := (kW y sd zs os 2)) (pr_13 y h a jq mh w x9 ft z o zc oc x2 ad fl sd jo X fR fr f g fd fk fz o2)
    have hPc : va_P G vwCl ([aJ y jq 1 jo] ++ ([kX11 h (a 0) (a 2) (a 16) (a 30) (a 44) (a 46) Z0, kX2 (a 44) (a 45) x2, aQ y (a 45) 14 (fun i => some (ad i 0)), kX7 (a 16) (a 17) (a 19) (a 20) (a 26) (a 28) (z 0), kX3 (a 17) (a 18) (z 1), aI y (a 18) 10 (z 2), kX1 (a 19) (z 3), kX8 (a 20) (a 21) (a 22) (a 23) (a 24) (a 25) (z 4), aI y (a 21) 20 (z 5), aI y (a 22) 20 (z 6), aI y (a 23) 20 (z 7), aI y (a 24) 20 (z 8), aI y (a 25) 20 o, kX10 (a 26) (a 27) (z 9), aI y (a 27) 32 (z 10), kX0 (a 28) (a 29) (z 11), aI y (a 29) 3 (z 12)] ++ (kW y ad zk ok 14))) H := P_r (P_perm hpm hP)
    have hDc : va_D (fun q : Nat => s.heap.size ≤ q) ([aJ y jq 1 jo] ++ ([kX11 h (a 0) (a 2) (a 16) (a 30) (a 44) (a 46) Z0, kX2 (a 44) (a 45) x2, aQ y (a 45) 14 (fun i => some (ad i 0)), kX7 (a 16) (a 17) (a 19) (a 20) (a 26) (a 28) (z 0), kX3 (a 17) (a 18) (z 1), aI y (a 18) 10 (z 2), kX1 (a 19) (z 3), kX8 (a 20) (a 21) (a 22) (a 23) (a 24) (a 25) (z 4), aI y (a 21) 20 (z 5), aI y (a 22) 20 (z 6), aI y (a 23) 20 (z 7), aI y (a 24) 20 (z 8), aI y (a 25) 20 o, kX10 (a 26) (a 27) (z 9), aI y (a 27) 32 (z 10), kX0 (a 28) (a 29) (z 11), aI y (a 29) 3 (z 12)] ++ (kW y ad zk ok 14))) := D_r (D_perm hpm hD)
    have hFc : ∀ q, va_A ([aJ y jq 1 jo] ++ ([kX11 h (a 0) (a 2) (a 16) (a 30) (a 44) (a 46) Z0, kX2 (a 44) (a 45) x2, aQ y (a 45) 14 (fun i => some (ad i 0)), kX7 (a 16) (a 17) (a 19) (a 20) (a 26) (a 28) (z 0), kX3 (a 17) (a 18) (z 1), aI y (a 18) 10 (z 2), kX1 (a 19) (z 3), kX8 (a 20) (a 21) (a 22) (a 23) (a 24) (a 25) (z 4), aI y (a 21) 20 (z 5), aI y (a 22) 20 (z 6), aI y (a 23) 20 (z 7), aI y (a 24) 20 (z 8), aI y (a 25) 20 o, kX10 (a 26) (a 27) (z 9), aI y (a 27) 32 (z 10), kX0 (a 28) (a 29) (z 11), aI y (a 29) 3 (z 12)] ++ (kW y ad zk ok 14))) H.size q → s.heap.size ≤ q := F_r (D_perm hpm hD) hS hA
    refine cl_LP (fun _ : Unit => ((lwE y h a jq mh w x9 ft (s_X7_push_z v1 z) o zc oc (upd x2 1 (nI (rmC (tn (x2 1)) + 1))) (rmT (tn (x2 1)) ad) fl sd (vp_updL jo 0 (s_X11_disturb_r v1 z).toInt64) X fR fr f g fd fk fz o2) ++ ((kW y (rmT (tn (x2 1)) ad) (uK (rmT (tn (x2 1)) zk) (rmC (tn (x2 1))) z) (rmT (tn (x2 1)) ok) 14) ++ (kW y sd zs os 2)))) hpm (fun _ => qm1 (T1 := (kW y (rmT (tn (x2 1)) ad) (uK (rmT (tn (x2 1)) zk) (rmC (tn (x2 1))) z) (rmT (tn (x2 1)) ok) 14)) (T2 := (kW y sd zs os 2)) (pr_13 y h a jq mh w x9 ft (s_X7_push_z v1 z) o zc oc (upd x2 1 (nI (rmC (tn (x2 1)) + 1))) (rmT (tn (x2 1)) ad) fl sd (vp_updL jo 0 (s_X11_disturb_r v1 z).toInt64) X fR fr f g fd fk fz o2)) (vx_runSX (As := [.ref h, .int v1, .ref jq]) (rest := []) ⟨hx, hb, hml, hown, hts⟩ (c_L_disturb_y l G y h v1 (a 0) (a 2) (a 16) (a 30) (a 44) (a 46) (a 45) x2 (a 17) (a 19) (a 20) (a 26) (a 28) z (a 18) (a 21) (a 22) (a 23) (a 24) (a 25) o (a 27) (a 29) ad zk ok jq jo H.size (wf_c hW) (wf_b hW).1 (wf_b hW).2.1 (wf_b hW).2.2 hk hfl) (vx_cwSW 3 hts gL_law_L_disturb rfl rfl rfl (by decide +kernel) ⟨Nat.le_of_ble_eq_true rfl, Nat.le_of_ble_eq_true rfl⟩) (PHL_S hPc hK hN hDc hTY hS hFc) rfl rfl hl.1 rfl (lv_room (Nat.le_of_ble_eq_true rfl)) dL_law_654 ⟨hkc, hks⟩) hP hD hS hA (fun _ H locs hP hD hS => ?_)
    have hP : va_P G vwCl ((lwE y h a jq mh w x9 ft (s_X7_push_z v1 z) o zc oc (upd x2 1 (nI (rmC (tn (x2 1)) + 1))) (rmT (tn (x2 1)) ad) fl sd (vp_updL jo 0 (s_X11_disturb_r v1 z).toInt64) X fR fr f g fd fk fz o2) ++ ((kW y (rmT (tn (x2 1)) ad) (uK (rmT (tn (x2 1)) zk) (rmC (tn (x2 1))) z) (rmT (tn (x2 1)) ok) 14) ++ (kW y sd zs os 2))) H := hP
    have hD : va_D (fun q : Nat => s.heap.size ≤ q) ((lwE y h a jq mh w x9 ft (s_X7_push_z v1 z) o zc oc (upd x2 1 (nI (rmC (tn (x2 1)) + 1))) (rmT (tn (x2 1)) ad) fl sd (vp_updL jo 0 (s_X11_disturb_r v1 z).toInt64) X fR fr f g fd fk fz o2) ++ ((kW y (rmT (tn (x2 1)) ad) (uK (rmT (tn (x2 1)) zk) (rmC (tn (x2 1))) z) (rmT (tn (x2 1)) ok) 14) ++ (kW y sd zs os 2))) := hD
    refine lv_istore (lv' := [(5, .int 0), (0, .ref b), (1, .ref h), (2, .ref mh), (3, .ref jq), (4, .int iv)]) hx hb dL_law_657 hl (by decide) rfl (fun ls hl => ?_)
    refine lv_aload_n hx hb dL_law_659 rfl (lv_at hl 3 rfl) ?_
    refine lv_aload_n hx hb dL_law_660 rfl (lv_at hl 1 rfl) ?_
    refine lv_iload hx hb dL_law_661 (lv_at hl 5 rfl) ?_
    refine lv_iconst (v := 1) hx hb dL_law_663 (by decide) ?_
    refine lv_iadd hx hb dL_law_664 ?_
    refine va_sld hx hb hX hbl hbA hS hin1 dL_law_665 ?_
    refine rw_i (x' := v1) hv1 ?_
    have hpm := qm0 (T := (kW y (rmT (tn (x2 1)) ad) (uK (rmT (tn (x2 1)) zk) (rmC (tn (x2 1))) z) (rmT (tn (x2 1)) ok) 14) ++ (kW y sd zs os 2)) (pr_14 y h a jq mh w x9 ft (s_X7_push_z v1 z) o zc oc (upd x2 1 (nI (rmC (tn (x2 1)) + 1))) (rmT (tn (x2 1)) ad) fl sd (vp_updL jo 0 (s_X11_disturb_r v1 z).toInt64) X fR fr f g fd fk fz o2)
    have hPc : va_P G vwCl [kX12 mh (w 0) (w 1) (w 2) (w 3) (w 4) (w 5) (w 6) (w 7) X, aI y (w 2) 154 f, aI y (w 4) 2156 fd] H := P_r (P_perm hpm hP)
    have hDc : va_D (fun q : Nat => s.heap.size ≤ q) [kX12 mh (w 0) (w 1) (w 2) (w 3) (w 4) (w 5) (w 6) (w 7) X, aI y (w 2) 154 f, aI y (w 4) 2156 fd] := D_r (D_perm hpm hD)
    refine cl_MP (fun _ : Unit => ((lwE y h a jq mh w x9 ft (s_X7_push_z v1 z) o zc oc (upd x2 1 (nI (rmC (tn (x2 1)) + 1))) (rmT (tn (x2 1)) ad) fl sd (vp_updL jo 0 (s_X11_disturb_r v1 z).toInt64) (s_X12_disturb_w0 v1 X) fR fr (s_X12_disturb_w1 v1 f) g (s_X12_disturb_w2 v1 X f fd) fk fz o2) ++ ((kW y (rmT (tn (x2 1)) ad) (uK (rmT (tn (x2 1)) zk) (rmC (tn (x2 1))) z) (rmT (tn (x2 1)) ok) 14) ++ (kW y sd zs os 2)))) hpm (fun _ => qm0 (T := (kW y (rmT (tn (x2 1)) ad) (uK (rmT (tn (x2 1)) zk) (rmC (tn (x2 1))) z) (rmT (tn (x2 1)) ok) 14) ++ (kW y sd zs os 2)) (pr_14 y h a jq mh w x9 ft (s_X7_push_z v1 z) o zc oc (upd x2 1 (nI (rmC (tn (x2 1)) + 1))) (rmT (tn (x2 1)) ad) fl sd (vp_updL jo 0 (s_X11_disturb_r v1 z).toInt64) (s_X12_disturb_w0 v1 X) fR fr (s_X12_disturb_w1 v1 f) g (s_X12_disturb_w2 v1 X f fd) fk fz o2)) (va_runV (As := [.int v1]) (rest := []) ⟨hx, hb, hml, hown, hts⟩ (c_X12_disturb l G y mh v1 (w 0) (w 1) (w 2) (w 3) (w 4) (w 5) (w 6) (w 7) X f fd H.size (wf_8 hW)) (cwV 1 hts gL_law_X12_disturb rfl rfl rfl (by decide +kernel) ⟨Nat.le_of_ble_eq_true rfl, Nat.le_of_ble_eq_true rfl⟩) (PH_V hPc hK4 hN hDc (ci := 10) (q0 := 0) rfl rfl) rfl rfl hl.1 rfl (lv_room (Nat.le_of_ble_eq_true rfl)) dL_law_666 ⟨hkc, hks⟩) hP hD hS hA (fun _ H locs hP hD hS => ?_)
    have hP : va_P G vwCl ((lwE y h a jq mh w x9 ft (s_X7_push_z v1 z) o zc oc (upd x2 1 (nI (rmC (tn (x2 1)) + 1))) (rmT (tn (x2 1)) ad) fl sd (vp_updL jo 0 (s_X11_disturb_r v1 z).toInt64) (s_X12_disturb_w0 v1 X) fR fr (s_X12_disturb_w1 v1 f) g (s_X12_disturb_w2 v1 X f fd) fk fz o2) ++ ((kW y (rmT (tn (x2 1)) ad) (uK (rmT (tn (x2 1)) zk) (rmC (tn (x2 1))) z) (rmT (tn (x2 1)) ok) 14) ++ (kW y sd zs os 2))) H := hP
    have hD : va_D (fun q : Nat => s.heap.size ≤ q) ((lwE y h a jq mh w x9 ft (s_X7_push_z v1 z) o zc oc (upd x2 1 (nI (rmC (tn (x2 1)) + 1))) (rmT (tn (x2 1)) ad) fl sd (vp_updL jo 0 (s_X11_disturb_r v1 z).toInt64) (s_X12_disturb_w0 v1 X) fR fr (s_X12_disturb_w1 v1 f) g (s_X12_disturb_w2 v1 X f fd) fk fz o2) ++ ((kW y (rmT (tn (x2 1)) ad) (uK (rmT (tn (x2 1)) zk) (rmC (tn (x2 1))) z) (rmT (tn (x2 1)) ok) 14) ++ (kW y sd zs os 2))) := hD
    obtain ⟨e1, e2, hW2⟩ := ly_disturb hW hN9 hk
    have hT : s_X12_thrown_r (s_X12_disturb_w0 v1 X) = 0 := (thr_eq _).trans e2
    refine lv_istore (lv' := [(6, .int (s_X12_disturb_r v1 f)), (5, .int 0), (0, .ref b), (1, .ref h), (2, .ref mh), (3, .ref jq), (4, .int iv)]) hx hb dL_law_669 hl (by decide) rfl (fun ls hl => ?_)
    refine lv_aload_n hx hb dL_law_671 rfl (lv_at hl 4 rfl) ?_
    refine cl_Ri (va_runV (As := []) (rest := []) ⟨hx, hb, hml, hown, hts⟩ (c_X12_thrown l G y mh (w 0) (w 1) (w 2) (w 3) (w 4) (w 5) (w 6) (w 7) (s_X12_disturb_w0 v1 X)) (cwV 0 hts gL_law_X12_thrown rfl rfl rfl (by decide +kernel) ⟨Nat.le_of_ble_eq_true rfl, Nat.le_of_ble_eq_true rfl⟩) (PR_V (sel_P [50] (rfl : sel _ [50] = [kX12 mh (w 0) (w 1) (w 2) (w 3) (w 4) (w 5) (w 6) (w 7) (s_X12_disturb_w0 v1 X)]) hP) hK4 hN (ci := 10) (q0 := 0) rfl rfl) rfl rfl hl.1 rfl (lv_room (Nat.le_of_ble_eq_true rfl)) dL_law_672 ⟨hkc, hks⟩) ?_
    refine lv_iload hx hb dL_law_675 (lv_at hl 1 rfl) ?_
    refine lv_icmp_eq (tgt := 682) hx hb dL_law_677 (by decide) (fun _ => ?_) (fun c9 => absurd hT c9)
    refine lv_iload hx hb dL_law_682 (lv_at hl 1 rfl) ?_
    refine lv_if_ne (tgt := 699) hx hb dL_law_684 (by decide) (fun c9 => absurd rfl c9) (fun _ => ?_)
    refine lv_aload_n hx hb dL_law_687 rfl (lv_at hl 5 rfl) ?_
    refine lv_iconst (v := 0) hx hb dL_law_688 (by decide) ?_
    refine al_o hx hb hK 59 hP rfl dL_law_689 ?_
    refine lv_iload hx hb dL_law_690 (lv_at hl 0 rfl) ?_
    refine lv_i2l (v := (s_X12_disturb_r v1 f).toInt64) hx hb dL_law_692 rfl ?_
    refine W.lcmp hx hb dL_law_693 ?_
    refine lv_if_eq (tgt := 699) hx hb dL_law_694 (by decide) (fun _ => ?_) (fun c9 => absurd (lg_o e1) c9)
    refine lv_goto (tgt := 1652) hx hb dL_law_699 (by decide) ?_
    refine W.widen (k := kc + 1) (n := ks + 6) (by omega) (by omega) ?_
    exact KN H locs ls ⟨x9, ft, (s_X7_push_z v1 z), o, zc, oc, (upd x2 1 (nI (rmC (tn (x2 1)) + 1))), (rmT (tn (x2 1)) ad), (uK (rmT (tn (x2 1)) zk) (rmC (tn (x2 1))) z), (rmT (tn (x2 1)) ok), fl, sd, zs, os, (vp_updL jo 0 (s_X11_disturb_r v1 z).toInt64), (s_X12_disturb_w0 v1 X), fR, fr, (s_X12_disturb_w1 v1 f), g, (s_X12_disturb_w2 v1 X f fd), fk, fz, o2, hP, hD, hW2⟩ hS (lv_sub hl [2, 3, 4, 5, 6] rfl)
  · refine lv_aload_n hx hb dL_law_646 rfl (lv_at hl 1 rfl) ?_
    refine lv_aload_n hx hb dL_law_647 rfl (lv_at hl 0 rfl) ?_
    refine lv_iload hx hb dL_law_648 (lv_at hl 4 rfl) ?_
    refine lv_iconst (v := 1) hx hb dL_law_650 (by decide) ?_
    refine lv_iadd hx hb dL_law_651 ?_
    refine va_sld hx hb hX hbl hbA hS hin1 dL_law_652 ?_
    refine rw_i (x' := v1) hv1 ?_
    refine lv_aload_n hx hb dL_law_653 rfl (lv_at hl 3 rfl) ?_
    have hpm := qm1 (T1 := (kW y ad zk ok 14)) (T2 := (kW y sd zs os 2)) (pr_13 y h a jq mh w x9 ft z o zc oc x2 ad fl sd jo X fR fr f g fd fk fz o2)
    have hPc : va_P G vwCl ([aJ y jq 1 jo] ++ ([kX11 h (a 0) (a 2) (a 16) (a 30) (a 44) (a 46) Z0, kX2 (a 44) (a 45) x2, aQ y (a 45) 14 (fun i => some (ad i 0)), kX7 (a 16) (a 17) (a 19) (a 20) (a 26) (a 28) (z 0), kX3 (a 17) (a 18) (z 1), aI y (a 18) 10 (z 2), kX1 (a 19) (z 3), kX8 (a 20) (a 21) (a 22) (a 23) (a 24) (a 25) (z 4), aI y (a 21) 20 (z 5), aI y (a 22) 20 (z 6), aI y (a 23) 20 (z 7), aI y (a 24) 20 (z 8), aI y (a 25) 20 o, kX10 (a 26) (a 27) (z 9), aI y (a 27) 32 (z 10), kX0 (a 28) (a 29) (z 11), aI y (a 29) 3 (z 12)] ++ (kW y ad zk ok 14))) H := P_r (P_perm hpm hP)
    have hDc : va_D (fun q : Nat => s.heap.size ≤ q) ([aJ y jq 1 jo] ++ ([kX11 h (a 0) (a 2) (a 16) (a 30) (a 44) (a 46) Z0, kX2 (a 44) (a 45) x2, aQ y (a 45) 14 (fun i => some (ad i 0)), kX7 (a 16) (a 17) (a 19) (a 20) (a 26) (a 28) (z 0), kX3 (a 17) (a 18) (z 1), aI y (a 18) 10 (z 2), kX1 (a 19) (z 3), kX8 (a 20) (a 21) (a 22) (a 23) (a 24) (a 25) (z 4), aI y (a 21) 20 (z 5), aI y (a 22) 20 (z 6), aI y (a 23) 20 (z 7), aI y (a 24) 20 (z 8), aI y (a 25) 20 o, kX10 (a 26) (a 27) (z 9), aI y (a 27) 32 (z 10), kX0 (a 28) (a 29) (z 11), aI y (a 29) 3 (z 12)] ++ (kW y ad zk ok 14))) := D_r (D_perm hpm hD)
    have hFc : ∀ q, va_A ([aJ y jq 1 jo] ++ ([kX11 h (a 0) (a 2) (a 16) (a 30) (a 44) (a 46) Z0, kX2 (a 44) (a 45) x2, aQ y (a 45) 14 (fun i => some (ad i 0)), kX7 (a 16) (a 17) (a 19) (a 20) (a 26) (a 28) (z 0), kX3 (a 17) (a 18) (z 1), aI y (a 18) 10 (z 2), kX1 (a 19) (z 3), kX8 (a 20) (a 21) (a 22) (a 23) (a 24) (a 25) (z 4), aI y (a 21) 20 (z 5), aI y (a 22) 20 (z 6), aI y (a 23) 20 (z 7), aI y (a 24) 20 (z 8), aI y (a 25) 20 o, kX10 (a 26) (a 27) (z 9), aI y (a 27) 32 (z 10), kX0 (a 28) (a 29) (z 11), aI y (a 29) 3 (z 12)] ++ (kW y ad zk ok 14))) H.size q → s.heap.size ≤ q := F_r (D_perm hpm hD) hS hA
    refine cl_LP (fun _ : Unit => ((lwE y h a jq mh w x9 ft z o zc oc x2 ad fl sd jo X fR fr f g fd fk fz o2) ++ ((kW y ad zk ok 14) ++ (kW y sd zs os 2)))) hpm (fun _ => qm1 (T1 := (kW y ad zk ok 14)) (T2 := (kW y sd zs os 2)) (pr_13 y h a jq mh w x9 ft z o zc oc x2 ad fl sd jo X fR fr f g fd fk fz o2)) (vx_runSX (As := [.ref h, .int v1, .ref jq]) (rest := []) ⟨hx, hb, hml, hown, hts⟩ (c_L_disturb_n l G y h v1 (a 0) (a 2) (a 16) (a 30) (a 44) (a 46) (a 45) x2 (a 17) (a 19) (a 20) (a 26) (a 28) z (a 18) (a 21) (a 22) (a 23) (a 24) (a 25) o (a 27) (a 29) ad zk ok jq jo H.size (wf_c hW) (wf_b hW).1 (wf_b hW).2.1 (wf_b hW).2.2 hk hfl) (vx_cwSW 3 hts gL_law_L_disturb rfl rfl rfl (by decide +kernel) ⟨Nat.le_of_ble_eq_true rfl, Nat.le_of_ble_eq_true rfl⟩) (PHL_S hPc hK hN hDc hTY hS hFc) rfl rfl hl.1 rfl (lv_room (Nat.le_of_ble_eq_true rfl)) dL_law_654 ⟨hkc, hks⟩) hP hD hS hA (fun _ H locs hP hD hS => ?_)
    have hP : va_P G vwCl ((lwE y h a jq mh w x9 ft z o zc oc x2 ad fl sd jo X fR fr f g fd fk fz o2) ++ ((kW y ad zk ok 14) ++ (kW y sd zs os 2))) H := hP
    have hD : va_D (fun q : Nat => s.heap.size ≤ q) ((lwE y h a jq mh w x9 ft z o zc oc x2 ad fl sd jo X fR fr f g fd fk fz o2) ++ ((kW y ad zk ok 14) ++ (kW y sd zs os 2))) := hD
    refine lv_istore (lv' := [(5, .int (cdK 1 (s_X11_disturb_k v1))), (0, .ref b), (1, .ref h), (2, .ref mh), (3, .ref jq), (4, .int iv)]) hx hb dL_law_657 hl (by decide) rfl (fun ls hl => ?_)
    refine lv_aload_n hx hb dL_law_659 rfl (lv_at hl 3 rfl) ?_
    refine lv_aload_n hx hb dL_law_660 rfl (lv_at hl 1 rfl) ?_
    refine lv_iload hx hb dL_law_661 (lv_at hl 5 rfl) ?_
    refine lv_iconst (v := 1) hx hb dL_law_663 (by decide) ?_
    refine lv_iadd hx hb dL_law_664 ?_
    refine va_sld hx hb hX hbl hbA hS hin1 dL_law_665 ?_
    refine rw_i (x' := v1) hv1 ?_
    have hpm := qm0 (T := (kW y ad zk ok 14) ++ (kW y sd zs os 2)) (pr_14 y h a jq mh w x9 ft z o zc oc x2 ad fl sd jo X fR fr f g fd fk fz o2)
    have hPc : va_P G vwCl [kX12 mh (w 0) (w 1) (w 2) (w 3) (w 4) (w 5) (w 6) (w 7) X, aI y (w 2) 154 f, aI y (w 4) 2156 fd] H := P_r (P_perm hpm hP)
    have hDc : va_D (fun q : Nat => s.heap.size ≤ q) [kX12 mh (w 0) (w 1) (w 2) (w 3) (w 4) (w 5) (w 6) (w 7) X, aI y (w 2) 154 f, aI y (w 4) 2156 fd] := D_r (D_perm hpm hD)
    refine cl_MP (fun _ : Unit => ((lwE y h a jq mh w x9 ft z o zc oc x2 ad fl sd jo (s_X12_disturb_w0 v1 X) fR fr (s_X12_disturb_w1 v1 f) g (s_X12_disturb_w2 v1 X f fd) fk fz o2) ++ ((kW y ad zk ok 14) ++ (kW y sd zs os 2)))) hpm (fun _ => qm0 (T := (kW y ad zk ok 14) ++ (kW y sd zs os 2)) (pr_14 y h a jq mh w x9 ft z o zc oc x2 ad fl sd jo (s_X12_disturb_w0 v1 X) fR fr (s_X12_disturb_w1 v1 f) g (s_X12_disturb_w2 v1 X f fd) fk fz o2)) (va_runV (As := [.int v1]) (rest := []) ⟨hx, hb, hml, hown, hts⟩ (c_X12_disturb l G y mh v1 (w 0) (w 1) (w 2) (w 3) (w 4) (w 5) (w 6) (w 7) X f fd H.size (wf_8 hW)) (cwV 1 hts gL_law_X12_disturb rfl rfl rfl (by decide +kernel) ⟨Nat.le_of_ble_eq_true rfl, Nat.le_of_ble_eq_true rfl⟩) (PH_V hPc hK4 hN hDc (ci := 10) (q0 := 0) rfl rfl) rfl rfl hl.1 rfl (lv_room (Nat.le_of_ble_eq_true rfl)) dL_law_666 ⟨hkc, hks⟩) hP hD hS hA (fun _ H locs hP hD hS => ?_)
    have hP : va_P G vwCl ((lwE y h a jq mh w x9 ft z o zc oc x2 ad fl sd jo (s_X12_disturb_w0 v1 X) fR fr (s_X12_disturb_w1 v1 f) g (s_X12_disturb_w2 v1 X f fd) fk fz o2) ++ ((kW y ad zk ok 14) ++ (kW y sd zs os 2))) H := hP
    have hD : va_D (fun q : Nat => s.heap.size ≤ q) ((lwE y h a jq mh w x9 ft z o zc oc x2 ad fl sd jo (s_X12_disturb_w0 v1 X) fR fr (s_X12_disturb_w1 v1 f) g (s_X12_disturb_w2 v1 X f fd) fk fz o2) ++ ((kW y ad zk ok 14) ++ (kW y sd zs os 2))) := hD
    obtain ⟨e2, hW2⟩ := ln_disturb hW hk
    have hT : s_X12_thrown_r (s_X12_disturb_w0 v1 X) = cdK 1 (s_X11_disturb_k v1) := (thr_eq _).trans e2
    refine lv_istore (lv' := [(6, .int (s_X12_disturb_r v1 f)), (5, .int (cdK 1 (s_X11_disturb_k v1))), (0, .ref b), (1, .ref h), (2, .ref mh), (3, .ref jq), (4, .int iv)]) hx hb dL_law_669 hl (by decide) rfl (fun ls hl => ?_)
    refine lv_aload_n hx hb dL_law_671 rfl (lv_at hl 4 rfl) ?_
    refine cl_Ri (va_runV (As := []) (rest := []) ⟨hx, hb, hml, hown, hts⟩ (c_X12_thrown l G y mh (w 0) (w 1) (w 2) (w 3) (w 4) (w 5) (w 6) (w 7) (s_X12_disturb_w0 v1 X)) (cwV 0 hts gL_law_X12_thrown rfl rfl rfl (by decide +kernel) ⟨Nat.le_of_ble_eq_true rfl, Nat.le_of_ble_eq_true rfl⟩) (PR_V (sel_P [50] (rfl : sel _ [50] = [kX12 mh (w 0) (w 1) (w 2) (w 3) (w 4) (w 5) (w 6) (w 7) (s_X12_disturb_w0 v1 X)]) hP) hK4 hN (ci := 10) (q0 := 0) rfl rfl) rfl rfl hl.1 rfl (lv_room (Nat.le_of_ble_eq_true rfl)) dL_law_672 ⟨hkc, hks⟩) ?_
    refine lv_iload hx hb dL_law_675 (lv_at hl 1 rfl) ?_
    refine lv_icmp_eq (tgt := 682) hx hb dL_law_677 (by decide) (fun _ => ?_) (fun c9 => absurd hT c9)
    refine lv_iload hx hb dL_law_682 (lv_at hl 1 rfl) ?_
    refine lv_if_ne (tgt := 699) hx hb dL_law_684 (by decide) (fun _ => ?_) (fun c9 => absurd c9 (cd_n hk))
    refine lv_goto (tgt := 1652) hx hb dL_law_699 (by decide) ?_
    refine W.widen (k := kc + 1) (n := ks + 6) (by omega) (by omega) ?_
    exact KN H locs ls ⟨x9, ft, z, o, zc, oc, x2, ad, zk, ok, fl, sd, zs, os, jo, (s_X12_disturb_w0 v1 X), fR, fr, (s_X12_disturb_w1 v1 f), g, (s_X12_disturb_w2 v1 X f fd), fk, fz, o2, hP, hD, hW2⟩ hS (lv_sub hl [2, 3, 4, 5, 6] rfl)
set_option maxHeartbeats 2000000 in
set_option maxRecDepth 100000 in
theorem case_11 {p : Program} {l : Launch} {e : Env} {s : State} {m : MethodId} {below : List Frame} {meth : Method} {c : Code} {b L : Nat} {xs : Nat → Int32} {G : va_G} {y : Nat → ClassId} {h : Nat} {a : Nat → Nat} {jq mh : Nat} {w : Nat → Nat} {iv v1 v2 v3 : Int32} {N kc ks : Nat} {H : Heap} {locs : List Loc} {ls : Array Slot} (hfl : l.stackTraces = false) (C0 : lw_At p s m meth c b L xs) (hK : va_K G vwCl (tyJ y) s) (hN : NN s) (hTY : TY (fun q : Nat => s.heap.size ≤ q) s) (hin1 : vp_in (iv + 1) L) (hin2 : vp_in (iv + 2) L) (hin3 : vp_in (iv + 3) L) (hv1 : xs (iv + 1).toNatClampNeg = v1) (hv2 : xs (iv + 2).toNatClampNeg = v2) (hv3 : xs (iv + 3).toNatClampNeg = v3) (hkc : kc + 1 ≤ room_1.cells) (hks : ks + 6 ≤ room_1.slots) (hN9 : N + 12800 < 2147483648) (hI : LI G y h a jq mh w (fun q : Nat => s.heap.size ≤ q) N H) (hS : va_S (fun q : Nat => s.heap.size ≤ q) s.heap H locs) (hl : lv_has ls 7 [(0, .ref b), (1, .ref h), (2, .ref mh), (3, .ref jq), (4, .int iv)]) (KN : ∀ (H : Heap) (locs : List Loc) (ls : Array Slot), LI G y h a jq mh w (fun q : Nat => s.heap.size ≤ q) (N + 200) H → va_S (fun q : Nat => s.heap.size ≤ q) s.heap H locs → lv_has ls 7 [(0, .ref b), (1, .ref h), (2, .ref mh), (3, .ref jq), (4, .int iv)] → W p l e room_1 s m #[Value.ref b] below meth c H locs (kc + 1) (ks + 6) (lw_Z below #[Value.ref b] s) (F0 m 1652 ls [])) : W p l e room_1 s m #[Value.ref b] below meth c H locs kc ks (lw_Z below #[Value.ref b] s) (F0 m 702 ls []) := by
  obtain ⟨hx, hb, hr, hml, hown, hts, hX, hbl, hlocks, hgv⟩ := C0
  have hts := fun w hh => hts w (wsL_law_in w hh)
  have hbA : ¬ (fun q : Nat => s.heap.size ≤ q) b := Nat.not_le.mpr hbl
  have hA : ∀ q : Nat, s.heap.size ≤ q → (fun q : Nat => s.heap.size ≤ q) q := fun _ h => h
  have hK4 : va_K G vwCl (tyG y) s := hK.sub (tys' := tyG y) [0, 1, 2, 3] rfl
  have hown : s.vm.findClass RL = some m.cls := hown
  have hkc0 : kc ≤ room_1.cells := Nat.le_of_succ_le hkc
  have hks0 : ks ≤ room_1.slots := Nat.le_trans (Nat.le_add_right ks 6) hks
  obtain ⟨x9, ft, z, o, zc, oc, x2, ad, zk, ok, fl, sd, zs, os, jo, X, fR, fr, f, g, fd, fk, fz, o2, hP, hD, hW⟩ := hI
  by_cases hk : (s_X11_discard_k v1 z) = 0
  · refine lv_aload_n hx hb dL_law_702 rfl (lv_at hl 1 rfl) ?_
    refine lv_aload_n hx hb dL_law_703 rfl (lv_at hl 0 rfl) ?_
    refine lv_iload hx hb dL_law_704 (lv_at hl 4 rfl) ?_
    refine lv_iconst (v := 1) hx hb dL_law_706 (by decide) ?_
    refine lv_iadd hx hb dL_law_707 ?_
    refine va_sld hx hb hX hbl hbA hS hin1 dL_law_708 ?_
    refine rw_i (x' := v1) hv1 ?_
    refine lv_aload_n hx hb dL_law_709 rfl (lv_at hl 3 rfl) ?_
    have hpm := qm1 (T1 := (kW y ad zk ok 14)) (T2 := (kW y sd zs os 2)) (pr_13 y h a jq mh w x9 ft z o zc oc x2 ad fl sd jo X fR fr f g fd fk fz o2)
    have hPc : va_P G vwCl ([aJ y jq 1 jo] ++ ([kX11 h (a 0) (a 2) (a 16) (a 30) (a 44) (a 46) Z0, kX2 (a 44) (a 45) x2, aQ y (a 45) 14 (fun i => some (ad i 0)), kX7 (a 16) (a 17) (a 19) (a 20) (a 26) (a 28) (z 0), kX3 (a 17) (a 18) (z 1), aI y (a 18) 10 (z 2), kX1 (a 19) (z 3), kX8 (a 20) (a 21) (a 22) (a 23) (a 24) (a 25) (z 4), aI y (a 21) 20 (z 5), aI y (a 22) 20 (z 6), aI y (a 23) 20 (z 7), aI y (a 24) 20 (z 8), aI y (a 25) 20 o, kX10 (a 26) (a 27) (z 9), aI y (a 27) 32 (z 10), kX0 (a 28) (a 29) (z 11), aI y (a 29) 3 (z 12)] ++ (kW y ad zk ok 14))) H := P_r (P_perm hpm hP)
    have hDc : va_D (fun q : Nat => s.heap.size ≤ q) ([aJ y jq 1 jo] ++ ([kX11 h (a 0) (a 2) (a 16) (a 30) (a 44) (a 46) Z0, kX2 (a 44) (a 45) x2, aQ y (a 45) 14 (fun i => some (ad i 0)), kX7 (a 16) (a 17) (a 19) (a 20) (a 26) (a 28) (z 0), kX3 (a 17) (a 18) (z 1), aI y (a 18) 10 (z 2), kX1 (a 19) (z 3), kX8 (a 20) (a 21) (a 22) (a 23) (a 24) (a 25) (z 4), aI y (a 21) 20 (z 5), aI y (a 22) 20 (z 6), aI y (a 23) 20 (z 7), aI y (a 24) 20 (z 8), aI y (a 25) 20 o, kX10 (a 26) (a 27) (z 9), aI y (a 27) 32 (z 10), kX0 (a 28) (a 29) (z 11), aI y (a 29) 3 (z 12)] ++ (kW y ad zk ok 14))) := D_r (D_perm hpm hD)
    have hFc : ∀ q, va_A ([aJ y jq 1 jo] ++ ([kX11 h (a 0) (a 2) (a 16) (a 30) (a 44) (a 46) Z0, kX2 (a 44) (a 45) x2, aQ y (a 45) 14 (fun i => some (ad i 0)), kX7 (a 16) (a 17) (a 19) (a 20) (a 26) (a 28) (z 0), kX3 (a 17) (a 18) (z 1), aI y (a 18) 10 (z 2), kX1 (a 19) (z 3), kX8 (a 20) (a 21) (a 22) (a 23) (a 24) (a 25) (z 4), aI y (a 21) 20 (z 5), aI y (a 22) 20 (z 6), aI y (a 23) 20 (z 7), aI y (a 24) 20 (z 8), aI y (a 25) 20 o, kX10 (a 26) (a 27) (z 9), aI y (a 27) 32 (z 10), kX0 (a 28) (a 29) (z 11), aI y (a 29) 3 (z 12)] ++ (kW y ad zk ok 14))) H.size q → s.heap.size ≤ q := F_r (D_perm hpm hD) hS hA
    refine cl_LP (fun _ : Unit => ((lwE y h a jq mh w x9 ft (s_X11_discard_z v1 z) o zc oc (upd x2 1 (nI (rmC (tn (x2 1)) + 1))) (rmT (tn (x2 1)) ad) fl sd (vp_updL jo 0 (s_X11_discard_r v1 z).toInt64) X fR fr f g fd fk fz o2) ++ ((kW y (rmT (tn (x2 1)) ad) (uK (rmT (tn (x2 1)) zk) (rmC (tn (x2 1))) z) (rmT (tn (x2 1)) ok) 14) ++ (kW y sd zs os 2)))) hpm (fun _ => qm1 (T1 := (kW y (rmT (tn (x2 1)) ad) (uK (rmT (tn (x2 1)) zk) (rmC (tn (x2 1))) z) (rmT (tn (x2 1)) ok) 14)) (T2 := (kW y sd zs os 2)) (pr_13 y h a jq mh w x9 ft (s_X11_discard_z v1 z) o zc oc (upd x2 1 (nI (rmC (tn (x2 1)) + 1))) (rmT (tn (x2 1)) ad) fl sd (vp_updL jo 0 (s_X11_discard_r v1 z).toInt64) X fR fr f g fd fk fz o2)) (vx_runSX (As := [.ref h, .int v1, .ref jq]) (rest := []) ⟨hx, hb, hml, hown, hts⟩ (c_L_discard_y l G y h v1 (a 0) (a 2) (a 16) (a 30) (a 44) (a 46) (a 45) x2 (a 17) (a 19) (a 20) (a 26) (a 28) z (a 18) (a 21) (a 22) (a 23) (a 24) (a 25) o (a 27) (a 29) ad zk ok jq jo H.size (wf_c hW) (wf_b hW).1 (wf_b hW).2.1 (wf_b hW).2.2 (wf_w hW) hk hfl) (vx_cwSW 3 hts gL_law_L_discard rfl rfl rfl (by decide +kernel) ⟨Nat.le_of_ble_eq_true rfl, Nat.le_of_ble_eq_true rfl⟩) (PHL_S hPc hK hN hDc hTY hS hFc) rfl rfl hl.1 rfl (lv_room (Nat.le_of_ble_eq_true rfl)) dL_law_710 ⟨hkc, hks⟩) hP hD hS hA (fun _ H locs hP hD hS => ?_)
    have hP : va_P G vwCl ((lwE y h a jq mh w x9 ft (s_X11_discard_z v1 z) o zc oc (upd x2 1 (nI (rmC (tn (x2 1)) + 1))) (rmT (tn (x2 1)) ad) fl sd (vp_updL jo 0 (s_X11_discard_r v1 z).toInt64) X fR fr f g fd fk fz o2) ++ ((kW y (rmT (tn (x2 1)) ad) (uK (rmT (tn (x2 1)) zk) (rmC (tn (x2 1))) z) (rmT (tn (x2 1)) ok) 14) ++ (kW y sd zs os 2))) H := hP
    have hD : va_D (fun q : Nat => s.heap.size ≤ q) ((lwE y h a jq mh w x9 ft (s_X11_discard_z v1 z) o zc oc (upd x2 1 (nI (rmC (tn (x2 1)) + 1))) (rmT (tn (x2 1)) ad) fl sd (vp_updL jo 0 (s_X11_discard_r v1 z).toInt64) X fR fr f g fd fk fz o2) ++ ((kW y (rmT (tn (x2 1)) ad) (uK (rmT (tn (x2 1)) zk) (rmC (tn (x2 1))) z) (rmT (tn (x2 1)) ok) 14) ++ (kW y sd zs os 2))) := hD
    refine lv_istore (lv' := [(5, .int 0), (0, .ref b), (1, .ref h), (2, .ref mh), (3, .ref jq), (4, .int iv)]) hx hb dL_law_713 hl (by decide) rfl (fun ls hl => ?_)
    refine lv_aload_n hx hb dL_law_715 rfl (lv_at hl 3 rfl) ?_
    refine lv_aload_n hx hb dL_law_716 rfl (lv_at hl 1 rfl) ?_
    refine lv_iload hx hb dL_law_717 (lv_at hl 5 rfl) ?_
    refine lv_iconst (v := 1) hx hb dL_law_719 (by decide) ?_
    refine lv_iadd hx hb dL_law_720 ?_
    refine va_sld hx hb hX hbl hbA hS hin1 dL_law_721 ?_
    refine rw_i (x' := v1) hv1 ?_
    have hpm := qm0 (T := (kW y (rmT (tn (x2 1)) ad) (uK (rmT (tn (x2 1)) zk) (rmC (tn (x2 1))) z) (rmT (tn (x2 1)) ok) 14) ++ (kW y sd zs os 2)) (pr_14 y h a jq mh w x9 ft (s_X11_discard_z v1 z) o zc oc (upd x2 1 (nI (rmC (tn (x2 1)) + 1))) (rmT (tn (x2 1)) ad) fl sd (vp_updL jo 0 (s_X11_discard_r v1 z).toInt64) X fR fr f g fd fk fz o2)
    have hPc : va_P G vwCl [kX12 mh (w 0) (w 1) (w 2) (w 3) (w 4) (w 5) (w 6) (w 7) X, aI y (w 2) 154 f, aI y (w 4) 2156 fd] H := P_r (P_perm hpm hP)
    have hDc : va_D (fun q : Nat => s.heap.size ≤ q) [kX12 mh (w 0) (w 1) (w 2) (w 3) (w 4) (w 5) (w 6) (w 7) X, aI y (w 2) 154 f, aI y (w 4) 2156 fd] := D_r (D_perm hpm hD)
    refine cl_MP (fun _ : Unit => ((lwE y h a jq mh w x9 ft (s_X11_discard_z v1 z) o zc oc (upd x2 1 (nI (rmC (tn (x2 1)) + 1))) (rmT (tn (x2 1)) ad) fl sd (vp_updL jo 0 (s_X11_discard_r v1 z).toInt64) (s_X12_discard_w0 v1 X f) fR fr (s_X12_discard_w1 v1 f) g (s_X12_discard_w2 v1 X f fd) fk fz o2) ++ ((kW y (rmT (tn (x2 1)) ad) (uK (rmT (tn (x2 1)) zk) (rmC (tn (x2 1))) z) (rmT (tn (x2 1)) ok) 14) ++ (kW y sd zs os 2)))) hpm (fun _ => qm0 (T := (kW y (rmT (tn (x2 1)) ad) (uK (rmT (tn (x2 1)) zk) (rmC (tn (x2 1))) z) (rmT (tn (x2 1)) ok) 14) ++ (kW y sd zs os 2)) (pr_14 y h a jq mh w x9 ft (s_X11_discard_z v1 z) o zc oc (upd x2 1 (nI (rmC (tn (x2 1)) + 1))) (rmT (tn (x2 1)) ad) fl sd (vp_updL jo 0 (s_X11_discard_r v1 z).toInt64) (s_X12_discard_w0 v1 X f) fR fr (s_X12_discard_w1 v1 f) g (s_X12_discard_w2 v1 X f fd) fk fz o2)) (va_runV (As := [.int v1]) (rest := []) ⟨hx, hb, hml, hown, hts⟩ (c_X12_discard l G y mh v1 (w 0) (w 1) (w 2) (w 3) (w 4) (w 5) (w 6) (w 7) X f fd H.size (wf_8 hW) (wf_16 hW)) (cwV 1 hts gL_law_X12_discard rfl rfl rfl (by decide +kernel) ⟨Nat.le_of_ble_eq_true rfl, Nat.le_of_ble_eq_true rfl⟩) (PH_V hPc hK4 hN hDc (ci := 10) (q0 := 0) rfl rfl) rfl rfl hl.1 rfl (lv_room (Nat.le_of_ble_eq_true rfl)) dL_law_722 ⟨hkc, hks⟩) hP hD hS hA (fun _ H locs hP hD hS => ?_)
    have hP : va_P G vwCl ((lwE y h a jq mh w x9 ft (s_X11_discard_z v1 z) o zc oc (upd x2 1 (nI (rmC (tn (x2 1)) + 1))) (rmT (tn (x2 1)) ad) fl sd (vp_updL jo 0 (s_X11_discard_r v1 z).toInt64) (s_X12_discard_w0 v1 X f) fR fr (s_X12_discard_w1 v1 f) g (s_X12_discard_w2 v1 X f fd) fk fz o2) ++ ((kW y (rmT (tn (x2 1)) ad) (uK (rmT (tn (x2 1)) zk) (rmC (tn (x2 1))) z) (rmT (tn (x2 1)) ok) 14) ++ (kW y sd zs os 2))) H := hP
    have hD : va_D (fun q : Nat => s.heap.size ≤ q) ((lwE y h a jq mh w x9 ft (s_X11_discard_z v1 z) o zc oc (upd x2 1 (nI (rmC (tn (x2 1)) + 1))) (rmT (tn (x2 1)) ad) fl sd (vp_updL jo 0 (s_X11_discard_r v1 z).toInt64) (s_X12_discard_w0 v1 X f) fR fr (s_X12_discard_w1 v1 f) g (s_X12_discard_w2 v1 X f fd) fk fz o2) ++ ((kW y (rmT (tn (x2 1)) ad) (uK (rmT (tn (x2 1)) zk) (rmC (tn (x2 1))) z) (rmT (tn (x2 1)) ok) 14) ++ (kW y sd zs os 2))) := hD
    obtain ⟨e1, e2, hW2⟩ := ly_discard hW hN9 hk
    have hT : s_X12_thrown_r (s_X12_discard_w0 v1 X f) = 0 := (thr_eq _).trans e2
    refine lv_istore (lv' := [(6, .int (s_X12_discard_r v1 f)), (5, .int 0), (0, .ref b), (1, .ref h), (2, .ref mh), (3, .ref jq), (4, .int iv)]) hx hb dL_law_725 hl (by decide) rfl (fun ls hl => ?_)
    refine lv_aload_n hx hb dL_law_727 rfl (lv_at hl 4 rfl) ?_
    refine cl_Ri (va_runV (As := []) (rest := []) ⟨hx, hb, hml, hown, hts⟩ (c_X12_thrown l G y mh (w 0) (w 1) (w 2) (w 3) (w 4) (w 5) (w 6) (w 7) (s_X12_discard_w0 v1 X f)) (cwV 0 hts gL_law_X12_thrown rfl rfl rfl (by decide +kernel) ⟨Nat.le_of_ble_eq_true rfl, Nat.le_of_ble_eq_true rfl⟩) (PR_V (sel_P [50] (rfl : sel _ [50] = [kX12 mh (w 0) (w 1) (w 2) (w 3) (w 4) (w 5) (w 6) (w 7) (s_X12_discard_w0 v1 X f)]) hP) hK4 hN (ci := 10) (q0 := 0) rfl rfl) rfl rfl hl.1 rfl (lv_room (Nat.le_of_ble_eq_true rfl)) dL_law_728 ⟨hkc, hks⟩) ?_
    refine lv_iload hx hb dL_law_731 (lv_at hl 1 rfl) ?_
    refine lv_icmp_eq (tgt := 738) hx hb dL_law_733 (by decide) (fun _ => ?_) (fun c9 => absurd hT c9)
    refine lv_iload hx hb dL_law_738 (lv_at hl 1 rfl) ?_
    refine lv_if_ne (tgt := 755) hx hb dL_law_740 (by decide) (fun c9 => absurd rfl c9) (fun _ => ?_)
    refine lv_aload_n hx hb dL_law_743 rfl (lv_at hl 5 rfl) ?_
    refine lv_iconst (v := 0) hx hb dL_law_744 (by decide) ?_
    refine al_o hx hb hK 59 hP rfl dL_law_745 ?_
    refine lv_iload hx hb dL_law_746 (lv_at hl 0 rfl) ?_
    refine lv_i2l (v := (s_X12_discard_r v1 f).toInt64) hx hb dL_law_748 rfl ?_
    refine W.lcmp hx hb dL_law_749 ?_
    refine lv_if_eq (tgt := 755) hx hb dL_law_750 (by decide) (fun _ => ?_) (fun c9 => absurd (lg_o e1) c9)
    refine lv_goto (tgt := 1652) hx hb dL_law_755 (by decide) ?_
    refine W.widen (k := kc + 1) (n := ks + 6) (by omega) (by omega) ?_
    exact KN H locs ls ⟨x9, ft, (s_X11_discard_z v1 z), o, zc, oc, (upd x2 1 (nI (rmC (tn (x2 1)) + 1))), (rmT (tn (x2 1)) ad), (uK (rmT (tn (x2 1)) zk) (rmC (tn (x2 1))) z), (rmT (tn (x2 1)) ok), fl, sd, zs, os, (vp_updL jo 0 (s_X11_discard_r v1 z).toInt64), (s_X12_discard_w0 v1 X f), fR, fr, (s_X12_discard_w1 v1 f), g, (s_X12_discard_w2 v1 X f fd), fk, fz, o2, hP, hD, hW2⟩ hS (lv_sub hl [2, 3, 4, 5, 6] rfl)
  · refine lv_aload_n hx hb dL_law_702 rfl (lv_at hl 1 rfl) ?_
    refine lv_aload_n hx hb dL_law_703 rfl (lv_at hl 0 rfl) ?_
    refine lv_iload hx hb dL_law_704 (lv_at hl 4 rfl) ?_
    refine lv_iconst (v := 1) hx hb dL_law_706 (by decide) ?_
    refine lv_iadd hx hb dL_law_707 ?_
    refine va_sld hx hb hX hbl hbA hS hin1 dL_law_708 ?_
    refine rw_i (x' := v1) hv1 ?_
    refine lv_aload_n hx hb dL_law_709 rfl (lv_at hl 3 rfl) ?_
    have hpm := qm1 (T1 := (kW y ad zk ok 14)) (T2 := (kW y sd zs os 2)) (pr_13 y h a jq mh w x9 ft z o zc oc x2 ad fl sd jo X fR fr f g fd fk fz o2)
    have hPc : va_P G vwCl ([aJ y jq 1 jo] ++ ([kX11 h (a 0) (a 2) (a 16) (a 30) (a 44) (a 46) Z0, kX2 (a 44) (a 45) x2, aQ y (a 45) 14 (fun i => some (ad i 0)), kX7 (a 16) (a 17) (a 19) (a 20) (a 26) (a 28) (z 0), kX3 (a 17) (a 18) (z 1), aI y (a 18) 10 (z 2), kX1 (a 19) (z 3), kX8 (a 20) (a 21) (a 22) (a 23) (a 24) (a 25) (z 4), aI y (a 21) 20 (z 5), aI y (a 22) 20 (z 6), aI y (a 23) 20 (z 7), aI y (a 24) 20 (z 8), aI y (a 25) 20 o, kX10 (a 26) (a 27) (z 9), aI y (a 27) 32 (z 10), kX0 (a 28) (a 29) (z 11), aI y (a 29) 3 (z 12)] ++ (kW y ad zk ok 14))) H := P_r (P_perm hpm hP)
    have hDc : va_D (fun q : Nat => s.heap.size ≤ q) ([aJ y jq 1 jo] ++ ([kX11 h (a 0) (a 2) (a 16) (a 30) (a 44) (a 46) Z0, kX2 (a 44) (a 45) x2, aQ y (a 45) 14 (fun i => some (ad i 0)), kX7 (a 16) (a 17) (a 19) (a 20) (a 26) (a 28) (z 0), kX3 (a 17) (a 18) (z 1), aI y (a 18) 10 (z 2), kX1 (a 19) (z 3), kX8 (a 20) (a 21) (a 22) (a 23) (a 24) (a 25) (z 4), aI y (a 21) 20 (z 5), aI y (a 22) 20 (z 6), aI y (a 23) 20 (z 7), aI y (a 24) 20 (z 8), aI y (a 25) 20 o, kX10 (a 26) (a 27) (z 9), aI y (a 27) 32 (z 10), kX0 (a 28) (a 29) (z 11), aI y (a 29) 3 (z 12)] ++ (kW y ad zk ok 14))) := D_r (D_perm hpm hD)
    have hFc : ∀ q, va_A ([aJ y jq 1 jo] ++ ([kX11 h (a 0) (a 2) (a 16) (a 30) (a 44) (a 46) Z0, kX2 (a 44) (a 45) x2, aQ y (a 45) 14 (fun i => some (ad i 0)), kX7 (a 16) (a 17) (a 19) (a 20) (a 26) (a 28) (z 0), kX3 (a 17) (a 18) (z 1), aI y (a 18) 10 (z 2), kX1 (a 19) (z 3), kX8 (a 20) (a 21) (a 22) (a 23) (a 24) (a 25) (z 4), aI y (a 21) 20 (z 5), aI y (a 22) 20 (z 6), aI y (a 23) 20 (z 7), aI y (a 24) 20 (z 8), aI y (a 25) 20 o, kX10 (a 26) (a 27) (z 9), aI y (a 27) 32 (z 10), kX0 (a 28) (a 29) (z 11), aI y (a 29) 3 (z 12)] ++ (kW y ad zk ok 14))) H.size q → s.heap.size ≤ q := F_r (D_perm hpm hD) hS hA
    refine cl_LP (fun _ : Unit => ((lwE y h a jq mh w x9 ft z o zc oc x2 ad fl sd jo X fR fr f g fd fk fz o2) ++ ((kW y ad zk ok 14) ++ (kW y sd zs os 2)))) hpm (fun _ => qm1 (T1 := (kW y ad zk ok 14)) (T2 := (kW y sd zs os 2)) (pr_13 y h a jq mh w x9 ft z o zc oc x2 ad fl sd jo X fR fr f g fd fk fz o2)) (vx_runSX (As := [.ref h, .int v1, .ref jq]) (rest := []) ⟨hx, hb, hml, hown, hts⟩ (c_L_discard_n l G y h v1 (a 0) (a 2) (a 16) (a 30) (a 44) (a 46) (a 45) x2 (a 17) (a 19) (a 20) (a 26) (a 28) z (a 18) (a 21) (a 22) (a 23) (a 24) (a 25) o (a 27) (a 29) ad zk ok jq jo H.size (wf_c hW) (wf_b hW).1 (wf_b hW).2.1 (wf_b hW).2.2 (wf_w hW) hk hfl) (vx_cwSW 3 hts gL_law_L_discard rfl rfl rfl (by decide +kernel) ⟨Nat.le_of_ble_eq_true rfl, Nat.le_of_ble_eq_true rfl⟩) (PHL_S hPc hK hN hDc hTY hS hFc) rfl rfl hl.1 rfl (lv_room (Nat.le_of_ble_eq_true rfl)) dL_law_710 ⟨hkc, hks⟩) hP hD hS hA (fun _ H locs hP hD hS => ?_)
    have hP : va_P G vwCl ((lwE y h a jq mh w x9 ft z o zc oc x2 ad fl sd jo X fR fr f g fd fk fz o2) ++ ((kW y ad zk ok 14) ++ (kW y sd zs os 2))) H := hP
    have hD : va_D (fun q : Nat => s.heap.size ≤ q) ((lwE y h a jq mh w x9 ft z o zc oc x2 ad fl sd jo X fR fr f g fd fk fz o2) ++ ((kW y ad zk ok 14) ++ (kW y sd zs os 2))) := hD
    refine lv_istore (lv' := [(5, .int (cdK 3 (s_X11_discard_k v1 z))), (0, .ref b), (1, .ref h), (2, .ref mh), (3, .ref jq), (4, .int iv)]) hx hb dL_law_713 hl (by decide) rfl (fun ls hl => ?_)
    refine lv_aload_n hx hb dL_law_715 rfl (lv_at hl 3 rfl) ?_
    refine lv_aload_n hx hb dL_law_716 rfl (lv_at hl 1 rfl) ?_
    refine lv_iload hx hb dL_law_717 (lv_at hl 5 rfl) ?_
    refine lv_iconst (v := 1) hx hb dL_law_719 (by decide) ?_
    refine lv_iadd hx hb dL_law_720 ?_
    refine va_sld hx hb hX hbl hbA hS hin1 dL_law_721 ?_
    refine rw_i (x' := v1) hv1 ?_
    have hpm := qm0 (T := (kW y ad zk ok 14) ++ (kW y sd zs os 2)) (pr_14 y h a jq mh w x9 ft z o zc oc x2 ad fl sd jo X fR fr f g fd fk fz o2)
    have hPc : va_P G vwCl [kX12 mh (w 0) (w 1) (w 2) (w 3) (w 4) (w 5) (w 6) (w 7) X, aI y (w 2) 154 f, aI y (w 4) 2156 fd] H := P_r (P_perm hpm hP)
    have hDc : va_D (fun q : Nat => s.heap.size ≤ q) [kX12 mh (w 0) (w 1) (w 2) (w 3) (w 4) (w 5) (w 6) (w 7) X, aI y (w 2) 154 f, aI y (w 4) 2156 fd] := D_r (D_perm hpm hD)
    refine cl_MP (fun _ : Unit => ((lwE y h a jq mh w x9 ft z o zc oc x2 ad fl sd jo (s_X12_discard_w0 v1 X f) fR fr (s_X12_discard_w1 v1 f) g (s_X12_discard_w2 v1 X f fd) fk fz o2) ++ ((kW y ad zk ok 14) ++ (kW y sd zs os 2)))) hpm (fun _ => qm0 (T := (kW y ad zk ok 14) ++ (kW y sd zs os 2)) (pr_14 y h a jq mh w x9 ft z o zc oc x2 ad fl sd jo (s_X12_discard_w0 v1 X f) fR fr (s_X12_discard_w1 v1 f) g (s_X12_discard_w2 v1 X f fd) fk fz o2)) (va_runV (As := [.int v1]) (rest := []) ⟨hx, hb, hml, hown, hts⟩ (c_X12_discard l G y mh v1 (w 0) (w 1) (w 2) (w 3) (w 4) (w 5) (w 6) (w 7) X f fd H.size (wf_8 hW) (wf_16 hW)) (cwV 1 hts gL_law_X12_discard rfl rfl rfl (by decide +kernel) ⟨Nat.le_of_ble_eq_true rfl, Nat.le_of_ble_eq_true rfl⟩) (PH_V hPc hK4 hN hDc (ci := 10) (q0 := 0) rfl rfl) rfl rfl hl.1 rfl (lv_room (Nat.le_of_ble_eq_true rfl)) dL_law_722 ⟨hkc, hks⟩) hP hD hS hA (fun _ H locs hP hD hS => ?_)
    have hP : va_P G vwCl ((lwE y h a jq mh w x9 ft z o zc oc x2 ad fl sd jo (s_X12_discard_w0 v1 X f) fR fr (s_X12_discard_w1 v1 f) g (s_X12_discard_w2 v1 X f fd) fk fz o2) ++ ((kW y ad zk ok 14) ++ (kW y sd zs os 2))) H := hP
    have hD : va_D (fun q : Nat => s.heap.size ≤ q) ((lwE y h a jq mh w x9 ft z o zc oc x2 ad fl sd jo (s_X12_discard_w0 v1 X f) fR fr (s_X12_discard_w1 v1 f) g (s_X12_discard_w2 v1 X f fd) fk fz o2) ++ ((kW y ad zk ok 14) ++ (kW y sd zs os 2))) := hD
    obtain ⟨e2, hW2⟩ := ln_discard hW hk
    have hT : s_X12_thrown_r (s_X12_discard_w0 v1 X f) = cdK 3 (s_X11_discard_k v1 z) := (thr_eq _).trans e2
    refine lv_istore (lv' := [(6, .int (s_X12_discard_r v1 f)), (5, .int (cdK 3 (s_X11_discard_k v1 z))), (0, .ref b), (1, .ref h), (2, .ref mh), (3, .ref jq), (4, .int iv)]) hx hb dL_law_725 hl (by decide) rfl (fun ls hl => ?_)
    refine lv_aload_n hx hb dL_law_727 rfl (lv_at hl 4 rfl) ?_
    refine cl_Ri (va_runV (As := []) (rest := []) ⟨hx, hb, hml, hown, hts⟩ (c_X12_thrown l G y mh (w 0) (w 1) (w 2) (w 3) (w 4) (w 5) (w 6) (w 7) (s_X12_discard_w0 v1 X f)) (cwV 0 hts gL_law_X12_thrown rfl rfl rfl (by decide +kernel) ⟨Nat.le_of_ble_eq_true rfl, Nat.le_of_ble_eq_true rfl⟩) (PR_V (sel_P [50] (rfl : sel _ [50] = [kX12 mh (w 0) (w 1) (w 2) (w 3) (w 4) (w 5) (w 6) (w 7) (s_X12_discard_w0 v1 X f)]) hP) hK4 hN (ci := 10) (q0 := 0) rfl rfl) rfl rfl hl.1 rfl (lv_room (Nat.le_of_ble_eq_true rfl)) dL_law_728 ⟨hkc, hks⟩) ?_
    refine lv_iload hx hb dL_law_731 (lv_at hl 1 rfl) ?_
    refine lv_icmp_eq (tgt := 738) hx hb dL_law_733 (by decide) (fun _ => ?_) (fun c9 => absurd hT c9)
    refine lv_iload hx hb dL_law_738 (lv_at hl 1 rfl) ?_
    refine lv_if_ne (tgt := 755) hx hb dL_law_740 (by decide) (fun _ => ?_) (fun c9 => absurd c9 (cd_n hk))
    refine lv_goto (tgt := 1652) hx hb dL_law_755 (by decide) ?_
    refine W.widen (k := kc + 1) (n := ks + 6) (by omega) (by omega) ?_
    exact KN H locs ls ⟨x9, ft, z, o, zc, oc, x2, ad, zk, ok, fl, sd, zs, os, jo, (s_X12_discard_w0 v1 X f), fR, fr, (s_X12_discard_w1 v1 f), g, (s_X12_discard_w2 v1 X f fd), fk, fz, o2, hP, hD, hW2⟩ hS (lv_sub hl [2, 3, 4, 5, 6] rfl)
set_option maxHeartbeats 2000000 in
set_option maxRecDepth 100000 in
theorem case_12 {p : Program} {l : Launch} {e : Env} {s : State} {m : MethodId} {below : List Frame} {meth : Method} {c : Code} {b L : Nat} {xs : Nat → Int32} {G : va_G} {y : Nat → ClassId} {h : Nat} {a : Nat → Nat} {jq mh : Nat} {w : Nat → Nat} {iv v1 v2 v3 : Int32} {N kc ks : Nat} {H : Heap} {locs : List Loc} {ls : Array Slot} (hfl : l.stackTraces = false) (C0 : lw_At p s m meth c b L xs) (hK : va_K G vwCl (tyJ y) s) (hN : NN s) (hTY : TY (fun q : Nat => s.heap.size ≤ q) s) (hin1 : vp_in (iv + 1) L) (hin2 : vp_in (iv + 2) L) (hin3 : vp_in (iv + 3) L) (hv1 : xs (iv + 1).toNatClampNeg = v1) (hv2 : xs (iv + 2).toNatClampNeg = v2) (hv3 : xs (iv + 3).toNatClampNeg = v3) (hkc : kc + 1 ≤ room_1.cells) (hks : ks + 6 ≤ room_1.slots) (hN9 : N + 12800 < 2147483648) (hI : LI G y h a jq mh w (fun q : Nat => s.heap.size ≤ q) N H) (hS : va_S (fun q : Nat => s.heap.size ≤ q) s.heap H locs) (hl : lv_has ls 7 [(0, .ref b), (1, .ref h), (2, .ref mh), (3, .ref jq), (4, .int iv)]) (KN : ∀ (H : Heap) (locs : List Loc) (ls : Array Slot), LI G y h a jq mh w (fun q : Nat => s.heap.size ≤ q) (N + 200) H → va_S (fun q : Nat => s.heap.size ≤ q) s.heap H locs → lv_has ls 7 [(0, .ref b), (1, .ref h), (2, .ref mh), (3, .ref jq), (4, .int iv)] → W p l e room_1 s m #[Value.ref b] below meth c H locs (kc + 1) (ks + 6) (lw_Z below #[Value.ref b] s) (F0 m 1652 ls [])) : W p l e room_1 s m #[Value.ref b] below meth c H locs kc ks (lw_Z below #[Value.ref b] s) (F0 m 758 ls []) := by
  obtain ⟨hx, hb, hr, hml, hown, hts, hX, hbl, hlocks, hgv⟩ := C0
  have hts := fun w hh => hts w (wsL_law_in w hh)
  have hbA : ¬ (fun q : Nat => s.heap.size ≤ q) b := Nat.not_le.mpr hbl
  have hA : ∀ q : Nat, s.heap.size ≤ q → (fun q : Nat => s.heap.size ≤ q) q := fun _ h => h
  have hK4 : va_K G vwCl (tyG y) s := hK.sub (tys' := tyG y) [0, 1, 2, 3] rfl
  have hown : s.vm.findClass RL = some m.cls := hown
  have hkc0 : kc ≤ room_1.cells := Nat.le_of_succ_le hkc
  have hks0 : ks ≤ room_1.slots := Nat.le_trans (Nat.le_add_right ks 6) hks
  obtain ⟨x9, ft, z, o, zc, oc, x2, ad, zk, ok, fl, sd, zs, os, jo, X, fR, fr, f, g, fd, fk, fz, o2, hP, hD, hW⟩ := hI
  by_cases hk : (s_X11_tryRule_k v1 z) = 0
  · refine lv_aload_n hx hb dL_law_758 rfl (lv_at hl 1 rfl) ?_
    refine lv_aload_n hx hb dL_law_759 rfl (lv_at hl 0 rfl) ?_
    refine lv_iload hx hb dL_law_760 (lv_at hl 4 rfl) ?_
    refine lv_iconst (v := 1) hx hb dL_law_762 (by decide) ?_
    refine lv_iadd hx hb dL_law_763 ?_
    refine va_sld hx hb hX hbl hbA hS hin1 dL_law_764 ?_
    refine rw_i (x' := v1) hv1 ?_
    refine lv_aload_n hx hb dL_law_765 rfl (lv_at hl 3 rfl) ?_
    have hpm := qm1 (T1 := (kW y ad zk ok 14)) (T2 := (kW y sd zs os 2)) (pr_13 y h a jq mh w x9 ft z o zc oc x2 ad fl sd jo X fR fr f g fd fk fz o2)
    have hPc : va_P G vwCl ([aJ y jq 1 jo] ++ ([kX11 h (a 0) (a 2) (a 16) (a 30) (a 44) (a 46) Z0, kX2 (a 44) (a 45) x2, aQ y (a 45) 14 (fun i => some (ad i 0)), kX7 (a 16) (a 17) (a 19) (a 20) (a 26) (a 28) (z 0), kX3 (a 17) (a 18) (z 1), aI y (a 18) 10 (z 2), kX1 (a 19) (z 3), kX8 (a 20) (a 21) (a 22) (a 23) (a 24) (a 25) (z 4), aI y (a 21) 20 (z 5), aI y (a 22) 20 (z 6), aI y (a 23) 20 (z 7), aI y (a 24) 20 (z 8), aI y (a 25) 20 o, kX10 (a 26) (a 27) (z 9), aI y (a 27) 32 (z 10), kX0 (a 28) (a 29) (z 11), aI y (a 29) 3 (z 12)] ++ (kW y ad zk ok 14))) H := P_r (P_perm hpm hP)
    have hDc : va_D (fun q : Nat => s.heap.size ≤ q) ([aJ y jq 1 jo] ++ ([kX11 h (a 0) (a 2) (a 16) (a 30) (a 44) (a 46) Z0, kX2 (a 44) (a 45) x2, aQ y (a 45) 14 (fun i => some (ad i 0)), kX7 (a 16) (a 17) (a 19) (a 20) (a 26) (a 28) (z 0), kX3 (a 17) (a 18) (z 1), aI y (a 18) 10 (z 2), kX1 (a 19) (z 3), kX8 (a 20) (a 21) (a 22) (a 23) (a 24) (a 25) (z 4), aI y (a 21) 20 (z 5), aI y (a 22) 20 (z 6), aI y (a 23) 20 (z 7), aI y (a 24) 20 (z 8), aI y (a 25) 20 o, kX10 (a 26) (a 27) (z 9), aI y (a 27) 32 (z 10), kX0 (a 28) (a 29) (z 11), aI y (a 29) 3 (z 12)] ++ (kW y ad zk ok 14))) := D_r (D_perm hpm hD)
    have hFc : ∀ q, va_A ([aJ y jq 1 jo] ++ ([kX11 h (a 0) (a 2) (a 16) (a 30) (a 44) (a 46) Z0, kX2 (a 44) (a 45) x2, aQ y (a 45) 14 (fun i => some (ad i 0)), kX7 (a 16) (a 17) (a 19) (a 20) (a 26) (a 28) (z 0), kX3 (a 17) (a 18) (z 1), aI y (a 18) 10 (z 2), kX1 (a 19) (z 3), kX8 (a 20) (a 21) (a 22) (a 23) (a 24) (a 25) (z 4), aI y (a 21) 20 (z 5), aI y (a 22) 20 (z 6), aI y (a 23) 20 (z 7), aI y (a 24) 20 (z 8), aI y (a 25) 20 o, kX10 (a 26) (a 27) (z 9), aI y (a 27) 32 (z 10), kX0 (a 28) (a 29) (z 11), aI y (a 29) 3 (z 12)] ++ (kW y ad zk ok 14))) H.size q → s.heap.size ≤ q := F_r (D_perm hpm hD) hS hA
    refine cl_LP (fun u : (Nat → Int32) => ((lwE y h a jq mh w x9 ft (s_X7_beginTrial_z v1 z) u zc oc (upd x2 1 (nI (rmC (tn (x2 1)) + 1))) (rmT (tn (x2 1)) ad) fl sd (vp_updL jo 0 (s_X11_tryRule_r v1 z).toInt64) X fR fr f g fd fk fz o2) ++ ((kW y (rmT (tn (x2 1)) ad) (uK (rmT (tn (x2 1)) zk) (rmC (tn (x2 1))) z) (rmT (tn (x2 1)) ok) 14) ++ (kW y sd zs os 2)))) hpm (fun u => qm1 (T1 := (kW y (rmT (tn (x2 1)) ad) (uK (rmT (tn (x2 1)) zk) (rmC (tn (x2 1))) z) (rmT (tn (x2 1)) ok) 14)) (T2 := (kW y sd zs os 2)) (pr_13 y h a jq mh w x9 ft (s_X7_beginTrial_z v1 z) u zc oc (upd x2 1 (nI (rmC (tn (x2 1)) + 1))) (rmT (tn (x2 1)) ad) fl sd (vp_updL jo 0 (s_X11_tryRule_r v1 z).toInt64) X fR fr f g fd fk fz o2)) (vx_runSX (As := [.ref h, .int v1, .ref jq]) (rest := []) ⟨hx, hb, hml, hown, hts⟩ (c_L_tryRule_y l G y h v1 (a 0) (a 2) (a 16) (a 30) (a 44) (a 46) (a 45) x2 (a 17) (a 19) (a 20) (a 26) (a 28) z (a 18) (a 21) (a 22) (a 23) (a 24) (a 25) o (a 27) (a 29) ad zk ok jq jo H.size (wf_c hW) (wf_b hW).1 (wf_b hW).2.1 (wf_b hW).2.2 (wf_w hW) hk hfl) (vx_cwSW 3 hts gL_law_L_tryRule rfl rfl rfl (by decide +kernel) ⟨Nat.le_of_ble_eq_true rfl, Nat.le_of_ble_eq_true rfl⟩) (PHL_S hPc hK hN hDc hTY hS hFc) rfl rfl hl.1 rfl (lv_room (Nat.le_of_ble_eq_true rfl)) dL_law_766 ⟨hkc, hks⟩) hP hD hS hA (fun u H locs hP hD hS => ?_)
    obtain ⟨o_1, rfl⟩ : ∃ zq9, zq9 = u := ⟨_, rfl⟩
    have hP : va_P G vwCl ((lwE y h a jq mh w x9 ft (s_X7_beginTrial_z v1 z) o_1 zc oc (upd x2 1 (nI (rmC (tn (x2 1)) + 1))) (rmT (tn (x2 1)) ad) fl sd (vp_updL jo 0 (s_X11_tryRule_r v1 z).toInt64) X fR fr f g fd fk fz o2) ++ ((kW y (rmT (tn (x2 1)) ad) (uK (rmT (tn (x2 1)) zk) (rmC (tn (x2 1))) z) (rmT (tn (x2 1)) ok) 14) ++ (kW y sd zs os 2))) H := hP
    have hD : va_D (fun q : Nat => s.heap.size ≤ q) ((lwE y h a jq mh w x9 ft (s_X7_beginTrial_z v1 z) o_1 zc oc (upd x2 1 (nI (rmC (tn (x2 1)) + 1))) (rmT (tn (x2 1)) ad) fl sd (vp_updL jo 0 (s_X11_tryRule_r v1 z).toInt64) X fR fr f g fd fk fz o2) ++ ((kW y (rmT (tn (x2 1)) ad) (uK (rmT (tn (x2 1)) zk) (rmC (tn (x2 1))) z) (rmT (tn (x2 1)) ok) 14) ++ (kW y sd zs os 2))) := hD
    refine lv_istore (lv' := [(5, .int 0), (0, .ref b), (1, .ref h), (2, .ref mh), (3, .ref jq), (4, .int iv)]) hx hb dL_law_769 hl (by decide) rfl (fun ls hl => ?_)
    refine lv_aload_n hx hb dL_law_771 rfl (lv_at hl 3 rfl) ?_
    refine lv_aload_n hx hb dL_law_772 rfl (lv_at hl 1 rfl) ?_
    refine lv_iload hx hb dL_law_773 (lv_at hl 5 rfl) ?_
    refine lv_iconst (v := 1) hx hb dL_law_775 (by decide) ?_
    refine lv_iadd hx hb dL_law_776 ?_
    refine va_sld hx hb hX hbl hbA hS hin1 dL_law_777 ?_
    refine rw_i (x' := v1) hv1 ?_
    have hpm := qm0 (T := (kW y (rmT (tn (x2 1)) ad) (uK (rmT (tn (x2 1)) zk) (rmC (tn (x2 1))) z) (rmT (tn (x2 1)) ok) 14) ++ (kW y sd zs os 2)) (pr_15 y h a jq mh w x9 ft (s_X7_beginTrial_z v1 z) o_1 zc oc (upd x2 1 (nI (rmC (tn (x2 1)) + 1))) (rmT (tn (x2 1)) ad) fl sd (vp_updL jo 0 (s_X11_tryRule_r v1 z).toInt64) X fR fr f g fd fk fz o2)
    have hPc : va_P G vwCl [kX12 mh (w 0) (w 1) (w 2) (w 3) (w 4) (w 5) (w 6) (w 7) X, aI y (w 2) 154 f, aI y (w 4) 2156 fd, aI y (w 7) 20 o2] H := P_r (P_perm hpm hP)
    have hDc : va_D (fun q : Nat => s.heap.size ≤ q) [kX12 mh (w 0) (w 1) (w 2) (w 3) (w 4) (w 5) (w 6) (w 7) X, aI y (w 2) 154 f, aI y (w 4) 2156 fd, aI y (w 7) 20 o2] := D_r (D_perm hpm hD)
    refine cl_MP (fun u : (Nat → Int32) => ((lwE y h a jq mh w x9 ft (s_X7_beginTrial_z v1 z) o_1 zc oc (upd x2 1 (nI (rmC (tn (x2 1)) + 1))) (rmT (tn (x2 1)) ad) fl sd (vp_updL jo 0 (s_X11_tryRule_r v1 z).toInt64) (s_X12_tryRule_w0 v1 X f) fR fr (s_X12_tryRule_w1 v1 f) g (s_X12_tryRule_w2 v1 X f fd) fk fz u) ++ ((kW y (rmT (tn (x2 1)) ad) (uK (rmT (tn (x2 1)) zk) (rmC (tn (x2 1))) z) (rmT (tn (x2 1)) ok) 14) ++ (kW y sd zs os 2)))) hpm (fun u => qm0 (T := (kW y (rmT (tn (x2 1)) ad) (uK (rmT (tn (x2 1)) zk) (rmC (tn (x2 1))) z) (rmT (tn (x2 1)) ok) 14) ++ (kW y sd zs os 2)) (pr_15 y h a jq mh w x9 ft (s_X7_beginTrial_z v1 z) o_1 zc oc (upd x2 1 (nI (rmC (tn (x2 1)) + 1))) (rmT (tn (x2 1)) ad) fl sd (vp_updL jo 0 (s_X11_tryRule_r v1 z).toInt64) (s_X12_tryRule_w0 v1 X f) fR fr (s_X12_tryRule_w1 v1 f) g (s_X12_tryRule_w2 v1 X f fd) fk fz u)) (va_runV (As := [.int v1]) (rest := []) ⟨hx, hb, hml, hown, hts⟩ (c_X12_tryRule l G y mh v1 (w 0) (w 1) (w 2) (w 3) (w 4) (w 5) (w 6) (w 7) X f fd o2 H.size (wf_8 hW) (wf_16 hW) (wf_17 hW)) (cwV 1 hts gL_law_X12_tryRule rfl rfl rfl (by decide +kernel) ⟨Nat.le_of_ble_eq_true rfl, Nat.le_of_ble_eq_true rfl⟩) (PH_V hPc hK4 hN hDc (ci := 10) (q0 := 0) rfl rfl) rfl rfl hl.1 rfl (lv_room (Nat.le_of_ble_eq_true rfl)) dL_law_778 ⟨hkc, hks⟩) hP hD hS hA (fun u H locs hP hD hS => ?_)
    obtain ⟨o_X12, rfl⟩ : ∃ zq9, zq9 = u := ⟨_, rfl⟩
    have hP : va_P G vwCl ((lwE y h a jq mh w x9 ft (s_X7_beginTrial_z v1 z) o_1 zc oc (upd x2 1 (nI (rmC (tn (x2 1)) + 1))) (rmT (tn (x2 1)) ad) fl sd (vp_updL jo 0 (s_X11_tryRule_r v1 z).toInt64) (s_X12_tryRule_w0 v1 X f) fR fr (s_X12_tryRule_w1 v1 f) g (s_X12_tryRule_w2 v1 X f fd) fk fz o_X12) ++ ((kW y (rmT (tn (x2 1)) ad) (uK (rmT (tn (x2 1)) zk) (rmC (tn (x2 1))) z) (rmT (tn (x2 1)) ok) 14) ++ (kW y sd zs os 2))) H := hP
    have hD : va_D (fun q : Nat => s.heap.size ≤ q) ((lwE y h a jq mh w x9 ft (s_X7_beginTrial_z v1 z) o_1 zc oc (upd x2 1 (nI (rmC (tn (x2 1)) + 1))) (rmT (tn (x2 1)) ad) fl sd (vp_updL jo 0 (s_X11_tryRule_r v1 z).toInt64) (s_X12_tryRule_w0 v1 X f) fR fr (s_X12_tryRule_w1 v1 f) g (s_X12_tryRule_w2 v1 X f fd) fk fz o_X12) ++ ((kW y (rmT (tn (x2 1)) ad) (uK (rmT (tn (x2 1)) zk) (rmC (tn (x2 1))) z) (rmT (tn (x2 1)) ok) 14) ++ (kW y sd zs os 2))) := hD
    obtain ⟨e1, e2, hW2⟩ := ly_tryRule hW hN9 hk
    have hT : s_X12_thrown_r (s_X12_tryRule_w0 v1 X f) = 0 := (thr_eq _).trans e2
    refine lv_istore (lv' := [(6, .int (s_X12_tryRule_r v1 f)), (5, .int 0), (0, .ref b), (1, .ref h), (2, .ref mh), (3, .ref jq), (4, .int iv)]) hx hb dL_law_781 hl (by decide) rfl (fun ls hl => ?_)
    refine lv_aload_n hx hb dL_law_783 rfl (lv_at hl 4 rfl) ?_
    refine cl_Ri (va_runV (As := []) (rest := []) ⟨hx, hb, hml, hown, hts⟩ (c_X12_thrown l G y mh (w 0) (w 1) (w 2) (w 3) (w 4) (w 5) (w 6) (w 7) (s_X12_tryRule_w0 v1 X f)) (cwV 0 hts gL_law_X12_thrown rfl rfl rfl (by decide +kernel) ⟨Nat.le_of_ble_eq_true rfl, Nat.le_of_ble_eq_true rfl⟩) (PR_V (sel_P [50] (rfl : sel _ [50] = [kX12 mh (w 0) (w 1) (w 2) (w 3) (w 4) (w 5) (w 6) (w 7) (s_X12_tryRule_w0 v1 X f)]) hP) hK4 hN (ci := 10) (q0 := 0) rfl rfl) rfl rfl hl.1 rfl (lv_room (Nat.le_of_ble_eq_true rfl)) dL_law_784 ⟨hkc, hks⟩) ?_
    refine lv_iload hx hb dL_law_787 (lv_at hl 1 rfl) ?_
    refine lv_icmp_eq (tgt := 794) hx hb dL_law_789 (by decide) (fun _ => ?_) (fun c9 => absurd hT c9)
    refine lv_iload hx hb dL_law_794 (lv_at hl 1 rfl) ?_
    refine lv_if_ne (tgt := 811) hx hb dL_law_796 (by decide) (fun c9 => absurd rfl c9) (fun _ => ?_)
    refine lv_aload_n hx hb dL_law_799 rfl (lv_at hl 5 rfl) ?_
    refine lv_iconst (v := 0) hx hb dL_law_800 (by decide) ?_
    refine al_o hx hb hK 59 hP rfl dL_law_801 ?_
    refine lv_iload hx hb dL_law_802 (lv_at hl 0 rfl) ?_
    refine lv_i2l (v := (s_X12_tryRule_r v1 f).toInt64) hx hb dL_law_804 rfl ?_
    refine W.lcmp hx hb dL_law_805 ?_
    refine lv_if_eq (tgt := 811) hx hb dL_law_806 (by decide) (fun _ => ?_) (fun c9 => absurd (lg_o e1) c9)
    refine lv_goto (tgt := 1652) hx hb dL_law_811 (by decide) ?_
    refine W.widen (k := kc + 1) (n := ks + 6) (by omega) (by omega) ?_
    exact KN H locs ls ⟨x9, ft, (s_X7_beginTrial_z v1 z), o_1, zc, oc, (upd x2 1 (nI (rmC (tn (x2 1)) + 1))), (rmT (tn (x2 1)) ad), (uK (rmT (tn (x2 1)) zk) (rmC (tn (x2 1))) z), (rmT (tn (x2 1)) ok), fl, sd, zs, os, (vp_updL jo 0 (s_X11_tryRule_r v1 z).toInt64), (s_X12_tryRule_w0 v1 X f), fR, fr, (s_X12_tryRule_w1 v1 f), g, (s_X12_tryRule_w2 v1 X f fd), fk, fz, o_X12, hP, hD, hW2⟩ hS (lv_sub hl [2, 3, 4, 5, 6] rfl)
  · refine lv_aload_n hx hb dL_law_758 rfl (lv_at hl 1 rfl) ?_
    refine lv_aload_n hx hb dL_law_759 rfl (lv_at hl 0 rfl) ?_
    refine lv_iload hx hb dL_law_760 (lv_at hl 4 rfl) ?_
    refine lv_iconst (v := 1) hx hb dL_law_762 (by decide) ?_
    refine lv_iadd hx hb dL_law_763 ?_
    refine va_sld hx hb hX hbl hbA hS hin1 dL_law_764 ?_
    refine rw_i (x' := v1) hv1 ?_
    refine lv_aload_n hx hb dL_law_765 rfl (lv_at hl 3 rfl) ?_
    have hpm := qm1 (T1 := (kW y ad zk ok 14)) (T2 := (kW y sd zs os 2)) (pr_13 y h a jq mh w x9 ft z o zc oc x2 ad fl sd jo X fR fr f g fd fk fz o2)
    have hPc : va_P G vwCl ([aJ y jq 1 jo] ++ ([kX11 h (a 0) (a 2) (a 16) (a 30) (a 44) (a 46) Z0, kX2 (a 44) (a 45) x2, aQ y (a 45) 14 (fun i => some (ad i 0)), kX7 (a 16) (a 17) (a 19) (a 20) (a 26) (a 28) (z 0), kX3 (a 17) (a 18) (z 1), aI y (a 18) 10 (z 2), kX1 (a 19) (z 3), kX8 (a 20) (a 21) (a 22) (a 23) (a 24) (a 25) (z 4), aI y (a 21) 20 (z 5), aI y (a 22) 20 (z 6), aI y (a 23) 20 (z 7), aI y (a 24) 20 (z 8), aI y (a 25) 20 o, kX10 (a 26) (a 27) (z 9), aI y (a 27) 32 (z 10), kX0 (a 28) (a 29) (z 11), aI y (a 29) 3 (z 12)] ++ (kW y ad zk ok 14))) H := P_r (P_perm hpm hP)
    have hDc : va_D (fun q : Nat => s.heap.size ≤ q) ([aJ y jq 1 jo] ++ ([kX11 h (a 0) (a 2) (a 16) (a 30) (a 44) (a 46) Z0, kX2 (a 44) (a 45) x2, aQ y (a 45) 14 (fun i => some (ad i 0)), kX7 (a 16) (a 17) (a 19) (a 20) (a 26) (a 28) (z 0), kX3 (a 17) (a 18) (z 1), aI y (a 18) 10 (z 2), kX1 (a 19) (z 3), kX8 (a 20) (a 21) (a 22) (a 23) (a 24) (a 25) (z 4), aI y (a 21) 20 (z 5), aI y (a 22) 20 (z 6), aI y (a 23) 20 (z 7), aI y (a 24) 20 (z 8), aI y (a 25) 20 o, kX10 (a 26) (a 27) (z 9), aI y (a 27) 32 (z 10), kX0 (a 28) (a 29) (z 11), aI y (a 29) 3 (z 12)] ++ (kW y ad zk ok 14))) := D_r (D_perm hpm hD)
    have hFc : ∀ q, va_A ([aJ y jq 1 jo] ++ ([kX11 h (a 0) (a 2) (a 16) (a 30) (a 44) (a 46) Z0, kX2 (a 44) (a 45) x2, aQ y (a 45) 14 (fun i => some (ad i 0)), kX7 (a 16) (a 17) (a 19) (a 20) (a 26) (a 28) (z 0), kX3 (a 17) (a 18) (z 1), aI y (a 18) 10 (z 2), kX1 (a 19) (z 3), kX8 (a 20) (a 21) (a 22) (a 23) (a 24) (a 25) (z 4), aI y (a 21) 20 (z 5), aI y (a 22) 20 (z 6), aI y (a 23) 20 (z 7), aI y (a 24) 20 (z 8), aI y (a 25) 20 o, kX10 (a 26) (a 27) (z 9), aI y (a 27) 32 (z 10), kX0 (a 28) (a 29) (z 11), aI y (a 29) 3 (z 12)] ++ (kW y ad zk ok 14))) H.size q → s.heap.size ≤ q := F_r (D_perm hpm hD) hS hA
    refine cl_LP (fun u : (Nat → Int32) => ((lwE y h a jq mh w x9 ft z u zc oc x2 ad fl sd jo X fR fr f g fd fk fz o2) ++ ((kW y ad zk ok 14) ++ (kW y sd zs os 2)))) hpm (fun u => qm1 (T1 := (kW y ad zk ok 14)) (T2 := (kW y sd zs os 2)) (pr_13 y h a jq mh w x9 ft z u zc oc x2 ad fl sd jo X fR fr f g fd fk fz o2)) (vx_runSX (As := [.ref h, .int v1, .ref jq]) (rest := []) ⟨hx, hb, hml, hown, hts⟩ (c_L_tryRule_n l G y h v1 (a 0) (a 2) (a 16) (a 30) (a 44) (a 46) (a 45) x2 (a 17) (a 19) (a 20) (a 26) (a 28) z (a 18) (a 21) (a 22) (a 23) (a 24) (a 25) o (a 27) (a 29) ad zk ok jq jo H.size (wf_c hW) (wf_b hW).1 (wf_b hW).2.1 (wf_b hW).2.2 (wf_w hW) hk hfl) (vx_cwSW 3 hts gL_law_L_tryRule rfl rfl rfl (by decide +kernel) ⟨Nat.le_of_ble_eq_true rfl, Nat.le_of_ble_eq_true rfl⟩) (PHL_S hPc hK hN hDc hTY hS hFc) rfl rfl hl.1 rfl (lv_room (Nat.le_of_ble_eq_true rfl)) dL_law_766 ⟨hkc, hks⟩) hP hD hS hA (fun u H locs hP hD hS => ?_)
    obtain ⟨o_1, rfl⟩ : ∃ zq9, zq9 = u := ⟨_, rfl⟩
    have hP : va_P G vwCl ((lwE y h a jq mh w x9 ft z o_1 zc oc x2 ad fl sd jo X fR fr f g fd fk fz o2) ++ ((kW y ad zk ok 14) ++ (kW y sd zs os 2))) H := hP
    have hD : va_D (fun q : Nat => s.heap.size ≤ q) ((lwE y h a jq mh w x9 ft z o_1 zc oc x2 ad fl sd jo X fR fr f g fd fk fz o2) ++ ((kW y ad zk ok 14) ++ (kW y sd zs os 2))) := hD
    refine lv_istore (lv' := [(5, .int (cdK 3 (s_X11_tryRule_k v1 z))), (0, .ref b), (1, .ref h), (2, .ref mh), (3, .ref jq), (4, .int iv)]) hx hb dL_law_769 hl (by decide) rfl (fun ls hl => ?_)
    refine lv_aload_n hx hb dL_law_771 rfl (lv_at hl 3 rfl) ?_
    refine lv_aload_n hx hb dL_law_772 rfl (lv_at hl 1 rfl) ?_
    refine lv_iload hx hb dL_law_773 (lv_at hl 5 rfl) ?_
    refine lv_iconst (v := 1) hx hb dL_law_775 (by decide) ?_
    refine lv_iadd hx hb dL_law_776 ?_
    refine va_sld hx hb hX hbl hbA hS hin1 dL_law_777 ?_
    refine rw_i (x' := v1) hv1 ?_
    have hpm := qm0 (T := (kW y ad zk ok 14) ++ (kW y sd zs os 2)) (pr_15 y h a jq mh w x9 ft z o_1 zc oc x2 ad fl sd jo X fR fr f g fd fk fz o2)
    have hPc : va_P G vwCl [kX12 mh (w 0) (w 1) (w 2) (w 3) (w 4) (w 5) (w 6) (w 7) X, aI y (w 2) 154 f, aI y (w 4) 2156 fd, aI y (w 7) 20 o2] H := P_r (P_perm hpm hP)
    have hDc : va_D (fun q : Nat => s.heap.size ≤ q) [kX12 mh (w 0) (w 1) (w 2) (w 3) (w 4) (w 5) (w 6) (w 7) X, aI y (w 2) 154 f, aI y (w 4) 2156 fd, aI y (w 7) 20 o2] := D_r (D_perm hpm hD)
    refine cl_MP (fun u : (Nat → Int32) => ((lwE y h a jq mh w x9 ft z o_1 zc oc x2 ad fl sd jo (s_X12_tryRule_w0 v1 X f) fR fr (s_X12_tryRule_w1 v1 f) g (s_X12_tryRule_w2 v1 X f fd) fk fz u) ++ ((kW y ad zk ok 14) ++ (kW y sd zs os 2)))) hpm (fun u => qm0 (T := (kW y ad zk ok 14) ++ (kW y sd zs os 2)) (pr_15 y h a jq mh w x9 ft z o_1 zc oc x2 ad fl sd jo (s_X12_tryRule_w0 v1 X f) fR fr (s_X12_tryRule_w1 v1 f) g (s_X12_tryRule_w2 v1 X f fd) fk fz u)) (va_runV (As := [.int v1]) (rest := []) ⟨hx, hb, hml, hown, hts⟩ (c_X12_tryRule l G y mh v1 (w 0) (w 1) (w 2) (w 3) (w 4) (w 5) (w 6) (w 7) X f fd o2 H.size (wf_8 hW) (wf_16 hW) (wf_17 hW)) (cwV 1 hts gL_law_X12_tryRule rfl rfl rfl (by decide +kernel) ⟨Nat.le_of_ble_eq_true rfl, Nat.le_of_ble_eq_true rfl⟩) (PH_V hPc hK4 hN hDc (ci := 10) (q0 := 0) rfl rfl) rfl rfl hl.1 rfl (lv_room (Nat.le_of_ble_eq_true rfl)) dL_law_778 ⟨hkc, hks⟩) hP hD hS hA (fun u H locs hP hD hS => ?_)
    obtain ⟨o_X12, rfl⟩ : ∃ zq9, zq9 = u := ⟨_, rfl⟩
    have hP : va_P G vwCl ((lwE y h a jq mh w x9 ft z o_1 zc oc x2 ad fl sd jo (s_X12_tryRule_w0 v1 X f) fR fr (s_X12_tryRule_w1 v1 f) g (s_X12_tryRule_w2 v1 X f fd) fk fz o_X12) ++ ((kW y ad zk ok 14) ++ (kW y sd zs os 2))) H := hP
    have hD : va_D (fun q : Nat => s.heap.size ≤ q) ((lwE y h a jq mh w x9 ft z o_1 zc oc x2 ad fl sd jo (s_X12_tryRule_w0 v1 X f) fR fr (s_X12_tryRule_w1 v1 f) g (s_X12_tryRule_w2 v1 X f fd) fk fz o_X12) ++ ((kW y ad zk ok 14) ++ (kW y sd zs os 2))) := hD
    obtain ⟨e2, hW2⟩ := ln_tryRule hW hk
    have hT : s_X12_thrown_r (s_X12_tryRule_w0 v1 X f) = cdK 3 (s_X11_tryRule_k v1 z) := (thr_eq _).trans e2
    refine lv_istore (lv' := [(6, .int (s_X12_tryRule_r v1 f)), (5, .int (cdK 3 (s_X11_tryRule_k v1 z))), (0, .ref b), (1, .ref h), (2, .ref mh), (3, .ref jq), (4, .int iv)]) hx hb dL_law_781 hl (by decide) rfl (fun ls hl => ?_)
    refine lv_aload_n hx hb dL_law_783 rfl (lv_at hl 4 rfl) ?_
    refine cl_Ri (va_runV (As := []) (rest := []) ⟨hx, hb, hml, hown, hts⟩ (c_X12_thrown l G y mh (w 0) (w 1) (w 2) (w 3) (w 4) (w 5) (w 6) (w 7) (s_X12_tryRule_w0 v1 X f)) (cwV 0 hts gL_law_X12_thrown rfl rfl rfl (by decide +kernel) ⟨Nat.le_of_ble_eq_true rfl, Nat.le_of_ble_eq_true rfl⟩) (PR_V (sel_P [50] (rfl : sel _ [50] = [kX12 mh (w 0) (w 1) (w 2) (w 3) (w 4) (w 5) (w 6) (w 7) (s_X12_tryRule_w0 v1 X f)]) hP) hK4 hN (ci := 10) (q0 := 0) rfl rfl) rfl rfl hl.1 rfl (lv_room (Nat.le_of_ble_eq_true rfl)) dL_law_784 ⟨hkc, hks⟩) ?_
    refine lv_iload hx hb dL_law_787 (lv_at hl 1 rfl) ?_
    refine lv_icmp_eq (tgt := 794) hx hb dL_law_789 (by decide) (fun _ => ?_) (fun c9 => absurd hT c9)
    refine lv_iload hx hb dL_law_794 (lv_at hl 1 rfl) ?_
    refine lv_if_ne (tgt := 811) hx hb dL_law_796 (by decide) (fun _ => ?_) (fun c9 => absurd c9 (cd_n hk))
    refine lv_goto (tgt := 1652) hx hb dL_law_811 (by decide) ?_
    refine W.widen (k := kc + 1) (n := ks + 6) (by omega) (by omega) ?_
    exact KN H locs ls ⟨x9, ft, z, o_1, zc, oc, x2, ad, zk, ok, fl, sd, zs, os, jo, (s_X12_tryRule_w0 v1 X f), fR, fr, (s_X12_tryRule_w1 v1 f), g, (s_X12_tryRule_w2 v1 X f fd), fk, fz, o_X12, hP, hD, hW2⟩ hS (lv_sub hl [2, 3, 4, 5, 6] rfl)
set_option maxHeartbeats 2000000 in
set_option maxRecDepth 100000 in
theorem case_13 {p : Program} {l : Launch} {e : Env} {s : State} {m : MethodId} {below : List Frame} {meth : Method} {c : Code} {b L : Nat} {xs : Nat → Int32} {G : va_G} {y : Nat → ClassId} {h : Nat} {a : Nat → Nat} {jq mh : Nat} {w : Nat → Nat} {iv v1 v2 v3 : Int32} {N kc ks : Nat} {H : Heap} {locs : List Loc} {ls : Array Slot} (hfl : l.stackTraces = false) (C0 : lw_At p s m meth c b L xs) (hK : va_K G vwCl (tyJ y) s) (hN : NN s) (hTY : TY (fun q : Nat => s.heap.size ≤ q) s) (hin1 : vp_in (iv + 1) L) (hin2 : vp_in (iv + 2) L) (hin3 : vp_in (iv + 3) L) (hv1 : xs (iv + 1).toNatClampNeg = v1) (hv2 : xs (iv + 2).toNatClampNeg = v2) (hv3 : xs (iv + 3).toNatClampNeg = v3) (hkc : kc + 1 ≤ room_1.cells) (hks : ks + 6 ≤ room_1.slots) (hN9 : N + 12800 < 2147483648) (hI : LI G y h a jq mh w (fun q : Nat => s.heap.size ≤ q) N H) (hS : va_S (fun q : Nat => s.heap.size ≤ q) s.heap H locs) (hl : lv_has ls 7 [(0, .ref b), (1, .ref h), (2, .ref mh), (3, .ref jq), (4, .int iv)]) (KN : ∀ (H : Heap) (locs : List Loc) (ls : Array Slot), LI G y h a jq mh w (fun q : Nat => s.heap.size ≤ q) (N + 200) H → va_S (fun q : Nat => s.heap.size ≤ q) s.heap H locs → lv_has ls 7 [(0, .ref b), (1, .ref h), (2, .ref mh), (3, .ref jq), (4, .int iv)] → W p l e room_1 s m #[Value.ref b] below meth c H locs (kc + 1) (ks + 6) (lw_Z below #[Value.ref b] s) (F0 m 1652 ls [])) : W p l e room_1 s m #[Value.ref b] below meth c H locs kc ks (lw_Z below #[Value.ref b] s) (F0 m 814 ls []) := by
  obtain ⟨hx, hb, hr, hml, hown, hts, hX, hbl, hlocks, hgv⟩ := C0
  have hts := fun w hh => hts w (wsL_law_in w hh)
  have hbA : ¬ (fun q : Nat => s.heap.size ≤ q) b := Nat.not_le.mpr hbl
  have hA : ∀ q : Nat, s.heap.size ≤ q → (fun q : Nat => s.heap.size ≤ q) q := fun _ h => h
  have hK4 : va_K G vwCl (tyG y) s := hK.sub (tys' := tyG y) [0, 1, 2, 3] rfl
  have hown : s.vm.findClass RL = some m.cls := hown
  have hkc0 : kc ≤ room_1.cells := Nat.le_of_succ_le hkc
  have hks0 : ks ≤ room_1.slots := Nat.le_trans (Nat.le_add_right ks 6) hks
  obtain ⟨x9, ft, z, o, zc, oc, x2, ad, zk, ok, fl, sd, zs, os, jo, X, fR, fr, f, g, fd, fk, fz, o2, hP, hD, hW⟩ := hI
  by_cases hk : (s_X11_takeBack_k z) = 0
  · refine lv_aload_n hx hb dL_law_814 rfl (lv_at hl 1 rfl) ?_
    refine lv_aload_n hx hb dL_law_815 rfl (lv_at hl 3 rfl) ?_
    have hpm := qm1 (T1 := (kW y ad zk ok 14)) (T2 := (kW y sd zs os 2)) (pr_13 y h a jq mh w x9 ft z o zc oc x2 ad fl sd jo X fR fr f g fd fk fz o2)
    have hPc : va_P G vwCl ([aJ y jq 1 jo] ++ ([kX11 h (a 0) (a 2) (a 16) (a 30) (a 44) (a 46) Z0, kX2 (a 44) (a 45) x2, aQ y (a 45) 14 (fun i => some (ad i 0)), kX7 (a 16) (a 17) (a 19) (a 20) (a 26) (a 28) (z 0), kX3 (a 17) (a 18) (z 1), aI y (a 18) 10 (z 2), kX1 (a 19) (z 3), kX8 (a 20) (a 21) (a 22) (a 23) (a 24) (a 25) (z 4), aI y (a 21) 20 (z 5), aI y (a 22) 20 (z 6), aI y (a 23) 20 (z 7), aI y (a 24) 20 (z 8), aI y (a 25) 20 o, kX10 (a 26) (a 27) (z 9), aI y (a 27) 32 (z 10), kX0 (a 28) (a 29) (z 11), aI y (a 29) 3 (z 12)] ++ (kW y ad zk ok 14))) H := P_r (P_perm hpm hP)
    have hDc : va_D (fun q : Nat => s.heap.size ≤ q) ([aJ y jq 1 jo] ++ ([kX11 h (a 0) (a 2) (a 16) (a 30) (a 44) (a 46) Z0, kX2 (a 44) (a 45) x2, aQ y (a 45) 14 (fun i => some (ad i 0)), kX7 (a 16) (a 17) (a 19) (a 20) (a 26) (a 28) (z 0), kX3 (a 17) (a 18) (z 1), aI y (a 18) 10 (z 2), kX1 (a 19) (z 3), kX8 (a 20) (a 21) (a 22) (a 23) (a 24) (a 25) (z 4), aI y (a 21) 20 (z 5), aI y (a 22) 20 (z 6), aI y (a 23) 20 (z 7), aI y (a 24) 20 (z 8), aI y (a 25) 20 o, kX10 (a 26) (a 27) (z 9), aI y (a 27) 32 (z 10), kX0 (a 28) (a 29) (z 11), aI y (a 29) 3 (z 12)] ++ (kW y ad zk ok 14))) := D_r (D_perm hpm hD)
    have hFc : ∀ q, va_A ([aJ y jq 1 jo] ++ ([kX11 h (a 0) (a 2) (a 16) (a 30) (a 44) (a 46) Z0, kX2 (a 44) (a 45) x2, aQ y (a 45) 14 (fun i => some (ad i 0)), kX7 (a 16) (a 17) (a 19) (a 20) (a 26) (a 28) (z 0), kX3 (a 17) (a 18) (z 1), aI y (a 18) 10 (z 2), kX1 (a 19) (z 3), kX8 (a 20) (a 21) (a 22) (a 23) (a 24) (a 25) (z 4), aI y (a 21) 20 (z 5), aI y (a 22) 20 (z 6), aI y (a 23) 20 (z 7), aI y (a 24) 20 (z 8), aI y (a 25) 20 o, kX10 (a 26) (a 27) (z 9), aI y (a 27) 32 (z 10), kX0 (a 28) (a 29) (z 11), aI y (a 29) 3 (z 12)] ++ (kW y ad zk ok 14))) H.size q → s.heap.size ≤ q := F_r (D_perm hpm hD) hS hA
    refine cl_LP (fun _ : Unit => ((lwE y h a jq mh w x9 ft (s_X7_endTrial_z z) o zc oc (upd x2 1 (nI (rmC (tn (x2 1)) + 1))) (rmT (tn (x2 1)) ad) fl sd (vp_updL jo 0 (s_X11_takeBack_r z).toInt64) X fR fr f g fd fk fz o2) ++ ((kW y (rmT (tn (x2 1)) ad) (uK (rmT (tn (x2 1)) zk) (rmC (tn (x2 1))) z) (rmT (tn (x2 1)) ok) 14) ++ (kW y sd zs os 2)))) hpm (fun _ => qm1 (T1 := (kW y (rmT (tn (x2 1)) ad) (uK (rmT (tn (x2 1)) zk) (rmC (tn (x2 1))) z) (rmT (tn (x2 1)) ok) 14)) (T2 := (kW y sd zs os 2)) (pr_13 y h a jq mh w x9 ft (s_X7_endTrial_z z) o zc oc (upd x2 1 (nI (rmC (tn (x2 1)) + 1))) (rmT (tn (x2 1)) ad) fl sd (vp_updL jo 0 (s_X11_takeBack_r z).toInt64) X fR fr f g fd fk fz o2)) (vx_runSX (As := [.ref h, .ref jq]) (rest := []) ⟨hx, hb, hml, hown, hts⟩ (c_L_takeBack_y l G y h (a 0) (a 2) (a 16) (a 30) (a 44) (a 46) (a 45) x2 (a 17) (a 19) (a 20) (a 26) (a 28) z (a 18) (a 21) (a 22) (a 23) (a 24) (a 25) o (a 27) (a 29) ad zk ok jq jo H.size (wf_c hW) (wf_b hW).1 (wf_b hW).2.1 (wf_b hW).2.2 hk hfl) (vx_cwSW 2 hts gL_law_L_takeBack rfl rfl rfl (by decide +kernel) ⟨Nat.le_of_ble_eq_true rfl, Nat.le_of_ble_eq_true rfl⟩) (PHL_S hPc hK hN hDc hTY hS hFc) rfl rfl hl.1 rfl (lv_room (Nat.le_of_ble_eq_true rfl)) dL_law_816 ⟨hkc, hks⟩) hP hD hS hA (fun _ H locs hP hD hS => ?_)
    have hP : va_P G vwCl ((lwE y h a jq mh w x9 ft (s_X7_endTrial_z z) o zc oc (upd x2 1 (nI (rmC (tn (x2 1)) + 1))) (rmT (tn (x2 1)) ad) fl sd (vp_updL jo 0 (s_X11_takeBack_r z).toInt64) X fR fr f g fd fk fz o2) ++ ((kW y (rmT (tn (x2 1)) ad) (uK (rmT (tn (x2 1)) zk) (rmC (tn (x2 1))) z) (rmT (tn (x2 1)) ok) 14) ++ (kW y sd zs os 2))) H := hP
    have hD : va_D (fun q : Nat => s.heap.size ≤ q) ((lwE y h a jq mh w x9 ft (s_X7_endTrial_z z) o zc oc (upd x2 1 (nI (rmC (tn (x2 1)) + 1))) (rmT (tn (x2 1)) ad) fl sd (vp_updL jo 0 (s_X11_takeBack_r z).toInt64) X fR fr f g fd fk fz o2) ++ ((kW y (rmT (tn (x2 1)) ad) (uK (rmT (tn (x2 1)) zk) (rmC (tn (x2 1))) z) (rmT (tn (x2 1)) ok) 14) ++ (kW y sd zs os 2))) := hD
    refine lv_istore (lv' := [(5, .int 0), (0, .ref b), (1, .ref h), (2, .ref mh), (3, .ref jq), (4, .int iv)]) hx hb dL_law_819 hl (by decide) rfl (fun ls hl => ?_)
    refine lv_aload_n hx hb dL_law_821 rfl (lv_at hl 3 rfl) ?_
    have hpm := qm0 (T := (kW y (rmT (tn (x2 1)) ad) (uK (rmT (tn (x2 1)) zk) (rmC (tn (x2 1))) z) (rmT (tn (x2 1)) ok) 14) ++ (kW y sd zs os 2)) (pr_14 y h a jq mh w x9 ft (s_X7_endTrial_z z) o zc oc (upd x2 1 (nI (rmC (tn (x2 1)) + 1))) (rmT (tn (x2 1)) ad) fl sd (vp_updL jo 0 (s_X11_takeBack_r z).toInt64) X fR fr f g fd fk fz o2)
    have hPc : va_P G vwCl [kX12 mh (w 0) (w 1) (w 2) (w 3) (w 4) (w 5) (w 6) (w 7) X, aI y (w 2) 154 f, aI y (w 4) 2156 fd] H := P_r (P_perm hpm hP)
    have hDc : va_D (fun q : Nat => s.heap.size ≤ q) [kX12 mh (w 0) (w 1) (w 2) (w 3) (w 4) (w 5) (w 6) (w 7) X, aI y (w 2) 154 f, aI y (w 4) 2156 fd] := D_r (D_perm hpm hD)
    refine cl_MP (fun _ : Unit => ((lwE y h a jq mh w x9 ft (s_X7_endTrial_z z) o zc oc (upd x2 1 (nI (rmC (tn (x2 1)) + 1))) (rmT (tn (x2 1)) ad) fl sd (vp_updL jo 0 (s_X11_takeBack_r z).toInt64) (s_X12_takeBack_w0 X f) fR fr (s_X12_takeBack_w1 f) g (s_X12_takeBack_w2 X f fd) fk fz o2) ++ ((kW y (rmT (tn (x2 1)) ad) (uK (rmT (tn (x2 1)) zk) (rmC (tn (x2 1))) z) (rmT (tn (x2 1)) ok) 14) ++ (kW y sd zs os 2)))) hpm (fun _ => qm0 (T := (kW y (rmT (tn (x2 1)) ad) (uK (rmT (tn (x2 1)) zk) (rmC (tn (x2 1))) z) (rmT (tn (x2 1)) ok) 14) ++ (kW y sd zs os 2)) (pr_14 y h a jq mh w x9 ft (s_X7_endTrial_z z) o zc oc (upd x2 1 (nI (rmC (tn (x2 1)) + 1))) (rmT (tn (x2 1)) ad) fl sd (vp_updL jo 0 (s_X11_takeBack_r z).toInt64) (s_X12_takeBack_w0 X f) fR fr (s_X12_takeBack_w1 f) g (s_X12_takeBack_w2 X f fd) fk fz o2)) (va_runV (As := []) (rest := []) ⟨hx, hb, hml, hown, hts⟩ (c_X12_takeBack l G y mh (w 0) (w 1) (w 2) (w 3) (w 4) (w 5) (w 6) (w 7) X f fd H.size (wf_8 hW) (wf_17 hW)) (cwV 0 hts gL_law_X12_takeBack rfl rfl rfl (by decide +kernel) ⟨Nat.le_of_ble_eq_true rfl, Nat.le_of_ble_eq_true rfl⟩) (PH_V hPc hK4 hN hDc (ci := 10) (q0 := 0) rfl rfl) rfl rfl hl.1 rfl (lv_room (Nat.le_of_ble_eq_true rfl)) dL_law_822 ⟨hkc, hks⟩) hP hD hS hA (fun _ H locs hP hD hS => ?_)
    have hP : va_P G vwCl ((lwE y h a jq mh w x9 ft (s_X7_endTrial_z z) o zc oc (upd x2 1 (nI (rmC (tn (x2 1)) + 1))) (rmT (tn (x2 1)) ad) fl sd (vp_updL jo 0 (s_X11_takeBack_r z).toInt64) (s_X12_takeBack_w0 X f) fR fr (s_X12_takeBack_w1 f) g (s_X12_takeBack_w2 X f fd) fk fz o2) ++ ((kW y (rmT (tn (x2 1)) ad) (uK (rmT (tn (x2 1)) zk) (rmC (tn (x2 1))) z) (rmT (tn (x2 1)) ok) 14) ++ (kW y sd zs os 2))) H := hP
    have hD : va_D (fun q : Nat => s.heap.size ≤ q) ((lwE y h a jq mh w x9 ft (s_X7_endTrial_z z) o zc oc (upd x2 1 (nI (rmC (tn (x2 1)) + 1))) (rmT (tn (x2 1)) ad) fl sd (vp_updL jo 0 (s_X11_takeBack_r z).toInt64) (s_X12_takeBack_w0 X f) fR fr (s_X12_takeBack_w1 f) g (s_X12_takeBack_w2 X f fd) fk fz o2) ++ ((kW y (rmT (tn (x2 1)) ad) (uK (rmT (tn (x2 1)) zk) (rmC (tn (x2 1))) z) (rmT (tn (x2 1)) ok) 14) ++ (kW y sd zs os 2))) := hD
    obtain ⟨e1, e2, hW2⟩ := ly_takeBack hW hN9 hk
    have hT : s_X12_thrown_r (s_X12_takeBack_w0 X f) = 0 := (thr_eq _).trans e2
    refine lv_istore (lv' := [(6, .int (s_X12_takeBack_r f)), (5, .int 0), (0, .ref b), (1, .ref h), (2, .ref mh), (3, .ref jq), (4, .int iv)]) hx hb dL_law_825 hl (by decide) rfl (fun ls hl => ?_)
    refine lv_aload_n hx hb dL_law_827 rfl (lv_at hl 4 rfl) ?_
    refine cl_Ri (va_runV (As := []) (rest := []) ⟨hx, hb, hml, hown, hts⟩ (c_X12_thrown l G y mh (w 0) (w 1) (w 2) (w 3) (w 4) (w 5) (w 6) (w 7) (s_X12_takeBack_w0 X f)) (cwV 0 hts gL_law_X12_thrown rfl rfl rfl (by decide +kernel) ⟨Nat.le_of_ble_eq_true rfl, Nat.le_of_ble_eq_true rfl⟩) (PR_V (sel_P [50] (rfl : sel _ [50] = [kX12 mh (w 0) (w 1) (w 2) (w 3) (w 4) (w 5) (w 6) (w 7) (s_X12_takeBack_w0 X f)]) hP) hK4 hN (ci := 10) (q0 := 0) rfl rfl) rfl rfl hl.1 rfl (lv_room (Nat.le_of_ble_eq_true rfl)) dL_law_828 ⟨hkc, hks⟩) ?_
    refine lv_iload hx hb dL_law_831 (lv_at hl 1 rfl) ?_
    refine lv_icmp_eq (tgt := 838) hx hb dL_law_833 (by decide) (fun _ => ?_) (fun c9 => absurd hT c9)
    refine lv_iload hx hb dL_law_838 (lv_at hl 1 rfl) ?_
    refine lv_if_ne (tgt := 855) hx hb dL_law_840 (by decide) (fun c9 => absurd rfl c9) (fun _ => ?_)
    refine lv_aload_n hx hb dL_law_843 rfl (lv_at hl 5 rfl) ?_
    refine lv_iconst (v := 0) hx hb dL_law_844 (by decide) ?_
    refine al_o hx hb hK 59 hP rfl dL_law_845 ?_
    refine lv_iload hx hb dL_law_846 (lv_at hl 0 rfl) ?_
    refine lv_i2l (v := (s_X12_takeBack_r f).toInt64) hx hb dL_law_848 rfl ?_
    refine W.lcmp hx hb dL_law_849 ?_
    refine lv_if_eq (tgt := 855) hx hb dL_law_850 (by decide) (fun _ => ?_) (fun c9 => absurd (lg_o e1) c9)
    refine lv_goto (tgt := 1652) hx hb dL_law_855 (by decide) ?_
    refine W.widen (k := kc + 1) (n := ks + 6) (by omega) (by omega) ?_
    exact KN H locs ls ⟨x9, ft, (s_X7_endTrial_z z), o, zc, oc, (upd x2 1 (nI (rmC (tn (x2 1)) + 1))), (rmT (tn (x2 1)) ad), (uK (rmT (tn (x2 1)) zk) (rmC (tn (x2 1))) z), (rmT (tn (x2 1)) ok), fl, sd, zs, os, (vp_updL jo 0 (s_X11_takeBack_r z).toInt64), (s_X12_takeBack_w0 X f), fR, fr, (s_X12_takeBack_w1 f), g, (s_X12_takeBack_w2 X f fd), fk, fz, o2, hP, hD, hW2⟩ hS (lv_sub hl [2, 3, 4, 5, 6] rfl)
  · refine lv_aload_n hx hb dL_law_814 rfl (lv_at hl 1 rfl) ?_
    refine lv_aload_n hx hb dL_law_815 rfl (lv_at hl 3 rfl) ?_
    have hpm := qm1 (T1 := (kW y ad zk ok 14)) (T2 := (kW y sd zs os 2)) (pr_13 y h a jq mh w x9 ft z o zc oc x2 ad fl sd jo X fR fr f g fd fk fz o2)
    have hPc : va_P G vwCl ([aJ y jq 1 jo] ++ ([kX11 h (a 0) (a 2) (a 16) (a 30) (a 44) (a 46) Z0, kX2 (a 44) (a 45) x2, aQ y (a 45) 14 (fun i => some (ad i 0)), kX7 (a 16) (a 17) (a 19) (a 20) (a 26) (a 28) (z 0), kX3 (a 17) (a 18) (z 1), aI y (a 18) 10 (z 2), kX1 (a 19) (z 3), kX8 (a 20) (a 21) (a 22) (a 23) (a 24) (a 25) (z 4), aI y (a 21) 20 (z 5), aI y (a 22) 20 (z 6), aI y (a 23) 20 (z 7), aI y (a 24) 20 (z 8), aI y (a 25) 20 o, kX10 (a 26) (a 27) (z 9), aI y (a 27) 32 (z 10), kX0 (a 28) (a 29) (z 11), aI y (a 29) 3 (z 12)] ++ (kW y ad zk ok 14))) H := P_r (P_perm hpm hP)
    have hDc : va_D (fun q : Nat => s.heap.size ≤ q) ([aJ y jq 1 jo] ++ ([kX11 h (a 0) (a 2) (a 16) (a 30) (a 44) (a 46) Z0, kX2 (a 44) (a 45) x2, aQ y (a 45) 14 (fun i => some (ad i 0)), kX7 (a 16) (a 17) (a 19) (a 20) (a 26) (a 28) (z 0), kX3 (a 17) (a 18) (z 1), aI y (a 18) 10 (z 2), kX1 (a 19) (z 3), kX8 (a 20) (a 21) (a 22) (a 23) (a 24) (a 25) (z 4), aI y (a 21) 20 (z 5), aI y (a 22) 20 (z 6), aI y (a 23) 20 (z 7), aI y (a 24) 20 (z 8), aI y (a 25) 20 o, kX10 (a 26) (a 27) (z 9), aI y (a 27) 32 (z 10), kX0 (a 28) (a 29) (z 11), aI y (a 29) 3 (z 12)] ++ (kW y ad zk ok 14))) := D_r (D_perm hpm hD)
    have hFc : ∀ q, va_A ([aJ y jq 1 jo] ++ ([kX11 h (a 0) (a 2) (a 16) (a 30) (a 44) (a 46) Z0, kX2 (a 44) (a 45) x2, aQ y (a 45) 14 (fun i => some (ad i 0)), kX7 (a 16) (a 17) (a 19) (a 20) (a 26) (a 28) (z 0), kX3 (a 17) (a 18) (z 1), aI y (a 18) 10 (z 2), kX1 (a 19) (z 3), kX8 (a 20) (a 21) (a 22) (a 23) (a 24) (a 25) (z 4), aI y (a 21) 20 (z 5), aI y (a 22) 20 (z 6), aI y (a 23) 20 (z 7), aI y (a 24) 20 (z 8), aI y (a 25) 20 o, kX10 (a 26) (a 27) (z 9), aI y (a 27) 32 (z 10), kX0 (a 28) (a 29) (z 11), aI y (a 29) 3 (z 12)] ++ (kW y ad zk ok 14))) H.size q → s.heap.size ≤ q := F_r (D_perm hpm hD) hS hA
    refine cl_LP (fun _ : Unit => ((lwE y h a jq mh w x9 ft z o zc oc x2 ad fl sd jo X fR fr f g fd fk fz o2) ++ ((kW y ad zk ok 14) ++ (kW y sd zs os 2)))) hpm (fun _ => qm1 (T1 := (kW y ad zk ok 14)) (T2 := (kW y sd zs os 2)) (pr_13 y h a jq mh w x9 ft z o zc oc x2 ad fl sd jo X fR fr f g fd fk fz o2)) (vx_runSX (As := [.ref h, .ref jq]) (rest := []) ⟨hx, hb, hml, hown, hts⟩ (c_L_takeBack_n l G y h (a 0) (a 2) (a 16) (a 30) (a 44) (a 46) (a 45) x2 (a 17) (a 19) (a 20) (a 26) (a 28) z (a 18) (a 21) (a 22) (a 23) (a 24) (a 25) o (a 27) (a 29) ad zk ok jq jo H.size (wf_c hW) (wf_b hW).1 (wf_b hW).2.1 (wf_b hW).2.2 hk hfl) (vx_cwSW 2 hts gL_law_L_takeBack rfl rfl rfl (by decide +kernel) ⟨Nat.le_of_ble_eq_true rfl, Nat.le_of_ble_eq_true rfl⟩) (PHL_S hPc hK hN hDc hTY hS hFc) rfl rfl hl.1 rfl (lv_room (Nat.le_of_ble_eq_true rfl)) dL_law_816 ⟨hkc, hks⟩) hP hD hS hA (fun _ H locs hP hD hS => ?_)
    have hP : va_P G vwCl ((lwE y h a jq mh w x9 ft z o zc oc x2 ad fl sd jo X fR fr f g fd fk fz o2) ++ ((kW y ad zk ok 14) ++ (kW y sd zs os 2))) H := hP
    have hD : va_D (fun q : Nat => s.heap.size ≤ q) ((lwE y h a jq mh w x9 ft z o zc oc x2 ad fl sd jo X fR fr f g fd fk fz o2) ++ ((kW y ad zk ok 14) ++ (kW y sd zs os 2))) := hD
    refine lv_istore (lv' := [(5, .int (cdK 2 (s_X11_takeBack_k z))), (0, .ref b), (1, .ref h), (2, .ref mh), (3, .ref jq), (4, .int iv)]) hx hb dL_law_819 hl (by decide) rfl (fun ls hl => ?_)
    refine lv_aload_n hx hb dL_law_821 rfl (lv_at hl 3 rfl) ?_
    have hpm := qm0 (T := (kW y ad zk ok 14) ++ (kW y sd zs os 2)) (pr_14 y h a jq mh w x9 ft z o zc oc x2 ad fl sd jo X fR fr f g fd fk fz o2)
    have hPc : va_P G vwCl [kX12 mh (w 0) (w 1) (w 2) (w 3) (w 4) (w 5) (w 6) (w 7) X, aI y (w 2) 154 f, aI y (w 4) 2156 fd] H := P_r (P_perm hpm hP)
    have hDc : va_D (fun q : Nat => s.heap.size ≤ q) [kX12 mh (w 0) (w 1) (w 2) (w 3) (w 4) (w 5) (w 6) (w 7) X, aI y (w 2) 154 f, aI y (w 4) 2156 fd] := D_r (D_perm hpm hD)
    refine cl_MP (fun _ : Unit => ((lwE y h a jq mh w x9 ft z o zc oc x2 ad fl sd jo (s_X12_takeBack_w0 X f) fR fr (s_X12_takeBack_w1 f) g (s_X12_takeBack_w2 X f fd) fk fz o2) ++ ((kW y ad zk ok 14) ++ (kW y sd zs os 2)))) hpm (fun _ => qm0 (T := (kW y ad zk ok 14) ++ (kW y sd zs os 2)) (pr_14 y h a jq mh w x9 ft z o zc oc x2 ad fl sd jo (s_X12_takeBack_w0 X f) fR fr (s_X12_takeBack_w1 f) g (s_X12_takeBack_w2 X f fd) fk fz o2)) (va_runV (As := []) (rest := []) ⟨hx, hb, hml, hown, hts⟩ (c_X12_takeBack l G y mh (w 0) (w 1) (w 2) (w 3) (w 4) (w 5) (w 6) (w 7) X f fd H.size (wf_8 hW) (wf_17 hW)) (cwV 0 hts gL_law_X12_takeBack rfl rfl rfl (by decide +kernel) ⟨Nat.le_of_ble_eq_true rfl, Nat.le_of_ble_eq_true rfl⟩) (PH_V hPc hK4 hN hDc (ci := 10) (q0 := 0) rfl rfl) rfl rfl hl.1 rfl (lv_room (Nat.le_of_ble_eq_true rfl)) dL_law_822 ⟨hkc, hks⟩) hP hD hS hA (fun _ H locs hP hD hS => ?_)
    have hP : va_P G vwCl ((lwE y h a jq mh w x9 ft z o zc oc x2 ad fl sd jo (s_X12_takeBack_w0 X f) fR fr (s_X12_takeBack_w1 f) g (s_X12_takeBack_w2 X f fd) fk fz o2) ++ ((kW y ad zk ok 14) ++ (kW y sd zs os 2))) H := hP
    have hD : va_D (fun q : Nat => s.heap.size ≤ q) ((lwE y h a jq mh w x9 ft z o zc oc x2 ad fl sd jo (s_X12_takeBack_w0 X f) fR fr (s_X12_takeBack_w1 f) g (s_X12_takeBack_w2 X f fd) fk fz o2) ++ ((kW y ad zk ok 14) ++ (kW y sd zs os 2))) := hD
    obtain ⟨e2, hW2⟩ := ln_takeBack hW hk
    have hT : s_X12_thrown_r (s_X12_takeBack_w0 X f) = cdK 2 (s_X11_takeBack_k z) := (thr_eq _).trans e2
    refine lv_istore (lv' := [(6, .int (s_X12_takeBack_r f)), (5, .int (cdK 2 (s_X11_takeBack_k z))), (0, .ref b), (1, .ref h), (2, .ref mh), (3, .ref jq), (4, .int iv)]) hx hb dL_law_825 hl (by decide) rfl (fun ls hl => ?_)
    refine lv_aload_n hx hb dL_law_827 rfl (lv_at hl 4 rfl) ?_
    refine cl_Ri (va_runV (As := []) (rest := []) ⟨hx, hb, hml, hown, hts⟩ (c_X12_thrown l G y mh (w 0) (w 1) (w 2) (w 3) (w 4) (w 5) (w 6) (w 7) (s_X12_takeBack_w0 X f)) (cwV 0 hts gL_law_X12_thrown rfl rfl rfl (by decide +kernel) ⟨Nat.le_of_ble_eq_true rfl, Nat.le_of_ble_eq_true rfl⟩) (PR_V (sel_P [50] (rfl : sel _ [50] = [kX12 mh (w 0) (w 1) (w 2) (w 3) (w 4) (w 5) (w 6) (w 7) (s_X12_takeBack_w0 X f)]) hP) hK4 hN (ci := 10) (q0 := 0) rfl rfl) rfl rfl hl.1 rfl (lv_room (Nat.le_of_ble_eq_true rfl)) dL_law_828 ⟨hkc, hks⟩) ?_
    refine lv_iload hx hb dL_law_831 (lv_at hl 1 rfl) ?_
    refine lv_icmp_eq (tgt := 838) hx hb dL_law_833 (by decide) (fun _ => ?_) (fun c9 => absurd hT c9)
    refine lv_iload hx hb dL_law_838 (lv_at hl 1 rfl) ?_
    refine lv_if_ne (tgt := 855) hx hb dL_law_840 (by decide) (fun _ => ?_) (fun c9 => absurd c9 (cd_n hk))
    refine lv_goto (tgt := 1652) hx hb dL_law_855 (by decide) ?_
    refine W.widen (k := kc + 1) (n := ks + 6) (by omega) (by omega) ?_
    exact KN H locs ls ⟨x9, ft, z, o, zc, oc, x2, ad, zk, ok, fl, sd, zs, os, jo, (s_X12_takeBack_w0 X f), fR, fr, (s_X12_takeBack_w1 f), g, (s_X12_takeBack_w2 X f fd), fk, fz, o2, hP, hD, hW2⟩ hS (lv_sub hl [2, 3, 4, 5, 6] rfl)
set_option maxHeartbeats 2000000 in
set_option maxRecDepth 100000 in
theorem case_14 {p : Program} {l : Launch} {e : Env} {s : State} {m : MethodId} {below : List Frame} {meth : Method} {c : Code} {b L : Nat} {xs : Nat → Int32} {G : va_G} {y : Nat → ClassId} {h : Nat} {a : Nat → Nat} {jq mh : Nat} {w : Nat → Nat} {iv v1 v2 v3 : Int32} {N kc ks : Nat} {H : Heap} {locs : List Loc} {ls : Array Slot} (hfl : l.stackTraces = false) (C0 : lw_At p s m meth c b L xs) (hK : va_K G vwCl (tyJ y) s) (hN : NN s) (hTY : TY (fun q : Nat => s.heap.size ≤ q) s) (hin1 : vp_in (iv + 1) L) (hin2 : vp_in (iv + 2) L) (hin3 : vp_in (iv + 3) L) (hv1 : xs (iv + 1).toNatClampNeg = v1) (hv2 : xs (iv + 2).toNatClampNeg = v2) (hv3 : xs (iv + 3).toNatClampNeg = v3) (hkc : kc + 1 ≤ room_1.cells) (hks : ks + 6 ≤ room_1.slots) (hN9 : N + 12800 < 2147483648) (hI : LI G y h a jq mh w (fun q : Nat => s.heap.size ≤ q) N H) (hS : va_S (fun q : Nat => s.heap.size ≤ q) s.heap H locs) (hl : lv_has ls 7 [(0, .ref b), (1, .ref h), (2, .ref mh), (3, .ref jq), (4, .int iv)]) (KN : ∀ (H : Heap) (locs : List Loc) (ls : Array Slot), LI G y h a jq mh w (fun q : Nat => s.heap.size ≤ q) (N + 200) H → va_S (fun q : Nat => s.heap.size ≤ q) s.heap H locs → lv_has ls 7 [(0, .ref b), (1, .ref h), (2, .ref mh), (3, .ref jq), (4, .int iv)] → W p l e room_1 s m #[Value.ref b] below meth c H locs (kc + 1) (ks + 6) (lw_Z below #[Value.ref b] s) (F0 m 1652 ls [])) : W p l e room_1 s m #[Value.ref b] below meth c H locs kc ks (lw_Z below #[Value.ref b] s) (F0 m 858 ls []) := by
  obtain ⟨hx, hb, hr, hml, hown, hts, hX, hbl, hlocks, hgv⟩ := C0
  have hts := fun w hh => hts w (wsL_law_in w hh)
  have hbA : ¬ (fun q : Nat => s.heap.size ≤ q) b := Nat.not_le.mpr hbl
  have hA : ∀ q : Nat, s.heap.size ≤ q → (fun q : Nat => s.heap.size ≤ q) q := fun _ h => h
  have hK4 : va_K G vwCl (tyG y) s := hK.sub (tys' := tyG y) [0, 1, 2, 3] rfl
  have hown : s.vm.findClass RL = some m.cls := hown
  have hkc0 : kc ≤ room_1.cells := Nat.le_of_succ_le hkc
  have hks0 : ks ≤ room_1.slots := Nat.le_trans (Nat.le_add_right ks 6) hks
  obtain ⟨x9, ft, z, o, zc, oc, x2, ad, zk, ok, fl, sd, zs, os, jo, X, fR, fr, f, g, fd, fk, fz, o2, hP, hD, hW⟩ := hI
  refine lv_aload_n hx hb dL_law_858 rfl (lv_at hl 1 rfl) ?_
  have hpm := qm1 (T1 := (kW y ad zk ok 14)) (T2 := (kW y sd zs os 2)) (pr_16 y h a jq mh w x9 ft z o zc oc x2 ad fl sd jo X fR fr f g fd fk fz o2)
  have hPc : va_P G vwCl ([kX11 h (a 0) (a 2) (a 16) (a 30) (a 44) (a 46) Z0, kX2 (a 44) (a 45) x2, aQ y (a 45) 14 (fun i => some (ad i 0)), kX7 (a 16) (a 17) (a 19) (a 20) (a 26) (a 28) (z 0), kX3 (a 17) (a 18) (z 1), aI y (a 18) 10 (z 2), kX1 (a 19) (z 3), kX8 (a 20) (a 21) (a 22) (a 23) (a 24) (a 25) (z 4), aI y (a 21) 20 (z 5), aI y (a 22) 20 (z 6), aI y (a 23) 20 (z 7), aI y (a 24) 20 (z 8), aI y (a 25) 20 o, kX10 (a 26) (a 27) (z 9), aI y (a 27) 32 (z 10), kX0 (a 28) (a 29) (z 11), aI y (a 29) 3 (z 12)] ++ (kW y ad zk ok 14)) H := P_r (P_perm hpm hP)
  have hDc : va_D (fun q : Nat => s.heap.size ≤ q) ([kX11 h (a 0) (a 2) (a 16) (a 30) (a 44) (a 46) Z0, kX2 (a 44) (a 45) x2, aQ y (a 45) 14 (fun i => some (ad i 0)), kX7 (a 16) (a 17) (a 19) (a 20) (a 26) (a 28) (z 0), kX3 (a 17) (a 18) (z 1), aI y (a 18) 10 (z 2), kX1 (a 19) (z 3), kX8 (a 20) (a 21) (a 22) (a 23) (a 24) (a 25) (z 4), aI y (a 21) 20 (z 5), aI y (a 22) 20 (z 6), aI y (a 23) 20 (z 7), aI y (a 24) 20 (z 8), aI y (a 25) 20 o, kX10 (a 26) (a 27) (z 9), aI y (a 27) 32 (z 10), kX0 (a 28) (a 29) (z 11), aI y (a 29) 3 (z 12)] ++ (kW y ad zk ok 14)) := D_r (D_perm hpm hD)
  refine cl_MP (fun _ : Unit => ((lwE y h a jq mh w x9 ft (s_X11_accept_z z) o zc oc (upd x2 1 (nI (rmC (tn (x2 1)) + 1))) (rmT (tn (x2 1)) ad) fl sd jo X fR fr f g fd fk fz o2) ++ ((kW y (rmT (tn (x2 1)) ad) (uK (rmT (tn (x2 1)) zk) (rmC (tn (x2 1))) z) (rmT (tn (x2 1)) ok) 14) ++ (kW y sd zs os 2)))) hpm (fun _ => qm1 (T1 := (kW y (rmT (tn (x2 1)) ad) (uK (rmT (tn (x2 1)) zk) (rmC (tn (x2 1))) z) (rmT (tn (x2 1)) ok) 14)) (T2 := (kW y sd zs os 2)) (pr_16 y h a jq mh w x9 ft (s_X11_accept_z z) o zc oc (upd x2 1 (nI (rmC (tn (x2 1)) + 1))) (rmT (tn (x2 1)) ad) fl sd jo X fR fr f g fd fk fz o2)) (va_runV (As := []) (rest := []) ⟨hx, hb, hml, hown, hts⟩ (c_X11_accept l G y h (a 0) (a 2) (a 16) (a 30) (a 44) (a 46) (a 45) x2 (a 17) (a 19) (a 20) (a 26) (a 28) z (a 18) (a 21) (a 22) (a 23) (a 24) (a 25) o (a 27) (a 29) ad zk ok H.size (wf_c hW) (wf_b hW).1 (wf_b hW).2.1 (wf_b hW).2.2) (cwV 0 hts gL_law_X11_accept rfl rfl rfl (by decide +kernel) ⟨Nat.le_of_ble_eq_true rfl, Nat.le_of_ble_eq_true rfl⟩) (PH_V hPc hK4 hN hDc (ci := 9) (q0 := 0) rfl rfl) rfl rfl hl.1 rfl (lv_room (Nat.le_of_ble_eq_true rfl)) dL_law_859 ⟨hkc0, hks0⟩) hP hD hS hA (fun _ H locs hP hD hS => ?_)
  have hP : va_P G vwCl ((lwE y h a jq mh w x9 ft (s_X11_accept_z z) o zc oc (upd x2 1 (nI (rmC (tn (x2 1)) + 1))) (rmT (tn (x2 1)) ad) fl sd jo X fR fr f g fd fk fz o2) ++ ((kW y (rmT (tn (x2 1)) ad) (uK (rmT (tn (x2 1)) zk) (rmC (tn (x2 1))) z) (rmT (tn (x2 1)) ok) 14) ++ (kW y sd zs os 2))) H := hP
  have hD : va_D (fun q : Nat => s.heap.size ≤ q) ((lwE y h a jq mh w x9 ft (s_X11_accept_z z) o zc oc (upd x2 1 (nI (rmC (tn (x2 1)) + 1))) (rmT (tn (x2 1)) ad) fl sd jo X fR fr f g fd fk fz o2) ++ ((kW y (rmT (tn (x2 1)) ad) (uK (rmT (tn (x2 1)) zk) (rmC (tn (x2 1))) z) (rmT (tn (x2 1)) ok) 14) ++ (kW y sd zs os 2))) := hD
  refine lv_aload_n hx hb dL_law_862 rfl (lv_at hl 2 rfl) ?_
  have hpm := qm0 (T := (kW y (rmT (tn (x2 1)) ad) (uK (rmT (tn (x2 1)) zk) (rmC (tn (x2 1))) z) (rmT (tn (x2 1)) ok) 14) ++ (kW y sd zs os 2)) (pr_14 y h a jq mh w x9 ft (s_X11_accept_z z) o zc oc (upd x2 1 (nI (rmC (tn (x2 1)) + 1))) (rmT (tn (x2 1)) ad) fl sd jo X fR fr f g fd fk fz o2)
  have hPc : va_P G vwCl [kX12 mh (w 0) (w 1) (w 2) (w 3) (w 4) (w 5) (w 6) (w 7) X, aI y (w 2) 154 f, aI y (w 4) 2156 fd] H := P_r (P_perm hpm hP)
  have hDc : va_D (fun q : Nat => s.heap.size ≤ q) [kX12 mh (w 0) (w 1) (w 2) (w 3) (w 4) (w 5) (w 6) (w 7) X, aI y (w 2) 154 f, aI y (w 4) 2156 fd] := D_r (D_perm hpm hD)
  refine cl_MP (fun _ : Unit => ((lwE y h a jq mh w x9 ft (s_X11_accept_z z) o zc oc (upd x2 1 (nI (rmC (tn (x2 1)) + 1))) (rmT (tn (x2 1)) ad) fl sd jo (s_X12_accept_w0 X) fR fr (s_X12_accept_w1 f) g (s_X12_accept_w2 X f fd) fk fz o2) ++ ((kW y (rmT (tn (x2 1)) ad) (uK (rmT (tn (x2 1)) zk) (rmC (tn (x2 1))) z) (rmT (tn (x2 1)) ok) 14) ++ (kW y sd zs os 2)))) hpm (fun _ => qm0 (T := (kW y (rmT (tn (x2 1)) ad) (uK (rmT (tn (x2 1)) zk) (rmC (tn (x2 1))) z) (rmT (tn (x2 1)) ok) 14) ++ (kW y sd zs os 2)) (pr_14 y h a jq mh w x9 ft (s_X11_accept_z z) o zc oc (upd x2 1 (nI (rmC (tn (x2 1)) + 1))) (rmT (tn (x2 1)) ad) fl sd jo (s_X12_accept_w0 X) fR fr (s_X12_accept_w1 f) g (s_X12_accept_w2 X f fd) fk fz o2)) (va_runV (As := []) (rest := [.int (s_X11_accept_r z)]) ⟨hx, hb, hml, hown, hts⟩ (c_X12_accept l G y mh (w 0) (w 1) (w 2) (w 3) (w 4) (w 5) (w 6) (w 7) X f fd H.size (wf_8 hW)) (cwV 0 hts gL_law_X12_accept rfl rfl rfl (by decide +kernel) ⟨Nat.le_of_ble_eq_true rfl, Nat.le_of_ble_eq_true rfl⟩) (PH_V hPc hK4 hN hDc (ci := 10) (q0 := 0) rfl rfl) rfl rfl hl.1 rfl (lv_room (Nat.le_of_ble_eq_true rfl)) dL_law_863 ⟨hkc0, hks0⟩) hP hD hS hA (fun _ H locs hP hD hS => ?_)
  have hP : va_P G vwCl ((lwE y h a jq mh w x9 ft (s_X11_accept_z z) o zc oc (upd x2 1 (nI (rmC (tn (x2 1)) + 1))) (rmT (tn (x2 1)) ad) fl sd jo (s_X12_accept_w0 X) fR fr (s_X12_accept_w1 f) g (s_X12_accept_w2 X f fd) fk fz o2) ++ ((kW y (rmT (tn (x2 1)) ad) (uK (rmT (tn (x2 1)) zk) (rmC (tn (x2 1))) z) (rmT (tn (x2 1)) ok) 14) ++ (kW y sd zs os 2))) H := hP
  have hD : va_D (fun q : Nat => s.heap.size ≤ q) ((lwE y h a jq mh w x9 ft (s_X11_accept_z z) o zc oc (upd x2 1 (nI (rmC (tn (x2 1)) + 1))) (rmT (tn (x2 1)) ad) fl sd jo (s_X12_accept_w0 X) fR fr (s_X12_accept_w1 f) g (s_X12_accept_w2 X f fd) fk fz o2) ++ ((kW y (rmT (tn (x2 1)) ad) (uK (rmT (tn (x2 1)) zk) (rmC (tn (x2 1))) z) (rmT (tn (x2 1)) ok) 14) ++ (kW y sd zs os 2))) := hD
  obtain ⟨e1, -, hW2⟩ := acpt_st hW
  refine lv_icmp_eq (tgt := 1652) hx hb dL_law_866 (by decide) (fun _ => ?_) (fun c9 => absurd e1 c9)
  refine W.widen (k := kc + 1) (n := ks + 6) (by omega) (by omega) ?_
  exact KN H locs ls ⟨x9, ft, (s_X11_accept_z z), o, zc, oc, (upd x2 1 (nI (rmC (tn (x2 1)) + 1))), (rmT (tn (x2 1)) ad), (uK (rmT (tn (x2 1)) zk) (rmC (tn (x2 1))) z), (rmT (tn (x2 1)) ok), fl, sd, zs, os, jo, (s_X12_accept_w0 X), fR, fr, (s_X12_accept_w1 f), g, (s_X12_accept_w2 X f fd), fk, fz, o2, hP, hD, (hW2.mono (Nat.le_add_right _ _))⟩ hS (lv_sub hl [0, 1, 2, 3, 4] rfl)
set_option maxHeartbeats 2000000 in
set_option maxRecDepth 100000 in
theorem case_15 {p : Program} {l : Launch} {e : Env} {s : State} {m : MethodId} {below : List Frame} {meth : Method} {c : Code} {b L : Nat} {xs : Nat → Int32} {G : va_G} {y : Nat → ClassId} {h : Nat} {a : Nat → Nat} {jq mh : Nat} {w : Nat → Nat} {iv v1 v2 v3 : Int32} {N kc ks : Nat} {H : Heap} {locs : List Loc} {ls : Array Slot} (hfl : l.stackTraces = false) (C0 : lw_At p s m meth c b L xs) (hK : va_K G vwCl (tyJ y) s) (hN : NN s) (hTY : TY (fun q : Nat => s.heap.size ≤ q) s) (hin1 : vp_in (iv + 1) L) (hin2 : vp_in (iv + 2) L) (hin3 : vp_in (iv + 3) L) (hv1 : xs (iv + 1).toNatClampNeg = v1) (hv2 : xs (iv + 2).toNatClampNeg = v2) (hv3 : xs (iv + 3).toNatClampNeg = v3) (hkc : kc + 1 ≤ room_1.cells) (hks : ks + 6 ≤ room_1.slots) (hN9 : N + 12800 < 2147483648) (hI : LI G y h a jq mh w (fun q : Nat => s.heap.size ≤ q) N H) (hS : va_S (fun q : Nat => s.heap.size ≤ q) s.heap H locs) (hl : lv_has ls 7 [(0, .ref b), (1, .ref h), (2, .ref mh), (3, .ref jq), (4, .int iv)]) (KN : ∀ (H : Heap) (locs : List Loc) (ls : Array Slot), LI G y h a jq mh w (fun q : Nat => s.heap.size ≤ q) (N + 200) H → va_S (fun q : Nat => s.heap.size ≤ q) s.heap H locs → lv_has ls 7 [(0, .ref b), (1, .ref h), (2, .ref mh), (3, .ref jq), (4, .int iv)] → W p l e room_1 s m #[Value.ref b] below meth c H locs (kc + 1) (ks + 6) (lw_Z below #[Value.ref b] s) (F0 m 1652 ls [])) : W p l e room_1 s m #[Value.ref b] below meth c H locs kc ks (lw_Z below #[Value.ref b] s) (F0 m 871 ls []) := by
  obtain ⟨hx, hb, hr, hml, hown, hts, hX, hbl, hlocks, hgv⟩ := C0
  have hts := fun w hh => hts w (wsL_law_in w hh)
  have hbA : ¬ (fun q : Nat => s.heap.size ≤ q) b := Nat.not_le.mpr hbl
  have hA : ∀ q : Nat, s.heap.size ≤ q → (fun q : Nat => s.heap.size ≤ q) q := fun _ h => h
  have hK4 : va_K G vwCl (tyG y) s := hK.sub (tys' := tyG y) [0, 1, 2, 3] rfl
  have hown : s.vm.findClass RL = some m.cls := hown
  have hkc0 : kc ≤ room_1.cells := Nat.le_of_succ_le hkc
  have hks0 : ks ≤ room_1.slots := Nat.le_trans (Nat.le_add_right ks 6) hks
  obtain ⟨x9, ft, z, o, zc, oc, x2, ad, zk, ok, fl, sd, zs, os, jo, X, fR, fr, f, g, fd, fk, fz, o2, hP, hD, hW⟩ := hI
  by_cases hk : (s_X11_undo_k x2) = 0
  · refine lv_aload_n hx hb dL_law_871 rfl (lv_at hl 1 rfl) ?_
    refine lv_aload_n hx hb dL_law_872 rfl (lv_at hl 3 rfl) ?_
    have hpm := qm1 (T1 := (kW y ad zk ok 14)) (T2 := (kW y sd zs os 2)) (pr_13 y h a jq mh w x9 ft z o zc oc x2 ad fl sd jo X fR fr f g fd fk fz o2)
    have hPc : va_P G vwCl ([aJ y jq 1 jo] ++ ([kX11 h (a 0) (a 2) (a 16) (a 30) (a 44) (a 46) Z0, kX2 (a 44) (a 45) x2, aQ y (a 45) 14 (fun i => some (ad i 0)), kX7 (a 16) (a 17) (a 19) (a 20) (a 26) (a 28) (z 0), kX3 (a 17) (a 18) (z 1), aI y (a 18) 10 (z 2), kX1 (a 19) (z 3), kX8 (a 20) (a 21) (a 22) (a 23) (a 24) (a 25) (z 4), aI y (a 21) 20 (z 5), aI y (a 22) 20 (z 6), aI y (a 23) 20 (z 7), aI y (a 24) 20 (z 8), aI y (a 25) 20 o, kX10 (a 26) (a 27) (z 9), aI y (a 27) 32 (z 10), kX0 (a 28) (a 29) (z 11), aI y (a 29) 3 (z 12)] ++ (kW y ad zk ok 14))) H := P_r (P_perm hpm hP)
    have hDc : va_D (fun q : Nat => s.heap.size ≤ q) ([aJ y jq 1 jo] ++ ([kX11 h (a 0) (a 2) (a 16) (a 30) (a 44) (a 46) Z0, kX2 (a 44) (a 45) x2, aQ y (a 45) 14 (fun i => some (ad i 0)), kX7 (a 16) (a 17) (a 19) (a 20) (a 26) (a 28) (z 0), kX3 (a 17) (a 18) (z 1), aI y (a 18) 10 (z 2), kX1 (a 19) (z 3), kX8 (a 20) (a 21) (a 22) (a 23) (a 24) (a 25) (z 4), aI y (a 21) 20 (z 5), aI y (a 22) 20 (z 6), aI y (a 23) 20 (z 7), aI y (a 24) 20 (z 8), aI y (a 25) 20 o, kX10 (a 26) (a 27) (z 9), aI y (a 27) 32 (z 10), kX0 (a 28) (a 29) (z 11), aI y (a 29) 3 (z 12)] ++ (kW y ad zk ok 14))) := D_r (D_perm hpm hD)
    have hFc : ∀ q, va_A ([aJ y jq 1 jo] ++ ([kX11 h (a 0) (a 2) (a 16) (a 30) (a 44) (a 46) Z0, kX2 (a 44) (a 45) x2, aQ y (a 45) 14 (fun i => some (ad i 0)), kX7 (a 16) (a 17) (a 19) (a 20) (a 26) (a 28) (z 0), kX3 (a 17) (a 18) (z 1), aI y (a 18) 10 (z 2), kX1 (a 19) (z 3), kX8 (a 20) (a 21) (a 22) (a 23) (a 24) (a 25) (z 4), aI y (a 21) 20 (z 5), aI y (a 22) 20 (z 6), aI y (a 23) 20 (z 7), aI y (a 24) 20 (z 8), aI y (a 25) 20 o, kX10 (a 26) (a 27) (z 9), aI y (a 27) 32 (z 10), kX0 (a 28) (a 29) (z 11), aI y (a 29) 3 (z 12)] ++ (kW y ad zk ok 14))) H.size q → s.heap.size ≤ q := F_r (D_perm hpm hD) hS hA
    refine cl_LP (fun _ : Unit => ((lwE y h a jq mh w x9 ft (zk (tn (x2 1) - 1)) o zc oc (s_X11_undo_w1 x2) ad fl sd (vp_updL jo 0 (s_X11_undo_r x2).toInt64) X fR fr f g fd fk fz o2) ++ ((kW y ad zk ok 14) ++ (kW y sd zs os 2)))) hpm (fun _ => qm1 (T1 := (kW y ad zk ok 14)) (T2 := (kW y sd zs os 2)) (pr_13 y h a jq mh w x9 ft (zk (tn (x2 1) - 1)) o zc oc (s_X11_undo_w1 x2) ad fl sd (vp_updL jo 0 (s_X11_undo_r x2).toInt64) X fR fr f g fd fk fz o2)) (vx_runSX (As := [.ref h, .ref jq]) (rest := []) ⟨hx, hb, hml, hown, hts⟩ (c_L_undo_y l G y h (a 0) (a 2) (a 16) (a 30) (a 44) (a 46) (a 45) x2 (a 17) (a 19) (a 20) (a 26) (a 28) z (a 18) (a 21) (a 22) (a 23) (a 24) (a 25) o (a 27) (a 29) ad zk ok jq jo H.size (wf_c hW) (hW.2.2.2.2.1 _).1 (hW.2.2.2.2.1 _).2.1 (hW.2.2.2.2.1 _).2.2 hk hfl) (vx_cwSW 2 hts gL_law_L_undo rfl rfl rfl (by decide +kernel) ⟨Nat.le_of_ble_eq_true rfl, Nat.le_of_ble_eq_true rfl⟩) (PHL_S hPc hK hN hDc hTY hS hFc) rfl rfl hl.1 rfl (lv_room (Nat.le_of_ble_eq_true rfl)) dL_law_873 ⟨hkc, hks⟩) hP hD hS hA (fun _ H locs hP hD hS => ?_)
    have hP : va_P G vwCl ((lwE y h a jq mh w x9 ft (zk (tn (x2 1) - 1)) o zc oc (s_X11_undo_w1 x2) ad fl sd (vp_updL jo 0 (s_X11_undo_r x2).toInt64) X fR fr f g fd fk fz o2) ++ ((kW y ad zk ok 14) ++ (kW y sd zs os 2))) H := hP
    have hD : va_D (fun q : Nat => s.heap.size ≤ q) ((lwE y h a jq mh w x9 ft (zk (tn (x2 1) - 1)) o zc oc (s_X11_undo_w1 x2) ad fl sd (vp_updL jo 0 (s_X11_undo_r x2).toInt64) X fR fr f g fd fk fz o2) ++ ((kW y ad zk ok 14) ++ (kW y sd zs os 2))) := hD
    refine lv_istore (lv' := [(5, .int 0), (0, .ref b), (1, .ref h), (2, .ref mh), (3, .ref jq), (4, .int iv)]) hx hb dL_law_876 hl (by decide) rfl (fun ls hl => ?_)
    refine lv_aload_n hx hb dL_law_878 rfl (lv_at hl 3 rfl) ?_
    have hpm := qm0 (T := (kW y ad zk ok 14) ++ (kW y sd zs os 2)) (pr_14 y h a jq mh w x9 ft (zk (tn (x2 1) - 1)) o zc oc (s_X11_undo_w1 x2) ad fl sd (vp_updL jo 0 (s_X11_undo_r x2).toInt64) X fR fr f g fd fk fz o2)
    have hPc : va_P G vwCl [kX12 mh (w 0) (w 1) (w 2) (w 3) (w 4) (w 5) (w 6) (w 7) X, aI y (w 2) 154 f, aI y (w 4) 2156 fd] H := P_r (P_perm hpm hP)
    have hDc : va_D (fun q : Nat => s.heap.size ≤ q) [kX12 mh (w 0) (w 1) (w 2) (w 3) (w 4) (w 5) (w 6) (w 7) X, aI y (w 2) 154 f, aI y (w 4) 2156 fd] := D_r (D_perm hpm hD)
    refine cl_MP (fun _ : Unit => ((lwE y h a jq mh w x9 ft (zk (tn (x2 1) - 1)) o zc oc (s_X11_undo_w1 x2) ad fl sd (vp_updL jo 0 (s_X11_undo_r x2).toInt64) (s_X12_undo_w0 X) fR fr (s_X12_undo_w1 X f fd) g fd fk fz o2) ++ ((kW y ad zk ok 14) ++ (kW y sd zs os 2)))) hpm (fun _ => qm0 (T := (kW y ad zk ok 14) ++ (kW y sd zs os 2)) (pr_14 y h a jq mh w x9 ft (zk (tn (x2 1) - 1)) o zc oc (s_X11_undo_w1 x2) ad fl sd (vp_updL jo 0 (s_X11_undo_r x2).toInt64) (s_X12_undo_w0 X) fR fr (s_X12_undo_w1 X f fd) g fd fk fz o2)) (va_runV (As := []) (rest := []) ⟨hx, hb, hml, hown, hts⟩ (c_X12_undo l G y mh (w 0) (w 1) (w 2) (w 3) (w 4) (w 5) (w 6) (w 7) X f fd H.size (wf_8 hW)) (cwV 0 hts gL_law_X12_undo rfl rfl rfl (by decide +kernel) ⟨Nat.le_of_ble_eq_true rfl, Nat.le_of_ble_eq_true rfl⟩) (PH_V hPc hK4 hN hDc (ci := 10) (q0 := 0) rfl rfl) rfl rfl hl.1 rfl (lv_room (Nat.le_of_ble_eq_true rfl)) dL_law_879 ⟨hkc, hks⟩) hP hD hS hA (fun _ H locs hP hD hS => ?_)
    have hP : va_P G vwCl ((lwE y h a jq mh w x9 ft (zk (tn (x2 1) - 1)) o zc oc (s_X11_undo_w1 x2) ad fl sd (vp_updL jo 0 (s_X11_undo_r x2).toInt64) (s_X12_undo_w0 X) fR fr (s_X12_undo_w1 X f fd) g fd fk fz o2) ++ ((kW y ad zk ok 14) ++ (kW y sd zs os 2))) H := hP
    have hD : va_D (fun q : Nat => s.heap.size ≤ q) ((lwE y h a jq mh w x9 ft (zk (tn (x2 1) - 1)) o zc oc (s_X11_undo_w1 x2) ad fl sd (vp_updL jo 0 (s_X11_undo_r x2).toInt64) (s_X12_undo_w0 X) fR fr (s_X12_undo_w1 X f fd) g fd fk fz o2) ++ ((kW y ad zk ok 14) ++ (kW y sd zs os 2))) := hD
    obtain ⟨e1, e2, hW2⟩ := ly_undo hW hN9 hk
    have hT : s_X12_thrown_r (s_X12_undo_w0 X) = 0 := (thr_eq _).trans e2
    refine lv_istore (lv' := [(6, .int (s_X12_undo_r X)), (5, .int 0), (0, .ref b), (1, .ref h), (2, .ref mh), (3, .ref jq), (4, .int iv)]) hx hb dL_law_882 hl (by decide) rfl (fun ls hl => ?_)
    refine lv_aload_n hx hb dL_law_884 rfl (lv_at hl 4 rfl) ?_
    refine cl_Ri (va_runV (As := []) (rest := []) ⟨hx, hb, hml, hown, hts⟩ (c_X12_thrown l G y mh (w 0) (w 1) (w 2) (w 3) (w 4) (w 5) (w 6) (w 7) (s_X12_undo_w0 X)) (cwV 0 hts gL_law_X12_thrown rfl rfl rfl (by decide +kernel) ⟨Nat.le_of_ble_eq_true rfl, Nat.le_of_ble_eq_true rfl⟩) (PR_V (sel_P [50] (rfl : sel _ [50] = [kX12 mh (w 0) (w 1) (w 2) (w 3) (w 4) (w 5) (w 6) (w 7) (s_X12_undo_w0 X)]) hP) hK4 hN (ci := 10) (q0 := 0) rfl rfl) rfl rfl hl.1 rfl (lv_room (Nat.le_of_ble_eq_true rfl)) dL_law_885 ⟨hkc, hks⟩) ?_
    refine lv_iload hx hb dL_law_888 (lv_at hl 1 rfl) ?_
    refine lv_icmp_eq (tgt := 895) hx hb dL_law_890 (by decide) (fun _ => ?_) (fun c9 => absurd hT c9)
    refine lv_iload hx hb dL_law_895 (lv_at hl 1 rfl) ?_
    refine lv_if_ne (tgt := 912) hx hb dL_law_897 (by decide) (fun c9 => absurd rfl c9) (fun _ => ?_)
    refine lv_aload_n hx hb dL_law_900 rfl (lv_at hl 5 rfl) ?_
    refine lv_iconst (v := 0) hx hb dL_law_901 (by decide) ?_
    refine al_o hx hb hK 59 hP rfl dL_law_902 ?_
    refine lv_iload hx hb dL_law_903 (lv_at hl 0 rfl) ?_
    refine lv_i2l (v := (s_X12_undo_r X).toInt64) hx hb dL_law_905 rfl ?_
    refine W.lcmp hx hb dL_law_906 ?_
    refine lv_if_eq (tgt := 912) hx hb dL_law_907 (by decide) (fun _ => ?_) (fun c9 => absurd (lg_o e1) c9)
    refine lv_goto (tgt := 1652) hx hb dL_law_912 (by decide) ?_
    refine W.widen (k := kc + 1) (n := ks + 6) (by omega) (by omega) ?_
    exact KN H locs ls ⟨x9, ft, (zk (tn (x2 1) - 1)), o, zc, oc, (s_X11_undo_w1 x2), ad, zk, ok, fl, sd, zs, os, (vp_updL jo 0 (s_X11_undo_r x2).toInt64), (s_X12_undo_w0 X), fR, fr, (s_X12_undo_w1 X f fd), g, fd, fk, fz, o2, hP, hD, hW2⟩ hS (lv_sub hl [2, 3, 4, 5, 6] rfl)
  · refine lv_aload_n hx hb dL_law_871 rfl (lv_at hl 1 rfl) ?_
    refine lv_aload_n hx hb dL_law_872 rfl (lv_at hl 3 rfl) ?_
    have hpm := qm1 (T1 := (kW y ad zk ok 14)) (T2 := (kW y sd zs os 2)) (pr_13 y h a jq mh w x9 ft z o zc oc x2 ad fl sd jo X fR fr f g fd fk fz o2)
    have hPc : va_P G vwCl ([aJ y jq 1 jo] ++ ([kX11 h (a 0) (a 2) (a 16) (a 30) (a 44) (a 46) Z0, kX2 (a 44) (a 45) x2, aQ y (a 45) 14 (fun i => some (ad i 0)), kX7 (a 16) (a 17) (a 19) (a 20) (a 26) (a 28) (z 0), kX3 (a 17) (a 18) (z 1), aI y (a 18) 10 (z 2), kX1 (a 19) (z 3), kX8 (a 20) (a 21) (a 22) (a 23) (a 24) (a 25) (z 4), aI y (a 21) 20 (z 5), aI y (a 22) 20 (z 6), aI y (a 23) 20 (z 7), aI y (a 24) 20 (z 8), aI y (a 25) 20 o, kX10 (a 26) (a 27) (z 9), aI y (a 27) 32 (z 10), kX0 (a 28) (a 29) (z 11), aI y (a 29) 3 (z 12)] ++ (kW y ad zk ok 14))) H := P_r (P_perm hpm hP)
    have hDc : va_D (fun q : Nat => s.heap.size ≤ q) ([aJ y jq 1 jo] ++ ([kX11 h (a 0) (a 2) (a 16) (a 30) (a 44) (a 46) Z0, kX2 (a 44) (a 45) x2, aQ y (a 45) 14 (fun i => some (ad i 0)), kX7 (a 16) (a 17) (a 19) (a 20) (a 26) (a 28) (z 0), kX3 (a 17) (a 18) (z 1), aI y (a 18) 10 (z 2), kX1 (a 19) (z 3), kX8 (a 20) (a 21) (a 22) (a 23) (a 24) (a 25) (z 4), aI y (a 21) 20 (z 5), aI y (a 22) 20 (z 6), aI y (a 23) 20 (z 7), aI y (a 24) 20 (z 8), aI y (a 25) 20 o, kX10 (a 26) (a 27) (z 9), aI y (a 27) 32 (z 10), kX0 (a 28) (a 29) (z 11), aI y (a 29) 3 (z 12)] ++ (kW y ad zk ok 14))) := D_r (D_perm hpm hD)
    have hFc : ∀ q, va_A ([aJ y jq 1 jo] ++ ([kX11 h (a 0) (a 2) (a 16) (a 30) (a 44) (a 46) Z0, kX2 (a 44) (a 45) x2, aQ y (a 45) 14 (fun i => some (ad i 0)), kX7 (a 16) (a 17) (a 19) (a 20) (a 26) (a 28) (z 0), kX3 (a 17) (a 18) (z 1), aI y (a 18) 10 (z 2), kX1 (a 19) (z 3), kX8 (a 20) (a 21) (a 22) (a 23) (a 24) (a 25) (z 4), aI y (a 21) 20 (z 5), aI y (a 22) 20 (z 6), aI y (a 23) 20 (z 7), aI y (a 24) 20 (z 8), aI y (a 25) 20 o, kX10 (a 26) (a 27) (z 9), aI y (a 27) 32 (z 10), kX0 (a 28) (a 29) (z 11), aI y (a 29) 3 (z 12)] ++ (kW y ad zk ok 14))) H.size q → s.heap.size ≤ q := F_r (D_perm hpm hD) hS hA
    refine cl_LP (fun _ : Unit => ((lwE y h a jq mh w x9 ft z o zc oc x2 ad fl sd jo X fR fr f g fd fk fz o2) ++ ((kW y ad zk ok 14) ++ (kW y sd zs os 2)))) hpm (fun _ => qm1 (T1 := (kW y ad zk ok 14)) (T2 := (kW y sd zs os 2)) (pr_13 y h a jq mh w x9 ft z o zc oc x2 ad fl sd jo X fR fr f g fd fk fz o2)) (vx_runSX (As := [.ref h, .ref jq]) (rest := []) ⟨hx, hb, hml, hown, hts⟩ (c_L_undo_n l G y h (a 0) (a 2) (a 16) (a 30) (a 44) (a 46) (a 45) x2 (a 17) (a 19) (a 20) (a 26) (a 28) z (a 18) (a 21) (a 22) (a 23) (a 24) (a 25) o (a 27) (a 29) ad zk ok jq jo H.size (wf_c hW) (hW.2.2.2.2.1 _).1 (hW.2.2.2.2.1 _).2.1 (hW.2.2.2.2.1 _).2.2 hk hfl) (vx_cwSW 2 hts gL_law_L_undo rfl rfl rfl (by decide +kernel) ⟨Nat.le_of_ble_eq_true rfl, Nat.le_of_ble_eq_true rfl⟩) (PHL_S hPc hK hN hDc hTY hS hFc) rfl rfl hl.1 rfl (lv_room (Nat.le_of_ble_eq_true rfl)) dL_law_873 ⟨hkc, hks⟩) hP hD hS hA (fun _ H locs hP hD hS => ?_)
    have hP : va_P G vwCl ((lwE y h a jq mh w x9 ft z o zc oc x2 ad fl sd jo X fR fr f g fd fk fz o2) ++ ((kW y ad zk ok 14) ++ (kW y sd zs os 2))) H := hP
    have hD : va_D (fun q : Nat => s.heap.size ≤ q) ((lwE y h a jq mh w x9 ft z o zc oc x2 ad fl sd jo X fR fr f g fd fk fz o2) ++ ((kW y ad zk ok 14) ++ (kW y sd zs os 2))) := hD
    refine lv_istore (lv' := [(5, .int (cdK 2 (s_X11_undo_k x2))), (0, .ref b), (1, .ref h), (2, .ref mh), (3, .ref jq), (4, .int iv)]) hx hb dL_law_876 hl (by decide) rfl (fun ls hl => ?_)
    refine lv_aload_n hx hb dL_law_878 rfl (lv_at hl 3 rfl) ?_
    have hpm := qm0 (T := (kW y ad zk ok 14) ++ (kW y sd zs os 2)) (pr_14 y h a jq mh w x9 ft z o zc oc x2 ad fl sd jo X fR fr f g fd fk fz o2)
    have hPc : va_P G vwCl [kX12 mh (w 0) (w 1) (w 2) (w 3) (w 4) (w 5) (w 6) (w 7) X, aI y (w 2) 154 f, aI y (w 4) 2156 fd] H := P_r (P_perm hpm hP)
    have hDc : va_D (fun q : Nat => s.heap.size ≤ q) [kX12 mh (w 0) (w 1) (w 2) (w 3) (w 4) (w 5) (w 6) (w 7) X, aI y (w 2) 154 f, aI y (w 4) 2156 fd] := D_r (D_perm hpm hD)
    refine cl_MP (fun _ : Unit => ((lwE y h a jq mh w x9 ft z o zc oc x2 ad fl sd jo (s_X12_undo_w0 X) fR fr (s_X12_undo_w1 X f fd) g fd fk fz o2) ++ ((kW y ad zk ok 14) ++ (kW y sd zs os 2)))) hpm (fun _ => qm0 (T := (kW y ad zk ok 14) ++ (kW y sd zs os 2)) (pr_14 y h a jq mh w x9 ft z o zc oc x2 ad fl sd jo (s_X12_undo_w0 X) fR fr (s_X12_undo_w1 X f fd) g fd fk fz o2)) (va_runV (As := []) (rest := []) ⟨hx, hb, hml, hown, hts⟩ (c_X12_undo l G y mh (w 0) (w 1) (w 2) (w 3) (w 4) (w 5) (w 6) (w 7) X f fd H.size (wf_8 hW)) (cwV 0 hts gL_law_X12_undo rfl rfl rfl (by decide +kernel) ⟨Nat.le_of_ble_eq_true rfl, Nat.le_of_ble_eq_true rfl⟩) (PH_V hPc hK4 hN hDc (ci := 10) (q0 := 0) rfl rfl) rfl rfl hl.1 rfl (lv_room (Nat.le_of_ble_eq_true rfl)) dL_law_879 ⟨hkc, hks⟩) hP hD hS hA (fun _ H locs hP hD hS => ?_)
    have hP : va_P G vwCl ((lwE y h a jq mh w x9 ft z o zc oc x2 ad fl sd jo (s_X12_undo_w0 X) fR fr (s_X12_undo_w1 X f fd) g fd fk fz o2) ++ ((kW y ad zk ok 14) ++ (kW y sd zs os 2))) H := hP
    have hD : va_D (fun q : Nat => s.heap.size ≤ q) ((lwE y h a jq mh w x9 ft z o zc oc x2 ad fl sd jo (s_X12_undo_w0 X) fR fr (s_X12_undo_w1 X f fd) g fd fk fz o2) ++ ((kW y ad zk ok 14) ++ (kW y sd zs os 2))) := hD
    obtain ⟨e2, hW2⟩ := ln_undo hW hk
    have hT : s_X12_thrown_r (s_X12_undo_w0 X) = cdK 2 (s_X11_undo_k x2) := (thr_eq _).trans e2
    refine lv_istore (lv' := [(6, .int (s_X12_undo_r X)), (5, .int (cdK 2 (s_X11_undo_k x2))), (0, .ref b), (1, .ref h), (2, .ref mh), (3, .ref jq), (4, .int iv)]) hx hb dL_law_882 hl (by decide) rfl (fun ls hl => ?_)
    refine lv_aload_n hx hb dL_law_884 rfl (lv_at hl 4 rfl) ?_
    refine cl_Ri (va_runV (As := []) (rest := []) ⟨hx, hb, hml, hown, hts⟩ (c_X12_thrown l G y mh (w 0) (w 1) (w 2) (w 3) (w 4) (w 5) (w 6) (w 7) (s_X12_undo_w0 X)) (cwV 0 hts gL_law_X12_thrown rfl rfl rfl (by decide +kernel) ⟨Nat.le_of_ble_eq_true rfl, Nat.le_of_ble_eq_true rfl⟩) (PR_V (sel_P [50] (rfl : sel _ [50] = [kX12 mh (w 0) (w 1) (w 2) (w 3) (w 4) (w 5) (w 6) (w 7) (s_X12_undo_w0 X)]) hP) hK4 hN (ci := 10) (q0 := 0) rfl rfl) rfl rfl hl.1 rfl (lv_room (Nat.le_of_ble_eq_true rfl)) dL_law_885 ⟨hkc, hks⟩) ?_
    refine lv_iload hx hb dL_law_888 (lv_at hl 1 rfl) ?_
    refine lv_icmp_eq (tgt := 895) hx hb dL_law_890 (by decide) (fun _ => ?_) (fun c9 => absurd hT c9)
    refine lv_iload hx hb dL_law_895 (lv_at hl 1 rfl) ?_
    refine lv_if_ne (tgt := 912) hx hb dL_law_897 (by decide) (fun _ => ?_) (fun c9 => absurd c9 (cd_n hk))
    refine lv_goto (tgt := 1652) hx hb dL_law_912 (by decide) ?_
    refine W.widen (k := kc + 1) (n := ks + 6) (by omega) (by omega) ?_
    exact KN H locs ls ⟨x9, ft, z, o, zc, oc, x2, ad, zk, ok, fl, sd, zs, os, jo, (s_X12_undo_w0 X), fR, fr, (s_X12_undo_w1 X f fd), g, fd, fk, fz, o2, hP, hD, hW2⟩ hS (lv_sub hl [2, 3, 4, 5, 6] rfl)
set_option maxHeartbeats 2000000 in
set_option maxRecDepth 100000 in
theorem case_16 {p : Program} {l : Launch} {e : Env} {s : State} {m : MethodId} {below : List Frame} {meth : Method} {c : Code} {b L : Nat} {xs : Nat → Int32} {G : va_G} {y : Nat → ClassId} {h : Nat} {a : Nat → Nat} {jq mh : Nat} {w : Nat → Nat} {iv v1 v2 v3 : Int32} {N kc ks : Nat} {H : Heap} {locs : List Loc} {ls : Array Slot} (hfl : l.stackTraces = false) (C0 : lw_At p s m meth c b L xs) (hK : va_K G vwCl (tyJ y) s) (hN : NN s) (hTY : TY (fun q : Nat => s.heap.size ≤ q) s) (hin1 : vp_in (iv + 1) L) (hin2 : vp_in (iv + 2) L) (hin3 : vp_in (iv + 3) L) (hv1 : xs (iv + 1).toNatClampNeg = v1) (hv2 : xs (iv + 2).toNatClampNeg = v2) (hv3 : xs (iv + 3).toNatClampNeg = v3) (hkc : kc + 1 ≤ room_1.cells) (hks : ks + 6 ≤ room_1.slots) (hN9 : N + 12800 < 2147483648) (hI : LI G y h a jq mh w (fun q : Nat => s.heap.size ≤ q) N H) (hS : va_S (fun q : Nat => s.heap.size ≤ q) s.heap H locs) (hl : lv_has ls 7 [(0, .ref b), (1, .ref h), (2, .ref mh), (3, .ref jq), (4, .int iv)]) (KN : ∀ (H : Heap) (locs : List Loc) (ls : Array Slot), LI G y h a jq mh w (fun q : Nat => s.heap.size ≤ q) (N + 200) H → va_S (fun q : Nat => s.heap.size ≤ q) s.heap H locs → lv_has ls 7 [(0, .ref b), (1, .ref h), (2, .ref mh), (3, .ref jq), (4, .int iv)] → W p l e room_1 s m #[Value.ref b] below meth c H locs (kc + 1) (ks + 6) (lw_Z below #[Value.ref b] s) (F0 m 1652 ls [])) : W p l e room_1 s m #[Value.ref b] below meth c H locs kc ks (lw_Z below #[Value.ref b] s) (F0 m 915 ls []) := by
  obtain ⟨hx, hb, hr, hml, hown, hts, hX, hbl, hlocks, hgv⟩ := C0
  have hts := fun w hh => hts w (wsL_law_in w hh)
  have hbA : ¬ (fun q : Nat => s.heap.size ≤ q) b := Nat.not_le.mpr hbl
  have hA : ∀ q : Nat, s.heap.size ≤ q → (fun q : Nat => s.heap.size ≤ q) q := fun _ h => h
  have hK4 : va_K G vwCl (tyG y) s := hK.sub (tys' := tyG y) [0, 1, 2, 3] rfl
  have hown : s.vm.findClass RL = some m.cls := hown
  have hkc0 : kc ≤ room_1.cells := Nat.le_of_succ_le hkc
  have hks0 : ks ≤ room_1.slots := Nat.le_trans (Nat.le_add_right ks 6) hks
  obtain ⟨x9, ft, z, o, zc, oc, x2, ad, zk, ok, fl, sd, zs, os, jo, X, fR, fr, f, g, fd, fk, fz, o2, hP, hD, hW⟩ := hI
  by_cases hk : v1 = 0
  · refine lv_aload_n hx hb dL_law_915 rfl (lv_at hl 1 rfl) ?_
    refine lv_aload_n hx hb dL_law_916 rfl (lv_at hl 0 rfl) ?_
    refine lv_iload hx hb dL_law_917 (lv_at hl 4 rfl) ?_
    refine lv_iconst (v := 1) hx hb dL_law_919 (by decide) ?_
    refine lv_iadd hx hb dL_law_920 ?_
    refine va_sld hx hb hX hbl hbA hS hin1 dL_law_921 ?_
    refine rw_i (x' := v1) hv1 ?_
    refine lv_if_eq (tgt := 929) hx hb dL_law_922 (by decide) (fun _ => ?_) (fun c9 => absurd hk c9)
    refine lv_iconst (v := 0) hx hb dL_law_929 (by decide) ?_
    have hpm := qm0 (T := (kW y ad zk ok 14) ++ (kW y sd zs os 2)) (pr_17 y h a jq mh w x9 ft z o zc oc x2 ad fl sd jo X fR fr f g fd fk fz o2)
    have hPc : va_P G vwCl [kX11 h (a 0) (a 2) (a 16) (a 30) (a 44) (a 46) Z0, kX7 (a 16) (a 17) (a 19) (a 20) (a 26) (a 28) (z 0), kX8 (a 20) (a 21) (a 22) (a 23) (a 24) (a 25) (z 4), aI y (a 21) 20 (z 5), aI y (a 22) 20 (z 6), aI y (a 23) 20 (z 7), aI y (a 24) 20 (z 8), aI y (a 25) 20 o] H := P_r (P_perm hpm hP)
    have hDc : va_D (fun q : Nat => s.heap.size ≤ q) [kX11 h (a 0) (a 2) (a 16) (a 30) (a 44) (a 46) Z0, kX7 (a 16) (a 17) (a 19) (a 20) (a 26) (a 28) (z 0), kX8 (a 20) (a 21) (a 22) (a 23) (a 24) (a 25) (z 4), aI y (a 21) 20 (z 5), aI y (a 22) 20 (z 6), aI y (a 23) 20 (z 7), aI y (a 24) 20 (z 8), aI y (a 25) 20 o] := D_r (D_perm hpm hD)
    refine cl_MP (fun u : (Nat → Int32) => ((lwE y h a jq mh w x9 ft z u zc oc x2 ad fl sd jo X fR fr f g fd fk fz o2) ++ ((kW y ad zk ok 14) ++ (kW y sd zs os 2)))) hpm (fun u => qm0 (T := (kW y ad zk ok 14) ++ (kW y sd zs os 2)) (pr_17 y h a jq mh w x9 ft z u zc oc x2 ad fl sd jo X fR fr f g fd fk fz o2)) (va_runV (As := [.int 0]) (rest := []) ⟨hx, hb, hml, hown, hts⟩ (c_X11_middle l G y h 0 (a 0) (a 2) (a 16) (a 30) (a 44) (a 46) (a 17) (a 19) (a 20) (a 26) (a 28) z (a 21) (a 22) (a 23) (a 24) (a 25) o H.size (wf_w hW)) (cwV 1 hts gL_law_X11_middle rfl rfl rfl (by decide +kernel) ⟨Nat.le_of_ble_eq_true rfl, Nat.le_of_ble_eq_true rfl⟩) (PH_V hPc hK4 hN hDc (ci := 9) (q0 := 0) rfl rfl) rfl rfl hl.1 rfl (lv_room (Nat.le_of_ble_eq_true rfl)) dL_law_930 ⟨hkc0, hks0⟩) hP hD hS hA (fun u H locs hP hD hS => ?_)
    obtain ⟨o_X11, rfl⟩ : ∃ zq9, zq9 = u := ⟨_, rfl⟩
    have hP : va_P G vwCl ((lwE y h a jq mh w x9 ft z o_X11 zc oc x2 ad fl sd jo X fR fr f g fd fk fz o2) ++ ((kW y ad zk ok 14) ++ (kW y sd zs os 2))) H := hP
    have hD : va_D (fun q : Nat => s.heap.size ≤ q) ((lwE y h a jq mh w x9 ft z o_X11 zc oc x2 ad fl sd jo X fR fr f g fd fk fz o2) ++ ((kW y ad zk ok 14) ++ (kW y sd zs os 2))) := hD
    refine lv_aload_n hx hb dL_law_933 rfl (lv_at hl 2 rfl) ?_
    refine lv_aload_n hx hb dL_law_934 rfl (lv_at hl 0 rfl) ?_
    refine lv_iload hx hb dL_law_935 (lv_at hl 4 rfl) ?_
    refine lv_iconst (v := 1) hx hb dL_law_937 (by decide) ?_
    refine lv_iadd hx hb dL_law_938 ?_
    refine va_sld hx hb hX hbl hbA hS hin1 dL_law_939 ?_
    refine rw_i (x' := v1) hv1 ?_
    refine lv_if_eq (tgt := 947) hx hb dL_law_940 (by decide) (fun _ => ?_) (fun c9 => absurd hk c9)
    refine lv_iconst (v := 0) hx hb dL_law_947 (by decide) ?_
    have hpm := qm0 (T := (kW y ad zk ok 14) ++ (kW y sd zs os 2)) (pr_9 y h a jq mh w x9 ft z o_X11 zc oc x2 ad fl sd jo X fR fr f g fd fk fz o2)
    have hPc : va_P G vwCl [kX12 mh (w 0) (w 1) (w 2) (w 3) (w 4) (w 5) (w 6) (w 7) X, aI y (w 2) 154 f, aI y (w 7) 20 o2] H := P_r (P_perm hpm hP)
    have hDc : va_D (fun q : Nat => s.heap.size ≤ q) [kX12 mh (w 0) (w 1) (w 2) (w 3) (w 4) (w 5) (w 6) (w 7) X, aI y (w 2) 154 f, aI y (w 7) 20 o2] := D_r (D_perm hpm hD)
    refine cl_MP (fun u : (Nat → Int32) => ((lwE y h a jq mh w x9 ft z o_X11 zc oc x2 ad fl sd jo (s_X12_middle_w0 X) fR fr f g fd fk fz u) ++ ((kW y ad zk ok 14) ++ (kW y sd zs os 2)))) hpm (fun u => qm0 (T := (kW y ad zk ok 14) ++ (kW y sd zs os 2)) (pr_9 y h a jq mh w x9 ft z o_X11 zc oc x2 ad fl sd jo (s_X12_middle_w0 X) fR fr f g fd fk fz u)) (va_runV (As := [.int 0]) (rest := [.int (s_X11_middle_r 0 z)]) ⟨hx, hb, hml, hown, hts⟩ (c_X12_middle l G y mh 0 (w 0) (w 1) (w 2) (w 3) (w 4) (w 5) (w 6) (w 7) X f o2 H.size (wf_16 hW)) (cwV 1 hts gL_law_X12_middle rfl rfl rfl (by decide +kernel) ⟨Nat.le_of_ble_eq_true rfl, Nat.le_of_ble_eq_true rfl⟩) (PH_V hPc hK4 hN hDc (ci := 10) (q0 := 0) rfl rfl) rfl rfl hl.1 rfl (lv_room (Nat.le_of_ble_eq_true rfl)) dL_law_948 ⟨hkc0, hks0⟩) hP hD hS hA (fun u H locs hP hD hS => ?_)
    obtain ⟨o_X12, rfl⟩ : ∃ zq9, zq9 = u := ⟨_, rfl⟩
    have hP : va_P G vwCl ((lwE y h a jq mh w x9 ft z o_X11 zc oc x2 ad fl sd jo (s_X12_middle_w0 X) fR fr f g fd fk fz o_X12) ++ ((kW y ad zk ok 14) ++ (kW y sd zs os 2))) H := hP
    have hD : va_D (fun q : Nat => s.heap.size ≤ q) ((lwE y h a jq mh w x9 ft z o_X11 zc oc x2 ad fl sd jo (s_X12_middle_w0 X) fR fr f g fd fk fz o_X12) ++ ((kW y ad zk ok 14) ++ (kW y sd zs os 2))) := hD
    have e1 : (s_X11_middle_r 0 z) = (s_X12_middle_r 0 f) := mid_rel hW.2.1 _
    have hW2 := WR.note (X' := (s_X12_middle_w0 X)) hW ((upd_ne (by decide))) ((upd_ne (by decide)))
    refine lv_icmp_eq (tgt := 1652) hx hb dL_law_951 (by decide) (fun _ => ?_) (fun c9 => absurd e1 c9)
    refine W.widen (k := kc + 1) (n := ks + 6) (by omega) (by omega) ?_
    exact KN H locs ls ⟨x9, ft, z, o_X11, zc, oc, x2, ad, zk, ok, fl, sd, zs, os, jo, (s_X12_middle_w0 X), fR, fr, f, g, fd, fk, fz, o_X12, hP, hD, (hW2.mono (Nat.le_add_right _ _))⟩ hS (lv_sub hl [0, 1, 2, 3, 4] rfl)
  · refine lv_aload_n hx hb dL_law_915 rfl (lv_at hl 1 rfl) ?_
    refine lv_aload_n hx hb dL_law_916 rfl (lv_at hl 0 rfl) ?_
    refine lv_iload hx hb dL_law_917 (lv_at hl 4 rfl) ?_
    refine lv_iconst (v := 1) hx hb dL_law_919 (by decide) ?_
    refine lv_iadd hx hb dL_law_920 ?_
    refine va_sld hx hb hX hbl hbA hS hin1 dL_law_921 ?_
    refine rw_i (x' := v1) hv1 ?_
    refine lv_if_eq (tgt := 929) hx hb dL_law_922 (by decide) (fun c9 => absurd c9 hk) (fun _ => ?_)
    refine lv_iconst (v := 1) hx hb dL_law_925 (by decide) ?_
    refine lv_goto (tgt := 930) hx hb dL_law_926 (by decide) ?_
    have hpm := qm0 (T := (kW y ad zk ok 14) ++ (kW y sd zs os 2)) (pr_17 y h a jq mh w x9 ft z o zc oc x2 ad fl sd jo X fR fr f g fd fk fz o2)
    have hPc : va_P G vwCl [kX11 h (a 0) (a 2) (a 16) (a 30) (a 44) (a 46) Z0, kX7 (a 16) (a 17) (a 19) (a 20) (a 26) (a 28) (z 0), kX8 (a 20) (a 21) (a 22) (a 23) (a 24) (a 25) (z 4), aI y (a 21) 20 (z 5), aI y (a 22) 20 (z 6), aI y (a 23) 20 (z 7), aI y (a 24) 20 (z 8), aI y (a 25) 20 o] H := P_r (P_perm hpm hP)
    have hDc : va_D (fun q : Nat => s.heap.size ≤ q) [kX11 h (a 0) (a 2) (a 16) (a 30) (a 44) (a 46) Z0, kX7 (a 16) (a 17) (a 19) (a 20) (a 26) (a 28) (z 0), kX8 (a 20) (a 21) (a 22) (a 23) (a 24) (a 25) (z 4), aI y (a 21) 20 (z 5), aI y (a 22) 20 (z 6), aI y (a 23) 20 (z 7), aI y (a 24) 20 (z 8), aI y (a 25) 20 o] := D_r (D_perm hpm hD)
    refine cl_MP (fun u : (Nat → Int32) => ((lwE y h a jq mh w x9 ft z u zc oc x2 ad fl sd jo X fR fr f g fd fk fz o2) ++ ((kW y ad zk ok 14) ++ (kW y sd zs os 2)))) hpm (fun u => qm0 (T := (kW y ad zk ok 14) ++ (kW y sd zs os 2)) (pr_17 y h a jq mh w x9 ft z u zc oc x2 ad fl sd jo X fR fr f g fd fk fz o2)) (va_runV (As := [.int 1]) (rest := []) ⟨hx, hb, hml, hown, hts⟩ (c_X11_middle l G y h 1 (a 0) (a 2) (a 16) (a 30) (a 44) (a 46) (a 17) (a 19) (a 20) (a 26) (a 28) z (a 21) (a 22) (a 23) (a 24) (a 25) o H.size (wf_w hW)) (cwV 1 hts gL_law_X11_middle rfl rfl rfl (by decide +kernel) ⟨Nat.le_of_ble_eq_true rfl, Nat.le_of_ble_eq_true rfl⟩) (PH_V hPc hK4 hN hDc (ci := 9) (q0 := 0) rfl rfl) rfl rfl hl.1 rfl (lv_room (Nat.le_of_ble_eq_true rfl)) dL_law_930 ⟨hkc0, hks0⟩) hP hD hS hA (fun u H locs hP hD hS => ?_)
    obtain ⟨o_X11, rfl⟩ : ∃ zq9, zq9 = u := ⟨_, rfl⟩
    have hP : va_P G vwCl ((lwE y h a jq mh w x9 ft z o_X11 zc oc x2 ad fl sd jo X fR fr f g fd fk fz o2) ++ ((kW y ad zk ok 14) ++ (kW y sd zs os 2))) H := hP
    have hD : va_D (fun q : Nat => s.heap.size ≤ q) ((lwE y h a jq mh w x9 ft z o_X11 zc oc x2 ad fl sd jo X fR fr f g fd fk fz o2) ++ ((kW y ad zk ok 14) ++ (kW y sd zs os 2))) := hD
    refine lv_aload_n hx hb dL_law_933 rfl (lv_at hl 2 rfl) ?_
    refine lv_aload_n hx hb dL_law_934 rfl (lv_at hl 0 rfl) ?_
    refine lv_iload hx hb dL_law_935 (lv_at hl 4 rfl) ?_
    refine lv_iconst (v := 1) hx hb dL_law_937 (by decide) ?_
    refine lv_iadd hx hb dL_law_938 ?_
    refine va_sld hx hb hX hbl hbA hS hin1 dL_law_939 ?_
    refine rw_i (x' := v1) hv1 ?_
    refine lv_if_eq (tgt := 947) hx hb dL_law_940 (by decide) (fun c9 => absurd c9 hk) (fun _ => ?_)
    refine lv_iconst (v := 1) hx hb dL_law_943 (by decide) ?_
    refine lv_goto (tgt := 948) hx hb dL_law_944 (by decide) ?_
    have hpm := qm0 (T := (kW y ad zk ok 14) ++ (kW y sd zs os 2)) (pr_9 y h a jq mh w x9 ft z o_X11 zc oc x2 ad fl sd jo X fR fr f g fd fk fz o2)
    have hPc : va_P G vwCl [kX12 mh (w 0) (w 1) (w 2) (w 3) (w 4) (w 5) (w 6) (w 7) X, aI y (w 2) 154 f, aI y (w 7) 20 o2] H := P_r (P_perm hpm hP)
    have hDc : va_D (fun q : Nat => s.heap.size ≤ q) [kX12 mh (w 0) (w 1) (w 2) (w 3) (w 4) (w 5) (w 6) (w 7) X, aI y (w 2) 154 f, aI y (w 7) 20 o2] := D_r (D_perm hpm hD)
    refine cl_MP (fun u : (Nat → Int32) => ((lwE y h a jq mh w x9 ft z o_X11 zc oc x2 ad fl sd jo (s_X12_middle_w0 X) fR fr f g fd fk fz u) ++ ((kW y ad zk ok 14) ++ (kW y sd zs os 2)))) hpm (fun u => qm0 (T := (kW y ad zk ok 14) ++ (kW y sd zs os 2)) (pr_9 y h a jq mh w x9 ft z o_X11 zc oc x2 ad fl sd jo (s_X12_middle_w0 X) fR fr f g fd fk fz u)) (va_runV (As := [.int 1]) (rest := [.int (s_X11_middle_r 1 z)]) ⟨hx, hb, hml, hown, hts⟩ (c_X12_middle l G y mh 1 (w 0) (w 1) (w 2) (w 3) (w 4) (w 5) (w 6) (w 7) X f o2 H.size (wf_16 hW)) (cwV 1 hts gL_law_X12_middle rfl rfl rfl (by decide +kernel) ⟨Nat.le_of_ble_eq_true rfl, Nat.le_of_ble_eq_true rfl⟩) (PH_V hPc hK4 hN hDc (ci := 10) (q0 := 0) rfl rfl) rfl rfl hl.1 rfl (lv_room (Nat.le_of_ble_eq_true rfl)) dL_law_948 ⟨hkc0, hks0⟩) hP hD hS hA (fun u H locs hP hD hS => ?_)
    obtain ⟨o_X12, rfl⟩ : ∃ zq9, zq9 = u := ⟨_, rfl⟩
    have hP : va_P G vwCl ((lwE y h a jq mh w x9 ft z o_X11 zc oc x2 ad fl sd jo (s_X12_middle_w0 X) fR fr f g fd fk fz o_X12) ++ ((kW y ad zk ok 14) ++ (kW y sd zs os 2))) H := hP
    have hD : va_D (fun q : Nat => s.heap.size ≤ q) ((lwE y h a jq mh w x9 ft z o_X11 zc oc x2 ad fl sd jo (s_X12_middle_w0 X) fR fr f g fd fk fz o_X12) ++ ((kW y ad zk ok 14) ++ (kW y sd zs os 2))) := hD
    have e1 : (s_X11_middle_r 1 z) = (s_X12_middle_r 1 f) := mid_rel hW.2.1 _
    have hW2 := WR.note (X' := (s_X12_middle_w0 X)) hW ((upd_ne (by decide))) ((upd_ne (by decide)))
    refine lv_icmp_eq (tgt := 1652) hx hb dL_law_951 (by decide) (fun _ => ?_) (fun c9 => absurd e1 c9)
    refine W.widen (k := kc + 1) (n := ks + 6) (by omega) (by omega) ?_
    exact KN H locs ls ⟨x9, ft, z, o_X11, zc, oc, x2, ad, zk, ok, fl, sd, zs, os, jo, (s_X12_middle_w0 X), fR, fr, f, g, fd, fk, fz, o_X12, hP, hD, (hW2.mono (Nat.le_add_right _ _))⟩ hS (lv_sub hl [0, 1, 2, 3, 4] rfl)
set_option maxHeartbeats 2000000 in
set_option maxRecDepth 100000 in
theorem case_17 {p : Program} {l : Launch} {e : Env} {s : State} {m : MethodId} {below : List Frame} {meth : Method} {c : Code} {b L : Nat} {xs : Nat → Int32} {G : va_G} {y : Nat → ClassId} {h : Nat} {a : Nat → Nat} {jq mh : Nat} {w : Nat → Nat} {iv v1 v2 v3 : Int32} {N kc ks : Nat} {H : Heap} {locs : List Loc} {ls : Array Slot} (hfl : l.stackTraces = false) (C0 : lw_At p s m meth c b L xs) (hK : va_K G vwCl (tyJ y) s) (hN : NN s) (hTY : TY (fun q : Nat => s.heap.size ≤ q) s) (hin1 : vp_in (iv + 1) L) (hin2 : vp_in (iv + 2) L) (hin3 : vp_in (iv + 3) L) (hv1 : xs (iv + 1).toNatClampNeg = v1) (hv2 : xs (iv + 2).toNatClampNeg = v2) (hv3 : xs (iv + 3).toNatClampNeg = v3) (hkc : kc + 1 ≤ room_1.cells) (hks : ks + 6 ≤ room_1.slots) (hN9 : N + 12800 < 2147483648) (hI : LI G y h a jq mh w (fun q : Nat => s.heap.size ≤ q) N H) (hS : va_S (fun q : Nat => s.heap.size ≤ q) s.heap H locs) (hl : lv_has ls 7 [(0, .ref b), (1, .ref h), (2, .ref mh), (3, .ref jq), (4, .int iv)]) (KN : ∀ (H : Heap) (locs : List Loc) (ls : Array Slot), LI G y h a jq mh w (fun q : Nat => s.heap.size ≤ q) (N + 200) H → va_S (fun q : Nat => s.heap.size ≤ q) s.heap H locs → lv_has ls 7 [(0, .ref b), (1, .ref h), (2, .ref mh), (3, .ref jq), (4, .int iv)] → W p l e room_1 s m #[Value.ref b] below meth c H locs (kc + 1) (ks + 6) (lw_Z below #[Value.ref b] s) (F0 m 1652 ls [])) : W p l e room_1 s m #[Value.ref b] below meth c H locs kc ks (lw_Z below #[Value.ref b] s) (F0 m 956 ls []) := by
  obtain ⟨hx, hb, hr, hml, hown, hts, hX, hbl, hlocks, hgv⟩ := C0
  have hts := fun w hh => hts w (wsL_law_in w hh)
  have hbA : ¬ (fun q : Nat => s.heap.size ≤ q) b := Nat.not_le.mpr hbl
  have hA : ∀ q : Nat, s.heap.size ≤ q → (fun q : Nat => s.heap.size ≤ q) q := fun _ h => h
  have hK4 : va_K G vwCl (tyG y) s := hK.sub (tys' := tyG y) [0, 1, 2, 3] rfl
  have hown : s.vm.findClass RL = some m.cls := hown
  have hkc0 : kc ≤ room_1.cells := Nat.le_of_succ_le hkc
  have hks0 : ks ≤ room_1.slots := Nat.le_trans (Nat.le_add_right ks 6) hks
  obtain ⟨x9, ft, z, o, zc, oc, x2, ad, zk, ok, fl, sd, zs, os, jo, X, fR, fr, f, g, fd, fk, fz, o2, hP, hD, hW⟩ := hI
  by_cases hk : (s_X11_proposal_k v1 v2) = 0
  · refine lv_aload_n hx hb dL_law_956 rfl (lv_at hl 1 rfl) ?_
    refine lv_aload_n hx hb dL_law_957 rfl (lv_at hl 0 rfl) ?_
    refine lv_iload hx hb dL_law_958 (lv_at hl 4 rfl) ?_
    refine lv_iconst (v := 1) hx hb dL_law_960 (by decide) ?_
    refine lv_iadd hx hb dL_law_961 ?_
    refine va_sld hx hb hX hbl hbA hS hin1 dL_law_962 ?_
    refine rw_i (x' := v1) hv1 ?_
    refine lv_aload_n hx hb dL_law_963 rfl (lv_at hl 0 rfl) ?_
    refine lv_iload hx hb dL_law_964 (lv_at hl 4 rfl) ?_
    refine lv_iconst (v := 2) hx hb dL_law_966 (by decide) ?_
    refine lv_iadd hx hb dL_law_967 ?_
    refine va_sld hx hb hX hbl hbA hS hin2 dL_law_968 ?_
    refine rw_i (x' := v2) hv2 ?_
    refine lv_aload_n hx hb dL_law_969 rfl (lv_at hl 3 rfl) ?_
    have hpm := qm0 (T := (kW y ad zk ok 14) ++ (kW y sd zs os 2)) (pr_18 y h a jq mh w x9 ft z o zc oc x2 ad fl sd jo X fR fr f g fd fk fz o2)
    have hPc : va_P G vwCl ([aJ y jq 1 jo] ++ [kX11 h (a 0) (a 2) (a 16) (a 30) (a 44) (a 46) Z0, kX7 (a 16) (a 17) (a 19) (a 20) (a 26) (a 28) (z 0), kX3 (a 17) (a 18) (z 1), kX1 (a 19) (z 3), kX8 (a 20) (a 21) (a 22) (a 23) (a 24) (a 25) (z 4), aI y (a 21) 20 (z 5), aI y (a 22) 20 (z 6), aI y (a 23) 20 (z 7), aI y (a 24) 20 (z 8), aI y (a 25) 20 o]) H := P_r (P_perm hpm hP)
    have hDc : va_D (fun q : Nat => s.heap.size ≤ q) ([aJ y jq 1 jo] ++ [kX11 h (a 0) (a 2) (a 16) (a 30) (a 44) (a 46) Z0, kX7 (a 16) (a 17) (a 19) (a 20) (a 26) (a 28) (z 0), kX3 (a 17) (a 18) (z 1), kX1 (a 19) (z 3), kX8 (a 20) (a 21) (a 22) (a 23) (a 24) (a 25) (z 4), aI y (a 21) 20 (z 5), aI y (a 22) 20 (z 6), aI y (a 23) 20 (z 7), aI y (a 24) 20 (z 8), aI y (a 25) 20 o]) := D_r (D_perm hpm hD)
    have hFc : ∀ q, va_A ([aJ y jq 1 jo] ++ [kX11 h (a 0) (a 2) (a 16) (a 30) (a 44) (a 46) Z0, kX7 (a 16) (a 17) (a 19) (a 20) (a 26) (a 28) (z 0), kX3 (a 17) (a 18) (z 1), kX1 (a 19) (z 3), kX8 (a 20) (a 21) (a 22) (a 23) (a 24) (a 25) (z 4), aI y (a 21) 20 (z 5), aI y (a 22) 20 (z 6), aI y (a 23) 20 (z 7), aI y (a 24) 20 (z 8), aI y (a 25) 20 o]) H.size q → s.heap.size ≤ q := F_r (D_perm hpm hD) hS hA
    refine cl_LP (fun u : (Nat → Int32) => ((lwE y h a jq mh w x9 ft z u zc oc x2 ad fl sd (vp_updL jo 0 (s_X11_proposal_r v1 v2 z).toInt64) X fR fr f g fd fk fz o2) ++ ((kW y ad zk ok 14) ++ (kW y sd zs os 2)))) hpm (fun u => qm0 (T := (kW y ad zk ok 14) ++ (kW y sd zs os 2)) (pr_18 y h a jq mh w x9 ft z u zc oc x2 ad fl sd (vp_updL jo 0 (s_X11_proposal_r v1 v2 z).toInt64) X fR fr f g fd fk fz o2)) (vx_runSX (As := [.ref h, .int v1, .int v2, .ref jq]) (rest := []) ⟨hx, hb, hml, hown, hts⟩ (c_L_proposal_y l G y h v1 v2 (a 0) (a 2) (a 16) (a 30) (a 44) (a 46) (a 17) (a 19) (a 20) (a 26) (a 28) z (a 18) (a 21) (a 22) (a 23) (a 24) (a 25) o jq jo H.size (wf_w hW) hk hfl) (vx_cwSW 4 hts gL_law_L_proposal rfl rfl rfl (by decide +kernel) ⟨Nat.le_of_ble_eq_true rfl, Nat.le_of_ble_eq_true rfl⟩) (PHL_S hPc hK hN hDc hTY hS hFc) rfl rfl hl.1 rfl (lv_room (Nat.le_of_ble_eq_true rfl)) dL_law_970 ⟨hkc, hks⟩) hP hD hS hA (fun u H locs hP hD hS => ?_)
    obtain ⟨o_1, rfl⟩ : ∃ zq9, zq9 = u := ⟨_, rfl⟩
    have hP : va_P G vwCl ((lwE y h a jq mh w x9 ft z o_1 zc oc x2 ad fl sd (vp_updL jo 0 (s_X11_proposal_r v1 v2 z).toInt64) X fR fr f g fd fk fz o2) ++ ((kW y ad zk ok 14) ++ (kW y sd zs os 2))) H := hP
    have hD : va_D (fun q : Nat => s.heap.size ≤ q) ((lwE y h a jq mh w x9 ft z o_1 zc oc x2 ad fl sd (vp_updL jo 0 (s_X11_proposal_r v1 v2 z).toInt64) X fR fr f g fd fk fz o2) ++ ((kW y ad zk ok 14) ++ (kW y sd zs os 2))) := hD
    refine lv_istore (lv' := [(5, .int 0), (0, .ref b), (1, .ref h), (2, .ref mh), (3, .ref jq), (4, .int iv)]) hx hb dL_law_973 hl (by decide) rfl (fun ls hl => ?_)
    refine lv_aload_n hx hb dL_law_975 rfl (lv_at hl 3 rfl) ?_
    refine lv_aload_n hx hb dL_law_976 rfl (lv_at hl 1 rfl) ?_
    refine lv_iload hx hb dL_law_977 (lv_at hl 5 rfl) ?_
    refine lv_iconst (v := 1) hx hb dL_law_979 (by decide) ?_
    refine lv_iadd hx hb dL_law_980 ?_
    refine va_sld hx hb hX hbl hbA hS hin1 dL_law_981 ?_
    refine rw_i (x' := v1) hv1 ?_
    refine lv_aload_n hx hb dL_law_982 rfl (lv_at hl 1 rfl) ?_
    refine lv_iload hx hb dL_law_983 (lv_at hl 5 rfl) ?_
    refine lv_iconst (v := 2) hx hb dL_law_985 (by decide) ?_
    refine lv_iadd hx hb dL_law_986 ?_
    refine va_sld hx hb hX hbl hbA hS hin2 dL_law_987 ?_
    refine rw_i (x' := v2) hv2 ?_
    have hpm := qm0 (T := (kW y ad zk ok 14) ++ (kW y sd zs os 2)) (pr_9 y h a jq mh w x9 ft z o_1 zc oc x2 ad fl sd (vp_updL jo 0 (s_X11_proposal_r v1 v2 z).toInt64) X fR fr f g fd fk fz o2)
    have hPc : va_P G vwCl [kX12 mh (w 0) (w 1) (w 2) (w 3) (w 4) (w 5) (w 6) (w 7) X, aI y (w 2) 154 f, aI y (w 7) 20 o2] H := P_r (P_perm hpm hP)
    have hDc : va_D (fun q : Nat => s.heap.size ≤ q) [kX12 mh (w 0) (w 1) (w 2) (w 3) (w 4) (w 5) (w 6) (w 7) X, aI y (w 2) 154 f, aI y (w 7) 20 o2] := D_r (D_perm hpm hD)
    refine cl_MP (fun u : (Nat → Int32) => ((lwE y h a jq mh w x9 ft z o_1 zc oc x2 ad fl sd (vp_updL jo 0 (s_X11_proposal_r v1 v2 z).toInt64) (s_X12_proposal_w0 v1 v2 X) fR fr f g fd fk fz u) ++ ((kW y ad zk ok 14) ++ (kW y sd zs os 2)))) hpm (fun u => qm0 (T := (kW y ad zk ok 14) ++ (kW y sd zs os 2)) (pr_9 y h a jq mh w x9 ft z o_1 zc oc x2 ad fl sd (vp_updL jo 0 (s_X11_proposal_r v1 v2 z).toInt64) (s_X12_proposal_w0 v1 v2 X) fR fr f g fd fk fz u)) (va_runV (As := [.int v1, .int v2]) (rest := []) ⟨hx, hb, hml, hown, hts⟩ (c_X12_proposal l G y mh v1 v2 (w 0) (w 1) (w 2) (w 3) (w 4) (w 5) (w 6) (w 7) X f o2 H.size (wf_16 hW)) (cwV 2 hts gL_law_X12_proposal rfl rfl rfl (by decide +kernel) ⟨Nat.le_of_ble_eq_true rfl, Nat.le_of_ble_eq_true rfl⟩) (PH_V hPc hK4 hN hDc (ci := 10) (q0 := 0) rfl rfl) rfl rfl hl.1 rfl (lv_room (Nat.le_of_ble_eq_true rfl)) dL_law_988 ⟨hkc, hks⟩) hP hD hS hA (fun u H locs hP hD hS => ?_)
    obtain ⟨o_X12, rfl⟩ : ∃ zq9, zq9 = u := ⟨_, rfl⟩
    have hP : va_P G vwCl ((lwE y h a jq mh w x9 ft z o_1 zc oc x2 ad fl sd (vp_updL jo 0 (s_X11_proposal_r v1 v2 z).toInt64) (s_X12_proposal_w0 v1 v2 X) fR fr f g fd fk fz o_X12) ++ ((kW y ad zk ok 14) ++ (kW y sd zs os 2))) H := hP
    have hD : va_D (fun q : Nat => s.heap.size ≤ q) ((lwE y h a jq mh w x9 ft z o_1 zc oc x2 ad fl sd (vp_updL jo 0 (s_X11_proposal_r v1 v2 z).toInt64) (s_X12_proposal_w0 v1 v2 X) fR fr f g fd fk fz o_X12) ++ ((kW y ad zk ok 14) ++ (kW y sd zs os 2))) := hD
    obtain ⟨e1, e2, hW2⟩ := ly_proposal hW hN9 hk
    have hT : s_X12_thrown_r (s_X12_proposal_w0 v1 v2 X) = 0 := (thr_eq _).trans e2
    refine lv_istore (lv' := [(6, .int (s_X12_proposal_r v1 v2 f)), (5, .int 0), (0, .ref b), (1, .ref h), (2, .ref mh), (3, .ref jq), (4, .int iv)]) hx hb dL_law_991 hl (by decide) rfl (fun ls hl => ?_)
    refine lv_aload_n hx hb dL_law_993 rfl (lv_at hl 4 rfl) ?_
    refine cl_Ri (va_runV (As := []) (rest := []) ⟨hx, hb, hml, hown, hts⟩ (c_X12_thrown l G y mh (w 0) (w 1) (w 2) (w 3) (w 4) (w 5) (w 6) (w 7) (s_X12_proposal_w0 v1 v2 X)) (cwV 0 hts gL_law_X12_thrown rfl rfl rfl (by decide +kernel) ⟨Nat.le_of_ble_eq_true rfl, Nat.le_of_ble_eq_true rfl⟩) (PR_V (sel_P [50] (rfl : sel _ [50] = [kX12 mh (w 0) (w 1) (w 2) (w 3) (w 4) (w 5) (w 6) (w 7) (s_X12_proposal_w0 v1 v2 X)]) hP) hK4 hN (ci := 10) (q0 := 0) rfl rfl) rfl rfl hl.1 rfl (lv_room (Nat.le_of_ble_eq_true rfl)) dL_law_994 ⟨hkc, hks⟩) ?_
    refine lv_iload hx hb dL_law_997 (lv_at hl 1 rfl) ?_
    refine lv_icmp_eq (tgt := 1004) hx hb dL_law_999 (by decide) (fun _ => ?_) (fun c9 => absurd hT c9)
    refine lv_iload hx hb dL_law_1004 (lv_at hl 1 rfl) ?_
    refine lv_if_ne (tgt := 1021) hx hb dL_law_1006 (by decide) (fun c9 => absurd rfl c9) (fun _ => ?_)
    refine lv_aload_n hx hb dL_law_1009 rfl (lv_at hl 5 rfl) ?_
    refine lv_iconst (v := 0) hx hb dL_law_1010 (by decide) ?_
    refine al_o hx hb hK 59 hP rfl dL_law_1011 ?_
    refine lv_iload hx hb dL_law_1012 (lv_at hl 0 rfl) ?_
    refine lv_i2l (v := (s_X12_proposal_r v1 v2 f).toInt64) hx hb dL_law_1014 rfl ?_
    refine W.lcmp hx hb dL_law_1015 ?_
    refine lv_if_eq (tgt := 1021) hx hb dL_law_1016 (by decide) (fun _ => ?_) (fun c9 => absurd (lg_o e1) c9)
    refine lv_goto (tgt := 1652) hx hb dL_law_1021 (by decide) ?_
    refine W.widen (k := kc + 1) (n := ks + 6) (by omega) (by omega) ?_
    exact KN H locs ls ⟨x9, ft, z, o_1, zc, oc, x2, ad, zk, ok, fl, sd, zs, os, (vp_updL jo 0 (s_X11_proposal_r v1 v2 z).toInt64), (s_X12_proposal_w0 v1 v2 X), fR, fr, f, g, fd, fk, fz, o_X12, hP, hD, hW2⟩ hS (lv_sub hl [2, 3, 4, 5, 6] rfl)
  · refine lv_aload_n hx hb dL_law_956 rfl (lv_at hl 1 rfl) ?_
    refine lv_aload_n hx hb dL_law_957 rfl (lv_at hl 0 rfl) ?_
    refine lv_iload hx hb dL_law_958 (lv_at hl 4 rfl) ?_
    refine lv_iconst (v := 1) hx hb dL_law_960 (by decide) ?_
    refine lv_iadd hx hb dL_law_961 ?_
    refine va_sld hx hb hX hbl hbA hS hin1 dL_law_962 ?_
    refine rw_i (x' := v1) hv1 ?_
    refine lv_aload_n hx hb dL_law_963 rfl (lv_at hl 0 rfl) ?_
    refine lv_iload hx hb dL_law_964 (lv_at hl 4 rfl) ?_
    refine lv_iconst (v := 2) hx hb dL_law_966 (by decide) ?_
    refine lv_iadd hx hb dL_law_967 ?_
    refine va_sld hx hb hX hbl hbA hS hin2 dL_law_968 ?_
    refine rw_i (x' := v2) hv2 ?_
    refine lv_aload_n hx hb dL_law_969 rfl (lv_at hl 3 rfl) ?_
    have hpm := qm0 (T := (kW y ad zk ok 14) ++ (kW y sd zs os 2)) (pr_18 y h a jq mh w x9 ft z o zc oc x2 ad fl sd jo X fR fr f g fd fk fz o2)
    have hPc : va_P G vwCl ([aJ y jq 1 jo] ++ [kX11 h (a 0) (a 2) (a 16) (a 30) (a 44) (a 46) Z0, kX7 (a 16) (a 17) (a 19) (a 20) (a 26) (a 28) (z 0), kX3 (a 17) (a 18) (z 1), kX1 (a 19) (z 3), kX8 (a 20) (a 21) (a 22) (a 23) (a 24) (a 25) (z 4), aI y (a 21) 20 (z 5), aI y (a 22) 20 (z 6), aI y (a 23) 20 (z 7), aI y (a 24) 20 (z 8), aI y (a 25) 20 o]) H := P_r (P_perm hpm hP)
    have hDc : va_D (fun q : Nat => s.heap.size ≤ q) ([aJ y jq 1 jo] ++ [kX11 h (a 0) (a 2) (a 16) (a 30) (a 44) (a 46) Z0, kX7 (a 16) (a 17) (a 19) (a 20) (a 26) (a 28) (z 0), kX3 (a 17) (a 18) (z 1), kX1 (a 19) (z 3), kX8 (a 20) (a 21) (a 22) (a 23) (a 24) (a 25) (z 4), aI y (a 21) 20 (z 5), aI y (a 22) 20 (z 6), aI y (a 23) 20 (z 7), aI y (a 24) 20 (z 8), aI y (a 25) 20 o]) := D_r (D_perm hpm hD)
    have hFc : ∀ q, va_A ([aJ y jq 1 jo] ++ [kX11 h (a 0) (a 2) (a 16) (a 30) (a 44) (a 46) Z0, kX7 (a 16) (a 17) (a 19) (a 20) (a 26) (a 28) (z 0), kX3 (a 17) (a 18) (z 1), kX1 (a 19) (z 3), kX8 (a 20) (a 21) (a 22) (a 23) (a 24) (a 25) (z 4), aI y (a 21) 20 (z 5), aI y (a 22) 20 (z 6), aI y (a 23) 20 (z 7), aI y (a 24) 20 (z 8), aI y (a 25) 20 o]) H.size q → s.heap.size ≤ q := F_r (D_perm hpm hD) hS hA
    refine cl_LP (fun u : (Nat → Int32) => ((lwE y h a jq mh w x9 ft z u zc oc x2 ad fl sd jo X fR fr f g fd fk fz o2) ++ ((kW y ad zk ok 14) ++ (kW y sd zs os 2)))) hpm (fun u => qm0 (T := (kW y ad zk ok 14) ++ (kW y sd zs os 2)) (pr_18 y h a jq mh w x9 ft z u zc oc x2 ad fl sd jo X fR fr f g fd fk fz o2)) (vx_runSX (As := [.ref h, .int v1, .int v2, .ref jq]) (rest := []) ⟨hx, hb, hml, hown, hts⟩ (c_L_proposal_n l G y h v1 v2 (a 0) (a 2) (a 16) (a 30) (a 44) (a 46) (a 17) (a 19) (a 20) (a 26) (a 28) z (a 18) (a 21) (a 22) (a 23) (a 24) (a 25) o jq jo H.size (wf_w hW) hk hfl) (vx_cwSW 4 hts gL_law_L_proposal rfl rfl rfl (by decide +kernel) ⟨Nat.le_of_ble_eq_true rfl, Nat.le_of_ble_eq_true rfl⟩) (PHL_S hPc hK hN hDc hTY hS hFc) rfl rfl hl.1 rfl (lv_room (Nat.le_of_ble_eq_true rfl)) dL_law_970 ⟨hkc, hks⟩) hP hD hS hA (fun u H locs hP hD hS => ?_)
    obtain ⟨o_1, rfl⟩ : ∃ zq9, zq9 = u := ⟨_, rfl⟩
    have hP : va_P G vwCl ((lwE y h a jq mh w x9 ft z o_1 zc oc x2 ad fl sd jo X fR fr f g fd fk fz o2) ++ ((kW y ad zk ok 14) ++ (kW y sd zs os 2))) H := hP
    have hD : va_D (fun q : Nat => s.heap.size ≤ q) ((lwE y h a jq mh w x9 ft z o_1 zc oc x2 ad fl sd jo X fR fr f g fd fk fz o2) ++ ((kW y ad zk ok 14) ++ (kW y sd zs os 2))) := hD
    refine lv_istore (lv' := [(5, .int (cdK 3 (s_X11_proposal_k v1 v2))), (0, .ref b), (1, .ref h), (2, .ref mh), (3, .ref jq), (4, .int iv)]) hx hb dL_law_973 hl (by decide) rfl (fun ls hl => ?_)
    refine lv_aload_n hx hb dL_law_975 rfl (lv_at hl 3 rfl) ?_
    refine lv_aload_n hx hb dL_law_976 rfl (lv_at hl 1 rfl) ?_
    refine lv_iload hx hb dL_law_977 (lv_at hl 5 rfl) ?_
    refine lv_iconst (v := 1) hx hb dL_law_979 (by decide) ?_
    refine lv_iadd hx hb dL_law_980 ?_
    refine va_sld hx hb hX hbl hbA hS hin1 dL_law_981 ?_
    refine rw_i (x' := v1) hv1 ?_
    refine lv_aload_n hx hb dL_law_982 rfl (lv_at hl 1 rfl) ?_
    refine lv_iload hx hb dL_law_983 (lv_at hl 5 rfl) ?_
    refine lv_iconst (v := 2) hx hb dL_law_985 (by decide) ?_
    refine lv_iadd hx hb dL_law_986 ?_
    refine va_sld hx hb hX hbl hbA hS hin2 dL_law_987 ?_
    refine rw_i (x' := v2) hv2 ?_
    have hpm := qm0 (T := (kW y ad zk ok 14) ++ (kW y sd zs os 2)) (pr_9 y h a jq mh w x9 ft z o_1 zc oc x2 ad fl sd jo X fR fr f g fd fk fz o2)
    have hPc : va_P G vwCl [kX12 mh (w 0) (w 1) (w 2) (w 3) (w 4) (w 5) (w 6) (w 7) X, aI y (w 2) 154 f, aI y (w 7) 20 o2] H := P_r (P_perm hpm hP)
    have hDc : va_D (fun q : Nat => s.heap.size ≤ q) [kX12 mh (w 0) (w 1) (w 2) (w 3) (w 4) (w 5) (w 6) (w 7) X, aI y (w 2) 154 f, aI y (w 7) 20 o2] := D_r (D_perm hpm hD)
    refine cl_MP (fun u : (Nat → Int32) => ((lwE y h a jq mh w x9 ft z o_1 zc oc x2 ad fl sd jo (s_X12_proposal_w0 v1 v2 X) fR fr f g fd fk fz u) ++ ((kW y ad zk ok 14) ++ (kW y sd zs os 2)))) hpm (fun u => qm0 (T := (kW y ad zk ok 14) ++ (kW y sd zs os 2)) (pr_9 y h a jq mh w x9 ft z o_1 zc oc x2 ad fl sd jo (s_X12_proposal_w0 v1 v2 X) fR fr f g fd fk fz u)) (va_runV (As := [.int v1, .int v2]) (rest := []) ⟨hx, hb, hml, hown, hts⟩ (c_X12_proposal l G y mh v1 v2 (w 0) (w 1) (w 2) (w 3) (w 4) (w 5) (w 6) (w 7) X f o2 H.size (wf_16 hW)) (cwV 2 hts gL_law_X12_proposal rfl rfl rfl (by decide +kernel) ⟨Nat.le_of_ble_eq_true rfl, Nat.le_of_ble_eq_true rfl⟩) (PH_V hPc hK4 hN hDc (ci := 10) (q0 := 0) rfl rfl) rfl rfl hl.1 rfl (lv_room (Nat.le_of_ble_eq_true rfl)) dL_law_988 ⟨hkc, hks⟩) hP hD hS hA (fun u H locs hP hD hS => ?_)
    obtain ⟨o_X12, rfl⟩ : ∃ zq9, zq9 = u := ⟨_, rfl⟩
    have hP : va_P G vwCl ((lwE y h a jq mh w x9 ft z o_1 zc oc x2 ad fl sd jo (s_X12_proposal_w0 v1 v2 X) fR fr f g fd fk fz o_X12) ++ ((kW y ad zk ok 14) ++ (kW y sd zs os 2))) H := hP
    have hD : va_D (fun q : Nat => s.heap.size ≤ q) ((lwE y h a jq mh w x9 ft z o_1 zc oc x2 ad fl sd jo (s_X12_proposal_w0 v1 v2 X) fR fr f g fd fk fz o_X12) ++ ((kW y ad zk ok 14) ++ (kW y sd zs os 2))) := hD
    obtain ⟨e2, hW2⟩ := ln_proposal hW hk
    have hT : s_X12_thrown_r (s_X12_proposal_w0 v1 v2 X) = cdK 3 (s_X11_proposal_k v1 v2) := (thr_eq _).trans e2
    refine lv_istore (lv' := [(6, .int (s_X12_proposal_r v1 v2 f)), (5, .int (cdK 3 (s_X11_proposal_k v1 v2))), (0, .ref b), (1, .ref h), (2, .ref mh), (3, .ref jq), (4, .int iv)]) hx hb dL_law_991 hl (by decide) rfl (fun ls hl => ?_)
    refine lv_aload_n hx hb dL_law_993 rfl (lv_at hl 4 rfl) ?_
    refine cl_Ri (va_runV (As := []) (rest := []) ⟨hx, hb, hml, hown, hts⟩ (c_X12_thrown l G y mh (w 0) (w 1) (w 2) (w 3) (w 4) (w 5) (w 6) (w 7) (s_X12_proposal_w0 v1 v2 X)) (cwV 0 hts gL_law_X12_thrown rfl rfl rfl (by decide +kernel) ⟨Nat.le_of_ble_eq_true rfl, Nat.le_of_ble_eq_true rfl⟩) (PR_V (sel_P [50] (rfl : sel _ [50] = [kX12 mh (w 0) (w 1) (w 2) (w 3) (w 4) (w 5) (w 6) (w 7) (s_X12_proposal_w0 v1 v2 X)]) hP) hK4 hN (ci := 10) (q0 := 0) rfl rfl) rfl rfl hl.1 rfl (lv_room (Nat.le_of_ble_eq_true rfl)) dL_law_994 ⟨hkc, hks⟩) ?_
    refine lv_iload hx hb dL_law_997 (lv_at hl 1 rfl) ?_
    refine lv_icmp_eq (tgt := 1004) hx hb dL_law_999 (by decide) (fun _ => ?_) (fun c9 => absurd hT c9)
    refine lv_iload hx hb dL_law_1004 (lv_at hl 1 rfl) ?_
    refine lv_if_ne (tgt := 1021) hx hb dL_law_1006 (by decide) (fun _ => ?_) (fun c9 => absurd c9 (cd_n hk))
    refine lv_goto (tgt := 1652) hx hb dL_law_1021 (by decide) ?_
    refine W.widen (k := kc + 1) (n := ks + 6) (by omega) (by omega) ?_
    exact KN H locs ls ⟨x9, ft, z, o_1, zc, oc, x2, ad, zk, ok, fl, sd, zs, os, jo, (s_X12_proposal_w0 v1 v2 X), fR, fr, f, g, fd, fk, fz, o_X12, hP, hD, hW2⟩ hS (lv_sub hl [2, 3, 4, 5, 6] rfl)

/-- bounds far below what the claim's room holds: whichever room the claim was made with, so long as it holds as much -/
theorem roomC9 {n : Nat} (h : n ≤ 10000) : n ≤ room_1.cells := Nat.le_trans h (Nat.le_of_ble_eq_true rfl)
theorem roomS9 {n : Nat} (h : n ≤ 60000) : n ≤ room_1.slots := Nat.le_trans h (Nat.le_of_ble_eq_true rfl)
set_option maxHeartbeats 4000000 in
set_option maxRecDepth 100000 in
theorem law_loop {p : Program} {l : Launch} {e : Env} {s : State} {m : MethodId} {below : List Frame} {meth : Method} {c : Code} {b L : Nat} {xs : Nat → Int32} {G : va_G} {y : Nat → ClassId} {h : Nat} {a : Nat → Nat} {jq mh : Nat} {w : Nat → Nat} (hfl : l.stackTraces = false) (hL : L ≤ 2048) (C0 : lw_At p s m meth c b L xs) (hK : va_K G vwCl (tyJ y) s) (hN : NN s) (hTY : TY (fun q : Nat => s.heap.size ≤ q) s) : ∀ (n i : Nat) (iv : Int32) (N kc ks : Nat) (H : Heap) (locs : List Loc) (ls : Array Slot), iv = nI i → i ≤ L → L + 1 ≤ i + n → N ≤ 200 * i → kc ≤ 300 + i → ks ≤ 7000 + 6 * i → LI G y h a jq mh w (fun q : Nat => s.heap.size ≤ q) N H → va_S (fun q : Nat => s.heap.size ≤ q) s.heap H locs → lv_has ls 7 [(0, .ref b), (1, .ref h), (2, .ref mh), (3, .ref jq), (4, .int iv)] → W p l e room_1 s m #[Value.ref b] below meth c H locs kc ks (lw_Z below #[Value.ref b] s) (F0 m 23 ls []) := by
  obtain ⟨hx, hb, hr, hml, hown, hts, hX, hbl, hlocks, hgv⟩ := id C0
  have hbA : ¬ (fun q : Nat => s.heap.size ≤ q) b := Nat.not_le.mpr hbl
  intro n
  induction n with
  | zero =>
    intro i iv N kc ks H locs ls e0 h1 h2
    exact absurd h2 (by omega)
  | succ n ih =>
    intro i iv N kc ks H locs ls e0 hi hn hN9 hkc hks hI hS hl
    refine lv_iload hx hb dL_law_23 (lv_at hl 4 rfl) ?_
    refine lv_aload_n hx hb dL_law_25 rfl (lv_at hl 0 rfl) ?_
    refine va_slen hx hb hX hbl hbA hS dL_law_26 ?_
    refine lv_iconst (v := 4) hx hb dL_law_27 (by decide) ?_
    refine lv_isub hx hb dL_law_28 ?_
    refine lv_icmp_gt (tgt := 1658) hx hb dL_law_29 (by decide) (fun _ => ?_) (fun cg => ?_)
    · refine lv_iconst (v := 1) hx hb dL_law_1658 (by decide) ?_
      refine va_forget (fun q hq => hS.2.2 q hq) ?_
      refine W.widen (k := room_1.cells) (n := room_1.slots) (roomC9 (show kc ≤ 10000 by omega)) (roomS9 (show ks ≤ 60000 by omega)) ?_
      exact lw_ret hx hb hr hlocks dL_law_1659
    · have h4 : i + 4 ≤ L := lp_le hL (by omega) (by rw [← e0]; exact cg)
      have hin0 : vp_in iv L := by rw [e0]; exact vp_in_nI (by omega) (by omega)
      have hin1 : vp_in (iv + 1) L := by rw [e0, show nI i + 1 = nI (i + 1) from nI_add i 1]; exact vp_in_nI (by omega) (by omega)
      have hin2 : vp_in (iv + 2) L := by rw [e0, show nI i + 2 = nI (i + 2) from nI_add i 2]; exact vp_in_nI (by omega) (by omega)
      have hin3 : vp_in (iv + 3) L := by rw [e0, show nI i + 3 = nI (i + 3) from nI_add i 3]; exact vp_in_nI (by omega) (by omega)
      have KN : ∀ (H : Heap) (locs : List Loc) (ls : Array Slot), LI G y h a jq mh w (fun q : Nat => s.heap.size ≤ q) (N + 200) H → va_S (fun q : Nat => s.heap.size ≤ q) s.heap H locs → lv_has ls 7 [(0, .ref b), (1, .ref h), (2, .ref mh), (3, .ref jq), (4, .int iv)] → W p l e room_1 s m #[Value.ref b] below meth c H locs (kc + 1) (ks + 6) (lw_Z below #[Value.ref b] s) (F0 m 1652 ls []) := by
        intro H locs ls hI hS hl
        refine lv_iinc (v := iv + 4) (lv' := [(4, .int (iv + 4)), (0, .ref b), (1, .ref h), (2, .ref mh), (3, .ref jq)]) hx hb dL_law_1652 hl (k := 4) rfl (by first | rfl | decide) (by decide) rfl (fun ls hl => ?_)
        refine lv_goto (tgt := 23) hx hb dL_law_1655 (by decide) ?_
        exact ih (i + 4) (iv + 4) (N + 200) (kc + 1) (ks + 6) H locs ls (by rw [e0]; exact nI_add i 4) h4 (by omega) (by omega) (by omega) (by omega) hI hS (lv_sub hl [1, 2, 3, 4, 0] rfl)
      refine lv_aload_n hx hb dL_law_32 rfl (lv_at hl 0 rfl) ?_
      refine lv_iload hx hb dL_law_33 (lv_at hl 4 rfl) ?_
      refine va_sld hx hb hX hbl hbA hS hin0 dL_law_35 ?_
      refine lv_bipush (v := 31) hx hb dL_law_36 (by decide) ?_
      refine lv_iand hx hb dL_law_38 ?_
      obtain ⟨x9, hx9⟩ : ∃ zq9, zq9 = xs iv.toNatClampNeg &&& 31 := ⟨_, rfl⟩
      refine rw_i (x' := x9) hx9.symm ?_
      rcases Decidable.em (x9 = 0) with c0 | c0
      · refine lv_tableIn (tgt := 160) hx hb dL_law_39 (by rw [c0]; decide) (by rw [c0]; decide) (by rw [c0]; first | done | rfl) (by decide) ?_
        exact case_0 hfl C0 hK hN hTY hin1 hin2 hin3 rfl rfl rfl (roomC9 (by omega)) (roomS9 (by omega)) (by omega) hI hS hl KN
      rcases Decidable.em (x9 = 1) with c1 | c1
      · refine lv_tableIn (tgt := 216) hx hb dL_law_39 (by rw [c1]; decide) (by rw [c1]; decide) (by rw [c1]; first | done | rfl) (by decide) ?_
        exact case_1 hfl C0 hK hN hTY hin1 hin2 hin3 rfl rfl rfl (roomC9 (by omega)) (roomS9 (by omega)) (by omega) hI hS hl KN
      rcases Decidable.em (x9 = 2) with c2 | c2
      · refine lv_tableIn (tgt := 229) hx hb dL_law_39 (by rw [c2]; decide) (by rw [c2]; decide) (by rw [c2]; first | done | rfl) (by decide) ?_
        exact case_2 hfl C0 hK hN hTY hin1 hin2 hin3 rfl rfl rfl (roomC9 (by omega)) (roomS9 (by omega)) (by omega) hI hS hl KN
      rcases Decidable.em (x9 = 3) with c3 | c3
      · refine lv_tableIn (tgt := 242) hx hb dL_law_39 (by rw [c3]; decide) (by rw [c3]; decide) (by rw [c3]; first | done | rfl) (by decide) ?_
        exact case_3 hfl C0 hK hN hTY hin1 hin2 hin3 rfl rfl rfl (roomC9 (by omega)) (roomS9 (by omega)) (by omega) hI hS hl KN
      rcases Decidable.em (x9 = 4) with c4 | c4
      · refine lv_tableIn (tgt := 286) hx hb dL_law_39 (by rw [c4]; decide) (by rw [c4]; decide) (by rw [c4]; first | done | rfl) (by decide) ?_
        exact case_4 hfl C0 hK hN hTY hin1 hin2 hin3 rfl rfl rfl (roomC9 (by omega)) (roomS9 (by omega)) (by omega) hI hS hl KN
      rcases Decidable.em (x9 = 5) with c5 | c5
      · refine lv_tableIn (tgt := 342) hx hb dL_law_39 (by rw [c5]; decide) (by rw [c5]; decide) (by rw [c5]; first | done | rfl) (by decide) ?_
        exact case_5 hfl C0 hK hN hTY hin1 hin2 hin3 rfl rfl rfl (roomC9 (by omega)) (roomS9 (by omega)) (by omega) hI hS hl KN
      rcases Decidable.em (x9 = 6) with c6 | c6
      · refine lv_tableIn (tgt := 410) hx hb dL_law_39 (by rw [c6]; decide) (by rw [c6]; decide) (by rw [c6]; first | done | rfl) (by decide) ?_
        exact case_6 hfl C0 hK hN hTY hin1 hin2 hin3 rfl rfl rfl (roomC9 (by omega)) (roomS9 (by omega)) (by omega) hI hS hl KN
      rcases Decidable.em (x9 = 7) with c7 | c7
      · refine lv_tableIn (tgt := 466) hx hb dL_law_39 (by rw [c7]; decide) (by rw [c7]; decide) (by rw [c7]; first | done | rfl) (by decide) ?_
        exact case_7 hfl C0 hK hN hTY hin1 hin2 hin3 rfl rfl rfl (roomC9 (by omega)) (roomS9 (by omega)) (by omega) hI hS hl KN
      rcases Decidable.em (x9 = 8) with c8 | c8
      · refine lv_tableIn (tgt := 522) hx hb dL_law_39 (by rw [c8]; decide) (by rw [c8]; decide) (by rw [c8]; first | done | rfl) (by decide) ?_
        exact case_8 hfl C0 hK hN hTY hin1 hin2 hin3 rfl rfl rfl (roomC9 (by omega)) (roomS9 (by omega)) (by omega) hI hS hl KN
      rcases Decidable.em (x9 = 9) with c9 | c9
      · refine lv_tableIn (tgt := 578) hx hb dL_law_39 (by rw [c9]; decide) (by rw [c9]; decide) (by rw [c9]; first | done | rfl) (by decide) ?_
        exact case_9 hfl C0 hK hN hTY hin1 hin2 hin3 rfl rfl rfl (roomC9 (by omega)) (roomS9 (by omega)) (by omega) hI hS hl KN
      rcases Decidable.em (x9 = 10) with c10 | c10
      · refine lv_tableIn (tgt := 646) hx hb dL_law_39 (by rw [c10]; decide) (by rw [c10]; decide) (by rw [c10]; first | done | rfl) (by decide) ?_
        exact case_10 hfl C0 hK hN hTY hin1 hin2 hin3 rfl rfl rfl (roomC9 (by omega)) (roomS9 (by omega)) (by omega) hI hS hl KN
      rcases Decidable.em (x9 = 11) with c11 | c11
      · refine lv_tableIn (tgt := 702) hx hb dL_law_39 (by rw [c11]; decide) (by rw [c11]; decide) (by rw [c11]; first | done | rfl) (by decide) ?_
        exact case_11 hfl C0 hK hN hTY hin1 hin2 hin3 rfl rfl rfl (roomC9 (by omega)) (roomS9 (by omega)) (by omega) hI hS hl KN
      rcases Decidable.em (x9 = 12) with c12 | c12
      · refine lv_tableIn (tgt := 758) hx hb dL_law_39 (by rw [c12]; decide) (by rw [c12]; decide) (by rw [c12]; first | done | rfl) (by decide) ?_
        exact case_12 hfl C0 hK hN hTY hin1 hin2 hin3 rfl rfl rfl (roomC9 (by omega)) (roomS9 (by omega)) (by omega) hI hS hl KN
      rcases Decidable.em (x9 = 13) with c13 | c13
      · refine lv_tableIn (tgt := 814) hx hb dL_law_39 (by rw [c13]; decide) (by rw [c13]; decide) (by rw [c13]; first | done | rfl) (by decide) ?_
        exact case_13 hfl C0 hK hN hTY hin1 hin2 hin3 rfl rfl rfl (roomC9 (by omega)) (roomS9 (by omega)) (by omega) hI hS hl KN
      rcases Decidable.em (x9 = 14) with c14 | c14
      · refine lv_tableIn (tgt := 858) hx hb dL_law_39 (by rw [c14]; decide) (by rw [c14]; decide) (by rw [c14]; first | done | rfl) (by decide) ?_
        exact case_14 hfl C0 hK hN hTY hin1 hin2 hin3 rfl rfl rfl (roomC9 (by omega)) (roomS9 (by omega)) (by omega) hI hS hl KN
      rcases Decidable.em (x9 = 15) with c15 | c15
      · refine lv_tableIn (tgt := 871) hx hb dL_law_39 (by rw [c15]; decide) (by rw [c15]; decide) (by rw [c15]; first | done | rfl) (by decide) ?_
        exact case_15 hfl C0 hK hN hTY hin1 hin2 hin3 rfl rfl rfl (roomC9 (by omega)) (roomS9 (by omega)) (by omega) hI hS hl KN
      rcases Decidable.em (x9 = 16) with c16 | c16
      · refine lv_tableIn (tgt := 915) hx hb dL_law_39 (by rw [c16]; decide) (by rw [c16]; decide) (by rw [c16]; first | done | rfl) (by decide) ?_
        exact case_16 hfl C0 hK hN hTY hin1 hin2 hin3 rfl rfl rfl (roomC9 (by omega)) (roomS9 (by omega)) (by omega) hI hS hl KN
      rcases Decidable.em (x9 = 17) with c17 | c17
      · refine lv_tableIn (tgt := 956) hx hb dL_law_39 (by rw [c17]; decide) (by rw [c17]; decide) (by rw [c17]; first | done | rfl) (by decide) ?_
        exact case_17 hfl C0 hK hN hTY hin1 hin2 hin3 rfl rfl rfl (roomC9 (by omega)) (roomS9 (by omega)) (by omega) hI hS hl KN
      rcases Decidable.em (x9 = 18) with c18 | c18
      · refine lv_tableIn (tgt := 1024) hx hb dL_law_39 (by rw [c18]; decide) (by rw [c18]; decide) (by rw [c18]; first | done | rfl) (by decide) ?_
        exact case_18 hfl C0 hK hN hTY hin1 hin2 hin3 rfl rfl rfl (roomC9 (by omega)) (roomS9 (by omega)) (by omega) hI hS hl KN
      rcases Decidable.em (x9 = 19) with c19 | c19
      · refine lv_tableIn (tgt := 1080) hx hb dL_law_39 (by rw [c19]; decide) (by rw [c19]; decide) (by rw [c19]; first | done | rfl) (by decide) ?_
        exact case_19 hfl C0 hK hN hTY hin1 hin2 hin3 rfl rfl rfl (roomC9 (by omega)) (roomS9 (by omega)) (by omega) hI hS hl KN
      rcases Decidable.em (x9 = 20) with c20 | c20
      · refine lv_tableIn (tgt := 1148) hx hb dL_law_39 (by rw [c20]; decide) (by rw [c20]; decide) (by rw [c20]; first | done | rfl) (by decide) ?_
        exact case_20 hfl C0 hK hN hTY hin1 hin2 hin3 rfl rfl rfl (roomC9 (by omega)) (roomS9 (by omega)) (by omega) hI hS hl KN
      rcases Decidable.em (x9 = 21) with c21 | c21
      · refine lv_tableIn (tgt := 1228) hx hb dL_law_39 (by rw [c21]; decide) (by rw [c21]; decide) (by rw [c21]; first | done | rfl) (by decide) ?_
        exact case_21 hfl C0 hK hN hTY hin1 hin2 hin3 rfl rfl rfl (roomC9 (by omega)) (roomS9 (by omega)) (by omega) hI hS hl KN
      rcases Decidable.em (x9 = 22) with c22 | c22
      · refine lv_tableIn (tgt := 1284) hx hb dL_law_39 (by rw [c22]; decide) (by rw [c22]; decide) (by rw [c22]; first | done | rfl) (by decide) ?_
        exact case_22 hfl C0 hK hN hTY hin1 hin2 hin3 rfl rfl rfl (roomC9 (by omega)) (roomS9 (by omega)) (by omega) hI hS hl KN
      rcases Decidable.em (x9 = 23) with c23 | c23
      · refine lv_tableIn (tgt := 1340) hx hb dL_law_39 (by rw [c23]; decide) (by rw [c23]; decide) (by rw [c23]; first | done | rfl) (by decide) ?_
        exact case_23 hfl C0 hK hN hTY hin1 hin2 hin3 rfl rfl rfl (roomC9 (by omega)) (roomS9 (by omega)) (by omega) hI hS hl KN
      rcases Decidable.em (x9 = 24) with c24 | c24
      · refine lv_tableIn (tgt := 1440) hx hb dL_law_39 (by rw [c24]; decide) (by rw [c24]; decide) (by rw [c24]; first | done | rfl) (by decide) ?_
        exact case_24 hfl C0 hK hN hTY hin1 hin2 hin3 rfl rfl rfl (roomC9 (by omega)) (roomS9 (by omega)) (by omega) hI hS hl KN
      rcases Decidable.em (x9 = 25) with c25 | c25
      · refine lv_tableIn (tgt := 1540) hx hb dL_law_39 (by rw [c25]; decide) (by rw [c25]; decide) (by rw [c25]; first | done | rfl) (by decide) ?_
        exact case_25 hfl C0 hK hN hTY hin1 hin2 hin3 rfl rfl rfl (roomC9 (by omega)) (roomS9 (by omega)) (by omega) hI hS hl KN
      rcases Decidable.em (x9 = 26) with c26 | c26
      · refine lv_tableIn (tgt := 1596) hx hb dL_law_39 (by rw [c26]; decide) (by rw [c26]; decide) (by rw [c26]; first | done | rfl) (by decide) ?_
        exact case_26 hfl C0 hK hN hTY hin1 hin2 hin3 rfl rfl rfl (roomC9 (by omega)) (roomS9 (by omega)) (by omega) hI hS hl KN
      refine lv_tableOut (tgt := 1652) hx hb dL_law_39 (by have e0 : x9.toInt ≠ 0 := fun h => c0 (Int32.toInt_inj.mp h); have e1 : x9.toInt ≠ 1 := fun h => c1 (Int32.toInt_inj.mp h); have e2 : x9.toInt ≠ 2 := fun h => c2 (Int32.toInt_inj.mp h); have e3 : x9.toInt ≠ 3 := fun h => c3 (Int32.toInt_inj.mp h); have e4 : x9.toInt ≠ 4 := fun h => c4 (Int32.toInt_inj.mp h); have e5 : x9.toInt ≠ 5 := fun h => c5 (Int32.toInt_inj.mp h); have e6 : x9.toInt ≠ 6 := fun h => c6 (Int32.toInt_inj.mp h); have e7 : x9.toInt ≠ 7 := fun h => c7 (Int32.toInt_inj.mp h); have e8 : x9.toInt ≠ 8 := fun h => c8 (Int32.toInt_inj.mp h); have e9 : x9.toInt ≠ 9 := fun h => c9 (Int32.toInt_inj.mp h); have e10 : x9.toInt ≠ 10 := fun h => c10 (Int32.toInt_inj.mp h); have e11 : x9.toInt ≠ 11 := fun h => c11 (Int32.toInt_inj.mp h); have e12 : x9.toInt ≠ 12 := fun h => c12 (Int32.toInt_inj.mp h); have e13 : x9.toInt ≠ 13 := fun h => c13 (Int32.toInt_inj.mp h); have e14 : x9.toInt ≠ 14 := fun h => c14 (Int32.toInt_inj.mp h); have e15 : x9.toInt ≠ 15 := fun h => c15 (Int32.toInt_inj.mp h); have e16 : x9.toInt ≠ 16 := fun h => c16 (Int32.toInt_inj.mp h); have e17 : x9.toInt ≠ 17 := fun h => c17 (Int32.toInt_inj.mp h); have e18 : x9.toInt ≠ 18 := fun h => c18 (Int32.toInt_inj.mp h); have e19 : x9.toInt ≠ 19 := fun h => c19 (Int32.toInt_inj.mp h); have e20 : x9.toInt ≠ 20 := fun h => c20 (Int32.toInt_inj.mp h); have e21 : x9.toInt ≠ 21 := fun h => c21 (Int32.toInt_inj.mp h); have e22 : x9.toInt ≠ 22 := fun h => c22 (Int32.toInt_inj.mp h); have e23 : x9.toInt ≠ 23 := fun h => c23 (Int32.toInt_inj.mp h); have e24 : x9.toInt ≠ 24 := fun h => c24 (Int32.toInt_inj.mp h); have e25 : x9.toInt ≠ 25 := fun h => c25 (Int32.toInt_inj.mp h); have e26 : x9.toInt ≠ 26 := fun h => c26 (Int32.toInt_inj.mp h); omega) (by decide) ?_
      exact W.widen (k := kc + 1) (n := ks + 6) (by omega) (by omega) (KN H locs ls (hI.mono (by omega)) hS hl)

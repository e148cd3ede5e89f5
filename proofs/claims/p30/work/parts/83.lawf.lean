def swF : List Cond := nestF.map (fun q => .fieldLinkNest q.1 q.2.1 q.2.2.1 q.2.2.2.1 q.2.2.2.2 "RelayTuner")
set_option maxRecDepth 20000 in
theorem swF_in : ∀ w ∈ swF, w ∈ lw_tbl := mem_fm [296, 294, 157, 301, 172, 162, 299, 250, 326, 287, 266, 210, 55, 291, 122, 289, 120, 298, 248, 249, 265, 151, 270, 272, 158, 161, 165, 168, 105, 108, 111, 114, 117, 171, 121, 174, 176, 209, 290, 106, 109, 112, 118, 115, 123, 293, 152, 154, 156, 160, 164, 167, 170] (by decide +kernel)
def swM : List Cond := nestM.map (fun q => .methodLinkNest q.1 q.2.1 q.2.2 "RelayTuner")
set_option maxRecDepth 20000 in
theorem swM_in : ∀ w ∈ swM, w ∈ lw_tbl := mem_fm [94, 49, 794, 323, 812, 339, 608, 777, 100, 713, 854, 874, 904, 146, 204, 243, 259] (by decide +kernel)
def swS : List Cond := strL.map (fun q => .stringRef "RelayTuner" q.1 q.2)
set_option maxRecDepth 20000 in
theorem swS_in : ∀ w ∈ swS, w ∈ lw_tbl := mem_fm [654, 659, 680, 462, 748, 749, 732, 772, 700, 848, 869, 894, 899, 943, 535, 959, 968, 983, 1022, 1030, 1035, 1061, 597, 622] (by decide +kernel)
def swC : List Cond := exL.map (fun q => .castable q q)
set_option maxRecDepth 20000 in
theorem swC_in : ∀ w ∈ swC, w ∈ lw_tbl := mem_fm [423, 528, 590] (by decide +kernel)
def swD : List Cond := deL.map (fun q => .declares q)
set_option maxRecDepth 20000 in
theorem swD_in : ∀ w ∈ swD, w ∈ lw_tbl := mem_fm [425, 427, 429] (by decide +kernel)
def swX : List Cond := [.laysStatic Bundle.tN "UNASSIGNED_STACK" Bundle.steD, .laysStatic Bundle.tN "SUPPRESSED_SENTINEL" Bundle.listD, .initialized Bundle.tN, .arrayOver (.object "RelayTuner$State"), .arrayClass .int, .arrayClass .char, .arrayClass .boolean, .instantiable RX0 6, .instantiable RX1 11, .instantiable RX2 2, .instantiable RX3 8, .instantiable RX6 2, .instantiable RX7 6, .instantiable RX8 10, .instantiable RX9 12, .instantiable RX10 2, .instantiable RX11 6, .initialized RX11, .classLink RL 8 RX11, .methodLink RL 264 yX11_init, .instanceMethod yX11_init]
set_option maxRecDepth 20000 in
theorem swX_in : ∀ w ∈ swX, w ∈ lw_tbl := mem_fm [448, 450, 28, 322, 143, 91, 347, 258, 145, 316, 99, 333, 93, 203, 48, 242, 40, 18, 39, 41, 42] (by decide +kernel)
theorem hfl_of {l : Launch} (h : l.flags = flags0) : l.stackTraces = false := by
  show (!l.flags.contains noTraceFlag) = false
  rw [h]
  decide +kernel
def gvL : List Cond := strL.map (fun q => .exactly (.string "RelayTuner" q.1) "java/lang/String")
theorem gvL_in : ∀ w ∈ gvL, w ∈ flatC (Jvm.Cond.and given_1 narrow_1) := by decide +kernel
def gxL : List Cond := cxL.map (fun q => .not (.castable q.1 q.2))
theorem gxL_in : ∀ w ∈ gxL, w ∈ flatC (Jvm.Cond.and given_1 narrow_1) := by decide +kernel
theorem gsU_in : Cond.isRef (.static Bundle.tN "UNASSIGNED_STACK" Bundle.steD) ∈ flatC (Jvm.Cond.and given_1 narrow_1) := by decide +kernel
theorem gsN_in : Cond.isRef (.static Bundle.tN "SUPPRESSED_SENTINEL" Bundle.listD) ∈ flatC (Jvm.Cond.and given_1 narrow_1) := by decide +kernel
section SFACTS
variable {s : State} {b : Nat}
theorem st_NN (hts : ∀ w ∈ lw_tbl, w.before #[Value.ref b] s = true) : NN s := ⟨fun q hq => va_Nw.of rfl (hts _ (swF_in _ (List.mem_map.mpr ⟨q, hq, rfl⟩))), fun q hq => va_Nw.of rfl (hts _ (swM_in _ (List.mem_map.mpr ⟨q, hq, rfl⟩)))⟩
theorem st_TY (hts : ∀ w ∈ lw_tbl, w.before #[Value.ref b] s = true) (hgv : (Jvm.Cond.and given_1 narrow_1).before #[Value.ref b] s = true) : TY (fun q : Nat => s.heap.size ≤ q) s := by
  have hg := flat_of_before _ hgv
  have hA : ∀ a : Nat, a < s.heap.size → ¬ (fun q : Nat => s.heap.size ≤ q) a := fun a h => Nat.not_le.mpr h
  refine ⟨⟨fun q hq => ?_, fun q hq => va_Nw.of rfl (hts _ (swC_in _ (List.mem_map.mpr ⟨q, hq, rfl⟩))), fun q hq => va_Nw.of rfl (hts _ (swD_in _ (List.mem_map.mpr ⟨q, hq, rfl⟩))), ?_, ?_⟩, fun q hq => va_Nc.of (hg _ (gxL_in _ (List.mem_map.mpr ⟨q, hq, rfl⟩)))⟩
  · have h1 := hts _ (swS_in _ (List.mem_map.mpr ⟨q, hq, rfl⟩))
    have h2 := hg _ (gvL_in _ (List.mem_map.mpr ⟨q, hq, rfl⟩))
    obtain ⟨a, c, cell, k, h3, -⟩ := Cond.exactly_spec h2
    exact ⟨a, vk_R.of h1 h3⟩
  · exact vx_Zqof (hts _ (swX_in _ (by decide +kernel))) (hts _ (swX_in _ (by decide +kernel))) (hg _ gsU_in) hA
  · exact vx_Zqof (hts _ (swX_in _ (by decide +kernel))) (hts _ (swX_in _ (by decide +kernel))) (hg _ gsN_in) hA
/-- the classes and the rows' classes -/
theorem st_K (hts : ∀ w ∈ lw_tbl, w.before #[Value.ref b] s = true) : ∃ (G : va_G) (y : Nat → ClassId), va_K G vwCl (tyG y) s := by
  obtain ⟨d0, i0, k0⟩ := u_known (C := RX0) (T := TX0) (N := 6) (n := 6) hts inX0 (hts _ (swX_in (.instantiable RX0 6) (by decide +kernel)))
  obtain ⟨d1, i1, k1⟩ := u_known (C := RX1) (T := TX1) (N := 11) (n := 11) hts inX1 (hts _ (swX_in (.instantiable RX1 11) (by decide +kernel)))
  obtain ⟨d2, i2, k2⟩ := u_known (C := RX2) (T := TX2) (N := 2) (n := 2) hts inX2 (hts _ (swX_in (.instantiable RX2 2) (by decide +kernel)))
  obtain ⟨d3, i3, k3⟩ := u_known (C := RX3) (T := TX3) (N := 8) (n := 8) hts inX3 (hts _ (swX_in (.instantiable RX3 8) (by decide +kernel)))
  obtain ⟨d4, i4, k4⟩ := u_known (C := RX6) (T := TX6) (N := 2) (n := 2) hts inX6 (hts _ (swX_in (.instantiable RX6 2) (by decide +kernel)))
  obtain ⟨d5, i5, k5⟩ := u_known (C := RX7) (T := TX7) (N := 6) (n := 6) hts inX7 (hts _ (swX_in (.instantiable RX7 6) (by decide +kernel)))
  obtain ⟨d6, i6, k6⟩ := u_known (C := RX8) (T := TX8) (N := 10) (n := 10) hts inX8 (hts _ (swX_in (.instantiable RX8 10) (by decide +kernel)))
  obtain ⟨d7, i7, k7⟩ := u_known (C := RX9) (T := TX9) (N := 12) (n := 12) hts inX9 (hts _ (swX_in (.instantiable RX9 12) (by decide +kernel)))
  obtain ⟨d8, i8, k8⟩ := u_known (C := RX10) (T := TX10) (N := 2) (n := 2) hts inX10 (hts _ (swX_in (.instantiable RX10 2) (by decide +kernel)))
  obtain ⟨d9, i9, k9⟩ := u_known (C := RX11) (T := TX11) (N := 6) (n := 6) hts inX11 (hts _ (swX_in (.instantiable RX11 6) (by decide +kernel)))
  obtain ⟨c0, q0, o0, f0, g0, j0⟩ := Cond.arrayClass_spec (hts _ (swX_in (.arrayClass .int) (by decide +kernel)))
  obtain ⟨c1, q1, o1, f1, g1, j1⟩ := Cond.arrayClass_spec (hts _ (swX_in (.arrayClass .char) (by decide +kernel)))
  obtain ⟨c2, q2, o2, f2, g2, j2⟩ := Cond.arrayClass_spec (hts _ (swX_in (.arrayClass .boolean) (by decide +kernel)))
  obtain ⟨o4, c4, q4, f4, -, g4, j4, m4⟩ := Cond.arrayOver_spec (hts _ (swX_in (.arrayOver (.object "RelayTuner$State")) (by decide +kernel)))
  refine ⟨(fun k => match k with | 0 => d0 | 1 => d1 | 2 => d2 | 3 => d3 | 4 => d4 | 5 => d5 | 6 => d6 | 7 => d7 | 8 => d8 | _ => d9, fun k => match k with | 0 => i0 | 1 => i1 | 2 => i2 | 3 => i3 | 4 => i4 | 5 => i5 | 6 => i6 | 7 => i7 | 8 => i8 | _ => i9), fun k => match k with | 0 => c0 | 1 => c1 | 2 => c2 | _ => c4, fun k q hq => ?_, fun k q hq => ?_⟩
  · match k, hq with
    | 0, hq => cases hq; exact k0
    | 1, hq => cases hq; exact k1
    | 2, hq => cases hq; exact k2
    | 3, hq => cases hq; exact k3
    | 4, hq => cases hq; exact k4
    | 5, hq => cases hq; exact k5
    | 6, hq => cases hq; exact k6
    | 7, hq => cases hq; exact k7
    | 8, hq => cases hq; exact k8
    | 9, hq => cases hq; exact k9
    | k + 10, hq => simp [vwCl] at hq
  · match k, hq with
    | 0, hq => cases hq; exact ⟨fun n z => ⟨(fun k h => by cases h), q0, g0, o0, j0⟩, f0⟩
    | 1, hq => cases hq; exact ⟨fun n z => ⟨(fun k h => by cases h), q1, g1, o1, j1⟩, f1⟩
    | 2, hq => cases hq; exact ⟨fun n z => ⟨(fun k h => by cases h), q2, g2, o2, j2⟩, f2⟩
    | 3, hq => cases hq; exact ⟨fun n z => ⟨(fun k h => by cases h), q4, g4, o4, j4⟩, q4, o4, g4, j4, f4, m4⟩
    | k + 4, hq => simp [tyG] at hq
end SFACTS

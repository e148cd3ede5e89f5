/-! ===== the law's small methods: number, size; the script beside a world ===== -/
theorem oi {y : Nat → ClassId} {h : Nat} {K : Int32} {T T' : List Int32} {z z' : Zs} {Hs Hs' : List Zs} {s0 s1 s0' s1' : Option Zs} {w : va_W} (hO : (K = 0 ∧ OB y h T' z' Hs' s0' s1' w) ∨ (¬ K = 0 ∧ OB y h T z Hs s0 s1 w)) : OB y h (if K = 0 then T' else T) (if K = 0 then z' else z) (if K = 0 then Hs' else Hs) (if K = 0 then s0' else s0) (if K = 0 then s1' else s1) w := by
  by_cases e : K = 0
  · rw [if_pos e, if_pos e, if_pos e, if_pos e, if_pos e]; exact oy e hO
  · rw [if_neg e, if_neg e, if_neg e, if_neg e, if_neg e]; exact on e hO
def Sc (b Ls : Nat) (xs : Nat → Int32) (A : Nat → Prop) (s : State) : Prop := va_X b Ls xs s s.heap ∧ b < s.heap.size ∧ ¬ A b ∧ Ls < 1000000
def PN (b Ls : Nat) (xs : Nat → Int32) (av : List Value) : Array Value → State → Prop := va_Pc av (fun U => va_X b Ls xs U U.heap ∧ b < U.heap.size ∧ Ls < 1000000)
theorem PN_blind {b Ls : Nat} {xs : Nat → Int32} {av : List Value} : FrameBlind (PN b Ls xs av) := fun a U g mk q => by
  obtain ⟨q0, q1, q2, q3⟩ := q
  exact ⟨q0, q1.moved (U := U.calling g mk a) (Vm.Alike.refl U.vm), q2, q3⟩
theorem Sc.at {b Ls : Nat} {xs : Nat → Int32} {A : Nat → Prop} {s U : State} {H : Heap} {locs : List Loc} (h : Sc b Ls xs A s) (hS : va_S A s.heap H locs) (hU : U.heap = H) (hW : s.WarmedH U.vm) : va_X b Ls xs U U.heap ∧ b < U.heap.size ∧ Ls < 1000000 := by
  obtain ⟨h1, h2, h3, h4⟩ := h
  rw [hU]
  exact ⟨(h1.kept (hS.2.1 b h2 h3)).moved hW.alike, Nat.lt_of_lt_of_le h2 hS.1, h4⟩
theorem PS_S {b Ls : Nat} {xs : Nat → Int32} {A : Nat → Prop} {s : State} {H : Heap} {locs : List Loc} {av : List Value} (h : Sc b Ls xs A s) (hS : va_S A s.heap H locs) : PreS s H (PN b Ls xs av) av := ⟨PN_blind, fun U hU hW => ⟨rfl, h.at hS hU hW⟩⟩
/-- a start with the script beside the world -/
def PHS (G : va_G) (y : Nat → ClassId) (b Ls : Nat) (xs : Nat → Int32) (av : List Value) (ws : va_W) (sz : Nat) : Array Value → State → Prop := fun a U => PHZ G y av ws sz a U ∧ Sc b Ls xs (va_A ws sz) U
theorem PHS_S {G : va_G} {y : Nat → ClassId} {b Ls : Nat} {xs : Nat → Int32} {s : State} {H : Heap} {av : List Value} {ws : va_W} {A A0 : Nat → Prop} {locs : List Loc} (hSc : Sc b Ls xs A0 s) (hP : va_P G vwCl ws H) (hK : va_K G vwCl (tyG y) s) (hN : NN s) (hD : va_D A ws) (hT : TY A0 s) (hS : va_S A0 s.heap H locs) (hF : ∀ q, va_A ws H.size q → A0 q) : PreS s H (PHS G y b Ls xs av ws H.size) av := ⟨fun a U g mk q => ⟨PHZ_blind a U g mk q.1, q.2.1.moved (U := U.calling g mk a) (Vm.Alike.refl U.vm), q.2.2⟩, fun U hU hW => ⟨(PHZ_S hP hK hN hD hT hS hF).2 U hU hW, by
  obtain ⟨h1, h2, h4⟩ := hSc.at hS hU hW
  exact ⟨h1, h2, fun h => hSc.2.2.1 (hF b h), h4⟩⟩⟩
abbrev rmL_number : Room := ({ frames := 0, cells := 0, slots := 0, locals := 0 } : Room)
theorem c_L_number (l : Launch) (b Ls : Nat) (xs : Nat → Int32) (k : Int32) (j : Nat) (hk : k = nI j) (hj : j < 1000000) : Met l yL_number wsL_number rmL_number (PN b Ls xs [.ref b, .int k]) (QRi (nmF Ls xs j)) 0 0 (fun _ => False) := by
  refine Met.ofW (cc := cL_number) (maxL := 2) (ret := (some .int)) (by decide) rfl ?_
  intro p e s m args below meth c s₁ B hml hv
  obtain ⟨rfl, hX, hbl, hL⟩ := hv
  have hx := B.exec
  have hb := B.bytes
  have hr := B.returns
  have hts := atoms_spec (ws := wsL_number) B.pre
  have hown : s.vm.findClass RL = some m.cls := findClass_of_methodNamed B.named
  have hS : va_S (fun _ => False) s.heap s.heap [] := va_S.rf
  have hbA : ¬ (fun _ : Nat => False) b := fun h => h
  have hl := lv_entry ([.ref b, .int k]) (n := 2) (Nat.le_of_ble_eq_true rfl)
  rw [lg_entry_eq]
  generalize (lg_sl ([.ref b, .int k]) ++ List.replicate (2 - (lg_sl ([.ref b, .int k])).length) Slot.unset).toArray = ls at hl ⊢
  have hl : lv_has ls 2 [(0, .ref b), (1, .int k)] := hl
  have hjj : k.toNatClampNeg = j := by rw [hk]; exact nI_clamp (by omega)
  refine lv_iload_n hx hb dL_number_0 rfl (lv_at hl 1 rfl) ?_
  refine lv_aload_n hx hb dL_number_1 rfl (lv_at hl 0 rfl) ?_
  refine va_slen hx hb hX hbl hbA hS dL_number_2 ?_
  refine lv_icmp_ge (tgt := 12) hx hb dL_number_3 (by decide) (fun c1 => ?_) (fun c1 => ?_)
  · refine lv_ldc (v := 15517111) hx hb hown (hts (.constant RL 93 15517111) (by decide +kernel)) dL_number_12 ?_
    refine lv_iload_n hx hb dL_number_14 rfl (lv_at hl 1 rfl) ?_
    refine lv_iconst (v := 5) hx hb dL_number_15 (by decide) ?_
    refine lv_iadd hx hb dL_number_16 ?_
    refine lv_imul hx hb dL_number_17 ?_
    refine lv_sipush (v := 10139) hx hb dL_number_18 (by decide) ?_
    refine lv_iadd hx hb dL_number_21 ?_
    refine lv_ldc (v := 2147483647) hx hb hown (hts (.constant RL 94 2147483647) (by decide +kernel)) dL_number_22 ?_
    refine lv_iand hx hb dL_number_24 ?_
    have n1 : ¬ j < Ls := fun q => by
      rw [hk] at c1
      exact absurd c1 (Int32.not_le.mpr ((nI_ltI (by omega) (by omega)).mpr q))
    exact W.iret hx hb hr (end_Ri (by unfold nmF; rw [if_neg n1, hk])) (fun _ h => nomatch h) dL_number_25
  · refine lv_aload_n hx hb dL_number_6 rfl (lv_at hl 0 rfl) ?_
    refine lv_iload_n hx hb dL_number_7 rfl (lv_at hl 1 rfl) ?_
    have n1 : j < Ls := Decidable.byContradiction (fun q => c1 (by
      rw [hk]
      exact Int32.not_lt.mp (fun q2 => q ((nI_ltI (by omega) (by omega)).mp q2))))
    refine va_sld hx hb hX hbl hbA hS (by rw [hk]; exact vp_in_nI n1 (by omega)) dL_number_8 ?_
    refine lv_goto (tgt := 22) hx hb dL_number_9 (by decide) ?_
    refine lv_ldc (v := 2147483647) hx hb hown (hts (.constant RL 94 2147483647) (by decide +kernel)) dL_number_22 ?_
    refine lv_iand hx hb dL_number_24 ?_
    exact W.iret hx hb hr (end_Ri (by unfold nmF; rw [if_pos n1, hjj])) (fun _ h => nomatch h) dL_number_25
abbrev rmL_size : Room := ({ frames := 0, cells := 0, slots := 0, locals := 0 } : Room)
theorem c_L_size (l : Launch) (G : va_G) (y : Nat → ClassId) (v : Int32) : Met l yL_size wsL_size rmL_size (PR G y [.int v] []) (QRi (sizeF v)) 0 0 (fun _ => False) := by
  refine Met.ofW (cc := cL_size) (maxL := 1) (ret := (some .int)) (by decide) rfl ?_
  intro p e s m args below meth c s₁ B hml hv
  obtain ⟨rfl, hP, hK, hN⟩ := hv
  have hx := B.exec
  have hb := B.bytes
  have hr := B.returns
  have hl := lv_entry ([.int v]) (n := 1) (Nat.le_of_ble_eq_true rfl)
  rw [lg_entry_eq]
  generalize (lg_sl ([.int v]) ++ List.replicate (1 - (lg_sl ([.int v])).length) Slot.unset).toArray = ls at hl ⊢
  have hl : lv_has ls 1 [(0, .int v)] := hl
  refine lv_iload_n hx hb dL_size_0 rfl (lv_at hl 0 rfl) ?_
  refine lv_if_ge (tgt := 9) hx hb dL_size_1 (by decide) (fun c1 => ?_) (fun c1 => ?_)
  · refine lv_iload_n hx hb dL_size_9 rfl (lv_at hl 0 rfl) ?_
    exact W.iret hx hb hr (end_Ri (by unfold sizeF; rw [if_neg (Int32.not_lt.mpr c1)])) (fun _ h => nomatch h) dL_size_10
  · refine lv_iload_n hx hb dL_size_4 rfl (lv_at hl 0 rfl) ?_
    refine lv_ineg hx hb dL_size_5 ?_
    refine lv_goto (tgt := 10) hx hb dL_size_6 (by decide) ?_
    exact W.iret hx hb hr (end_Ri (by unfold sizeF; rw [if_pos (Int32.not_le.mp c1)])) (fun _ h => nomatch h) dL_size_10
theorem lt_nI {t n : Nat} (ht : t < 2 ^ 31) (hn : n < 2 ^ 31) (h : ¬ nI n ≤ nI t) : t < n := Decidable.byContradiction (fun q => h (Int32.not_lt.mp (fun q2 => q ((nI_ltI ht hn).mp q2))))
theorem ts_n {z : Zs} (h : TS z) : tn (z 4 0) ≤ 20 := Nat.le_of_lt_succ (in_tn h.1.1 (by decide)).2
theorem ob_eq {y : Nat → ClassId} {h : Nat} {T : List Int32} {z z' : Zs} {Hs Hs' : List Zs} {s0 s1 s0' s1' : Option Zs} {w : va_W} (e1 : z = z') (e2 : Hs = Hs') (e3 : s0 = s0') (e4 : s1 = s1') (hO : OB y h T z Hs s0 s1 w) : OB y h T z' Hs' s0' s1' w := by
  subst e1; subst e2; subst e3; subst e4; exact hO

/-! ===== the law's wrappers: a world with a row of longs; what is caught ===== -/
abbrev tyJ (y : Nat → ClassId) : List (ClassId × FieldType) := tyG y ++ [(y 4, .long)]
abbrev aJ (y : Nat → ClassId) (h n : Nat) (f : Nat → Int64) : Nat × va_E := (h, .inl (y 4, n, .inr (.inl f)))
def cxL : List (String × String) := [(eIS, eIA), (eIA, eIO), (eIS, eIO)]
def TY (A : Nat → Prop) (U : State) : Prop := TX A U ∧ ∀ q ∈ cxL, va_Nc q.1 q.2 U
theorem mIA : eIA ∈ exL := List.mem_cons_self
theorem mIS : eIS ∈ exL := List.mem_cons_of_mem _ List.mem_cons_self
theorem mIO : eIO ∈ exL := List.mem_cons_of_mem _ (List.mem_cons_of_mem _ List.mem_cons_self)
theorem mSA : (eIS, eIA) ∈ cxL := List.mem_cons_self
theorem mAO : (eIA, eIO) ∈ cxL := List.mem_cons_of_mem _ List.mem_cons_self
theorem mSO : (eIS, eIO) ∈ cxL := List.mem_cons_of_mem _ (List.mem_cons_of_mem _ List.mem_cons_self)
/-- the start of a wrapper -/
def PHL (G : va_G) (y : Nat → ClassId) (av : List Value) (ws : va_W) (sz : Nat) : Array Value → State → Prop := va_Pc av (fun U => U.heap.size = sz ∧ va_P G vwCl ws U.heap ∧ (va_K G vwCl (tyJ y) U ∧ NN U) ∧ va_D (fun _ => True) ws ∧ TY (va_A ws sz) U)
theorem PHL_blind {G : va_G} {y : Nat → ClassId} {av : List Value} {ws : va_W} {sz : Nat} : FrameBlind (PHL G y av ws sz) := fun a U g mk q => by
  obtain ⟨q0, q1, qP, ⟨qK, qN⟩, qD, qT, qC⟩ := q
  exact ⟨q0, q1, qP, ⟨va_K.moved (u := U) (U := U.calling g mk a) (Vm.Alike.refl U.vm) qK, NN.same (u := U) (U := U.calling g mk a) rfl qN⟩, qD, TX.same (u := U) (U := U.calling g mk a) rfl rfl qT, fun r hr => va_Nc.moved (u := U) (U := U.calling g mk a) (Vm.Alike.refl U.vm) (qC r hr)⟩
theorem PHL_S {G : va_G} {y : Nat → ClassId} {s : State} {H : Heap} {av : List Value} {ws : va_W} {A A0 : Nat → Prop} {locs : List Loc} (hP : va_P G vwCl ws H) (hK : va_K G vwCl (tyJ y) s) (hN : NN s) (hD : va_D A ws) (hT : TY A0 s) (hS : va_S A0 s.heap H locs) (hF : ∀ q, va_A ws H.size q → A0 q) : PreS s H (PHL G y av ws H.size) av := ⟨PHL_blind, fun U hU hW => ⟨rfl, by rw [hU], by rw [hU]; exact hP, ⟨va_K.moved hW.alike hK, NN.warm hW hN⟩, hD.weaken (fun _ _ _ _ => trivial), TX.there hT.1 hS hF hU hW, fun r hr => va_Nc.moved hW.alike (hT.2 r hr)⟩⟩
/-- a wrapper throws nothing -/
def XN : String → State → State → Prop := vx_X (fun _ : Unit => False) (fun _ _ _ => True) (fun _ => False)
theorem P_r {G : va_G} {cl : List vw_C} {X Y : va_W} {H : Heap} (hP : va_P G cl (X ++ Y) H) : va_P G cl Y H := P_iff.mpr (fun q hq => P_iff.mp hP q (List.mem_append_right _ hq))
theorem D_r {A : Nat → Prop} {X Y : va_W} (hD : va_D A (X ++ Y)) : va_D A Y := by
  obtain ⟨h1, h2⟩ := D_iff.mp hD
  rw [List.map_append, List.nodup_append] at h1
  exact D_iff.mpr ⟨h1.2.1, fun q hq => h2 q (List.mem_append_right _ hq)⟩
theorem F_r {A0 : Nat → Prop} {wr wc : va_W} {H0 H : Heap} {locs : List Loc} (hD : va_D A0 (wr ++ wc)) (hS : va_S A0 H0 H locs) (hA : ∀ q, H0.size ≤ q → A0 q) : ∀ q, va_A wc H.size q → A0 q := va_free (wc := wc) hD hS hA ((List.range wc.length).map (fun i => wr.length + i)) ixC
theorem exC_0 {E : String} {K : Int32} (hk : K = 0) (h : exC E K) : False := by
  rw [hk] at h
  rcases h with ⟨-, e⟩ | ⟨-, e⟩ | ⟨-, e⟩ <;> exact absurd e (by decide)
theorem cd_1 {c K : Int32} (h : c = K) (h0 : ¬ c = 0) : 1 = cdK c K := by
  subst h
  unfold cdK
  rw [if_neg h0, if_pos rfl]
theorem cd_2 {c d K : Int32} (h : d = K) (h0 : ¬ d = 0) (h1 : ¬ d = c) : 2 = cdK c K := by
  subst h
  unfold cdK
  rw [if_neg h0, if_neg h1]
theorem cd_n {c K : Int32} (h : ¬ K = 0) : ¬ cdK c K = 0 := by
  unfold cdK
  rw [if_neg h]
  by_cases e : K = c
  · rw [if_pos e]; decide
  · rw [if_neg e]; decide
theorem k_ite {P : Prop} [Decidable P] {Q : Int32 → Prop} {x y : Int32} (h1 : Q x) (h2 : Q y) : Q (if P then x else y) := by
  by_cases e : P
  · rw [if_pos e]; exact h1
  · rw [if_neg e]; exact h2
section CALLX
variable {p : Program} {l : Launch} {e : Env} {R : Room} {s : State} {m : MethodId} {args : Array Value} {below : List Frame} {meth : Method} {c : Code} {H : Heap} {locs : List Loc} {cells slots : Nat} {Q : State → Prop}
variable {pc : Nat} {ls : Array Slot} {rest st0 : List Value} {a : Array Value} {A0 : Nat → Prop} {H0 : Heap} {mc ms : Nat} {G : va_G} {cc : ByteArray}
/-- a call that returns or throws, the rest of the world ahead -/
theorem cl_X {S : Type} {r K : Int32} {wc wr : va_W} {w1 : {q : S // K = 0} → va_W} {w2 : S → va_W} (hr : vx_Run p l e R s m args below meth c H locs cells slots mc ms (F0 m pc ls st0) rest (QHi G r w1 (va_A wc H.size) a) (XQ G K w2 (va_A wc H.size)) (va_A wc H.size)) (hP : va_P G vwCl (wr ++ wc) H) (hD : va_D A0 (wr ++ wc)) (hS : va_S A0 H0 H locs) (hA : ∀ q, H0.size ≤ q → A0 q)
    (kx : ∀ (E : String) (ce : Cell) (q9 : Addr) (u : S) (H1 : Heap) (locs1 : List Loc), exC E K → va_P G vwCl (wr ++ w2 u) H1 → va_D A0 (wr ++ w2 u) → va_S A0 H0 H1 locs1 → H1[q9]? = some ce → ce.vm = .none → s.vm.findClass E = some ce.cls → vx_W p l e R s m args below meth c H1 locs1 (cells + mc) (slots + ms) Q (F0 m pc ls rest) q9)
    (kk : ∀ (u : {q : S // K = 0}) (H1 : Heap) (locs1 : List Loc), va_P G vwCl (wr ++ w1 u) H1 → va_D A0 (wr ++ w1 u) → va_S A0 H0 H1 locs1 → W p l e R s m args below meth c H1 locs1 (cells + mc) (slots + ms) Q (F0 m (pc + 3) ls (.int r :: rest))) : W p l e R s m args below meth c H locs cells slots Q (F0 m pc ls st0) := by
  have hF := F_r hD hS hA
  refine vx_calli hr hS (fun q _ h => hF q h) hF (fun q _ h => hF q h) (fun E ce q9 u t H1 locs1 ht hvm _ hB hz hk hS1 h1 h2 h3 => ?_) (fun x u t H1 locs1 ht hvm hx hB hz hk hS1 => ?_)
  · obtain ⟨hE, hP1, hD1⟩ := hB
    rw [ht] at hP1
    obtain ⟨hP2, hD2⟩ := joinW (locs1 := locs1) hP hD hF hk hP1 hD1
    exact kx E ce q9 u H1 locs1 hE hP2 hD2 hS1 h1 h2 h3
  · obtain ⟨hP1, hD1⟩ := hB
    rw [ht] at hP1
    obtain ⟨hP2, hD2⟩ := joinW (locs1 := locs1) hP hD hF hk hP1 hD1
    have hx : x = r := hx
    rw [hx]
    exact kk u H1 locs1 hP2 hD2 hS1
/-- out[0] -/
theorem as_o (hexec : p.tables.exec = Jvm.exec) (hb : c.code = cc) {y : Nat → ClassId} (hK : va_K G vwCl (tyJ y) s) {o : Nat} {f : Nat → Int64} {X : va_W} (hP : va_P G vwCl ([aJ y o 1 f] ++ X) H) (hD : va_D A0 ([aJ y o 1 f] ++ X)) (hS : va_S A0 H0 H locs) {x : Int64} (hdg : decode cc pc = .ok (.lastore, 1))
    (kk : ∀ (H1 : Heap) (locs1 : List Loc), va_P G vwCl ([aJ y o 1 (vp_updL f 0 x)] ++ X) H1 → va_D A0 ([aJ y o 1 (vp_updL f 0 x)] ++ X) → va_S A0 H0 H1 locs1 → W p l e R s m args below meth c H1 locs1 cells slots Q (F0 m (pc + 1) ls rest)) : W p l e R s m args below meth c H locs cells slots Q (F0 m pc ls (.long x :: .int 0 :: .ref o :: rest)) := by
  have e0 : (0 : Int32).toNatClampNeg = 0 := rfl
  refine va_last hexec hb hK hP hD hS 0 4 rfl rfl (vp_in_iff.mpr ⟨by decide, by decide⟩) hdg (fun H1 locs1 k1 k2 k3 => ?_)
  rw [e0] at k1 k2
  exact kk H1 locs1 k1 k2 k3
theorem al_o (hexec : p.tables.exec = Jvm.exec) (hb : c.code = cc) {y : Nat → ClassId} (hK : va_K G vwCl (tyJ y) s) {o : Nat} {f : Nat → Int64} {X : va_W} (q0 : Nat) (hP : va_P G vwCl X H) (ha : X[q0]? = some (aJ y o 1 f)) (hdg : decode cc pc = .ok (.laload, 1))
    (kk : W p l e R s m args below meth c H locs cells slots Q (F0 m (pc + 1) ls (.long (f 0) :: rest))) : W p l e R s m args below meth c H locs cells slots Q (F0 m pc ls (.int 0 :: .ref o :: rest)) := by
  have e0 : (0 : Int32).toNatClampNeg = 0 := rfl
  refine va_lald hexec hb hK hP q0 4 ha rfl (vp_in_iff.mpr ⟨by decide, by decide⟩) hdg ?_
  rw [e0]
  exact kk
end CALLX

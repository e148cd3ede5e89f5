/-! ===== an object of the class, its world out of sight: what it holds, and no more ===== -/
abbrev Zs : Type := Nat → Nat → Int32
def cxL : List (String × String) := [(eIS, eIA), (eIA, eIO), (eIS, eIO)]
def TY (A : Nat → Prop) (U : State) : Prop := TX A U ∧ ∀ q ∈ cxL, va_Nc q.1 q.2 U
theorem mIA : eIA ∈ exL := List.mem_cons_self
theorem mIS : eIS ∈ exL := List.mem_cons_of_mem _ List.mem_cons_self
theorem mIO : eIO ∈ exL := List.mem_cons_of_mem _ (List.mem_cons_of_mem _ List.mem_cons_self)
theorem mSA : (eIS, eIA) ∈ cxL := List.mem_cons_self
theorem mAO : (eIA, eIO) ∈ cxL := List.mem_cons_of_mem _ List.mem_cons_self
theorem mSO : (eIS, eIO) ∈ cxL := List.mem_cons_of_mem _ (List.mem_cons_of_mem _ List.mem_cons_self)
theorem TX.narrow {A B : Nat → Prop} {U : State} (hAB : ∀ q, B q → A q) (h : TX A U) : TX B U := ⟨h.1, h.2.1, h.2.2.1, h.2.2.2.1.narrow hAB, h.2.2.2.2.narrow hAB⟩
/-- the start of a method of the law, or of a method of the class out of it -/
def PHZ (G : va_G) (y : Nat → ClassId) (av : List Value) (ws : va_W) (sz : Nat) : Array Value → State → Prop := va_Pc av (fun U => U.heap.size = sz ∧ va_P G vwCl ws U.heap ∧ KK G y U ∧ va_D (fun _ => True) ws ∧ TY (va_A ws sz) U)
theorem PHZ_blind {G : va_G} {y : Nat → ClassId} {av : List Value} {ws : va_W} {sz : Nat} : FrameBlind (PHZ G y av ws sz) := fun a U g mk q => by
  obtain ⟨q0, q1, qP, ⟨qK, qN⟩, qD, qT, qC⟩ := q
  exact ⟨q0, q1, qP, ⟨va_K.moved (u := U) (U := U.calling g mk a) (Vm.Alike.refl U.vm) qK, NN.same (u := U) (U := U.calling g mk a) rfl qN⟩, qD, TX.same (u := U) (U := U.calling g mk a) rfl rfl qT, fun r hr => va_Nc.moved (u := U) (U := U.calling g mk a) (Vm.Alike.refl U.vm) (qC r hr)⟩
section PREZ
variable {G : va_G} {y : Nat → ClassId} {s : State} {H : Heap} {av : List Value} {ws : va_W} {A A0 : Nat → Prop} {locs : List Loc}
theorem PHZ_S (hP : va_P G vwCl ws H) (hK : va_K G vwCl (tyG y) s) (hN : NN s) (hD : va_D A ws) (hT : TY A0 s) (hS : va_S A0 s.heap H locs) (hF : ∀ q, va_A ws H.size q → A0 q) : PreS s H (PHZ G y av ws H.size) av := ⟨PHZ_blind, fun U hU hW => ⟨rfl, by rw [hU], by rw [hU]; exact hP, KK.warm hW ⟨hK, hN⟩, hD.weaken (fun _ _ _ _ => trivial), TX.there hT.1 hS hF hU hW, fun r hr => va_Nc.moved hW.alike (hT.2 r hr)⟩⟩
theorem PHZ_V {a : Nat} {fs : List Value} (he : ((a, .inr (9, fs)) : Nat × va_E) ∈ ws) (hP : va_P G vwCl ws H) (hK : va_K G vwCl (tyG y) s) (hN : NN s) (hD : va_D A ws) (hT : TY A0 s) (hS : va_S A0 s.heap H locs) (hF : ∀ q, va_A ws H.size q → A0 q) : PreV s H RX11 a (PHZ G y (.ref a :: av) ws H.size) av := by
  obtain ⟨k, hk⟩ := List.getElem?_of_mem he
  exact ⟨PHZ_blind, va_recv (q := (RX11, TX11, 6)) hK hP rfl hk, fun U hU hW => ⟨rfl, by rw [hU], by rw [hU]; exact hP, KK.warm hW ⟨hK, hN⟩, hD.weaken (fun _ _ _ _ => trivial), TX.there hT.1 hS hF hU hW, fun r hr => va_Nc.moved hW.alike (hT.2 r hr)⟩⟩
theorem PHX_O {a : Nat} {fs : List Value} (he : ((a, .inr (9, fs)) : Nat × va_E) ∈ ws) (hP : va_P G vwCl ws H) (hK : va_K G vwCl (tyG y) s) (hN : NN s) (hD : va_D A ws) (hT : TY A0 s) (hS : va_S A0 s.heap H locs) (hF : ∀ q, va_A ws H.size q → A0 q) : PreV s H RX11 a (PHX G y (.ref a :: av) ws H.size) av := by
  obtain ⟨k, hk⟩ := List.getElem?_of_mem he
  exact PHX_V hP hK hN hD hT.1 hS hF (ci := 9) (q := (RX11, TX11, 6)) (q0 := k) rfl hk
end PREZ
/-- a method throws nothing -/
def XN : String → State → State → Prop := vx_X (fun _ : Unit => False) (fun _ _ _ => True) (fun _ => False)
theorem P_r {G : va_G} {cl : List vw_C} {X Y : va_W} {H : Heap} (hP : va_P G cl (X ++ Y) H) : va_P G cl Y H := P_iff.mpr (fun q hq => P_iff.mp hP q (List.mem_append_right _ hq))
theorem D_r {A : Nat → Prop} {X Y : va_W} (hD : va_D A (X ++ Y)) : va_D A Y := by
  obtain ⟨h1, h2⟩ := D_iff.mp hD
  rw [List.map_append, List.nodup_append] at h1
  exact D_iff.mpr ⟨h1.2.1, fun q hq => h2 q (List.mem_append_right _ hq)⟩
theorem F_r {A0 : Nat → Prop} {wr wc : va_W} {H0 H : Heap} {locs : List Loc} (hD : va_D A0 (wr ++ wc)) (hS : va_S A0 H0 H locs) (hA : ∀ q, H0.size ≤ q → A0 q) : ∀ q, va_A wc H.size q → A0 q := va_free (wc := wc) hD hS hA ((List.range wc.length).map (fun i => wr.length + i)) ixC
theorem F_0 {A0 : Nat → Prop} {w : va_W} {H0 H : Heap} {locs : List Loc} (hD : va_D A0 w) (hS : va_S A0 H0 H locs) (hA : ∀ q, H0.size ≤ q → A0 q) : ∀ q, va_A w H.size q → A0 q := F_r (wr := []) hD hS hA
theorem A_sub {w wr wc : va_W} {sz : Nat} (h : w.Perm (wr ++ wc)) : ∀ q, va_A wc sz q → va_A w sz q := fun q hq => by
  rcases hq with ⟨k, e, hk⟩ | hq
  · have h1 : ((q, e) : Nat × va_E) ∈ w := h.mem_iff.mpr (List.mem_append_right _ (List.mem_of_getElem? hk))
    obtain ⟨i, hi⟩ := List.getElem?_of_mem h1
    exact Or.inl ⟨i, e, hi⟩
  · exact Or.inr hq
theorem vaF_sub {A B : Nat → Prop} {s t : State} (hAB : ∀ q, A q → B q) (h : va_F A s t) : va_F B s t := ⟨h.1, fun q h1 h2 => h.2 q h1 (fun h3 => h2 (hAB q h3))⟩
theorem exC_nz {E : String} {K : Int32} (h : exC E K) : ¬ K = 0 := by
  intro e
  rcases h with ⟨-, h⟩ | ⟨-, h⟩ | ⟨-, h⟩ <;> exact absurd (h.trans e) (by decide)
/-- a method's end: what it answers, and what holds of the world -/
def QO (G : va_G) (r : Int32) (Φ : va_W → Prop) (A : Nat → Prop) : Array Value → State → Outcome → State → Prop := QHi G r (fun u : {w : va_W // Φ w} => u.1) A
def XO (G : va_G) (K : Int32) (Φ : va_W → Prop) (A : Nat → Prop) : String → State → State → Prop := XQ G K (fun u : {w : va_W // Φ w} => u.1) A
theorem MF_mono {l : Launch} {x : MethodName} {S : Spec} {P P' : Array Value → State → Prop} {K : Program → Env → List Frame → State → Array Value → Prop} {Q Q' : Array Value → State → Outcome → State → Prop} (hM : MetFree l x S P K Q) (h1 : ∀ a s, P' a s → P a s) (h2 : ∀ a s o t, P' a s → Q a s o t → Q' a s o t) : MetFree l x S P' K Q' := fun p e ha hc hk s m args below hf happ hP hK => by
  obtain ⟨n, o, a1, a2, a3, a4⟩ := hM p e ha hc hk s m args below hf happ (h1 _ _ hP) hK
  exact ⟨n, o, a1, a2, a3, h2 _ _ _ _ hP a4⟩
section FRAMES
variable {l : Launch} {G : va_G} {y0 : Nat → ClassId} {y : MethodName} {ws : List Cond} {rm : Room} {av : List Value} {w wr wc W : va_W} {sz mc ms : Nat} {r K : Int32}
theorem vx_fr {S : Type} {w1 : {q : S // K = 0} → va_W} {w2 : S → va_W} {Φ1 Φ2 : va_W → Prop} (W1 : {q : S // K = 0} → va_W) (W2 : S → va_W) (hM : vx_Met l y ws rm (PHX G y0 av wc sz) (QHi G r w1 (va_A wc sz)) (XQ G K w2 (va_A wc sz)) mc ms (va_A wc sz)) (h1 : w.Perm (wr ++ wc)) (h2 : ∀ u, (W1 u).Perm (wr ++ w1 u)) (h3 : ∀ u, (W2 u).Perm (wr ++ w2 u)) (hΦ1 : ∀ u, Φ1 (W1 u)) (hΦ2 : ¬ K = 0 → ∀ u, Φ2 (W2 u)) : vx_Met l y ws rm (PHX G y0 av w sz) (QO G r Φ1 (va_A w sz)) (XO G K Φ2 (va_A w sz)) mc ms (va_A w sz) := by
  have hAA : ∀ q, va_A wc sz q → va_A w sz q := A_sub h1
  refine MF_mono hM (fun a U hp => ?_) (fun a U o t hp hq => ?_)
  · obtain ⟨h0, hsz, hP, hK, hD, hT⟩ := hp
    exact ⟨h0, hsz, P_r (P_perm h1 hP), hK, D_r (D_perm h1 hD), hT.narrow hAA⟩
  · obtain ⟨h0, hsz, hP, hK, hD, hT⟩ := hp
    subst hsz
    have hP' := P_perm h1 hP
    have hD' := D_perm h1 hD.self (A := va_A w U.heap.size)
    have join : ∀ (x : va_W) (H1 : Heap), (∀ q : Nat, q < U.heap.size → ¬ va_A wc U.heap.size q → H1[q]? = U.heap[q]?) → va_P G vwCl x H1 → va_D (va_A wc U.heap.size) x → va_P G vwCl (wr ++ x) H1 ∧ va_D (va_A w U.heap.size) (wr ++ x) := fun x H1 k1 k2 k3 => joinW (H := U.heap) (locs1 := []) hP' hD' hAA k1 k2 k3
    rcases hq with ⟨⟨⟨r', u, e1, e2, hP1, hD1⟩, hfr⟩, L, hF, hL⟩ | ⟨q, ho, E, ce, L, ⟨u, -, ⟨hE, hP1, hD1⟩, hfr⟩, k1, k2, k3, k4, k5, k6⟩
    · obtain ⟨j1, j2⟩ := join _ _ hfr.2 hP1 hD1
      exact Or.inl ⟨⟨⟨r', ⟨W1 u, hΦ1 u⟩, e1, e2, P_perm (h2 u).symm j1, D_perm (h2 u).symm j2⟩, vaF_sub hAA hfr⟩, L, hF, fun q hq => hAA _ (hL q hq)⟩
    · obtain ⟨j1, j2⟩ := join _ _ hfr.2 hP1 hD1
      exact Or.inr ⟨q, ho, E, ce, L, ⟨⟨W2 u, hΦ2 (exC_nz hE) u⟩, trivial, ⟨hE, P_perm (h3 u).symm j1, D_perm (h3 u).symm j2⟩, vaF_sub hAA hfr⟩, k1, k2, k3, k4, k5, fun z hz => hAA _ (k6 z hz)⟩
theorem m_fr {S : Type} {w1 : S → va_W} {Φ : va_W → Prop} (W1 : S → va_W) (hM : Met l y ws rm (PH G y0 av wc sz) (QHi G r w1 (va_A wc sz)) mc ms (va_A wc sz)) (h1 : w.Perm (wr ++ wc)) (h2 : ∀ u, (W1 u).Perm (wr ++ w1 u)) (hΦ : ∀ u, Φ (W1 u)) : Met l y ws rm (PHZ G y0 av w sz) (QO G r Φ (va_A w sz)) mc ms (va_A w sz) := by
  have hAA : ∀ q, va_A wc sz q → va_A w sz q := A_sub h1
  refine MF_mono hM (fun a U hp => ?_) (fun a U o t hp hq => ?_)
  · obtain ⟨h0, hsz, hP, hK, hD, hT⟩ := hp
    exact ⟨h0, hsz, P_r (P_perm h1 hP), hK, D_r (D_perm h1 hD)⟩
  · obtain ⟨h0, hsz, hP, hK, hD, hT⟩ := hp
    subst hsz
    obtain ⟨⟨⟨r', u, e1, e2, hP1, hD1⟩, hfr⟩, L, hF, hL⟩ := hq
    obtain ⟨j1, j2⟩ := joinW (H := U.heap) (locs1 := []) (P_perm h1 hP) (D_perm h1 hD.self (A := va_A w U.heap.size)) hAA hfr.2 hP1 hD1
    exact ⟨⟨⟨r', ⟨W1 u, hΦ u⟩, e1, e2, P_perm (h2 u).symm j1, D_perm (h2 u).symm j2⟩, vaF_sub hAA hfr⟩, L, hF, fun q hq => hAA _ (hL q hq)⟩
/-- a method over a part of the world -/
theorem z_fr {Φ Φ' : va_W → Prop} (Wf : va_W → va_W) (hM : Met l y ws rm (PHZ G y0 av w sz) (QO G r Φ (va_A w sz)) mc ms (va_A w sz)) (h1 : W.Perm (wr ++ w)) (h2 : ∀ x, (Wf x).Perm (wr ++ x)) (hΦ : ∀ x, Φ x → Φ' (Wf x)) : Met l y ws rm (PHZ G y0 av W sz) (QO G r Φ' (va_A W sz)) mc ms (va_A W sz) := by
  have hAA : ∀ q, va_A w sz q → va_A W sz q := A_sub h1
  refine MF_mono hM (fun a U hp => ?_) (fun a U o t hp hq => ?_)
  · obtain ⟨h0, hsz, hP, hK, hD, hT, hC⟩ := hp
    exact ⟨h0, hsz, P_r (P_perm h1 hP), hK, D_r (D_perm h1 hD), hT.narrow hAA, hC⟩
  · obtain ⟨h0, hsz, hP, hK, hD, hT, hC⟩ := hp
    subst hsz
    obtain ⟨⟨⟨r', u, e1, e2, hP1, hD1⟩, hfr⟩, L, hF, hL⟩ := hq
    obtain ⟨j1, j2⟩ := joinW (H := U.heap) (locs1 := []) (P_perm h1 hP) (D_perm h1 hD.self (A := va_A W U.heap.size)) hAA hfr.2 hP1 hD1
    exact ⟨⟨⟨r', ⟨Wf u.1, hΦ _ u.2⟩, e1, e2, P_perm (h2 u.1).symm j1, D_perm (h2 u.1).symm j2⟩, vaF_sub hAA hfr⟩, L, hF, fun q hq => hAA _ (hL q hq)⟩
theorem z_fx {Φ Φ' : va_W → Prop} (Wf : va_W → va_W) (hM : vx_Met l y ws rm (PHZ G y0 av w sz) (QO G r Φ (va_A w sz)) XN mc ms (va_A w sz)) (h1 : W.Perm (wr ++ w)) (h2 : ∀ x, (Wf x).Perm (wr ++ x)) (hΦ : ∀ x, Φ x → Φ' (Wf x)) : vx_Met l y ws rm (PHZ G y0 av W sz) (QO G r Φ' (va_A W sz)) XN mc ms (va_A W sz) := by
  have hAA : ∀ q, va_A w sz q → va_A W sz q := A_sub h1
  refine MF_mono hM (fun a U hp => ?_) (fun a U o t hp hq => ?_)
  · obtain ⟨h0, hsz, hP, hK, hD, hT, hC⟩ := hp
    exact ⟨h0, hsz, P_r (P_perm h1 hP), hK, D_r (D_perm h1 hD), hT.narrow hAA, hC⟩
  · obtain ⟨h0, hsz, hP, hK, hD, hT, hC⟩ := hp
    subst hsz
    rcases hq with ⟨⟨⟨r', u, e1, e2, hP1, hD1⟩, hfr⟩, L, hF, hL⟩ | ⟨q, ho, E, ce, L, ⟨u, hu, -⟩, -⟩
    · obtain ⟨j1, j2⟩ := joinW (H := U.heap) (locs1 := []) (P_perm h1 hP) (D_perm h1 hD.self (A := va_A W U.heap.size)) hAA hfr.2 hP1 hD1
      exact Or.inl ⟨⟨⟨r', ⟨Wf u.1, hΦ _ u.2⟩, e1, e2, P_perm (h2 u.1).symm j1, D_perm (h2 u.1).symm j2⟩, vaF_sub hAA hfr⟩, L, hF, fun q hq => hAA _ (hL q hq)⟩
    · exact hu.elim
end FRAMES
section CALLO
variable {p : Program} {l : Launch} {e : Env} {R : Room} {s : State} {m : MethodId} {args : Array Value} {below : List Frame} {meth : Method} {c : Code} {H : Heap} {locs : List Loc} {cells slots : Nat} {Q : State → Prop}
variable {pc : Nat} {ls : Array Slot} {rest st0 : List Value} {a : Array Value} {A0 : Nat → Prop} {H0 : Heap} {mc ms : Nat} {G : va_G} {w : va_W} {r K : Int32}
/-- a call that returns or throws -/
theorem cl_XO {Φ1 Φ2 : va_W → Prop} (hr : vx_Run p l e R s m args below meth c H locs cells slots mc ms (F0 m pc ls st0) rest (QO G r Φ1 (va_A w H.size) a) (XO G K Φ2 (va_A w H.size)) (va_A w H.size)) (hD : va_D A0 w) (hS : va_S A0 H0 H locs) (hA : ∀ q, H0.size ≤ q → A0 q)
    (kx : ∀ (E : String) (ce : Cell) (q9 : Addr) (w' : va_W) (H1 : Heap) (locs1 : List Loc), exC E K → Φ2 w' → va_P G vwCl w' H1 → va_D A0 w' → va_S A0 H0 H1 locs1 → H1[q9]? = some ce → ce.vm = .none → s.vm.findClass E = some ce.cls → vx_W p l e R s m args below meth c H1 locs1 (cells + mc) (slots + ms) Q (F0 m pc ls rest) q9)
    (kk : ∀ (w' : va_W) (H1 : Heap) (locs1 : List Loc), Φ1 w' → va_P G vwCl w' H1 → va_D A0 w' → va_S A0 H0 H1 locs1 → W p l e R s m args below meth c H1 locs1 (cells + mc) (slots + ms) Q (F0 m (pc + 3) ls (.int r :: rest))) : W p l e R s m args below meth c H locs cells slots Q (F0 m pc ls st0) := by
  have hF := F_0 hD hS hA
  refine vx_calli (a := a) hr hS (fun q _ h => hF q h) hF (fun q _ h => hF q h) (fun E ce q9 u t H1 locs1 ht hvm _ hB hz hk hS1 h1 h2 h3 => ?_) (fun x u t H1 locs1 ht hvm hx hB hz hk hS1 => ?_)
  · obtain ⟨hE, hP1, hD1⟩ := hB
    rw [ht] at hP1
    exact kx E ce q9 u.1 H1 locs1 hE u.2 hP1 (hD1.weaken (fun k q _ h => hF q.1 h)) hS1 h1 h2 h3
  · obtain ⟨hP1, hD1⟩ := hB
    rw [ht] at hP1
    have hx : x = r := hx
    rw [hx]
    exact kk u.1 H1 locs1 u.2 hP1 (hD1.weaken (fun k q _ h => hF q.1 h)) hS1
/-- a call that returns -/
theorem cl_O {Φ : va_W → Prop} (hr : vx_Run p l e R s m args below meth c H locs cells slots mc ms (F0 m pc ls st0) rest (QO G r Φ (va_A w H.size) a) XN (va_A w H.size)) (hD : va_D A0 w) (hS : va_S A0 H0 H locs) (hA : ∀ q, H0.size ≤ q → A0 q)
    (kk : ∀ (w' : va_W) (H1 : Heap) (locs1 : List Loc), Φ w' → va_P G vwCl w' H1 → va_D A0 w' → va_S A0 H0 H1 locs1 → W p l e R s m args below meth c H1 locs1 (cells + mc) (slots + ms) Q (F0 m (pc + 3) ls (.int r :: rest))) : W p l e R s m args below meth c H locs cells slots Q (F0 m pc ls st0) := by
  have hF := F_0 hD hS hA
  refine vx_calli (a := a) hr hS (fun q _ h => hF q h) hF (fun q _ h => h.elim) (fun E ce q9 u t H1 locs1 ht hvm hu => hu.elim) (fun x u t H1 locs1 ht hvm hx hB hz hk hS1 => ?_)
  obtain ⟨hP1, hD1⟩ := hB
  rw [ht] at hP1
  have hx : x = r := hx
  rw [hx]
  exact kk u.1 H1 locs1 u.2 hP1 (hD1.weaken (fun k q _ h => hF q.1 h)) hS1
theorem cl_OM {Φ : va_W → Prop} (hr : va_Run p l e R s m args below meth c H locs cells slots mc ms (F0 m pc ls st0) rest (QO G r Φ (va_A w H.size) a) (va_A w H.size)) (hD : va_D A0 w) (hS : va_S A0 H0 H locs) (hA : ∀ q, H0.size ≤ q → A0 q)
    (kk : ∀ (w' : va_W) (H1 : Heap) (locs1 : List Loc), Φ w' → va_P G vwCl w' H1 → va_D A0 w' → va_S A0 H0 H1 locs1 → W p l e R s m args below meth c H1 locs1 (cells + mc) (slots + ms) Q (F0 m (pc + 3) ls (.int r :: rest))) : W p l e R s m args below meth c H locs cells slots Q (F0 m pc ls st0) := by
  have hF := F_0 hD hS hA
  refine va_calli (a := a) hr hS (fun q _ h => hF q h) hF (fun x u t H1 locs1 ht hvm hx hB hz hk hS1 => ?_)
  obtain ⟨hP1, hD1⟩ := hB
  rw [ht] at hP1
  have hx : x = r := hx
  rw [hx]
  exact kk u.1 H1 locs1 u.2 hP1 (hD1.weaken (fun k q _ h => hF q.1 h)) hS1
/-- the end of a method -/
theorem end_O {Φ : va_W → Prop} {A : Nat → Prop} {v : Int32} (hΦ : Φ w) (hP : va_P G vwCl w H) (hD : va_D A w) (hS : va_S A s.heap H locs) (e1 : v = r) : ∀ t : State, t.heap = H → s.WarmedH t.vm → QO G r Φ A args s (.returned (some (.int v))) t := end_Hi (⟨w, hΦ⟩ : {w : va_W // Φ w}) hP hD hS e1 rfl
end CALLO
/-- what is answered where a call throws -/
def ecd (k : Int32) : Int32 := if k = 1 then -999002 else if k = 2 then -999003 else -999001
def an (k r : Int32) : Int32 := if k = 0 then r else ecd k
theorem an_0 {k r : Int32} (h : k = 0) : r = an k r := (if_pos h).symm
theorem an_1 {k r : Int32} (h : 1 = k) : -999002 = an k r := by subst h; rfl
theorem an_2 {k r : Int32} (h : 2 = k) : -999003 = an k r := by subst h; rfl
theorem an_3 {k r : Int32} (h : 3 = k) : -999001 = an k r := by subst h; rfl
theorem k_ite {P : Prop} [Decidable P] {Q : Int32 → Prop} {x y : Int32} (h1 : Q x) (h2 : Q y) : Q (if P then x else y) := by
  by_cases e : P
  · rw [if_pos e]; exact h1
  · rw [if_neg e]; exact h2
theorem upd_at (f : Nat → Int32) (k : Nat) (x : Int32) : upd f k x k = x := if_pos rfl
/-! the rows of a world by their places -/
def sel (E : va_W) (is : List Nat) : va_W := is.filterMap (fun i => E[i]?)
theorem sel_app {E : va_W} {i j : List Nat} : sel E (i ++ j) = sel E i ++ sel E j := List.filterMap_append
theorem sel_all {E : va_W} : sel E (List.range E.length) = E := by
  unfold sel
  refine fm_of ?_
  apply List.ext_getElem?
  intro i
  rw [List.getElem?_map, List.getElem?_map]
  rcases Nat.lt_or_ge i E.length with h | h
  · rw [List.getElem?_range h, List.getElem?_eq_getElem h]
    show some (E[i]?) = _
    rw [List.getElem?_eq_getElem h]
    rfl
  · rw [List.getElem?_eq_none (by rw [List.length_range]; exact h), List.getElem?_eq_none h]
    rfl
theorem sel_perm {E X : va_W} {n : Nat} {ir is : List Nat} {wc : va_W} (hp : (ir ++ is).Perm (List.range n)) (hn : E.length = n) (hX : sel E ir = X) (h1 : sel E is = wc) : E.Perm (X ++ wc) := by
  subst hn
  have h := (hp.filterMap (fun i => E[i]?)).symm
  have e1 : (List.range E.length).filterMap (fun i => E[i]?) = E := sel_all
  have e2 : (ir ++ is).filterMap (fun i => E[i]?) = X ++ wc := by
    rw [← hX, ← h1]
    exact sel_app
  rw [e1, e2] at h
  exact h
section PMS
variable {E X T T1 T2 wc : va_W}
theorem qm0 (h : E.Perm (X ++ wc)) : (E ++ T).Perm ((X ++ T) ++ wc) := (h.append_right T).trans perm3
theorem qm1 (h : E.Perm (X ++ wc)) : (E ++ (T1 ++ T2)).Perm ((X ++ T2) ++ (wc ++ T1)) := by
  refine (h.append_right _).trans ?_
  rw [List.append_assoc, List.append_assoc, ← List.append_assoc wc T1 T2]
  exact List.Perm.append_left X List.perm_append_comm
theorem qm2 (h : E.Perm (X ++ wc)) : (E ++ (T1 ++ T2)).Perm ((X ++ T1) ++ (wc ++ T2)) := by
  refine (h.append_right _).trans ?_
  rw [List.append_assoc, List.append_assoc]
  exact List.Perm.append_left X (List.perm_append_comm_assoc ..)
end PMS
/-- the cells of an object that are laid out -/
def obE (y : Nat → ClassId) (h : Nat) (a : Nat → Nat) (x9 ft : Nat → Int32) (z : Zs) (o : Nat → Int32) (zc : Zs) (oc x2 : Nat → Int32) (ad : Nat → Nat → Nat) (fl : Nat → Int32) (sd : Nat → Nat → Nat) : va_W := [kX11 h (a 0) (a 2) (a 16) (a 30) (a 44) (a 46) Z0, kX9 (a 0) (a 1) x9, aC y (a 1) 60 ft, kX7 (a 2) (a 3) (a 5) (a 6) (a 12) (a 14) (zI 0), kX3 (a 3) (a 4) (zI 1), aI y (a 4) 10 (zI 2), kX1 (a 5) (zI 3), kX8 (a 6) (a 7) (a 8) (a 9) (a 10) (a 11) (zI 4), aI y (a 7) 20 (zI 5), aI y (a 8) 20 (zI 6), aI y (a 9) 20 (zI 7), aI y (a 10) 20 (zI 8), aI y (a 11) 20 Z0, kX10 (a 12) (a 13) (zI 9), aI y (a 13) 32 (zI 10), kX0 (a 14) (a 15) (zI 11), aI y (a 15) 3 (zI 12), kX7 (a 16) (a 17) (a 19) (a 20) (a 26) (a 28) (z 0), kX3 (a 17) (a 18) (z 1), aI y (a 18) 10 (z 2), kX1 (a 19) (z 3), kX8 (a 20) (a 21) (a 22) (a 23) (a 24) (a 25) (z 4), aI y (a 21) 20 (z 5), aI y (a 22) 20 (z 6), aI y (a 23) 20 (z 7), aI y (a 24) 20 (z 8), aI y (a 25) 20 o, kX10 (a 26) (a 27) (z 9), aI y (a 27) 32 (z 10), kX0 (a 28) (a 29) (z 11), aI y (a 29) 3 (z 12), kX7 (a 30) (a 31) (a 33) (a 34) (a 40) (a 42) (zc 0), kX3 (a 31) (a 32) (zc 1), aI y (a 32) 10 (zc 2), kX1 (a 33) (zc 3), kX8 (a 34) (a 35) (a 36) (a 37) (a 38) (a 39) (zc 4), aI y (a 35) 20 (zc 5), aI y (a 36) 20 (zc 6), aI y (a 37) 20 (zc 7), aI y (a 38) 20 (zc 8), aI y (a 39) 20 oc, kX10 (a 40) (a 41) (zc 9), aI y (a 41) 32 (zc 10), kX0 (a 42) (a 43) (zc 11), aI y (a 43) 3 (zc 12), kX2 (a 44) (a 45) x2, aQ y (a 45) 14 (fun i => some (ad i 0)), kX6 (a 46) (a 47) (a 48) Z0, aQ y (a 47) 2 (fun i => some (sd i 0)), aZ y (a 48) 2 fl]
def BZ (z : Zs) : Prop := (z 3 7 = 0 ∨ z 3 7 = 1) ∧ (z 3 10 = 0 ∨ z 3 10 = 1) ∧ (z 4 6 = 0 ∨ z 4 6 = 1)
theorem zI_b : BZ zI := ⟨Or.inl rfl, Or.inl rfl, Or.inl rfl⟩
/-- the text -/
def TXR (T : List Int32) (x9 ft : Nat → Int32) : Prop := x9 1 = nI T.length ∧ T.length ≤ 60 ∧ ∀ i, i < T.length → ft i = T.getD i 0
/-- a save slot -/
def SLr (s : Option Zs) (b : Int32) (g : Zs) : Prop := (s = none ∧ b = 0) ∨ (s = some g ∧ b = 1)
/-- what an object holds besides the present state: the text, the states that are remembered (the latest first), the save slots -/
def OR (T : List Int32) (Hs : List Zs) (s0 s1 : Option Zs) (x9 ft x2 : Nat → Int32) (zk : Nat → Zs) (fl : Nat → Int32) (zs : Nat → Zs) : Prop := TXR T x9 ft ∧ (x2 1 = nI Hs.length ∧ Hs.length ≤ 14 ∧ ∀ i, i < Hs.length → Hs.getD i zI = zk (Hs.length - 1 - i)) ∧ (SLr s0 (fl 0) (zs 0) ∧ SLr s1 (fl 1) (zs 1)) ∧ (∀ i, BZ (zk i)) ∧ ∀ i, BZ (zs i)
def OB (y : Nat → ClassId) (h : Nat) (T : List Int32) (z : Zs) (Hs : List Zs) (s0 s1 : Option Zs) (w : va_W) : Prop := ∃ (a : Nat → Nat) (x9 ft o : Nat → Int32) (zc : Zs) (oc x2 : Nat → Int32) (ad : Nat → Nat → Nat) (zk : Nat → Zs) (ok : Nat → Nat → Int32) (fl : Nat → Int32) (sd : Nat → Nat → Nat) (zs : Nat → Zs) (os : Nat → Nat → Int32), w = obE y h a x9 ft z o zc oc x2 ad fl sd ++ (kW y ad zk ok 14 ++ kW y sd zs os 2) ∧ OR T Hs s0 s1 x9 ft x2 zk fl zs
theorem ob_in {y : Nat → ClassId} {h : Nat} {T : List Int32} {z : Zs} {Hs : List Zs} {s0 s1 : Option Zs} {w : va_W} (hO : OB y h T z Hs s0 s1 w) : ∃ fs : List Value, ((h, .inr (9, fs)) : Nat × va_E) ∈ w := by
  obtain ⟨a, x9, ft, o, zc, oc, x2, ad, zk, ok, fl, sd, zs, os, rfl, -⟩ := hO
  exact ⟨_, List.mem_append_left _ List.mem_cons_self⟩
/-- one state more is remembered -/
def hpu (z : Zs) (Hs : List Zs) : List Zs := (z :: Hs).take 14
def sl (a : Int32) (s0 s1 : Option Zs) : Option Zs := if a = 0 then s0 else s1
def kApp (c : Int32) (T : List Int32) : Int32 := if c < 0 then 1 else if c ≤ 255 then (if T.length < 60 then 0 else 2) else 1
def kUnd (Hs : List Zs) : Int32 := if Hs.length = 0 then 2 else 0
def kRes (a : Int32) (s0 s1 : Option Zs) : Int32 := if s_X11_isSlot_r a = 0 then 3 else if (sl a s0 s1).isSome then 0 else 2
section ORS
variable {T : List Int32} {Hs : List Zs} {s0 s1 : Option Zs} {x9 ft x2 fl : Nat → Int32} {zk zs : Nat → Zs} {z : Zs} {a : Int32}
theorem or_c (h : OR T Hs s0 s1 x9 ft x2 zk fl zs) : vp_in (x2 1) 15 := by
  obtain ⟨-, ⟨h1, h2, -⟩, -⟩ := h
  rw [h1]
  exact vp_in_nI (by omega) (by omega)
theorem or_n (h : OR T Hs s0 s1 x9 ft x2 zk fl zs) : tn (x2 1) = Hs.length := by
  obtain ⟨-, ⟨h1, h2, -⟩, -⟩ := h
  rw [h1]
  exact nI_clamp (by omega)
theorem bz_uK {i : Nat} (h : ∀ i, BZ (zk i)) (hz : BZ z) : ∀ j, BZ (uK zk i z j) := fun j => by
  unfold uK
  by_cases e : j = i
  · rw [if_pos e]; exact hz
  · rw [if_neg e]; exact h j
theorem bz_rm {c : Nat} (h : ∀ i, BZ (zk i)) : ∀ j, BZ (rmT c zk j) := fun j => by
  unfold rmT
  by_cases e : c < 14
  · rw [if_pos e]; exact h j
  · rw [if_neg e]
    unfold tK
    by_cases e1 : j = 13
    · rw [if_pos e1]; exact h 0
    · rw [if_neg e1]
      by_cases e2 : j < 13
      · rw [if_pos e2]; exact h _
      · rw [if_neg e2]; exact h j
theorem or_rem (hz : BZ z) (h : OR T Hs s0 s1 x9 ft x2 zk fl zs) : OR T (hpu z Hs) s0 s1 x9 ft (upd x2 1 (nI (rmC (tn (x2 1)) + 1))) (uK (rmT (tn (x2 1)) zk) (rmC (tn (x2 1))) z) fl zs := by
  have hn := or_n h
  obtain ⟨h0, ⟨h1, h2, h3⟩, h4, h5, h6⟩ := h
  rw [hn]
  refine ⟨h0, ?_, h4, bz_uK (bz_rm h5) hz, h6⟩
  have hl : (hpu z Hs).length = min 14 (Hs.length + 1) := by
    unfold hpu
    rw [List.length_take, List.length_cons]
  have hc : rmC Hs.length + 1 = min 14 (Hs.length + 1) := by
    unfold rmC
    by_cases e : Hs.length < 14
    · rw [if_pos e]; omega
    · rw [if_neg e]; omega
  refine ⟨by rw [upd_at, hl, hc], by rw [hl]; omega, fun i hi => ?_⟩
  rw [hl] at hi ⊢
  have e1 : (hpu z Hs).getD i zI = (z :: Hs).getD i zI := by
    unfold hpu
    rw [List.getD_eq_getElem?_getD, List.getD_eq_getElem?_getD, List.getElem?_take, if_pos (by omega)]
  rw [e1]
  rcases Nat.eq_zero_or_pos i with q | q
  · subst q
    have e2 : min 14 (Hs.length + 1) - 1 - 0 = rmC Hs.length := by omega
    rw [e2]
    unfold uK
    rw [if_pos rfl]
    rfl
  · obtain ⟨k, rfl⟩ : ∃ k, i = k + 1 := ⟨i - 1, by omega⟩
    have e2 : (z :: Hs).getD (k + 1) zI = Hs.getD k zI := rfl
    rw [e2, h3 k (by omega)]
    unfold uK
    rw [if_neg (by omega)]
    unfold rmT
    by_cases e : Hs.length < 14
    · rw [if_pos e]
      congr 1
      omega
    · rw [if_neg e]
      unfold tK
      rw [if_neg (by omega), if_pos (by omega)]
      congr 1
      omega
theorem or_kU (h : OR T Hs s0 s1 x9 ft x2 zk fl zs) : s_X11_undo_k x2 = kUnd Hs := by
  have hn := or_n h
  obtain ⟨-, ⟨h1, h2, -⟩, -⟩ := h
  unfold s_X11_undo_k kUnd
  by_cases e : Hs.length = 0
  · rw [if_pos e, h1, e]; rfl
  · rw [if_neg e, if_neg]
    intro q
    rw [q] at hn
    exact e hn.symm
theorem or_rU (h : OR T Hs s0 s1 x9 ft x2 zk fl zs) : s_X11_undo_k x2 = 0 → s_X11_undo_r x2 = nI (Hs.length - 1) := fun hk => by
  rw [or_kU h] at hk
  obtain ⟨-, ⟨h1, h2, -⟩, -⟩ := h
  have e : ¬ Hs.length = 0 := fun q => by
    unfold kUnd at hk
    rw [if_pos q] at hk
    exact absurd hk (by decide)
  unfold s_X11_undo_r
  rw [h1]
  show nI Hs.length - nI 1 = _
  exact pk_sub (by omega)
theorem or_und (h : OR T Hs s0 s1 x9 ft x2 zk fl zs) (hk : kUnd Hs = 0) : OR T Hs.tail s0 s1 x9 ft (s_X11_undo_w1 x2) zk fl zs ∧ zk (tn (x2 1) - 1) = Hs.getD 0 zI := by
  have hn := or_n h
  have e : ¬ Hs.length = 0 := fun q => by
    unfold kUnd at hk
    rw [if_pos q] at hk
    exact absurd hk (by decide)
  have hr := or_rU h ((or_kU h).trans hk)
  obtain ⟨h0, ⟨h1, h2, h3⟩, h4⟩ := h
  refine ⟨⟨h0, ⟨?_, ?_, fun i hi => ?_⟩, h4⟩, ?_⟩
  · unfold s_X11_undo_w1
    rw [upd_at, List.length_tail]
    exact hr
  · rw [List.length_tail]; omega
  · rw [List.length_tail] at hi ⊢
    have e1 : Hs.tail.getD i zI = Hs.getD (i + 1) zI := by
      rw [List.getD_eq_getElem?_getD, List.getD_eq_getElem?_getD, List.getElem?_tail]
    rw [e1, h3 (i + 1) (by omega)]
    congr 1
    omega
  · rw [hn, h3 0 (by omega)]
    rfl
theorem slot_2 (h : ¬ s_X11_isSlot_r a = 0) : a = 0 ∨ a = 1 := by
  obtain ⟨j, hj, rfl⟩ := vp_in_of (slot_at h) (by decide)
  rcases (show j = 0 ∨ j = 1 by omega) with rfl | rfl
  · exact Or.inl rfl
  · exact Or.inr rfl
theorem or_sav (hz : BZ z) (h : OR T Hs s0 s1 x9 ft x2 zk fl zs) (hk : s_X11_save_k a = 0) : OR T Hs (if a = 0 then some z else s0) (if a = 0 then s1 else some z) x9 ft x2 zk (upd fl (tn a) 1) (uK zs (tn a) z) := by
  have d : ¬ s_X11_isSlot_r a = 0 := fun q => by
    unfold s_X11_save_k at hk
    rw [if_pos q] at hk
    exact absurd hk (by decide)
  obtain ⟨h0, h1, ⟨h2, h3⟩, h4, h5⟩ := h
  refine ⟨h0, h1, ?_, h4, bz_uK h5 hz⟩
  rcases slot_2 d with rfl | rfl
  · exact ⟨Or.inr ⟨rfl, rfl⟩, h3⟩
  · exact ⟨h2, Or.inr ⟨rfl, rfl⟩⟩
theorem or_kR (h : OR T Hs s0 s1 x9 ft x2 zk fl zs) : s_X11_restore_k a fl = kRes a s0 s1 := by
  obtain ⟨-, -, ⟨h2, h3⟩, -⟩ := h
  unfold s_X11_restore_k kRes
  by_cases d : s_X11_isSlot_r a = 0
  · rw [if_pos d, if_pos d]
  · rw [if_neg d, if_neg d]
    unfold s_X6_isFilled_r
    dsimp only
    rw [if_neg d]
    rcases slot_2 d with rfl | rfl
    · rcases h2 with ⟨e, e2⟩ | ⟨e, e2⟩
      · rw [show fl (tn 0) = 0 from e2, e]; rfl
      · rw [show fl (tn 0) = 1 from e2, e]; rfl
    · rcases h3 with ⟨e, e2⟩ | ⟨e, e2⟩
      · rw [show fl (tn 1) = 0 from e2, e]; rfl
      · rw [show fl (tn 1) = 1 from e2, e]; rfl
theorem or_res (h : OR T Hs s0 s1 x9 ft x2 zk fl zs) (hk : kRes a s0 s1 = 0) : OR T [] s0 s1 x9 ft (s_X11_restore_w1 x2) zk fl zs ∧ zs (tn a) = (sl a s0 s1).getD zI := by
  have d : ¬ s_X11_isSlot_r a = 0 := fun q => by
    unfold kRes at hk
    rw [if_pos q] at hk
    exact absurd hk (by decide)
  have f : (sl a s0 s1).isSome = true := Decidable.byContradiction (fun q => by
    unfold kRes at hk
    rw [if_neg d, if_neg q] at hk
    exact absurd hk (by decide))
  obtain ⟨h0, h1, ⟨h2, h3⟩, h4⟩ := h
  refine ⟨⟨h0, ⟨(by unfold s_X11_restore_w1 s_X2_forget_w0; rfl), Nat.zero_le _, fun i hi => absurd hi (Nat.not_lt_zero _)⟩, ⟨h2, h3⟩, h4⟩, ?_⟩
  rcases slot_2 d with rfl | rfl
  · rcases h2 with ⟨e, e2⟩ | ⟨e, e2⟩
    · rw [show sl 0 s0 s1 = s0 from rfl, e] at f; exact absurd f (by decide)
    · rw [show sl 0 s0 s1 = s0 from rfl, e]; rfl
  · rcases h3 with ⟨e, e2⟩ | ⟨e, e2⟩
    · rw [show sl 1 s0 s1 = s1 from rfl, e] at f; exact absurd f (by decide)
    · rw [show sl 1 s0 s1 = s1 from rfl, e]; rfl
theorem or_rR (h : OR T Hs s0 s1 x9 ft x2 zk fl zs) : kRes a s0 s1 = 0 → s_X11_restore_r a zs = (sl a s0 s1).getD zI 0 0 := fun hk => by
  unfold s_X11_restore_r
  rw [(or_res h hk).2]
theorem or_txt {T' : List Int32} {x ft' : Nat → Int32} (h : OR T Hs s0 s1 x9 ft x2 zk fl zs) (ht : TXR T' x ft') : OR T' Hs s0 s1 x ft' x2 zk fl zs := ⟨ht, h.2⟩
theorem or_kA (h : OR T Hs s0 s1 x9 ft x2 zk fl zs) : s_X11_append_k a x9 = kApp a T := by
  obtain ⟨⟨h1, h2, -⟩, -⟩ := h
  unfold s_X11_append_k kApp s_X9_isFull_r
  dsimp only
  rw [h1]
  by_cases e : T.length < 60
  · have e9 : nI T.length < (60 : Int32) := (nI_ltI (a := T.length) (b := 60) (by omega) (by decide)).mpr e
    rw [if_pos e, if_pos e9]
    rfl
  · have e2 : T.length = 60 := by omega
    rw [if_neg e, e2]
    rfl
theorem char_of {a : Int32} (h1 : ¬ a < 0) (h2 : a ≤ 255) : vp_nar .char ((a.toUInt32 % 65536).toInt32) = a := by
  obtain ⟨j, hj, rfl⟩ := vp_in_of (vin6 (B := 255) (n := 255) h1 h2 rfl (by decide)) (by decide)
  have : ∀ j : Fin 256, vp_nar .char (((nI j.val).toUInt32 % 65536).toInt32) = nI j.val := by decide +kernel
  exact this ⟨j, by omega⟩
theorem or_app (h : OR T Hs s0 s1 x9 ft x2 zk fl zs) (hk : kApp a T = 0) : OR (T ++ [a]) Hs s0 s1 (s_X11_append_w1 x9) (s_X11_append_w2 a x9 ft) x2 zk fl zs ∧ s_X11_append_r x9 = nI (T.length + 1) := by
  obtain ⟨⟨h1, h2, h3⟩, h4⟩ := h
  unfold kApp at hk
  have a0 : ¬ a < 0 := fun q => by
    rw [if_pos q] at hk
    exact absurd hk (by decide)
  rw [if_neg a0] at hk
  have a1 : a ≤ 255 := Decidable.byContradiction (fun q => by
    rw [if_neg q] at hk
    exact absurd hk (by decide))
  rw [if_pos a1] at hk
  have a2 : T.length < 60 := Decidable.byContradiction (fun q => by
    rw [if_neg q] at hk
    exact absurd hk (by decide))
  have n0 : ¬ x9 1 < 0 := by
    rw [h1]
    exact fun q => absurd ((nI_ltI (a := T.length) (b := 0) (by omega) (by decide)).mp q) (Nat.not_lt_zero _)
  have n1 : ¬ 60 ≤ x9 1 := by
    rw [h1]
    exact fun q => absurd ((nI_ltI (a := T.length) (b := 60) (by omega) (by decide)).mpr a2) (Int32.not_lt.mpr q)
  have e1 : s_X9_add_w0 x9 = upd x9 1 (x9 1 + 1) := by
    unfold s_X9_add_w0
    dsimp only
    rw [if_neg n0, if_neg n1]
  have e2 : s_X11_append_w2 a x9 ft = upd ft T.length a := by
    unfold s_X11_append_w2 s_X9_add_w1
    dsimp only
    rw [if_neg n0, if_neg n1, char_of a0 a1, h1]
    congr 1
    exact nI_clamp (by omega)
  have e3 : (upd x9 1 (x9 1 + 1)) 1 = nI (T.length + 1) := by
    rw [upd_at, h1]
    exact nI_add T.length 1
  refine ⟨⟨⟨?_, ?_, fun i hi => ?_⟩, h4⟩, ?_⟩
  · unfold s_X11_append_w1
    rw [e1, e3, List.length_append]
    rfl
  · rw [List.length_append]
    show T.length + 1 ≤ 60
    omega
  · rw [e2]
    rw [List.length_append] at hi
    have hi : i < T.length + 1 := hi
    by_cases q : i = T.length
    · subst q
      rw [upd_at, List.getD_eq_getElem?_getD, List.getElem?_append_right (Nat.le_refl _), Nat.sub_self]
      rfl
    · rw [upd_ne q, h3 i (by omega), List.getD_eq_getElem?_getD, List.getD_eq_getElem?_getD, List.getElem?_append_left (by omega)]
  · unfold s_X11_append_r
    rw [e1, e3]
theorem or_clr (h : OR T Hs s0 s1 x9 ft x2 zk fl zs) : OR [] Hs s0 s1 (s_X11_clearText_w1 x9) ft x2 zk fl zs := ⟨⟨upd_at _ _ _, Nat.zero_le _, fun i hi => absurd hi (Nat.not_lt_zero _)⟩, h.2⟩
end ORS
section READ1
variable {x ft : Nat → Int32} {a b c : Int32}
theorem u1_2 {f : Nat → Int32} {v : Int32} : upd f 2 v 1 = f 1 := rfl
theorem u1_3 {f : Nat → Int32} {v : Int32} : upd f 3 v 1 = f 1 := rfl
theorem u1_4 {f : Nat → Int32} {v : Int32} : upd f 4 v 1 = f 1 := rfl
theorem u1_5 {f : Nat → Int32} {v : Int32} : upd f 5 v 1 = f 1 := rfl
theorem u1_6 {f : Nat → Int32} {v : Int32} : upd f 6 v 1 = f 1 := rfl
theorem u1_7 {f : Nat → Int32} {v : Int32} : upd f 7 v 1 = f 1 := rfl
theorem u1_8 {f : Nat → Int32} {v : Int32} : upd f 8 v 1 = f 1 := rfl
theorem u1_9 {f : Nat → Int32} {v : Int32} : upd f 9 v 1 = f 1 := rfl
theorem u1_10 {f : Nat → Int32} {v : Int32} : upd f 10 v 1 = f 1 := rfl
theorem u1_11 {f : Nat → Int32} {v : Int32} : upd f 11 v 1 = f 1 := rfl
theorem it1 {α : Type} {P : Prop} [Decidable P] {f g : Nat → α} {v : α} (h1 : f 1 = v) (h2 : g 1 = v) : (if P then f else g) 1 = v := by
  by_cases e : P
  · rw [if_pos e]; exact h1
  · rw [if_neg e]; exact h2
theorem k1_n1 : s_X9_number_1_w0 a b x ft 1 = x 1 := by
  unfold s_X9_number_1_w0
  repeat' (first | rfl | refine it1 ?_ ?_)
theorem k1_n2 : s_X9_number_2_w0 a b x ft 1 = x 1 := by
  unfold s_X9_number_2_w0
  repeat' (first | rfl | refine it1 ?_ ?_)
theorem k1_n3 : s_X9_number_3_w0 a b x ft 1 = x 1 := by
  unfold s_X9_number_3_w0
  repeat' (first | rfl | refine it1 ?_ ?_)
theorem k1_l1 : s_X9_labelled_1_w0 c a b x ft 1 = x 1 := by
  unfold s_X9_labelled_1_w0
  exact it1 rfl (k1_n1.trans rfl)
theorem k1_l2 : s_X9_labelled_2_w0 c a b x ft 1 = x 1 := by
  unfold s_X9_labelled_2_w0
  exact it1 rfl (k1_n2.trans rfl)
theorem k1_l3 : s_X9_labelled_3_w0 c a b x ft 1 = x 1 := by
  unfold s_X9_labelled_3_w0
  exact it1 rfl (k1_n3.trans rfl)
theorem k1_am : s_X9_readAmbient_w0 x ft 1 = x 1 := by
  unfold s_X9_readAmbient_w0
  dsimp only
  refine it1 (it1 rfl ?_) ?_
  · rw [u1_10, u1_11, k1_n2]; rfl
  · rw [u1_10, u1_11, k1_n2]; rfl
theorem k1_pl : s_X9_readPlant_w0 x ft 1 = x 1 := by
  unfold s_X9_readPlant_w0
  dsimp only
  refine it1 ?_ (it1 ?_ (it1 ?_ ?_))
  · rw [u1_3, k1_l2]
  · rw [u1_4, k1_l2, u1_3, k1_l2]
  · rw [u1_5, k1_l1, u1_4, k1_l2, u1_3, k1_l2]
  · rw [u1_6, k1_l2, u1_5, k1_l1, u1_4, k1_l2, u1_3, k1_l2]
theorem k1_pt : s_X9_readPart_w0 x ft 1 = x 1 := by
  unfold s_X9_readPart_w0
  dsimp only
  repeat' (first | with_reducible refine it1 ?_ ?_ | with_reducible rfl | with_reducible exact k1_am | (rw [u1_7, k1_l3]; done) | (rw [u1_8, k1_l2]; done) | (rw [u1_9, k1_l2]; done))
theorem k1_rd : s_X9_read_w0 x ft 1 = x 1 := by
  unfold s_X9_read_w0
  dsimp only
  repeat' (first | with_reducible refine it1 ?_ ?_ | (simp only [k1_pt, k1_pl, u1_2, u1_7, u1_8, u1_9, u1_10]; done))
end READ1
section ORS2
variable {T : List Int32} {Hs : List Zs} {s0 s1 : Option Zs} {x9 ft x2 fl : Nat → Int32} {zk zs : Nat → Zs}
theorem or_rd (h : OR T Hs s0 s1 x9 ft x2 zk fl zs) : OR T Hs s0 s1 (s_X9_read_w0 x9 ft) ft x2 zk fl zs := ⟨⟨k1_rd.trans h.1.1, h.1.2⟩, h.2⟩
theorem or_load (h : OR T Hs s0 s1 x9 ft x2 zk fl zs) : OR T [] none none (s_X11_load_w1 x9 ft) ft (s_X11_load_w31 x2) zk (s_X11_load_w33 fl) zs := ⟨(or_rd h).1, ⟨(by unfold s_X11_load_w31 s_X2_forget_w0; rfl), Nat.zero_le _, fun i hi => absurd hi (Nat.not_lt_zero _)⟩, ⟨Or.inl ⟨rfl, rfl⟩, Or.inl ⟨rfl, rfl⟩⟩, h.2.2.2⟩
end ORS2

def nestF : List (String × Nat × String × String × String) := [("RelayTuner", 102, "RelayTuner$State", "swings", "LRelayTuner$Swings;"), ("RelayTuner", 119, "RelayTuner$State", "control", "LRelayTuner$Control;"), ("RelayTuner", 123, "RelayTuner$Control", "tolerance", "I"), ("RelayTuner", 136, "RelayTuner$State", "accounts", "LRelayTuner$Accounts;"), ("RelayTuner", 159, "RelayTuner$Control", "mode", "I"), ("RelayTuner", 200, "RelayTuner$Control", "p", "I"), ("RelayTuner", 203, "RelayTuner$State", "trials", "LRelayTuner$Trials;"), ("RelayTuner", 207, "RelayTuner$Trials", "count", "I"), ("RelayTuner", 217, "RelayTuner$History", "count", "I"), ("RelayTuner", 292, "RelayTuner$State", "clock", "I"), ("RelayTuner", 309, "RelayTuner$Accounts", "output", "I"), ("RelayTuner", 317, "RelayTuner$Swings", "count", "I"), ("RelayTuner", 63, "RelayTuner$Text", "length", "I"), ("RelayTuner", 87, "RelayTuner$State", "plant", "LRelayTuner$Plant;"), ("RelayTuner", 91, "RelayTuner$Plant", "temperature", "I"), ("RelayTuner$Script", 41, "RelayTuner$State", "plant", "LRelayTuner$Plant;"), ("RelayTuner$Script", 45, "RelayTuner$Plant", "temperature", "I"), ("RelayTuner$Script", 55, "RelayTuner$State", "trials", "LRelayTuner$Trials;"), ("RelayTuner$Script", 59, "RelayTuner$Trials", "count", "I"), ("RelayTuner$State", 105, "RelayTuner$Trials", "count", "I"), ("RelayTuner$State", 106, "RelayTuner$Accounts", "output", "I"), ("RelayTuner$State", 128, "RelayTuner$Control", "setPoint", "I"), ("RelayTuner$State", 135, "RelayTuner$Accounts", "crossings", "I"), ("RelayTuner$State", 160, "RelayTuner$Accounts", "disturbances", "I"), ("RelayTuner$State", 168, "RelayTuner$Control", "tolerance", "I"), ("RelayTuner$State", 196, "RelayTuner$Control", "p", "I"), ("RelayTuner$State", 199, "RelayTuner$Control", "i", "I"), ("RelayTuner$State", 202, "RelayTuner$Control", "d", "I"), ("RelayTuner$State", 66, "RelayTuner$Plant", "gain", "I"), ("RelayTuner$State", 69, "RelayTuner$Plant", "inertia", "I"), ("RelayTuner$State", 72, "RelayTuner$Plant", "delay", "I"), ("RelayTuner$State", 75, "RelayTuner$Plant", "ambient", "I"), ("RelayTuner$State", 78, "RelayTuner$Plant", "fullPower", "I"), ("RelayTuner$State", 85, "RelayTuner$Control", "mode", "I"), ("RelayTuner$State", 88, "RelayTuner$Plant", "temperature", "I"), ("RelayTuner$State", 91, "RelayTuner$Control", "relayOn", "Z"), ("RelayTuner$State", 95, "RelayTuner$Control", "sum", "I"), ("RelayTuner$State", 98, "RelayTuner$Swings", "count", "I"), ("RelayTuner$Text", 43, "RelayTuner$State", "plant", "LRelayTuner$Plant;"), ("RelayTuner$Text", 52, "RelayTuner$Plant", "gain", "I"), ("RelayTuner$Text", 58, "RelayTuner$Plant", "inertia", "I"), ("RelayTuner$Text", 62, "RelayTuner$Plant", "delay", "I"), ("RelayTuner$Text", 66, "RelayTuner$Plant", "fullPower", "I"), ("RelayTuner$Text", 70, "RelayTuner$Plant", "ambient", "I"), ("RelayTuner$Text", 71, "RelayTuner$Plant", "temperature", "I"), ("RelayTuner$Text", 74, "RelayTuner$State", "control", "LRelayTuner$Control;"), ("RelayTuner$Text", 78, "RelayTuner$Control", "setPoint", "I"), ("RelayTuner$Text", 81, "RelayTuner$Control", "band", "I"), ("RelayTuner$Text", 82, "RelayTuner$Control", "tolerance", "I"), ("RelayTuner$Trials", 23, "RelayTuner$Control", "p", "I"), ("RelayTuner$Trials", 28, "RelayTuner$Control", "i", "I"), ("RelayTuner$Trials", 31, "RelayTuner$Control", "d", "I"), ("RelayTuner$Trials", 34, "RelayTuner$Control", "mode", "I")]
def nestM : List (String × Nat × MethodName) := [("RelayTuner", 18, ⟨"RelayTuner$State", "<init>", "()V"⟩), ("RelayTuner", 9, ⟨"RelayTuner$Text", "<init>", "()V"⟩), ("RelayTuner$Control", 54, ⟨"RelayTuner", "within", "(III)I"⟩), ("RelayTuner$History", 15, ⟨"RelayTuner$State", "<init>", "()V"⟩), ("RelayTuner$Plant", 57, ⟨"RelayTuner", "within", "(III)I"⟩), ("RelayTuner$Slots", 21, ⟨"RelayTuner$State", "<init>", "()V"⟩), ("RelayTuner$Slots", 22, ⟨"RelayTuner", "isSlot", "(I)Z"⟩), ("RelayTuner$State", 109, ⟨"RelayTuner", "isTicks", "(I)Z"⟩), ("RelayTuner$State", 11, ⟨"RelayTuner$Plant", "<init>", "()V"⟩), ("RelayTuner$State", 138, ⟨"RelayTuner", "isMode", "(I)Z"⟩), ("RelayTuner$State", 147, ⟨"RelayTuner", "isSetting", "(II)Z"⟩), ("RelayTuner$State", 154, ⟨"RelayTuner", "isDisturbance", "(I)Z"⟩), ("RelayTuner$State", 173, ⟨"RelayTuner", "isRule", "(I)Z"⟩), ("RelayTuner$State", 20, ⟨"RelayTuner$Control", "<init>", "()V"⟩), ("RelayTuner$State", 27, ⟨"RelayTuner$Swings", "<init>", "()V"⟩), ("RelayTuner$State", 34, ⟨"RelayTuner$Trials", "<init>", "()V"⟩), ("RelayTuner$State", 41, ⟨"RelayTuner$Accounts", "<init>", "()V"⟩)]
def NN (U : State) : Prop := (∀ q ∈ nestF, va_Nw (.fieldLinkNest q.1 q.2.1 q.2.2.1 q.2.2.2.1 q.2.2.2.2 "RelayTuner") U) ∧ ∀ q ∈ nestM, va_Nw (.methodLinkNest q.1 q.2.1 q.2.2 "RelayTuner") U
theorem NN.warm {s U : State} (hW : s.WarmedH U.vm) (h : NN s) : NN U := ⟨fun q hq => va_Nw.warmF hW (h.1 q hq), fun q hq => va_Nw.warmM hW (h.2 q hq)⟩
theorem NN.same {u U : State} (e : u.vm = U.vm) (h : NN u) : NN U := ⟨fun q hq => va_Nw.same rfl e (h.1 q hq), fun q hq => va_Nw.same rfl e (h.2 q hq)⟩
theorem NN.f {U : State} {A : Array Value} (h : NN U) {a : String} {i : Nat} {b n d : String} (hq : (a, i, b, n, d) ∈ nestF) : (Cond.fieldLinkNest a i b n d "RelayTuner").before A U = true := va_Nw.use rfl (h.1 _ hq)
theorem NN.m {U : State} (h : NN U) {a : String} {i : Nat} {x : MethodName} (hq : (a, i, x) ∈ nestM) : va_Nw (.methodLinkNest a i x "RelayTuner") U := h.2 _ hq
/-- the classes of the arrays: of ints, chars, booleans, States -/
abbrev tyG (y : Nat → ClassId) : List (ClassId × FieldType) := [(y 0, .int), (y 1, .char), (y 2, .boolean), (y 3, .object "RelayTuner$State")]
/-- what every method takes of the tables -/
def KK (G : va_G) (y : Nat → ClassId) (U : State) : Prop := va_K G vwCl (tyG y) U ∧ NN U
theorem KK.warm {G : va_G} {y : Nat → ClassId} {s U : State} (hW : s.WarmedH U.vm) (h : KK G y s) : KK G y U := ⟨va_K.moved hW.alike h.1, NN.warm hW h.2⟩
/-- a reader's start -/
def PR (G : va_G) (y : Nat → ClassId) (av : List Value) (ws : va_W) : Array Value → State → Prop := va_Pc av (fun U => va_P G vwCl ws U.heap ∧ KK G y U)
/-- a writer's start -/
def PH (G : va_G) (y : Nat → ClassId) (av : List Value) (ws : va_W) (sz : Nat) : Array Value → State → Prop := va_Pc av (fun U => U.heap.size = sz ∧ va_P G vwCl ws U.heap ∧ KK G y U ∧ va_D (fun _ => True) ws)
theorem PR_blind {G : va_G} {y : Nat → ClassId} {av : List Value} {ws : va_W} : FrameBlind (PR G y av ws) := fun a U g mk q => by
  obtain ⟨q0, qP, qK, qN⟩ := q
  exact ⟨q0, qP, va_K.moved (u := U) (U := U.calling g mk a) (Vm.Alike.refl U.vm) qK, NN.same (u := U) (U := U.calling g mk a) rfl qN⟩
theorem PH_blind {G : va_G} {y : Nat → ClassId} {av : List Value} {ws : va_W} {sz : Nat} : FrameBlind (PH G y av ws sz) := fun a U g mk q => by
  obtain ⟨q0, q1, qP, ⟨qK, qN⟩, qD⟩ := q
  exact ⟨q0, q1, qP, ⟨va_K.moved (u := U) (U := U.calling g mk a) (Vm.Alike.refl U.vm) qK, NN.same (u := U) (U := U.calling g mk a) rfl qN⟩, qD⟩
theorem fm_of {α β : Type} {f : α → Option β} : ∀ {ps : List α} {l : List β}, ps.map f = l.map some → ps.filterMap f = l
  | [], [], _ => rfl
  | [], _ :: _, h => by simp at h
  | _ :: _, [], h => by simp at h
  | a :: ps, b :: l, h => by
    simp only [List.map_cons, List.cons.injEq] at h
    rw [List.filterMap_cons, h.1, fm_of h.2]
section PRE
variable {G : va_G} {y : Nat → ClassId} {s : State} {H : Heap} {av : List Value} {ws : va_W} {A : Nat → Prop}
theorem PR_S (hP : va_P G vwCl ws H) (hK : va_K G vwCl (tyG y) s) (hN : NN s) : PreS s H (PR G y av ws) av := ⟨PR_blind, fun U hU hW => ⟨rfl, by rw [hU]; exact hP, KK.warm hW ⟨hK, hN⟩⟩⟩
theorem PH_S (hP : va_P G vwCl ws H) (hK : va_K G vwCl (tyG y) s) (hN : NN s) (hD : va_D A ws) : PreS s H (PH G y av ws H.size) av := ⟨PH_blind, fun U hU hW => ⟨rfl, by rw [hU], by rw [hU]; exact hP, KK.warm hW ⟨hK, hN⟩, hD.weaken (fun _ _ _ _ => trivial)⟩⟩
theorem PR_V {a q0 ci : Nat} {q : vw_C} {fs : List Value} (hP : va_P G vwCl ws H) (hK : va_K G vwCl (tyG y) s) (hN : NN s) (hc : vwCl[ci]? = some q) (he : ws[q0]? = some (a, .inr (ci, fs))) : PreV s H q.1 a (PR G y (.ref a :: av) ws) av := ⟨PR_blind, va_recv hK hP hc he, fun U hU hW => ⟨rfl, by rw [hU]; exact hP, KK.warm hW ⟨hK, hN⟩⟩⟩
theorem PH_V {a q0 ci : Nat} {q : vw_C} {fs : List Value} (hP : va_P G vwCl ws H) (hK : va_K G vwCl (tyG y) s) (hN : NN s) (hD : va_D A ws) (hc : vwCl[ci]? = some q) (he : ws[q0]? = some (a, .inr (ci, fs))) : PreV s H q.1 a (PH G y (.ref a :: av) ws H.size) av := ⟨PH_blind, va_recv hK hP hc he, fun U hU hW => ⟨rfl, by rw [hU], by rw [hU]; exact hP, KK.warm hW ⟨hK, hN⟩, hD.weaken (fun _ _ _ _ => trivial)⟩⟩
end PRE
/-- a writer's end: an int, or nothing -/
def QHi (G : va_G) {S : Type} (r : Int32) (w1 : S → va_W) (A : Nat → Prop) : Array Value → State → Outcome → State → Prop := va_Qi (fun (x : Int32) (_ : S) => x = r) (fun u t => va_P G vwCl (w1 u) t.heap ∧ va_D A (w1 u)) A
def QHv (G : va_G) {S : Type} (w1 : S → va_W) (A : Nat → Prop) : Array Value → State → Outcome → State → Prop := va_Qv (fun (_ : S) => True) (fun u t => va_P G vwCl (w1 u) t.heap ∧ va_D A (w1 u)) A
/-- a reader's end -/
def QRi (r : Int32) : Array Value → State → Outcome → State → Prop := vp_Si (fun x => x = r)
def QRl (r : Int64) : Array Value → State → Outcome → State → Prop := vp_Sl (fun x => x = r)
section ENDS
variable {G : va_G} {S : Type} {A : Nat → Prop} {s t : State} {H : Heap} {locs : List Loc} {args : Array Value}
theorem end_Hi {r v : Int32} {w1 : S → va_W} {w : va_W} (u : S) (hP : va_P G vwCl w H) (hD : va_D A w) (hS : va_S A s.heap H locs) (e1 : v = r) (e2 : w = w1 u) : ∀ t : State, t.heap = H → s.WarmedH t.vm → QHi G r w1 A args s (.returned (some (.int v))) t := fun t ht _ => ⟨⟨v, u, rfl, e1, by rw [ht, ← e2]; exact hP, by rw [← e2]; exact hD⟩, hS.F ht⟩
theorem end_Hv {w1 : S → va_W} {w : va_W} (u : S) (hP : va_P G vwCl w H) (hD : va_D A w) (hS : va_S A s.heap H locs) (e2 : w = w1 u) : ∀ t : State, t.heap = H → s.WarmedH t.vm → QHv G w1 A args s (.returned none) t := fun t ht _ => ⟨⟨u, rfl, trivial, by rw [ht, ← e2]; exact hP, by rw [← e2]; exact hD⟩, hS.F ht⟩
theorem end_Ri {r v : Int32} (e1 : v = r) : ∀ t : State, t.heap = s.heap → s.WarmedH t.vm → QRi r args s (.returned (some (.int v))) t := fun _ ht _ => ⟨v, rfl, e1, ht⟩
theorem end_Rl {r v : Int64} (e1 : v = r) : ∀ t : State, t.heap = s.heap → s.WarmedH t.vm → QRl r args s (.returned (some (.long v))) t := fun _ ht _ => ⟨v, rfl, e1, ht⟩
end ENDS
section CALLS
variable {p : Program} {l : Launch} {e : Env} {R : Room} {s : State} {m : MethodId} {args : Array Value} {below : List Frame} {meth : Method} {c : Code} {H : Heap} {locs : List Loc} {cells slots : Nat} {Q : State → Prop}
variable {pc : Nat} {ls : Array Slot} {rest st0 : List Value} {a : Array Value} {A0 : Nat → Prop} {H0 : Heap} {mc ms : Nat} {G : va_G}
theorem cl_Ri {r : Int32} (hr : va_Run p l e R s m args below meth c H locs cells slots 0 0 (F0 m pc ls st0) rest (QRi r a) (fun _ => False)) (kk : W p l e R s m args below meth c H locs cells slots Q (F0 m (pc + 3) ls (.int r :: rest))) : W p l e R s m args below meth c H locs cells slots Q (F0 m pc ls st0) := vp_callSi hr.run (fun x hx => hx ▸ kk)
theorem cl_Rl {r : Int64} (hr : va_Run p l e R s m args below meth c H locs cells slots 0 0 (F0 m pc ls st0) rest (QRl r a) (fun _ => False)) (kk : W p l e R s m args below meth c H locs cells slots Q (F0 m (pc + 3) ls (.long r :: rest))) : W p l e R s m args below meth c H locs cells slots Q (F0 m pc ls st0) := vp_callSl hr.run (fun x hx => hx ▸ kk)
theorem cl_Hi {S : Type} {r : Int32} {wc wr ws : va_W} {w1 : S → va_W} (ws' : S → va_W) (is ir ps : List Nat) (hr : va_Run p l e R s m args below meth c H locs cells slots mc ms (F0 m pc ls st0) rest (QHi G r w1 (va_A wc H.size) a) (va_A wc H.size)) (hP : va_P G vwCl ws H) (hD : va_D A0 ws) (hS : va_S A0 H0 H locs) (hA : ∀ q, H0.size ≤ q → A0 q)
    (h1 : is.map (fun i => ws[i]?) = wc.map some) (h2 : ir.map (fun i => ws[i]?) = wr.map some) (h3 : va_nd ir = true) (h4 : ∀ i ∈ ir, i ∉ is) (h5 : va_nd ps = true) (h6 : ∀ u : S, ps.map (fun i => (wr ++ w1 u)[i]?) = (ws' u).map some)
    (kk : ∀ (u : S) (H1 : Heap) (locs1 : List Loc), va_P G vwCl (ws' u) H1 → va_D A0 (ws' u) → va_S A0 H0 H1 locs1 → W p l e R s m args below meth c H1 locs1 (cells + mc) (slots + ms) Q (F0 m (pc + 3) ls (.int r :: rest))) : W p l e R s m args below meth c H locs cells slots Q (F0 m pc ls st0) := by
  have hF := va_free (wc := wc) hD hS hA is h1
  refine va_calli hr hS (fun q _ h => hF q h) hF (fun x u t H1 locs1 ht hvm hx hB hz hk hS1 => ?_)
  obtain ⟨hP1, hD1⟩ := hB
  rw [ht] at hP1
  obtain ⟨hP2, hD2⟩ := va_join (wr := wr) (w1 := w1 u) hP hD is ir h1 h2 h3 h4 hk hF hP1 hD1
  have hx : x = r := hx
  rw [hx]
  exact kk u H1 locs1 (hP2.sub ps (fm_of (h6 u))) (hD2.sub ps h5 (h6 u)) hS1
theorem cl_Hv {S : Type} {wc wr ws : va_W} {w1 : S → va_W} (ws' : S → va_W) (is ir ps : List Nat) (hr : va_Run p l e R s m args below meth c H locs cells slots mc ms (F0 m pc ls st0) rest (QHv G w1 (va_A wc H.size) a) (va_A wc H.size)) (hP : va_P G vwCl ws H) (hD : va_D A0 ws) (hS : va_S A0 H0 H locs) (hA : ∀ q, H0.size ≤ q → A0 q)
    (h1 : is.map (fun i => ws[i]?) = wc.map some) (h2 : ir.map (fun i => ws[i]?) = wr.map some) (h3 : va_nd ir = true) (h4 : ∀ i ∈ ir, i ∉ is) (h5 : va_nd ps = true) (h6 : ∀ u : S, ps.map (fun i => (wr ++ w1 u)[i]?) = (ws' u).map some)
    (kk : ∀ (u : S) (H1 : Heap) (locs1 : List Loc), va_P G vwCl (ws' u) H1 → va_D A0 (ws' u) → va_S A0 H0 H1 locs1 → W p l e R s m args below meth c H1 locs1 (cells + mc) (slots + ms) Q (F0 m (pc + 3) ls rest)) : W p l e R s m args below meth c H locs cells slots Q (F0 m pc ls st0) := by
  have hF := va_free (wc := wc) hD hS hA is h1
  refine va_callv hr hS (fun q _ h => hF q h) hF (fun u t H1 locs1 ht hvm _ hB hz hk hS1 => ?_)
  obtain ⟨hP1, hD1⟩ := hB
  rw [ht] at hP1
  obtain ⟨hP2, hD2⟩ := va_join (wr := wr) (w1 := w1 u) hP hD is ir h1 h2 h3 h4 hk hF hP1 hD1
  exact kk u H1 locs1 (hP2.sub ps (fm_of (h6 u))) (hD2.sub ps h5 (h6 u)) hS1
end CALLS
section ROWS
variable {p : Program} {l : Launch} {e : Env} {R : Room} {s : State} {m : MethodId} {args : Array Value} {below : List Frame} {meth : Method} {c : Code} {H : Heap} {locs : List Loc} {cells slots : Nat} {Q : State → Prop}
variable {pc : Nat} {ls : Array Slot} {rest : List Value} {cc : ByteArray} {A : Nat → Prop} {H0 : Heap} {D : va_G} {cl : List vw_C} {tys : List (ClassId × FieldType)} {ws : va_W} {a : Nat}
theorem vin_of {i : Int32} {j n : Nat} (hj : i = nI j) (hn : j < n) (hN : n < 1000000) : vp_in i n ∧ i.toNatClampNeg = j := by
  subst hj
  have h31 : j < 2 ^ 31 := by omega
  exact ⟨vp_in_nI hn (by omega), nI_clamp h31⟩
/-- an element of a row of ints, at a place that is known -/
theorem al_i (hexec : p.tables.exec = Jvm.exec) (hb : c.code = cc) (hK : va_K D cl tys s) (hP : va_P D cl ws H) (q0 t0 : Nat) {cA : ClassId} {n : Nat} {f : Nat → Int32} (ha : ws[q0]? = some (a, .inl (cA, n, .inl f))) (ht : tys[t0]? = some (cA, .int)) {i : Int32} (j : Nat) (hj : i = nI j) (hn : j < n) (hN : n < 1000000) (hdg : decode cc pc = .ok (.iaload, 1))
    (kk : W p l e R s m args below meth c H locs cells slots Q (F0 m (pc + 1) ls (.int (f j) :: rest))) : W p l e R s m args below meth c H locs cells slots Q (F0 m pc ls (.int i :: .ref a :: rest)) := by
  obtain ⟨h1, h2⟩ := vin_of hj hn hN
  refine va_iald hexec hb hK hP q0 t0 ha ht h1 hdg ?_
  rw [h2]
  exact kk
theorem al_c (hexec : p.tables.exec = Jvm.exec) (hb : c.code = cc) (hK : va_K D cl tys s) (hP : va_P D cl ws H) (q0 t0 : Nat) {cA : ClassId} {n : Nat} {f : Nat → Int32} (ha : ws[q0]? = some (a, .inl (cA, n, .inl f))) (ht : tys[t0]? = some (cA, .char)) {i : Int32} (j : Nat) (hj : i = nI j) (hn : j < n) (hN : n < 1000000) (hdg : decode cc pc = .ok (.caload, 1))
    (kk : W p l e R s m args below meth c H locs cells slots Q (F0 m (pc + 1) ls (.int (f j) :: rest))) : W p l e R s m args below meth c H locs cells slots Q (F0 m pc ls (.int i :: .ref a :: rest)) := by
  obtain ⟨h1, h2⟩ := vin_of hj hn hN
  refine va_cald hexec hb hK hP q0 t0 ha ht h1 hdg ?_
  rw [h2]
  exact kk
theorem al_z (hexec : p.tables.exec = Jvm.exec) (hb : c.code = cc) (hK : va_K D cl tys s) (hP : va_P D cl ws H) (q0 t0 : Nat) {cA : ClassId} {n : Nat} {f : Nat → Int32} (ha : ws[q0]? = some (a, .inl (cA, n, .inl f))) (ht : tys[t0]? = some (cA, .boolean)) {i : Int32} (j : Nat) (hj : i = nI j) (hn : j < n) (hN : n < 1000000) (hdg : decode cc pc = .ok (.baload, 1))
    (kk : W p l e R s m args below meth c H locs cells slots Q (F0 m (pc + 1) ls (.int (f j) :: rest))) : W p l e R s m args below meth c H locs cells slots Q (F0 m pc ls (.int i :: .ref a :: rest)) := by
  obtain ⟨h1, h2⟩ := vin_of hj hn hN
  refine va_zald hexec hb hK hP q0 t0 ha ht h1 hdg ?_
  rw [h2]
  exact kk
theorem as_i (hexec : p.tables.exec = Jvm.exec) (hb : c.code = cc) (hK : va_K D cl tys s) (hP : va_P D cl ws H) (hD : va_D A ws) (hS : va_S A H0 H locs) (q0 t0 : Nat) {cA : ClassId} {n : Nat} {f : Nat → Int32} (ha : ws[q0]? = some (a, .inl (cA, n, .inl f))) (ht : tys[t0]? = some (cA, .int)) {i x : Int32} (j : Nat) (hj : i = nI j) (hn : j < n) (hN : n < 1000000) (hdg : decode cc pc = .ok (.iastore, 1))
    (kk : ∀ (H1 : Heap) (locs1 : List Loc), va_P D cl (ws.set q0 (a, .inl (cA, n, .inl (upd f j x)))) H1 → va_D A (ws.set q0 (a, .inl (cA, n, .inl (upd f j x)))) → va_S A H0 H1 locs1 → W p l e R s m args below meth c H1 locs1 cells slots Q (F0 m (pc + 1) ls rest)) : W p l e R s m args below meth c H locs cells slots Q (F0 m pc ls (.int x :: .int i :: .ref a :: rest)) := by
  obtain ⟨h1, h2⟩ := vin_of hj hn hN
  refine va_iast hexec hb hK hP hD hS q0 t0 ha ht h1 hdg ?_
  rw [h2]
  exact kk
theorem as_c (hexec : p.tables.exec = Jvm.exec) (hb : c.code = cc) (hK : va_K D cl tys s) (hP : va_P D cl ws H) (hD : va_D A ws) (hS : va_S A H0 H locs) (q0 t0 : Nat) {cA : ClassId} {n : Nat} {f : Nat → Int32} (ha : ws[q0]? = some (a, .inl (cA, n, .inl f))) (ht : tys[t0]? = some (cA, .char)) {i x : Int32} (j : Nat) (hj : i = nI j) (hn : j < n) (hN : n < 1000000) (hdg : decode cc pc = .ok (.castore, 1))
    (kk : ∀ (H1 : Heap) (locs1 : List Loc), va_P D cl (ws.set q0 (a, .inl (cA, n, .inl (upd f j (vp_nar .char x))))) H1 → va_D A (ws.set q0 (a, .inl (cA, n, .inl (upd f j (vp_nar .char x))))) → va_S A H0 H1 locs1 → W p l e R s m args below meth c H1 locs1 cells slots Q (F0 m (pc + 1) ls rest)) : W p l e R s m args below meth c H locs cells slots Q (F0 m pc ls (.int x :: .int i :: .ref a :: rest)) := by
  obtain ⟨h1, h2⟩ := vin_of hj hn hN
  refine va_cast hexec hb hK hP hD hS q0 t0 ha ht h1 hdg ?_
  rw [h2]
  exact kk
theorem as_z (hexec : p.tables.exec = Jvm.exec) (hb : c.code = cc) (hK : va_K D cl tys s) (hP : va_P D cl ws H) (hD : va_D A ws) (hS : va_S A H0 H locs) (q0 t0 : Nat) {cA : ClassId} {n : Nat} {f : Nat → Int32} (ha : ws[q0]? = some (a, .inl (cA, n, .inl f))) (ht : tys[t0]? = some (cA, .boolean)) {i x : Int32} (j : Nat) (hj : i = nI j) (hn : j < n) (hN : n < 1000000) (hdg : decode cc pc = .ok (.bastore, 1))
    (kk : ∀ (H1 : Heap) (locs1 : List Loc), va_P D cl (ws.set q0 (a, .inl (cA, n, .inl (upd f j (vp_nar .boolean x))))) H1 → va_D A (ws.set q0 (a, .inl (cA, n, .inl (upd f j (vp_nar .boolean x))))) → va_S A H0 H1 locs1 → W p l e R s m args below meth c H1 locs1 cells slots Q (F0 m (pc + 1) ls rest)) : W p l e R s m args below meth c H locs cells slots Q (F0 m pc ls (.int x :: .int i :: .ref a :: rest)) := by
  obtain ⟨h1, h2⟩ := vin_of hj hn hN
  refine va_zast hexec hb hK hP hD hS q0 t0 ha ht h1 hdg ?_
  rw [h2]
  exact kk
/-- the top of the stack under another name -/
theorem rw_i {x x' : Int32} (h : x = x') (k : W p l e R s m args below meth c H locs cells slots Q (F0 m pc ls (.int x' :: rest))) : W p l e R s m args below meth c H locs cells slots Q (F0 m pc ls (.int x :: rest)) := h ▸ k
theorem tb_out {x : Int32} {lo hi : Int} (h : ∀ k : Int, lo ≤ k → k ≤ hi → x.toInt ≠ k) : x.toInt < lo ∨ hi < x.toInt := by
  by_cases q : x.toInt < lo
  · exact Or.inl q
  · by_cases q2 : hi < x.toInt
    · exact Or.inr q2
    · exact absurd rfl (h x.toInt (by omega) (by omega))
end ROWS
theorem nz_bool {v : Int32} (h : v = 0 ∨ v = 1) : narrow .boolean (.int v) = .int v := by rcases h with rfl | rfl <;> rfl
theorem fz_bool {v : Int32} (h : v = 0 ∨ v = 1) : fits .boolean (.int v) = true := by rcases h with rfl | rfl <;> rfl
theorem z01 {c : Prop} [Decidable c] : (if c then (1 : Int32) else 0) = 0 ∨ (if c then (1 : Int32) else 0) = 1 := by by_cases h : c <;> simp [h]
theorem z10 {c : Prop} [Decidable c] : (if c then (0 : Int32) else 1) = 0 ∨ (if c then (0 : Int32) else 1) = 1 := by by_cases h : c <;> simp [h]
theorem z_ite {c : Prop} [Decidable c] {a b : Int32} (ha : a = 0 ∨ a = 1) (hb : b = 0 ∨ b = 1) : (if c then a else b) = 0 ∨ (if c then a else b) = 1 := by by_cases h : c <;> simp [h, ha, hb]
theorem ite_at {c : Prop} [Decidable c] {f g : Nat → Int32} {j : Nat} {v : Int32} (h1 : f j = v) (h2 : g j = v) : (if c then f else g) j = v := by by_cases h : c <;> simp [h, h1, h2]
/-- the kinds of cells -/
abbrev aI (y : Nat → ClassId) (h n : Nat) (f : Nat → Int32) : Nat × va_E := (h, .inl (y 0, n, .inl f))
abbrev aC (y : Nat → ClassId) (h n : Nat) (f : Nat → Int32) : Nat × va_E := (h, .inl (y 1, n, .inl f))
abbrev aZ (y : Nat → ClassId) (h n : Nat) (f : Nat → Int32) : Nat × va_E := (h, .inl (y 2, n, .inl f))
abbrev aQ (y : Nat → ClassId) (h n : Nat) (f : Nat → Option Nat) : Nat × va_E := (h, .inl (y 3, n, .inr (.inr (.inr (.inr f)))))
abbrev kX0 (h t : Nat) (x : Nat → Int32) : Nat × va_E := (h, .inr (0, [.ref t, .int (x 1), .int (x 2), .int (x 3), .int (x 4), .int (x 5)]))
abbrev kX1 (h : Nat) (x : Nat → Int32) : Nat × va_E := (h, .inr (1, [.int (x 0), .int (x 1), .int (x 2), .int (x 3), .int (x 4), .int (x 5), .int (x 6), .int (x 7), .int (x 8), .int (x 9), .int (x 10)]))
abbrev kX2 (h a : Nat) (x : Nat → Int32) : Nat × va_E := (h, .inr (2, [.ref a, .int (x 1)]))
abbrev kX3 (h p : Nat) (x : Nat → Int32) : Nat × va_E := (h, .inr (3, [.int (x 0), .int (x 1), .int (x 2), .int (x 3), .int (x 4), .int (x 5), .ref p, .int (x 7)]))
abbrev kX6 (h a b : Nat) (x : Nat → Int32) : Nat × va_E := (h, .inr (4, [.ref a, .ref b]))
abbrev kX7 (h q1 q2 q3 q4 q5 : Nat) (x : Nat → Int32) : Nat × va_E := (h, .inr (5, [.int (x 0), .ref q1, .ref q2, .ref q3, .ref q4, .ref q5]))
abbrev kX8 (h q1 q2 q3 q4 q5 : Nat) (x : Nat → Int32) : Nat × va_E := (h, .inr (6, [.int (x 0), .ref q1, .ref q2, .ref q3, .ref q4, .ref q5, .int (x 6), .int (x 7), .int (x 8), .int (x 9)]))
abbrev kX9 (h q : Nat) (x : Nat → Int32) : Nat × va_E := (h, .inr (7, [.ref q, .int (x 1), .int (x 2), .int (x 3), .int (x 4), .int (x 5), .int (x 6), .int (x 7), .int (x 8), .int (x 9), .int (x 10), .int (x 11)]))
abbrev kX10 (h q : Nat) (x : Nat → Int32) : Nat × va_E := (h, .inr (8, [.int (x 0), .ref q]))
abbrev kX11 (h q0 q1 q2 q3 q4 q5 : Nat) (x : Nat → Int32) : Nat × va_E := (h, .inr (9, [.ref q0, .ref q1, .ref q2, .ref q3, .ref q4, .ref q5]))
abbrev kX12 (h q1 q4 q5 q6 q7 q9 q10 q11 : Nat) (x : Nat → Int32) : Nat × va_E := (h, .inr (10, [.int (x 0), .ref q1, .int (x 2), .int (x 3), .ref q4, .ref q5, .ref q6, .ref q7, .int (x 8), .ref q9, .ref q10, .ref q11, .int (x 12), .int (x 13), .int (x 14)]))
theorem pnil {G : va_G} {cl : List vw_C} {H : Heap} : va_P G cl [] H := fun k q h => by simp at h
theorem dnil {A : Nat → Prop} : va_D A [] := ⟨fun i j p q h => by simp at h, fun k q h => by simp at h⟩
theorem klt {x B : Int32} {k N : Nat} (hx : x = nI k) (hB : B = nI N) (hk : k < 2 ^ 31) (hN : N < 2 ^ 31) (h : ¬ B ≤ x) : k < N := by
  subst hx; subst hB
  rcases Nat.lt_or_ge k N with q | q
  · exact q
  · exact absurd (nI_le q hk) h
theorem kge {x B : Int32} {k N : Nat} (hx : x = nI k) (hB : B = nI N) (hk : k < 2 ^ 31) (hN : N < 2 ^ 31) (h : B ≤ x) : N ≤ k := by
  subst hx; subst hB
  exact (nI_leI hN hk).mp h
/-- a row's places beyond its size don't matter -/
theorem va_P.alike {G : va_G} {cl : List vw_C} {ws ws' : va_W} {H : Heap} (hP : va_P G cl ws H) (h : ∀ (k : Nat) (q' : Nat × va_E), ws'[k]? = some q' → ∃ q : Nat × va_E, ws[k]? = some q ∧ (q = q' ∨ ∃ (cI : ClassId) (n : Nat) (f g : Nat → Int32), q = (q'.1, .inl (cI, n, .inl f)) ∧ q'.2 = .inl (cI, n, .inl g) ∧ ∀ j, j < n → f j = g j)) : va_P G cl ws' H := by
  intro k q' hk
  obtain ⟨q, h1, h2⟩ := h k q' hk
  have h3 := hP k q h1
  rcases h2 with rfl | ⟨cI, n, f, g, rfl, h4, h5⟩
  · exact h3
  · obtain ⟨a, e9⟩ := q'
    have h4 : e9 = .inl (cI, n, .inl g) := h4
    subst h4
    have h3 : H[a]? = some (vp_cell cI (n, .inl f)) := h3
    show H[a]? = some (vp_cell cI (n, .inl g))
    rw [h3]
    have e8 : (fun j : Fin n => Value.int (f j.val)) = fun j : Fin n => Value.int (g j.val) := funext (fun j => by rw [h5 j.val j.isLt])
    show some (arrV cI n (fun j => .int (f j))) = some (arrV cI n (fun j => .int (g j)))
    unfold arrV
    rw [e8]
theorem alike1 {G : va_G} {cl : List vw_C} {ws : va_W} {H : Heap} {i a n : Nat} {cI : ClassId} {f g : Nat → Int32} (hP : va_P G cl ws H) (h : ws[i]? = some (a, .inl (cI, n, .inl f))) (he : ∀ j, j < n → f j = g j) : va_P G cl (ws.set i (a, .inl (cI, n, .inl g))) H := by
  refine va_P.alike hP (fun k q' hk => ?_)
  rw [List.getElem?_set] at hk
  by_cases e : i = k
  · subst e
    rw [if_pos rfl] at hk
    split at hk
    · cases Option.some.inj hk
      exact ⟨_, h, Or.inr ⟨cI, n, f, g, rfl, rfl, he⟩⟩
    · cases hk
  · rw [if_neg e] at hk
    exact ⟨q', hk, Or.inl rfl⟩
theorem cpy_all {α : Type} {f g : Nat → α} {n j : Nat} (h : j < n) : va_cpy f g 0 0 n j = f j := by
  simp only [va_cpy]
  rw [if_pos (by omega)]
  congr 1
  omega
/-- a page that begins at place u -/
def pgAt (f : Nat → Int32) (u : Nat) : Nat → Int32 := fun j => f (u + j)
theorem cpy_at {f g : Nat → Int32} {u n j : Nat} (h : j < n) : va_cpy f g u 0 n j = pgAt f u j := by
  simp only [va_cpy, pgAt]
  rw [if_pos (by omega)]
  congr 1
/-- what is left in the model's working numbers between calls is free -/
def scX (x u : Nat → Int32) : Nat → Int32 := fun j => if j < 12 then x j else u j
theorem scX_eq {x u : Nat → Int32} {h q1 q4 q5 q6 q7 q9 q10 q11 : Nat} (hu : ∀ j, j < 12 → u j = x j) : kX12 h q1 q4 q5 q6 q7 q9 q10 q11 u = kX12 h q1 q4 q5 q6 q7 q9 q10 q11 (scX x u) := by
  unfold kX12
  rw [hu 0 (by decide), hu 2 (by decide), hu 3 (by decide), hu 8 (by decide)]
  rfl


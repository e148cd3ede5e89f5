/-! ===== States that are kept in a row of references ===== -/
section ROWQ
variable {p : Program} {l : Launch} {e : Env} {R : Room} {s : State} {m : MethodId} {args : Array Value} {below : List Frame} {meth : Method} {c : Code} {H : Heap} {locs : List Loc} {cells slots : Nat} {Q : State → Prop}
variable {pc : Nat} {ls : Array Slot} {rest : List Value} {cc : ByteArray} {A : Nat → Prop} {H0 : Heap} {D : va_G} {cl : List vw_C} {tys : List (ClassId × FieldType)} {ws : va_W} {a : Nat}
theorem al_q (hexec : p.tables.exec = Jvm.exec) (hb : c.code = cc) (hK : va_K D cl tys s) (hP : va_P D cl ws H) (q0 t0 : Nat) {cA : ClassId} {C : String} {n : Nat} {f : Nat → Option Nat} (ha : ws[q0]? = some (a, .inl (cA, n, .inr (.inr (.inr (.inr f)))))) (ht : tys[t0]? = some (cA, .object C)) {i : Int32} (j : Nat) (hj : i = nI j) (hn : j < n) (hN : n < 1000000) {v : Nat} (hv : f j = some v) (hdg : decode cc pc = .ok (.aaload, 1))
    (kk : W p l e R s m args below meth c H locs cells slots Q (F0 m (pc + 1) ls (.ref v :: rest))) : W p l e R s m args below meth c H locs cells slots Q (F0 m pc ls (.int i :: .ref a :: rest)) := by
  obtain ⟨h1, h2⟩ := vin_of hj hn hN
  refine va_aldq hexec hb hK hP q0 t0 ha ht h1 hdg ?_
  rw [h2, hv]
  exact kk
theorem as_q (hexec : p.tables.exec = Jvm.exec) (hb : c.code = cc) (hK : va_K D cl tys s) (hP : va_P D cl ws H) (hD : va_D A ws) (hS : va_S A H0 H locs) (q0 t0 : Nat) {cA : ClassId} {E : String} {n : Nat} {f g : Nat → Option Nat} (ha : ws[q0]? = some (a, .inl (cA, n, .inr (.inr (.inr (.inr f)))))) (ht : tys[t0]? = some (cA, .object E)) {v : Nat} (hr : va_Any E s H v) {i : Int32} (j : Nat) (hj : i = nI j) (hn : j < n) (hN : n < 1000000) (hg : va_up f j (some v) = g) (hdg : decode cc pc = .ok (.aastore, 1))
    (kk : ∀ (H1 : Heap) (locs1 : List Loc), va_P D cl (ws.set q0 (a, .inl (cA, n, .inr (.inr (.inr (.inr g)))))) H1 → va_D A (ws.set q0 (a, .inl (cA, n, .inr (.inr (.inr (.inr g)))))) → va_S A H0 H1 locs1 → W p l e R s m args below meth c H1 locs1 cells slots Q (F0 m (pc + 1) ls rest)) : W p l e R s m args below meth c H locs cells slots Q (F0 m pc ls (.ref v :: .int i :: .ref a :: rest)) := by
  obtain ⟨h1, h2⟩ := vin_of hj hn hN
  refine va_astqM hexec hb hK hP hD hS q0 t0 ha ht hr h1 hdg ?_
  rw [h2, hg]
  exact kk
end ROWQ
theorem alikeQ {G : va_G} {cl : List vw_C} {ws : va_W} {H : Heap} {i a n : Nat} {cI : ClassId} {f g : Nat → Option Nat} (hP : va_P G cl ws H) (h : ws[i]? = some (a, .inl (cI, n, .inr (.inr (.inr (.inr f)))))) (he : ∀ j, j < n → f j = g j) : va_P G cl (ws.set i (a, .inl (cI, n, .inr (.inr (.inr (.inr g)))))) H := by
  intro k q' hk
  rw [List.getElem?_set] at hk
  by_cases e : i = k
  · subst e
    rw [if_pos rfl] at hk
    split at hk
    · cases Option.some.inj hk
      have h3 : H[a]? = some (vp_cell cI (n, .inr (.inr (.inr (.inr f))))) := hP i _ h
      show H[a]? = some (vp_cell cI (n, .inr (.inr (.inr (.inr g)))))
      rw [h3, vp_cell_q, vp_cell_q]
      have e8 : (fun j : Fin n => va_rf (f j.val)) = fun j : Fin n => va_rf (g j.val) := funext (fun j => by rw [he j.val j.isLt])
      unfold arrV
      rw [e8]
    · cases hk
  · rw [if_neg e] at hk
    exact hP k q' hk
/-- n States that are kept -/
def kW (y : Nat → ClassId) (ad : Nat → Nat → Nat) (zk : Nat → Nat → Nat → Int32) (ok : Nat → Nat → Int32) (n : Nat) : va_W := kpW (fun i => stB y (ad i) (zk i) (ok i)) n
abbrev kX (y : Nat → ClassId) (ad : Nat → Nat → Nat) (zk : Nat → Nat → Nat → Int32) (ok : Nat → Nat → Int32) (n k : Nat) : va_W := kpR (fun i => stB y (ad i) (zk i) (ok i)) n k
def uK {α : Type} (f : Nat → α) (k : Nat) (v : α) : Nat → α := fun i => if i = k then v else f i
def tK {α : Type} (f : Nat → α) : Nat → α := fun i => if i = 13 then f 0 else if i < 13 then f (i + 1) else f i
theorem kp_cong {B B' : Nat → va_W} {n : Nat} (h : ∀ i, i < n → B i = B' i) : kpW B n = kpW B' n := by
  unfold kpW
  congr 1
  exact List.map_congr_left (fun i hi => h i (List.mem_range.mp hi))
theorem kp_mem {B : Nat → va_W} {n k : Nat} (h : k < n) {q : Nat × va_E} (hq : q ∈ B k) : q ∈ kpW B n := List.mem_flatten.mpr ⟨B k, List.mem_map.mpr ⟨k, List.mem_range.mpr h, rfl⟩, hq⟩
section KW
variable {G : va_G} {y : Nat → ClassId} {s : State} {H : Heap} {E ws : va_W} {ad : Nat → Nat → Nat} {zk : Nat → Nat → Nat → Int32} {ok : Nat → Nat → Int32} {n k : Nat}
theorem q_any (hK : va_K G vwCl (tyG y) s) (hP : va_P G vwCl ws H) {a : Nat} {fs : List Value} (h : ((a, .inr (5, fs)) : Nat × va_E) ∈ ws) : va_Any "RelayTuner$State" s H a := by
  obtain ⟨k, hk⟩ := List.getElem?_of_mem h
  have hcls := (hK.1 5 _ (show vwCl[5]? = some _ from rfl)).2
  have e1 : s.vm.findClass "RelayTuner$State" = some (G.1 5) := hcls.1
  refine va_rAny (ci := 5) hK hP hk rfl (fun comp c0 h1 h2 => ?_)
  have h2 : s.vm.findClass "RelayTuner$State" = some c0 := h2
  rw [e1] at h1 h2
  cases h1
  cases h2
  exact va_assign hcls
theorem kW_any (hK : va_K G vwCl (tyG y) s) (hP : va_P G vwCl (E ++ kW y ad zk ok n) H) (h : k < n) : va_Any "RelayTuner$State" s H (ad k 0) := by
  refine q_any (fs := [.int (zk k 0 0), .ref (ad k 1), .ref (ad k 3), .ref (ad k 4), .ref (ad k 10), .ref (ad k 12)]) hK hP (List.mem_append.mpr (Or.inr ?_))
  unfold kW
  exact kp_mem h List.mem_cons_self
theorem kW_pick (h : k < n) : (E ++ kW y ad zk ok n).Perm (E ++ stB y (ad k) (zk k) (ok k) ++ kX y ad zk ok n k) := by
  rw [List.append_assoc]
  exact List.Perm.append_left E (kp_pick h)
theorem kW_put {z : Nat → Nat → Int32} (h : k < n) : (E ++ stB y (ad k) z (ok k) ++ kX y ad zk ok n k).Perm (E ++ kW y ad (uK zk k z) ok n) := by
  rw [List.append_assoc]
  refine List.Perm.append_left E ?_
  have h1 := kp_put (B := fun i => stB y (ad i) (zk i) (ok i)) (b := stB y (ad k) z (ok k)) h
  have e : kpU (fun i => stB y (ad i) (zk i) (ok i)) k (stB y (ad k) z (ok k)) = fun i => stB y (ad i) (uK zk k z i) (ok i) := by
    funext i
    unfold kpU uK
    by_cases q : i = k
    · subst q
      rw [if_pos rfl, if_pos rfl]
    · rw [if_neg q, if_neg q]
  rw [e] at h1
  exact h1.symm
theorem kW_turn : (E ++ kW y (tK ad) (tK zk) (tK ok) 14).Perm (E ++ kW y ad zk ok 14) := by
  refine List.Perm.append_left E ?_
  have h := kp_turn (B := fun i => stB y (ad i) (zk i) (ok i)) (n := 13)
  have e : kpW (kpT (fun i => stB y (ad i) (zk i) (ok i)) 13) 14 = kW y (tK ad) (tK zk) (tK ok) 14 := kp_cong (fun i hi => by
    unfold kpT tK
    by_cases q : i = 13
    · rw [if_pos q, if_pos q, if_pos q, if_pos q]
    · rw [if_neg q, if_neg q, if_neg q, if_neg q, if_pos (by omega), if_pos (by omega), if_pos (by omega)])
  rw [e] at h
  exact h
/-- one more block behind the others -/
theorem kW_new {a : Nat → Nat} {z : Nat → Nat → Int32} {o : Nat → Int32} : (E ++ stB y a z o ++ kW y ad (fun _ => z) (fun _ => o) n).Perm (E ++ kW y (uK ad n a) (fun _ => z) (fun _ => o) (n + 1)) := by
  rw [List.append_assoc]
  refine List.Perm.append_left E ?_
  have e : kW y (uK ad n a) (fun _ => z) (fun _ => o) (n + 1) = kW y ad (fun _ => z) (fun _ => o) n ++ stB y a z o := by
    unfold kW kpW
    rw [List.range_succ, List.map_append, List.flatten_append]
    have e1 : ((List.range n).map (fun i => stB y (uK ad n a i) z o)) = (List.range n).map (fun i => stB y (ad i) z o) := List.map_congr_left (fun i hi => by
      have := List.mem_range.mp hi
      unfold uK
      rw [if_neg (by omega)])
    have e2 : (([n].map (fun i => stB y (uK ad n a i) z o)) : List va_W).flatten = stB y a z o := by
      show stB y (uK ad n a n) z o ++ [] = stB y a z o
      rw [List.append_nil]
      unfold uK
      rw [if_pos rfl]
    rw [e1, e2]
  rw [e]
  exact List.perm_append_comm
end KW
/-- m references moved to the left -/
def qT (ad : Nat → Nat → Nat) (m : Nat) : Nat → Option Nat := fun i => if i < m then some (ad (i + 1) 0) else some (ad i 0)
theorem qT_0 {ad : Nat → Nat → Nat} : (fun i => some (ad i 0)) = qT ad 0 := by
  funext i
  unfold qT
  rw [if_neg (Nat.not_lt_zero _)]
theorem qT_at {ad : Nat → Nat → Nat} {k : Nat} : qT ad k (k + 1) = some (ad (k + 1) 0) := by
  unfold qT
  rw [if_neg (by omega)]
theorem qT_up {ad : Nat → Nat → Nat} {k : Nat} : va_up (qT ad k) k (some (ad (k + 1) 0)) = qT ad (k + 1) := by
  funext i
  unfold va_up qT
  by_cases q : i = k
  · subst q
    rw [if_pos rfl, if_pos (by omega)]
  · rw [if_neg q]
    by_cases q2 : i < k
    · rw [if_pos q2, if_pos (by omega)]
    · rw [if_neg q2, if_neg (by omega)]
theorem qT_end {ad : Nat → Nat → Nat} : va_up (qT ad 13) 13 (some (ad 0 0)) = fun i => some (tK ad i 0) := by
  funext i
  unfold va_up qT tK
  by_cases q : i = 13
  · rw [if_pos q, if_pos q]
  · rw [if_neg q, if_neg q]
    by_cases q2 : i < 13
    · rw [if_pos q2, if_pos q2]
    · rw [if_neg q2, if_neg q2]
/-- k references are laid -/
def qF (ad : Nat → Nat → Nat) (k : Nat) : Nat → Option Nat := fun i => if i < k then some (ad i 0) else none
theorem qF_0 {ad : Nat → Nat → Nat} : (fun _ => none) = qF ad 0 := by
  funext i
  unfold qF
  rw [if_neg (Nat.not_lt_zero _)]
theorem qF_up {ad : Nat → Nat → Nat} {k : Nat} {a : Nat → Nat} : va_up (qF ad k) k (some (a 0)) = qF (uK ad k a) (k + 1) := by
  funext i
  unfold va_up qF uK
  by_cases q : i = k
  · subst q
    rw [if_pos rfl, if_pos (by omega), if_pos rfl]
  · rw [if_neg q, if_neg q]
    by_cases q2 : i < k
    · rw [if_pos q2, if_pos (by omega)]
    · rw [if_neg q2, if_neg (by omega)]
theorem qF_all {ad : Nat → Nat → Nat} {n j : Nat} (h : j < n) : qF ad n j = (fun i => some (ad i 0)) j := by
  unfold qF
  rw [if_pos h]
/-- the history's turn, when it is full -/
def rmT {α : Type} (c : Nat) (f : Nat → α) : Nat → α := if c < 14 then f else tK f
def rmC (c : Nat) : Nat := if c < 14 then c else 13
/-- a new State's block -/
def zI : Nat → Nat → Int32 := fun i => match i with
  | 1 => i_X3_init_0
  | 3 => i_X1_init_0
  | _ => Z0
def csA (h : Nat) (u : Nat → Nat) : Nat → Nat := fun j => match j with
  | 0 => h
  | j + 1 => u j
section CALLX
variable {p : Program} {l : Launch} {e : Env} {R : Room} {s : State} {m : MethodId} {args : Array Value} {below : List Frame} {meth : Method} {c : Code} {H : Heap} {locs : List Loc} {cells slots : Nat} {Q : State → Prop}
variable {pc : Nat} {ls : Array Slot} {rest st0 : List Value} {a : Array Value} {A0 : Nat → Prop} {H0 : Heap} {mc ms : Nat} {G : va_G}
/-- the callee makes a tail -/
theorem cl_HvX {S : Type} {wc wr E : va_W} {w1 : S → va_W} (E' T' : S → va_W) (is ir ps : List Nat) (hr : va_Run p l e R s m args below meth c H locs cells slots mc ms (F0 m pc ls st0) rest (QHv G (fun u => w1 u ++ T' u) (va_A wc H.size) a) (va_A wc H.size)) (hP : va_P G vwCl E H) (hD : va_D A0 E) (hS : va_S A0 H0 H locs) (hA : ∀ q, H0.size ≤ q → A0 q)
    (h1 : (ir ++ is).map (fun i => E[i]?) = (wr ++ wc).map some) (h3 : va_nd (ir ++ is) = true) (h5 : va_nd ps = true) (h6 : ∀ u : S, ps.map (fun i => (wr ++ w1 u)[i]?) = (E' u).map some)
    (kk : ∀ (u : S) (H1 : Heap) (locs1 : List Loc), va_P G vwCl (E' u ++ T' u) H1 → va_D A0 (E' u ++ T' u) → va_S A0 H0 H1 locs1 → W p l e R s m args below meth c H1 locs1 (cells + mc) (slots + ms) Q (F0 m (pc + 3) ls rest)) : W p l e R s m args below meth c H locs cells slots Q (F0 m pc ls st0) := by
  have n1 : va_P G vwCl (wr ++ wc) H := by
    have h := P_sel (T := []) (ir ++ is) h1 (by rw [List.append_nil]; exact hP)
    rw [List.append_nil] at h
    exact h
  have n2 : va_D A0 (wr ++ wc) := by
    have h := D_sel (T := []) (ir ++ is) h3 h1 (by rw [List.append_nil]; exact hD)
    rw [List.append_nil] at h
    exact h
  refine cl_HvW (wr := wr) (wc := wc) hr n1 n2 hS hA (fun u H1 locs1 k1 k2 k3 => ?_)
  have e8 : wr ++ (w1 u ++ T' u) = wr ++ w1 u ++ T' u := (List.append_assoc ..).symm
  rw [e8] at k1 k2
  exact kk u H1 locs1 (P_sel ps (h6 u) k1) (D_sel ps h5 (h6 u) k2) k3
end CALLX
/-- a writer's start, with the class of a row of States -/
def PHA (G : va_G) (y : Nat → ClassId) (av : List Value) (ws : va_W) (sz : Nat) : Array Value → State → Prop := va_Pc av (fun U => U.heap.size = sz ∧ va_P G vwCl ws U.heap ∧ KK G y U ∧ va_D (fun _ => True) ws ∧ va_AO "RelayTuner$State" U)
theorem va_AO.same {C : String} {u U : State} (e : u.vm = U.vm) (h : va_AO C u) : va_AO C U := va_AO.moved (e ▸ Vm.Alike.refl u.vm) h
theorem PHA_blind {G : va_G} {y : Nat → ClassId} {av : List Value} {ws : va_W} {sz : Nat} : FrameBlind (PHA G y av ws sz) := fun a U g mk q => by
  obtain ⟨q0, q1, qP, ⟨qK, qN⟩, qD, qA⟩ := q
  exact ⟨q0, q1, qP, ⟨va_K.moved (u := U) (U := U.calling g mk a) (Vm.Alike.refl U.vm) qK, NN.same (u := U) (U := U.calling g mk a) rfl qN⟩, qD, va_AO.moved (u := U) (U := U.calling g mk a) (Vm.Alike.refl U.vm) qA⟩
theorem PHA_S {G : va_G} {y : Nat → ClassId} {s : State} {H : Heap} {av : List Value} {ws : va_W} {A : Nat → Prop} (hP : va_P G vwCl ws H) (hK : va_K G vwCl (tyG y) s) (hN : NN s) (hD : va_D A ws) (hAO : va_AO "RelayTuner$State" s) : PreS s H (PHA G y av ws H.size) av := ⟨PHA_blind, fun U hU hW => ⟨rfl, by rw [hU], by rw [hU]; exact hP, KK.warm hW ⟨hK, hN⟩, hD.weaken (fun _ _ _ _ => trivial), va_AO.moved hW.alike hAO⟩⟩

def s_X2_forget_w0 (x : Nat → Int32) : Nat → Int32 := (upd x 1 0)
abbrev rmX2_forget : Room := ({ frames := 0, cells := 0, slots := 0, locals := 0 } : Room)
set_option maxHeartbeats 400000 in
set_option maxRecDepth 100000 in
theorem c_X2_forget (l : Launch) (G : va_G) (y : Nat → ClassId) (h : Nat) (a : Nat) (x : Nat → Int32) (sz : Nat) : Met l yX2_forget wsX2_forget rmX2_forget (PH G y [.ref h] [kX2 h a x] sz) (QHv G (fun _ : Unit => [kX2 h a (s_X2_forget_w0 x)]) (va_A [kX2 h a x] sz)) 0 0 (va_A [kX2 h a x] sz) := by
  refine Met.ofW (cc := cX2_forget) (maxL := 1) (ret := none) (by decide) rfl ?_
  intro p e s m args below meth c s₁ B hml hv
  obtain ⟨rfl, hsz, hP, ⟨hK, hN⟩, hD0⟩ := hv
  have hx := B.exec
  have hb := B.bytes
  have hr := B.returns
  have hts := atoms_spec (ws := wsX2_forget) B.pre
  have hown : s.vm.findClass RX2 = some m.cls := findClass_of_methodNamed B.named
  have hlocks := B.notSynchronized
  have i_X2 : ∀ w ∈ u_ws RX2 TX2 2, w ∈ wsX2_forget := by decide +kernel
  subst hsz
  have hD := hD0.self (sz := s.heap.size)
  generalize hAe : va_A [kX2 h a x] s.heap.size = A at hD ⊢
  have hA : ∀ q : Nat, s.heap.size ≤ q → A q := fun q h => by rw [← hAe]; exact Or.inr h
  have hS : va_S A s.heap s.heap [] := va_S.rf
  have hP : va_P G vwCl [kX2 h a x] s.heap := hP
  have hl := lv_entry ([.ref h]) (n := 1) (Nat.le_of_ble_eq_true rfl)
  rw [lg_entry_eq]
  generalize (lg_sl ([.ref h]) ++ List.replicate (1 - (lg_sl ([.ref h])).length) Slot.unset).toArray = ls at hl ⊢
  have hl : lv_has ls 1 [(0, .ref h)] := hl
  refine lv_aload_n hx hb dX2_forget_0 rfl (lv_at hl 0 rfl) ?_
  refine lv_iconst (v := 0) hx hb dX2_forget_1 (by decide) ?_
  refine va_put (D := G) (ci := 2) (v := .int 0) (ty := .int) (C := RX2) (T := TX2) (N := 2) hx hb hts i_X2 tyX2 tyX2_ok nmX2 hown hK hP hD hS 0 rfl rfl 1 (by decide) (hts (.fieldLink RX2 16 "RelayTuner$History" "count" "I") (by decide +kernel)) (fun _ h9 => h9) rfl (by decide +kernel) rfl rfl (Nat.le_of_ble_eq_true rfl) dX2_forget_2 (fun H locs hP hD hS => ?_)
  have hP : va_P G vwCl [kX2 h a (upd x 1 0)] H := hP
  have hD : va_D A [kX2 h a (upd x 1 0)] := hD
  exact W.vret hx hb hr (end_Hv () hP hD hS rfl) hS.2.2 dX2_forget_5

abbrev rmX2_forgetOldest : Room := ({ frames := 0, cells := 0, slots := 0, locals := 0 } : Room)
set_option maxHeartbeats 400000 in
set_option maxRecDepth 100000 in
theorem c_X2_forgetOldest (l : Launch) (G : va_G) (y : Nat → ClassId) (h : Nat) (a : Nat) (x : Nat → Int32) (ad : Nat → Nat → Nat) (zk : Nat → Nat → Nat → Int32) (ok : Nat → Nat → Int32) (sz : Nat) : Met l yX2_forgetOldest wsX2_forgetOldest rmX2_forgetOldest (PH G y [.ref h] ([kX2 h a x, aQ y a 14 (fun i => some (ad i 0))] ++ kW y ad zk ok 14) sz) (QHv G (fun _ : Unit => ([kX2 h a (upd x 1 13), aQ y a 14 (fun i => some (tK ad i 0))] ++ kW y (tK ad) (tK zk) (tK ok) 14)) (va_A ([kX2 h a x, aQ y a 14 (fun i => some (ad i 0))] ++ kW y ad zk ok 14) sz)) 0 0 (va_A ([kX2 h a x, aQ y a 14 (fun i => some (ad i 0))] ++ kW y ad zk ok 14) sz) := by
  refine Met.ofW (cc := cX2_forgetOldest) (maxL := 3) (ret := none) (by decide) rfl ?_
  intro p e s m args below meth c s₁ B hml hv
  obtain ⟨rfl, hsz, hP, ⟨hK, hN⟩, hD0⟩ := hv
  have hx := B.exec
  have hb := B.bytes
  have hr := B.returns
  have hts := atoms_spec (ws := wsX2_forgetOldest) B.pre
  have hown : s.vm.findClass RX2 = some m.cls := findClass_of_methodNamed B.named
  have hlocks := B.notSynchronized
  have i_X2 : ∀ w ∈ u_ws RX2 TX2 2, w ∈ wsX2_forgetOldest := by decide +kernel
  subst hsz
  have hD := hD0.self (sz := s.heap.size)
  generalize hAe : va_A ([kX2 h a x, aQ y a 14 (fun i => some (ad i 0))] ++ kW y ad zk ok 14) s.heap.size = A at hD ⊢
  have hA : ∀ q : Nat, s.heap.size ≤ q → A q := fun q h => by rw [← hAe]; exact Or.inr h
  have hS : va_S A s.heap s.heap [] := va_S.rf
  have hP : va_P G vwCl ([kX2 h a x, aQ y a 14 (fun i => some (ad i 0))] ++ kW y ad zk ok 14) s.heap := hP
  have hl := lv_entry ([.ref h]) (n := 3) (Nat.le_of_ble_eq_true rfl)
  rw [lg_entry_eq]
  generalize (lg_sl ([.ref h]) ++ List.replicate (3 - (lg_sl ([.ref h])).length) Slot.unset).toArray = ls at hl ⊢
  have hl : lv_has ls 3 [(0, .ref h)] := hl
  obtain ⟨QQ, hQQ⟩ : ∃ zq9, zq9 = MQ below (QHv G (fun _ : Unit => ([kX2 h a (upd x 1 13), aQ y a 14 (fun i => some (tK ad i 0))] ++ kW y (tK ad) (tK zk) (tK ok) 14)) A) ([.ref h] : List Value).toArray s 0 0 A := ⟨_, rfl⟩
  rw [← hQQ]
  refine lv_aload_n hx hb dX2_forgetOldest_0 rfl (lv_at hl 0 rfl) ?_
  refine va_get (D := G) (ci := 2) (v := .ref a) (C := RX2) (T := TX2) (N := 2) hx hb hts i_X2 hown hK hP 0 rfl rfl 0 (by decide) (hts (.fieldLink RX2 11 "RelayTuner$History" "kept" "[LRelayTuner$State;") (by decide +kernel)) (fun _ h9 => h9) rfl dX2_forgetOldest_1 ?_
  refine lv_iconst (v := 0) hx hb dX2_forgetOldest_4 (by decide) ?_
  refine al_q (D := G) (n := 14) (f := (fun i => some (ad i 0))) (v := (ad 0 0)) hx hb hK hP 1 3 rfl rfl 0 rfl (by decide) (by first | decide | omega) rfl dX2_forgetOldest_5 ?_
  refine lv_astore_n (lv' := [(1, .ref (ad 0 0)), (0, .ref h)]) hx hb dX2_forgetOldest_6 rfl hl (by decide) rfl (fun ls hl => ?_)
  have hP : va_P G vwCl ([kX2 h a x, aQ y a 14 (qT ad 0)] ++ kW y ad zk ok 14) s.heap := by rw [← qT_0]; exact hP
  have hD : va_D A ([kX2 h a x, aQ y a 14 (qT ad 0)] ++ kW y ad zk ok 14) := by rw [← qT_0]; exact hD
  refine lv_iconst (v := 1) hx hb dX2_forgetOldest_7 (by decide) ?_
  refine lv_istore_n (lv' := [(2, .int 1), (1, .ref (ad 0 0)), (0, .ref h)]) hx hb dX2_forgetOldest_8 rfl hl (by decide) rfl (fun ls hl => ?_)
  have LOOP9_1 : ∀ (n_2 : Nat) (k0 : Nat) (x2 : Int32) (w : Nat → Option Nat) (hx2 : x2 = nI (k0 + 1)) (hk : k0 ≤ 13) (hw : w = qT ad k0) (hn_4 : 13 - k0 < n_2) (H : Heap) (locs : List Loc) (hP : va_P G vwCl ([kX2 h a x, aQ y a 14 w] ++ kW y ad zk ok 14) H) (hD : va_D A ([kX2 h a x, aQ y a 14 w] ++ kW y ad zk ok 14)) (hS : va_S A s.heap H locs) (ls : Array Slot) (hl : lv_has ls 3 [(2, .int x2), (1, .ref (ad 0 0)), (0, .ref h)]), W p l e (headSpec wsX2_forgetOldest rmX2_forgetOldest).room s m ([.ref h] : List Value).toArray below meth c H locs 0 0 QQ (F0 m 9 ls []) := by
    intro n_2
    induction n_2 with
    | zero => intro k0 x2 w hx2 hk hw hn_4 H locs hP hD hS ls hl; exact absurd hn_4 (Nat.not_lt_zero _)
    | succ n_2 ih_3 =>
      intro k0 x2 w hx2 hk hw hn_4 H locs hP hD hS ls hl
      refine lv_iload_n hx hb dX2_forgetOldest_9 rfl (lv_at hl 0 rfl) ?_
      refine lv_bipush (v := 14) hx hb dX2_forgetOldest_10 (by decide) ?_
      refine lv_icmp_ge (tgt := 35) hx hb dX2_forgetOldest_12 (by decide) (fun c_5 => ?_) (fun c_5 => ?_)
      · have hk9 : k0 = 13 := by have := kge (N := 14) hx2 rfl (by omega) (by decide) c_5; omega
        rw [hk9] at hw
        subst hw
        refine lv_aload_n hx hb dX2_forgetOldest_35 rfl (lv_at hl 2 rfl) ?_
        refine va_get (D := G) (ci := 2) (v := .ref a) (C := RX2) (T := TX2) (N := 2) hx hb hts i_X2 hown hK hP 0 rfl rfl 0 (by decide) (hts (.fieldLink RX2 11 "RelayTuner$History" "kept" "[LRelayTuner$State;") (by decide +kernel)) (fun _ h9 => h9) rfl dX2_forgetOldest_36 ?_
        refine lv_bipush (v := 13) hx hb dX2_forgetOldest_39 (by decide) ?_
        refine lv_aload_n hx hb dX2_forgetOldest_41 rfl (lv_at hl 1 rfl) ?_
        refine as_q (D := G) (n := 14) (f := (qT ad 13)) (g := (fun i => some (tK ad i 0))) hx hb hK hP hD hS 1 3 rfl rfl (kW_any (k := 0) hK hP (by decide)) 13 rfl (by decide) (by first | decide | omega) qT_end dX2_forgetOldest_42 (fun H locs hP hD hS => ?_)
        have hP : va_P G vwCl ([kX2 h a x, aQ y a 14 (fun i => some (tK ad i 0))] ++ kW y ad zk ok 14) H := hP
        have hD : va_D A ([kX2 h a x, aQ y a 14 (fun i => some (tK ad i 0))] ++ kW y ad zk ok 14) := hD
        refine lv_aload_n hx hb dX2_forgetOldest_43 rfl (lv_at hl 2 rfl) ?_
        refine lv_bipush (v := 13) hx hb dX2_forgetOldest_44 (by decide) ?_
        refine va_put (D := G) (ci := 2) (v := .int 13) (ty := .int) (C := RX2) (T := TX2) (N := 2) hx hb hts i_X2 tyX2 tyX2_ok nmX2 hown hK hP hD hS 0 rfl rfl 1 (by decide) (hts (.fieldLink RX2 16 "RelayTuner$History" "count" "I") (by decide +kernel)) (fun _ h9 => h9) rfl (by decide +kernel) rfl rfl (Nat.le_of_ble_eq_true rfl) dX2_forgetOldest_46 (fun H locs hP hD hS => ?_)
        have hP : va_P G vwCl ([kX2 h a (upd x 1 13), aQ y a 14 (fun i => some (tK ad i 0))] ++ kW y ad zk ok 14) H := hP
        have hD : va_D A ([kX2 h a (upd x 1 13), aQ y a 14 (fun i => some (tK ad i 0))] ++ kW y ad zk ok 14) := hD
        have hP := P_perm kW_turn.symm hP
        have hD := D_perm kW_turn.symm hD
        have hP : va_P G vwCl ([kX2 h a (upd x 1 13), aQ y a 14 (fun i => some (tK ad i 0))] ++ kW y (tK ad) (tK zk) (tK ok) 14) H := hP
        have hD : va_D A ([kX2 h a (upd x 1 13), aQ y a 14 (fun i => some (tK ad i 0))] ++ kW y (tK ad) (tK zk) (tK ok) 14) := hD
        rw [hQQ]
        exact W.vret hx hb hr (end_Hv () hP hD hS rfl) hS.2.2 dX2_forgetOldest_49
      · have hk9 : k0 + 1 < 14 := klt (N := 14) hx2 rfl (by omega) (by decide) c_5
        refine lv_aload_n hx hb dX2_forgetOldest_15 rfl (lv_at hl 2 rfl) ?_
        refine va_get (D := G) (ci := 2) (v := .ref a) (C := RX2) (T := TX2) (N := 2) hx hb hts i_X2 hown hK hP 0 rfl rfl 0 (by decide) (hts (.fieldLink RX2 11 "RelayTuner$History" "kept" "[LRelayTuner$State;") (by decide +kernel)) (fun _ h9 => h9) rfl dX2_forgetOldest_16 ?_
        refine lv_iload_n hx hb dX2_forgetOldest_19 rfl (lv_at hl 0 rfl) ?_
        refine lv_iconst (v := 1) hx hb dX2_forgetOldest_20 (by decide) ?_
        refine lv_isub hx hb dX2_forgetOldest_21 ?_
        refine lv_aload_n hx hb dX2_forgetOldest_22 rfl (lv_at hl 2 rfl) ?_
        refine va_get (D := G) (ci := 2) (v := .ref a) (C := RX2) (T := TX2) (N := 2) hx hb hts i_X2 hown hK hP 0 rfl rfl 0 (by decide) (hts (.fieldLink RX2 11 "RelayTuner$History" "kept" "[LRelayTuner$State;") (by decide +kernel)) (fun _ h9 => h9) rfl dX2_forgetOldest_23 ?_
        refine lv_iload_n hx hb dX2_forgetOldest_26 rfl (lv_at hl 0 rfl) ?_
        refine al_q (D := G) (n := 14) (f := w) (v := (ad (k0 + 1) 0)) hx hb hK hP 1 3 rfl rfl (k0 + 1) hx2 (by omega) (by first | decide | omega) (by rw [hw]; exact qT_at) dX2_forgetOldest_27 ?_
        refine as_q (D := G) (n := 14) (f := w) (g := (qT ad (k0 + 1))) hx hb hK hP hD hS 1 3 rfl rfl (kW_any (k := k0 + 1) hK hP (by omega)) (k0 + 1 - 1) (sub1_ix hx2 (by omega)) (by omega) (by first | decide | omega) (by rw [hw]; exact qT_up) dX2_forgetOldest_28 (fun H locs hP hD hS => ?_)
        have hP : va_P G vwCl ([kX2 h a x, aQ y a 14 (qT ad (k0 + 1))] ++ kW y ad zk ok 14) H := hP
        have hD : va_D A ([kX2 h a x, aQ y a 14 (qT ad (k0 + 1))] ++ kW y ad zk ok 14) := hD
        refine lv_iinc (v := (x2 + 1)) (lv' := [(2, .int (x2 + 1)), (1, .ref (ad 0 0)), (0, .ref h)]) hx hb dX2_forgetOldest_29 hl (k := 0) rfl (by first | rfl | decide) (by decide) rfl (fun ls hl => ?_)
        refine lv_goto (tgt := 9) hx hb dX2_forgetOldest_32 (by decide) ?_
        exact ih_3 (k0 + 1) (x2 + 1) (qT ad (k0 + 1)) (by rw [hx2]; exact nI_1 (k0 + 1)) (by omega) rfl (by omega) H locs hP hD hS ls (lv_sub hl [0, 1, 2] rfl)
  exact LOOP9_1 (13 - 0 + 1) 0 1 (qT ad 0) rfl (by omega) rfl (Nat.lt_succ_self _) s.heap [] hP hD hS ls (lv_sub hl [0, 1, 2] rfl)

theorem nn_of {a : Int32} {n : Nat} (h : vp_in a n) : ¬ a < 0 := fun q => h (Or.inl q)

abbrev rmX2_remember : Room := ({ frames := 3, cells := 0, slots := 0, locals := 102 } : Room)
set_option maxHeartbeats 400000 in
set_option maxRecDepth 100000 in
theorem c_X2_remember (l : Launch) (G : va_G) (y : Nat → ClassId) (h : Nat) (kh : Nat) (a : Nat) (x : Nat → Int32) (kua : Nat) (kub : Nat) (kuc : Nat) (kud : Nat) (kue : Nat) (z : Nat → Nat → Int32) (kva : Nat) (kvc1 : Nat) (kvc2 : Nat) (kvc3 : Nat) (kvc4 : Nat) (kvc5 : Nat) (o : Nat → Int32) (kvd : Nat) (kve : Nat) (ad : Nat → Nat → Nat) (zk : Nat → Nat → Nat → Int32) (ok : Nat → Nat → Int32) (sz : Nat) (hc : vp_in (x 1) 15) (hrz : z 3 7 = 0 ∨ z 3 7 = 1) (hez : z 3 10 = 0 ∨ z 3 10 = 1) (hgz : z 4 6 = 0 ∨ z 4 6 = 1) : Met l yX2_remember wsX2_remember rmX2_remember (PH G y [.ref h, .ref kh] ([kX2 h a x, aQ y a 14 (fun i => some (ad i 0)), kX7 kh kua kub kuc kud kue (z 0), kX3 kua kva (z 1), aI y kva 10 (z 2), kX1 kub (z 3), kX8 kuc kvc1 kvc2 kvc3 kvc4 kvc5 (z 4), aI y kvc1 20 (z 5), aI y kvc2 20 (z 6), aI y kvc3 20 (z 7), aI y kvc4 20 (z 8), aI y kvc5 20 o, kX10 kud kvd (z 9), aI y kvd 32 (z 10), kX0 kue kve (z 11), aI y kve 3 (z 12)] ++ kW y ad zk ok 14) sz) (QHv G (fun _ : Unit => ([kX2 h a (upd x 1 (nI (rmC (tn (x 1)) + 1))), aQ y a 14 (fun i => some (rmT (tn (x 1)) ad i 0)), kX7 kh kua kub kuc kud kue (z 0), kX3 kua kva (z 1), aI y kva 10 (z 2), kX1 kub (z 3), kX8 kuc kvc1 kvc2 kvc3 kvc4 kvc5 (z 4), aI y kvc1 20 (z 5), aI y kvc2 20 (z 6), aI y kvc3 20 (z 7), aI y kvc4 20 (z 8), aI y kvc5 20 o, kX10 kud kvd (z 9), aI y kvd 32 (z 10), kX0 kue kve (z 11), aI y kve 3 (z 12)] ++ kW y (rmT (tn (x 1)) ad) (uK (rmT (tn (x 1)) zk) (rmC (tn (x 1))) z) (rmT (tn (x 1)) ok) 14)) (va_A ([kX2 h a x, aQ y a 14 (fun i => some (ad i 0)), kX7 kh kua kub kuc kud kue (z 0), kX3 kua kva (z 1), aI y kva 10 (z 2), kX1 kub (z 3), kX8 kuc kvc1 kvc2 kvc3 kvc4 kvc5 (z 4), aI y kvc1 20 (z 5), aI y kvc2 20 (z 6), aI y kvc3 20 (z 7), aI y kvc4 20 (z 8), aI y kvc5 20 o, kX10 kud kvd (z 9), aI y kvd 32 (z 10), kX0 kue kve (z 11), aI y kve 3 (z 12)] ++ kW y ad zk ok 14) sz)) 0 0 (va_A ([kX2 h a x, aQ y a 14 (fun i => some (ad i 0)), kX7 kh kua kub kuc kud kue (z 0), kX3 kua kva (z 1), aI y kva 10 (z 2), kX1 kub (z 3), kX8 kuc kvc1 kvc2 kvc3 kvc4 kvc5 (z 4), aI y kvc1 20 (z 5), aI y kvc2 20 (z 6), aI y kvc3 20 (z 7), aI y kvc4 20 (z 8), aI y kvc5 20 o, kX10 kud kvd (z 9), aI y kvd 32 (z 10), kX0 kue kve (z 11), aI y kve 3 (z 12)] ++ kW y ad zk ok 14) sz) := by
  refine Met.ofW (cc := cX2_remember) (maxL := 2) (ret := none) (by decide) rfl ?_
  intro p e s m args below meth c s₁ B hml hv
  obtain ⟨rfl, hsz, hP, ⟨hK, hN⟩, hD0⟩ := hv
  have hx := B.exec
  have hb := B.bytes
  have hr := B.returns
  have hts := atoms_spec (ws := wsX2_remember) B.pre
  have hown : s.vm.findClass RX2 = some m.cls := findClass_of_methodNamed B.named
  have hlocks := B.notSynchronized
  have i_X2 : ∀ w ∈ u_ws RX2 TX2 2, w ∈ wsX2_remember := by decide +kernel
  subst hsz
  have hD := hD0.self (sz := s.heap.size)
  generalize hAe : va_A ([kX2 h a x, aQ y a 14 (fun i => some (ad i 0)), kX7 kh kua kub kuc kud kue (z 0), kX3 kua kva (z 1), aI y kva 10 (z 2), kX1 kub (z 3), kX8 kuc kvc1 kvc2 kvc3 kvc4 kvc5 (z 4), aI y kvc1 20 (z 5), aI y kvc2 20 (z 6), aI y kvc3 20 (z 7), aI y kvc4 20 (z 8), aI y kvc5 20 o, kX10 kud kvd (z 9), aI y kvd 32 (z 10), kX0 kue kve (z 11), aI y kve 3 (z 12)] ++ kW y ad zk ok 14) s.heap.size = A at hD ⊢
  have hA : ∀ q : Nat, s.heap.size ≤ q → A q := fun q h => by rw [← hAe]; exact Or.inr h
  have hS : va_S A s.heap s.heap [] := va_S.rf
  have hP : va_P G vwCl ([kX2 h a x, aQ y a 14 (fun i => some (ad i 0)), kX7 kh kua kub kuc kud kue (z 0), kX3 kua kva (z 1), aI y kva 10 (z 2), kX1 kub (z 3), kX8 kuc kvc1 kvc2 kvc3 kvc4 kvc5 (z 4), aI y kvc1 20 (z 5), aI y kvc2 20 (z 6), aI y kvc3 20 (z 7), aI y kvc4 20 (z 8), aI y kvc5 20 o, kX10 kud kvd (z 9), aI y kvd 32 (z 10), kX0 kue kve (z 11), aI y kve 3 (z 12)] ++ kW y ad zk ok 14) s.heap := hP
  obtain ⟨hc1, hc2⟩ := in_tn hc (by decide)
  have hl := lv_entry ([.ref h, .ref kh]) (n := 2) (Nat.le_of_ble_eq_true rfl)
  rw [lg_entry_eq]
  generalize (lg_sl ([.ref h, .ref kh]) ++ List.replicate (2 - (lg_sl ([.ref h, .ref kh])).length) Slot.unset).toArray = ls at hl ⊢
  have hl : lv_has ls 2 [(0, .ref h), (1, .ref kh)] := hl
  refine lv_aload_n hx hb dX2_remember_0 rfl (lv_at hl 0 rfl) ?_
  refine va_get (D := G) (ci := 2) (v := .int (x 1)) (C := RX2) (T := TX2) (N := 2) hx hb hts i_X2 hown hK hP 0 rfl rfl 1 (by decide) (hts (.fieldLink RX2 16 "RelayTuner$History" "count" "I") (by decide +kernel)) (fun _ h9 => h9) rfl dX2_remember_1 ?_
  refine lv_bipush (v := 14) hx hb dX2_remember_4 (by decide) ?_
  refine lv_icmp_lt (tgt := 13) hx hb dX2_remember_6 (by decide) (fun c_1 => ?_) (fun c_1 => ?_)
  · have hlt : tn (x 1) < 14 := lt_tn hc1 (j := 14) rfl (by omega) (by decide) c_1
    refine lv_aload_n hx hb dX2_remember_13 rfl (lv_at hl 0 rfl) ?_
    refine va_get (D := G) (ci := 2) (v := .int (x 1)) (C := RX2) (T := TX2) (N := 2) hx hb hts i_X2 hown hK hP 0 rfl rfl 1 (by decide) (hts (.fieldLink RX2 16 "RelayTuner$History" "count" "I") (by decide +kernel)) (fun _ h9 => h9) rfl dX2_remember_14 ?_
    refine lv_if_lt (tgt := 52) hx hb dX2_remember_17 (by decide) (fun c_2 => ?_) (fun c_2 => ?_)
    · exact (by first | exact absurd c_2 (nn_of hc) | exact absurd (nn_of hc) c_2)
    refine lv_aload_n hx hb dX2_remember_20 rfl (lv_at hl 0 rfl) ?_
    refine va_get (D := G) (ci := 2) (v := .int (x 1)) (C := RX2) (T := TX2) (N := 2) hx hb hts i_X2 hown hK hP 0 rfl rfl 1 (by decide) (hts (.fieldLink RX2 16 "RelayTuner$History" "count" "I") (by decide +kernel)) (fun _ h9 => h9) rfl dX2_remember_21 ?_
    refine lv_bipush (v := 14) hx hb dX2_remember_24 (by decide) ?_
    refine lv_icmp_ge (tgt := 52) hx hb dX2_remember_26 (by decide) (fun c_3 => ?_) (fun c_3 => ?_)
    · exact (by first | exact absurd c_3 (Int32.not_le.mpr c_1) | exact absurd (Int32.not_le.mpr c_1) c_3)
    refine lv_aload_n hx hb dX2_remember_29 rfl (lv_at hl 0 rfl) ?_
    refine va_get (D := G) (ci := 2) (v := .ref a) (C := RX2) (T := TX2) (N := 2) hx hb hts i_X2 hown hK hP 0 rfl rfl 0 (by decide) (hts (.fieldLink RX2 11 "RelayTuner$History" "kept" "[LRelayTuner$State;") (by decide +kernel)) (fun _ h9 => h9) rfl dX2_remember_30 ?_
    refine lv_aload_n hx hb dX2_remember_33 rfl (lv_at hl 0 rfl) ?_
    refine va_get (D := G) (ci := 2) (v := .int (x 1)) (C := RX2) (T := TX2) (N := 2) hx hb hts i_X2 hown hK hP 0 rfl rfl 1 (by decide) (hts (.fieldLink RX2 16 "RelayTuner$History" "count" "I") (by decide +kernel)) (fun _ h9 => h9) rfl dX2_remember_34 ?_
    refine al_q (D := G) (n := 14) (f := (fun i => some (ad i 0))) (v := (ad (tn (x 1)) 0)) hx hb hK hP 1 3 rfl rfl (tn (x 1)) hc1 hlt (by first | decide | omega) rfl dX2_remember_37 ?_
    have hP := P_perm (kW_pick (k := tn (x 1)) hlt) hP
    have hD := D_perm (kW_pick (k := tn (x 1)) hlt) hD
    have hP : va_P G vwCl ([kX2 h a x, aQ y a 14 (fun i => some (ad i 0)), kX7 kh kua kub kuc kud kue (z 0), kX3 kua kva (z 1), aI y kva 10 (z 2), kX1 kub (z 3), kX8 kuc kvc1 kvc2 kvc3 kvc4 kvc5 (z 4), aI y kvc1 20 (z 5), aI y kvc2 20 (z 6), aI y kvc3 20 (z 7), aI y kvc4 20 (z 8), aI y kvc5 20 o, kX10 kud kvd (z 9), aI y kvd 32 (z 10), kX0 kue kve (z 11), aI y kve 3 (z 12), kX7 (ad (tn (x 1)) 0) (ad (tn (x 1)) 1) (ad (tn (x 1)) 3) (ad (tn (x 1)) 4) (ad (tn (x 1)) 10) (ad (tn (x 1)) 12) ((zk (tn (x 1))) 0), kX3 (ad (tn (x 1)) 1) (ad (tn (x 1)) 2) ((zk (tn (x 1))) 1), aI y (ad (tn (x 1)) 2) 10 ((zk (tn (x 1))) 2), kX1 (ad (tn (x 1)) 3) ((zk (tn (x 1))) 3), kX8 (ad (tn (x 1)) 4) (ad (tn (x 1)) 5) (ad (tn (x 1)) 6) (ad (tn (x 1)) 7) (ad (tn (x 1)) 8) (ad (tn (x 1)) 9) ((zk (tn (x 1))) 4), aI y (ad (tn (x 1)) 5) 20 ((zk (tn (x 1))) 5), aI y (ad (tn (x 1)) 6) 20 ((zk (tn (x 1))) 6), aI y (ad (tn (x 1)) 7) 20 ((zk (tn (x 1))) 7), aI y (ad (tn (x 1)) 8) 20 ((zk (tn (x 1))) 8), aI y (ad (tn (x 1)) 9) 20 (ok (tn (x 1))), kX10 (ad (tn (x 1)) 10) (ad (tn (x 1)) 11) ((zk (tn (x 1))) 9), aI y (ad (tn (x 1)) 11) 32 ((zk (tn (x 1))) 10), kX0 (ad (tn (x 1)) 12) (ad (tn (x 1)) 13) ((zk (tn (x 1))) 11), aI y (ad (tn (x 1)) 13) 3 ((zk (tn (x 1))) 12)] ++ kX y ad zk ok 14 (tn (x 1))) s.heap := hP
    have hD : va_D A ([kX2 h a x, aQ y a 14 (fun i => some (ad i 0)), kX7 kh kua kub kuc kud kue (z 0), kX3 kua kva (z 1), aI y kva 10 (z 2), kX1 kub (z 3), kX8 kuc kvc1 kvc2 kvc3 kvc4 kvc5 (z 4), aI y kvc1 20 (z 5), aI y kvc2 20 (z 6), aI y kvc3 20 (z 7), aI y kvc4 20 (z 8), aI y kvc5 20 o, kX10 kud kvd (z 9), aI y kvd 32 (z 10), kX0 kue kve (z 11), aI y kve 3 (z 12), kX7 (ad (tn (x 1)) 0) (ad (tn (x 1)) 1) (ad (tn (x 1)) 3) (ad (tn (x 1)) 4) (ad (tn (x 1)) 10) (ad (tn (x 1)) 12) ((zk (tn (x 1))) 0), kX3 (ad (tn (x 1)) 1) (ad (tn (x 1)) 2) ((zk (tn (x 1))) 1), aI y (ad (tn (x 1)) 2) 10 ((zk (tn (x 1))) 2), kX1 (ad (tn (x 1)) 3) ((zk (tn (x 1))) 3), kX8 (ad (tn (x 1)) 4) (ad (tn (x 1)) 5) (ad (tn (x 1)) 6) (ad (tn (x 1)) 7) (ad (tn (x 1)) 8) (ad (tn (x 1)) 9) ((zk (tn (x 1))) 4), aI y (ad (tn (x 1)) 5) 20 ((zk (tn (x 1))) 5), aI y (ad (tn (x 1)) 6) 20 ((zk (tn (x 1))) 6), aI y (ad (tn (x 1)) 7) 20 ((zk (tn (x 1))) 7), aI y (ad (tn (x 1)) 8) 20 ((zk (tn (x 1))) 8), aI y (ad (tn (x 1)) 9) 20 (ok (tn (x 1))), kX10 (ad (tn (x 1)) 10) (ad (tn (x 1)) 11) ((zk (tn (x 1))) 9), aI y (ad (tn (x 1)) 11) 32 ((zk (tn (x 1))) 10), kX0 (ad (tn (x 1)) 12) (ad (tn (x 1)) 13) ((zk (tn (x 1))) 11), aI y (ad (tn (x 1)) 13) 3 ((zk (tn (x 1))) 12)] ++ kX y ad zk ok 14 (tn (x 1))) := hD
    refine lv_aload_n hx hb dX2_remember_38 rfl (lv_at hl 1 rfl) ?_
    refine cl_HvT (wr := [kX2 h a x, aQ y a 14 (fun i => some (ad i 0))]) (fun _ : Unit => [kX2 h a x, aQ y a 14 (fun i => some (ad i 0)), kX7 kh kua kub kuc kud kue (z 0), kX3 kua kva (z 1), aI y kva 10 (z 2), kX1 kub (z 3), kX8 kuc kvc1 kvc2 kvc3 kvc4 kvc5 (z 4), aI y kvc1 20 (z 5), aI y kvc2 20 (z 6), aI y kvc3 20 (z 7), aI y kvc4 20 (z 8), aI y kvc5 20 o, kX10 kud kvd (z 9), aI y kvd 32 (z 10), kX0 kue kve (z 11), aI y kve 3 (z 12), kX7 (ad (tn (x 1)) 0) (ad (tn (x 1)) 1) (ad (tn (x 1)) 3) (ad (tn (x 1)) 4) (ad (tn (x 1)) 10) (ad (tn (x 1)) 12) (z 0), kX3 (ad (tn (x 1)) 1) (ad (tn (x 1)) 2) (z 1), aI y (ad (tn (x 1)) 2) 10 (z 2), kX1 (ad (tn (x 1)) 3) (z 3), kX8 (ad (tn (x 1)) 4) (ad (tn (x 1)) 5) (ad (tn (x 1)) 6) (ad (tn (x 1)) 7) (ad (tn (x 1)) 8) (ad (tn (x 1)) 9) (z 4), aI y (ad (tn (x 1)) 5) 20 (z 5), aI y (ad (tn (x 1)) 6) 20 (z 6), aI y (ad (tn (x 1)) 7) 20 (z 7), aI y (ad (tn (x 1)) 8) 20 (z 8), aI y (ad (tn (x 1)) 9) 20 (ok (tn (x 1))), kX10 (ad (tn (x 1)) 10) (ad (tn (x 1)) 11) (z 9), aI y (ad (tn (x 1)) 11) 32 (z 10), kX0 (ad (tn (x 1)) 12) (ad (tn (x 1)) 13) (z 11), aI y (ad (tn (x 1)) 13) 3 (z 12)]) [16, 17, 18, 19, 20, 21, 22, 23, 24, 25, 26, 27, 28, 29, 2, 3, 4, 5, 6, 7, 8, 9, 10, 11, 12, 13, 14, 15] [0, 1] [0, 1, 16, 17, 18, 19, 20, 21, 22, 23, 24, 25, 26, 27, 28, 29, 2, 3, 4, 5, 6, 7, 8, 9, 10, 11, 12, 13, 14, 15] (va_runV (As := [.ref kh]) (rest := []) ⟨hx, hb, hml, hown, hts⟩ (c_X7_become l G y (ad (tn (x 1)) 0) kh (ad (tn (x 1)) 1) (ad (tn (x 1)) 3) (ad (tn (x 1)) 4) (ad (tn (x 1)) 10) (ad (tn (x 1)) 12) (zk (tn (x 1))) (ad (tn (x 1)) 2) (ad (tn (x 1)) 5) (ad (tn (x 1)) 6) (ad (tn (x 1)) 7) (ad (tn (x 1)) 8) (ad (tn (x 1)) 9) (ok (tn (x 1))) (ad (tn (x 1)) 11) (ad (tn (x 1)) 13) kua kub kuc kud kue z kva kvc1 kvc2 kvc3 kvc4 kvc5 o kvd kve s.heap.size hrz hez hgz) (cwV 1 hts gX2_remember_X7_become rfl rfl rfl (by decide +kernel) ⟨Nat.le_of_ble_eq_true rfl, Nat.le_of_ble_eq_true rfl⟩) (PH_V (hP.sub (ws' := [kX7 (ad (tn (x 1)) 0) (ad (tn (x 1)) 1) (ad (tn (x 1)) 3) (ad (tn (x 1)) 4) (ad (tn (x 1)) 10) (ad (tn (x 1)) 12) ((zk (tn (x 1))) 0), kX3 (ad (tn (x 1)) 1) (ad (tn (x 1)) 2) ((zk (tn (x 1))) 1), aI y (ad (tn (x 1)) 2) 10 ((zk (tn (x 1))) 2), kX1 (ad (tn (x 1)) 3) ((zk (tn (x 1))) 3), kX8 (ad (tn (x 1)) 4) (ad (tn (x 1)) 5) (ad (tn (x 1)) 6) (ad (tn (x 1)) 7) (ad (tn (x 1)) 8) (ad (tn (x 1)) 9) ((zk (tn (x 1))) 4), aI y (ad (tn (x 1)) 5) 20 ((zk (tn (x 1))) 5), aI y (ad (tn (x 1)) 6) 20 ((zk (tn (x 1))) 6), aI y (ad (tn (x 1)) 7) 20 ((zk (tn (x 1))) 7), aI y (ad (tn (x 1)) 8) 20 ((zk (tn (x 1))) 8), aI y (ad (tn (x 1)) 9) 20 (ok (tn (x 1))), kX10 (ad (tn (x 1)) 10) (ad (tn (x 1)) 11) ((zk (tn (x 1))) 9), aI y (ad (tn (x 1)) 11) 32 ((zk (tn (x 1))) 10), kX0 (ad (tn (x 1)) 12) (ad (tn (x 1)) 13) ((zk (tn (x 1))) 11), aI y (ad (tn (x 1)) 13) 3 ((zk (tn (x 1))) 12), kX7 kh kua kub kuc kud kue (z 0), kX3 kua kva (z 1), aI y kva 10 (z 2), kX1 kub (z 3), kX8 kuc kvc1 kvc2 kvc3 kvc4 kvc5 (z 4), aI y kvc1 20 (z 5), aI y kvc2 20 (z 6), aI y kvc3 20 (z 7), aI y kvc4 20 (z 8), aI y kvc5 20 o, kX10 kud kvd (z 9), aI y kvd 32 (z 10), kX0 kue kve (z 11), aI y kve 3 (z 12)]) [16, 17, 18, 19, 20, 21, 22, 23, 24, 25, 26, 27, 28, 29, 2, 3, 4, 5, 6, 7, 8, 9, 10, 11, 12, 13, 14, 15] rfl) hK hN (hD.sub (ws' := [kX7 (ad (tn (x 1)) 0) (ad (tn (x 1)) 1) (ad (tn (x 1)) 3) (ad (tn (x 1)) 4) (ad (tn (x 1)) 10) (ad (tn (x 1)) 12) ((zk (tn (x 1))) 0), kX3 (ad (tn (x 1)) 1) (ad (tn (x 1)) 2) ((zk (tn (x 1))) 1), aI y (ad (tn (x 1)) 2) 10 ((zk (tn (x 1))) 2), kX1 (ad (tn (x 1)) 3) ((zk (tn (x 1))) 3), kX8 (ad (tn (x 1)) 4) (ad (tn (x 1)) 5) (ad (tn (x 1)) 6) (ad (tn (x 1)) 7) (ad (tn (x 1)) 8) (ad (tn (x 1)) 9) ((zk (tn (x 1))) 4), aI y (ad (tn (x 1)) 5) 20 ((zk (tn (x 1))) 5), aI y (ad (tn (x 1)) 6) 20 ((zk (tn (x 1))) 6), aI y (ad (tn (x 1)) 7) 20 ((zk (tn (x 1))) 7), aI y (ad (tn (x 1)) 8) 20 ((zk (tn (x 1))) 8), aI y (ad (tn (x 1)) 9) 20 (ok (tn (x 1))), kX10 (ad (tn (x 1)) 10) (ad (tn (x 1)) 11) ((zk (tn (x 1))) 9), aI y (ad (tn (x 1)) 11) 32 ((zk (tn (x 1))) 10), kX0 (ad (tn (x 1)) 12) (ad (tn (x 1)) 13) ((zk (tn (x 1))) 11), aI y (ad (tn (x 1)) 13) 3 ((zk (tn (x 1))) 12), kX7 kh kua kub kuc kud kue (z 0), kX3 kua kva (z 1), aI y kva 10 (z 2), kX1 kub (z 3), kX8 kuc kvc1 kvc2 kvc3 kvc4 kvc5 (z 4), aI y kvc1 20 (z 5), aI y kvc2 20 (z 6), aI y kvc3 20 (z 7), aI y kvc4 20 (z 8), aI y kvc5 20 o, kX10 kud kvd (z 9), aI y kvd 32 (z 10), kX0 kue kve (z 11), aI y kve 3 (z 12)]) [16, 17, 18, 19, 20, 21, 22, 23, 24, 25, 26, 27, 28, 29, 2, 3, 4, 5, 6, 7, 8, 9, 10, 11, 12, 13, 14, 15] (by decide) rfl) (ci := 5) (q0 := 0) rfl rfl) rfl rfl hl.1 rfl (lv_room (Nat.le_of_ble_eq_true rfl)) dX2_remember_39 ⟨Nat.le_of_ble_eq_true rfl, Nat.le_of_ble_eq_true rfl⟩) hP hD hS hA rfl rfl rfl (fun _ => rfl) (fun _ H locs hP hD hS => ?_)
    have hP : va_P G vwCl ([kX2 h a x, aQ y a 14 (fun i => some (ad i 0)), kX7 kh kua kub kuc kud kue (z 0), kX3 kua kva (z 1), aI y kva 10 (z 2), kX1 kub (z 3), kX8 kuc kvc1 kvc2 kvc3 kvc4 kvc5 (z 4), aI y kvc1 20 (z 5), aI y kvc2 20 (z 6), aI y kvc3 20 (z 7), aI y kvc4 20 (z 8), aI y kvc5 20 o, kX10 kud kvd (z 9), aI y kvd 32 (z 10), kX0 kue kve (z 11), aI y kve 3 (z 12), kX7 (ad (tn (x 1)) 0) (ad (tn (x 1)) 1) (ad (tn (x 1)) 3) (ad (tn (x 1)) 4) (ad (tn (x 1)) 10) (ad (tn (x 1)) 12) (z 0), kX3 (ad (tn (x 1)) 1) (ad (tn (x 1)) 2) (z 1), aI y (ad (tn (x 1)) 2) 10 (z 2), kX1 (ad (tn (x 1)) 3) (z 3), kX8 (ad (tn (x 1)) 4) (ad (tn (x 1)) 5) (ad (tn (x 1)) 6) (ad (tn (x 1)) 7) (ad (tn (x 1)) 8) (ad (tn (x 1)) 9) (z 4), aI y (ad (tn (x 1)) 5) 20 (z 5), aI y (ad (tn (x 1)) 6) 20 (z 6), aI y (ad (tn (x 1)) 7) 20 (z 7), aI y (ad (tn (x 1)) 8) 20 (z 8), aI y (ad (tn (x 1)) 9) 20 (ok (tn (x 1))), kX10 (ad (tn (x 1)) 10) (ad (tn (x 1)) 11) (z 9), aI y (ad (tn (x 1)) 11) 32 (z 10), kX0 (ad (tn (x 1)) 12) (ad (tn (x 1)) 13) (z 11), aI y (ad (tn (x 1)) 13) 3 (z 12)] ++ kX y ad zk ok 14 (tn (x 1))) H := hP
    have hD : va_D A ([kX2 h a x, aQ y a 14 (fun i => some (ad i 0)), kX7 kh kua kub kuc kud kue (z 0), kX3 kua kva (z 1), aI y kva 10 (z 2), kX1 kub (z 3), kX8 kuc kvc1 kvc2 kvc3 kvc4 kvc5 (z 4), aI y kvc1 20 (z 5), aI y kvc2 20 (z 6), aI y kvc3 20 (z 7), aI y kvc4 20 (z 8), aI y kvc5 20 o, kX10 kud kvd (z 9), aI y kvd 32 (z 10), kX0 kue kve (z 11), aI y kve 3 (z 12), kX7 (ad (tn (x 1)) 0) (ad (tn (x 1)) 1) (ad (tn (x 1)) 3) (ad (tn (x 1)) 4) (ad (tn (x 1)) 10) (ad (tn (x 1)) 12) (z 0), kX3 (ad (tn (x 1)) 1) (ad (tn (x 1)) 2) (z 1), aI y (ad (tn (x 1)) 2) 10 (z 2), kX1 (ad (tn (x 1)) 3) (z 3), kX8 (ad (tn (x 1)) 4) (ad (tn (x 1)) 5) (ad (tn (x 1)) 6) (ad (tn (x 1)) 7) (ad (tn (x 1)) 8) (ad (tn (x 1)) 9) (z 4), aI y (ad (tn (x 1)) 5) 20 (z 5), aI y (ad (tn (x 1)) 6) 20 (z 6), aI y (ad (tn (x 1)) 7) 20 (z 7), aI y (ad (tn (x 1)) 8) 20 (z 8), aI y (ad (tn (x 1)) 9) 20 (ok (tn (x 1))), kX10 (ad (tn (x 1)) 10) (ad (tn (x 1)) 11) (z 9), aI y (ad (tn (x 1)) 11) 32 (z 10), kX0 (ad (tn (x 1)) 12) (ad (tn (x 1)) 13) (z 11), aI y (ad (tn (x 1)) 13) 3 (z 12)] ++ kX y ad zk ok 14 (tn (x 1))) := hD
    have hP : va_P G vwCl ([kX2 h a x, aQ y a 14 (fun i => some (ad i 0)), kX7 kh kua kub kuc kud kue (z 0), kX3 kua kva (z 1), aI y kva 10 (z 2), kX1 kub (z 3), kX8 kuc kvc1 kvc2 kvc3 kvc4 kvc5 (z 4), aI y kvc1 20 (z 5), aI y kvc2 20 (z 6), aI y kvc3 20 (z 7), aI y kvc4 20 (z 8), aI y kvc5 20 o, kX10 kud kvd (z 9), aI y kvd 32 (z 10), kX0 kue kve (z 11), aI y kve 3 (z 12)] ++ stB y (ad (tn (x 1))) z (ok (tn (x 1))) ++ kX y ad zk ok 14 (tn (x 1))) H := hP
    have hD : va_D A ([kX2 h a x, aQ y a 14 (fun i => some (ad i 0)), kX7 kh kua kub kuc kud kue (z 0), kX3 kua kva (z 1), aI y kva 10 (z 2), kX1 kub (z 3), kX8 kuc kvc1 kvc2 kvc3 kvc4 kvc5 (z 4), aI y kvc1 20 (z 5), aI y kvc2 20 (z 6), aI y kvc3 20 (z 7), aI y kvc4 20 (z 8), aI y kvc5 20 o, kX10 kud kvd (z 9), aI y kvd 32 (z 10), kX0 kue kve (z 11), aI y kve 3 (z 12)] ++ stB y (ad (tn (x 1))) z (ok (tn (x 1))) ++ kX y ad zk ok 14 (tn (x 1))) := hD
    have hP := P_perm (kW_put (k := tn (x 1)) hlt) hP
    have hD := D_perm (kW_put (k := tn (x 1)) hlt) hD
    have hP : va_P G vwCl ([kX2 h a x, aQ y a 14 (fun i => some (ad i 0)), kX7 kh kua kub kuc kud kue (z 0), kX3 kua kva (z 1), aI y kva 10 (z 2), kX1 kub (z 3), kX8 kuc kvc1 kvc2 kvc3 kvc4 kvc5 (z 4), aI y kvc1 20 (z 5), aI y kvc2 20 (z 6), aI y kvc3 20 (z 7), aI y kvc4 20 (z 8), aI y kvc5 20 o, kX10 kud kvd (z 9), aI y kvd 32 (z 10), kX0 kue kve (z 11), aI y kve 3 (z 12)] ++ kW y ad (uK zk (tn (x 1)) z) ok 14) H := hP
    have hD : va_D A ([kX2 h a x, aQ y a 14 (fun i => some (ad i 0)), kX7 kh kua kub kuc kud kue (z 0), kX3 kua kva (z 1), aI y kva 10 (z 2), kX1 kub (z 3), kX8 kuc kvc1 kvc2 kvc3 kvc4 kvc5 (z 4), aI y kvc1 20 (z 5), aI y kvc2 20 (z 6), aI y kvc3 20 (z 7), aI y kvc4 20 (z 8), aI y kvc5 20 o, kX10 kud kvd (z 9), aI y kvd 32 (z 10), kX0 kue kve (z 11), aI y kve 3 (z 12)] ++ kW y ad (uK zk (tn (x 1)) z) ok 14) := hD
    refine lv_aload_n hx hb dX2_remember_42 rfl (lv_at hl 0 rfl) ?_
    refine lv_dup hx hb dX2_remember_43 rfl ?_
    refine va_get (D := G) (ci := 2) (v := .int (x 1)) (C := RX2) (T := TX2) (N := 2) hx hb hts i_X2 hown hK hP 0 rfl rfl 1 (by decide) (hts (.fieldLink RX2 16 "RelayTuner$History" "count" "I") (by decide +kernel)) (fun _ h9 => h9) rfl dX2_remember_44 ?_
    refine lv_iconst (v := 1) hx hb dX2_remember_47 (by decide) ?_
    refine lv_iadd hx hb dX2_remember_48 ?_
    refine va_put (D := G) (ci := 2) (v := .int ((x 1) + 1)) (ty := .int) (C := RX2) (T := TX2) (N := 2) hx hb hts i_X2 tyX2 tyX2_ok nmX2 hown hK hP hD hS 0 rfl rfl 1 (by decide) (hts (.fieldLink RX2 16 "RelayTuner$History" "count" "I") (by decide +kernel)) (fun _ h9 => h9) rfl (by decide +kernel) rfl rfl (Nat.le_of_ble_eq_true rfl) dX2_remember_49 (fun H locs hP hD hS => ?_)
    have hP : va_P G vwCl ([kX2 h a (upd x 1 ((x 1) + 1)), aQ y a 14 (fun i => some (ad i 0)), kX7 kh kua kub kuc kud kue (z 0), kX3 kua kva (z 1), aI y kva 10 (z 2), kX1 kub (z 3), kX8 kuc kvc1 kvc2 kvc3 kvc4 kvc5 (z 4), aI y kvc1 20 (z 5), aI y kvc2 20 (z 6), aI y kvc3 20 (z 7), aI y kvc4 20 (z 8), aI y kvc5 20 o, kX10 kud kvd (z 9), aI y kvd 32 (z 10), kX0 kue kve (z 11), aI y kve 3 (z 12)] ++ kW y ad (uK zk (tn (x 1)) z) ok 14) H := hP
    have hD : va_D A ([kX2 h a (upd x 1 ((x 1) + 1)), aQ y a 14 (fun i => some (ad i 0)), kX7 kh kua kub kuc kud kue (z 0), kX3 kua kva (z 1), aI y kva 10 (z 2), kX1 kub (z 3), kX8 kuc kvc1 kvc2 kvc3 kvc4 kvc5 (z 4), aI y kvc1 20 (z 5), aI y kvc2 20 (z 6), aI y kvc3 20 (z 7), aI y kvc4 20 (z 8), aI y kvc5 20 o, kX10 kud kvd (z 9), aI y kvd 32 (z 10), kX0 kue kve (z 11), aI y kve 3 (z 12)] ++ kW y ad (uK zk (tn (x 1)) z) ok 14) := hD
    exact W.vret hx hb hr (end_Hv () hP hD hS (by unfold rmT rmC; rw [if_pos hlt, if_pos hlt, if_pos hlt, if_pos hlt, ← nI_1, ← hc1])) hS.2.2 dX2_remember_52
  · refine lv_aload_n hx hb dX2_remember_9 rfl (lv_at hl 0 rfl) ?_
    refine cl_HvU (wr := [kX7 kh kua kub kuc kud kue (z 0), kX3 kua kva (z 1), aI y kva 10 (z 2), kX1 kub (z 3), kX8 kuc kvc1 kvc2 kvc3 kvc4 kvc5 (z 4), aI y kvc1 20 (z 5), aI y kvc2 20 (z 6), aI y kvc3 20 (z 7), aI y kvc4 20 (z 8), aI y kvc5 20 o, kX10 kud kvd (z 9), aI y kvd 32 (z 10), kX0 kue kve (z 11), aI y kve 3 (z 12)]) (fun _ : Unit => [kX2 h a (upd x 1 13), aQ y a 14 (fun i => some (tK ad i 0)), kX7 kh kua kub kuc kud kue (z 0), kX3 kua kva (z 1), aI y kva 10 (z 2), kX1 kub (z 3), kX8 kuc kvc1 kvc2 kvc3 kvc4 kvc5 (z 4), aI y kvc1 20 (z 5), aI y kvc2 20 (z 6), aI y kvc3 20 (z 7), aI y kvc4 20 (z 8), aI y kvc5 20 o, kX10 kud kvd (z 9), aI y kvd 32 (z 10), kX0 kue kve (z 11), aI y kve 3 (z 12)]) [0, 1] [2, 3, 4, 5, 6, 7, 8, 9, 10, 11, 12, 13, 14, 15] [14, 15, 0, 1, 2, 3, 4, 5, 6, 7, 8, 9, 10, 11, 12, 13] (va_runV (As := []) (rest := []) ⟨hx, hb, hml, hown, hts⟩ (c_X2_forgetOldest l G y h a x ad zk ok s.heap.size) (cwV 0 hts gX2_remember_X2_forgetOldest rfl rfl rfl (by decide +kernel) ⟨Nat.le_of_ble_eq_true rfl, Nat.le_of_ble_eq_true rfl⟩) (PH_V (P_sel (X := [kX2 h a x, aQ y a 14 (fun i => some (ad i 0))]) [0, 1] rfl hP) hK hN (D_sel (X := [kX2 h a x, aQ y a 14 (fun i => some (ad i 0))]) [0, 1] (by decide) rfl hD) (ci := 2) (q0 := 0) rfl rfl) rfl rfl hl.1 rfl (lv_room (Nat.le_of_ble_eq_true rfl)) dX2_remember_10 ⟨Nat.le_of_ble_eq_true rfl, Nat.le_of_ble_eq_true rfl⟩) hP hD hS hA rfl rfl rfl (fun _ => rfl) (fun _ H locs hP hD hS => ?_)
    have hP : va_P G vwCl ([kX2 h a (upd x 1 13), aQ y a 14 (fun i => some (tK ad i 0)), kX7 kh kua kub kuc kud kue (z 0), kX3 kua kva (z 1), aI y kva 10 (z 2), kX1 kub (z 3), kX8 kuc kvc1 kvc2 kvc3 kvc4 kvc5 (z 4), aI y kvc1 20 (z 5), aI y kvc2 20 (z 6), aI y kvc3 20 (z 7), aI y kvc4 20 (z 8), aI y kvc5 20 o, kX10 kud kvd (z 9), aI y kvd 32 (z 10), kX0 kue kve (z 11), aI y kve 3 (z 12)] ++ kW y (tK ad) (tK zk) (tK ok) 14) H := hP
    have hD : va_D A ([kX2 h a (upd x 1 13), aQ y a 14 (fun i => some (tK ad i 0)), kX7 kh kua kub kuc kud kue (z 0), kX3 kua kva (z 1), aI y kva 10 (z 2), kX1 kub (z 3), kX8 kuc kvc1 kvc2 kvc3 kvc4 kvc5 (z 4), aI y kvc1 20 (z 5), aI y kvc2 20 (z 6), aI y kvc3 20 (z 7), aI y kvc4 20 (z 8), aI y kvc5 20 o, kX10 kud kvd (z 9), aI y kvd 32 (z 10), kX0 kue kve (z 11), aI y kve 3 (z 12)] ++ kW y (tK ad) (tK zk) (tK ok) 14) := hD
    have hge : ¬ tn (x 1) < 14 := fun h9 => c_1 (hc1 ▸ (nI_ltI (a := tn (x 1)) (b := 14) (by omega) (by decide)).mpr h9)
    refine lv_aload_n hx hb dX2_remember_13 rfl (lv_at hl 0 rfl) ?_
    refine va_get (D := G) (ci := 2) (v := .int 13) (C := RX2) (T := TX2) (N := 2) hx hb hts i_X2 hown hK hP 0 rfl rfl 1 (by decide) (hts (.fieldLink RX2 16 "RelayTuner$History" "count" "I") (by decide +kernel)) (fun _ h9 => h9) rfl dX2_remember_14 ?_
    refine lv_if_lt (tgt := 52) hx hb dX2_remember_17 (by decide) (fun c_4 => ?_) (fun c_4 => ?_)
    · exact (by first | exact absurd c_4 (by decide : ¬ ((13 : Int32) < 0)) | exact absurd (by decide : ¬ ((13 : Int32) < 0)) c_4)
    refine lv_aload_n hx hb dX2_remember_20 rfl (lv_at hl 0 rfl) ?_
    refine va_get (D := G) (ci := 2) (v := .int 13) (C := RX2) (T := TX2) (N := 2) hx hb hts i_X2 hown hK hP 0 rfl rfl 1 (by decide) (hts (.fieldLink RX2 16 "RelayTuner$History" "count" "I") (by decide +kernel)) (fun _ h9 => h9) rfl dX2_remember_21 ?_
    refine lv_bipush (v := 14) hx hb dX2_remember_24 (by decide) ?_
    refine lv_icmp_ge (tgt := 52) hx hb dX2_remember_26 (by decide) (fun c_5 => ?_) (fun c_5 => ?_)
    · exact (by first | exact absurd c_5 (by decide : ¬ ((14 : Int32) ≤ 13)) | exact absurd (by decide : ¬ ((14 : Int32) ≤ 13)) c_5)
    refine lv_aload_n hx hb dX2_remember_29 rfl (lv_at hl 0 rfl) ?_
    refine va_get (D := G) (ci := 2) (v := .ref a) (C := RX2) (T := TX2) (N := 2) hx hb hts i_X2 hown hK hP 0 rfl rfl 0 (by decide) (hts (.fieldLink RX2 11 "RelayTuner$History" "kept" "[LRelayTuner$State;") (by decide +kernel)) (fun _ h9 => h9) rfl dX2_remember_30 ?_
    refine lv_aload_n hx hb dX2_remember_33 rfl (lv_at hl 0 rfl) ?_
    refine va_get (D := G) (ci := 2) (v := .int 13) (C := RX2) (T := TX2) (N := 2) hx hb hts i_X2 hown hK hP 0 rfl rfl 1 (by decide) (hts (.fieldLink RX2 16 "RelayTuner$History" "count" "I") (by decide +kernel)) (fun _ h9 => h9) rfl dX2_remember_34 ?_
    refine al_q (D := G) (n := 14) (f := (fun i => some (tK ad i 0))) (v := (tK ad 13 0)) hx hb hK hP 1 3 rfl rfl 13 rfl (by decide) (by first | decide | omega) rfl dX2_remember_37 ?_
    have hP := P_perm (kW_pick (k := 13) (by decide)) hP
    have hD := D_perm (kW_pick (k := 13) (by decide)) hD
    have hP : va_P G vwCl ([kX2 h a (upd x 1 13), aQ y a 14 (fun i => some (tK ad i 0)), kX7 kh kua kub kuc kud kue (z 0), kX3 kua kva (z 1), aI y kva 10 (z 2), kX1 kub (z 3), kX8 kuc kvc1 kvc2 kvc3 kvc4 kvc5 (z 4), aI y kvc1 20 (z 5), aI y kvc2 20 (z 6), aI y kvc3 20 (z 7), aI y kvc4 20 (z 8), aI y kvc5 20 o, kX10 kud kvd (z 9), aI y kvd 32 (z 10), kX0 kue kve (z 11), aI y kve 3 (z 12), kX7 (tK ad 13 0) (tK ad 13 1) (tK ad 13 3) (tK ad 13 4) (tK ad 13 10) (tK ad 13 12) ((tK zk 13) 0), kX3 (tK ad 13 1) (tK ad 13 2) ((tK zk 13) 1), aI y (tK ad 13 2) 10 ((tK zk 13) 2), kX1 (tK ad 13 3) ((tK zk 13) 3), kX8 (tK ad 13 4) (tK ad 13 5) (tK ad 13 6) (tK ad 13 7) (tK ad 13 8) (tK ad 13 9) ((tK zk 13) 4), aI y (tK ad 13 5) 20 ((tK zk 13) 5), aI y (tK ad 13 6) 20 ((tK zk 13) 6), aI y (tK ad 13 7) 20 ((tK zk 13) 7), aI y (tK ad 13 8) 20 ((tK zk 13) 8), aI y (tK ad 13 9) 20 (tK ok 13), kX10 (tK ad 13 10) (tK ad 13 11) ((tK zk 13) 9), aI y (tK ad 13 11) 32 ((tK zk 13) 10), kX0 (tK ad 13 12) (tK ad 13 13) ((tK zk 13) 11), aI y (tK ad 13 13) 3 ((tK zk 13) 12)] ++ kX y (tK ad) (tK zk) (tK ok) 14 13) H := hP
    have hD : va_D A ([kX2 h a (upd x 1 13), aQ y a 14 (fun i => some (tK ad i 0)), kX7 kh kua kub kuc kud kue (z 0), kX3 kua kva (z 1), aI y kva 10 (z 2), kX1 kub (z 3), kX8 kuc kvc1 kvc2 kvc3 kvc4 kvc5 (z 4), aI y kvc1 20 (z 5), aI y kvc2 20 (z 6), aI y kvc3 20 (z 7), aI y kvc4 20 (z 8), aI y kvc5 20 o, kX10 kud kvd (z 9), aI y kvd 32 (z 10), kX0 kue kve (z 11), aI y kve 3 (z 12), kX7 (tK ad 13 0) (tK ad 13 1) (tK ad 13 3) (tK ad 13 4) (tK ad 13 10) (tK ad 13 12) ((tK zk 13) 0), kX3 (tK ad 13 1) (tK ad 13 2) ((tK zk 13) 1), aI y (tK ad 13 2) 10 ((tK zk 13) 2), kX1 (tK ad 13 3) ((tK zk 13) 3), kX8 (tK ad 13 4) (tK ad 13 5) (tK ad 13 6) (tK ad 13 7) (tK ad 13 8) (tK ad 13 9) ((tK zk 13) 4), aI y (tK ad 13 5) 20 ((tK zk 13) 5), aI y (tK ad 13 6) 20 ((tK zk 13) 6), aI y (tK ad 13 7) 20 ((tK zk 13) 7), aI y (tK ad 13 8) 20 ((tK zk 13) 8), aI y (tK ad 13 9) 20 (tK ok 13), kX10 (tK ad 13 10) (tK ad 13 11) ((tK zk 13) 9), aI y (tK ad 13 11) 32 ((tK zk 13) 10), kX0 (tK ad 13 12) (tK ad 13 13) ((tK zk 13) 11), aI y (tK ad 13 13) 3 ((tK zk 13) 12)] ++ kX y (tK ad) (tK zk) (tK ok) 14 13) := hD
    refine lv_aload_n hx hb dX2_remember_38 rfl (lv_at hl 1 rfl) ?_
    refine cl_HvT (wr := [kX2 h a (upd x 1 13), aQ y a 14 (fun i => some (tK ad i 0))]) (fun _ : Unit => [kX2 h a (upd x 1 13), aQ y a 14 (fun i => some (tK ad i 0)), kX7 kh kua kub kuc kud kue (z 0), kX3 kua kva (z 1), aI y kva 10 (z 2), kX1 kub (z 3), kX8 kuc kvc1 kvc2 kvc3 kvc4 kvc5 (z 4), aI y kvc1 20 (z 5), aI y kvc2 20 (z 6), aI y kvc3 20 (z 7), aI y kvc4 20 (z 8), aI y kvc5 20 o, kX10 kud kvd (z 9), aI y kvd 32 (z 10), kX0 kue kve (z 11), aI y kve 3 (z 12), kX7 (tK ad 13 0) (tK ad 13 1) (tK ad 13 3) (tK ad 13 4) (tK ad 13 10) (tK ad 13 12) (z 0), kX3 (tK ad 13 1) (tK ad 13 2) (z 1), aI y (tK ad 13 2) 10 (z 2), kX1 (tK ad 13 3) (z 3), kX8 (tK ad 13 4) (tK ad 13 5) (tK ad 13 6) (tK ad 13 7) (tK ad 13 8) (tK ad 13 9) (z 4), aI y (tK ad 13 5) 20 (z 5), aI y (tK ad 13 6) 20 (z 6), aI y (tK ad 13 7) 20 (z 7), aI y (tK ad 13 8) 20 (z 8), aI y (tK ad 13 9) 20 (tK ok 13), kX10 (tK ad 13 10) (tK ad 13 11) (z 9), aI y (tK ad 13 11) 32 (z 10), kX0 (tK ad 13 12) (tK ad 13 13) (z 11), aI y (tK ad 13 13) 3 (z 12)]) [16, 17, 18, 19, 20, 21, 22, 23, 24, 25, 26, 27, 28, 29, 2, 3, 4, 5, 6, 7, 8, 9, 10, 11, 12, 13, 14, 15] [0, 1] [0, 1, 16, 17, 18, 19, 20, 21, 22, 23, 24, 25, 26, 27, 28, 29, 2, 3, 4, 5, 6, 7, 8, 9, 10, 11, 12, 13, 14, 15] (va_runV (As := [.ref kh]) (rest := []) ⟨hx, hb, hml, hown, hts⟩ (c_X7_become l G y (tK ad 13 0) kh (tK ad 13 1) (tK ad 13 3) (tK ad 13 4) (tK ad 13 10) (tK ad 13 12) (tK zk 13) (tK ad 13 2) (tK ad 13 5) (tK ad 13 6) (tK ad 13 7) (tK ad 13 8) (tK ad 13 9) (tK ok 13) (tK ad 13 11) (tK ad 13 13) kua kub kuc kud kue z kva kvc1 kvc2 kvc3 kvc4 kvc5 o kvd kve H.size hrz hez hgz) (cwV 1 hts gX2_remember_X7_become rfl rfl rfl (by decide +kernel) ⟨Nat.le_of_ble_eq_true rfl, Nat.le_of_ble_eq_true rfl⟩) (PH_V (hP.sub (ws' := [kX7 (tK ad 13 0) (tK ad 13 1) (tK ad 13 3) (tK ad 13 4) (tK ad 13 10) (tK ad 13 12) ((tK zk 13) 0), kX3 (tK ad 13 1) (tK ad 13 2) ((tK zk 13) 1), aI y (tK ad 13 2) 10 ((tK zk 13) 2), kX1 (tK ad 13 3) ((tK zk 13) 3), kX8 (tK ad 13 4) (tK ad 13 5) (tK ad 13 6) (tK ad 13 7) (tK ad 13 8) (tK ad 13 9) ((tK zk 13) 4), aI y (tK ad 13 5) 20 ((tK zk 13) 5), aI y (tK ad 13 6) 20 ((tK zk 13) 6), aI y (tK ad 13 7) 20 ((tK zk 13) 7), aI y (tK ad 13 8) 20 ((tK zk 13) 8), aI y (tK ad 13 9) 20 (tK ok 13), kX10 (tK ad 13 10) (tK ad 13 11) ((tK zk 13) 9), aI y (tK ad 13 11) 32 ((tK zk 13) 10), kX0 (tK ad 13 12) (tK ad 13 13) ((tK zk 13) 11), aI y (tK ad 13 13) 3 ((tK zk 13) 12), kX7 kh kua kub kuc kud kue (z 0), kX3 kua kva (z 1), aI y kva 10 (z 2), kX1 kub (z 3), kX8 kuc kvc1 kvc2 kvc3 kvc4 kvc5 (z 4), aI y kvc1 20 (z 5), aI y kvc2 20 (z 6), aI y kvc3 20 (z 7), aI y kvc4 20 (z 8), aI y kvc5 20 o, kX10 kud kvd (z 9), aI y kvd 32 (z 10), kX0 kue kve (z 11), aI y kve 3 (z 12)]) [16, 17, 18, 19, 20, 21, 22, 23, 24, 25, 26, 27, 28, 29, 2, 3, 4, 5, 6, 7, 8, 9, 10, 11, 12, 13, 14, 15] rfl) hK hN (hD.sub (ws' := [kX7 (tK ad 13 0) (tK ad 13 1) (tK ad 13 3) (tK ad 13 4) (tK ad 13 10) (tK ad 13 12) ((tK zk 13) 0), kX3 (tK ad 13 1) (tK ad 13 2) ((tK zk 13) 1), aI y (tK ad 13 2) 10 ((tK zk 13) 2), kX1 (tK ad 13 3) ((tK zk 13) 3), kX8 (tK ad 13 4) (tK ad 13 5) (tK ad 13 6) (tK ad 13 7) (tK ad 13 8) (tK ad 13 9) ((tK zk 13) 4), aI y (tK ad 13 5) 20 ((tK zk 13) 5), aI y (tK ad 13 6) 20 ((tK zk 13) 6), aI y (tK ad 13 7) 20 ((tK zk 13) 7), aI y (tK ad 13 8) 20 ((tK zk 13) 8), aI y (tK ad 13 9) 20 (tK ok 13), kX10 (tK ad 13 10) (tK ad 13 11) ((tK zk 13) 9), aI y (tK ad 13 11) 32 ((tK zk 13) 10), kX0 (tK ad 13 12) (tK ad 13 13) ((tK zk 13) 11), aI y (tK ad 13 13) 3 ((tK zk 13) 12), kX7 kh kua kub kuc kud kue (z 0), kX3 kua kva (z 1), aI y kva 10 (z 2), kX1 kub (z 3), kX8 kuc kvc1 kvc2 kvc3 kvc4 kvc5 (z 4), aI y kvc1 20 (z 5), aI y kvc2 20 (z 6), aI y kvc3 20 (z 7), aI y kvc4 20 (z 8), aI y kvc5 20 o, kX10 kud kvd (z 9), aI y kvd 32 (z 10), kX0 kue kve (z 11), aI y kve 3 (z 12)]) [16, 17, 18, 19, 20, 21, 22, 23, 24, 25, 26, 27, 28, 29, 2, 3, 4, 5, 6, 7, 8, 9, 10, 11, 12, 13, 14, 15] (by decide) rfl) (ci := 5) (q0 := 0) rfl rfl) rfl rfl hl.1 rfl (lv_room (Nat.le_of_ble_eq_true rfl)) dX2_remember_39 ⟨Nat.le_of_ble_eq_true rfl, Nat.le_of_ble_eq_true rfl⟩) hP hD hS hA rfl rfl rfl (fun _ => rfl) (fun _ H locs hP hD hS => ?_)
    have hP : va_P G vwCl ([kX2 h a (upd x 1 13), aQ y a 14 (fun i => some (tK ad i 0)), kX7 kh kua kub kuc kud kue (z 0), kX3 kua kva (z 1), aI y kva 10 (z 2), kX1 kub (z 3), kX8 kuc kvc1 kvc2 kvc3 kvc4 kvc5 (z 4), aI y kvc1 20 (z 5), aI y kvc2 20 (z 6), aI y kvc3 20 (z 7), aI y kvc4 20 (z 8), aI y kvc5 20 o, kX10 kud kvd (z 9), aI y kvd 32 (z 10), kX0 kue kve (z 11), aI y kve 3 (z 12), kX7 (tK ad 13 0) (tK ad 13 1) (tK ad 13 3) (tK ad 13 4) (tK ad 13 10) (tK ad 13 12) (z 0), kX3 (tK ad 13 1) (tK ad 13 2) (z 1), aI y (tK ad 13 2) 10 (z 2), kX1 (tK ad 13 3) (z 3), kX8 (tK ad 13 4) (tK ad 13 5) (tK ad 13 6) (tK ad 13 7) (tK ad 13 8) (tK ad 13 9) (z 4), aI y (tK ad 13 5) 20 (z 5), aI y (tK ad 13 6) 20 (z 6), aI y (tK ad 13 7) 20 (z 7), aI y (tK ad 13 8) 20 (z 8), aI y (tK ad 13 9) 20 (tK ok 13), kX10 (tK ad 13 10) (tK ad 13 11) (z 9), aI y (tK ad 13 11) 32 (z 10), kX0 (tK ad 13 12) (tK ad 13 13) (z 11), aI y (tK ad 13 13) 3 (z 12)] ++ kX y (tK ad) (tK zk) (tK ok) 14 13) H := hP
    have hD : va_D A ([kX2 h a (upd x 1 13), aQ y a 14 (fun i => some (tK ad i 0)), kX7 kh kua kub kuc kud kue (z 0), kX3 kua kva (z 1), aI y kva 10 (z 2), kX1 kub (z 3), kX8 kuc kvc1 kvc2 kvc3 kvc4 kvc5 (z 4), aI y kvc1 20 (z 5), aI y kvc2 20 (z 6), aI y kvc3 20 (z 7), aI y kvc4 20 (z 8), aI y kvc5 20 o, kX10 kud kvd (z 9), aI y kvd 32 (z 10), kX0 kue kve (z 11), aI y kve 3 (z 12), kX7 (tK ad 13 0) (tK ad 13 1) (tK ad 13 3) (tK ad 13 4) (tK ad 13 10) (tK ad 13 12) (z 0), kX3 (tK ad 13 1) (tK ad 13 2) (z 1), aI y (tK ad 13 2) 10 (z 2), kX1 (tK ad 13 3) (z 3), kX8 (tK ad 13 4) (tK ad 13 5) (tK ad 13 6) (tK ad 13 7) (tK ad 13 8) (tK ad 13 9) (z 4), aI y (tK ad 13 5) 20 (z 5), aI y (tK ad 13 6) 20 (z 6), aI y (tK ad 13 7) 20 (z 7), aI y (tK ad 13 8) 20 (z 8), aI y (tK ad 13 9) 20 (tK ok 13), kX10 (tK ad 13 10) (tK ad 13 11) (z 9), aI y (tK ad 13 11) 32 (z 10), kX0 (tK ad 13 12) (tK ad 13 13) (z 11), aI y (tK ad 13 13) 3 (z 12)] ++ kX y (tK ad) (tK zk) (tK ok) 14 13) := hD
    have hP : va_P G vwCl ([kX2 h a (upd x 1 13), aQ y a 14 (fun i => some (tK ad i 0)), kX7 kh kua kub kuc kud kue (z 0), kX3 kua kva (z 1), aI y kva 10 (z 2), kX1 kub (z 3), kX8 kuc kvc1 kvc2 kvc3 kvc4 kvc5 (z 4), aI y kvc1 20 (z 5), aI y kvc2 20 (z 6), aI y kvc3 20 (z 7), aI y kvc4 20 (z 8), aI y kvc5 20 o, kX10 kud kvd (z 9), aI y kvd 32 (z 10), kX0 kue kve (z 11), aI y kve 3 (z 12)] ++ stB y (tK ad 13) z (tK ok 13) ++ kX y (tK ad) (tK zk) (tK ok) 14 13) H := hP
    have hD : va_D A ([kX2 h a (upd x 1 13), aQ y a 14 (fun i => some (tK ad i 0)), kX7 kh kua kub kuc kud kue (z 0), kX3 kua kva (z 1), aI y kva 10 (z 2), kX1 kub (z 3), kX8 kuc kvc1 kvc2 kvc3 kvc4 kvc5 (z 4), aI y kvc1 20 (z 5), aI y kvc2 20 (z 6), aI y kvc3 20 (z 7), aI y kvc4 20 (z 8), aI y kvc5 20 o, kX10 kud kvd (z 9), aI y kvd 32 (z 10), kX0 kue kve (z 11), aI y kve 3 (z 12)] ++ stB y (tK ad 13) z (tK ok 13) ++ kX y (tK ad) (tK zk) (tK ok) 14 13) := hD
    have hP := P_perm (kW_put (k := 13) (by decide)) hP
    have hD := D_perm (kW_put (k := 13) (by decide)) hD
    have hP : va_P G vwCl ([kX2 h a (upd x 1 13), aQ y a 14 (fun i => some (tK ad i 0)), kX7 kh kua kub kuc kud kue (z 0), kX3 kua kva (z 1), aI y kva 10 (z 2), kX1 kub (z 3), kX8 kuc kvc1 kvc2 kvc3 kvc4 kvc5 (z 4), aI y kvc1 20 (z 5), aI y kvc2 20 (z 6), aI y kvc3 20 (z 7), aI y kvc4 20 (z 8), aI y kvc5 20 o, kX10 kud kvd (z 9), aI y kvd 32 (z 10), kX0 kue kve (z 11), aI y kve 3 (z 12)] ++ kW y (tK ad) (uK (tK zk) 13 z) (tK ok) 14) H := hP
    have hD : va_D A ([kX2 h a (upd x 1 13), aQ y a 14 (fun i => some (tK ad i 0)), kX7 kh kua kub kuc kud kue (z 0), kX3 kua kva (z 1), aI y kva 10 (z 2), kX1 kub (z 3), kX8 kuc kvc1 kvc2 kvc3 kvc4 kvc5 (z 4), aI y kvc1 20 (z 5), aI y kvc2 20 (z 6), aI y kvc3 20 (z 7), aI y kvc4 20 (z 8), aI y kvc5 20 o, kX10 kud kvd (z 9), aI y kvd 32 (z 10), kX0 kue kve (z 11), aI y kve 3 (z 12)] ++ kW y (tK ad) (uK (tK zk) 13 z) (tK ok) 14) := hD
    refine lv_aload_n hx hb dX2_remember_42 rfl (lv_at hl 0 rfl) ?_
    refine lv_dup hx hb dX2_remember_43 rfl ?_
    refine va_get (D := G) (ci := 2) (v := .int 13) (C := RX2) (T := TX2) (N := 2) hx hb hts i_X2 hown hK hP 0 rfl rfl 1 (by decide) (hts (.fieldLink RX2 16 "RelayTuner$History" "count" "I") (by decide +kernel)) (fun _ h9 => h9) rfl dX2_remember_44 ?_
    refine lv_iconst (v := 1) hx hb dX2_remember_47 (by decide) ?_
    refine lv_iadd hx hb dX2_remember_48 ?_
    refine rw_i (x' := 14) (by decide) ?_
    refine va_put (D := G) (ci := 2) (v := .int 14) (ty := .int) (C := RX2) (T := TX2) (N := 2) hx hb hts i_X2 tyX2 tyX2_ok nmX2 hown hK hP hD hS 0 rfl rfl 1 (by decide) (hts (.fieldLink RX2 16 "RelayTuner$History" "count" "I") (by decide +kernel)) (fun _ h9 => h9) rfl (by decide +kernel) rfl rfl (Nat.le_of_ble_eq_true rfl) dX2_remember_49 (fun H locs hP hD hS => ?_)
    have hP : va_P G vwCl ([kX2 h a (upd (upd x 1 13) 1 14), aQ y a 14 (fun i => some (tK ad i 0)), kX7 kh kua kub kuc kud kue (z 0), kX3 kua kva (z 1), aI y kva 10 (z 2), kX1 kub (z 3), kX8 kuc kvc1 kvc2 kvc3 kvc4 kvc5 (z 4), aI y kvc1 20 (z 5), aI y kvc2 20 (z 6), aI y kvc3 20 (z 7), aI y kvc4 20 (z 8), aI y kvc5 20 o, kX10 kud kvd (z 9), aI y kvd 32 (z 10), kX0 kue kve (z 11), aI y kve 3 (z 12)] ++ kW y (tK ad) (uK (tK zk) 13 z) (tK ok) 14) H := hP
    have hD : va_D A ([kX2 h a (upd (upd x 1 13) 1 14), aQ y a 14 (fun i => some (tK ad i 0)), kX7 kh kua kub kuc kud kue (z 0), kX3 kua kva (z 1), aI y kva 10 (z 2), kX1 kub (z 3), kX8 kuc kvc1 kvc2 kvc3 kvc4 kvc5 (z 4), aI y kvc1 20 (z 5), aI y kvc2 20 (z 6), aI y kvc3 20 (z 7), aI y kvc4 20 (z 8), aI y kvc5 20 o, kX10 kud kvd (z 9), aI y kvd 32 (z 10), kX0 kue kve (z 11), aI y kve 3 (z 12)] ++ kW y (tK ad) (uK (tK zk) 13 z) (tK ok) 14) := hD
    exact W.vret hx hb hr (end_Hv () hP hD hS (by unfold rmT rmC; rw [if_neg hge, if_neg hge, if_neg hge, if_neg hge]; rfl)) hS.2.2 dX2_remember_52

abbrev rmX2_bringBack : Room := ({ frames := 3, cells := 0, slots := 0, locals := 102 } : Room)
set_option maxHeartbeats 400000 in
set_option maxRecDepth 100000 in
theorem c_X2_bringBack (l : Launch) (G : va_G) (y : Nat → ClassId) (h : Nat) (kh : Nat) (a : Nat) (x : Nat → Int32) (kua : Nat) (kub : Nat) (kuc : Nat) (kud : Nat) (kue : Nat) (z : Nat → Nat → Int32) (kva : Nat) (kvc1 : Nat) (kvc2 : Nat) (kvc3 : Nat) (kvc4 : Nat) (kvc5 : Nat) (o : Nat → Int32) (kvd : Nat) (kve : Nat) (ad : Nat → Nat → Nat) (zk : Nat → Nat → Nat → Int32) (ok : Nat → Nat → Int32) (sz : Nat) (hc : vp_in (x 1) 15) (hpos : 0 < tn (x 1)) (hrzk : (zk (tn (x 1) - 1)) 3 7 = 0 ∨ (zk (tn (x 1) - 1)) 3 7 = 1) (hezk : (zk (tn (x 1) - 1)) 3 10 = 0 ∨ (zk (tn (x 1) - 1)) 3 10 = 1) (hgzk : (zk (tn (x 1) - 1)) 4 6 = 0 ∨ (zk (tn (x 1) - 1)) 4 6 = 1) : Met l yX2_bringBack wsX2_bringBack rmX2_bringBack (PH G y [.ref h, .ref kh] ([kX2 h a x, aQ y a 14 (fun i => some (ad i 0)), kX7 kh kua kub kuc kud kue (z 0), kX3 kua kva (z 1), aI y kva 10 (z 2), kX1 kub (z 3), kX8 kuc kvc1 kvc2 kvc3 kvc4 kvc5 (z 4), aI y kvc1 20 (z 5), aI y kvc2 20 (z 6), aI y kvc3 20 (z 7), aI y kvc4 20 (z 8), aI y kvc5 20 o, kX10 kud kvd (z 9), aI y kvd 32 (z 10), kX0 kue kve (z 11), aI y kve 3 (z 12)] ++ kW y ad zk ok 14) sz) (QHv G (fun _ : Unit => ([kX2 h a (upd x 1 ((x 1) - 1)), aQ y a 14 (fun i => some (ad i 0)), kX7 kh kua kub kuc kud kue (zk (tn (x 1) - 1) 0), kX3 kua kva (zk (tn (x 1) - 1) 1), aI y kva 10 (zk (tn (x 1) - 1) 2), kX1 kub (zk (tn (x 1) - 1) 3), kX8 kuc kvc1 kvc2 kvc3 kvc4 kvc5 (zk (tn (x 1) - 1) 4), aI y kvc1 20 (zk (tn (x 1) - 1) 5), aI y kvc2 20 (zk (tn (x 1) - 1) 6), aI y kvc3 20 (zk (tn (x 1) - 1) 7), aI y kvc4 20 (zk (tn (x 1) - 1) 8), aI y kvc5 20 o, kX10 kud kvd (zk (tn (x 1) - 1) 9), aI y kvd 32 (zk (tn (x 1) - 1) 10), kX0 kue kve (zk (tn (x 1) - 1) 11), aI y kve 3 (zk (tn (x 1) - 1) 12)] ++ kW y ad zk ok 14)) (va_A ([kX2 h a x, aQ y a 14 (fun i => some (ad i 0)), kX7 kh kua kub kuc kud kue (z 0), kX3 kua kva (z 1), aI y kva 10 (z 2), kX1 kub (z 3), kX8 kuc kvc1 kvc2 kvc3 kvc4 kvc5 (z 4), aI y kvc1 20 (z 5), aI y kvc2 20 (z 6), aI y kvc3 20 (z 7), aI y kvc4 20 (z 8), aI y kvc5 20 o, kX10 kud kvd (z 9), aI y kvd 32 (z 10), kX0 kue kve (z 11), aI y kve 3 (z 12)] ++ kW y ad zk ok 14) sz)) 0 0 (va_A ([kX2 h a x, aQ y a 14 (fun i => some (ad i 0)), kX7 kh kua kub kuc kud kue (z 0), kX3 kua kva (z 1), aI y kva 10 (z 2), kX1 kub (z 3), kX8 kuc kvc1 kvc2 kvc3 kvc4 kvc5 (z 4), aI y kvc1 20 (z 5), aI y kvc2 20 (z 6), aI y kvc3 20 (z 7), aI y kvc4 20 (z 8), aI y kvc5 20 o, kX10 kud kvd (z 9), aI y kvd 32 (z 10), kX0 kue kve (z 11), aI y kve 3 (z 12)] ++ kW y ad zk ok 14) sz) := by
  refine Met.ofW (cc := cX2_bringBack) (maxL := 2) (ret := none) (by decide) rfl ?_
  intro p e s m args below meth c s₁ B hml hv
  obtain ⟨rfl, hsz, hP, ⟨hK, hN⟩, hD0⟩ := hv
  have hx := B.exec
  have hb := B.bytes
  have hr := B.returns
  have hts := atoms_spec (ws := wsX2_bringBack) B.pre
  have hown : s.vm.findClass RX2 = some m.cls := findClass_of_methodNamed B.named
  have hlocks := B.notSynchronized
  have i_X2 : ∀ w ∈ u_ws RX2 TX2 2, w ∈ wsX2_bringBack := by decide +kernel
  subst hsz
  have hD := hD0.self (sz := s.heap.size)
  generalize hAe : va_A ([kX2 h a x, aQ y a 14 (fun i => some (ad i 0)), kX7 kh kua kub kuc kud kue (z 0), kX3 kua kva (z 1), aI y kva 10 (z 2), kX1 kub (z 3), kX8 kuc kvc1 kvc2 kvc3 kvc4 kvc5 (z 4), aI y kvc1 20 (z 5), aI y kvc2 20 (z 6), aI y kvc3 20 (z 7), aI y kvc4 20 (z 8), aI y kvc5 20 o, kX10 kud kvd (z 9), aI y kvd 32 (z 10), kX0 kue kve (z 11), aI y kve 3 (z 12)] ++ kW y ad zk ok 14) s.heap.size = A at hD ⊢
  have hA : ∀ q : Nat, s.heap.size ≤ q → A q := fun q h => by rw [← hAe]; exact Or.inr h
  have hS : va_S A s.heap s.heap [] := va_S.rf
  have hP : va_P G vwCl ([kX2 h a x, aQ y a 14 (fun i => some (ad i 0)), kX7 kh kua kub kuc kud kue (z 0), kX3 kua kva (z 1), aI y kva 10 (z 2), kX1 kub (z 3), kX8 kuc kvc1 kvc2 kvc3 kvc4 kvc5 (z 4), aI y kvc1 20 (z 5), aI y kvc2 20 (z 6), aI y kvc3 20 (z 7), aI y kvc4 20 (z 8), aI y kvc5 20 o, kX10 kud kvd (z 9), aI y kvd 32 (z 10), kX0 kue kve (z 11), aI y kve 3 (z 12)] ++ kW y ad zk ok 14) s.heap := hP
  obtain ⟨hc1, hc2⟩ := in_tn hc (by decide)
  have hl := lv_entry ([.ref h, .ref kh]) (n := 2) (Nat.le_of_ble_eq_true rfl)
  rw [lg_entry_eq]
  generalize (lg_sl ([.ref h, .ref kh]) ++ List.replicate (2 - (lg_sl ([.ref h, .ref kh])).length) Slot.unset).toArray = ls at hl ⊢
  have hl : lv_has ls 2 [(0, .ref h), (1, .ref kh)] := hl
  have hc4 : ¬ (x 1) ≤ 0 := fun h9 => absurd (zero_of_le0 hc1 (by omega) h9) (by omega)
  have hc3 : ¬ 14 < (x 1) := by rw [hc1]; exact Int32.not_lt.mpr ((nI_leI (a := tn (x 1)) (b := 14) (by omega) (by decide)).mpr (by omega))
  refine lv_aload_n hx hb dX2_bringBack_0 rfl (lv_at hl 0 rfl) ?_
  refine va_get (D := G) (ci := 2) (v := .int (x 1)) (C := RX2) (T := TX2) (N := 2) hx hb hts i_X2 hown hK hP 0 rfl rfl 1 (by decide) (hts (.fieldLink RX2 16 "RelayTuner$History" "count" "I") (by decide +kernel)) (fun _ h9 => h9) rfl dX2_bringBack_1 ?_
  refine lv_if_le (tgt := 39) hx hb dX2_bringBack_4 (by decide) (fun c_1 => ?_) (fun c_1 => ?_)
  · exact (by first | exact absurd c_1 hc4 | exact absurd hc4 c_1)
  refine lv_aload_n hx hb dX2_bringBack_7 rfl (lv_at hl 0 rfl) ?_
  refine va_get (D := G) (ci := 2) (v := .int (x 1)) (C := RX2) (T := TX2) (N := 2) hx hb hts i_X2 hown hK hP 0 rfl rfl 1 (by decide) (hts (.fieldLink RX2 16 "RelayTuner$History" "count" "I") (by decide +kernel)) (fun _ h9 => h9) rfl dX2_bringBack_8 ?_
  refine lv_bipush (v := 14) hx hb dX2_bringBack_11 (by decide) ?_
  refine lv_icmp_gt (tgt := 39) hx hb dX2_bringBack_13 (by decide) (fun c_2 => ?_) (fun c_2 => ?_)
  · exact (by first | exact absurd c_2 hc3 | exact absurd hc3 c_2)
  refine lv_aload_n hx hb dX2_bringBack_16 rfl (lv_at hl 0 rfl) ?_
  refine lv_dup hx hb dX2_bringBack_17 rfl ?_
  refine va_get (D := G) (ci := 2) (v := .int (x 1)) (C := RX2) (T := TX2) (N := 2) hx hb hts i_X2 hown hK hP 0 rfl rfl 1 (by decide) (hts (.fieldLink RX2 16 "RelayTuner$History" "count" "I") (by decide +kernel)) (fun _ h9 => h9) rfl dX2_bringBack_18 ?_
  refine lv_iconst (v := 1) hx hb dX2_bringBack_21 (by decide) ?_
  refine lv_isub hx hb dX2_bringBack_22 ?_
  refine va_put (D := G) (ci := 2) (v := .int ((x 1) - 1)) (ty := .int) (C := RX2) (T := TX2) (N := 2) hx hb hts i_X2 tyX2 tyX2_ok nmX2 hown hK hP hD hS 0 rfl rfl 1 (by decide) (hts (.fieldLink RX2 16 "RelayTuner$History" "count" "I") (by decide +kernel)) (fun _ h9 => h9) rfl (by decide +kernel) rfl rfl (Nat.le_of_ble_eq_true rfl) dX2_bringBack_23 (fun H locs hP hD hS => ?_)
  have hP : va_P G vwCl ([kX2 h a (upd x 1 ((x 1) - 1)), aQ y a 14 (fun i => some (ad i 0)), kX7 kh kua kub kuc kud kue (z 0), kX3 kua kva (z 1), aI y kva 10 (z 2), kX1 kub (z 3), kX8 kuc kvc1 kvc2 kvc3 kvc4 kvc5 (z 4), aI y kvc1 20 (z 5), aI y kvc2 20 (z 6), aI y kvc3 20 (z 7), aI y kvc4 20 (z 8), aI y kvc5 20 o, kX10 kud kvd (z 9), aI y kvd 32 (z 10), kX0 kue kve (z 11), aI y kve 3 (z 12)] ++ kW y ad zk ok 14) H := hP
  have hD : va_D A ([kX2 h a (upd x 1 ((x 1) - 1)), aQ y a 14 (fun i => some (ad i 0)), kX7 kh kua kub kuc kud kue (z 0), kX3 kua kva (z 1), aI y kva 10 (z 2), kX1 kub (z 3), kX8 kuc kvc1 kvc2 kvc3 kvc4 kvc5 (z 4), aI y kvc1 20 (z 5), aI y kvc2 20 (z 6), aI y kvc3 20 (z 7), aI y kvc4 20 (z 8), aI y kvc5 20 o, kX10 kud kvd (z 9), aI y kvd 32 (z 10), kX0 kue kve (z 11), aI y kve 3 (z 12)] ++ kW y ad zk ok 14) := hD
  refine lv_aload_n hx hb dX2_bringBack_26 rfl (lv_at hl 1 rfl) ?_
  refine lv_aload_n hx hb dX2_bringBack_27 rfl (lv_at hl 0 rfl) ?_
  refine va_get (D := G) (ci := 2) (v := .ref a) (C := RX2) (T := TX2) (N := 2) hx hb hts i_X2 hown hK hP 0 rfl rfl 0 (by decide) (hts (.fieldLink RX2 11 "RelayTuner$History" "kept" "[LRelayTuner$State;") (by decide +kernel)) (fun _ h9 => h9) rfl dX2_bringBack_28 ?_
  refine lv_aload_n hx hb dX2_bringBack_31 rfl (lv_at hl 0 rfl) ?_
  refine va_get (D := G) (ci := 2) (v := .int ((x 1) - 1)) (C := RX2) (T := TX2) (N := 2) hx hb hts i_X2 hown hK hP 0 rfl rfl 1 (by decide) (hts (.fieldLink RX2 16 "RelayTuner$History" "count" "I") (by decide +kernel)) (fun _ h9 => h9) rfl dX2_bringBack_32 ?_
  refine al_q (D := G) (n := 14) (f := (fun i => some (ad i 0))) (v := (ad (tn (x 1) - 1) 0)) hx hb hK hP 1 3 rfl rfl (tn (x 1) - 1) (sub1_ix hc1 (by omega)) (by omega) (by first | decide | omega) rfl dX2_bringBack_35 ?_
  have hP := P_perm (kW_pick (k := tn (x 1) - 1) (by omega)) hP
  have hD := D_perm (kW_pick (k := tn (x 1) - 1) (by omega)) hD
  have hP : va_P G vwCl ([kX2 h a (upd x 1 ((x 1) - 1)), aQ y a 14 (fun i => some (ad i 0)), kX7 kh kua kub kuc kud kue (z 0), kX3 kua kva (z 1), aI y kva 10 (z 2), kX1 kub (z 3), kX8 kuc kvc1 kvc2 kvc3 kvc4 kvc5 (z 4), aI y kvc1 20 (z 5), aI y kvc2 20 (z 6), aI y kvc3 20 (z 7), aI y kvc4 20 (z 8), aI y kvc5 20 o, kX10 kud kvd (z 9), aI y kvd 32 (z 10), kX0 kue kve (z 11), aI y kve 3 (z 12), kX7 (ad (tn (x 1) - 1) 0) (ad (tn (x 1) - 1) 1) (ad (tn (x 1) - 1) 3) (ad (tn (x 1) - 1) 4) (ad (tn (x 1) - 1) 10) (ad (tn (x 1) - 1) 12) ((zk (tn (x 1) - 1)) 0), kX3 (ad (tn (x 1) - 1) 1) (ad (tn (x 1) - 1) 2) ((zk (tn (x 1) - 1)) 1), aI y (ad (tn (x 1) - 1) 2) 10 ((zk (tn (x 1) - 1)) 2), kX1 (ad (tn (x 1) - 1) 3) ((zk (tn (x 1) - 1)) 3), kX8 (ad (tn (x 1) - 1) 4) (ad (tn (x 1) - 1) 5) (ad (tn (x 1) - 1) 6) (ad (tn (x 1) - 1) 7) (ad (tn (x 1) - 1) 8) (ad (tn (x 1) - 1) 9) ((zk (tn (x 1) - 1)) 4), aI y (ad (tn (x 1) - 1) 5) 20 ((zk (tn (x 1) - 1)) 5), aI y (ad (tn (x 1) - 1) 6) 20 ((zk (tn (x 1) - 1)) 6), aI y (ad (tn (x 1) - 1) 7) 20 ((zk (tn (x 1) - 1)) 7), aI y (ad (tn (x 1) - 1) 8) 20 ((zk (tn (x 1) - 1)) 8), aI y (ad (tn (x 1) - 1) 9) 20 (ok (tn (x 1) - 1)), kX10 (ad (tn (x 1) - 1) 10) (ad (tn (x 1) - 1) 11) ((zk (tn (x 1) - 1)) 9), aI y (ad (tn (x 1) - 1) 11) 32 ((zk (tn (x 1) - 1)) 10), kX0 (ad (tn (x 1) - 1) 12) (ad (tn (x 1) - 1) 13) ((zk (tn (x 1) - 1)) 11), aI y (ad (tn (x 1) - 1) 13) 3 ((zk (tn (x 1) - 1)) 12)] ++ kX y ad zk ok 14 (tn (x 1) - 1)) H := hP
  have hD : va_D A ([kX2 h a (upd x 1 ((x 1) - 1)), aQ y a 14 (fun i => some (ad i 0)), kX7 kh kua kub kuc kud kue (z 0), kX3 kua kva (z 1), aI y kva 10 (z 2), kX1 kub (z 3), kX8 kuc kvc1 kvc2 kvc3 kvc4 kvc5 (z 4), aI y kvc1 20 (z 5), aI y kvc2 20 (z 6), aI y kvc3 20 (z 7), aI y kvc4 20 (z 8), aI y kvc5 20 o, kX10 kud kvd (z 9), aI y kvd 32 (z 10), kX0 kue kve (z 11), aI y kve 3 (z 12), kX7 (ad (tn (x 1) - 1) 0) (ad (tn (x 1) - 1) 1) (ad (tn (x 1) - 1) 3) (ad (tn (x 1) - 1) 4) (ad (tn (x 1) - 1) 10) (ad (tn (x 1) - 1) 12) ((zk (tn (x 1) - 1)) 0), kX3 (ad (tn (x 1) - 1) 1) (ad (tn (x 1) - 1) 2) ((zk (tn (x 1) - 1)) 1), aI y (ad (tn (x 1) - 1) 2) 10 ((zk (tn (x 1) - 1)) 2), kX1 (ad (tn (x 1) - 1) 3) ((zk (tn (x 1) - 1)) 3), kX8 (ad (tn (x 1) - 1) 4) (ad (tn (x 1) - 1) 5) (ad (tn (x 1) - 1) 6) (ad (tn (x 1) - 1) 7) (ad (tn (x 1) - 1) 8) (ad (tn (x 1) - 1) 9) ((zk (tn (x 1) - 1)) 4), aI y (ad (tn (x 1) - 1) 5) 20 ((zk (tn (x 1) - 1)) 5), aI y (ad (tn (x 1) - 1) 6) 20 ((zk (tn (x 1) - 1)) 6), aI y (ad (tn (x 1) - 1) 7) 20 ((zk (tn (x 1) - 1)) 7), aI y (ad (tn (x 1) - 1) 8) 20 ((zk (tn (x 1) - 1)) 8), aI y (ad (tn (x 1) - 1) 9) 20 (ok (tn (x 1) - 1)), kX10 (ad (tn (x 1) - 1) 10) (ad (tn (x 1) - 1) 11) ((zk (tn (x 1) - 1)) 9), aI y (ad (tn (x 1) - 1) 11) 32 ((zk (tn (x 1) - 1)) 10), kX0 (ad (tn (x 1) - 1) 12) (ad (tn (x 1) - 1) 13) ((zk (tn (x 1) - 1)) 11), aI y (ad (tn (x 1) - 1) 13) 3 ((zk (tn (x 1) - 1)) 12)] ++ kX y ad zk ok 14 (tn (x 1) - 1)) := hD
  refine cl_HvT (wr := [kX2 h a (upd x 1 ((x 1) - 1)), aQ y a 14 (fun i => some (ad i 0))]) (fun _ : Unit => [kX2 h a (upd x 1 ((x 1) - 1)), aQ y a 14 (fun i => some (ad i 0)), kX7 kh kua kub kuc kud kue ((zk (tn (x 1) - 1)) 0), kX3 kua kva ((zk (tn (x 1) - 1)) 1), aI y kva 10 ((zk (tn (x 1) - 1)) 2), kX1 kub ((zk (tn (x 1) - 1)) 3), kX8 kuc kvc1 kvc2 kvc3 kvc4 kvc5 ((zk (tn (x 1) - 1)) 4), aI y kvc1 20 ((zk (tn (x 1) - 1)) 5), aI y kvc2 20 ((zk (tn (x 1) - 1)) 6), aI y kvc3 20 ((zk (tn (x 1) - 1)) 7), aI y kvc4 20 ((zk (tn (x 1) - 1)) 8), aI y kvc5 20 o, kX10 kud kvd ((zk (tn (x 1) - 1)) 9), aI y kvd 32 ((zk (tn (x 1) - 1)) 10), kX0 kue kve ((zk (tn (x 1) - 1)) 11), aI y kve 3 ((zk (tn (x 1) - 1)) 12), kX7 (ad (tn (x 1) - 1) 0) (ad (tn (x 1) - 1) 1) (ad (tn (x 1) - 1) 3) (ad (tn (x 1) - 1) 4) (ad (tn (x 1) - 1) 10) (ad (tn (x 1) - 1) 12) ((zk (tn (x 1) - 1)) 0), kX3 (ad (tn (x 1) - 1) 1) (ad (tn (x 1) - 1) 2) ((zk (tn (x 1) - 1)) 1), aI y (ad (tn (x 1) - 1) 2) 10 ((zk (tn (x 1) - 1)) 2), kX1 (ad (tn (x 1) - 1) 3) ((zk (tn (x 1) - 1)) 3), kX8 (ad (tn (x 1) - 1) 4) (ad (tn (x 1) - 1) 5) (ad (tn (x 1) - 1) 6) (ad (tn (x 1) - 1) 7) (ad (tn (x 1) - 1) 8) (ad (tn (x 1) - 1) 9) ((zk (tn (x 1) - 1)) 4), aI y (ad (tn (x 1) - 1) 5) 20 ((zk (tn (x 1) - 1)) 5), aI y (ad (tn (x 1) - 1) 6) 20 ((zk (tn (x 1) - 1)) 6), aI y (ad (tn (x 1) - 1) 7) 20 ((zk (tn (x 1) - 1)) 7), aI y (ad (tn (x 1) - 1) 8) 20 ((zk (tn (x 1) - 1)) 8), aI y (ad (tn (x 1) - 1) 9) 20 (ok (tn (x 1) - 1)), kX10 (ad (tn (x 1) - 1) 10) (ad (tn (x 1) - 1) 11) ((zk (tn (x 1) - 1)) 9), aI y (ad (tn (x 1) - 1) 11) 32 ((zk (tn (x 1) - 1)) 10), kX0 (ad (tn (x 1) - 1) 12) (ad (tn (x 1) - 1) 13) ((zk (tn (x 1) - 1)) 11), aI y (ad (tn (x 1) - 1) 13) 3 ((zk (tn (x 1) - 1)) 12)]) [2, 3, 4, 5, 6, 7, 8, 9, 10, 11, 12, 13, 14, 15, 16, 17, 18, 19, 20, 21, 22, 23, 24, 25, 26, 27, 28, 29] [0, 1] [0, 1, 2, 3, 4, 5, 6, 7, 8, 9, 10, 11, 12, 13, 14, 15, 16, 17, 18, 19, 20, 21, 22, 23, 24, 25, 26, 27, 28, 29] (va_runV (As := [.ref (ad (tn (x 1) - 1) 0)]) (rest := []) ⟨hx, hb, hml, hown, hts⟩ (c_X7_become l G y kh (ad (tn (x 1) - 1) 0) kua kub kuc kud kue z kva kvc1 kvc2 kvc3 kvc4 kvc5 o kvd kve (ad (tn (x 1) - 1) 1) (ad (tn (x 1) - 1) 3) (ad (tn (x 1) - 1) 4) (ad (tn (x 1) - 1) 10) (ad (tn (x 1) - 1) 12) (zk (tn (x 1) - 1)) (ad (tn (x 1) - 1) 2) (ad (tn (x 1) - 1) 5) (ad (tn (x 1) - 1) 6) (ad (tn (x 1) - 1) 7) (ad (tn (x 1) - 1) 8) (ad (tn (x 1) - 1) 9) (ok (tn (x 1) - 1)) (ad (tn (x 1) - 1) 11) (ad (tn (x 1) - 1) 13) H.size hrzk hezk hgzk) (cwV 1 hts gX2_bringBack_X7_become rfl rfl rfl (by decide +kernel) ⟨Nat.le_of_ble_eq_true rfl, Nat.le_of_ble_eq_true rfl⟩) (PH_V (hP.sub (ws' := [kX7 kh kua kub kuc kud kue (z 0), kX3 kua kva (z 1), aI y kva 10 (z 2), kX1 kub (z 3), kX8 kuc kvc1 kvc2 kvc3 kvc4 kvc5 (z 4), aI y kvc1 20 (z 5), aI y kvc2 20 (z 6), aI y kvc3 20 (z 7), aI y kvc4 20 (z 8), aI y kvc5 20 o, kX10 kud kvd (z 9), aI y kvd 32 (z 10), kX0 kue kve (z 11), aI y kve 3 (z 12), kX7 (ad (tn (x 1) - 1) 0) (ad (tn (x 1) - 1) 1) (ad (tn (x 1) - 1) 3) (ad (tn (x 1) - 1) 4) (ad (tn (x 1) - 1) 10) (ad (tn (x 1) - 1) 12) ((zk (tn (x 1) - 1)) 0), kX3 (ad (tn (x 1) - 1) 1) (ad (tn (x 1) - 1) 2) ((zk (tn (x 1) - 1)) 1), aI y (ad (tn (x 1) - 1) 2) 10 ((zk (tn (x 1) - 1)) 2), kX1 (ad (tn (x 1) - 1) 3) ((zk (tn (x 1) - 1)) 3), kX8 (ad (tn (x 1) - 1) 4) (ad (tn (x 1) - 1) 5) (ad (tn (x 1) - 1) 6) (ad (tn (x 1) - 1) 7) (ad (tn (x 1) - 1) 8) (ad (tn (x 1) - 1) 9) ((zk (tn (x 1) - 1)) 4), aI y (ad (tn (x 1) - 1) 5) 20 ((zk (tn (x 1) - 1)) 5), aI y (ad (tn (x 1) - 1) 6) 20 ((zk (tn (x 1) - 1)) 6), aI y (ad (tn (x 1) - 1) 7) 20 ((zk (tn (x 1) - 1)) 7), aI y (ad (tn (x 1) - 1) 8) 20 ((zk (tn (x 1) - 1)) 8), aI y (ad (tn (x 1) - 1) 9) 20 (ok (tn (x 1) - 1)), kX10 (ad (tn (x 1) - 1) 10) (ad (tn (x 1) - 1) 11) ((zk (tn (x 1) - 1)) 9), aI y (ad (tn (x 1) - 1) 11) 32 ((zk (tn (x 1) - 1)) 10), kX0 (ad (tn (x 1) - 1) 12) (ad (tn (x 1) - 1) 13) ((zk (tn (x 1) - 1)) 11), aI y (ad (tn (x 1) - 1) 13) 3 ((zk (tn (x 1) - 1)) 12)]) [2, 3, 4, 5, 6, 7, 8, 9, 10, 11, 12, 13, 14, 15, 16, 17, 18, 19, 20, 21, 22, 23, 24, 25, 26, 27, 28, 29] rfl) hK hN (hD.sub (ws' := [kX7 kh kua kub kuc kud kue (z 0), kX3 kua kva (z 1), aI y kva 10 (z 2), kX1 kub (z 3), kX8 kuc kvc1 kvc2 kvc3 kvc4 kvc5 (z 4), aI y kvc1 20 (z 5), aI y kvc2 20 (z 6), aI y kvc3 20 (z 7), aI y kvc4 20 (z 8), aI y kvc5 20 o, kX10 kud kvd (z 9), aI y kvd 32 (z 10), kX0 kue kve (z 11), aI y kve 3 (z 12), kX7 (ad (tn (x 1) - 1) 0) (ad (tn (x 1) - 1) 1) (ad (tn (x 1) - 1) 3) (ad (tn (x 1) - 1) 4) (ad (tn (x 1) - 1) 10) (ad (tn (x 1) - 1) 12) ((zk (tn (x 1) - 1)) 0), kX3 (ad (tn (x 1) - 1) 1) (ad (tn (x 1) - 1) 2) ((zk (tn (x 1) - 1)) 1), aI y (ad (tn (x 1) - 1) 2) 10 ((zk (tn (x 1) - 1)) 2), kX1 (ad (tn (x 1) - 1) 3) ((zk (tn (x 1) - 1)) 3), kX8 (ad (tn (x 1) - 1) 4) (ad (tn (x 1) - 1) 5) (ad (tn (x 1) - 1) 6) (ad (tn (x 1) - 1) 7) (ad (tn (x 1) - 1) 8) (ad (tn (x 1) - 1) 9) ((zk (tn (x 1) - 1)) 4), aI y (ad (tn (x 1) - 1) 5) 20 ((zk (tn (x 1) - 1)) 5), aI y (ad (tn (x 1) - 1) 6) 20 ((zk (tn (x 1) - 1)) 6), aI y (ad (tn (x 1) - 1) 7) 20 ((zk (tn (x 1) - 1)) 7), aI y (ad (tn (x 1) - 1) 8) 20 ((zk (tn (x 1) - 1)) 8), aI y (ad (tn (x 1) - 1) 9) 20 (ok (tn (x 1) - 1)), kX10 (ad (tn (x 1) - 1) 10) (ad (tn (x 1) - 1) 11) ((zk (tn (x 1) - 1)) 9), aI y (ad (tn (x 1) - 1) 11) 32 ((zk (tn (x 1) - 1)) 10), kX0 (ad (tn (x 1) - 1) 12) (ad (tn (x 1) - 1) 13) ((zk (tn (x 1) - 1)) 11), aI y (ad (tn (x 1) - 1) 13) 3 ((zk (tn (x 1) - 1)) 12)]) [2, 3, 4, 5, 6, 7, 8, 9, 10, 11, 12, 13, 14, 15, 16, 17, 18, 19, 20, 21, 22, 23, 24, 25, 26, 27, 28, 29] (by decide) rfl) (ci := 5) (q0 := 0) rfl rfl) rfl rfl hl.1 rfl (lv_room (Nat.le_of_ble_eq_true rfl)) dX2_bringBack_36 ⟨Nat.le_of_ble_eq_true rfl, Nat.le_of_ble_eq_true rfl⟩) hP hD hS hA rfl rfl rfl (fun _ => rfl) (fun _ H locs hP hD hS => ?_)
  have hP : va_P G vwCl ([kX2 h a (upd x 1 ((x 1) - 1)), aQ y a 14 (fun i => some (ad i 0)), kX7 kh kua kub kuc kud kue ((zk (tn (x 1) - 1)) 0), kX3 kua kva ((zk (tn (x 1) - 1)) 1), aI y kva 10 ((zk (tn (x 1) - 1)) 2), kX1 kub ((zk (tn (x 1) - 1)) 3), kX8 kuc kvc1 kvc2 kvc3 kvc4 kvc5 ((zk (tn (x 1) - 1)) 4), aI y kvc1 20 ((zk (tn (x 1) - 1)) 5), aI y kvc2 20 ((zk (tn (x 1) - 1)) 6), aI y kvc3 20 ((zk (tn (x 1) - 1)) 7), aI y kvc4 20 ((zk (tn (x 1) - 1)) 8), aI y kvc5 20 o, kX10 kud kvd ((zk (tn (x 1) - 1)) 9), aI y kvd 32 ((zk (tn (x 1) - 1)) 10), kX0 kue kve ((zk (tn (x 1) - 1)) 11), aI y kve 3 ((zk (tn (x 1) - 1)) 12), kX7 (ad (tn (x 1) - 1) 0) (ad (tn (x 1) - 1) 1) (ad (tn (x 1) - 1) 3) (ad (tn (x 1) - 1) 4) (ad (tn (x 1) - 1) 10) (ad (tn (x 1) - 1) 12) ((zk (tn (x 1) - 1)) 0), kX3 (ad (tn (x 1) - 1) 1) (ad (tn (x 1) - 1) 2) ((zk (tn (x 1) - 1)) 1), aI y (ad (tn (x 1) - 1) 2) 10 ((zk (tn (x 1) - 1)) 2), kX1 (ad (tn (x 1) - 1) 3) ((zk (tn (x 1) - 1)) 3), kX8 (ad (tn (x 1) - 1) 4) (ad (tn (x 1) - 1) 5) (ad (tn (x 1) - 1) 6) (ad (tn (x 1) - 1) 7) (ad (tn (x 1) - 1) 8) (ad (tn (x 1) - 1) 9) ((zk (tn (x 1) - 1)) 4), aI y (ad (tn (x 1) - 1) 5) 20 ((zk (tn (x 1) - 1)) 5), aI y (ad (tn (x 1) - 1) 6) 20 ((zk (tn (x 1) - 1)) 6), aI y (ad (tn (x 1) - 1) 7) 20 ((zk (tn (x 1) - 1)) 7), aI y (ad (tn (x 1) - 1) 8) 20 ((zk (tn (x 1) - 1)) 8), aI y (ad (tn (x 1) - 1) 9) 20 (ok (tn (x 1) - 1)), kX10 (ad (tn (x 1) - 1) 10) (ad (tn (x 1) - 1) 11) ((zk (tn (x 1) - 1)) 9), aI y (ad (tn (x 1) - 1) 11) 32 ((zk (tn (x 1) - 1)) 10), kX0 (ad (tn (x 1) - 1) 12) (ad (tn (x 1) - 1) 13) ((zk (tn (x 1) - 1)) 11), aI y (ad (tn (x 1) - 1) 13) 3 ((zk (tn (x 1) - 1)) 12)] ++ kX y ad zk ok 14 (tn (x 1) - 1)) H := hP
  have hD : va_D A ([kX2 h a (upd x 1 ((x 1) - 1)), aQ y a 14 (fun i => some (ad i 0)), kX7 kh kua kub kuc kud kue ((zk (tn (x 1) - 1)) 0), kX3 kua kva ((zk (tn (x 1) - 1)) 1), aI y kva 10 ((zk (tn (x 1) - 1)) 2), kX1 kub ((zk (tn (x 1) - 1)) 3), kX8 kuc kvc1 kvc2 kvc3 kvc4 kvc5 ((zk (tn (x 1) - 1)) 4), aI y kvc1 20 ((zk (tn (x 1) - 1)) 5), aI y kvc2 20 ((zk (tn (x 1) - 1)) 6), aI y kvc3 20 ((zk (tn (x 1) - 1)) 7), aI y kvc4 20 ((zk (tn (x 1) - 1)) 8), aI y kvc5 20 o, kX10 kud kvd ((zk (tn (x 1) - 1)) 9), aI y kvd 32 ((zk (tn (x 1) - 1)) 10), kX0 kue kve ((zk (tn (x 1) - 1)) 11), aI y kve 3 ((zk (tn (x 1) - 1)) 12), kX7 (ad (tn (x 1) - 1) 0) (ad (tn (x 1) - 1) 1) (ad (tn (x 1) - 1) 3) (ad (tn (x 1) - 1) 4) (ad (tn (x 1) - 1) 10) (ad (tn (x 1) - 1) 12) ((zk (tn (x 1) - 1)) 0), kX3 (ad (tn (x 1) - 1) 1) (ad (tn (x 1) - 1) 2) ((zk (tn (x 1) - 1)) 1), aI y (ad (tn (x 1) - 1) 2) 10 ((zk (tn (x 1) - 1)) 2), kX1 (ad (tn (x 1) - 1) 3) ((zk (tn (x 1) - 1)) 3), kX8 (ad (tn (x 1) - 1) 4) (ad (tn (x 1) - 1) 5) (ad (tn (x 1) - 1) 6) (ad (tn (x 1) - 1) 7) (ad (tn (x 1) - 1) 8) (ad (tn (x 1) - 1) 9) ((zk (tn (x 1) - 1)) 4), aI y (ad (tn (x 1) - 1) 5) 20 ((zk (tn (x 1) - 1)) 5), aI y (ad (tn (x 1) - 1) 6) 20 ((zk (tn (x 1) - 1)) 6), aI y (ad (tn (x 1) - 1) 7) 20 ((zk (tn (x 1) - 1)) 7), aI y (ad (tn (x 1) - 1) 8) 20 ((zk (tn (x 1) - 1)) 8), aI y (ad (tn (x 1) - 1) 9) 20 (ok (tn (x 1) - 1)), kX10 (ad (tn (x 1) - 1) 10) (ad (tn (x 1) - 1) 11) ((zk (tn (x 1) - 1)) 9), aI y (ad (tn (x 1) - 1) 11) 32 ((zk (tn (x 1) - 1)) 10), kX0 (ad (tn (x 1) - 1) 12) (ad (tn (x 1) - 1) 13) ((zk (tn (x 1) - 1)) 11), aI y (ad (tn (x 1) - 1) 13) 3 ((zk (tn (x 1) - 1)) 12)] ++ kX y ad zk ok 14 (tn (x 1) - 1)) := hD
  have hP : va_P G vwCl ([kX2 h a (upd x 1 ((x 1) - 1)), aQ y a 14 (fun i => some (ad i 0)), kX7 kh kua kub kuc kud kue ((zk (tn (x 1) - 1)) 0), kX3 kua kva ((zk (tn (x 1) - 1)) 1), aI y kva 10 ((zk (tn (x 1) - 1)) 2), kX1 kub ((zk (tn (x 1) - 1)) 3), kX8 kuc kvc1 kvc2 kvc3 kvc4 kvc5 ((zk (tn (x 1) - 1)) 4), aI y kvc1 20 ((zk (tn (x 1) - 1)) 5), aI y kvc2 20 ((zk (tn (x 1) - 1)) 6), aI y kvc3 20 ((zk (tn (x 1) - 1)) 7), aI y kvc4 20 ((zk (tn (x 1) - 1)) 8), aI y kvc5 20 o, kX10 kud kvd ((zk (tn (x 1) - 1)) 9), aI y kvd 32 ((zk (tn (x 1) - 1)) 10), kX0 kue kve ((zk (tn (x 1) - 1)) 11), aI y kve 3 ((zk (tn (x 1) - 1)) 12)] ++ stB y (ad (tn (x 1) - 1)) (zk (tn (x 1) - 1)) (ok (tn (x 1) - 1)) ++ kX y ad zk ok 14 (tn (x 1) - 1)) H := hP
  have hD : va_D A ([kX2 h a (upd x 1 ((x 1) - 1)), aQ y a 14 (fun i => some (ad i 0)), kX7 kh kua kub kuc kud kue ((zk (tn (x 1) - 1)) 0), kX3 kua kva ((zk (tn (x 1) - 1)) 1), aI y kva 10 ((zk (tn (x 1) - 1)) 2), kX1 kub ((zk (tn (x 1) - 1)) 3), kX8 kuc kvc1 kvc2 kvc3 kvc4 kvc5 ((zk (tn (x 1) - 1)) 4), aI y kvc1 20 ((zk (tn (x 1) - 1)) 5), aI y kvc2 20 ((zk (tn (x 1) - 1)) 6), aI y kvc3 20 ((zk (tn (x 1) - 1)) 7), aI y kvc4 20 ((zk (tn (x 1) - 1)) 8), aI y kvc5 20 o, kX10 kud kvd ((zk (tn (x 1) - 1)) 9), aI y kvd 32 ((zk (tn (x 1) - 1)) 10), kX0 kue kve ((zk (tn (x 1) - 1)) 11), aI y kve 3 ((zk (tn (x 1) - 1)) 12)] ++ stB y (ad (tn (x 1) - 1)) (zk (tn (x 1) - 1)) (ok (tn (x 1) - 1)) ++ kX y ad zk ok 14 (tn (x 1) - 1)) := hD
  have hP := P_perm (kW_pick (k := tn (x 1) - 1) (by omega)).symm hP
  have hD := D_perm (kW_pick (k := tn (x 1) - 1) (by omega)).symm hD
  have hP : va_P G vwCl ([kX2 h a (upd x 1 ((x 1) - 1)), aQ y a 14 (fun i => some (ad i 0)), kX7 kh kua kub kuc kud kue ((zk (tn (x 1) - 1)) 0), kX3 kua kva ((zk (tn (x 1) - 1)) 1), aI y kva 10 ((zk (tn (x 1) - 1)) 2), kX1 kub ((zk (tn (x 1) - 1)) 3), kX8 kuc kvc1 kvc2 kvc3 kvc4 kvc5 ((zk (tn (x 1) - 1)) 4), aI y kvc1 20 ((zk (tn (x 1) - 1)) 5), aI y kvc2 20 ((zk (tn (x 1) - 1)) 6), aI y kvc3 20 ((zk (tn (x 1) - 1)) 7), aI y kvc4 20 ((zk (tn (x 1) - 1)) 8), aI y kvc5 20 o, kX10 kud kvd ((zk (tn (x 1) - 1)) 9), aI y kvd 32 ((zk (tn (x 1) - 1)) 10), kX0 kue kve ((zk (tn (x 1) - 1)) 11), aI y kve 3 ((zk (tn (x 1) - 1)) 12)] ++ kW y ad zk ok 14) H := hP
  have hD : va_D A ([kX2 h a (upd x 1 ((x 1) - 1)), aQ y a 14 (fun i => some (ad i 0)), kX7 kh kua kub kuc kud kue ((zk (tn (x 1) - 1)) 0), kX3 kua kva ((zk (tn (x 1) - 1)) 1), aI y kva 10 ((zk (tn (x 1) - 1)) 2), kX1 kub ((zk (tn (x 1) - 1)) 3), kX8 kuc kvc1 kvc2 kvc3 kvc4 kvc5 ((zk (tn (x 1) - 1)) 4), aI y kvc1 20 ((zk (tn (x 1) - 1)) 5), aI y kvc2 20 ((zk (tn (x 1) - 1)) 6), aI y kvc3 20 ((zk (tn (x 1) - 1)) 7), aI y kvc4 20 ((zk (tn (x 1) - 1)) 8), aI y kvc5 20 o, kX10 kud kvd ((zk (tn (x 1) - 1)) 9), aI y kvd 32 ((zk (tn (x 1) - 1)) 10), kX0 kue kve ((zk (tn (x 1) - 1)) 11), aI y kve 3 ((zk (tn (x 1) - 1)) 12)] ++ kW y ad zk ok 14) := hD
  exact W.vret hx hb hr (end_Hv () hP hD hS rfl) hS.2.2 dX2_bringBack_39

abbrev rmX2_init : Room := ({ frames := 3, cells := 197, slots := 2646, locals := 60 } : Room)
set_option maxHeartbeats 400000 in
set_option maxRecDepth 100000 in
theorem c_X2_init (l : Launch) (G : va_G) (y : Nat → ClassId) (h : Nat) (sz : Nat) : Met l yX2_init wsX2_init rmX2_init (PHA G y [.ref h] [(h, .inr (2, [.null, .int (Z0 1)]))] sz) (QHv G (fun u : Nat × (Nat → Nat → Nat) => ([kX2 h u.1 Z0, aQ y u.1 14 (fun i => some (u.2 i 0))] ++ kW y u.2 (fun _ => zI) (fun _ => Z0) 14)) (va_A [(h, .inr (2, [.null, .int (Z0 1)]))] sz)) 197 2646 (va_A [(h, .inr (2, [.null, .int (Z0 1)]))] sz) := by
  refine Met.ofW (cc := cX2_init) (maxL := 2) (ret := none) (by decide) rfl ?_
  intro p e s m args below meth c s₁ B hml hv
  obtain ⟨rfl, hsz, hP, ⟨hK, hN⟩, hD0, hAO⟩ := hv
  have hx := B.exec
  have hb := B.bytes
  have hr := B.returns
  have hts := atoms_spec (ws := wsX2_init) B.pre
  have hown : s.vm.findClass RX2 = some m.cls := findClass_of_methodNamed B.named
  have hlocks := B.notSynchronized
  have hin : meth.name = "<init>" := (name_of_methodNamed B.named B.method).1
  have i_X2 : ∀ w ∈ u_ws RX2 TX2 2, w ∈ wsX2_init := by decide +kernel
  have i_X7 : ∀ w ∈ u_ws RX7 TX7 6, w ∈ wsX2_init := by decide +kernel
  subst hsz
  have hD := hD0.self (sz := s.heap.size)
  generalize hAe : va_A [(h, .inr (2, [.null, .int (Z0 1)]))] s.heap.size = A at hD ⊢
  have hA : ∀ q : Nat, s.heap.size ≤ q → A q := fun q h => by rw [← hAe]; exact Or.inr h
  have hS : va_S A s.heap s.heap [] := va_S.rf
  have hP : va_P G vwCl [(h, .inr (2, [.null, .int (Z0 1)]))] s.heap := hP
  have hl := lv_entry ([.ref h]) (n := 2) (Nat.le_of_ble_eq_true rfl)
  rw [lg_entry_eq]
  generalize (lg_sl ([.ref h]) ++ List.replicate (2 - (lg_sl ([.ref h])).length) Slot.unset).toArray = ls at hl ⊢
  have hl : lv_has ls 2 [(0, .ref h)] := hl
  obtain ⟨QQ, hQQ⟩ : ∃ zq9, zq9 = MQ below (QHv G (fun u : Nat × (Nat → Nat → Nat) => ([kX2 h u.1 Z0, aQ y u.1 14 (fun i => some (u.2 i 0))] ++ kW y u.2 (fun _ => zI) (fun _ => Z0) 14)) A) ([.ref h] : List Value).toArray s 197 2646 A := ⟨_, rfl⟩
  rw [← hQQ]
  refine lv_aload_n hx hb dX2_init_0 rfl (lv_at hl 0 rfl) ?_
  refine W.objInit hx hb hown (hts (.methodLink RX2 1 objectInit) (by decide +kernel)) (hts (.instanceMethod objectInit) (by decide +kernel)) (hts (.code objectInit ⟨#[0xb1]⟩ 1 none) (by decide +kernel)) rfl (by rw [hml]; exact hl.1) rfl dX2_init_1 (Nat.le_of_ble_eq_true rfl) (Nat.le_of_ble_eq_true rfl) ?_
  refine W.eq (g2 := F0 m 4 ls []) rfl ?_
  refine lv_aload_n hx hb dX2_init_4 rfl (lv_at hl 0 rfl) ?_
  refine lv_bipush (v := 14) hx hb dX2_init_5 (by decide) ?_
  refine va_newq (D := G) (C := "RelayTuner$State") (N' := 14) hx hb hown (hts (.classLink RX2 9 "RelayTuner$State") (by decide +kernel)) hAO hK hP hD hS hA (by decide) rfl (Nat.le_of_ble_eq_true rfl) (Nat.le_of_ble_eq_true rfl) (Nat.le_of_ble_eq_true rfl) dX2_init_7 (fun a_1 cA H hK9 hP hD hS => ?_)
  have hc9 := eqQ hK9
  subst hc9
  have hP : va_P G vwCl [(h, .inr (2, [.null, .int (Z0 1)])), aQ y a_1 14 (fun _ => none)] H := hP
  have hD : va_D A [(h, .inr (2, [.null, .int (Z0 1)])), aQ y a_1 14 (fun _ => none)] := hD
  refine va_putF (D := G) (ci := 2) (v := .ref a_1) (ty := (.array (.object "RelayTuner$State"))) (C := RX2) (T := TX2) (N := 2) hx hb hts i_X2 tyX2 tyX2_ok nmX2 hown hK hP hD hS 0 rfl rfl 0 (by decide) (hts (.fieldLink RX2 11 "RelayTuner$History" "kept" "[LRelayTuner$State;") (by decide +kernel)) (fun _ h9 => h9) rfl hin rfl (by decide +kernel) rfl rfl (Nat.le_of_ble_eq_true rfl) dX2_init_10 (fun H locs hP hD hS => ?_)
  have hP : va_P G vwCl [kX2 h a_1 Z0, aQ y a_1 14 (fun _ => none)] H := hP
  have hD : va_D A [kX2 h a_1 Z0, aQ y a_1 14 (fun _ => none)] := hD
  have hP : va_P G vwCl ([kX2 h a_1 Z0, aQ y a_1 14 (qF (fun _ _ => 0) 0)] ++ kW y (fun _ _ => 0) (fun _ => zI) (fun _ => Z0) 0) H := by rw [← qF_0]; exact hP
  have hD : va_D A ([kX2 h a_1 Z0, aQ y a_1 14 (qF (fun _ _ => 0) 0)] ++ kW y (fun _ _ => 0) (fun _ => zI) (fun _ => Z0) 0) := by rw [← qF_0]; exact hD
  refine lv_iconst (v := 0) hx hb dX2_init_13 (by decide) ?_
  refine lv_istore_n (lv' := [(1, .int 0), (0, .ref h)]) hx hb dX2_init_14 rfl hl (by decide) rfl (fun ls hl => ?_)
  have LOOP15_2 : ∀ (n_3 : Nat) (ad : Nat → Nat → Nat) (k0 : Nat) (x1 : Int32) (w : Nat → Option Nat) (hx1 : x1 = nI k0) (hk : k0 ≤ 14) (hw : w = qF ad k0) (hn_5 : 14 - k0 < n_3) (H : Heap) (locs : List Loc) (hP : va_P G vwCl ([kX2 h a_1 Z0, aQ y a_1 14 w] ++ kW y ad (fun _ => zI) (fun _ => Z0) k0) H) (hD : va_D A ([kX2 h a_1 Z0, aQ y a_1 14 w] ++ kW y ad (fun _ => zI) (fun _ => Z0) k0)) (hS : va_S A s.heap H locs) (ls : Array Slot) (hl : lv_has ls 2 [(1, .int x1), (0, .ref h)]), W p l e (headSpec wsX2_init rmX2_init).room s m ([.ref h] : List Value).toArray below meth c H locs (1 + 14 * k0) (14 + 188 * k0) QQ (F0 m 15 ls []) := by
    intro n_3
    induction n_3 with
    | zero => intro ad k0 x1 w hx1 hk hw hn_5 H locs hP hD hS ls hl; exact absurd hn_5 (Nat.not_lt_zero _)
    | succ n_3 ih_4 =>
      intro ad k0 x1 w hx1 hk hw hn_5 H locs hP hD hS ls hl
      refine lv_iload_n hx hb dX2_init_15 rfl (lv_at hl 0 rfl) ?_
      refine lv_bipush (v := 14) hx hb dX2_init_16 (by decide) ?_
      refine lv_icmp_ge (tgt := 40) hx hb dX2_init_18 (by decide) (fun c_6 => ?_) (fun c_6 => ?_)
      · have hk9 : k0 = 14 := by have := kge (N := 14) hx1 rfl (by omega) (by decide) c_6; omega
        subst hk9
        subst hw
        have hD := va_D.set (p := 1) (e := (aQ y a_1 14 (fun i => some (ad i 0))).2) hD rfl
        have hP := alikeQ (i := 1) (g := (fun i => some (ad i 0))) hP rfl (fun j hj => qF_all hj)
        have hP : va_P G vwCl ([kX2 h a_1 Z0, aQ y a_1 14 (fun i => some (ad i 0))] ++ kW y ad (fun _ => zI) (fun _ => Z0) 14) H := hP
        have hD : va_D A ([kX2 h a_1 Z0, aQ y a_1 14 (fun i => some (ad i 0))] ++ kW y ad (fun _ => zI) (fun _ => Z0) 14) := hD
        rw [hQQ]
        exact W.vret hx hb hr (end_Hv (a_1, ad) hP hD hS rfl) hS.2.2 dX2_init_40
      · have hk9 : k0 < 14 := klt (N := 14) hx1 rfl (by omega) (by decide) c_6
        refine lv_aload_n hx hb dX2_init_21 rfl (lv_at hl 1 rfl) ?_
        refine va_get (D := G) (ci := 2) (v := .ref a_1) (C := RX2) (T := TX2) (N := 2) hx hb hts i_X2 hown hK hP 0 rfl rfl 0 (by decide) (hts (.fieldLink RX2 11 "RelayTuner$History" "kept" "[LRelayTuner$State;") (by decide +kernel)) (fun _ h9 => h9) rfl dX2_init_22 ?_
        refine lv_iload_n hx hb dX2_init_25 rfl (lv_at hl 0 rfl) ?_
        refine va_new (D := G) (ci := 5) (fs := [.int 0, .null, .null, .null, .null, .null]) (C := RX7) (T := TX7) (N := 6) hx hb hts i_X7 tyX7 tyX7_ok hown (hts (.classLink RX2 9 RX7) (by decide +kernel)) (hts (.instantiable RX7 6) (by decide +kernel)) (hts (.initialized RX7) (by decide +kernel)) hK hP hD hS hA rfl (fun j hj => by rcases (show j = 0 ∨ j = 1 ∨ j = 2 ∨ j = 3 ∨ j = 4 ∨ j = 5 by omega) with rfl | rfl | rfl | rfl | rfl | rfl <;> rfl) (show 1 + 14 * k0 + 1 ≤ 197 by omega) (show 14 + 188 * k0 + 6 ≤ 2646 by omega) dX2_init_26 (fun a_7 H hP hD hS => ?_)
        have hP := P_perm perm3.symm hP
        have hD := D_perm perm3.symm hD
        have hP : va_P G vwCl ([kX2 h a_1 Z0, aQ y a_1 14 w, (a_7, .inr (5, [.int (Z0 0), .null, .null, .null, .null, .null]))] ++ kW y ad (fun _ => zI) (fun _ => Z0) k0) H := hP
        have hD : va_D A ([kX2 h a_1 Z0, aQ y a_1 14 w, (a_7, .inr (5, [.int (Z0 0), .null, .null, .null, .null, .null]))] ++ kW y ad (fun _ => zI) (fun _ => Z0) k0) := hD
        refine lv_dup hx hb dX2_init_29 rfl ?_
        refine cl_HvT (wr := [kX2 h a_1 Z0, aQ y a_1 14 w]) (fun u_8 : Nat → Nat => [kX2 h a_1 Z0, aQ y a_1 14 w, kX7 a_7 (u_8 0) (u_8 2) (u_8 3) (u_8 9) (u_8 11) Z0, kX3 (u_8 0) (u_8 1) i_X3_init_0, aI y (u_8 1) 10 Z0, kX1 (u_8 2) i_X1_init_0, kX8 (u_8 3) (u_8 4) (u_8 5) (u_8 6) (u_8 7) (u_8 8) Z0, aI y (u_8 4) 20 Z0, aI y (u_8 5) 20 Z0, aI y (u_8 6) 20 Z0, aI y (u_8 7) 20 Z0, aI y (u_8 8) 20 Z0, kX10 (u_8 9) (u_8 10) Z0, aI y (u_8 10) 32 Z0, kX0 (u_8 11) (u_8 12) Z0, aI y (u_8 12) 3 Z0]) [2] [0, 1] [0, 1, 2, 3, 4, 5, 6, 7, 8, 9, 10, 11, 12, 13, 14, 15] (va_runIN (As := []) (rest := [.ref a_7, .int x1, .ref a_1]) ⟨hx, hb, hml, hown, hts⟩ (c_X7_init l G y a_7 H.size) ⟨va_cnB 0 hts gX2_init_X7_init_n15 rfl rfl rfl (NN.m hN (by decide +kernel)) (hts (.initialized RX7) (by decide +kernel)) (by decide +kernel) ⟨Nat.le_of_ble_eq_true rfl, Nat.le_of_ble_eq_true rfl⟩, rfl, hts (.instanceMethod yX7_init) (by decide +kernel)⟩ (PH_S (hP.sub (ws' := [(a_7, .inr (5, [.int (Z0 0), .null, .null, .null, .null, .null]))]) [2] rfl) hK hN (hD.sub (ws' := [(a_7, .inr (5, [.int (Z0 0), .null, .null, .null, .null, .null]))]) [2] (by decide) rfl)) rfl rfl hl.1 rfl (lv_room (Nat.le_of_ble_eq_true rfl)) dX2_init_30 ⟨(show 1 + 14 * k0 + 1 + 13 ≤ 197 by omega), (show 14 + 188 * k0 + 6 + 182 ≤ 2646 by omega)⟩) hP hD hS hA rfl rfl rfl (fun _ => rfl) (fun u_8 H locs hP hD hS => ?_)
        have hP : va_P G vwCl ([kX2 h a_1 Z0, aQ y a_1 14 w, kX7 a_7 (u_8 0) (u_8 2) (u_8 3) (u_8 9) (u_8 11) Z0, kX3 (u_8 0) (u_8 1) i_X3_init_0, aI y (u_8 1) 10 Z0, kX1 (u_8 2) i_X1_init_0, kX8 (u_8 3) (u_8 4) (u_8 5) (u_8 6) (u_8 7) (u_8 8) Z0, aI y (u_8 4) 20 Z0, aI y (u_8 5) 20 Z0, aI y (u_8 6) 20 Z0, aI y (u_8 7) 20 Z0, aI y (u_8 8) 20 Z0, kX10 (u_8 9) (u_8 10) Z0, aI y (u_8 10) 32 Z0, kX0 (u_8 11) (u_8 12) Z0, aI y (u_8 12) 3 Z0] ++ kW y ad (fun _ => zI) (fun _ => Z0) k0) H := hP
        have hD : va_D A ([kX2 h a_1 Z0, aQ y a_1 14 w, kX7 a_7 (u_8 0) (u_8 2) (u_8 3) (u_8 9) (u_8 11) Z0, kX3 (u_8 0) (u_8 1) i_X3_init_0, aI y (u_8 1) 10 Z0, kX1 (u_8 2) i_X1_init_0, kX8 (u_8 3) (u_8 4) (u_8 5) (u_8 6) (u_8 7) (u_8 8) Z0, aI y (u_8 4) 20 Z0, aI y (u_8 5) 20 Z0, aI y (u_8 6) 20 Z0, aI y (u_8 7) 20 Z0, aI y (u_8 8) 20 Z0, kX10 (u_8 9) (u_8 10) Z0, aI y (u_8 10) 32 Z0, kX0 (u_8 11) (u_8 12) Z0, aI y (u_8 12) 3 Z0] ++ kW y ad (fun _ => zI) (fun _ => Z0) k0) := hD
        refine as_q (D := G) (n := 14) (f := w) (g := (qF (uK ad k0 (csA a_7 u_8)) (k0 + 1))) hx hb hK hP hD hS 1 3 rfl rfl (q_any hK hP (List.mem_of_getElem? (i := 2) rfl)) k0 hx1 hk9 (by first | decide | omega) (by rw [hw]; exact qF_up (a := csA a_7 u_8)) dX2_init_33 (fun H locs hP hD hS => ?_)
        have hP : va_P G vwCl ([kX2 h a_1 Z0, aQ y a_1 14 (qF (uK ad k0 (csA a_7 u_8)) (k0 + 1)), kX7 a_7 (u_8 0) (u_8 2) (u_8 3) (u_8 9) (u_8 11) Z0, kX3 (u_8 0) (u_8 1) i_X3_init_0, aI y (u_8 1) 10 Z0, kX1 (u_8 2) i_X1_init_0, kX8 (u_8 3) (u_8 4) (u_8 5) (u_8 6) (u_8 7) (u_8 8) Z0, aI y (u_8 4) 20 Z0, aI y (u_8 5) 20 Z0, aI y (u_8 6) 20 Z0, aI y (u_8 7) 20 Z0, aI y (u_8 8) 20 Z0, kX10 (u_8 9) (u_8 10) Z0, aI y (u_8 10) 32 Z0, kX0 (u_8 11) (u_8 12) Z0, aI y (u_8 12) 3 Z0] ++ kW y ad (fun _ => zI) (fun _ => Z0) k0) H := hP
        have hD : va_D A ([kX2 h a_1 Z0, aQ y a_1 14 (qF (uK ad k0 (csA a_7 u_8)) (k0 + 1)), kX7 a_7 (u_8 0) (u_8 2) (u_8 3) (u_8 9) (u_8 11) Z0, kX3 (u_8 0) (u_8 1) i_X3_init_0, aI y (u_8 1) 10 Z0, kX1 (u_8 2) i_X1_init_0, kX8 (u_8 3) (u_8 4) (u_8 5) (u_8 6) (u_8 7) (u_8 8) Z0, aI y (u_8 4) 20 Z0, aI y (u_8 5) 20 Z0, aI y (u_8 6) 20 Z0, aI y (u_8 7) 20 Z0, aI y (u_8 8) 20 Z0, kX10 (u_8 9) (u_8 10) Z0, aI y (u_8 10) 32 Z0, kX0 (u_8 11) (u_8 12) Z0, aI y (u_8 12) 3 Z0] ++ kW y ad (fun _ => zI) (fun _ => Z0) k0) := hD
        have hP : va_P G vwCl ([kX2 h a_1 Z0, aQ y a_1 14 (qF (uK ad k0 (csA a_7 u_8)) (k0 + 1))] ++ stB y (csA a_7 u_8) zI Z0 ++ kW y ad (fun _ => zI) (fun _ => Z0) k0) H := hP
        have hD : va_D A ([kX2 h a_1 Z0, aQ y a_1 14 (qF (uK ad k0 (csA a_7 u_8)) (k0 + 1))] ++ stB y (csA a_7 u_8) zI Z0 ++ kW y ad (fun _ => zI) (fun _ => Z0) k0) := hD
        have hP := P_perm kW_new hP
        have hD := D_perm kW_new hD
        have hP : va_P G vwCl ([kX2 h a_1 Z0, aQ y a_1 14 (qF (uK ad k0 (csA a_7 u_8)) (k0 + 1))] ++ kW y (uK ad k0 (csA a_7 u_8)) (fun _ => zI) (fun _ => Z0) (k0 + 1)) H := hP
        have hD : va_D A ([kX2 h a_1 Z0, aQ y a_1 14 (qF (uK ad k0 (csA a_7 u_8)) (k0 + 1))] ++ kW y (uK ad k0 (csA a_7 u_8)) (fun _ => zI) (fun _ => Z0) (k0 + 1)) := hD
        refine lv_iinc (v := (x1 + 1)) (lv' := [(1, .int (x1 + 1)), (0, .ref h)]) hx hb dX2_init_34 hl (k := 0) rfl (by first | rfl | decide) (by decide) rfl (fun ls hl => ?_)
        refine lv_goto (tgt := 15) hx hb dX2_init_37 (by decide) ?_
        rw [show 1 + 14 * k0 + 1 + 13 = 1 + 14 * (k0 + 1) from by omega, show 14 + 188 * k0 + 6 + 182 = 14 + 188 * (k0 + 1) from by omega]
        exact ih_4 (uK ad k0 (csA a_7 u_8)) (k0 + 1) (x1 + 1) (qF (uK ad k0 (csA a_7 u_8)) (k0 + 1)) (by rw [hx1]; exact nI_1 k0) (by omega) rfl (by omega) H locs hP hD hS ls (lv_sub hl [0, 1] rfl)
  exact LOOP15_2 (14 - 0 + 1) (fun _ _ => 0) 0 0 (qF (fun _ _ => 0) 0) rfl (by omega) rfl (Nat.lt_succ_self _) H locs hP hD hS ls (lv_sub hl [0, 1] rfl)

abbrev rmX6_init : Room := ({ frames := 3, cells := 30, slots := 380, locals := 60 } : Room)
set_option maxHeartbeats 400000 in
set_option maxRecDepth 100000 in
theorem c_X6_init (l : Launch) (G : va_G) (y : Nat → ClassId) (h : Nat) (sz : Nat) : Met l yX6_init wsX6_init rmX6_init (PHA G y [.ref h] [(h, .inr (4, [.null, .null]))] sz) (QHv G (fun u : Nat × Nat × (Nat → Nat → Nat) => ([kX6 h u.1 u.2.1 Z0, aQ y u.1 2 (fun i => some (u.2.2 i 0)), aZ y u.2.1 2 Z0] ++ kW y u.2.2 (fun _ => zI) (fun _ => Z0) 2)) (va_A [(h, .inr (4, [.null, .null]))] sz)) 30 380 (va_A [(h, .inr (4, [.null, .null]))] sz) := by
  refine Met.ofW (cc := cX6_init) (maxL := 2) (ret := none) (by decide) rfl ?_
  intro p e s m args below meth c s₁ B hml hv
  obtain ⟨rfl, hsz, hP, ⟨hK, hN⟩, hD0, hAO⟩ := hv
  have hx := B.exec
  have hb := B.bytes
  have hr := B.returns
  have hts := atoms_spec (ws := wsX6_init) B.pre
  have hown : s.vm.findClass RX6 = some m.cls := findClass_of_methodNamed B.named
  have hlocks := B.notSynchronized
  have hin : meth.name = "<init>" := (name_of_methodNamed B.named B.method).1
  have i_X6 : ∀ w ∈ u_ws RX6 TX6 2, w ∈ wsX6_init := by decide +kernel
  have i_X7 : ∀ w ∈ u_ws RX7 TX7 6, w ∈ wsX6_init := by decide +kernel
  subst hsz
  have hD := hD0.self (sz := s.heap.size)
  generalize hAe : va_A [(h, .inr (4, [.null, .null]))] s.heap.size = A at hD ⊢
  have hA : ∀ q : Nat, s.heap.size ≤ q → A q := fun q h => by rw [← hAe]; exact Or.inr h
  have hS : va_S A s.heap s.heap [] := va_S.rf
  have hP : va_P G vwCl [(h, .inr (4, [.null, .null]))] s.heap := hP
  have hl := lv_entry ([.ref h]) (n := 2) (Nat.le_of_ble_eq_true rfl)
  rw [lg_entry_eq]
  generalize (lg_sl ([.ref h]) ++ List.replicate (2 - (lg_sl ([.ref h])).length) Slot.unset).toArray = ls at hl ⊢
  have hl : lv_has ls 2 [(0, .ref h)] := hl
  obtain ⟨QQ, hQQ⟩ : ∃ zq9, zq9 = MQ below (QHv G (fun u : Nat × Nat × (Nat → Nat → Nat) => ([kX6 h u.1 u.2.1 Z0, aQ y u.1 2 (fun i => some (u.2.2 i 0)), aZ y u.2.1 2 Z0] ++ kW y u.2.2 (fun _ => zI) (fun _ => Z0) 2)) A) ([.ref h] : List Value).toArray s 30 380 A := ⟨_, rfl⟩
  rw [← hQQ]
  refine lv_aload_n hx hb dX6_init_0 rfl (lv_at hl 0 rfl) ?_
  refine W.objInit hx hb hown (hts (.methodLink RX6 3 objectInit) (by decide +kernel)) (hts (.instanceMethod objectInit) (by decide +kernel)) (hts (.code objectInit ⟨#[0xb1]⟩ 1 none) (by decide +kernel)) rfl (by rw [hml]; exact hl.1) rfl dX6_init_1 (Nat.le_of_ble_eq_true rfl) (Nat.le_of_ble_eq_true rfl) ?_
  refine W.eq (g2 := F0 m 4 ls []) rfl ?_
  refine lv_aload_n hx hb dX6_init_4 rfl (lv_at hl 0 rfl) ?_
  refine lv_iconst (v := 2) hx hb dX6_init_5 (by decide) ?_
  refine va_newq (D := G) (C := "RelayTuner$State") (N' := 2) hx hb hown (hts (.classLink RX6 9 "RelayTuner$State") (by decide +kernel)) hAO hK hP hD hS hA (by decide) rfl (Nat.le_of_ble_eq_true rfl) (Nat.le_of_ble_eq_true rfl) (Nat.le_of_ble_eq_true rfl) dX6_init_6 (fun a_1 cA H hK9 hP hD hS => ?_)
  have hc9 := eqQ hK9
  subst hc9
  have hP : va_P G vwCl [(h, .inr (4, [.null, .null])), aQ y a_1 2 (fun _ => none)] H := hP
  have hD : va_D A [(h, .inr (4, [.null, .null])), aQ y a_1 2 (fun _ => none)] := hD
  refine va_putF (D := G) (ci := 4) (v := .ref a_1) (ty := (.array (.object "RelayTuner$State"))) (C := RX6) (T := TX6) (N := 2) hx hb hts i_X6 tyX6 tyX6_ok nmX6 hown hK hP hD hS 0 rfl rfl 0 (by decide) (hts (.fieldLink RX6 11 "RelayTuner$Slots" "saved" "[LRelayTuner$State;") (by decide +kernel)) (fun _ h9 => h9) rfl hin rfl (by decide +kernel) rfl rfl (Nat.le_of_ble_eq_true rfl) dX6_init_9 (fun H locs hP hD hS => ?_)
  have hP : va_P G vwCl [(h, .inr (4, [.ref a_1, .null])), aQ y a_1 2 (fun _ => none)] H := hP
  have hD : va_D A [(h, .inr (4, [.ref a_1, .null])), aQ y a_1 2 (fun _ => none)] := hD
  refine lv_aload_n hx hb dX6_init_12 rfl (lv_at hl 0 rfl) ?_
  refine lv_iconst (v := 2) hx hb dX6_init_13 (by decide) ?_
  refine va_newa (D := G) (atype := .boolean) (ty := .boolean) (N' := 2) (a0 := (2, .inl Z0)) hx hb (hts (.arrayClass .boolean) (by decide +kernel)) rfl hK hP hD hS hA (fun _ => rfl) (by decide) (by decide) (Nat.le_of_ble_eq_true rfl) (Nat.le_of_ble_eq_true rfl) (Nat.le_of_ble_eq_true rfl) dX6_init_14 (fun a_2 cA H hK9 hP hD hS => ?_)
  have hc9 := eqZ hK9
  subst hc9
  have hP : va_P G vwCl [(h, .inr (4, [.ref a_1, .null])), aQ y a_1 2 (fun _ => none), aZ y a_2 2 Z0] H := hP
  have hD : va_D A [(h, .inr (4, [.ref a_1, .null])), aQ y a_1 2 (fun _ => none), aZ y a_2 2 Z0] := hD
  refine va_putF (D := G) (ci := 4) (v := .ref a_2) (ty := (.array .boolean)) (C := RX6) (T := TX6) (N := 2) hx hb hts i_X6 tyX6 tyX6_ok nmX6 hown hK hP hD hS 0 rfl rfl 1 (by decide) (hts (.fieldLink RX6 17 "RelayTuner$Slots" "filled" "[Z") (by decide +kernel)) (fun _ h9 => h9) rfl hin rfl (by decide +kernel) rfl rfl (Nat.le_of_ble_eq_true rfl) dX6_init_16 (fun H locs hP hD hS => ?_)
  have hP : va_P G vwCl [kX6 h a_1 a_2 Z0, aQ y a_1 2 (fun _ => none), aZ y a_2 2 Z0] H := hP
  have hD : va_D A [kX6 h a_1 a_2 Z0, aQ y a_1 2 (fun _ => none), aZ y a_2 2 Z0] := hD
  have hP : va_P G vwCl ([kX6 h a_1 a_2 Z0, aQ y a_1 2 (qF (fun _ _ => 0) 0), aZ y a_2 2 Z0] ++ kW y (fun _ _ => 0) (fun _ => zI) (fun _ => Z0) 0) H := by rw [← qF_0]; exact hP
  have hD : va_D A ([kX6 h a_1 a_2 Z0, aQ y a_1 2 (qF (fun _ _ => 0) 0), aZ y a_2 2 Z0] ++ kW y (fun _ _ => 0) (fun _ => zI) (fun _ => Z0) 0) := by rw [← qF_0]; exact hD
  refine lv_iconst (v := 0) hx hb dX6_init_19 (by decide) ?_
  refine lv_istore_n (lv' := [(1, .int 0), (0, .ref h)]) hx hb dX6_init_20 rfl hl (by decide) rfl (fun ls hl => ?_)
  have LOOP21_3 : ∀ (n_4 : Nat) (ad : Nat → Nat → Nat) (k0 : Nat) (x1 : Int32) (w : Nat → Option Nat) (hx1 : x1 = nI k0) (hk : k0 ≤ 2) (hw : w = qF ad k0) (hn_6 : 2 - k0 < n_4) (H : Heap) (locs : List Loc) (hP : va_P G vwCl ([kX6 h a_1 a_2 Z0, aQ y a_1 2 w, aZ y a_2 2 Z0] ++ kW y ad (fun _ => zI) (fun _ => Z0) k0) H) (hD : va_D A ([kX6 h a_1 a_2 Z0, aQ y a_1 2 w, aZ y a_2 2 Z0] ++ kW y ad (fun _ => zI) (fun _ => Z0) k0)) (hS : va_S A s.heap H locs) (ls : Array Slot) (hl : lv_has ls 2 [(1, .int x1), (0, .ref h)]), W p l e (headSpec wsX6_init rmX6_init).room s m ([.ref h] : List Value).toArray below meth c H locs (2 + 14 * k0) (4 + 188 * k0) QQ (F0 m 21 ls []) := by
    intro n_4
    induction n_4 with
    | zero => intro ad k0 x1 w hx1 hk hw hn_6 H locs hP hD hS ls hl; exact absurd hn_6 (Nat.not_lt_zero _)
    | succ n_4 ih_5 =>
      intro ad k0 x1 w hx1 hk hw hn_6 H locs hP hD hS ls hl
      refine lv_iload_n hx hb dX6_init_21 rfl (lv_at hl 0 rfl) ?_
      refine lv_iconst (v := 2) hx hb dX6_init_22 (by decide) ?_
      refine lv_icmp_ge (tgt := 45) hx hb dX6_init_23 (by decide) (fun c_7 => ?_) (fun c_7 => ?_)
      · have hk9 : k0 = 2 := by have := kge (N := 2) hx1 rfl (by omega) (by decide) c_7; omega
        subst hk9
        subst hw
        have hD := va_D.set (p := 1) (e := (aQ y a_1 2 (fun i => some (ad i 0))).2) hD rfl
        have hP := alikeQ (i := 1) (g := (fun i => some (ad i 0))) hP rfl (fun j hj => qF_all hj)
        have hP : va_P G vwCl ([kX6 h a_1 a_2 Z0, aQ y a_1 2 (fun i => some (ad i 0)), aZ y a_2 2 Z0] ++ kW y ad (fun _ => zI) (fun _ => Z0) 2) H := hP
        have hD : va_D A ([kX6 h a_1 a_2 Z0, aQ y a_1 2 (fun i => some (ad i 0)), aZ y a_2 2 Z0] ++ kW y ad (fun _ => zI) (fun _ => Z0) 2) := hD
        rw [hQQ]
        exact W.vret hx hb hr (end_Hv (a_1, a_2, ad) hP hD hS rfl) hS.2.2 dX6_init_45
      · have hk9 : k0 < 2 := klt (N := 2) hx1 rfl (by omega) (by decide) c_7
        refine lv_aload_n hx hb dX6_init_26 rfl (lv_at hl 1 rfl) ?_
        refine va_get (D := G) (ci := 4) (v := .ref a_1) (C := RX6) (T := TX6) (N := 2) hx hb hts i_X6 hown hK hP 0 rfl rfl 0 (by decide) (hts (.fieldLink RX6 11 "RelayTuner$Slots" "saved" "[LRelayTuner$State;") (by decide +kernel)) (fun _ h9 => h9) rfl dX6_init_27 ?_
        refine lv_iload_n hx hb dX6_init_30 rfl (lv_at hl 0 rfl) ?_
        refine va_new (D := G) (ci := 5) (fs := [.int 0, .null, .null, .null, .null, .null]) (C := RX7) (T := TX7) (N := 6) hx hb hts i_X7 tyX7 tyX7_ok hown (hts (.classLink RX6 9 RX7) (by decide +kernel)) (hts (.instantiable RX7 6) (by decide +kernel)) (hts (.initialized RX7) (by decide +kernel)) hK hP hD hS hA rfl (fun j hj => by rcases (show j = 0 ∨ j = 1 ∨ j = 2 ∨ j = 3 ∨ j = 4 ∨ j = 5 by omega) with rfl | rfl | rfl | rfl | rfl | rfl <;> rfl) (show 2 + 14 * k0 + 1 ≤ 30 by omega) (show 4 + 188 * k0 + 6 ≤ 380 by omega) dX6_init_31 (fun a_8 H hP hD hS => ?_)
        have hP := P_perm perm3.symm hP
        have hD := D_perm perm3.symm hD
        have hP : va_P G vwCl ([kX6 h a_1 a_2 Z0, aQ y a_1 2 w, aZ y a_2 2 Z0, (a_8, .inr (5, [.int (Z0 0), .null, .null, .null, .null, .null]))] ++ kW y ad (fun _ => zI) (fun _ => Z0) k0) H := hP
        have hD : va_D A ([kX6 h a_1 a_2 Z0, aQ y a_1 2 w, aZ y a_2 2 Z0, (a_8, .inr (5, [.int (Z0 0), .null, .null, .null, .null, .null]))] ++ kW y ad (fun _ => zI) (fun _ => Z0) k0) := hD
        refine lv_dup hx hb dX6_init_34 rfl ?_
        refine cl_HvT (wr := [kX6 h a_1 a_2 Z0, aQ y a_1 2 w, aZ y a_2 2 Z0]) (fun u_9 : Nat → Nat => [kX6 h a_1 a_2 Z0, aQ y a_1 2 w, aZ y a_2 2 Z0, kX7 a_8 (u_9 0) (u_9 2) (u_9 3) (u_9 9) (u_9 11) Z0, kX3 (u_9 0) (u_9 1) i_X3_init_0, aI y (u_9 1) 10 Z0, kX1 (u_9 2) i_X1_init_0, kX8 (u_9 3) (u_9 4) (u_9 5) (u_9 6) (u_9 7) (u_9 8) Z0, aI y (u_9 4) 20 Z0, aI y (u_9 5) 20 Z0, aI y (u_9 6) 20 Z0, aI y (u_9 7) 20 Z0, aI y (u_9 8) 20 Z0, kX10 (u_9 9) (u_9 10) Z0, aI y (u_9 10) 32 Z0, kX0 (u_9 11) (u_9 12) Z0, aI y (u_9 12) 3 Z0]) [3] [0, 1, 2] [0, 1, 2, 3, 4, 5, 6, 7, 8, 9, 10, 11, 12, 13, 14, 15, 16] (va_runIN (As := []) (rest := [.ref a_8, .int x1, .ref a_1]) ⟨hx, hb, hml, hown, hts⟩ (c_X7_init l G y a_8 H.size) ⟨va_cnB 0 hts gX6_init_X7_init_n21 rfl rfl rfl (NN.m hN (by decide +kernel)) (hts (.initialized RX7) (by decide +kernel)) (by decide +kernel) ⟨Nat.le_of_ble_eq_true rfl, Nat.le_of_ble_eq_true rfl⟩, rfl, hts (.instanceMethod yX7_init) (by decide +kernel)⟩ (PH_S (hP.sub (ws' := [(a_8, .inr (5, [.int (Z0 0), .null, .null, .null, .null, .null]))]) [3] rfl) hK hN (hD.sub (ws' := [(a_8, .inr (5, [.int (Z0 0), .null, .null, .null, .null, .null]))]) [3] (by decide) rfl)) rfl rfl hl.1 rfl (lv_room (Nat.le_of_ble_eq_true rfl)) dX6_init_35 ⟨(show 2 + 14 * k0 + 1 + 13 ≤ 30 by omega), (show 4 + 188 * k0 + 6 + 182 ≤ 380 by omega)⟩) hP hD hS hA rfl rfl rfl (fun _ => rfl) (fun u_9 H locs hP hD hS => ?_)
        have hP : va_P G vwCl ([kX6 h a_1 a_2 Z0, aQ y a_1 2 w, aZ y a_2 2 Z0, kX7 a_8 (u_9 0) (u_9 2) (u_9 3) (u_9 9) (u_9 11) Z0, kX3 (u_9 0) (u_9 1) i_X3_init_0, aI y (u_9 1) 10 Z0, kX1 (u_9 2) i_X1_init_0, kX8 (u_9 3) (u_9 4) (u_9 5) (u_9 6) (u_9 7) (u_9 8) Z0, aI y (u_9 4) 20 Z0, aI y (u_9 5) 20 Z0, aI y (u_9 6) 20 Z0, aI y (u_9 7) 20 Z0, aI y (u_9 8) 20 Z0, kX10 (u_9 9) (u_9 10) Z0, aI y (u_9 10) 32 Z0, kX0 (u_9 11) (u_9 12) Z0, aI y (u_9 12) 3 Z0] ++ kW y ad (fun _ => zI) (fun _ => Z0) k0) H := hP
        have hD : va_D A ([kX6 h a_1 a_2 Z0, aQ y a_1 2 w, aZ y a_2 2 Z0, kX7 a_8 (u_9 0) (u_9 2) (u_9 3) (u_9 9) (u_9 11) Z0, kX3 (u_9 0) (u_9 1) i_X3_init_0, aI y (u_9 1) 10 Z0, kX1 (u_9 2) i_X1_init_0, kX8 (u_9 3) (u_9 4) (u_9 5) (u_9 6) (u_9 7) (u_9 8) Z0, aI y (u_9 4) 20 Z0, aI y (u_9 5) 20 Z0, aI y (u_9 6) 20 Z0, aI y (u_9 7) 20 Z0, aI y (u_9 8) 20 Z0, kX10 (u_9 9) (u_9 10) Z0, aI y (u_9 10) 32 Z0, kX0 (u_9 11) (u_9 12) Z0, aI y (u_9 12) 3 Z0] ++ kW y ad (fun _ => zI) (fun _ => Z0) k0) := hD
        refine as_q (D := G) (n := 2) (f := w) (g := (qF (uK ad k0 (csA a_8 u_9)) (k0 + 1))) hx hb hK hP hD hS 1 3 rfl rfl (q_any hK hP (List.mem_of_getElem? (i := 3) rfl)) k0 hx1 hk9 (by first | decide | omega) (by rw [hw]; exact qF_up (a := csA a_8 u_9)) dX6_init_38 (fun H locs hP hD hS => ?_)
        have hP : va_P G vwCl ([kX6 h a_1 a_2 Z0, aQ y a_1 2 (qF (uK ad k0 (csA a_8 u_9)) (k0 + 1)), aZ y a_2 2 Z0, kX7 a_8 (u_9 0) (u_9 2) (u_9 3) (u_9 9) (u_9 11) Z0, kX3 (u_9 0) (u_9 1) i_X3_init_0, aI y (u_9 1) 10 Z0, kX1 (u_9 2) i_X1_init_0, kX8 (u_9 3) (u_9 4) (u_9 5) (u_9 6) (u_9 7) (u_9 8) Z0, aI y (u_9 4) 20 Z0, aI y (u_9 5) 20 Z0, aI y (u_9 6) 20 Z0, aI y (u_9 7) 20 Z0, aI y (u_9 8) 20 Z0, kX10 (u_9 9) (u_9 10) Z0, aI y (u_9 10) 32 Z0, kX0 (u_9 11) (u_9 12) Z0, aI y (u_9 12) 3 Z0] ++ kW y ad (fun _ => zI) (fun _ => Z0) k0) H := hP
        have hD : va_D A ([kX6 h a_1 a_2 Z0, aQ y a_1 2 (qF (uK ad k0 (csA a_8 u_9)) (k0 + 1)), aZ y a_2 2 Z0, kX7 a_8 (u_9 0) (u_9 2) (u_9 3) (u_9 9) (u_9 11) Z0, kX3 (u_9 0) (u_9 1) i_X3_init_0, aI y (u_9 1) 10 Z0, kX1 (u_9 2) i_X1_init_0, kX8 (u_9 3) (u_9 4) (u_9 5) (u_9 6) (u_9 7) (u_9 8) Z0, aI y (u_9 4) 20 Z0, aI y (u_9 5) 20 Z0, aI y (u_9 6) 20 Z0, aI y (u_9 7) 20 Z0, aI y (u_9 8) 20 Z0, kX10 (u_9 9) (u_9 10) Z0, aI y (u_9 10) 32 Z0, kX0 (u_9 11) (u_9 12) Z0, aI y (u_9 12) 3 Z0] ++ kW y ad (fun _ => zI) (fun _ => Z0) k0) := hD
        have hP : va_P G vwCl ([kX6 h a_1 a_2 Z0, aQ y a_1 2 (qF (uK ad k0 (csA a_8 u_9)) (k0 + 1)), aZ y a_2 2 Z0] ++ stB y (csA a_8 u_9) zI Z0 ++ kW y ad (fun _ => zI) (fun _ => Z0) k0) H := hP
        have hD : va_D A ([kX6 h a_1 a_2 Z0, aQ y a_1 2 (qF (uK ad k0 (csA a_8 u_9)) (k0 + 1)), aZ y a_2 2 Z0] ++ stB y (csA a_8 u_9) zI Z0 ++ kW y ad (fun _ => zI) (fun _ => Z0) k0) := hD
        have hP := P_perm kW_new hP
        have hD := D_perm kW_new hD
        have hP : va_P G vwCl ([kX6 h a_1 a_2 Z0, aQ y a_1 2 (qF (uK ad k0 (csA a_8 u_9)) (k0 + 1)), aZ y a_2 2 Z0] ++ kW y (uK ad k0 (csA a_8 u_9)) (fun _ => zI) (fun _ => Z0) (k0 + 1)) H := hP
        have hD : va_D A ([kX6 h a_1 a_2 Z0, aQ y a_1 2 (qF (uK ad k0 (csA a_8 u_9)) (k0 + 1)), aZ y a_2 2 Z0] ++ kW y (uK ad k0 (csA a_8 u_9)) (fun _ => zI) (fun _ => Z0) (k0 + 1)) := hD
        refine lv_iinc (v := (x1 + 1)) (lv' := [(1, .int (x1 + 1)), (0, .ref h)]) hx hb dX6_init_39 hl (k := 0) rfl (by first | rfl | decide) (by decide) rfl (fun ls hl => ?_)
        refine lv_goto (tgt := 21) hx hb dX6_init_42 (by decide) ?_
        rw [show 2 + 14 * k0 + 1 + 13 = 2 + 14 * (k0 + 1) from by omega, show 4 + 188 * k0 + 6 + 182 = 4 + 188 * (k0 + 1) from by omega]
        exact ih_5 (uK ad k0 (csA a_8 u_9)) (k0 + 1) (x1 + 1) (qF (uK ad k0 (csA a_8 u_9)) (k0 + 1)) (by rw [hx1]; exact nI_1 k0) (by omega) rfl (by omega) H locs hP hD hS ls (lv_sub hl [0, 1] rfl)
  exact LOOP21_3 (2 - 0 + 1) (fun _ _ => 0) 0 0 (qF (fun _ _ => 0) 0) rfl (by omega) rfl (Nat.lt_succ_self _) H locs hP hD hS ls (lv_sub hl [0, 1] rfl)

theorem slot_ok {a : Int32} {j : Nat} (ha : a = nI j) (hj : j < 2) : ¬ (s_X11_isSlot_r a) = 0 := by
  subst ha
  rcases (show j = 0 ∨ j = 1 by omega) with rfl | rfl <;> decide
theorem slot_at {a : Int32} (h : ¬ (s_X11_isSlot_r a) = 0) : vp_in a 2 := by
  unfold s_X11_isSlot_r at h
  try dsimp only at h
  split at h
  · exact absurd rfl h
  · next q1 =>
    split at h
    · exact absurd rfl h
    · next q2 => exact vin2 q1 q2 rfl (by decide)

def s_X6_isFilled_r (a1 : Int32) (fl : Nat → Int32) : Int32 := (let v_2 : Int32 := (if (s_X11_isSlot_r a1) = 0 then 0 else (if (fl (tn a1)) = 0 then 0 else 1)); v_2)
theorem z_X6_isFilled (a1 : Int32) (fl : Nat → Int32) : s_X6_isFilled_r a1 fl = 0 ∨ s_X6_isFilled_r a1 fl = 1 := by unfold s_X6_isFilled_r; (try dsimp only); exact (z_ite (Or.inl rfl) (z_ite (Or.inl rfl) (Or.inr rfl)))
abbrev rmX6_isFilled : Room := ({ frames := 1, cells := 0, slots := 0, locals := 20 } : Room)
set_option maxHeartbeats 400000 in
set_option maxRecDepth 100000 in
theorem c_X6_isFilled (l : Launch) (G : va_G) (y : Nat → ClassId) (h : Nat) (a1 : Int32) (a : Nat) (b : Nat) (x : Nat → Int32) (fl : Nat → Int32) : Met l yX6_isFilled wsX6_isFilled rmX6_isFilled (PR G y [.ref h, .int a1] [kX6 h a b x, aZ y b 2 fl]) (QRi (s_X6_isFilled_r a1 fl)) 0 0 (fun _ => False) := by
  refine Met.ofW (cc := cX6_isFilled) (maxL := 2) (ret := (some .boolean)) (by decide) rfl ?_
  intro p e s m args below meth c s₁ B hml hv
  obtain ⟨rfl, hP, hK, hN⟩ := hv
  have hx := B.exec
  have hb := B.bytes
  have hr := B.returns
  have hts := atoms_spec (ws := wsX6_isFilled) B.pre
  have hown : s.vm.findClass RX6 = some m.cls := findClass_of_methodNamed B.named
  have hlocks := B.notSynchronized
  have i_X6 : ∀ w ∈ u_ws RX6 TX6 2, w ∈ wsX6_isFilled := by decide +kernel
  have hl := lv_entry ([.ref h, .int a1]) (n := 2) (Nat.le_of_ble_eq_true rfl)
  rw [lg_entry_eq]
  generalize (lg_sl ([.ref h, .int a1]) ++ List.replicate (2 - (lg_sl ([.ref h, .int a1])).length) Slot.unset).toArray = ls at hl ⊢
  have hl : lv_has ls 2 [(0, .ref h), (1, .int a1)] := hl
  obtain ⟨QQ, hQQ⟩ : ∃ zq9, zq9 = MQ below (QRi (s_X6_isFilled_r a1 fl)) ([.ref h, .int a1] : List Value).toArray s 0 0 (fun _ => False) := ⟨_, rfl⟩
  rw [← hQQ]
  refine lv_iload_n hx hb dX6_isFilled_0 rfl (lv_at hl 1 rfl) ?_
  refine cl_Ri (va_runSN (As := [.int a1]) (rest := []) ⟨hx, hb, hml, hown, hts⟩ (c_X11_isSlot l G y a1) ⟨va_cnB 1 hts gX6_isFilled_X11_isSlot_n22 rfl rfl rfl (NN.m hN (by decide +kernel)) (hts (.initialized RX11) (by decide +kernel)) (by decide +kernel) ⟨Nat.le_of_ble_eq_true rfl, Nat.le_of_ble_eq_true rfl⟩, hts (.static yX11_isSlot) (by decide +kernel), trivial⟩ (PR_S pnil hK hN) rfl rfl hl.1 rfl (lv_room (Nat.le_of_ble_eq_true rfl)) dX6_isFilled_1 ⟨Nat.le_of_ble_eq_true rfl, Nat.le_of_ble_eq_true rfl⟩) ?_
  have J21_4 : ∀ (v_2 : Int32) (e_v_2 : v_2 = (if (s_X11_isSlot_r a1) = 0 then 0 else (if (fl (tn a1)) = 0 then 0 else 1))) (z_3 : v_2 = 0 ∨ v_2 = 1) (ls : Array Slot) (hl : lv_has ls 2 []), W p l e (headSpec wsX6_isFilled rmX6_isFilled).room s m ([.ref h, .int a1] : List Value).toArray below meth c s.heap [] 0 0 QQ (F0 m 21 ls [.int v_2]) := by
    intro v_2 e_v_2 z_3 ls hl
    rw [hQQ]
    exact W.zret hx hb hr (nz_bool z_3) (end_Ri (by subst e_v_2; unfold s_X6_isFilled_r; exact rfl)) (fun _ h => nomatch h) dX6_isFilled_21
  refine lv_if_eq (tgt := 20) hx hb dX6_isFilled_4 (by decide) (fun c_1 => ?_) (fun c_1 => ?_)
  · refine lv_iconst (v := 0) hx hb dX6_isFilled_20 (by decide) ?_
    exact J21_4 _ (if_pos c_1).symm (Or.inl rfl) ls (lv_sub hl [] rfl)
  · refine lv_aload_n hx hb dX6_isFilled_7 rfl (lv_at hl 0 rfl) ?_
    refine va_get (D := G) (ci := 4) (v := .ref b) (C := RX6) (T := TX6) (N := 2) hx hb hts i_X6 hown hK hP 0 rfl rfl 1 (by decide) (hts (.fieldLink RX6 17 "RelayTuner$Slots" "filled" "[Z") (by decide +kernel)) (fun _ h9 => h9) rfl dX6_isFilled_8 ?_
    refine lv_iload_n hx hb dX6_isFilled_11 rfl (lv_at hl 1 rfl) ?_
    refine al_z (D := G) (n := 2) (f := fl) hx hb hK hP 1 2 rfl rfl (tn a1) (in_tn (slot_at c_1) (by decide)).1 (in_tn (slot_at c_1) (by decide)).2 (by first | decide | omega) dX6_isFilled_12 ?_
    refine lv_if_eq (tgt := 20) hx hb dX6_isFilled_13 (by decide) (fun c_5 => ?_) (fun c_5 => ?_)
    · refine lv_iconst (v := 0) hx hb dX6_isFilled_20 (by decide) ?_
      exact J21_4 _ ((if_neg c_1).trans (if_pos c_5)).symm (Or.inl rfl) ls (lv_sub hl [] rfl)
    · refine lv_iconst (v := 1) hx hb dX6_isFilled_16 (by decide) ?_
      refine lv_goto (tgt := 21) hx hb dX6_isFilled_17 (by decide) ?_
      exact J21_4 _ ((if_neg c_1).trans (if_neg c_5)).symm (Or.inr rfl) ls (lv_sub hl [] rfl)

def s_X6_empty_w1 (fl : Nat → Int32) : Nat → Int32 := (upd (upd fl 0 (vp_nar .boolean 0)) 1 (vp_nar .boolean 0))
abbrev rmX6_empty : Room := ({ frames := 0, cells := 0, slots := 0, locals := 0 } : Room)
set_option maxHeartbeats 400000 in
set_option maxRecDepth 100000 in
theorem c_X6_empty (l : Launch) (G : va_G) (y : Nat → ClassId) (h : Nat) (a : Nat) (b : Nat) (x : Nat → Int32) (fl : Nat → Int32) (sz : Nat) : Met l yX6_empty wsX6_empty rmX6_empty (PH G y [.ref h] [kX6 h a b x, aZ y b 2 fl] sz) (QHv G (fun _ : Unit => [kX6 h a b x, aZ y b 2 (s_X6_empty_w1 fl)]) (va_A [kX6 h a b x, aZ y b 2 fl] sz)) 0 0 (va_A [kX6 h a b x, aZ y b 2 fl] sz) := by
  refine Met.ofW (cc := cX6_empty) (maxL := 2) (ret := none) (by decide) rfl ?_
  intro p e s m args below meth c s₁ B hml hv
  obtain ⟨rfl, hsz, hP, ⟨hK, hN⟩, hD0⟩ := hv
  have hx := B.exec
  have hb := B.bytes
  have hr := B.returns
  have hts := atoms_spec (ws := wsX6_empty) B.pre
  have hown : s.vm.findClass RX6 = some m.cls := findClass_of_methodNamed B.named
  have hlocks := B.notSynchronized
  have i_X6 : ∀ w ∈ u_ws RX6 TX6 2, w ∈ wsX6_empty := by decide +kernel
  subst hsz
  have hD := hD0.self (sz := s.heap.size)
  generalize hAe : va_A [kX6 h a b x, aZ y b 2 fl] s.heap.size = A at hD ⊢
  have hA : ∀ q : Nat, s.heap.size ≤ q → A q := fun q h => by rw [← hAe]; exact Or.inr h
  have hS : va_S A s.heap s.heap [] := va_S.rf
  have hP : va_P G vwCl [kX6 h a b x, aZ y b 2 fl] s.heap := hP
  have hl := lv_entry ([.ref h]) (n := 2) (Nat.le_of_ble_eq_true rfl)
  rw [lg_entry_eq]
  generalize (lg_sl ([.ref h]) ++ List.replicate (2 - (lg_sl ([.ref h])).length) Slot.unset).toArray = ls at hl ⊢
  have hl : lv_has ls 2 [(0, .ref h)] := hl
  refine lv_iconst (v := 0) hx hb dX6_empty_0 (by decide) ?_
  refine lv_istore_n (lv' := [(1, .int 0), (0, .ref h)]) hx hb dX6_empty_1 rfl hl (by decide) rfl (fun ls hl => ?_)
  refine lv_iload_n hx hb dX6_empty_2 rfl (lv_at hl 0 rfl) ?_
  refine lv_iconst (v := 2) hx hb dX6_empty_3 (by decide) ?_
  refine lv_icmp_ge (tgt := 20) hx hb dX6_empty_4 (by decide) (fun c_1 => ?_) (fun c_1 => ?_)
  · exact (by first | exact absurd c_1 (by decide : ¬ ((2 : Int32) ≤ 0)) | exact absurd (by decide : ¬ ((2 : Int32) ≤ 0)) c_1)
  refine lv_aload_n hx hb dX6_empty_7 rfl (lv_at hl 1 rfl) ?_
  refine va_get (D := G) (ci := 4) (v := .ref b) (C := RX6) (T := TX6) (N := 2) hx hb hts i_X6 hown hK hP 0 rfl rfl 1 (by decide) (hts (.fieldLink RX6 17 "RelayTuner$Slots" "filled" "[Z") (by decide +kernel)) (fun _ h9 => h9) rfl dX6_empty_8 ?_
  refine lv_iload_n hx hb dX6_empty_11 rfl (lv_at hl 0 rfl) ?_
  refine lv_iconst (v := 0) hx hb dX6_empty_12 (by decide) ?_
  refine as_z (D := G) (n := 2) (f := fl) hx hb hK hP hD hS 1 2 rfl rfl 0 rfl (by decide) (by first | decide | omega) dX6_empty_13 (fun H locs hP hD hS => ?_)
  have hP : va_P G vwCl [kX6 h a b x, aZ y b 2 (upd fl 0 (vp_nar .boolean 0))] H := hP
  have hD : va_D A [kX6 h a b x, aZ y b 2 (upd fl 0 (vp_nar .boolean 0))] := hD
  refine lv_iinc (v := 1) (lv' := [(1, .int 1), (0, .ref h)]) hx hb dX6_empty_14 hl (k := 0) rfl (by first | rfl | decide) (by decide) rfl (fun ls hl => ?_)
  refine lv_goto (tgt := 2) hx hb dX6_empty_17 (by decide) ?_
  refine lv_iload_n hx hb dX6_empty_2 rfl (lv_at hl 0 rfl) ?_
  refine lv_iconst (v := 2) hx hb dX6_empty_3 (by decide) ?_
  refine lv_icmp_ge (tgt := 20) hx hb dX6_empty_4 (by decide) (fun c_2 => ?_) (fun c_2 => ?_)
  · exact (by first | exact absurd c_2 (by decide : ¬ ((2 : Int32) ≤ 1)) | exact absurd (by decide : ¬ ((2 : Int32) ≤ 1)) c_2)
  refine lv_aload_n hx hb dX6_empty_7 rfl (lv_at hl 1 rfl) ?_
  refine va_get (D := G) (ci := 4) (v := .ref b) (C := RX6) (T := TX6) (N := 2) hx hb hts i_X6 hown hK hP 0 rfl rfl 1 (by decide) (hts (.fieldLink RX6 17 "RelayTuner$Slots" "filled" "[Z") (by decide +kernel)) (fun _ h9 => h9) rfl dX6_empty_8 ?_
  refine lv_iload_n hx hb dX6_empty_11 rfl (lv_at hl 0 rfl) ?_
  refine lv_iconst (v := 0) hx hb dX6_empty_12 (by decide) ?_
  refine as_z (D := G) (n := 2) (f := (upd fl 0 (vp_nar .boolean 0))) hx hb hK hP hD hS 1 2 rfl rfl 1 rfl (by decide) (by first | decide | omega) dX6_empty_13 (fun H locs hP hD hS => ?_)
  have hP : va_P G vwCl [kX6 h a b x, aZ y b 2 (upd (upd fl 0 (vp_nar .boolean 0)) 1 (vp_nar .boolean 0))] H := hP
  have hD : va_D A [kX6 h a b x, aZ y b 2 (upd (upd fl 0 (vp_nar .boolean 0)) 1 (vp_nar .boolean 0))] := hD
  refine lv_iinc (v := 2) (lv' := [(1, .int 2), (0, .ref h)]) hx hb dX6_empty_14 hl (k := 0) rfl (by first | rfl | decide) (by decide) rfl (fun ls hl => ?_)
  refine lv_goto (tgt := 2) hx hb dX6_empty_17 (by decide) ?_
  refine lv_iload_n hx hb dX6_empty_2 rfl (lv_at hl 0 rfl) ?_
  refine lv_iconst (v := 2) hx hb dX6_empty_3 (by decide) ?_
  refine lv_icmp_ge (tgt := 20) hx hb dX6_empty_4 (by decide) (fun c_3 => ?_) (fun c_3 => ?_)
  rotate_left
  · exact (by first | exact absurd c_3 (by decide : ((2 : Int32) ≤ 2)) | exact absurd (by decide : ((2 : Int32) ≤ 2)) c_3)
  exact W.vret hx hb hr (end_Hv () hP hD hS rfl) hS.2.2 dX6_empty_20

abbrev rmX6_keep : Room := ({ frames := 3, cells := 0, slots := 0, locals := 102 } : Room)
set_option maxHeartbeats 400000 in
set_option maxRecDepth 100000 in
theorem c_X6_keep (l : Launch) (G : va_G) (y : Nat → ClassId) (h : Nat) (a1 : Int32) (kh : Nat) (a : Nat) (b : Nat) (x : Nat → Int32) (fl : Nat → Int32) (kua : Nat) (kub : Nat) (kuc : Nat) (kud : Nat) (kue : Nat) (z : Nat → Nat → Int32) (kva : Nat) (kvc1 : Nat) (kvc2 : Nat) (kvc3 : Nat) (kvc4 : Nat) (kvc5 : Nat) (o : Nat → Int32) (kvd : Nat) (kve : Nat) (ad : Nat → Nat → Nat) (zk : Nat → Nat → Nat → Int32) (ok : Nat → Nat → Int32) (j9 : Nat) (sz : Nat) (ha : a1 = nI j9) (hj : j9 < 2) (hrz : z 3 7 = 0 ∨ z 3 7 = 1) (hez : z 3 10 = 0 ∨ z 3 10 = 1) (hgz : z 4 6 = 0 ∨ z 4 6 = 1) : Met l yX6_keep wsX6_keep rmX6_keep (PH G y [.ref h, .int a1, .ref kh] ([kX6 h a b x, aQ y a 2 (fun i => some (ad i 0)), aZ y b 2 fl, kX7 kh kua kub kuc kud kue (z 0), kX3 kua kva (z 1), aI y kva 10 (z 2), kX1 kub (z 3), kX8 kuc kvc1 kvc2 kvc3 kvc4 kvc5 (z 4), aI y kvc1 20 (z 5), aI y kvc2 20 (z 6), aI y kvc3 20 (z 7), aI y kvc4 20 (z 8), aI y kvc5 20 o, kX10 kud kvd (z 9), aI y kvd 32 (z 10), kX0 kue kve (z 11), aI y kve 3 (z 12)] ++ kW y ad zk ok 2) sz) (QHv G (fun _ : Unit => ([kX6 h a b x, aQ y a 2 (fun i => some (ad i 0)), aZ y b 2 (upd fl j9 1), kX7 kh kua kub kuc kud kue (z 0), kX3 kua kva (z 1), aI y kva 10 (z 2), kX1 kub (z 3), kX8 kuc kvc1 kvc2 kvc3 kvc4 kvc5 (z 4), aI y kvc1 20 (z 5), aI y kvc2 20 (z 6), aI y kvc3 20 (z 7), aI y kvc4 20 (z 8), aI y kvc5 20 o, kX10 kud kvd (z 9), aI y kvd 32 (z 10), kX0 kue kve (z 11), aI y kve 3 (z 12)] ++ kW y ad (uK zk j9 z) ok 2)) (va_A ([kX6 h a b x, aQ y a 2 (fun i => some (ad i 0)), aZ y b 2 fl, kX7 kh kua kub kuc kud kue (z 0), kX3 kua kva (z 1), aI y kva 10 (z 2), kX1 kub (z 3), kX8 kuc kvc1 kvc2 kvc3 kvc4 kvc5 (z 4), aI y kvc1 20 (z 5), aI y kvc2 20 (z 6), aI y kvc3 20 (z 7), aI y kvc4 20 (z 8), aI y kvc5 20 o, kX10 kud kvd (z 9), aI y kvd 32 (z 10), kX0 kue kve (z 11), aI y kve 3 (z 12)] ++ kW y ad zk ok 2) sz)) 0 0 (va_A ([kX6 h a b x, aQ y a 2 (fun i => some (ad i 0)), aZ y b 2 fl, kX7 kh kua kub kuc kud kue (z 0), kX3 kua kva (z 1), aI y kva 10 (z 2), kX1 kub (z 3), kX8 kuc kvc1 kvc2 kvc3 kvc4 kvc5 (z 4), aI y kvc1 20 (z 5), aI y kvc2 20 (z 6), aI y kvc3 20 (z 7), aI y kvc4 20 (z 8), aI y kvc5 20 o, kX10 kud kvd (z 9), aI y kvd 32 (z 10), kX0 kue kve (z 11), aI y kve 3 (z 12)] ++ kW y ad zk ok 2) sz) := by
  refine Met.ofW (cc := cX6_keep) (maxL := 3) (ret := none) (by decide) rfl ?_
  intro p e s m args below meth c s₁ B hml hv
  obtain ⟨rfl, hsz, hP, ⟨hK, hN⟩, hD0⟩ := hv
  have hx := B.exec
  have hb := B.bytes
  have hr := B.returns
  have hts := atoms_spec (ws := wsX6_keep) B.pre
  have hown : s.vm.findClass RX6 = some m.cls := findClass_of_methodNamed B.named
  have hlocks := B.notSynchronized
  have i_X6 : ∀ w ∈ u_ws RX6 TX6 2, w ∈ wsX6_keep := by decide +kernel
  subst hsz
  have hD := hD0.self (sz := s.heap.size)
  generalize hAe : va_A ([kX6 h a b x, aQ y a 2 (fun i => some (ad i 0)), aZ y b 2 fl, kX7 kh kua kub kuc kud kue (z 0), kX3 kua kva (z 1), aI y kva 10 (z 2), kX1 kub (z 3), kX8 kuc kvc1 kvc2 kvc3 kvc4 kvc5 (z 4), aI y kvc1 20 (z 5), aI y kvc2 20 (z 6), aI y kvc3 20 (z 7), aI y kvc4 20 (z 8), aI y kvc5 20 o, kX10 kud kvd (z 9), aI y kvd 32 (z 10), kX0 kue kve (z 11), aI y kve 3 (z 12)] ++ kW y ad zk ok 2) s.heap.size = A at hD ⊢
  have hA : ∀ q : Nat, s.heap.size ≤ q → A q := fun q h => by rw [← hAe]; exact Or.inr h
  have hS : va_S A s.heap s.heap [] := va_S.rf
  have hP : va_P G vwCl ([kX6 h a b x, aQ y a 2 (fun i => some (ad i 0)), aZ y b 2 fl, kX7 kh kua kub kuc kud kue (z 0), kX3 kua kva (z 1), aI y kva 10 (z 2), kX1 kub (z 3), kX8 kuc kvc1 kvc2 kvc3 kvc4 kvc5 (z 4), aI y kvc1 20 (z 5), aI y kvc2 20 (z 6), aI y kvc3 20 (z 7), aI y kvc4 20 (z 8), aI y kvc5 20 o, kX10 kud kvd (z 9), aI y kvd 32 (z 10), kX0 kue kve (z 11), aI y kve 3 (z 12)] ++ kW y ad zk ok 2) s.heap := hP
  have hl := lv_entry ([.ref h, .int a1, .ref kh]) (n := 3) (Nat.le_of_ble_eq_true rfl)
  rw [lg_entry_eq]
  generalize (lg_sl ([.ref h, .int a1, .ref kh]) ++ List.replicate (3 - (lg_sl ([.ref h, .int a1, .ref kh])).length) Slot.unset).toArray = ls at hl ⊢
  have hl : lv_has ls 3 [(0, .ref h), (1, .int a1), (2, .ref kh)] := hl
  refine lv_iload_n hx hb dX6_keep_0 rfl (lv_at hl 1 rfl) ?_
  refine cl_Ri (va_runSN (As := [.int a1]) (rest := []) ⟨hx, hb, hml, hown, hts⟩ (c_X11_isSlot l G y a1) ⟨va_cnB 1 hts gX6_keep_X11_isSlot_n22 rfl rfl rfl (NN.m hN (by decide +kernel)) (hts (.initialized RX11) (by decide +kernel)) (by decide +kernel) ⟨Nat.le_of_ble_eq_true rfl, Nat.le_of_ble_eq_true rfl⟩, hts (.static yX11_isSlot) (by decide +kernel), trivial⟩ (PR_S pnil hK hN) rfl rfl hl.1 rfl (lv_room (Nat.le_of_ble_eq_true rfl)) dX6_keep_1 ⟨Nat.le_of_ble_eq_true rfl, Nat.le_of_ble_eq_true rfl⟩) ?_
  refine lv_if_eq (tgt := 24) hx hb dX6_keep_4 (by decide) (fun c_1 => ?_) (fun c_1 => ?_)
  · exact (by first | exact absurd c_1 (slot_ok ha hj) | exact absurd (slot_ok ha hj) c_1)
  refine lv_aload_n hx hb dX6_keep_7 rfl (lv_at hl 0 rfl) ?_
  refine va_get (D := G) (ci := 4) (v := .ref a) (C := RX6) (T := TX6) (N := 2) hx hb hts i_X6 hown hK hP 0 rfl rfl 0 (by decide) (hts (.fieldLink RX6 11 "RelayTuner$Slots" "saved" "[LRelayTuner$State;") (by decide +kernel)) (fun _ h9 => h9) rfl dX6_keep_8 ?_
  refine lv_iload_n hx hb dX6_keep_11 rfl (lv_at hl 1 rfl) ?_
  refine al_q (D := G) (n := 2) (f := (fun i => some (ad i 0))) (v := (ad j9 0)) hx hb hK hP 1 3 rfl rfl j9 ha hj (by first | decide | omega) rfl dX6_keep_12 ?_
  have hP := P_perm (kW_pick (k := j9) hj) hP
  have hD := D_perm (kW_pick (k := j9) hj) hD
  have hP : va_P G vwCl ([kX6 h a b x, aQ y a 2 (fun i => some (ad i 0)), aZ y b 2 fl, kX7 kh kua kub kuc kud kue (z 0), kX3 kua kva (z 1), aI y kva 10 (z 2), kX1 kub (z 3), kX8 kuc kvc1 kvc2 kvc3 kvc4 kvc5 (z 4), aI y kvc1 20 (z 5), aI y kvc2 20 (z 6), aI y kvc3 20 (z 7), aI y kvc4 20 (z 8), aI y kvc5 20 o, kX10 kud kvd (z 9), aI y kvd 32 (z 10), kX0 kue kve (z 11), aI y kve 3 (z 12), kX7 (ad j9 0) (ad j9 1) (ad j9 3) (ad j9 4) (ad j9 10) (ad j9 12) ((zk j9) 0), kX3 (ad j9 1) (ad j9 2) ((zk j9) 1), aI y (ad j9 2) 10 ((zk j9) 2), kX1 (ad j9 3) ((zk j9) 3), kX8 (ad j9 4) (ad j9 5) (ad j9 6) (ad j9 7) (ad j9 8) (ad j9 9) ((zk j9) 4), aI y (ad j9 5) 20 ((zk j9) 5), aI y (ad j9 6) 20 ((zk j9) 6), aI y (ad j9 7) 20 ((zk j9) 7), aI y (ad j9 8) 20 ((zk j9) 8), aI y (ad j9 9) 20 (ok j9), kX10 (ad j9 10) (ad j9 11) ((zk j9) 9), aI y (ad j9 11) 32 ((zk j9) 10), kX0 (ad j9 12) (ad j9 13) ((zk j9) 11), aI y (ad j9 13) 3 ((zk j9) 12)] ++ kX y ad zk ok 2 j9) s.heap := hP
  have hD : va_D A ([kX6 h a b x, aQ y a 2 (fun i => some (ad i 0)), aZ y b 2 fl, kX7 kh kua kub kuc kud kue (z 0), kX3 kua kva (z 1), aI y kva 10 (z 2), kX1 kub (z 3), kX8 kuc kvc1 kvc2 kvc3 kvc4 kvc5 (z 4), aI y kvc1 20 (z 5), aI y kvc2 20 (z 6), aI y kvc3 20 (z 7), aI y kvc4 20 (z 8), aI y kvc5 20 o, kX10 kud kvd (z 9), aI y kvd 32 (z 10), kX0 kue kve (z 11), aI y kve 3 (z 12), kX7 (ad j9 0) (ad j9 1) (ad j9 3) (ad j9 4) (ad j9 10) (ad j9 12) ((zk j9) 0), kX3 (ad j9 1) (ad j9 2) ((zk j9) 1), aI y (ad j9 2) 10 ((zk j9) 2), kX1 (ad j9 3) ((zk j9) 3), kX8 (ad j9 4) (ad j9 5) (ad j9 6) (ad j9 7) (ad j9 8) (ad j9 9) ((zk j9) 4), aI y (ad j9 5) 20 ((zk j9) 5), aI y (ad j9 6) 20 ((zk j9) 6), aI y (ad j9 7) 20 ((zk j9) 7), aI y (ad j9 8) 20 ((zk j9) 8), aI y (ad j9 9) 20 (ok j9), kX10 (ad j9 10) (ad j9 11) ((zk j9) 9), aI y (ad j9 11) 32 ((zk j9) 10), kX0 (ad j9 12) (ad j9 13) ((zk j9) 11), aI y (ad j9 13) 3 ((zk j9) 12)] ++ kX y ad zk ok 2 j9) := hD
  refine lv_aload_n hx hb dX6_keep_13 rfl (lv_at hl 2 rfl) ?_
  refine cl_HvT (wr := [kX6 h a b x, aQ y a 2 (fun i => some (ad i 0)), aZ y b 2 fl]) (fun _ : Unit => [kX6 h a b x, aQ y a 2 (fun i => some (ad i 0)), aZ y b 2 fl, kX7 kh kua kub kuc kud kue (z 0), kX3 kua kva (z 1), aI y kva 10 (z 2), kX1 kub (z 3), kX8 kuc kvc1 kvc2 kvc3 kvc4 kvc5 (z 4), aI y kvc1 20 (z 5), aI y kvc2 20 (z 6), aI y kvc3 20 (z 7), aI y kvc4 20 (z 8), aI y kvc5 20 o, kX10 kud kvd (z 9), aI y kvd 32 (z 10), kX0 kue kve (z 11), aI y kve 3 (z 12), kX7 (ad j9 0) (ad j9 1) (ad j9 3) (ad j9 4) (ad j9 10) (ad j9 12) (z 0), kX3 (ad j9 1) (ad j9 2) (z 1), aI y (ad j9 2) 10 (z 2), kX1 (ad j9 3) (z 3), kX8 (ad j9 4) (ad j9 5) (ad j9 6) (ad j9 7) (ad j9 8) (ad j9 9) (z 4), aI y (ad j9 5) 20 (z 5), aI y (ad j9 6) 20 (z 6), aI y (ad j9 7) 20 (z 7), aI y (ad j9 8) 20 (z 8), aI y (ad j9 9) 20 (ok j9), kX10 (ad j9 10) (ad j9 11) (z 9), aI y (ad j9 11) 32 (z 10), kX0 (ad j9 12) (ad j9 13) (z 11), aI y (ad j9 13) 3 (z 12)]) [17, 18, 19, 20, 21, 22, 23, 24, 25, 26, 27, 28, 29, 30, 3, 4, 5, 6, 7, 8, 9, 10, 11, 12, 13, 14, 15, 16] [0, 1, 2] [0, 1, 2, 17, 18, 19, 20, 21, 22, 23, 24, 25, 26, 27, 28, 29, 30, 3, 4, 5, 6, 7, 8, 9, 10, 11, 12, 13, 14, 15, 16] (va_runV (As := [.ref kh]) (rest := []) ⟨hx, hb, hml, hown, hts⟩ (c_X7_become l G y (ad j9 0) kh (ad j9 1) (ad j9 3) (ad j9 4) (ad j9 10) (ad j9 12) (zk j9) (ad j9 2) (ad j9 5) (ad j9 6) (ad j9 7) (ad j9 8) (ad j9 9) (ok j9) (ad j9 11) (ad j9 13) kua kub kuc kud kue z kva kvc1 kvc2 kvc3 kvc4 kvc5 o kvd kve s.heap.size hrz hez hgz) (cwV 1 hts gX6_keep_X7_become rfl rfl rfl (by decide +kernel) ⟨Nat.le_of_ble_eq_true rfl, Nat.le_of_ble_eq_true rfl⟩) (PH_V (hP.sub (ws' := [kX7 (ad j9 0) (ad j9 1) (ad j9 3) (ad j9 4) (ad j9 10) (ad j9 12) ((zk j9) 0), kX3 (ad j9 1) (ad j9 2) ((zk j9) 1), aI y (ad j9 2) 10 ((zk j9) 2), kX1 (ad j9 3) ((zk j9) 3), kX8 (ad j9 4) (ad j9 5) (ad j9 6) (ad j9 7) (ad j9 8) (ad j9 9) ((zk j9) 4), aI y (ad j9 5) 20 ((zk j9) 5), aI y (ad j9 6) 20 ((zk j9) 6), aI y (ad j9 7) 20 ((zk j9) 7), aI y (ad j9 8) 20 ((zk j9) 8), aI y (ad j9 9) 20 (ok j9), kX10 (ad j9 10) (ad j9 11) ((zk j9) 9), aI y (ad j9 11) 32 ((zk j9) 10), kX0 (ad j9 12) (ad j9 13) ((zk j9) 11), aI y (ad j9 13) 3 ((zk j9) 12), kX7 kh kua kub kuc kud kue (z 0), kX3 kua kva (z 1), aI y kva 10 (z 2), kX1 kub (z 3), kX8 kuc kvc1 kvc2 kvc3 kvc4 kvc5 (z 4), aI y kvc1 20 (z 5), aI y kvc2 20 (z 6), aI y kvc3 20 (z 7), aI y kvc4 20 (z 8), aI y kvc5 20 o, kX10 kud kvd (z 9), aI y kvd 32 (z 10), kX0 kue kve (z 11), aI y kve 3 (z 12)]) [17, 18, 19, 20, 21, 22, 23, 24, 25, 26, 27, 28, 29, 30, 3, 4, 5, 6, 7, 8, 9, 10, 11, 12, 13, 14, 15, 16] rfl) hK hN (hD.sub (ws' := [kX7 (ad j9 0) (ad j9 1) (ad j9 3) (ad j9 4) (ad j9 10) (ad j9 12) ((zk j9) 0), kX3 (ad j9 1) (ad j9 2) ((zk j9) 1), aI y (ad j9 2) 10 ((zk j9) 2), kX1 (ad j9 3) ((zk j9) 3), kX8 (ad j9 4) (ad j9 5) (ad j9 6) (ad j9 7) (ad j9 8) (ad j9 9) ((zk j9) 4), aI y (ad j9 5) 20 ((zk j9) 5), aI y (ad j9 6) 20 ((zk j9) 6), aI y (ad j9 7) 20 ((zk j9) 7), aI y (ad j9 8) 20 ((zk j9) 8), aI y (ad j9 9) 20 (ok j9), kX10 (ad j9 10) (ad j9 11) ((zk j9) 9), aI y (ad j9 11) 32 ((zk j9) 10), kX0 (ad j9 12) (ad j9 13) ((zk j9) 11), aI y (ad j9 13) 3 ((zk j9) 12), kX7 kh kua kub kuc kud kue (z 0), kX3 kua kva (z 1), aI y kva 10 (z 2), kX1 kub (z 3), kX8 kuc kvc1 kvc2 kvc3 kvc4 kvc5 (z 4), aI y kvc1 20 (z 5), aI y kvc2 20 (z 6), aI y kvc3 20 (z 7), aI y kvc4 20 (z 8), aI y kvc5 20 o, kX10 kud kvd (z 9), aI y kvd 32 (z 10), kX0 kue kve (z 11), aI y kve 3 (z 12)]) [17, 18, 19, 20, 21, 22, 23, 24, 25, 26, 27, 28, 29, 30, 3, 4, 5, 6, 7, 8, 9, 10, 11, 12, 13, 14, 15, 16] (by decide) rfl) (ci := 5) (q0 := 0) rfl rfl) rfl rfl hl.1 rfl (lv_room (Nat.le_of_ble_eq_true rfl)) dX6_keep_14 ⟨Nat.le_of_ble_eq_true rfl, Nat.le_of_ble_eq_true rfl⟩) hP hD hS hA rfl rfl rfl (fun _ => rfl) (fun _ H locs hP hD hS => ?_)
  have hP : va_P G vwCl ([kX6 h a b x, aQ y a 2 (fun i => some (ad i 0)), aZ y b 2 fl, kX7 kh kua kub kuc kud kue (z 0), kX3 kua kva (z 1), aI y kva 10 (z 2), kX1 kub (z 3), kX8 kuc kvc1 kvc2 kvc3 kvc4 kvc5 (z 4), aI y kvc1 20 (z 5), aI y kvc2 20 (z 6), aI y kvc3 20 (z 7), aI y kvc4 20 (z 8), aI y kvc5 20 o, kX10 kud kvd (z 9), aI y kvd 32 (z 10), kX0 kue kve (z 11), aI y kve 3 (z 12), kX7 (ad j9 0) (ad j9 1) (ad j9 3) (ad j9 4) (ad j9 10) (ad j9 12) (z 0), kX3 (ad j9 1) (ad j9 2) (z 1), aI y (ad j9 2) 10 (z 2), kX1 (ad j9 3) (z 3), kX8 (ad j9 4) (ad j9 5) (ad j9 6) (ad j9 7) (ad j9 8) (ad j9 9) (z 4), aI y (ad j9 5) 20 (z 5), aI y (ad j9 6) 20 (z 6), aI y (ad j9 7) 20 (z 7), aI y (ad j9 8) 20 (z 8), aI y (ad j9 9) 20 (ok j9), kX10 (ad j9 10) (ad j9 11) (z 9), aI y (ad j9 11) 32 (z 10), kX0 (ad j9 12) (ad j9 13) (z 11), aI y (ad j9 13) 3 (z 12)] ++ kX y ad zk ok 2 j9) H := hP
  have hD : va_D A ([kX6 h a b x, aQ y a 2 (fun i => some (ad i 0)), aZ y b 2 fl, kX7 kh kua kub kuc kud kue (z 0), kX3 kua kva (z 1), aI y kva 10 (z 2), kX1 kub (z 3), kX8 kuc kvc1 kvc2 kvc3 kvc4 kvc5 (z 4), aI y kvc1 20 (z 5), aI y kvc2 20 (z 6), aI y kvc3 20 (z 7), aI y kvc4 20 (z 8), aI y kvc5 20 o, kX10 kud kvd (z 9), aI y kvd 32 (z 10), kX0 kue kve (z 11), aI y kve 3 (z 12), kX7 (ad j9 0) (ad j9 1) (ad j9 3) (ad j9 4) (ad j9 10) (ad j9 12) (z 0), kX3 (ad j9 1) (ad j9 2) (z 1), aI y (ad j9 2) 10 (z 2), kX1 (ad j9 3) (z 3), kX8 (ad j9 4) (ad j9 5) (ad j9 6) (ad j9 7) (ad j9 8) (ad j9 9) (z 4), aI y (ad j9 5) 20 (z 5), aI y (ad j9 6) 20 (z 6), aI y (ad j9 7) 20 (z 7), aI y (ad j9 8) 20 (z 8), aI y (ad j9 9) 20 (ok j9), kX10 (ad j9 10) (ad j9 11) (z 9), aI y (ad j9 11) 32 (z 10), kX0 (ad j9 12) (ad j9 13) (z 11), aI y (ad j9 13) 3 (z 12)] ++ kX y ad zk ok 2 j9) := hD
  have hP : va_P G vwCl ([kX6 h a b x, aQ y a 2 (fun i => some (ad i 0)), aZ y b 2 fl, kX7 kh kua kub kuc kud kue (z 0), kX3 kua kva (z 1), aI y kva 10 (z 2), kX1 kub (z 3), kX8 kuc kvc1 kvc2 kvc3 kvc4 kvc5 (z 4), aI y kvc1 20 (z 5), aI y kvc2 20 (z 6), aI y kvc3 20 (z 7), aI y kvc4 20 (z 8), aI y kvc5 20 o, kX10 kud kvd (z 9), aI y kvd 32 (z 10), kX0 kue kve (z 11), aI y kve 3 (z 12)] ++ stB y (ad j9) z (ok j9) ++ kX y ad zk ok 2 j9) H := hP
  have hD : va_D A ([kX6 h a b x, aQ y a 2 (fun i => some (ad i 0)), aZ y b 2 fl, kX7 kh kua kub kuc kud kue (z 0), kX3 kua kva (z 1), aI y kva 10 (z 2), kX1 kub (z 3), kX8 kuc kvc1 kvc2 kvc3 kvc4 kvc5 (z 4), aI y kvc1 20 (z 5), aI y kvc2 20 (z 6), aI y kvc3 20 (z 7), aI y kvc4 20 (z 8), aI y kvc5 20 o, kX10 kud kvd (z 9), aI y kvd 32 (z 10), kX0 kue kve (z 11), aI y kve 3 (z 12)] ++ stB y (ad j9) z (ok j9) ++ kX y ad zk ok 2 j9) := hD
  have hP := P_perm (kW_put (k := j9) hj) hP
  have hD := D_perm (kW_put (k := j9) hj) hD
  have hP : va_P G vwCl ([kX6 h a b x, aQ y a 2 (fun i => some (ad i 0)), aZ y b 2 fl, kX7 kh kua kub kuc kud kue (z 0), kX3 kua kva (z 1), aI y kva 10 (z 2), kX1 kub (z 3), kX8 kuc kvc1 kvc2 kvc3 kvc4 kvc5 (z 4), aI y kvc1 20 (z 5), aI y kvc2 20 (z 6), aI y kvc3 20 (z 7), aI y kvc4 20 (z 8), aI y kvc5 20 o, kX10 kud kvd (z 9), aI y kvd 32 (z 10), kX0 kue kve (z 11), aI y kve 3 (z 12)] ++ kW y ad (uK zk j9 z) ok 2) H := hP
  have hD : va_D A ([kX6 h a b x, aQ y a 2 (fun i => some (ad i 0)), aZ y b 2 fl, kX7 kh kua kub kuc kud kue (z 0), kX3 kua kva (z 1), aI y kva 10 (z 2), kX1 kub (z 3), kX8 kuc kvc1 kvc2 kvc3 kvc4 kvc5 (z 4), aI y kvc1 20 (z 5), aI y kvc2 20 (z 6), aI y kvc3 20 (z 7), aI y kvc4 20 (z 8), aI y kvc5 20 o, kX10 kud kvd (z 9), aI y kvd 32 (z 10), kX0 kue kve (z 11), aI y kve 3 (z 12)] ++ kW y ad (uK zk j9 z) ok 2) := hD
  refine lv_aload_n hx hb dX6_keep_17 rfl (lv_at hl 0 rfl) ?_
  refine va_get (D := G) (ci := 4) (v := .ref b) (C := RX6) (T := TX6) (N := 2) hx hb hts i_X6 hown hK hP 0 rfl rfl 1 (by decide) (hts (.fieldLink RX6 17 "RelayTuner$Slots" "filled" "[Z") (by decide +kernel)) (fun _ h9 => h9) rfl dX6_keep_18 ?_
  refine lv_iload_n hx hb dX6_keep_21 rfl (lv_at hl 1 rfl) ?_
  refine lv_iconst (v := 1) hx hb dX6_keep_22 (by decide) ?_
  refine as_z (D := G) (n := 2) (f := fl) hx hb hK hP hD hS 2 2 rfl rfl j9 ha hj (by first | decide | omega) dX6_keep_23 (fun H locs hP hD hS => ?_)
  have hP : va_P G vwCl ([kX6 h a b x, aQ y a 2 (fun i => some (ad i 0)), aZ y b 2 (upd fl j9 (vp_nar .boolean 1)), kX7 kh kua kub kuc kud kue (z 0), kX3 kua kva (z 1), aI y kva 10 (z 2), kX1 kub (z 3), kX8 kuc kvc1 kvc2 kvc3 kvc4 kvc5 (z 4), aI y kvc1 20 (z 5), aI y kvc2 20 (z 6), aI y kvc3 20 (z 7), aI y kvc4 20 (z 8), aI y kvc5 20 o, kX10 kud kvd (z 9), aI y kvd 32 (z 10), kX0 kue kve (z 11), aI y kve 3 (z 12)] ++ kW y ad (uK zk j9 z) ok 2) H := hP
  have hD : va_D A ([kX6 h a b x, aQ y a 2 (fun i => some (ad i 0)), aZ y b 2 (upd fl j9 (vp_nar .boolean 1)), kX7 kh kua kub kuc kud kue (z 0), kX3 kua kva (z 1), aI y kva 10 (z 2), kX1 kub (z 3), kX8 kuc kvc1 kvc2 kvc3 kvc4 kvc5 (z 4), aI y kvc1 20 (z 5), aI y kvc2 20 (z 6), aI y kvc3 20 (z 7), aI y kvc4 20 (z 8), aI y kvc5 20 o, kX10 kud kvd (z 9), aI y kvd 32 (z 10), kX0 kue kve (z 11), aI y kve 3 (z 12)] ++ kW y ad (uK zk j9 z) ok 2) := hD
  exact W.vret hx hb hr (end_Hv () hP hD hS rfl) hS.2.2 dX6_keep_24

abbrev rmX6_giveTo : Room := ({ frames := 3, cells := 0, slots := 0, locals := 102 } : Room)
set_option maxHeartbeats 400000 in
set_option maxRecDepth 100000 in
theorem c_X6_giveTo (l : Launch) (G : va_G) (y : Nat → ClassId) (h : Nat) (a1 : Int32) (kh : Nat) (a : Nat) (b : Nat) (x : Nat → Int32) (fl : Nat → Int32) (kua : Nat) (kub : Nat) (kuc : Nat) (kud : Nat) (kue : Nat) (z : Nat → Nat → Int32) (kva : Nat) (kvc1 : Nat) (kvc2 : Nat) (kvc3 : Nat) (kvc4 : Nat) (kvc5 : Nat) (o : Nat → Int32) (kvd : Nat) (kve : Nat) (ad : Nat → Nat → Nat) (zk : Nat → Nat → Nat → Int32) (ok : Nat → Nat → Int32) (j9 : Nat) (sz : Nat) (ha : a1 = nI j9) (hj : j9 < 2) (hf : ¬ (s_X6_isFilled_r a1 fl) = 0) (hrzk : (zk j9) 3 7 = 0 ∨ (zk j9) 3 7 = 1) (hezk : (zk j9) 3 10 = 0 ∨ (zk j9) 3 10 = 1) (hgzk : (zk j9) 4 6 = 0 ∨ (zk j9) 4 6 = 1) : Met l yX6_giveTo wsX6_giveTo rmX6_giveTo (PH G y [.ref h, .int a1, .ref kh] ([kX6 h a b x, aQ y a 2 (fun i => some (ad i 0)), aZ y b 2 fl, kX7 kh kua kub kuc kud kue (z 0), kX3 kua kva (z 1), aI y kva 10 (z 2), kX1 kub (z 3), kX8 kuc kvc1 kvc2 kvc3 kvc4 kvc5 (z 4), aI y kvc1 20 (z 5), aI y kvc2 20 (z 6), aI y kvc3 20 (z 7), aI y kvc4 20 (z 8), aI y kvc5 20 o, kX10 kud kvd (z 9), aI y kvd 32 (z 10), kX0 kue kve (z 11), aI y kve 3 (z 12)] ++ kW y ad zk ok 2) sz) (QHv G (fun _ : Unit => ([kX6 h a b x, aQ y a 2 (fun i => some (ad i 0)), aZ y b 2 fl, kX7 kh kua kub kuc kud kue (zk j9 0), kX3 kua kva (zk j9 1), aI y kva 10 (zk j9 2), kX1 kub (zk j9 3), kX8 kuc kvc1 kvc2 kvc3 kvc4 kvc5 (zk j9 4), aI y kvc1 20 (zk j9 5), aI y kvc2 20 (zk j9 6), aI y kvc3 20 (zk j9 7), aI y kvc4 20 (zk j9 8), aI y kvc5 20 o, kX10 kud kvd (zk j9 9), aI y kvd 32 (zk j9 10), kX0 kue kve (zk j9 11), aI y kve 3 (zk j9 12)] ++ kW y ad zk ok 2)) (va_A ([kX6 h a b x, aQ y a 2 (fun i => some (ad i 0)), aZ y b 2 fl, kX7 kh kua kub kuc kud kue (z 0), kX3 kua kva (z 1), aI y kva 10 (z 2), kX1 kub (z 3), kX8 kuc kvc1 kvc2 kvc3 kvc4 kvc5 (z 4), aI y kvc1 20 (z 5), aI y kvc2 20 (z 6), aI y kvc3 20 (z 7), aI y kvc4 20 (z 8), aI y kvc5 20 o, kX10 kud kvd (z 9), aI y kvd 32 (z 10), kX0 kue kve (z 11), aI y kve 3 (z 12)] ++ kW y ad zk ok 2) sz)) 0 0 (va_A ([kX6 h a b x, aQ y a 2 (fun i => some (ad i 0)), aZ y b 2 fl, kX7 kh kua kub kuc kud kue (z 0), kX3 kua kva (z 1), aI y kva 10 (z 2), kX1 kub (z 3), kX8 kuc kvc1 kvc2 kvc3 kvc4 kvc5 (z 4), aI y kvc1 20 (z 5), aI y kvc2 20 (z 6), aI y kvc3 20 (z 7), aI y kvc4 20 (z 8), aI y kvc5 20 o, kX10 kud kvd (z 9), aI y kvd 32 (z 10), kX0 kue kve (z 11), aI y kve 3 (z 12)] ++ kW y ad zk ok 2) sz) := by
  refine Met.ofW (cc := cX6_giveTo) (maxL := 3) (ret := none) (by decide) rfl ?_
  intro p e s m args below meth c s₁ B hml hv
  obtain ⟨rfl, hsz, hP, ⟨hK, hN⟩, hD0⟩ := hv
  have hx := B.exec
  have hb := B.bytes
  have hr := B.returns
  have hts := atoms_spec (ws := wsX6_giveTo) B.pre
  have hown : s.vm.findClass RX6 = some m.cls := findClass_of_methodNamed B.named
  have hlocks := B.notSynchronized
  have i_X6 : ∀ w ∈ u_ws RX6 TX6 2, w ∈ wsX6_giveTo := by decide +kernel
  subst hsz
  have hD := hD0.self (sz := s.heap.size)
  generalize hAe : va_A ([kX6 h a b x, aQ y a 2 (fun i => some (ad i 0)), aZ y b 2 fl, kX7 kh kua kub kuc kud kue (z 0), kX3 kua kva (z 1), aI y kva 10 (z 2), kX1 kub (z 3), kX8 kuc kvc1 kvc2 kvc3 kvc4 kvc5 (z 4), aI y kvc1 20 (z 5), aI y kvc2 20 (z 6), aI y kvc3 20 (z 7), aI y kvc4 20 (z 8), aI y kvc5 20 o, kX10 kud kvd (z 9), aI y kvd 32 (z 10), kX0 kue kve (z 11), aI y kve 3 (z 12)] ++ kW y ad zk ok 2) s.heap.size = A at hD ⊢
  have hA : ∀ q : Nat, s.heap.size ≤ q → A q := fun q h => by rw [← hAe]; exact Or.inr h
  have hS : va_S A s.heap s.heap [] := va_S.rf
  have hP : va_P G vwCl ([kX6 h a b x, aQ y a 2 (fun i => some (ad i 0)), aZ y b 2 fl, kX7 kh kua kub kuc kud kue (z 0), kX3 kua kva (z 1), aI y kva 10 (z 2), kX1 kub (z 3), kX8 kuc kvc1 kvc2 kvc3 kvc4 kvc5 (z 4), aI y kvc1 20 (z 5), aI y kvc2 20 (z 6), aI y kvc3 20 (z 7), aI y kvc4 20 (z 8), aI y kvc5 20 o, kX10 kud kvd (z 9), aI y kvd 32 (z 10), kX0 kue kve (z 11), aI y kve 3 (z 12)] ++ kW y ad zk ok 2) s.heap := hP
  have hl := lv_entry ([.ref h, .int a1, .ref kh]) (n := 3) (Nat.le_of_ble_eq_true rfl)
  rw [lg_entry_eq]
  generalize (lg_sl ([.ref h, .int a1, .ref kh]) ++ List.replicate (3 - (lg_sl ([.ref h, .int a1, .ref kh])).length) Slot.unset).toArray = ls at hl ⊢
  have hl : lv_has ls 3 [(0, .ref h), (1, .int a1), (2, .ref kh)] := hl
  refine lv_aload_n hx hb dX6_giveTo_0 rfl (lv_at hl 0 rfl) ?_
  refine lv_iload_n hx hb dX6_giveTo_1 rfl (lv_at hl 1 rfl) ?_
  refine cl_Ri (va_runV (As := [.int a1]) (rest := []) ⟨hx, hb, hml, hown, hts⟩ (c_X6_isFilled l G y h a1 a b x fl) (cwV 1 hts gX6_giveTo_X6_isFilled rfl rfl rfl (by decide +kernel) ⟨Nat.le_of_ble_eq_true rfl, Nat.le_of_ble_eq_true rfl⟩) (PR_V (hP.sub (ws' := [kX6 h a b x, aZ y b 2 fl]) [0, 2] rfl) hK hN (ci := 4) (q0 := 0) rfl rfl) rfl rfl hl.1 rfl (lv_room (Nat.le_of_ble_eq_true rfl)) dX6_giveTo_2 ⟨Nat.le_of_ble_eq_true rfl, Nat.le_of_ble_eq_true rfl⟩) ?_
  refine lv_if_eq (tgt := 18) hx hb dX6_giveTo_5 (by decide) (fun c_1 => ?_) (fun c_1 => ?_)
  · exact (by first | exact absurd c_1 hf | exact absurd hf c_1)
  refine lv_aload_n hx hb dX6_giveTo_8 rfl (lv_at hl 2 rfl) ?_
  refine lv_aload_n hx hb dX6_giveTo_9 rfl (lv_at hl 0 rfl) ?_
  refine va_get (D := G) (ci := 4) (v := .ref a) (C := RX6) (T := TX6) (N := 2) hx hb hts i_X6 hown hK hP 0 rfl rfl 0 (by decide) (hts (.fieldLink RX6 11 "RelayTuner$Slots" "saved" "[LRelayTuner$State;") (by decide +kernel)) (fun _ h9 => h9) rfl dX6_giveTo_10 ?_
  refine lv_iload_n hx hb dX6_giveTo_13 rfl (lv_at hl 1 rfl) ?_
  refine al_q (D := G) (n := 2) (f := (fun i => some (ad i 0))) (v := (ad j9 0)) hx hb hK hP 1 3 rfl rfl j9 ha hj (by first | decide | omega) rfl dX6_giveTo_14 ?_
  have hP := P_perm (kW_pick (k := j9) hj) hP
  have hD := D_perm (kW_pick (k := j9) hj) hD
  have hP : va_P G vwCl ([kX6 h a b x, aQ y a 2 (fun i => some (ad i 0)), aZ y b 2 fl, kX7 kh kua kub kuc kud kue (z 0), kX3 kua kva (z 1), aI y kva 10 (z 2), kX1 kub (z 3), kX8 kuc kvc1 kvc2 kvc3 kvc4 kvc5 (z 4), aI y kvc1 20 (z 5), aI y kvc2 20 (z 6), aI y kvc3 20 (z 7), aI y kvc4 20 (z 8), aI y kvc5 20 o, kX10 kud kvd (z 9), aI y kvd 32 (z 10), kX0 kue kve (z 11), aI y kve 3 (z 12), kX7 (ad j9 0) (ad j9 1) (ad j9 3) (ad j9 4) (ad j9 10) (ad j9 12) ((zk j9) 0), kX3 (ad j9 1) (ad j9 2) ((zk j9) 1), aI y (ad j9 2) 10 ((zk j9) 2), kX1 (ad j9 3) ((zk j9) 3), kX8 (ad j9 4) (ad j9 5) (ad j9 6) (ad j9 7) (ad j9 8) (ad j9 9) ((zk j9) 4), aI y (ad j9 5) 20 ((zk j9) 5), aI y (ad j9 6) 20 ((zk j9) 6), aI y (ad j9 7) 20 ((zk j9) 7), aI y (ad j9 8) 20 ((zk j9) 8), aI y (ad j9 9) 20 (ok j9), kX10 (ad j9 10) (ad j9 11) ((zk j9) 9), aI y (ad j9 11) 32 ((zk j9) 10), kX0 (ad j9 12) (ad j9 13) ((zk j9) 11), aI y (ad j9 13) 3 ((zk j9) 12)] ++ kX y ad zk ok 2 j9) s.heap := hP
  have hD : va_D A ([kX6 h a b x, aQ y a 2 (fun i => some (ad i 0)), aZ y b 2 fl, kX7 kh kua kub kuc kud kue (z 0), kX3 kua kva (z 1), aI y kva 10 (z 2), kX1 kub (z 3), kX8 kuc kvc1 kvc2 kvc3 kvc4 kvc5 (z 4), aI y kvc1 20 (z 5), aI y kvc2 20 (z 6), aI y kvc3 20 (z 7), aI y kvc4 20 (z 8), aI y kvc5 20 o, kX10 kud kvd (z 9), aI y kvd 32 (z 10), kX0 kue kve (z 11), aI y kve 3 (z 12), kX7 (ad j9 0) (ad j9 1) (ad j9 3) (ad j9 4) (ad j9 10) (ad j9 12) ((zk j9) 0), kX3 (ad j9 1) (ad j9 2) ((zk j9) 1), aI y (ad j9 2) 10 ((zk j9) 2), kX1 (ad j9 3) ((zk j9) 3), kX8 (ad j9 4) (ad j9 5) (ad j9 6) (ad j9 7) (ad j9 8) (ad j9 9) ((zk j9) 4), aI y (ad j9 5) 20 ((zk j9) 5), aI y (ad j9 6) 20 ((zk j9) 6), aI y (ad j9 7) 20 ((zk j9) 7), aI y (ad j9 8) 20 ((zk j9) 8), aI y (ad j9 9) 20 (ok j9), kX10 (ad j9 10) (ad j9 11) ((zk j9) 9), aI y (ad j9 11) 32 ((zk j9) 10), kX0 (ad j9 12) (ad j9 13) ((zk j9) 11), aI y (ad j9 13) 3 ((zk j9) 12)] ++ kX y ad zk ok 2 j9) := hD
  refine cl_HvT (wr := [kX6 h a b x, aQ y a 2 (fun i => some (ad i 0)), aZ y b 2 fl]) (fun _ : Unit => [kX6 h a b x, aQ y a 2 (fun i => some (ad i 0)), aZ y b 2 fl, kX7 kh kua kub kuc kud kue ((zk j9) 0), kX3 kua kva ((zk j9) 1), aI y kva 10 ((zk j9) 2), kX1 kub ((zk j9) 3), kX8 kuc kvc1 kvc2 kvc3 kvc4 kvc5 ((zk j9) 4), aI y kvc1 20 ((zk j9) 5), aI y kvc2 20 ((zk j9) 6), aI y kvc3 20 ((zk j9) 7), aI y kvc4 20 ((zk j9) 8), aI y kvc5 20 o, kX10 kud kvd ((zk j9) 9), aI y kvd 32 ((zk j9) 10), kX0 kue kve ((zk j9) 11), aI y kve 3 ((zk j9) 12), kX7 (ad j9 0) (ad j9 1) (ad j9 3) (ad j9 4) (ad j9 10) (ad j9 12) ((zk j9) 0), kX3 (ad j9 1) (ad j9 2) ((zk j9) 1), aI y (ad j9 2) 10 ((zk j9) 2), kX1 (ad j9 3) ((zk j9) 3), kX8 (ad j9 4) (ad j9 5) (ad j9 6) (ad j9 7) (ad j9 8) (ad j9 9) ((zk j9) 4), aI y (ad j9 5) 20 ((zk j9) 5), aI y (ad j9 6) 20 ((zk j9) 6), aI y (ad j9 7) 20 ((zk j9) 7), aI y (ad j9 8) 20 ((zk j9) 8), aI y (ad j9 9) 20 (ok j9), kX10 (ad j9 10) (ad j9 11) ((zk j9) 9), aI y (ad j9 11) 32 ((zk j9) 10), kX0 (ad j9 12) (ad j9 13) ((zk j9) 11), aI y (ad j9 13) 3 ((zk j9) 12)]) [3, 4, 5, 6, 7, 8, 9, 10, 11, 12, 13, 14, 15, 16, 17, 18, 19, 20, 21, 22, 23, 24, 25, 26, 27, 28, 29, 30] [0, 1, 2] [0, 1, 2, 3, 4, 5, 6, 7, 8, 9, 10, 11, 12, 13, 14, 15, 16, 17, 18, 19, 20, 21, 22, 23, 24, 25, 26, 27, 28, 29, 30] (va_runV (As := [.ref (ad j9 0)]) (rest := []) ⟨hx, hb, hml, hown, hts⟩ (c_X7_become l G y kh (ad j9 0) kua kub kuc kud kue z kva kvc1 kvc2 kvc3 kvc4 kvc5 o kvd kve (ad j9 1) (ad j9 3) (ad j9 4) (ad j9 10) (ad j9 12) (zk j9) (ad j9 2) (ad j9 5) (ad j9 6) (ad j9 7) (ad j9 8) (ad j9 9) (ok j9) (ad j9 11) (ad j9 13) s.heap.size hrzk hezk hgzk) (cwV 1 hts gX6_giveTo_X7_become rfl rfl rfl (by decide +kernel) ⟨Nat.le_of_ble_eq_true rfl, Nat.le_of_ble_eq_true rfl⟩) (PH_V (hP.sub (ws' := [kX7 kh kua kub kuc kud kue (z 0), kX3 kua kva (z 1), aI y kva 10 (z 2), kX1 kub (z 3), kX8 kuc kvc1 kvc2 kvc3 kvc4 kvc5 (z 4), aI y kvc1 20 (z 5), aI y kvc2 20 (z 6), aI y kvc3 20 (z 7), aI y kvc4 20 (z 8), aI y kvc5 20 o, kX10 kud kvd (z 9), aI y kvd 32 (z 10), kX0 kue kve (z 11), aI y kve 3 (z 12), kX7 (ad j9 0) (ad j9 1) (ad j9 3) (ad j9 4) (ad j9 10) (ad j9 12) ((zk j9) 0), kX3 (ad j9 1) (ad j9 2) ((zk j9) 1), aI y (ad j9 2) 10 ((zk j9) 2), kX1 (ad j9 3) ((zk j9) 3), kX8 (ad j9 4) (ad j9 5) (ad j9 6) (ad j9 7) (ad j9 8) (ad j9 9) ((zk j9) 4), aI y (ad j9 5) 20 ((zk j9) 5), aI y (ad j9 6) 20 ((zk j9) 6), aI y (ad j9 7) 20 ((zk j9) 7), aI y (ad j9 8) 20 ((zk j9) 8), aI y (ad j9 9) 20 (ok j9), kX10 (ad j9 10) (ad j9 11) ((zk j9) 9), aI y (ad j9 11) 32 ((zk j9) 10), kX0 (ad j9 12) (ad j9 13) ((zk j9) 11), aI y (ad j9 13) 3 ((zk j9) 12)]) [3, 4, 5, 6, 7, 8, 9, 10, 11, 12, 13, 14, 15, 16, 17, 18, 19, 20, 21, 22, 23, 24, 25, 26, 27, 28, 29, 30] rfl) hK hN (hD.sub (ws' := [kX7 kh kua kub kuc kud kue (z 0), kX3 kua kva (z 1), aI y kva 10 (z 2), kX1 kub (z 3), kX8 kuc kvc1 kvc2 kvc3 kvc4 kvc5 (z 4), aI y kvc1 20 (z 5), aI y kvc2 20 (z 6), aI y kvc3 20 (z 7), aI y kvc4 20 (z 8), aI y kvc5 20 o, kX10 kud kvd (z 9), aI y kvd 32 (z 10), kX0 kue kve (z 11), aI y kve 3 (z 12), kX7 (ad j9 0) (ad j9 1) (ad j9 3) (ad j9 4) (ad j9 10) (ad j9 12) ((zk j9) 0), kX3 (ad j9 1) (ad j9 2) ((zk j9) 1), aI y (ad j9 2) 10 ((zk j9) 2), kX1 (ad j9 3) ((zk j9) 3), kX8 (ad j9 4) (ad j9 5) (ad j9 6) (ad j9 7) (ad j9 8) (ad j9 9) ((zk j9) 4), aI y (ad j9 5) 20 ((zk j9) 5), aI y (ad j9 6) 20 ((zk j9) 6), aI y (ad j9 7) 20 ((zk j9) 7), aI y (ad j9 8) 20 ((zk j9) 8), aI y (ad j9 9) 20 (ok j9), kX10 (ad j9 10) (ad j9 11) ((zk j9) 9), aI y (ad j9 11) 32 ((zk j9) 10), kX0 (ad j9 12) (ad j9 13) ((zk j9) 11), aI y (ad j9 13) 3 ((zk j9) 12)]) [3, 4, 5, 6, 7, 8, 9, 10, 11, 12, 13, 14, 15, 16, 17, 18, 19, 20, 21, 22, 23, 24, 25, 26, 27, 28, 29, 30] (by decide) rfl) (ci := 5) (q0 := 0) rfl rfl) rfl rfl hl.1 rfl (lv_room (Nat.le_of_ble_eq_true rfl)) dX6_giveTo_15 ⟨Nat.le_of_ble_eq_true rfl, Nat.le_of_ble_eq_true rfl⟩) hP hD hS hA rfl rfl rfl (fun _ => rfl) (fun _ H locs hP hD hS => ?_)
  have hP : va_P G vwCl ([kX6 h a b x, aQ y a 2 (fun i => some (ad i 0)), aZ y b 2 fl, kX7 kh kua kub kuc kud kue ((zk j9) 0), kX3 kua kva ((zk j9) 1), aI y kva 10 ((zk j9) 2), kX1 kub ((zk j9) 3), kX8 kuc kvc1 kvc2 kvc3 kvc4 kvc5 ((zk j9) 4), aI y kvc1 20 ((zk j9) 5), aI y kvc2 20 ((zk j9) 6), aI y kvc3 20 ((zk j9) 7), aI y kvc4 20 ((zk j9) 8), aI y kvc5 20 o, kX10 kud kvd ((zk j9) 9), aI y kvd 32 ((zk j9) 10), kX0 kue kve ((zk j9) 11), aI y kve 3 ((zk j9) 12), kX7 (ad j9 0) (ad j9 1) (ad j9 3) (ad j9 4) (ad j9 10) (ad j9 12) ((zk j9) 0), kX3 (ad j9 1) (ad j9 2) ((zk j9) 1), aI y (ad j9 2) 10 ((zk j9) 2), kX1 (ad j9 3) ((zk j9) 3), kX8 (ad j9 4) (ad j9 5) (ad j9 6) (ad j9 7) (ad j9 8) (ad j9 9) ((zk j9) 4), aI y (ad j9 5) 20 ((zk j9) 5), aI y (ad j9 6) 20 ((zk j9) 6), aI y (ad j9 7) 20 ((zk j9) 7), aI y (ad j9 8) 20 ((zk j9) 8), aI y (ad j9 9) 20 (ok j9), kX10 (ad j9 10) (ad j9 11) ((zk j9) 9), aI y (ad j9 11) 32 ((zk j9) 10), kX0 (ad j9 12) (ad j9 13) ((zk j9) 11), aI y (ad j9 13) 3 ((zk j9) 12)] ++ kX y ad zk ok 2 j9) H := hP
  have hD : va_D A ([kX6 h a b x, aQ y a 2 (fun i => some (ad i 0)), aZ y b 2 fl, kX7 kh kua kub kuc kud kue ((zk j9) 0), kX3 kua kva ((zk j9) 1), aI y kva 10 ((zk j9) 2), kX1 kub ((zk j9) 3), kX8 kuc kvc1 kvc2 kvc3 kvc4 kvc5 ((zk j9) 4), aI y kvc1 20 ((zk j9) 5), aI y kvc2 20 ((zk j9) 6), aI y kvc3 20 ((zk j9) 7), aI y kvc4 20 ((zk j9) 8), aI y kvc5 20 o, kX10 kud kvd ((zk j9) 9), aI y kvd 32 ((zk j9) 10), kX0 kue kve ((zk j9) 11), aI y kve 3 ((zk j9) 12), kX7 (ad j9 0) (ad j9 1) (ad j9 3) (ad j9 4) (ad j9 10) (ad j9 12) ((zk j9) 0), kX3 (ad j9 1) (ad j9 2) ((zk j9) 1), aI y (ad j9 2) 10 ((zk j9) 2), kX1 (ad j9 3) ((zk j9) 3), kX8 (ad j9 4) (ad j9 5) (ad j9 6) (ad j9 7) (ad j9 8) (ad j9 9) ((zk j9) 4), aI y (ad j9 5) 20 ((zk j9) 5), aI y (ad j9 6) 20 ((zk j9) 6), aI y (ad j9 7) 20 ((zk j9) 7), aI y (ad j9 8) 20 ((zk j9) 8), aI y (ad j9 9) 20 (ok j9), kX10 (ad j9 10) (ad j9 11) ((zk j9) 9), aI y (ad j9 11) 32 ((zk j9) 10), kX0 (ad j9 12) (ad j9 13) ((zk j9) 11), aI y (ad j9 13) 3 ((zk j9) 12)] ++ kX y ad zk ok 2 j9) := hD
  have hP : va_P G vwCl ([kX6 h a b x, aQ y a 2 (fun i => some (ad i 0)), aZ y b 2 fl, kX7 kh kua kub kuc kud kue ((zk j9) 0), kX3 kua kva ((zk j9) 1), aI y kva 10 ((zk j9) 2), kX1 kub ((zk j9) 3), kX8 kuc kvc1 kvc2 kvc3 kvc4 kvc5 ((zk j9) 4), aI y kvc1 20 ((zk j9) 5), aI y kvc2 20 ((zk j9) 6), aI y kvc3 20 ((zk j9) 7), aI y kvc4 20 ((zk j9) 8), aI y kvc5 20 o, kX10 kud kvd ((zk j9) 9), aI y kvd 32 ((zk j9) 10), kX0 kue kve ((zk j9) 11), aI y kve 3 ((zk j9) 12)] ++ stB y (ad j9) (zk j9) (ok j9) ++ kX y ad zk ok 2 j9) H := hP
  have hD : va_D A ([kX6 h a b x, aQ y a 2 (fun i => some (ad i 0)), aZ y b 2 fl, kX7 kh kua kub kuc kud kue ((zk j9) 0), kX3 kua kva ((zk j9) 1), aI y kva 10 ((zk j9) 2), kX1 kub ((zk j9) 3), kX8 kuc kvc1 kvc2 kvc3 kvc4 kvc5 ((zk j9) 4), aI y kvc1 20 ((zk j9) 5), aI y kvc2 20 ((zk j9) 6), aI y kvc3 20 ((zk j9) 7), aI y kvc4 20 ((zk j9) 8), aI y kvc5 20 o, kX10 kud kvd ((zk j9) 9), aI y kvd 32 ((zk j9) 10), kX0 kue kve ((zk j9) 11), aI y kve 3 ((zk j9) 12)] ++ stB y (ad j9) (zk j9) (ok j9) ++ kX y ad zk ok 2 j9) := hD
  have hP := P_perm (kW_pick (k := j9) hj).symm hP
  have hD := D_perm (kW_pick (k := j9) hj).symm hD
  have hP : va_P G vwCl ([kX6 h a b x, aQ y a 2 (fun i => some (ad i 0)), aZ y b 2 fl, kX7 kh kua kub kuc kud kue ((zk j9) 0), kX3 kua kva ((zk j9) 1), aI y kva 10 ((zk j9) 2), kX1 kub ((zk j9) 3), kX8 kuc kvc1 kvc2 kvc3 kvc4 kvc5 ((zk j9) 4), aI y kvc1 20 ((zk j9) 5), aI y kvc2 20 ((zk j9) 6), aI y kvc3 20 ((zk j9) 7), aI y kvc4 20 ((zk j9) 8), aI y kvc5 20 o, kX10 kud kvd ((zk j9) 9), aI y kvd 32 ((zk j9) 10), kX0 kue kve ((zk j9) 11), aI y kve 3 ((zk j9) 12)] ++ kW y ad zk ok 2) H := hP
  have hD : va_D A ([kX6 h a b x, aQ y a 2 (fun i => some (ad i 0)), aZ y b 2 fl, kX7 kh kua kub kuc kud kue ((zk j9) 0), kX3 kua kva ((zk j9) 1), aI y kva 10 ((zk j9) 2), kX1 kub ((zk j9) 3), kX8 kuc kvc1 kvc2 kvc3 kvc4 kvc5 ((zk j9) 4), aI y kvc1 20 ((zk j9) 5), aI y kvc2 20 ((zk j9) 6), aI y kvc3 20 ((zk j9) 7), aI y kvc4 20 ((zk j9) 8), aI y kvc5 20 o, kX10 kud kvd ((zk j9) 9), aI y kvd 32 ((zk j9) 10), kX0 kue kve ((zk j9) 11), aI y kve 3 ((zk j9) 12)] ++ kW y ad zk ok 2) := hD
  exact W.vret hx hb hr (end_Hv () hP hD hS rfl) hS.2.2 dX6_giveTo_18

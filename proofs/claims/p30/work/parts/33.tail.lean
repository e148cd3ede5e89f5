/-! ===== worlds with a tail that is not laid out: the States that are kept ===== -/
section TAIL
variable {G : va_G} {cl : List vw_C} {ws ws' : va_W} {H : Heap} {A : Nat → Prop}
theorem P_iff : va_P G cl ws H ↔ ∀ q ∈ ws, va_at G cl q H := by
  constructor
  · intro h q hq
    obtain ⟨k, hk⟩ := List.getElem?_of_mem hq
    exact h k q hk
  · intro h k q hk
    exact h q (List.mem_of_getElem? hk)
theorem D_iff : va_D A ws ↔ (ws.map (fun q => q.1)).Nodup ∧ ∀ q ∈ ws, A q.1 := by
  constructor
  · intro h
    refine ⟨?_, fun q hq => ?_⟩
    · unfold List.Nodup
      rw [List.pairwise_iff_getElem]
      intro i j hi hj hij he
      rw [List.getElem_map, List.getElem_map] at he
      rw [List.length_map] at hi hj
      have := h.1 i j _ _ (List.getElem?_eq_getElem hi) (List.getElem?_eq_getElem hj) he
      omega
    · obtain ⟨k, hk⟩ := List.getElem?_of_mem hq
      exact h.2 k q hk
  · intro h
    refine ⟨fun i j p q hi hj he => ?_, fun k q hk => h.2 q (List.mem_of_getElem? hk)⟩
    obtain ⟨hi1, hi2⟩ := List.getElem?_eq_some_iff.mp hi
    obtain ⟨hj1, hj2⟩ := List.getElem?_eq_some_iff.mp hj
    have hn := h.1
    unfold List.Nodup at hn
    rw [List.pairwise_iff_getElem] at hn
    rcases Nat.lt_trichotomy i j with q9 | q9 | q9
    · refine absurd ?_ (hn i j (by rw [List.length_map]; exact hi1) (by rw [List.length_map]; exact hj1) q9)
      rw [List.getElem_map, List.getElem_map, hi2, hj2]
      exact he
    · exact q9
    · refine absurd ?_ (hn j i (by rw [List.length_map]; exact hj1) (by rw [List.length_map]; exact hi1) q9)
      rw [List.getElem_map, List.getElem_map, hi2, hj2]
      exact he.symm
theorem P_perm (h : ws.Perm ws') (hP : va_P G cl ws H) : va_P G cl ws' H := P_iff.mpr (fun q hq => P_iff.mp hP q (h.mem_iff.mpr hq))
theorem D_perm (h : ws.Perm ws') (hD : va_D A ws) : va_D A ws' := by
  obtain ⟨h1, h2⟩ := D_iff.mp hD
  exact D_iff.mpr ⟨(h.map _).nodup_iff.mp h1, fun q hq => h2 q (h.mem_iff.mpr hq)⟩
theorem P_sel {E X T : va_W} (is : List Nat) (hs : is.map (fun i => E[i]?) = X.map some) (hP : va_P G cl (E ++ T) H) : va_P G cl (X ++ T) H := by
  refine P_iff.mpr (fun q hq => P_iff.mp hP q ?_)
  rcases List.mem_append.mp hq with h | h
  · have h2 : some q ∈ X.map some := List.mem_map.mpr ⟨q, h, rfl⟩
    rw [← hs] at h2
    obtain ⟨i, _, hi⟩ := List.mem_map.mp h2
    exact List.mem_append.mpr (Or.inl (List.mem_of_getElem? hi))
  · exact List.mem_append.mpr (Or.inr h)
theorem D_sel {E X T : va_W} (is : List Nat) (hn : va_nd is = true) (hs : is.map (fun i => E[i]?) = X.map some) (hD : va_D A (E ++ T)) : va_D A (X ++ T) := by
  have hl : is.length = X.length := by
    have h := congrArg List.length hs
    rw [List.length_map, List.length_map] at h
    exact h
  have key : ∀ (i : Nat) (p : Nat × va_E), i < X.length → X[i]? = some p → ∃ a, is[i]? = some a ∧ E[a]? = some p ∧ a < E.length := by
    intro i p hi hp
    have h1 : (is.map (fun i => E[i]?))[i]? = (X.map some)[i]? := by rw [hs]
    rw [List.getElem?_map, List.getElem?_map, hp] at h1
    rcases hq : is[i]? with _ | a
    · rw [hq] at h1; cases h1
    · rw [hq] at h1
      have h2 : E[a]? = some p := Option.some.inj h1
      exact ⟨a, rfl, h2, (List.getElem?_eq_some_iff.mp h2).1⟩
  refine ⟨fun i j p q hi hj he => ?_, fun k q hk => ?_⟩
  · rcases Nat.lt_or_ge i X.length with u | u
    · rw [List.getElem?_append_left u] at hi
      obtain ⟨a, ha, hae, hal⟩ := key i p u hi
      rcases Nat.lt_or_ge j X.length with v | v
      · rw [List.getElem?_append_left v] at hj
        obtain ⟨b, hb, hbe, hbl⟩ := key j q v hj
        have h3 := hD.1 a b p q (by rw [List.getElem?_append_left hal]; exact hae) (by rw [List.getElem?_append_left hbl]; exact hbe) he
        subst h3
        exact va_nd_inj is hn i j a ha hb
      · rw [List.getElem?_append_right v] at hj
        have h3 := hD.1 a (E.length + (j - X.length)) p q (by rw [List.getElem?_append_left hal]; exact hae) (by rw [List.getElem?_append_right (by omega)]; rw [show E.length + (j - X.length) - E.length = j - X.length by omega]; exact hj) he
        omega
    · rw [List.getElem?_append_right u] at hi
      rcases Nat.lt_or_ge j X.length with v | v
      · rw [List.getElem?_append_left v] at hj
        obtain ⟨b, hb, hbe, hbl⟩ := key j q v hj
        have h3 := hD.1 (E.length + (i - X.length)) b p q (by rw [List.getElem?_append_right (by omega)]; rw [show E.length + (i - X.length) - E.length = i - X.length by omega]; exact hi) (by rw [List.getElem?_append_left hbl]; exact hbe) he
        omega
      · rw [List.getElem?_append_right v] at hj
        have h3 := hD.1 (E.length + (i - X.length)) (E.length + (j - X.length)) p q (by rw [List.getElem?_append_right (by omega)]; rw [show E.length + (i - X.length) - E.length = i - X.length by omega]; exact hi) (by rw [List.getElem?_append_right (by omega)]; rw [show E.length + (j - X.length) - E.length = j - X.length by omega]; exact hj) he
        omega
  · rcases List.mem_append.mp (List.mem_of_getElem? hk) with h | h
    · obtain ⟨i, hi⟩ := List.getElem?_of_mem h
      obtain ⟨a, _, hae, hal⟩ := key i q (List.getElem?_eq_some_iff.mp hi).1 hi
      exact hD.2 a q (by rw [List.getElem?_append_left hal]; exact hae)
    · obtain ⟨i, hi⟩ := List.getElem?_of_mem h
      exact hD.2 (E.length + i) q (by rw [List.getElem?_append_right (by omega)]; rw [show E.length + i - E.length = i by omega]; exact hi)
end TAIL
section CALLT
variable {p : Program} {l : Launch} {e : Env} {R : Room} {s : State} {m : MethodId} {args : Array Value} {below : List Frame} {meth : Method} {c : Code} {H : Heap} {locs : List Loc} {cells slots : Nat} {Q : State → Prop}
variable {pc : Nat} {ls : Array Slot} {rest st0 : List Value} {a : Array Value} {A0 : Nat → Prop} {H0 : Heap} {mc ms : Nat} {G : va_G}
theorem ixC {wr wc : va_W} : ((List.range wc.length).map (fun i => wr.length + i)).map (fun i => (wr ++ wc)[i]?) = wc.map some := by
  apply List.ext_getElem?
  intro i
  rw [List.getElem?_map, List.getElem?_map, List.getElem?_map]
  rcases Nat.lt_or_ge i wc.length with h | h
  · rw [List.getElem?_range h]
    show some ((wr ++ wc)[wr.length + i]?) = _
    rw [List.getElem?_append_right (by omega), show wr.length + i - wr.length = i by omega, List.getElem?_eq_getElem h]
    rfl
  · rw [List.getElem?_eq_none (by rw [List.length_range]; exact h), List.getElem?_eq_none h]
    rfl
theorem ixR {wr wc : va_W} : (List.range wr.length).map (fun i => (wr ++ wc)[i]?) = wr.map some := by
  apply List.ext_getElem?
  intro i
  rw [List.getElem?_map, List.getElem?_map]
  rcases Nat.lt_or_ge i wr.length with h | h
  · rw [List.getElem?_range h]
    show some ((wr ++ wc)[i]?) = _
    rw [List.getElem?_append_left h, List.getElem?_eq_getElem h]
    rfl
  · rw [List.getElem?_eq_none (by rw [List.length_range]; exact h), List.getElem?_eq_none h]
    rfl
theorem ndR : ∀ n : Nat, va_nd (List.range n) = true := by
  intro n
  have h : ∀ l : List Nat, l.Nodup → va_nd l = true := by
    intro l
    induction l with
    | nil => intro _; rfl
    | cons a l ih =>
      intro h
      rw [List.nodup_cons] at h
      simp only [va_nd, Bool.and_eq_true, decide_eq_true_eq]
      exact ⟨h.1, ih h.2⟩
  exact h _ List.nodup_range
theorem disRC {r c : Nat} : ∀ i ∈ List.range r, i ∉ (List.range c).map (fun i => r + i) := by
  intro i hi h
  obtain ⟨j, _, hj⟩ := List.mem_map.mp h
  have := List.mem_range.mp hi
  omega
/-- the join of what was left and what a call made, rest ahead -/
theorem joinW {wc wr w1 : va_W} {H1 : Heap} {locs1 : List Loc} (hP : va_P G vwCl (wr ++ wc) H) (hD : va_D A0 (wr ++ wc)) (hF : ∀ q, va_A wc H.size q → A0 q) (hk : ∀ q : Nat, q < H.size → ¬ va_A wc H.size q → H1[q]? = H[q]?) (hP1 : va_P G vwCl w1 H1) (hD1 : va_D (va_A wc H.size) w1) : va_P G vwCl (wr ++ w1) H1 ∧ va_D A0 (wr ++ w1) :=
  va_join (wr := wr) (w1 := w1) hP hD ((List.range wc.length).map (fun i => wr.length + i)) (List.range wr.length) ixC ixR (ndR _) disRC hk hF hP1 hD1
theorem cl_HiW {S : Type} {r : Int32} {wc wr : va_W} {w1 : S → va_W} (hr : va_Run p l e R s m args below meth c H locs cells slots mc ms (F0 m pc ls st0) rest (QHi G r w1 (va_A wc H.size) a) (va_A wc H.size)) (hP : va_P G vwCl (wr ++ wc) H) (hD : va_D A0 (wr ++ wc)) (hS : va_S A0 H0 H locs) (hA : ∀ q, H0.size ≤ q → A0 q)
    (kk : ∀ (u : S) (H1 : Heap) (locs1 : List Loc), va_P G vwCl (wr ++ w1 u) H1 → va_D A0 (wr ++ w1 u) → va_S A0 H0 H1 locs1 → W p l e R s m args below meth c H1 locs1 (cells + mc) (slots + ms) Q (F0 m (pc + 3) ls (.int r :: rest))) : W p l e R s m args below meth c H locs cells slots Q (F0 m pc ls st0) := by
  have hF := va_free (wc := wc) hD hS hA ((List.range wc.length).map (fun i => wr.length + i)) ixC
  refine va_calli hr hS (fun q _ h => hF q h) hF (fun x u t H1 locs1 ht hvm hx hB hz hk hS1 => ?_)
  obtain ⟨hP1, hD1⟩ := hB
  rw [ht] at hP1
  obtain ⟨hP2, hD2⟩ := joinW (locs1 := locs1) hP hD hF hk hP1 hD1
  have hx : x = r := hx
  rw [hx]
  exact kk u H1 locs1 hP2 hD2 hS1
theorem cl_HvW {S : Type} {wc wr : va_W} {w1 : S → va_W} (hr : va_Run p l e R s m args below meth c H locs cells slots mc ms (F0 m pc ls st0) rest (QHv G w1 (va_A wc H.size) a) (va_A wc H.size)) (hP : va_P G vwCl (wr ++ wc) H) (hD : va_D A0 (wr ++ wc)) (hS : va_S A0 H0 H locs) (hA : ∀ q, H0.size ≤ q → A0 q)
    (kk : ∀ (u : S) (H1 : Heap) (locs1 : List Loc), va_P G vwCl (wr ++ w1 u) H1 → va_D A0 (wr ++ w1 u) → va_S A0 H0 H1 locs1 → W p l e R s m args below meth c H1 locs1 (cells + mc) (slots + ms) Q (F0 m (pc + 3) ls rest)) : W p l e R s m args below meth c H locs cells slots Q (F0 m pc ls st0) := by
  have hF := va_free (wc := wc) hD hS hA ((List.range wc.length).map (fun i => wr.length + i)) ixC
  refine va_callv hr hS (fun q _ h => hF q h) hF (fun u t H1 locs1 ht hvm _ hB hz hk hS1 => ?_)
  obtain ⟨hP1, hD1⟩ := hB
  rw [ht] at hP1
  obtain ⟨hP2, hD2⟩ := joinW (locs1 := locs1) hP hD hF hk hP1 hD1
  exact kk u H1 locs1 hP2 hD2 hS1
/-- the tail T stays behind a call of the part wc of E -/
theorem perm3 {X Y T : va_W} : (X ++ Y ++ T).Perm (X ++ T ++ Y) := by
  rw [List.append_assoc, List.append_assoc]
  exact List.Perm.append_left X List.perm_append_comm
theorem cl_HiT {S : Type} {r : Int32} {wc wr E T : va_W} {w1 : S → va_W} (E' : S → va_W) (is ir ps : List Nat) (hr : va_Run p l e R s m args below meth c H locs cells slots mc ms (F0 m pc ls st0) rest (QHi G r w1 (va_A wc H.size) a) (va_A wc H.size)) (hP : va_P G vwCl (E ++ T) H) (hD : va_D A0 (E ++ T)) (hS : va_S A0 H0 H locs) (hA : ∀ q, H0.size ≤ q → A0 q)
    (h1 : (ir ++ is).map (fun i => E[i]?) = (wr ++ wc).map some) (h3 : va_nd (ir ++ is) = true) (h5 : va_nd ps = true) (h6 : ∀ u : S, ps.map (fun i => (wr ++ w1 u)[i]?) = (E' u).map some)
    (kk : ∀ (u : S) (H1 : Heap) (locs1 : List Loc), va_P G vwCl (E' u ++ T) H1 → va_D A0 (E' u ++ T) → va_S A0 H0 H1 locs1 → W p l e R s m args below meth c H1 locs1 (cells + mc) (slots + ms) Q (F0 m (pc + 3) ls (.int r :: rest))) : W p l e R s m args below meth c H locs cells slots Q (F0 m pc ls st0) := by
  refine cl_HiW (wr := wr ++ T) (wc := wc) hr (P_perm perm3 (P_sel (ir ++ is) h1 hP)) (D_perm perm3 (D_sel (ir ++ is) h3 h1 hD)) hS hA (fun u H1 locs1 k1 k2 k3 => ?_)
  exact kk u H1 locs1 (P_sel ps (h6 u) (P_perm perm3.symm k1)) (D_sel ps h5 (h6 u) (D_perm perm3.symm k2)) k3
theorem cl_HvT {S : Type} {wc wr E T : va_W} {w1 : S → va_W} (E' : S → va_W) (is ir ps : List Nat) (hr : va_Run p l e R s m args below meth c H locs cells slots mc ms (F0 m pc ls st0) rest (QHv G w1 (va_A wc H.size) a) (va_A wc H.size)) (hP : va_P G vwCl (E ++ T) H) (hD : va_D A0 (E ++ T)) (hS : va_S A0 H0 H locs) (hA : ∀ q, H0.size ≤ q → A0 q)
    (h1 : (ir ++ is).map (fun i => E[i]?) = (wr ++ wc).map some) (h3 : va_nd (ir ++ is) = true) (h5 : va_nd ps = true) (h6 : ∀ u : S, ps.map (fun i => (wr ++ w1 u)[i]?) = (E' u).map some)
    (kk : ∀ (u : S) (H1 : Heap) (locs1 : List Loc), va_P G vwCl (E' u ++ T) H1 → va_D A0 (E' u ++ T) → va_S A0 H0 H1 locs1 → W p l e R s m args below meth c H1 locs1 (cells + mc) (slots + ms) Q (F0 m (pc + 3) ls rest)) : W p l e R s m args below meth c H locs cells slots Q (F0 m pc ls st0) := by
  refine cl_HvW (wr := wr ++ T) (wc := wc) hr (P_perm perm3 (P_sel (ir ++ is) h1 hP)) (D_perm perm3 (D_sel (ir ++ is) h3 h1 hD)) hS hA (fun u H1 locs1 k1 k2 k3 => ?_)
  exact kk u H1 locs1 (P_sel ps (h6 u) (P_perm perm3.symm k1)) (D_sel ps h5 (h6 u) (D_perm perm3.symm k2)) k3
/-- the callee's world has the tail -/
theorem cl_HiU {S : Type} {r : Int32} {wc wr E T : va_W} {w1 T' : S → va_W} (E' : S → va_W) (is ir ps : List Nat) (hr : va_Run p l e R s m args below meth c H locs cells slots mc ms (F0 m pc ls st0) rest (QHi G r (fun u => w1 u ++ T' u) (va_A (wc ++ T) H.size) a) (va_A (wc ++ T) H.size)) (hP : va_P G vwCl (E ++ T) H) (hD : va_D A0 (E ++ T)) (hS : va_S A0 H0 H locs) (hA : ∀ q, H0.size ≤ q → A0 q)
    (h1 : (ir ++ is).map (fun i => E[i]?) = (wr ++ wc).map some) (h3 : va_nd (ir ++ is) = true) (h5 : va_nd ps = true) (h6 : ∀ u : S, ps.map (fun i => (wr ++ w1 u)[i]?) = (E' u).map some)
    (kk : ∀ (u : S) (H1 : Heap) (locs1 : List Loc), va_P G vwCl (E' u ++ T' u) H1 → va_D A0 (E' u ++ T' u) → va_S A0 H0 H1 locs1 → W p l e R s m args below meth c H1 locs1 (cells + mc) (slots + ms) Q (F0 m (pc + 3) ls (.int r :: rest))) : W p l e R s m args below meth c H locs cells slots Q (F0 m pc ls st0) := by
  have e9 : wr ++ wc ++ T = wr ++ (wc ++ T) := List.append_assoc ..
  refine cl_HiW (wr := wr) (wc := wc ++ T) hr (e9 ▸ P_sel (ir ++ is) h1 hP) (e9 ▸ D_sel (ir ++ is) h3 h1 hD) hS hA (fun u H1 locs1 k1 k2 k3 => ?_)
  have e8 : wr ++ (w1 u ++ T' u) = wr ++ w1 u ++ T' u := (List.append_assoc ..).symm
  rw [e8] at k1 k2
  exact kk u H1 locs1 (P_sel ps (h6 u) k1) (D_sel ps h5 (h6 u) k2) k3
theorem cl_HvU {S : Type} {wc wr E T : va_W} {w1 T' : S → va_W} (E' : S → va_W) (is ir ps : List Nat) (hr : va_Run p l e R s m args below meth c H locs cells slots mc ms (F0 m pc ls st0) rest (QHv G (fun u => w1 u ++ T' u) (va_A (wc ++ T) H.size) a) (va_A (wc ++ T) H.size)) (hP : va_P G vwCl (E ++ T) H) (hD : va_D A0 (E ++ T)) (hS : va_S A0 H0 H locs) (hA : ∀ q, H0.size ≤ q → A0 q)
    (h1 : (ir ++ is).map (fun i => E[i]?) = (wr ++ wc).map some) (h3 : va_nd (ir ++ is) = true) (h5 : va_nd ps = true) (h6 : ∀ u : S, ps.map (fun i => (wr ++ w1 u)[i]?) = (E' u).map some)
    (kk : ∀ (u : S) (H1 : Heap) (locs1 : List Loc), va_P G vwCl (E' u ++ T' u) H1 → va_D A0 (E' u ++ T' u) → va_S A0 H0 H1 locs1 → W p l e R s m args below meth c H1 locs1 (cells + mc) (slots + ms) Q (F0 m (pc + 3) ls rest)) : W p l e R s m args below meth c H locs cells slots Q (F0 m pc ls st0) := by
  have e9 : wr ++ wc ++ T = wr ++ (wc ++ T) := List.append_assoc ..
  refine cl_HvW (wr := wr) (wc := wc ++ T) hr (e9 ▸ P_sel (ir ++ is) h1 hP) (e9 ▸ D_sel (ir ++ is) h3 h1 hD) hS hA (fun u H1 locs1 k1 k2 k3 => ?_)
  have e8 : wr ++ (w1 u ++ T' u) = wr ++ w1 u ++ T' u := (List.append_assoc ..).symm
  rw [e8] at k1 k2
  exact kk u H1 locs1 (P_sel ps (h6 u) k1) (D_sel ps h5 (h6 u) k2) k3
end CALLT
/-- n blocks, one behind another -/
def kpW (B : Nat → va_W) (n : Nat) : va_W := ((List.range n).map B).flatten
/-- all of the n blocks but number k -/
def kpR (B : Nat → va_W) (n k : Nat) : va_W := ((List.range k).map B).flatten ++ ((List.range (n - (k + 1))).map (fun i => B (k + 1 + i))).flatten
theorem kp_cut {B : Nat → va_W} {n k : Nat} (h : k < n) : kpW B n = ((List.range k).map B).flatten ++ (B k ++ ((List.range (n - (k + 1))).map (fun i => B (k + 1 + i))).flatten) := by
  unfold kpW
  have e : n = k + (1 + (n - (k + 1))) := by omega
  conv => lhs; rw [e, List.range_add, List.map_append, List.flatten_append]
  congr 1
  rw [List.range_add, List.map_append, List.map_append, List.flatten_append, List.map_map, List.map_map]
  congr 1
  · simp
  · rw [List.map_map]
    congr 2
    funext i
    show B (k + (1 + i)) = B (k + 1 + i)
    congr 1
    omega
theorem kp_pick {B : Nat → va_W} {n k : Nat} (h : k < n) : (kpW B n).Perm (B k ++ kpR B n k) := by
  rw [kp_cut h]
  unfold kpR
  exact (List.perm_append_comm_assoc ..)
/-- another block in place of number k -/
def kpU (B : Nat → va_W) (k : Nat) (b : va_W) : Nat → va_W := fun i => if i = k then b else B i
theorem kpR_U {B : Nat → va_W} {n k : Nat} {b : va_W} : kpR (kpU B k b) n k = kpR B n k := by
  unfold kpR
  congr 2
  · refine List.map_congr_left (fun i hi => ?_)
    have := List.mem_range.mp hi
    show (if i = k then b else B i) = B i
    rw [if_neg (by omega)]
  · refine List.map_congr_left (fun i _ => ?_)
    show (if k + 1 + i = k then b else B (k + 1 + i)) = B (k + 1 + i)
    rw [if_neg (by omega)]
theorem kp_put {B : Nat → va_W} {n k : Nat} {b : va_W} (h : k < n) : (kpW (kpU B k b) n).Perm (b ++ kpR B n k) := by
  have h1 := kp_pick (B := kpU B k b) h
  rw [kpR_U] at h1
  have e : kpU B k b k = b := if_pos rfl
  rw [e] at h1
  exact h1
/-- the blocks moved by one, the first to the end -/
def kpT (B : Nat → va_W) (n : Nat) : Nat → va_W := fun i => if i = n then B 0 else B (i + 1)
theorem kp_turn {B : Nat → va_W} {n : Nat} : (kpW (kpT B n) (n + 1)).Perm (kpW B (n + 1)) := by
  unfold kpW
  have eL : ((List.range (n + 1)).map (kpT B n)).flatten = ((List.range n).map (kpT B n)).flatten ++ (List.map (kpT B n) [n]).flatten := by rw [List.range_succ, List.map_append, List.flatten_append]
  have eR : ((List.range (n + 1)).map B).flatten = B 0 ++ ((List.range n).map (B ∘ Nat.succ)).flatten := by rw [List.range_succ_eq_map, List.map_cons, List.flatten_cons, List.map_map]
  have e1 : (List.range n).map (kpT B n) = (List.range n).map (B ∘ Nat.succ) := by
    refine List.map_congr_left (fun i hi => ?_)
    have := List.mem_range.mp hi
    show (if i = n then B 0 else B (i + 1)) = B (i + 1)
    rw [if_neg (by omega)]
  have e2 : (List.map (kpT B n) [n]).flatten = B 0 := by
    show (if n = n then B 0 else B (n + 1)) ++ [] = B 0
    rw [if_pos rfl, List.append_nil]
  rw [eL, eR, e1, e2]
  exact List.perm_append_comm
/-- a State's block: its addresses, its numbers, what its row of order holds -/
def stB (y : Nat → ClassId) (a : Nat → Nat) (z : Nat → Nat → Int32) (o : Nat → Int32) : va_W := [kX7 (a 0) (a 1) (a 3) (a 4) (a 10) (a 12) (z 0), kX3 (a 1) (a 2) (z 1), aI y (a 2) 10 (z 2), kX1 (a 3) (z 3), kX8 (a 4) (a 5) (a 6) (a 7) (a 8) (a 9) (z 4), aI y (a 5) 20 (z 5), aI y (a 6) 20 (z 6), aI y (a 7) 20 (z 7), aI y (a 8) 20 (z 8), aI y (a 9) 20 o, kX10 (a 10) (a 11) (z 9), aI y (a 11) 32 (z 10), kX0 (a 12) (a 13) (z 11), aI y (a 13) 3 (z 12)]

/-! ===== the law's world: class, out, reference; a call takes its part ===== -/
def sel (E : va_W) (is : List Nat) : va_W := is.filterMap (fun i => E[i]?)
theorem sel_app {E : va_W} {i j : List Nat} : sel E (i ++ j) = sel E i ++ sel E j := List.filterMap_append
theorem sel_all {E : va_W} : sel E (List.range E.length) = E := by
  unfold sel
  refine fm_of ?_
  apply List.ext_getElem?
  intro i
  rw [List.getElem?_map, List.getElem?_map]
  rcases Nat.lt_or_ge i E.length with h | h
  · rw [List.getElem?_range h, List.getElem?_eq_getElem h]
    show some (E[i]?) = _
    rw [List.getElem?_eq_getElem h]
    rfl
  · rw [List.getElem?_eq_none (by rw [List.length_range]; exact h), List.getElem?_eq_none h]
    rfl
theorem sel_perm {E X : va_W} {n : Nat} {ir is : List Nat} {wc : va_W} (hp : (ir ++ is).Perm (List.range n)) (hn : E.length = n) (hX : sel E ir = X) (h1 : sel E is = wc) : E.Perm (X ++ wc) := by
  subst hn
  have h := (hp.filterMap (fun i => E[i]?)).symm
  have e1 : (List.range E.length).filterMap (fun i => E[i]?) = E := sel_all
  have e2 : (ir ++ is).filterMap (fun i => E[i]?) = X ++ wc := by
    rw [← hX, ← h1]
    exact sel_app
  rw [e1, e2] at h
  exact h
theorem sel_P {G : va_G} {cl : List vw_C} {E T X : va_W} {H : Heap} (is : List Nat) (h : sel E is = X) (hP : va_P G cl (E ++ T) H) : va_P G cl X H := by
  subst h
  refine P_iff.mpr (fun q hq => P_iff.mp hP q ?_)
  obtain ⟨i, _, hi⟩ := List.mem_filterMap.mp hq
  exact List.mem_append_left _ (List.mem_of_getElem? hi)
section PMS
variable {E X T T1 T2 wc : va_W}
theorem qm0 (h : E.Perm (X ++ wc)) : (E ++ T).Perm ((X ++ T) ++ wc) := (h.append_right T).trans perm3
theorem qm1 (h : E.Perm (X ++ wc)) : (E ++ (T1 ++ T2)).Perm ((X ++ T2) ++ (wc ++ T1)) := by
  refine (h.append_right _).trans ?_
  rw [List.append_assoc, List.append_assoc, ← List.append_assoc wc T1 T2]
  exact List.Perm.append_left X List.perm_append_comm
theorem qm2 (h : E.Perm (X ++ wc)) : (E ++ (T1 ++ T2)).Perm ((X ++ T1) ++ (wc ++ T2)) := by
  refine (h.append_right _).trans ?_
  rw [List.append_assoc, List.append_assoc]
  exact List.Perm.append_left X (List.perm_append_comm_assoc ..)
end PMS
section CALLL
variable {p : Program} {l : Launch} {e : Env} {R : Room} {s : State} {m : MethodId} {args : Array Value} {below : List Frame} {meth : Method} {c : Code} {H : Heap} {locs : List Loc} {cells slots : Nat} {Q : State → Prop}
variable {pc : Nat} {ls : Array Slot} {rest st0 : List Value} {a : Array Value} {A0 : Nat → Prop} {H0 : Heap} {mc ms : Nat} {G : va_G}
/-- a wrapper is called -/
theorem cl_LP {S : Type} {r : Int32} {wc wr Wd : va_W} {w1 : S → va_W} (W' : S → va_W) (h1 : Wd.Perm (wr ++ wc)) (h2 : ∀ u, (W' u).Perm (wr ++ w1 u)) (hr : vx_Run p l e R s m args below meth c H locs cells slots mc ms (F0 m pc ls st0) rest (QHi G r w1 (va_A wc H.size) a) XN (va_A wc H.size)) (hP : va_P G vwCl Wd H) (hD : va_D A0 Wd) (hS : va_S A0 H0 H locs) (hA : ∀ q, H0.size ≤ q → A0 q)
    (kk : ∀ (u : S) (H1 : Heap) (locs1 : List Loc), va_P G vwCl (W' u) H1 → va_D A0 (W' u) → va_S A0 H0 H1 locs1 → W p l e R s m args below meth c H1 locs1 (cells + mc) (slots + ms) Q (F0 m (pc + 3) ls (.int r :: rest))) : W p l e R s m args below meth c H locs cells slots Q (F0 m pc ls st0) := by
  have hP := P_perm h1 hP
  have hD := D_perm h1 hD
  have hF := F_r hD hS hA
  refine vx_calli hr hS (fun q _ h => hF q h) hF (fun q _ h => h.elim) (fun E ce q9 u t H1 locs1 ht hvm hu => hu.elim) (fun x u t H1 locs1 ht hvm hx hB hz hk hS1 => ?_)
  obtain ⟨hP1, hD1⟩ := hB
  rw [ht] at hP1
  obtain ⟨hP2, hD2⟩ := joinW (locs1 := locs1) hP hD hF hk hP1 hD1
  have hx : x = r := hx
  rw [hx]
  exact kk u H1 locs1 (P_perm (h2 u).symm hP2) (D_perm (h2 u).symm hD2) hS1
/-- a method is called -/
theorem cl_MP {S : Type} {r : Int32} {wc wr Wd : va_W} {w1 : S → va_W} (W' : S → va_W) (h1 : Wd.Perm (wr ++ wc)) (h2 : ∀ u, (W' u).Perm (wr ++ w1 u)) (hr : va_Run p l e R s m args below meth c H locs cells slots mc ms (F0 m pc ls st0) rest (QHi G r w1 (va_A wc H.size) a) (va_A wc H.size)) (hP : va_P G vwCl Wd H) (hD : va_D A0 Wd) (hS : va_S A0 H0 H locs) (hA : ∀ q, H0.size ≤ q → A0 q)
    (kk : ∀ (u : S) (H1 : Heap) (locs1 : List Loc), va_P G vwCl (W' u) H1 → va_D A0 (W' u) → va_S A0 H0 H1 locs1 → W p l e R s m args below meth c H1 locs1 (cells + mc) (slots + ms) Q (F0 m (pc + 3) ls (.int r :: rest))) : W p l e R s m args below meth c H locs cells slots Q (F0 m pc ls st0) := by
  have hP := P_perm h1 hP
  have hD := D_perm h1 hD
  have hF := F_r hD hS hA
  refine va_calli hr hS (fun q _ h => hF q h) hF (fun x u t H1 locs1 ht hvm hx hB hz hk hS1 => ?_)
  obtain ⟨hP1, hD1⟩ := hB
  rw [ht] at hP1
  obtain ⟨hP2, hD2⟩ := joinW (locs1 := locs1) hP hD hF hk hP1 hD1
  have hx : x = r := hx
  rw [hx]
  exact kk u H1 locs1 (P_perm (h2 u).symm hP2) (D_perm (h2 u).symm hD2) hS1
end CALLL
/-- the cells that are laid out: h, a the class's object and what it holds, jq the row of longs, mh, w the reference -/
def lwE (y : Nat → ClassId) (h : Nat) (a : Nat → Nat) (jq mh : Nat) (w : Nat → Nat) (x9 ft : Nat → Int32) (z : Nat → Nat → Int32) (o : Nat → Int32) (zc : Nat → Nat → Int32) (oc x2 : Nat → Int32) (ad : Nat → Nat → Nat) (fl : Nat → Int32) (sd : Nat → Nat → Nat) (jo : Nat → Int64) (X fR fr f g fd fk fz o2 : Nat → Int32) : va_W := [kX11 h (a 0) (a 2) (a 16) (a 30) (a 44) (a 46) Z0, kX9 (a 0) (a 1) x9, aC y (a 1) 60 ft, kX7 (a 2) (a 3) (a 5) (a 6) (a 12) (a 14) (zI 0), kX3 (a 3) (a 4) (zI 1), aI y (a 4) 10 (zI 2), kX1 (a 5) (zI 3), kX8 (a 6) (a 7) (a 8) (a 9) (a 10) (a 11) (zI 4), aI y (a 7) 20 (zI 5), aI y (a 8) 20 (zI 6), aI y (a 9) 20 (zI 7), aI y (a 10) 20 (zI 8), aI y (a 11) 20 Z0, kX10 (a 12) (a 13) (zI 9), aI y (a 13) 32 (zI 10), kX0 (a 14) (a 15) (zI 11), aI y (a 15) 3 (zI 12), kX7 (a 16) (a 17) (a 19) (a 20) (a 26) (a 28) (z 0), kX3 (a 17) (a 18) (z 1), aI y (a 18) 10 (z 2), kX1 (a 19) (z 3), kX8 (a 20) (a 21) (a 22) (a 23) (a 24) (a 25) (z 4), aI y (a 21) 20 (z 5), aI y (a 22) 20 (z 6), aI y (a 23) 20 (z 7), aI y (a 24) 20 (z 8), aI y (a 25) 20 o, kX10 (a 26) (a 27) (z 9), aI y (a 27) 32 (z 10), kX0 (a 28) (a 29) (z 11), aI y (a 29) 3 (z 12), kX7 (a 30) (a 31) (a 33) (a 34) (a 40) (a 42) (zc 0), kX3 (a 31) (a 32) (zc 1), aI y (a 32) 10 (zc 2), kX1 (a 33) (zc 3), kX8 (a 34) (a 35) (a 36) (a 37) (a 38) (a 39) (zc 4), aI y (a 35) 20 (zc 5), aI y (a 36) 20 (zc 6), aI y (a 37) 20 (zc 7), aI y (a 38) 20 (zc 8), aI y (a 39) 20 oc, kX10 (a 40) (a 41) (zc 9), aI y (a 41) 32 (zc 10), kX0 (a 42) (a 43) (zc 11), aI y (a 43) 3 (zc 12), kX2 (a 44) (a 45) x2, aQ y (a 45) 14 (fun i => some (ad i 0)), kX6 (a 46) (a 47) (a 48) Z0, aQ y (a 47) 2 (fun i => some (sd i 0)), aZ y (a 48) 2 fl, kX12 mh (w 0) (w 1) (w 2) (w 3) (w 4) (w 5) (w 6) (w 7) X, aI y (w 0) 60 fR, aI y (w 1) 154 fr, aI y (w 2) 154 f, aI y (w 3) 154 g, aI y (w 4) 2156 fd, aI y (w 5) 308 fk, aZ y (w 6) 2 fz, aI y (w 7) 20 o2, aJ y jq 1 jo]
/-- what holds at the loop's head -/
def LI (G : va_G) (y : Nat → ClassId) (h : Nat) (a : Nat → Nat) (jq mh : Nat) (w : Nat → Nat) (A : Nat → Prop) (N : Nat) (H : Heap) : Prop := ∃ (x9 ft : Nat → Int32) (z : Nat → Nat → Int32) (o : Nat → Int32) (zc : Nat → Nat → Int32) (oc x2 : Nat → Int32) (ad : Nat → Nat → Nat) (zk : Nat → Nat → Nat → Int32) (ok : Nat → Nat → Int32) (fl : Nat → Int32) (sd : Nat → Nat → Nat) (zs : Nat → Nat → Nat → Int32) (os : Nat → Nat → Int32) (jo : Nat → Int64) (X fR fr f g fd fk fz o2 : Nat → Int32), va_P G vwCl (lwE y h a jq mh w x9 ft z o zc oc x2 ad fl sd jo X fR fr f g fd fk fz o2 ++ (kW y ad zk ok 14 ++ kW y sd zs os 2)) H ∧ va_D A (lwE y h a jq mh w x9 ft z o zc oc x2 ad fl sd jo X fR fr f g fd fk fz o2 ++ (kW y ad zk ok 14 ++ kW y sd zs os 2)) ∧ WR N x9 ft z x2 zk zs fl X fR f fd fk fz
section WFACTS
variable {x9 ft x2 fl X fR f fd fk fz : Nat → Int32} {z : Nat → Nat → Int32} {zk zs : Nat → Nat → Nat → Int32} {N : Nat}
theorem wf_c (h : WR N x9 ft z x2 zk zs fl X fR f fd fk fz) : vp_in (x2 1) 15 := by
  obtain ⟨c, h5, h6, h7, h8⟩ := h.2.2.1
  rw [h5]
  exact vp_in_nI (by omega) (by omega)
theorem wf_8 (h : WR N x9 ft z x2 zk zs fl X fR f fd fk fz) : vp_in (X 8) 15 := by
  obtain ⟨c, h5, h6, h7, h8⟩ := h.2.2.1
  rw [h6]
  exact vp_in_nI (by omega) (by omega)
theorem wf_t (h : WR N x9 ft z x2 zk zs fl X fR f fd fk fz) : vp_in (X 2) 61 := by
  obtain ⟨L, h1, h2, h3⟩ := h.1
  have h4 : L ≤ 60 := h3.1
  rw [h2]
  exact vp_in_nI (by omega) (by omega)
theorem wf_b (h : WR N x9 ft z x2 zk zs fl X fR f fd fk fz) : BZ z := h.2.1.bz
theorem wf_w (h : WR N x9 ft z x2 zk zs fl X fR f fd fk fz) : vp_in (z 4 0) 21 := (WR.tc h.2.1).1
theorem wf_16 (h : WR N x9 ft z x2 zk zs fl X fR f fd fk fz) : vp_in (f 16) 21 := h.2.1.2.2.2.2.2.2.1.2.1
theorem wf_17 (h : WR N x9 ft z x2 zk zs fl X fR f fd fk fz) : vp_in (f 17) 9 := h.2.1.2.2.2.2.2.2.1.2.2
theorem wf_TK (h : WR N x9 ft z x2 zk zs fl X fR f fd fk fz) : TK f := by
  obtain ⟨⟨-, ⟨b1, -⟩, b2, -⟩, ⟨b11, b16, -⟩, -⟩ := h.2.1.2.2.2.2.2
  refine ⟨fun e => ?_, b2, b11, b16⟩
  rw [e] at b1
  exact absurd b1 (by decide)
theorem wf_SM (h : WR N x9 ft z x2 zk zs fl X fR f fd fk fz) : SM f := ⟨wf_TK h, wf_17 h, h.2.1.2.2.2.2.2.2.2.2.2.2⟩
theorem zI_b : BZ zI := ⟨Or.inl rfl, Or.inl rfl, Or.inl rfl⟩
theorem thr_eq (x : Nat → Int32) : s_X12_thrown_r x = x 0 := rfl
theorem lg_same {x y : Int64} (h : x = y) : lg_cmp x y = 0 := (lg_cmp_eq x y).mpr h
theorem lg_o {g : Nat → Int64} {x y : Int32} (h : x = y) : lg_cmp (vp_updL g 0 x.toInt64 0) y.toInt64 = 0 := lg_same (by rw [← h]; exact if_pos rfl)
end WFACTS

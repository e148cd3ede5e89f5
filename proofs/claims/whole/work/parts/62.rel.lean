section TEXT2
variable {x X fc fR fr g : Nat → Int32} {L p pl k : Nat} {a b lo hi : Int32}
def lbR (a lo hi : Int32) (ft : Nat → Int32) (k : Nat) (x : Nat → Int32) : Int32 := (if (s_X9_isHere_r a x ft) = 0 then (-1) else (cuR lo hi ft k 0 (upd x 2 ((x 2) + 1))))
def lbW (a lo hi : Int32) (ft : Nat → Int32) (k : Nat) (x : Nat → Int32) : Nat → Int32 := (if (s_X9_isHere_r a x ft) = 0 then x else (cuW lo hi ft k 0 (upd x 2 ((x 2) + 1))))
def laR (a lo hi : Int32) (ft : Nat → Int32) (k : Nat) (X : Nat → Int32) : Int32 := (if (s_X12_eat_r a X ft) = 0 then 0 else ruR lo hi ft k 0 (s_X12_eat_w0 a X ft))
def laW (a lo hi : Int32) (ft : Nat → Int32) (k : Nat) (X : Nat → Int32) : Nat → Int32 := (if (s_X12_eat_r a X ft) = 0 then s_X12_eat_w0 a X ft else ruW lo hi ft k 0 (s_X12_eat_w0 a X ft))
def laF (a lo hi : Int32) (ft : Nat → Int32) (k : Nat) (X g : Nat → Int32) (pl : Nat) : Nat → Int32 := (if (s_X12_eat_r a X ft) = 0 then g else ruF lo hi ft g pl k 0 (s_X12_eat_w0 a X ft))
theorem lab1 : s_X9_labelled_1_r a lo hi x fc = lbR a lo hi fc 1 x ∧ s_X9_labelled_1_w0 a lo hi x fc = lbW a lo hi fc 1 x := ⟨rfl, rfl⟩
theorem lab2 : s_X9_labelled_2_r a lo hi x fc = lbR a lo hi fc 2 x ∧ s_X9_labelled_2_w0 a lo hi x fc = lbW a lo hi fc 2 x := ⟨rfl, rfl⟩
theorem lab3 : s_X9_labelled_3_r a lo hi x fc = lbR a lo hi fc 3 x ∧ s_X9_labelled_3_w0 a lo hi x fc = lbW a lo hi fc 3 x := ⟨rfl, rfl⟩
theorem cu_fr {x' X' : Nat → Int32} {p' : Nat} {r s : Int32} {w v g' : Nat → Int32} (h : cuQ lo hi L p' pl x' X' fr r w s v g') (hp : p ≤ p') (e1 : ∀ i, i ≠ 2 → x' i = x i) (e2 : ∀ i, i ≠ 3 → X' i = X i) : cuQ lo hi L p pl x X fr r w s v g' := by
  obtain ⟨⟨q, q1, q2⟩, h2, h3, h4⟩ := h
  exact ⟨⟨q, Nat.le_trans hp q1, q2⟩, fun i hi => (h2 i hi).trans (e1 i hi), fun i hi => (h3 i hi).trans (e2 i hi), h4⟩
theorem lab_rel (hb : tpB L fc fR) (h : tpR L p x X) (hk : 1 ≤ k) (hk3 : k ≤ 3) : cuQ lo hi L p pl x X g (lbR a lo hi fc k x) (lbW a lo hi fc k x) (laR a lo hi fR k X) (laW a lo hi fR k X) (laF a lo hi fR k X g pl) := by
  obtain ⟨e1, e2, e3, e4⟩ := eat_rel (a := a) hb h
  unfold lbR lbW laR laW laF
  rw [e1]
  by_cases c : s_X9_isHere_r a x fc = 0
  · simp only [if_pos c]
    exact ⟨⟨p, Nat.le_refl _, e2 c⟩, fun _ _ => rfl, e4, Or.inl ⟨rfl, rfl⟩⟩
  · simp only [if_neg c]
    exact cu_fr (cu_rel hb k 0 (p + 1) 0 (upd x 2 (x 2 + 1)) (s_X12_eat_w0 a X fR) hk3 rfl (by omega) (e3 c) (fun q => by omega)) (Nat.le_succ _) (fun i hi => upd_ne hi) e4
theorem puR1 : s_X12_put_1_r lo hi X fR = ruR lo hi fR 1 0 X := rfl
theorem puW1 : s_X12_put_1_w0 lo hi X fR = ruW lo hi fR 1 0 X := rfl
theorem puF1 : s_X12_put_1_w2 lo hi X fR g pl = ruF lo hi fR g pl 1 0 X := rfl
theorem puR2 : s_X12_put_2_r lo hi X fR = ruR lo hi fR 2 0 X := rfl
theorem puW2 : s_X12_put_2_w0 lo hi X fR = ruW lo hi fR 2 0 X := rfl
theorem puF2 : s_X12_put_2_w2 lo hi X fR g pl = ruF lo hi fR g pl 2 0 X := rfl
theorem puR3 : s_X12_put_3_r lo hi X fR = ruR lo hi fR 3 0 X := rfl
theorem puW3 : s_X12_put_3_w0 lo hi X fR = ruW lo hi fR 3 0 X := rfl
theorem puF3 : s_X12_put_3_w2 lo hi X fR g pl = ruF lo hi fR g pl 3 0 X := rfl
theorem bd_b {α β : Type} {u : α} {f : α → β} : bd u f = f u := rfl
/-- a stretch of the reference's reading -/
def sgT {α : Type} (a lo hi : Int32) (ft : Nat → Int32) (k : Nat) (X g : Nat → Int32) (pl : Nat) (K0 : (Nat → Int32) → α) (K1 K : (Nat → Int32) → (Nat → Int32) → α) : α := bd (s_X12_eat_w0 a X ft) (fun v2 => bd (s_X12_eat_r a X ft) (fun v3 => if v3 = 0 then K0 v2 else bd (ruW lo hi ft k 0 v2) (fun v7 => bd (ruF lo hi ft g pl k 0 v2) (fun v8 => bd (ruR lo hi ft k 0 v2) (fun v9 => if v9 = 0 then K1 v7 v8 else K v7 v8)))))
theorem seg_ok {α : Type} {K0 : (Nat → Int32) → α} {K1 K : (Nat → Int32) → (Nat → Int32) → α} (c : ¬ laR a lo hi fR k X = 0) : sgT a lo hi fR k X g pl K0 K1 K = K (laW a lo hi fR k X) (laF a lo hi fR k X g pl) := by
  unfold laR at c
  unfold laW laF sgT
  by_cases e : s_X12_eat_r a X fR = 0
  · rw [if_pos e] at c
    exact absurd rfl c
  · rw [if_neg e] at c ⊢
    rw [if_neg e]
    exact (if_neg e).trans (if_neg c)
theorem seg_no {α : Type} {K0 : (Nat → Int32) → α} {K1 K : (Nat → Int32) → (Nat → Int32) → α} (hK : ∀ v w, K1 v w = K0 v) (c : laR a lo hi fR k X = 0) : sgT a lo hi fR k X g pl K0 K1 K = K0 (laW a lo hi fR k X) := by
  unfold laR at c
  unfold laW sgT
  by_cases e : s_X12_eat_r a X fR = 0
  · rw [if_pos e]
    exact if_pos e
  · rw [if_neg e] at c ⊢
    exact (if_neg e).trans ((if_pos c).trans (hK _ _))
set_option maxHeartbeats 100000 in
theorem all_R : s_X12_readAll_r X fR fr = sgT 71 1 20 fR 2 (upd X 3 0) (s_X12_begin_w0 fr) 0 (fun _ => 0) (fun _ _ => 0) (fun v w => sgT 78 1 50 fR 2 v w 1 (fun _ => 0) (fun _ _ => 0) (fun v w => sgT 76 0 9 fR 1 v w 2 (fun _ => 0) (fun _ _ => 0) (fun v w => sgT 72 1 99 fR 2 v w 4 (fun _ => 0) (fun _ _ => 0) (fun v w => (RA fR 16 0 v w).1)))) := by
  unfold s_X12_readAll_r sgT
  simp only [puR1, puW1, puF1, puR2, puW2, puF2]
  conv => lhs; rw [bd_b]
set_option maxHeartbeats 100000 in
theorem all_W : s_X12_readAll_w0 X fR fr = sgT 71 1 20 fR 2 (upd X 3 0) (s_X12_begin_w0 fr) 0 (fun v => v) (fun v _ => v) (fun v w => sgT 78 1 50 fR 2 v w 1 (fun v => v) (fun v _ => v) (fun v w => sgT 76 0 9 fR 1 v w 2 (fun v => v) (fun v _ => v) (fun v w => sgT 72 1 99 fR 2 v w 4 (fun v => v) (fun v _ => v) (fun v w => (RA fR 16 0 v w).2.1)))) := by
  unfold s_X12_readAll_w0 sgT
  simp only [puR1, puW1, puF1, puR2, puW2, puF2]
  conv => lhs; rw [bd_b]
set_option maxHeartbeats 100000 in
theorem all_F : s_X12_readAll_w2 X fR fr = sgT 71 1 20 fR 2 (upd X 3 0) (s_X12_begin_w0 fr) 0 (fun _ => s_X12_begin_w0 fr) (fun _ w => w) (fun v w0 => sgT 78 1 50 fR 2 v w0 1 (fun _ => w0) (fun _ w => w) (fun v w1 => sgT 76 0 9 fR 1 v w1 2 (fun _ => w1) (fun _ w => w) (fun v w2 => sgT 72 1 99 fR 2 v w2 4 (fun _ => w2) (fun _ w => w) (fun v w => (RA fR 16 0 v w).2.2)))) := by
  unfold s_X12_readAll_w2 sgT
  simp only [puR1, puW1, puF1, puR2, puW2, puF2]
  conv => lhs; rw [bd_b]
abbrev XA (X : Nat → Int32) : Nat → Int32 := upd X 3 0
abbrev XB (fR X : Nat → Int32) : Nat → Int32 := laW 71 1 20 fR 2 (XA X)
abbrev XC (fR X : Nat → Int32) : Nat → Int32 := laW 78 1 50 fR 2 (XB fR X)
abbrev XD (fR X : Nat → Int32) : Nat → Int32 := laW 76 0 9 fR 1 (XC fR X)
abbrev XE (fR X : Nat → Int32) : Nat → Int32 := laW 72 1 99 fR 2 (XD fR X)
abbrev gB (fR X fr : Nat → Int32) : Nat → Int32 := laF 71 1 20 fR 2 (XA X) (s_X12_begin_w0 fr) 0
abbrev gC (fR X fr : Nat → Int32) : Nat → Int32 := laF 78 1 50 fR 2 (XB fR X) (gB fR X fr) 1
abbrev gD (fR X fr : Nat → Int32) : Nat → Int32 := laF 76 0 9 fR 1 (XC fR X) (gC fR X fr) 2
abbrev gE (fR X fr : Nat → Int32) : Nat → Int32 := laF 72 1 99 fR 2 (XD fR X) (gD fR X fr) 4
set_option maxHeartbeats 100000 in
theorem all_1 (c1 : laR 71 1 20 fR 2 (XA X) = 0) : s_X12_readAll_r X fR fr = 0 ∧ s_X12_readAll_w0 X fR fr = XB fR X := by
  rw [all_R, all_W]
  exact ⟨seg_no (fun _ _ => rfl) c1, seg_no (fun _ _ => rfl) c1⟩
set_option maxHeartbeats 100000 in
theorem all_2 (c1 : ¬ laR 71 1 20 fR 2 (XA X) = 0) (c2 : laR 78 1 50 fR 2 (XB fR X) = 0) : s_X12_readAll_r X fR fr = 0 ∧ s_X12_readAll_w0 X fR fr = XC fR X := by
  rw [all_R, all_W]
  exact ⟨(seg_ok c1).trans (seg_no (fun _ _ => rfl) c2), (seg_ok c1).trans (seg_no (fun _ _ => rfl) c2)⟩
set_option maxHeartbeats 100000 in
theorem all_3 (c1 : ¬ laR 71 1 20 fR 2 (XA X) = 0) (c2 : ¬ laR 78 1 50 fR 2 (XB fR X) = 0) (c3 : laR 76 0 9 fR 1 (XC fR X) = 0) : s_X12_readAll_r X fR fr = 0 ∧ s_X12_readAll_w0 X fR fr = XD fR X := by
  rw [all_R, all_W]
  exact ⟨(seg_ok c1).trans ((seg_ok c2).trans (seg_no (fun _ _ => rfl) c3)), (seg_ok c1).trans ((seg_ok c2).trans (seg_no (fun _ _ => rfl) c3))⟩
set_option maxHeartbeats 100000 in
theorem all_4 (c1 : ¬ laR 71 1 20 fR 2 (XA X) = 0) (c2 : ¬ laR 78 1 50 fR 2 (XB fR X) = 0) (c3 : ¬ laR 76 0 9 fR 1 (XC fR X) = 0) (c4 : laR 72 1 99 fR 2 (XD fR X) = 0) : s_X12_readAll_r X fR fr = 0 ∧ s_X12_readAll_w0 X fR fr = XE fR X := by
  rw [all_R, all_W]
  exact ⟨(seg_ok c1).trans ((seg_ok c2).trans ((seg_ok c3).trans (seg_no (fun _ _ => rfl) c4))), (seg_ok c1).trans ((seg_ok c2).trans ((seg_ok c3).trans (seg_no (fun _ _ => rfl) c4)))⟩
set_option maxHeartbeats 100000 in
theorem all_o1 (c1 : ¬ laR 71 1 20 fR 2 (XA X) = 0) (c2 : ¬ laR 78 1 50 fR 2 (XB fR X) = 0) (c3 : ¬ laR 76 0 9 fR 1 (XC fR X) = 0) (c4 : ¬ laR 72 1 99 fR 2 (XD fR X) = 0) : s_X12_readAll_r X fR fr = (RA fR 16 0 (XE fR X) (gE fR X fr)).1 := by
  rw [all_R, seg_ok c1, seg_ok c2, seg_ok c3, seg_ok c4]
set_option maxHeartbeats 100000 in
theorem all_o2 (c1 : ¬ laR 71 1 20 fR 2 (XA X) = 0) (c2 : ¬ laR 78 1 50 fR 2 (XB fR X) = 0) (c3 : ¬ laR 76 0 9 fR 1 (XC fR X) = 0) (c4 : ¬ laR 72 1 99 fR 2 (XD fR X) = 0) : s_X12_readAll_w0 X fR fr = (RA fR 16 0 (XE fR X) (gE fR X fr)).2.1 := by
  rw [all_W, seg_ok c1, seg_ok c2, seg_ok c3, seg_ok c4]
set_option maxHeartbeats 100000 in
theorem all_o3 (c1 : ¬ laR 71 1 20 fR 2 (XA X) = 0) (c2 : ¬ laR 78 1 50 fR 2 (XB fR X) = 0) (c3 : ¬ laR 76 0 9 fR 1 (XC fR X) = 0) (c4 : ¬ laR 72 1 99 fR 2 (XD fR X) = 0) : s_X12_readAll_w2 X fR fr = (RA fR 16 0 (XE fR X) (gE fR X fr)).2.2 := by
  rw [all_F, seg_ok c1, seg_ok c2, seg_ok c3, seg_ok c4]
end TEXT2

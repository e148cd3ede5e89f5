/-- a value under a name -/
def bd {α β : Type} (a : α) (f : α → β) : β := f a
theorem bd_eq {α β : Type} {a v : α} {r : β} {f : α → β} (e : v = a) (h : r = f v) : r = bd a f := by
  subst e
  exact h
theorem bd_z {α : Type} {a : α} {f : α → Int32} (h : ∀ v, v = a → (f v = 0 ∨ f v = 1)) : bd a f = 0 ∨ bd a f = 1 := h a rfl
theorem itP {α : Type} {c : Prop} {i : Decidable c} {r a b : α} (h : c) (p : r = a) : r = @ite α c i a b := p.trans (if_pos h).symm
theorem itN {α : Type} {c : Prop} {i : Decidable c} {r a b : α} (h : ¬ c) (p : r = b) : r = @ite α c i a b := p.trans (if_neg h).symm
theorem eat_2e {a : Int32} {x ft : Nat → Int32} : s_X12_eat_w0 a x ft 2 = x 2 := by
  unfold s_X12_eat_w0
  rw [upd_ne (by decide)]
theorem rAm_2e {x ft : Nat → Int32} : s_X12_readAmbient_w0 x ft 2 = x 2 := by
  unfold s_X12_readAmbient_w0
  exact ite_P (P := fun z : Nat → Int32 => z 2 = x 2) (fun _ => ite_P (P := fun z : Nat → Int32 => z 2 = x 2) (fun _ => eat_2e.trans eat_2e) (fun _ => put2_2e.trans (eat_2e.trans eat_2e))) (fun _ => put2_2e.trans eat_2e)
theorem rAm_23 {x ft : Nat → Int32} (ht : vp_in (x 2) 61) (hs : vp_in (x 3) 61) : vp_in (s_X12_readAmbient_w0 x ft 2) 61 ∧ vp_in (s_X12_readAmbient_w0 x ft 3) 61 := by
  have a2 := eat_2 (a := 45) (ft := ft) ht
  have a3 := eat_3 (a := 45) (ft := ft) ht hs
  have b2 := eat_2 (a := 43) (ft := ft) a2
  have b3 := eat_3 (a := 43) (ft := ft) a2 a3
  unfold s_X12_readAmbient_w0
  exact ite_P (P := fun z : Nat → Int32 => vp_in (z 2) 61 ∧ vp_in (z 3) 61) (fun _ => ite_P (P := fun z : Nat → Int32 => vp_in (z 2) 61 ∧ vp_in (z 3) 61) (fun _ => ⟨b2, b3⟩) (fun _ => ⟨put2_2 b2, put2_3 b2 b3⟩)) (fun _ => ⟨put2_2 a2, put2_3 a2 a3⟩)
theorem rAm_2 {x ft : Nat → Int32} (ht : vp_in (x 2) 61) (hs : vp_in (x 3) 61) : vp_in (s_X12_readAmbient_w0 x ft 2) 61 := (rAm_23 ht hs).1
theorem rAm_3 {x ft : Nat → Int32} (ht : vp_in (x 2) 61) (hs : vp_in (x 3) 61) : vp_in (s_X12_readAmbient_w0 x ft 3) 61 := (rAm_23 ht hs).2
/-- which part begins with a sign -/
def whG (c : Int32) : Int32 := if c = 65 then 1 else if c = 83 then 2 else if c = 66 then 4 else if c = 84 then 8 else 0
/-- a part is read: whether it could be, the model's numbers, the page -/
def paA (w : Int32) (x ft : Nat → Int32) : Int32 := if w = 1 then s_X12_readAmbient_r x ft else if w = 2 then s_X12_put_3_r 0 999 x ft else if w = 4 then s_X12_put_2_r 0 20 x ft else s_X12_put_2_r 0 99 x ft
def paX (w : Int32) (x ft : Nat → Int32) : Nat → Int32 := if w = 1 then s_X12_readAmbient_w0 x ft else if w = 2 then s_X12_put_3_w0 0 999 x ft else if w = 4 then s_X12_put_2_w0 0 20 x ft else s_X12_put_2_w0 0 99 x ft
def paF (w : Int32) (x ft fr : Nat → Int32) : Nat → Int32 := if w = 1 then s_X12_readAmbient_w2 x ft fr else if w = 2 then s_X12_put_3_w2 0 999 x ft fr 5 else if w = 4 then s_X12_put_2_w2 0 20 x ft fr 6 else s_X12_put_2_w2 0 99 x ft fr 7
theorem paX_2e {w : Int32} {x ft : Nat → Int32} : paX w x ft 2 = x 2 := by
  unfold paX
  exact ite_P (P := fun z : Nat → Int32 => z 2 = x 2) (fun _ => rAm_2e) (fun _ => ite_P (P := fun z : Nat → Int32 => z 2 = x 2) (fun _ => put3_2e) (fun _ => ite_P (P := fun z : Nat → Int32 => z 2 = x 2) (fun _ => put2_2e) (fun _ => put2_2e)))
theorem paX_3 {w : Int32} {x ft : Nat → Int32} (ht : vp_in (x 2) 61) (hs : vp_in (x 3) 61) : vp_in (paX w x ft 3) 61 := by
  unfold paX
  exact ite_P (P := fun z : Nat → Int32 => vp_in (z 3) 61) (fun _ => rAm_3 ht hs) (fun _ => ite_P (P := fun z : Nat → Int32 => vp_in (z 3) 61) (fun _ => put3_3 ht hs) (fun _ => ite_P (P := fun z : Nat → Int32 => vp_in (z 3) 61) (fun _ => put2_3 ht hs) (fun _ => put2_3 ht hs)))
/-- the parts behind the heater's four numbers: fuel, what has been told, the model's numbers, the page -/
def RA (ft : Nat → Int32) : Nat → Int32 → (Nat → Int32) → (Nat → Int32) → Int32 × (Nat → Int32) × (Nat → Int32)
  | 0, _, x, fr => (0, x, fr)
  | n + 1, told, x, fr => if (x 2) ≤ (x 3) then (1, x, upd fr 12 (fr 3)) else if whG (ft (tn (x 3))) = 0 then (0, x, fr) else if (told &&& whG (ft (tn (x 3)))) = 0 then (if paA (whG (ft (tn (x 3)))) (upd x 3 ((x 3) + 1)) ft = 0 then (0, paX (whG (ft (tn (x 3)))) (upd x 3 ((x 3) + 1)) ft, paF (whG (ft (tn (x 3)))) (upd x 3 ((x 3) + 1)) ft fr) else RA ft n (told ||| whG (ft (tn (x 3)))) (paX (whG (ft (tn (x 3)))) (upd x 3 ((x 3) + 1)) ft) (paF (whG (ft (tn (x 3)))) (upd x 3 ((x 3) + 1)) ft fr)) else (0, x, fr)
theorem RA_01 {ft : Nat → Int32} : ∀ {n : Nat} {told : Int32} {x fr : Nat → Int32}, (RA ft n told x fr).1 = 0 ∨ (RA ft n told x fr).1 = 1
  | 0, _, _, _ => Or.inl rfl
  | n + 1, told, x, fr => by
    rw [RA]
    exact ite_P (P := fun z : Int32 × (Nat → Int32) × (Nat → Int32) => z.1 = 0 ∨ z.1 = 1) (fun _ => Or.inr rfl) (fun _ => ite_P (P := fun z : Int32 × (Nat → Int32) × (Nat → Int32) => z.1 = 0 ∨ z.1 = 1) (fun _ => Or.inl rfl) (fun _ => ite_P (P := fun z : Int32 × (Nat → Int32) × (Nat → Int32) => z.1 = 0 ∨ z.1 = 1) (fun _ => ite_P (P := fun z : Int32 × (Nat → Int32) × (Nat → Int32) => z.1 = 0 ∨ z.1 = 1) (fun _ => Or.inl rfl) (fun _ => RA_01)) (fun _ => Or.inl rfl)))
section RAS
variable {ft x fr : Nat → Int32} {n : Nat} {told w : Int32}
theorem RA_end (h : (x 2) ≤ (x 3)) : RA ft (n + 1) told x fr = (1, x, upd fr 12 (fr 3)) := by
  rw [RA, if_pos h]
theorem RA_no1 (h : ¬ (x 2) ≤ (x 3)) (ew : w = whG (ft (tn (x 3)))) (h0 : w = 0) : RA ft (n + 1) told x fr = (0, x, fr) := by
  rw [RA, if_neg h, ← ew, if_pos h0]
theorem RA_no2 (h : ¬ (x 2) ≤ (x 3)) (ew : w = whG (ft (tn (x 3)))) (h0 : ¬ w = 0) (h1 : ¬ (told &&& w) = 0) : RA ft (n + 1) told x fr = (0, x, fr) := by
  rw [RA, if_neg h, ← ew, if_neg h0, if_neg h1]
theorem RA_no3 (h : ¬ (x 2) ≤ (x 3)) (ew : w = whG (ft (tn (x 3)))) (h0 : ¬ w = 0) (h1 : (told &&& w) = 0) (h2 : paA w (upd x 3 ((x 3) + 1)) ft = 0) : RA ft (n + 1) told x fr = (0, paX w (upd x 3 ((x 3) + 1)) ft, paF w (upd x 3 ((x 3) + 1)) ft fr) := by
  rw [RA, if_neg h, ← ew, if_neg h0, if_pos h1, if_pos h2]
theorem RA_go (h : ¬ (x 2) ≤ (x 3)) (ew : w = whG (ft (tn (x 3)))) (h0 : ¬ w = 0) (h1 : (told &&& w) = 0) (h2 : ¬ paA w (upd x 3 ((x 3) + 1)) ft = 0) : RA ft (n + 1) told x fr = RA ft n (told ||| w) (paX w (upd x 3 ((x 3) + 1)) ft) (paF w (upd x 3 ((x 3) + 1)) ft fr) := by
  rw [RA, if_neg h, ← ew, if_neg h0, if_pos h1, if_neg h2]
theorem told_all : ∀ t : Fin 16, ∀ w ∈ ([1, 2, 4, 8] : List Int32), (nI t.val &&& w) = 0 → (nI t.val ||| w) = nI (tn (nI t.val ||| w)) ∧ t.val < tn (nI t.val ||| w) ∧ tn (nI t.val ||| w) < 16 := by decide +kernel
theorem told_next {t : Nat} {c : Int32} (hx : told = nI t) (ht : t < 16) (ew : w = whG c) (h0 : ¬ w = 0) (h1 : (told &&& w) = 0) : (told ||| w) = nI (tn (told ||| w)) ∧ t < tn (told ||| w) ∧ tn (told ||| w) < 16 := by
  have hm : w ∈ ([1, 2, 4, 8] : List Int32) := by
    rw [ew] at h0 ⊢
    unfold whG at h0 ⊢
    split
    · simp
    · split
      · simp
      · split
        · simp
        · split
          · simp
          · next q1 q2 q3 q4 =>
            rw [if_neg q1, if_neg q2, if_neg q3, if_neg q4] at h0
            exact absurd rfl h0
  subst hx
  exact told_all ⟨t, ht⟩ w hm h1
end RAS

def s_X12_readAll_r (x : Nat → Int32) (ft : Nat → Int32) (fr : Nat → Int32) : Int32 := (bd ((s_X12_begin_w0 fr)) (fun (v_1 : Nat → Int32) => (bd ((s_X12_eat_w0 71 (upd x 3 0) ft)) (fun (v_2 : Nat → Int32) => (bd ((s_X12_eat_r 71 (upd x 3 0) ft)) (fun (v_3 : Int32) => (if v_3 = 0 then 0 else (bd ((s_X12_put_2_w0 1 20 v_2 ft)) (fun (v_7 : Nat → Int32) => (bd ((s_X12_put_2_w2 1 20 v_2 ft v_1 0)) (fun (v_8 : Nat → Int32) => (bd ((s_X12_put_2_r 1 20 v_2 ft)) (fun (v_9 : Int32) => (if v_9 = 0 then 0 else (bd ((s_X12_eat_w0 78 v_7 ft)) (fun (v_13 : Nat → Int32) => (bd ((s_X12_eat_r 78 v_7 ft)) (fun (v_14 : Int32) => (if v_14 = 0 then 0 else (bd ((s_X12_put_2_w0 1 50 v_13 ft)) (fun (v_18 : Nat → Int32) => (bd ((s_X12_put_2_w2 1 50 v_13 ft v_8 1)) (fun (v_19 : Nat → Int32) => (bd ((s_X12_put_2_r 1 50 v_13 ft)) (fun (v_20 : Int32) => (if v_20 = 0 then 0 else (bd ((s_X12_eat_w0 76 v_18 ft)) (fun (v_24 : Nat → Int32) => (bd ((s_X12_eat_r 76 v_18 ft)) (fun (v_25 : Int32) => (if v_25 = 0 then 0 else (bd ((s_X12_put_1_w0 0 9 v_24 ft)) (fun (v_29 : Nat → Int32) => (bd ((s_X12_put_1_w2 0 9 v_24 ft v_19 2)) (fun (v_30 : Nat → Int32) => (bd ((s_X12_put_1_r 0 9 v_24 ft)) (fun (v_31 : Int32) => (if v_31 = 0 then 0 else (bd ((s_X12_eat_w0 72 v_29 ft)) (fun (v_35 : Nat → Int32) => (bd ((s_X12_eat_r 72 v_29 ft)) (fun (v_36 : Int32) => (if v_36 = 0 then 0 else (bd ((s_X12_put_2_w0 1 99 v_35 ft)) (fun (v_40 : Nat → Int32) => (bd ((s_X12_put_2_w2 1 99 v_35 ft v_30 4)) (fun (v_41 : Nat → Int32) => (bd ((s_X12_put_2_r 1 99 v_35 ft)) (fun (v_42 : Int32) => (if v_42 = 0 then 0 else (RA ft 16 0 v_40 v_41).1))))))))))))))))))))))))))))))))))))))))))))))))))
def s_X12_readAll_w0 (x : Nat → Int32) (ft : Nat → Int32) (fr : Nat → Int32) : Nat → Int32 := (bd ((s_X12_begin_w0 fr)) (fun (v_1 : Nat → Int32) => (bd ((s_X12_eat_w0 71 (upd x 3 0) ft)) (fun (v_2 : Nat → Int32) => (bd ((s_X12_eat_r 71 (upd x 3 0) ft)) (fun (v_3 : Int32) => (if v_3 = 0 then v_2 else (bd ((s_X12_put_2_w0 1 20 v_2 ft)) (fun (v_7 : Nat → Int32) => (bd ((s_X12_put_2_w2 1 20 v_2 ft v_1 0)) (fun (v_8 : Nat → Int32) => (bd ((s_X12_put_2_r 1 20 v_2 ft)) (fun (v_9 : Int32) => (if v_9 = 0 then v_7 else (bd ((s_X12_eat_w0 78 v_7 ft)) (fun (v_13 : Nat → Int32) => (bd ((s_X12_eat_r 78 v_7 ft)) (fun (v_14 : Int32) => (if v_14 = 0 then v_13 else (bd ((s_X12_put_2_w0 1 50 v_13 ft)) (fun (v_18 : Nat → Int32) => (bd ((s_X12_put_2_w2 1 50 v_13 ft v_8 1)) (fun (v_19 : Nat → Int32) => (bd ((s_X12_put_2_r 1 50 v_13 ft)) (fun (v_20 : Int32) => (if v_20 = 0 then v_18 else (bd ((s_X12_eat_w0 76 v_18 ft)) (fun (v_24 : Nat → Int32) => (bd ((s_X12_eat_r 76 v_18 ft)) (fun (v_25 : Int32) => (if v_25 = 0 then v_24 else (bd ((s_X12_put_1_w0 0 9 v_24 ft)) (fun (v_29 : Nat → Int32) => (bd ((s_X12_put_1_w2 0 9 v_24 ft v_19 2)) (fun (v_30 : Nat → Int32) => (bd ((s_X12_put_1_r 0 9 v_24 ft)) (fun (v_31 : Int32) => (if v_31 = 0 then v_29 else (bd ((s_X12_eat_w0 72 v_29 ft)) (fun (v_35 : Nat → Int32) => (bd ((s_X12_eat_r 72 v_29 ft)) (fun (v_36 : Int32) => (if v_36 = 0 then v_35 else (bd ((s_X12_put_2_w0 1 99 v_35 ft)) (fun (v_40 : Nat → Int32) => (bd ((s_X12_put_2_w2 1 99 v_35 ft v_30 4)) (fun (v_41 : Nat → Int32) => (bd ((s_X12_put_2_r 1 99 v_35 ft)) (fun (v_42 : Int32) => (if v_42 = 0 then v_40 else ((RA ft 16 0 v_40 v_41).2.1)))))))))))))))))))))))))))))))))))))))))))))))))))
def s_X12_readAll_w2 (x : Nat → Int32) (ft : Nat → Int32) (fr : Nat → Int32) : Nat → Int32 := (bd ((s_X12_begin_w0 fr)) (fun (v_1 : Nat → Int32) => (bd ((s_X12_eat_w0 71 (upd x 3 0) ft)) (fun (v_2 : Nat → Int32) => (bd ((s_X12_eat_r 71 (upd x 3 0) ft)) (fun (v_3 : Int32) => (if v_3 = 0 then v_1 else (bd ((s_X12_put_2_w0 1 20 v_2 ft)) (fun (v_7 : Nat → Int32) => (bd ((s_X12_put_2_w2 1 20 v_2 ft v_1 0)) (fun (v_8 : Nat → Int32) => (bd ((s_X12_put_2_r 1 20 v_2 ft)) (fun (v_9 : Int32) => (if v_9 = 0 then v_8 else (bd ((s_X12_eat_w0 78 v_7 ft)) (fun (v_13 : Nat → Int32) => (bd ((s_X12_eat_r 78 v_7 ft)) (fun (v_14 : Int32) => (if v_14 = 0 then v_8 else (bd ((s_X12_put_2_w0 1 50 v_13 ft)) (fun (v_18 : Nat → Int32) => (bd ((s_X12_put_2_w2 1 50 v_13 ft v_8 1)) (fun (v_19 : Nat → Int32) => (bd ((s_X12_put_2_r 1 50 v_13 ft)) (fun (v_20 : Int32) => (if v_20 = 0 then v_19 else (bd ((s_X12_eat_w0 76 v_18 ft)) (fun (v_24 : Nat → Int32) => (bd ((s_X12_eat_r 76 v_18 ft)) (fun (v_25 : Int32) => (if v_25 = 0 then v_19 else (bd ((s_X12_put_1_w0 0 9 v_24 ft)) (fun (v_29 : Nat → Int32) => (bd ((s_X12_put_1_w2 0 9 v_24 ft v_19 2)) (fun (v_30 : Nat → Int32) => (bd ((s_X12_put_1_r 0 9 v_24 ft)) (fun (v_31 : Int32) => (if v_31 = 0 then v_30 else (bd ((s_X12_eat_w0 72 v_29 ft)) (fun (v_35 : Nat → Int32) => (bd ((s_X12_eat_r 72 v_29 ft)) (fun (v_36 : Int32) => (if v_36 = 0 then v_30 else (bd ((s_X12_put_2_w0 1 99 v_35 ft)) (fun (v_40 : Nat → Int32) => (bd ((s_X12_put_2_w2 1 99 v_35 ft v_30 4)) (fun (v_41 : Nat → Int32) => (bd ((s_X12_put_2_r 1 99 v_35 ft)) (fun (v_42 : Int32) => (if v_42 = 0 then v_41 else ((RA ft 16 0 v_40 v_41).2.2)))))))))))))))))))))))))))))))))))))))))))))))))))
theorem z_X12_readAll (x : Nat → Int32) (ft : Nat → Int32) (fr : Nat → Int32) : s_X12_readAll_r x ft fr = 0 ∨ s_X12_readAll_r x ft fr = 1 := by unfold s_X12_readAll_r; (try dsimp only); exact (bd_z (fun v_1 e_v_1 => (bd_z (fun v_2 e_v_2 => (bd_z (fun v_3 e_v_3 => (z_ite (Or.inl rfl) (bd_z (fun v_7 e_v_7 => (bd_z (fun v_8 e_v_8 => (bd_z (fun v_9 e_v_9 => (z_ite (Or.inl rfl) (bd_z (fun v_13 e_v_13 => (bd_z (fun v_14 e_v_14 => (z_ite (Or.inl rfl) (bd_z (fun v_18 e_v_18 => (bd_z (fun v_19 e_v_19 => (bd_z (fun v_20 e_v_20 => (z_ite (Or.inl rfl) (bd_z (fun v_24 e_v_24 => (bd_z (fun v_25 e_v_25 => (z_ite (Or.inl rfl) (bd_z (fun v_29 e_v_29 => (bd_z (fun v_30 e_v_30 => (bd_z (fun v_31 e_v_31 => (z_ite (Or.inl rfl) (bd_z (fun v_35 e_v_35 => (bd_z (fun v_36 e_v_36 => (z_ite (Or.inl rfl) (bd_z (fun v_40 e_v_40 => (bd_z (fun v_41 e_v_41 => (bd_z (fun v_42 e_v_42 => (z_ite (Or.inl rfl) RA_01))))))))))))))))))))))))))))))))))))))))))))))))))
abbrev rmX12_readAll : Room := ({ frames := 3, cells := 0, slots := 0, locals := 74 } : Room)
set_option maxHeartbeats 4000000 in
set_option maxRecDepth 100000 in
theorem c_X12_readAll (l : Launch) (G : va_G) (y : Nat → ClassId) (h : Nat) (q1 : Nat) (q4 : Nat) (q5 : Nat) (q6 : Nat) (q7 : Nat) (q9 : Nat) (q10 : Nat) (q11 : Nat) (x : Nat → Int32) (ft : Nat → Int32) (fr : Nat → Int32) (sz : Nat) (ht : vp_in (x 2) 61) : Met l yX12_readAll wsX12_readAll rmX12_readAll (PH G y [.ref h] [kX12 h q1 q4 q5 q6 q7 q9 q10 q11 x, aI y q1 60 ft, aI y q4 154 fr] sz) (QHi G (s_X12_readAll_r x ft fr) (fun _ : Unit => [kX12 h q1 q4 q5 q6 q7 q9 q10 q11 (s_X12_readAll_w0 x ft fr), aI y q1 60 ft, aI y q4 154 (s_X12_readAll_w2 x ft fr)]) (va_A [kX12 h q1 q4 q5 q6 q7 q9 q10 q11 x, aI y q1 60 ft, aI y q4 154 fr] sz)) 0 0 (va_A [kX12 h q1 q4 q5 q6 q7 q9 q10 q11 x, aI y q1 60 ft, aI y q4 154 fr] sz) := by
  refine Met.ofW (cc := cX12_readAll) (maxL := 4) (ret := (some .boolean)) (by decide) rfl ?_
  intro p e s m args below meth c s₁ B hml hv
  obtain ⟨rfl, hsz, hP, ⟨hK, hN⟩, hD0⟩ := hv
  have hx := B.exec
  have hb := B.bytes
  have hr := B.returns
  have hts := atoms_spec (ws := wsX12_readAll) B.pre
  have hown : s.vm.findClass RX12 = some m.cls := findClass_of_methodNamed B.named
  have hlocks := B.notSynchronized
  have i_X12 : ∀ w ∈ u_ws RX12 TX12 15, w ∈ wsX12_readAll := by decide +kernel
  subst hsz
  have hD := hD0.self (sz := s.heap.size)
  generalize hAe : va_A [kX12 h q1 q4 q5 q6 q7 q9 q10 q11 x, aI y q1 60 ft, aI y q4 154 fr] s.heap.size = A at hD ⊢
  have hA : ∀ q : Nat, s.heap.size ≤ q → A q := fun q h => by rw [← hAe]; exact Or.inr h
  have hS : va_S A s.heap s.heap [] := va_S.rf
  have hP : va_P G vwCl [kX12 h q1 q4 q5 q6 q7 q9 q10 q11 x, aI y q1 60 ft, aI y q4 154 fr] s.heap := hP
  have hl := lv_entry ([.ref h]) (n := 4) (Nat.le_of_ble_eq_true rfl)
  rw [lg_entry_eq]
  generalize (lg_sl ([.ref h]) ++ List.replicate (4 - (lg_sl ([.ref h])).length) Slot.unset).toArray = ls at hl ⊢
  have hl : lv_has ls 4 [(0, .ref h)] := hl
  obtain ⟨QQ, hQQ⟩ : ∃ zq9, zq9 = MQ below (QHi G (s_X12_readAll_r x ft fr) (fun _ : Unit => [kX12 h q1 q4 q5 q6 q7 q9 q10 q11 (s_X12_readAll_w0 x ft fr), aI y q1 60 ft, aI y q4 154 (s_X12_readAll_w2 x ft fr)]) A) ([.ref h] : List Value).toArray s 0 0 A := ⟨_, rfl⟩
  rw [← hQQ]
  refine lv_aload_n hx hb dX12_readAll_0 rfl (lv_at hl 0 rfl) ?_
  refine lv_iconst (v := 0) hx hb dX12_readAll_1 (by decide) ?_
  refine va_put (D := G) (ci := 10) (v := .int 0) (ty := .int) (C := RX12) (T := TX12) (N := 15) hx hb hts i_X12 tyX12 tyX12_ok nmX12 hown hK hP hD hS 0 rfl rfl 3 (by decide) (hts (.fieldLink RX12 122 "RelayTunerModel" "spot" "I") (by decide +kernel)) (fun _ h9 => h9) rfl (by decide +kernel) rfl rfl (Nat.le_of_ble_eq_true rfl) dX12_readAll_2 (fun H locs hP hD hS => ?_)
  have hP : va_P G vwCl [kX12 h q1 q4 q5 q6 q7 q9 q10 q11 (upd x 3 0), aI y q1 60 ft, aI y q4 154 fr] H := hP
  have hD : va_D A [kX12 h q1 q4 q5 q6 q7 q9 q10 q11 (upd x 3 0), aI y q1 60 ft, aI y q4 154 fr] := hD
  refine lv_aload_n hx hb dX12_readAll_5 rfl (lv_at hl 0 rfl) ?_
  refine va_get (D := G) (ci := 10) (v := .ref q4) (C := RX12) (T := TX12) (N := 15) hx hb hts i_X12 hown hK hP 0 rfl rfl 4 (by decide) (hts (.fieldLink RX12 13 "RelayTunerModel" "read" "[I") (by decide +kernel)) (fun _ h9 => h9) rfl dX12_readAll_6 ?_
  refine cl_Hv (wr := [kX12 h q1 q4 q5 q6 q7 q9 q10 q11 (upd x 3 0), aI y q1 60 ft]) (fun _ : Unit => [kX12 h q1 q4 q5 q6 q7 q9 q10 q11 (upd x 3 0), aI y q1 60 ft, aI y q4 154 (s_X12_begin_w0 fr)]) [2] [0, 1] [0, 1, 2] (va_runS (As := [.ref q4]) (rest := []) ⟨hx, hb, hml, hown, hts⟩ (c_X12_begin l G y q4 fr H.size) (va_cwS 1 hts gX12_readAll_X12_begin rfl rfl rfl (by decide +kernel) ⟨Nat.le_of_ble_eq_true rfl, Nat.le_of_ble_eq_true rfl⟩) (PH_S (hP.sub (ws' := [aI y q4 154 fr]) [2] rfl) hK hN (hD.sub (ws' := [aI y q4 154 fr]) [2] (by decide) rfl)) rfl rfl hl.1 rfl (lv_room (Nat.le_of_ble_eq_true rfl)) dX12_readAll_9 ⟨Nat.le_of_ble_eq_true rfl, Nat.le_of_ble_eq_true rfl⟩) hP hD hS hA rfl rfl rfl (by decide) rfl (fun _ => rfl) (fun _ H locs hP hD hS => ?_)
  have hP : va_P G vwCl [kX12 h q1 q4 q5 q6 q7 q9 q10 q11 (upd x 3 0), aI y q1 60 ft, aI y q4 154 (s_X12_begin_w0 fr)] H := hP
  have hD : va_D A [kX12 h q1 q4 q5 q6 q7 q9 q10 q11 (upd x 3 0), aI y q1 60 ft, aI y q4 154 (s_X12_begin_w0 fr)] := hD
  obtain ⟨v_1, e_v_1⟩ : ∃ zq9 : Nat → Int32, zq9 = (s_X12_begin_w0 fr) := ⟨_, rfl⟩
  have hP : va_P G vwCl [kX12 h q1 q4 q5 q6 q7 q9 q10 q11 (upd x 3 0), aI y q1 60 ft, aI y q4 154 v_1] H := by rw [e_v_1]; exact hP
  have hD : va_D A [kX12 h q1 q4 q5 q6 q7 q9 q10 q11 (upd x 3 0), aI y q1 60 ft, aI y q4 154 v_1] := by rw [e_v_1]; exact hD
  refine lv_aload_n hx hb dX12_readAll_12 rfl (lv_at hl 0 rfl) ?_
  refine lv_bipush (v := 71) hx hb dX12_readAll_13 (by decide) ?_
  have hz2 : vp_in ((upd x 3 0) 2) 61 := ht
  have hz3 : vp_in ((upd x 3 0) 3) 61 := vp_in_nI (n := 0) (by decide) (by decide)
  refine cl_Hi (wr := [aI y q4 154 v_1]) (fun _ : Unit => [kX12 h q1 q4 q5 q6 q7 q9 q10 q11 (s_X12_eat_w0 71 (upd x 3 0) ft), aI y q1 60 ft, aI y q4 154 v_1]) [0, 1] [2] [1, 2, 0] (va_runV (As := [.int 71]) (rest := []) ⟨hx, hb, hml, hown, hts⟩ (c_X12_eat l G y h 71 q1 q4 q5 q6 q7 q9 q10 q11 (upd x 3 0) ft H.size (by assumption) (by assumption)) (cwV 1 hts gX12_readAll_X12_eat rfl rfl rfl (by decide +kernel) ⟨Nat.le_of_ble_eq_true rfl, Nat.le_of_ble_eq_true rfl⟩) (PH_V (hP.sub (ws' := [kX12 h q1 q4 q5 q6 q7 q9 q10 q11 (upd x 3 0), aI y q1 60 ft]) [0, 1] rfl) hK hN (hD.sub (ws' := [kX12 h q1 q4 q5 q6 q7 q9 q10 q11 (upd x 3 0), aI y q1 60 ft]) [0, 1] (by decide) rfl) (ci := 10) (q0 := 0) rfl rfl) rfl rfl hl.1 rfl (lv_room (Nat.le_of_ble_eq_true rfl)) dX12_readAll_15 ⟨Nat.le_of_ble_eq_true rfl, Nat.le_of_ble_eq_true rfl⟩) hP hD hS hA rfl rfl rfl (by decide) rfl (fun _ => rfl) (fun _ H locs hP hD hS => ?_)
  have hP : va_P G vwCl [kX12 h q1 q4 q5 q6 q7 q9 q10 q11 (s_X12_eat_w0 71 (upd x 3 0) ft), aI y q1 60 ft, aI y q4 154 v_1] H := hP
  have hD : va_D A [kX12 h q1 q4 q5 q6 q7 q9 q10 q11 (s_X12_eat_w0 71 (upd x 3 0) ft), aI y q1 60 ft, aI y q4 154 v_1] := hD
  obtain ⟨v_2, e_v_2⟩ : ∃ zq9 : Nat → Int32, zq9 = (s_X12_eat_w0 71 (upd x 3 0) ft) := ⟨_, rfl⟩
  have hP : va_P G vwCl [kX12 h q1 q4 q5 q6 q7 q9 q10 q11 v_2, aI y q1 60 ft, aI y q4 154 v_1] H := by rw [e_v_2]; exact hP
  have hD : va_D A [kX12 h q1 q4 q5 q6 q7 q9 q10 q11 v_2, aI y q1 60 ft, aI y q4 154 v_1] := by rw [e_v_2]; exact hD
  obtain ⟨v_3, e_v_3⟩ : ∃ zq9 : Int32, zq9 = (s_X12_eat_r 71 (upd x 3 0) ft) := ⟨_, rfl⟩
  refine rw_i (x' := v_3) e_v_3.symm ?_
  have hf_4 : vp_in (v_2 2) 61 := by rw [e_v_2]; exact (eat_2 (by assumption))
  have hf_5 : vp_in (v_2 3) 61 := by rw [e_v_2]; exact (eat_3 (by assumption) (by assumption))
  refine lv_if_eq (tgt := 96) hx hb dX12_readAll_18 (by decide) (fun c_6 => ?_) (fun c_6 => ?_)
  · refine lv_iconst (v := 0) hx hb dX12_readAll_96 (by decide) ?_
    rw [hQQ]
    exact W.zret hx hb hr (nz_bool (Or.inl rfl)) (end_Hi () hP hD hS (by unfold s_X12_readAll_r; exact (bd_eq e_v_1 (bd_eq e_v_2 (bd_eq e_v_3 (itP c_6 rfl))))) (congr (congrArg (fun (z0 : Nat → Int32) (z2 : Nat → Int32) => [kX12 h q1 q4 q5 q6 q7 q9 q10 q11 z0, aI y q1 60 ft, aI y q4 154 z2]) (by unfold s_X12_readAll_w0; exact (bd_eq e_v_1 (bd_eq e_v_2 (bd_eq e_v_3 (itP c_6 rfl)))))) (by unfold s_X12_readAll_w2; exact (bd_eq e_v_1 (bd_eq e_v_2 (bd_eq e_v_3 (itP c_6 rfl))))))) hS.2.2 dX12_readAll_97
  · refine lv_aload_n hx hb dX12_readAll_21 rfl (lv_at hl 0 rfl) ?_
    refine lv_iconst (v := 0) hx hb dX12_readAll_22 (by decide) ?_
    refine lv_iconst (v := 2) hx hb dX12_readAll_23 (by decide) ?_
    refine lv_iconst (v := 1) hx hb dX12_readAll_24 (by decide) ?_
    refine lv_bipush (v := 20) hx hb dX12_readAll_25 (by decide) ?_
    refine cl_Hi (wr := []) (fun _ : Unit => [kX12 h q1 q4 q5 q6 q7 q9 q10 q11 (s_X12_put_2_w0 1 20 v_2 ft), aI y q1 60 ft, aI y q4 154 (s_X12_put_2_w2 1 20 v_2 ft v_1 0)]) [0, 1, 2] [] [0, 1, 2] (va_runV (As := [.int 0, .int 2, .int 1, .int 20]) (rest := []) ⟨hx, hb, hml, hown, hts⟩ (c_X12_put_2 l G y h 0 1 20 q1 q4 q5 q6 q7 q9 q10 q11 v_2 ft v_1 0 H.size (by assumption) (by assumption) rfl (by decide)) (cwV 4 hts gX12_readAll_X12_put rfl rfl rfl (by decide +kernel) ⟨Nat.le_of_ble_eq_true rfl, Nat.le_of_ble_eq_true rfl⟩) (PH_V (hP.sub (ws' := [kX12 h q1 q4 q5 q6 q7 q9 q10 q11 v_2, aI y q1 60 ft, aI y q4 154 v_1]) [0, 1, 2] rfl) hK hN (hD.sub (ws' := [kX12 h q1 q4 q5 q6 q7 q9 q10 q11 v_2, aI y q1 60 ft, aI y q4 154 v_1]) [0, 1, 2] (by decide) rfl) (ci := 10) (q0 := 0) rfl rfl) rfl rfl hl.1 rfl (lv_room (Nat.le_of_ble_eq_true rfl)) dX12_readAll_27 ⟨Nat.le_of_ble_eq_true rfl, Nat.le_of_ble_eq_true rfl⟩) hP hD hS hA rfl rfl rfl (by decide) rfl (fun _ => rfl) (fun _ H locs hP hD hS => ?_)
    have hP : va_P G vwCl [kX12 h q1 q4 q5 q6 q7 q9 q10 q11 (s_X12_put_2_w0 1 20 v_2 ft), aI y q1 60 ft, aI y q4 154 (s_X12_put_2_w2 1 20 v_2 ft v_1 0)] H := hP
    have hD : va_D A [kX12 h q1 q4 q5 q6 q7 q9 q10 q11 (s_X12_put_2_w0 1 20 v_2 ft), aI y q1 60 ft, aI y q4 154 (s_X12_put_2_w2 1 20 v_2 ft v_1 0)] := hD
    obtain ⟨v_7, e_v_7⟩ : ∃ zq9 : Nat → Int32, zq9 = (s_X12_put_2_w0 1 20 v_2 ft) := ⟨_, rfl⟩
    obtain ⟨v_8, e_v_8⟩ : ∃ zq9 : Nat → Int32, zq9 = (s_X12_put_2_w2 1 20 v_2 ft v_1 0) := ⟨_, rfl⟩
    have hP : va_P G vwCl [kX12 h q1 q4 q5 q6 q7 q9 q10 q11 v_7, aI y q1 60 ft, aI y q4 154 v_8] H := by rw [e_v_7, e_v_8]; exact hP
    have hD : va_D A [kX12 h q1 q4 q5 q6 q7 q9 q10 q11 v_7, aI y q1 60 ft, aI y q4 154 v_8] := by rw [e_v_7, e_v_8]; exact hD
    obtain ⟨v_9, e_v_9⟩ : ∃ zq9 : Int32, zq9 = (s_X12_put_2_r 1 20 v_2 ft) := ⟨_, rfl⟩
    refine rw_i (x' := v_9) e_v_9.symm ?_
    have hf_10 : vp_in (v_7 2) 61 := by rw [e_v_7]; exact (put2_2 (by assumption))
    have hf_11 : vp_in (v_7 3) 61 := by rw [e_v_7]; exact (put2_3 (by assumption) (by assumption))
    refine lv_if_eq (tgt := 96) hx hb dX12_readAll_30 (by decide) (fun c_12 => ?_) (fun c_12 => ?_)
    · refine lv_iconst (v := 0) hx hb dX12_readAll_96 (by decide) ?_
      rw [hQQ]
      exact W.zret hx hb hr (nz_bool (Or.inl rfl)) (end_Hi () hP hD hS (by unfold s_X12_readAll_r; exact (bd_eq e_v_1 (bd_eq e_v_2 (bd_eq e_v_3 (itN c_6 (bd_eq e_v_7 (bd_eq e_v_8 (bd_eq e_v_9 (itP c_12 rfl))))))))) (congr (congrArg (fun (z0 : Nat → Int32) (z2 : Nat → Int32) => [kX12 h q1 q4 q5 q6 q7 q9 q10 q11 z0, aI y q1 60 ft, aI y q4 154 z2]) (by unfold s_X12_readAll_w0; exact (bd_eq e_v_1 (bd_eq e_v_2 (bd_eq e_v_3 (itN c_6 (bd_eq e_v_7 (bd_eq e_v_8 (bd_eq e_v_9 (itP c_12 rfl)))))))))) (by unfold s_X12_readAll_w2; exact (bd_eq e_v_1 (bd_eq e_v_2 (bd_eq e_v_3 (itN c_6 (bd_eq e_v_7 (bd_eq e_v_8 (bd_eq e_v_9 (itP c_12 rfl))))))))))) hS.2.2 dX12_readAll_97
    · refine lv_aload_n hx hb dX12_readAll_33 rfl (lv_at hl 0 rfl) ?_
      refine lv_bipush (v := 78) hx hb dX12_readAll_34 (by decide) ?_
      refine cl_Hi (wr := [aI y q4 154 v_8]) (fun _ : Unit => [kX12 h q1 q4 q5 q6 q7 q9 q10 q11 (s_X12_eat_w0 78 v_7 ft), aI y q1 60 ft, aI y q4 154 v_8]) [0, 1] [2] [1, 2, 0] (va_runV (As := [.int 78]) (rest := []) ⟨hx, hb, hml, hown, hts⟩ (c_X12_eat l G y h 78 q1 q4 q5 q6 q7 q9 q10 q11 v_7 ft H.size (by assumption) (by assumption)) (cwV 1 hts gX12_readAll_X12_eat rfl rfl rfl (by decide +kernel) ⟨Nat.le_of_ble_eq_true rfl, Nat.le_of_ble_eq_true rfl⟩) (PH_V (hP.sub (ws' := [kX12 h q1 q4 q5 q6 q7 q9 q10 q11 v_7, aI y q1 60 ft]) [0, 1] rfl) hK hN (hD.sub (ws' := [kX12 h q1 q4 q5 q6 q7 q9 q10 q11 v_7, aI y q1 60 ft]) [0, 1] (by decide) rfl) (ci := 10) (q0 := 0) rfl rfl) rfl rfl hl.1 rfl (lv_room (Nat.le_of_ble_eq_true rfl)) dX12_readAll_36 ⟨Nat.le_of_ble_eq_true rfl, Nat.le_of_ble_eq_true rfl⟩) hP hD hS hA rfl rfl rfl (by decide) rfl (fun _ => rfl) (fun _ H locs hP hD hS => ?_)
      have hP : va_P G vwCl [kX12 h q1 q4 q5 q6 q7 q9 q10 q11 (s_X12_eat_w0 78 v_7 ft), aI y q1 60 ft, aI y q4 154 v_8] H := hP
      have hD : va_D A [kX12 h q1 q4 q5 q6 q7 q9 q10 q11 (s_X12_eat_w0 78 v_7 ft), aI y q1 60 ft, aI y q4 154 v_8] := hD
      obtain ⟨v_13, e_v_13⟩ : ∃ zq9 : Nat → Int32, zq9 = (s_X12_eat_w0 78 v_7 ft) := ⟨_, rfl⟩
      have hP : va_P G vwCl [kX12 h q1 q4 q5 q6 q7 q9 q10 q11 v_13, aI y q1 60 ft, aI y q4 154 v_8] H := by rw [e_v_13]; exact hP
      have hD : va_D A [kX12 h q1 q4 q5 q6 q7 q9 q10 q11 v_13, aI y q1 60 ft, aI y q4 154 v_8] := by rw [e_v_13]; exact hD
      obtain ⟨v_14, e_v_14⟩ : ∃ zq9 : Int32, zq9 = (s_X12_eat_r 78 v_7 ft) := ⟨_, rfl⟩
      refine rw_i (x' := v_14) e_v_14.symm ?_
      have hf_15 : vp_in (v_13 2) 61 := by rw [e_v_13]; exact (eat_2 (by assumption))
      have hf_16 : vp_in (v_13 3) 61 := by rw [e_v_13]; exact (eat_3 (by assumption) (by assumption))
      refine lv_if_eq (tgt := 96) hx hb dX12_readAll_39 (by decide) (fun c_17 => ?_) (fun c_17 => ?_)
      · refine lv_iconst (v := 0) hx hb dX12_readAll_96 (by decide) ?_
        rw [hQQ]
        exact W.zret hx hb hr (nz_bool (Or.inl rfl)) (end_Hi () hP hD hS (by unfold s_X12_readAll_r; exact (bd_eq e_v_1 (bd_eq e_v_2 (bd_eq e_v_3 (itN c_6 (bd_eq e_v_7 (bd_eq e_v_8 (bd_eq e_v_9 (itN c_12 (bd_eq e_v_13 (bd_eq e_v_14 (itP c_17 rfl)))))))))))) (congr (congrArg (fun (z0 : Nat → Int32) (z2 : Nat → Int32) => [kX12 h q1 q4 q5 q6 q7 q9 q10 q11 z0, aI y q1 60 ft, aI y q4 154 z2]) (by unfold s_X12_readAll_w0; exact (bd_eq e_v_1 (bd_eq e_v_2 (bd_eq e_v_3 (itN c_6 (bd_eq e_v_7 (bd_eq e_v_8 (bd_eq e_v_9 (itN c_12 (bd_eq e_v_13 (bd_eq e_v_14 (itP c_17 rfl))))))))))))) (by unfold s_X12_readAll_w2; exact (bd_eq e_v_1 (bd_eq e_v_2 (bd_eq e_v_3 (itN c_6 (bd_eq e_v_7 (bd_eq e_v_8 (bd_eq e_v_9 (itN c_12 (bd_eq e_v_13 (bd_eq e_v_14 (itP c_17 rfl)))))))))))))) hS.2.2 dX12_readAll_97
      · refine lv_aload_n hx hb dX12_readAll_42 rfl (lv_at hl 0 rfl) ?_
        refine lv_iconst (v := 1) hx hb dX12_readAll_43 (by decide) ?_
        refine lv_iconst (v := 2) hx hb dX12_readAll_44 (by decide) ?_
        refine lv_iconst (v := 1) hx hb dX12_readAll_45 (by decide) ?_
        refine lv_bipush (v := 50) hx hb dX12_readAll_46 (by decide) ?_
        refine cl_Hi (wr := []) (fun _ : Unit => [kX12 h q1 q4 q5 q6 q7 q9 q10 q11 (s_X12_put_2_w0 1 50 v_13 ft), aI y q1 60 ft, aI y q4 154 (s_X12_put_2_w2 1 50 v_13 ft v_8 1)]) [0, 1, 2] [] [0, 1, 2] (va_runV (As := [.int 1, .int 2, .int 1, .int 50]) (rest := []) ⟨hx, hb, hml, hown, hts⟩ (c_X12_put_2 l G y h 1 1 50 q1 q4 q5 q6 q7 q9 q10 q11 v_13 ft v_8 1 H.size (by assumption) (by assumption) rfl (by decide)) (cwV 4 hts gX12_readAll_X12_put rfl rfl rfl (by decide +kernel) ⟨Nat.le_of_ble_eq_true rfl, Nat.le_of_ble_eq_true rfl⟩) (PH_V (hP.sub (ws' := [kX12 h q1 q4 q5 q6 q7 q9 q10 q11 v_13, aI y q1 60 ft, aI y q4 154 v_8]) [0, 1, 2] rfl) hK hN (hD.sub (ws' := [kX12 h q1 q4 q5 q6 q7 q9 q10 q11 v_13, aI y q1 60 ft, aI y q4 154 v_8]) [0, 1, 2] (by decide) rfl) (ci := 10) (q0 := 0) rfl rfl) rfl rfl hl.1 rfl (lv_room (Nat.le_of_ble_eq_true rfl)) dX12_readAll_48 ⟨Nat.le_of_ble_eq_true rfl, Nat.le_of_ble_eq_true rfl⟩) hP hD hS hA rfl rfl rfl (by decide) rfl (fun _ => rfl) (fun _ H locs hP hD hS => ?_)
        have hP : va_P G vwCl [kX12 h q1 q4 q5 q6 q7 q9 q10 q11 (s_X12_put_2_w0 1 50 v_13 ft), aI y q1 60 ft, aI y q4 154 (s_X12_put_2_w2 1 50 v_13 ft v_8 1)] H := hP
        have hD : va_D A [kX12 h q1 q4 q5 q6 q7 q9 q10 q11 (s_X12_put_2_w0 1 50 v_13 ft), aI y q1 60 ft, aI y q4 154 (s_X12_put_2_w2 1 50 v_13 ft v_8 1)] := hD
        obtain ⟨v_18, e_v_18⟩ : ∃ zq9 : Nat → Int32, zq9 = (s_X12_put_2_w0 1 50 v_13 ft) := ⟨_, rfl⟩
        obtain ⟨v_19, e_v_19⟩ : ∃ zq9 : Nat → Int32, zq9 = (s_X12_put_2_w2 1 50 v_13 ft v_8 1) := ⟨_, rfl⟩
        have hP : va_P G vwCl [kX12 h q1 q4 q5 q6 q7 q9 q10 q11 v_18, aI y q1 60 ft, aI y q4 154 v_19] H := by rw [e_v_18, e_v_19]; exact hP
        have hD : va_D A [kX12 h q1 q4 q5 q6 q7 q9 q10 q11 v_18, aI y q1 60 ft, aI y q4 154 v_19] := by rw [e_v_18, e_v_19]; exact hD
        obtain ⟨v_20, e_v_20⟩ : ∃ zq9 : Int32, zq9 = (s_X12_put_2_r 1 50 v_13 ft) := ⟨_, rfl⟩
        refine rw_i (x' := v_20) e_v_20.symm ?_
        have hf_21 : vp_in (v_18 2) 61 := by rw [e_v_18]; exact (put2_2 (by assumption))
        have hf_22 : vp_in (v_18 3) 61 := by rw [e_v_18]; exact (put2_3 (by assumption) (by assumption))
        refine lv_if_eq (tgt := 96) hx hb dX12_readAll_51 (by decide) (fun c_23 => ?_) (fun c_23 => ?_)
        · refine lv_iconst (v := 0) hx hb dX12_readAll_96 (by decide) ?_
          rw [hQQ]
          exact W.zret hx hb hr (nz_bool (Or.inl rfl)) (end_Hi () hP hD hS (by unfold s_X12_readAll_r; exact (bd_eq e_v_1 (bd_eq e_v_2 (bd_eq e_v_3 (itN c_6 (bd_eq e_v_7 (bd_eq e_v_8 (bd_eq e_v_9 (itN c_12 (bd_eq e_v_13 (bd_eq e_v_14 (itN c_17 (bd_eq e_v_18 (bd_eq e_v_19 (bd_eq e_v_20 (itP c_23 rfl)))))))))))))))) (congr (congrArg (fun (z0 : Nat → Int32) (z2 : Nat → Int32) => [kX12 h q1 q4 q5 q6 q7 q9 q10 q11 z0, aI y q1 60 ft, aI y q4 154 z2]) (by unfold s_X12_readAll_w0; exact (bd_eq e_v_1 (bd_eq e_v_2 (bd_eq e_v_3 (itN c_6 (bd_eq e_v_7 (bd_eq e_v_8 (bd_eq e_v_9 (itN c_12 (bd_eq e_v_13 (bd_eq e_v_14 (itN c_17 (bd_eq e_v_18 (bd_eq e_v_19 (bd_eq e_v_20 (itP c_23 rfl))))))))))))))))) (by unfold s_X12_readAll_w2; exact (bd_eq e_v_1 (bd_eq e_v_2 (bd_eq e_v_3 (itN c_6 (bd_eq e_v_7 (bd_eq e_v_8 (bd_eq e_v_9 (itN c_12 (bd_eq e_v_13 (bd_eq e_v_14 (itN c_17 (bd_eq e_v_18 (bd_eq e_v_19 (bd_eq e_v_20 (itP c_23 rfl)))))))))))))))))) hS.2.2 dX12_readAll_97
        · refine lv_aload_n hx hb dX12_readAll_54 rfl (lv_at hl 0 rfl) ?_
          refine lv_bipush (v := 76) hx hb dX12_readAll_55 (by decide) ?_
          refine cl_Hi (wr := [aI y q4 154 v_19]) (fun _ : Unit => [kX12 h q1 q4 q5 q6 q7 q9 q10 q11 (s_X12_eat_w0 76 v_18 ft), aI y q1 60 ft, aI y q4 154 v_19]) [0, 1] [2] [1, 2, 0] (va_runV (As := [.int 76]) (rest := []) ⟨hx, hb, hml, hown, hts⟩ (c_X12_eat l G y h 76 q1 q4 q5 q6 q7 q9 q10 q11 v_18 ft H.size (by assumption) (by assumption)) (cwV 1 hts gX12_readAll_X12_eat rfl rfl rfl (by decide +kernel) ⟨Nat.le_of_ble_eq_true rfl, Nat.le_of_ble_eq_true rfl⟩) (PH_V (hP.sub (ws' := [kX12 h q1 q4 q5 q6 q7 q9 q10 q11 v_18, aI y q1 60 ft]) [0, 1] rfl) hK hN (hD.sub (ws' := [kX12 h q1 q4 q5 q6 q7 q9 q10 q11 v_18, aI y q1 60 ft]) [0, 1] (by decide) rfl) (ci := 10) (q0 := 0) rfl rfl) rfl rfl hl.1 rfl (lv_room (Nat.le_of_ble_eq_true rfl)) dX12_readAll_57 ⟨Nat.le_of_ble_eq_true rfl, Nat.le_of_ble_eq_true rfl⟩) hP hD hS hA rfl rfl rfl (by decide) rfl (fun _ => rfl) (fun _ H locs hP hD hS => ?_)
          have hP : va_P G vwCl [kX12 h q1 q4 q5 q6 q7 q9 q10 q11 (s_X12_eat_w0 76 v_18 ft), aI y q1 60 ft, aI y q4 154 v_19] H := hP
          have hD : va_D A [kX12 h q1 q4 q5 q6 q7 q9 q10 q11 (s_X12_eat_w0 76 v_18 ft), aI y q1 60 ft, aI y q4 154 v_19] := hD
          obtain ⟨v_24, e_v_24⟩ : ∃ zq9 : Nat → Int32, zq9 = (s_X12_eat_w0 76 v_18 ft) := ⟨_, rfl⟩
          have hP : va_P G vwCl [kX12 h q1 q4 q5 q6 q7 q9 q10 q11 v_24, aI y q1 60 ft, aI y q4 154 v_19] H := by rw [e_v_24]; exact hP
          have hD : va_D A [kX12 h q1 q4 q5 q6 q7 q9 q10 q11 v_24, aI y q1 60 ft, aI y q4 154 v_19] := by rw [e_v_24]; exact hD
          obtain ⟨v_25, e_v_25⟩ : ∃ zq9 : Int32, zq9 = (s_X12_eat_r 76 v_18 ft) := ⟨_, rfl⟩
          refine rw_i (x' := v_25) e_v_25.symm ?_
          have hf_26 : vp_in (v_24 2) 61 := by rw [e_v_24]; exact (eat_2 (by assumption))
          have hf_27 : vp_in (v_24 3) 61 := by rw [e_v_24]; exact (eat_3 (by assumption) (by assumption))
          refine lv_if_eq (tgt := 96) hx hb dX12_readAll_60 (by decide) (fun c_28 => ?_) (fun c_28 => ?_)
          · refine lv_iconst (v := 0) hx hb dX12_readAll_96 (by decide) ?_
            rw [hQQ]
            exact W.zret hx hb hr (nz_bool (Or.inl rfl)) (end_Hi () hP hD hS (by unfold s_X12_readAll_r; exact (bd_eq e_v_1 (bd_eq e_v_2 (bd_eq e_v_3 (itN c_6 (bd_eq e_v_7 (bd_eq e_v_8 (bd_eq e_v_9 (itN c_12 (bd_eq e_v_13 (bd_eq e_v_14 (itN c_17 (bd_eq e_v_18 (bd_eq e_v_19 (bd_eq e_v_20 (itN c_23 (bd_eq e_v_24 (bd_eq e_v_25 (itP c_28 rfl))))))))))))))))))) (congr (congrArg (fun (z0 : Nat → Int32) (z2 : Nat → Int32) => [kX12 h q1 q4 q5 q6 q7 q9 q10 q11 z0, aI y q1 60 ft, aI y q4 154 z2]) (by unfold s_X12_readAll_w0; exact (bd_eq e_v_1 (bd_eq e_v_2 (bd_eq e_v_3 (itN c_6 (bd_eq e_v_7 (bd_eq e_v_8 (bd_eq e_v_9 (itN c_12 (bd_eq e_v_13 (bd_eq e_v_14 (itN c_17 (bd_eq e_v_18 (bd_eq e_v_19 (bd_eq e_v_20 (itN c_23 (bd_eq e_v_24 (bd_eq e_v_25 (itP c_28 rfl)))))))))))))))))))) (by unfold s_X12_readAll_w2; exact (bd_eq e_v_1 (bd_eq e_v_2 (bd_eq e_v_3 (itN c_6 (bd_eq e_v_7 (bd_eq e_v_8 (bd_eq e_v_9 (itN c_12 (bd_eq e_v_13 (bd_eq e_v_14 (itN c_17 (bd_eq e_v_18 (bd_eq e_v_19 (bd_eq e_v_20 (itN c_23 (bd_eq e_v_24 (bd_eq e_v_25 (itP c_28 rfl))))))))))))))))))))) hS.2.2 dX12_readAll_97
          · refine lv_aload_n hx hb dX12_readAll_63 rfl (lv_at hl 0 rfl) ?_
            refine lv_iconst (v := 2) hx hb dX12_readAll_64 (by decide) ?_
            refine lv_iconst (v := 1) hx hb dX12_readAll_65 (by decide) ?_
            refine lv_iconst (v := 0) hx hb dX12_readAll_66 (by decide) ?_
            refine lv_bipush (v := 9) hx hb dX12_readAll_67 (by decide) ?_
            refine cl_Hi (wr := []) (fun _ : Unit => [kX12 h q1 q4 q5 q6 q7 q9 q10 q11 (s_X12_put_1_w0 0 9 v_24 ft), aI y q1 60 ft, aI y q4 154 (s_X12_put_1_w2 0 9 v_24 ft v_19 2)]) [0, 1, 2] [] [0, 1, 2] (va_runV (As := [.int 2, .int 1, .int 0, .int 9]) (rest := []) ⟨hx, hb, hml, hown, hts⟩ (c_X12_put_1 l G y h 2 0 9 q1 q4 q5 q6 q7 q9 q10 q11 v_24 ft v_19 2 H.size (by assumption) (by assumption) rfl (by decide)) (cwV 4 hts gX12_readAll_X12_put rfl rfl rfl (by decide +kernel) ⟨Nat.le_of_ble_eq_true rfl, Nat.le_of_ble_eq_true rfl⟩) (PH_V (hP.sub (ws' := [kX12 h q1 q4 q5 q6 q7 q9 q10 q11 v_24, aI y q1 60 ft, aI y q4 154 v_19]) [0, 1, 2] rfl) hK hN (hD.sub (ws' := [kX12 h q1 q4 q5 q6 q7 q9 q10 q11 v_24, aI y q1 60 ft, aI y q4 154 v_19]) [0, 1, 2] (by decide) rfl) (ci := 10) (q0 := 0) rfl rfl) rfl rfl hl.1 rfl (lv_room (Nat.le_of_ble_eq_true rfl)) dX12_readAll_69 ⟨Nat.le_of_ble_eq_true rfl, Nat.le_of_ble_eq_true rfl⟩) hP hD hS hA rfl rfl rfl (by decide) rfl (fun _ => rfl) (fun _ H locs hP hD hS => ?_)
            have hP : va_P G vwCl [kX12 h q1 q4 q5 q6 q7 q9 q10 q11 (s_X12_put_1_w0 0 9 v_24 ft), aI y q1 60 ft, aI y q4 154 (s_X12_put_1_w2 0 9 v_24 ft v_19 2)] H := hP
            have hD : va_D A [kX12 h q1 q4 q5 q6 q7 q9 q10 q11 (s_X12_put_1_w0 0 9 v_24 ft), aI y q1 60 ft, aI y q4 154 (s_X12_put_1_w2 0 9 v_24 ft v_19 2)] := hD
            obtain ⟨v_29, e_v_29⟩ : ∃ zq9 : Nat → Int32, zq9 = (s_X12_put_1_w0 0 9 v_24 ft) := ⟨_, rfl⟩
            obtain ⟨v_30, e_v_30⟩ : ∃ zq9 : Nat → Int32, zq9 = (s_X12_put_1_w2 0 9 v_24 ft v_19 2) := ⟨_, rfl⟩
            have hP : va_P G vwCl [kX12 h q1 q4 q5 q6 q7 q9 q10 q11 v_29, aI y q1 60 ft, aI y q4 154 v_30] H := by rw [e_v_29, e_v_30]; exact hP
            have hD : va_D A [kX12 h q1 q4 q5 q6 q7 q9 q10 q11 v_29, aI y q1 60 ft, aI y q4 154 v_30] := by rw [e_v_29, e_v_30]; exact hD
            obtain ⟨v_31, e_v_31⟩ : ∃ zq9 : Int32, zq9 = (s_X12_put_1_r 0 9 v_24 ft) := ⟨_, rfl⟩
            refine rw_i (x' := v_31) e_v_31.symm ?_
            have hf_32 : vp_in (v_29 2) 61 := by rw [e_v_29]; exact (put1_2 (by assumption))
            have hf_33 : vp_in (v_29 3) 61 := by rw [e_v_29]; exact (put1_3 (by assumption) (by assumption))
            refine lv_if_eq (tgt := 96) hx hb dX12_readAll_72 (by decide) (fun c_34 => ?_) (fun c_34 => ?_)
            · refine lv_iconst (v := 0) hx hb dX12_readAll_96 (by decide) ?_
              rw [hQQ]
              exact W.zret hx hb hr (nz_bool (Or.inl rfl)) (end_Hi () hP hD hS (by unfold s_X12_readAll_r; exact (bd_eq e_v_1 (bd_eq e_v_2 (bd_eq e_v_3 (itN c_6 (bd_eq e_v_7 (bd_eq e_v_8 (bd_eq e_v_9 (itN c_12 (bd_eq e_v_13 (bd_eq e_v_14 (itN c_17 (bd_eq e_v_18 (bd_eq e_v_19 (bd_eq e_v_20 (itN c_23 (bd_eq e_v_24 (bd_eq e_v_25 (itN c_28 (bd_eq e_v_29 (bd_eq e_v_30 (bd_eq e_v_31 (itP c_34 rfl))))))))))))))))))))))) (congr (congrArg (fun (z0 : Nat → Int32) (z2 : Nat → Int32) => [kX12 h q1 q4 q5 q6 q7 q9 q10 q11 z0, aI y q1 60 ft, aI y q4 154 z2]) (by unfold s_X12_readAll_w0; exact (bd_eq e_v_1 (bd_eq e_v_2 (bd_eq e_v_3 (itN c_6 (bd_eq e_v_7 (bd_eq e_v_8 (bd_eq e_v_9 (itN c_12 (bd_eq e_v_13 (bd_eq e_v_14 (itN c_17 (bd_eq e_v_18 (bd_eq e_v_19 (bd_eq e_v_20 (itN c_23 (bd_eq e_v_24 (bd_eq e_v_25 (itN c_28 (bd_eq e_v_29 (bd_eq e_v_30 (bd_eq e_v_31 (itP c_34 rfl)))))))))))))))))))))))) (by unfold s_X12_readAll_w2; exact (bd_eq e_v_1 (bd_eq e_v_2 (bd_eq e_v_3 (itN c_6 (bd_eq e_v_7 (bd_eq e_v_8 (bd_eq e_v_9 (itN c_12 (bd_eq e_v_13 (bd_eq e_v_14 (itN c_17 (bd_eq e_v_18 (bd_eq e_v_19 (bd_eq e_v_20 (itN c_23 (bd_eq e_v_24 (bd_eq e_v_25 (itN c_28 (bd_eq e_v_29 (bd_eq e_v_30 (bd_eq e_v_31 (itP c_34 rfl))))))))))))))))))))))))) hS.2.2 dX12_readAll_97
            · refine lv_aload_n hx hb dX12_readAll_75 rfl (lv_at hl 0 rfl) ?_
              refine lv_bipush (v := 72) hx hb dX12_readAll_76 (by decide) ?_
              refine cl_Hi (wr := [aI y q4 154 v_30]) (fun _ : Unit => [kX12 h q1 q4 q5 q6 q7 q9 q10 q11 (s_X12_eat_w0 72 v_29 ft), aI y q1 60 ft, aI y q4 154 v_30]) [0, 1] [2] [1, 2, 0] (va_runV (As := [.int 72]) (rest := []) ⟨hx, hb, hml, hown, hts⟩ (c_X12_eat l G y h 72 q1 q4 q5 q6 q7 q9 q10 q11 v_29 ft H.size (by assumption) (by assumption)) (cwV 1 hts gX12_readAll_X12_eat rfl rfl rfl (by decide +kernel) ⟨Nat.le_of_ble_eq_true rfl, Nat.le_of_ble_eq_true rfl⟩) (PH_V (hP.sub (ws' := [kX12 h q1 q4 q5 q6 q7 q9 q10 q11 v_29, aI y q1 60 ft]) [0, 1] rfl) hK hN (hD.sub (ws' := [kX12 h q1 q4 q5 q6 q7 q9 q10 q11 v_29, aI y q1 60 ft]) [0, 1] (by decide) rfl) (ci := 10) (q0 := 0) rfl rfl) rfl rfl hl.1 rfl (lv_room (Nat.le_of_ble_eq_true rfl)) dX12_readAll_78 ⟨Nat.le_of_ble_eq_true rfl, Nat.le_of_ble_eq_true rfl⟩) hP hD hS hA rfl rfl rfl (by decide) rfl (fun _ => rfl) (fun _ H locs hP hD hS => ?_)
              have hP : va_P G vwCl [kX12 h q1 q4 q5 q6 q7 q9 q10 q11 (s_X12_eat_w0 72 v_29 ft), aI y q1 60 ft, aI y q4 154 v_30] H := hP
              have hD : va_D A [kX12 h q1 q4 q5 q6 q7 q9 q10 q11 (s_X12_eat_w0 72 v_29 ft), aI y q1 60 ft, aI y q4 154 v_30] := hD
              obtain ⟨v_35, e_v_35⟩ : ∃ zq9 : Nat → Int32, zq9 = (s_X12_eat_w0 72 v_29 ft) := ⟨_, rfl⟩
              have hP : va_P G vwCl [kX12 h q1 q4 q5 q6 q7 q9 q10 q11 v_35, aI y q1 60 ft, aI y q4 154 v_30] H := by rw [e_v_35]; exact hP
              have hD : va_D A [kX12 h q1 q4 q5 q6 q7 q9 q10 q11 v_35, aI y q1 60 ft, aI y q4 154 v_30] := by rw [e_v_35]; exact hD
              obtain ⟨v_36, e_v_36⟩ : ∃ zq9 : Int32, zq9 = (s_X12_eat_r 72 v_29 ft) := ⟨_, rfl⟩
              refine rw_i (x' := v_36) e_v_36.symm ?_
              have hf_37 : vp_in (v_35 2) 61 := by rw [e_v_35]; exact (eat_2 (by assumption))
              have hf_38 : vp_in (v_35 3) 61 := by rw [e_v_35]; exact (eat_3 (by assumption) (by assumption))
              refine lv_if_eq (tgt := 96) hx hb dX12_readAll_81 (by decide) (fun c_39 => ?_) (fun c_39 => ?_)
              · refine lv_iconst (v := 0) hx hb dX12_readAll_96 (by decide) ?_
                rw [hQQ]
                exact W.zret hx hb hr (nz_bool (Or.inl rfl)) (end_Hi () hP hD hS (by unfold s_X12_readAll_r; exact (bd_eq e_v_1 (bd_eq e_v_2 (bd_eq e_v_3 (itN c_6 (bd_eq e_v_7 (bd_eq e_v_8 (bd_eq e_v_9 (itN c_12 (bd_eq e_v_13 (bd_eq e_v_14 (itN c_17 (bd_eq e_v_18 (bd_eq e_v_19 (bd_eq e_v_20 (itN c_23 (bd_eq e_v_24 (bd_eq e_v_25 (itN c_28 (bd_eq e_v_29 (bd_eq e_v_30 (bd_eq e_v_31 (itN c_34 (bd_eq e_v_35 (bd_eq e_v_36 (itP c_39 rfl)))))))))))))))))))))))))) (congr (congrArg (fun (z0 : Nat → Int32) (z2 : Nat → Int32) => [kX12 h q1 q4 q5 q6 q7 q9 q10 q11 z0, aI y q1 60 ft, aI y q4 154 z2]) (by unfold s_X12_readAll_w0; exact (bd_eq e_v_1 (bd_eq e_v_2 (bd_eq e_v_3 (itN c_6 (bd_eq e_v_7 (bd_eq e_v_8 (bd_eq e_v_9 (itN c_12 (bd_eq e_v_13 (bd_eq e_v_14 (itN c_17 (bd_eq e_v_18 (bd_eq e_v_19 (bd_eq e_v_20 (itN c_23 (bd_eq e_v_24 (bd_eq e_v_25 (itN c_28 (bd_eq e_v_29 (bd_eq e_v_30 (bd_eq e_v_31 (itN c_34 (bd_eq e_v_35 (bd_eq e_v_36 (itP c_39 rfl))))))))))))))))))))))))))) (by unfold s_X12_readAll_w2; exact (bd_eq e_v_1 (bd_eq e_v_2 (bd_eq e_v_3 (itN c_6 (bd_eq e_v_7 (bd_eq e_v_8 (bd_eq e_v_9 (itN c_12 (bd_eq e_v_13 (bd_eq e_v_14 (itN c_17 (bd_eq e_v_18 (bd_eq e_v_19 (bd_eq e_v_20 (itN c_23 (bd_eq e_v_24 (bd_eq e_v_25 (itN c_28 (bd_eq e_v_29 (bd_eq e_v_30 (bd_eq e_v_31 (itN c_34 (bd_eq e_v_35 (bd_eq e_v_36 (itP c_39 rfl)))))))))))))))))))))))))))) hS.2.2 dX12_readAll_97
              · refine lv_aload_n hx hb dX12_readAll_84 rfl (lv_at hl 0 rfl) ?_
                refine lv_iconst (v := 4) hx hb dX12_readAll_85 (by decide) ?_
                refine lv_iconst (v := 2) hx hb dX12_readAll_86 (by decide) ?_
                refine lv_iconst (v := 1) hx hb dX12_readAll_87 (by decide) ?_
                refine lv_bipush (v := 99) hx hb dX12_readAll_88 (by decide) ?_
                refine cl_Hi (wr := []) (fun _ : Unit => [kX12 h q1 q4 q5 q6 q7 q9 q10 q11 (s_X12_put_2_w0 1 99 v_35 ft), aI y q1 60 ft, aI y q4 154 (s_X12_put_2_w2 1 99 v_35 ft v_30 4)]) [0, 1, 2] [] [0, 1, 2] (va_runV (As := [.int 4, .int 2, .int 1, .int 99]) (rest := []) ⟨hx, hb, hml, hown, hts⟩ (c_X12_put_2 l G y h 4 1 99 q1 q4 q5 q6 q7 q9 q10 q11 v_35 ft v_30 4 H.size (by assumption) (by assumption) rfl (by decide)) (cwV 4 hts gX12_readAll_X12_put rfl rfl rfl (by decide +kernel) ⟨Nat.le_of_ble_eq_true rfl, Nat.le_of_ble_eq_true rfl⟩) (PH_V (hP.sub (ws' := [kX12 h q1 q4 q5 q6 q7 q9 q10 q11 v_35, aI y q1 60 ft, aI y q4 154 v_30]) [0, 1, 2] rfl) hK hN (hD.sub (ws' := [kX12 h q1 q4 q5 q6 q7 q9 q10 q11 v_35, aI y q1 60 ft, aI y q4 154 v_30]) [0, 1, 2] (by decide) rfl) (ci := 10) (q0 := 0) rfl rfl) rfl rfl hl.1 rfl (lv_room (Nat.le_of_ble_eq_true rfl)) dX12_readAll_90 ⟨Nat.le_of_ble_eq_true rfl, Nat.le_of_ble_eq_true rfl⟩) hP hD hS hA rfl rfl rfl (by decide) rfl (fun _ => rfl) (fun _ H locs hP hD hS => ?_)
                have hP : va_P G vwCl [kX12 h q1 q4 q5 q6 q7 q9 q10 q11 (s_X12_put_2_w0 1 99 v_35 ft), aI y q1 60 ft, aI y q4 154 (s_X12_put_2_w2 1 99 v_35 ft v_30 4)] H := hP
                have hD : va_D A [kX12 h q1 q4 q5 q6 q7 q9 q10 q11 (s_X12_put_2_w0 1 99 v_35 ft), aI y q1 60 ft, aI y q4 154 (s_X12_put_2_w2 1 99 v_35 ft v_30 4)] := hD
                obtain ⟨v_40, e_v_40⟩ : ∃ zq9 : Nat → Int32, zq9 = (s_X12_put_2_w0 1 99 v_35 ft) := ⟨_, rfl⟩
                obtain ⟨v_41, e_v_41⟩ : ∃ zq9 : Nat → Int32, zq9 = (s_X12_put_2_w2 1 99 v_35 ft v_30 4) := ⟨_, rfl⟩
                have hP : va_P G vwCl [kX12 h q1 q4 q5 q6 q7 q9 q10 q11 v_40, aI y q1 60 ft, aI y q4 154 v_41] H := by rw [e_v_40, e_v_41]; exact hP
                have hD : va_D A [kX12 h q1 q4 q5 q6 q7 q9 q10 q11 v_40, aI y q1 60 ft, aI y q4 154 v_41] := by rw [e_v_40, e_v_41]; exact hD
                obtain ⟨v_42, e_v_42⟩ : ∃ zq9 : Int32, zq9 = (s_X12_put_2_r 1 99 v_35 ft) := ⟨_, rfl⟩
                refine rw_i (x' := v_42) e_v_42.symm ?_
                have hf_43 : vp_in (v_40 2) 61 := by rw [e_v_40]; exact (put2_2 (by assumption))
                have hf_44 : vp_in (v_40 3) 61 := by rw [e_v_40]; exact (put2_3 (by assumption) (by assumption))
                refine lv_if_ne (tgt := 98) hx hb dX12_readAll_93 (by decide) (fun c_45 => ?_) (fun c_45 => ?_)
                · refine lv_iconst (v := 0) hx hb dX12_readAll_98 (by decide) ?_
                  refine lv_istore_n (lv' := [(1, .int 0), (0, .ref h)]) hx hb dX12_readAll_99 rfl hl (by decide) rfl (fun ls hl => ?_)
                  have LOOP100_46 : ∀ (n_47 : Nat) (t0 : Nat) (n0 : Nat) (x1 : Int32) (wx : Nat → Int32) (wr : Nat → Int32) (hx1 : x1 = nI t0) (ht0 : t0 < 16) (hn0 : 16 ≤ n0 + t0) (hw2 : vp_in (wx 2) 61) (hw3 : vp_in (wx 3) 61) (hres : RA ft n0 x1 wx wr = (RA ft 16 0 v_40 v_41)) (hn_49 : n0 < n_47) (H : Heap) (locs : List Loc) (hP : va_P G vwCl [kX12 h q1 q4 q5 q6 q7 q9 q10 q11 wx, aI y q1 60 ft, aI y q4 154 wr] H) (hD : va_D A [kX12 h q1 q4 q5 q6 q7 q9 q10 q11 wx, aI y q1 60 ft, aI y q4 154 wr]) (hS : va_S A s.heap H locs) (ls : Array Slot) (hl : lv_has ls 4 [(1, .int x1), (0, .ref h)]), W p l e (headSpec wsX12_readAll rmX12_readAll).room s m ([.ref h] : List Value).toArray below meth c H locs 0 0 QQ (F0 m 100 ls []) := by
                    intro n_47
                    induction n_47 with
                    | zero => intro t0 n0 x1 wx wr hx1 ht0 hn0 hw2 hw3 hres hn_49 H locs hP hD hS ls hl; exact absurd hn_49 (Nat.not_lt_zero _)
                    | succ n_47 ih_48 =>
                      intro t0 n0 x1 wx wr hx1 ht0 hn0 hw2 hw3 hres hn_49 H locs hP hD hS ls hl
                      obtain ⟨n1, rfl⟩ : ∃ n1, n0 = n1 + 1 := ⟨n0 - 1, by omega⟩
                      refine lv_aload_n hx hb dX12_readAll_100 rfl (lv_at hl 1 rfl) ?_
                      refine va_get (D := G) (ci := 10) (v := .int (wx 3)) (C := RX12) (T := TX12) (N := 15) hx hb hts i_X12 hown hK hP 0 rfl rfl 3 (by decide) (hts (.fieldLink RX12 122 "RelayTunerModel" "spot" "I") (by decide +kernel)) (fun _ h9 => h9) rfl dX12_readAll_101 ?_
                      refine lv_aload_n hx hb dX12_readAll_104 rfl (lv_at hl 1 rfl) ?_
                      refine va_get (D := G) (ci := 10) (v := .int (wx 2)) (C := RX12) (T := TX12) (N := 15) hx hb hts i_X12 hown hK hP 0 rfl rfl 2 (by decide) (hts (.fieldLink RX12 115 "RelayTunerModel" "textSize" "I") (by decide +kernel)) (fun _ h9 => h9) rfl dX12_readAll_105 ?_
                      refine lv_icmp_ge (tgt := 280) hx hb dX12_readAll_108 (by decide) (fun c_50 => ?_) (fun c_50 => ?_)
                      · refine lv_aload_n hx hb dX12_readAll_280 rfl (lv_at hl 1 rfl) ?_
                        refine va_get (D := G) (ci := 10) (v := .ref q4) (C := RX12) (T := TX12) (N := 15) hx hb hts i_X12 hown hK hP 0 rfl rfl 4 (by decide) (hts (.fieldLink RX12 13 "RelayTunerModel" "read" "[I") (by decide +kernel)) (fun _ h9 => h9) rfl dX12_readAll_281 ?_
                        refine lv_bipush (v := 12) hx hb dX12_readAll_284 (by decide) ?_
                        refine lv_aload_n hx hb dX12_readAll_286 rfl (lv_at hl 1 rfl) ?_
                        refine va_get (D := G) (ci := 10) (v := .ref q4) (C := RX12) (T := TX12) (N := 15) hx hb hts i_X12 hown hK hP 0 rfl rfl 4 (by decide) (hts (.fieldLink RX12 13 "RelayTunerModel" "read" "[I") (by decide +kernel)) (fun _ h9 => h9) rfl dX12_readAll_287 ?_
                        refine lv_iconst (v := 3) hx hb dX12_readAll_290 (by decide) ?_
                        refine al_i (D := G) (n := 154) (f := wr) hx hb hK hP 2 0 rfl rfl 3 rfl (by decide) (by first | decide | omega) dX12_readAll_291 ?_
                        refine as_i (D := G) (n := 154) (f := wr) hx hb hK hP hD hS 2 0 rfl rfl 12 rfl (by decide) (by first | decide | omega) dX12_readAll_292 (fun H locs hP hD hS => ?_)
                        have hP : va_P G vwCl [kX12 h q1 q4 q5 q6 q7 q9 q10 q11 wx, aI y q1 60 ft, aI y q4 154 (upd wr 12 (wr 3))] H := hP
                        have hD : va_D A [kX12 h q1 q4 q5 q6 q7 q9 q10 q11 wx, aI y q1 60 ft, aI y q4 154 (upd wr 12 (wr 3))] := hD
                        have hr9 : (RA ft 16 0 v_40 v_41) = (1, wx, upd wr 12 (wr 3)) := hres.symm.trans (RA_end c_50)
                        have hq1 : (RA ft 16 0 v_40 v_41).2.1 = wx := by rw [hr9]
                        have hq2 : (RA ft 16 0 v_40 v_41).2.2 = (upd wr 12 (wr 3)) := by rw [hr9]
                        have hP : va_P G vwCl [kX12 h q1 q4 q5 q6 q7 q9 q10 q11 ((RA ft 16 0 v_40 v_41).2.1), aI y q1 60 ft, aI y q4 154 ((RA ft 16 0 v_40 v_41).2.2)] H := by rw [hq1, hq2]; exact hP
                        have hD : va_D A [kX12 h q1 q4 q5 q6 q7 q9 q10 q11 ((RA ft 16 0 v_40 v_41).2.1), aI y q1 60 ft, aI y q4 154 ((RA ft 16 0 v_40 v_41).2.2)] := by rw [hq1, hq2]; exact hD
                        refine lv_iconst (v := 1) hx hb dX12_readAll_293 (by decide) ?_
                        refine rw_i (x' := (RA ft 16 0 v_40 v_41).1) (by rw [hr9]) ?_
                        rw [hQQ]
                        exact W.zret hx hb hr (nz_bool RA_01) (end_Hi () hP hD hS (by unfold s_X12_readAll_r; exact (bd_eq e_v_1 (bd_eq e_v_2 (bd_eq e_v_3 (itN c_6 (bd_eq e_v_7 (bd_eq e_v_8 (bd_eq e_v_9 (itN c_12 (bd_eq e_v_13 (bd_eq e_v_14 (itN c_17 (bd_eq e_v_18 (bd_eq e_v_19 (bd_eq e_v_20 (itN c_23 (bd_eq e_v_24 (bd_eq e_v_25 (itN c_28 (bd_eq e_v_29 (bd_eq e_v_30 (bd_eq e_v_31 (itN c_34 (bd_eq e_v_35 (bd_eq e_v_36 (itN c_39 (bd_eq e_v_40 (bd_eq e_v_41 (bd_eq e_v_42 (itN c_45 rfl)))))))))))))))))))))))))))))) (congr (congrArg (fun (z0 : Nat → Int32) (z2 : Nat → Int32) => [kX12 h q1 q4 q5 q6 q7 q9 q10 q11 z0, aI y q1 60 ft, aI y q4 154 z2]) (by unfold s_X12_readAll_w0; exact (bd_eq e_v_1 (bd_eq e_v_2 (bd_eq e_v_3 (itN c_6 (bd_eq e_v_7 (bd_eq e_v_8 (bd_eq e_v_9 (itN c_12 (bd_eq e_v_13 (bd_eq e_v_14 (itN c_17 (bd_eq e_v_18 (bd_eq e_v_19 (bd_eq e_v_20 (itN c_23 (bd_eq e_v_24 (bd_eq e_v_25 (itN c_28 (bd_eq e_v_29 (bd_eq e_v_30 (bd_eq e_v_31 (itN c_34 (bd_eq e_v_35 (bd_eq e_v_36 (itN c_39 (bd_eq e_v_40 (bd_eq e_v_41 (bd_eq e_v_42 (itN c_45 rfl))))))))))))))))))))))))))))))) (by unfold s_X12_readAll_w2; exact (bd_eq e_v_1 (bd_eq e_v_2 (bd_eq e_v_3 (itN c_6 (bd_eq e_v_7 (bd_eq e_v_8 (bd_eq e_v_9 (itN c_12 (bd_eq e_v_13 (bd_eq e_v_14 (itN c_17 (bd_eq e_v_18 (bd_eq e_v_19 (bd_eq e_v_20 (itN c_23 (bd_eq e_v_24 (bd_eq e_v_25 (itN c_28 (bd_eq e_v_29 (bd_eq e_v_30 (bd_eq e_v_31 (itN c_34 (bd_eq e_v_35 (bd_eq e_v_36 (itN c_39 (bd_eq e_v_40 (bd_eq e_v_41 (bd_eq e_v_42 (itN c_45 rfl)))))))))))))))))))))))))))))))) hS.2.2 dX12_readAll_294
                      · refine lv_aload_n hx hb dX12_readAll_111 rfl (lv_at hl 1 rfl) ?_
                        refine va_get (D := G) (ci := 10) (v := .ref q1) (C := RX12) (T := TX12) (N := 15) hx hb hts i_X12 hown hK hP 0 rfl rfl 1 (by decide) (hts (.fieldLink RX12 7 "RelayTunerModel" "text" "[I") (by decide +kernel)) (fun _ h9 => h9) rfl dX12_readAll_112 ?_
                        refine lv_aload_n hx hb dX12_readAll_115 rfl (lv_at hl 1 rfl) ?_
                        refine va_get (D := G) (ci := 10) (v := .int (wx 3)) (C := RX12) (T := TX12) (N := 15) hx hb hts i_X12 hown hK hP 0 rfl rfl 3 (by decide) (hts (.fieldLink RX12 122 "RelayTunerModel" "spot" "I") (by decide +kernel)) (fun _ h9 => h9) rfl dX12_readAll_116 ?_
                        refine al_i (D := G) (n := 60) (f := ft) hx hb hK hP 1 0 rfl rfl (tn (wx 3)) (spot_in (by assumption) (by assumption) c_50).1 (spot_in (by assumption) (by assumption) c_50).2 (by first | decide | omega) dX12_readAll_119 ?_
                        refine lv_bipush (v := 65) hx hb dX12_readAll_120 (by decide) ?_
                        have J185_53 : ∀ (v_52 : Int32) (e_v_52 : v_52 = (if (ft (tn (wx 3))) = 65 then 1 else (if (ft (tn (wx 3))) = 83 then 2 else (if (ft (tn (wx 3))) = 66 then 4 else (if (ft (tn (wx 3))) = 84 then 8 else 0))))) (ls : Array Slot) (hl : lv_has ls 4 [(1, .int x1), (0, .ref h)]), W p l e (headSpec wsX12_readAll rmX12_readAll).room s m ([.ref h] : List Value).toArray below meth c H locs 0 0 QQ (F0 m 185 ls [.int v_52]) := by
                          intro v_52 e_v_52 ls hl
                          refine lv_istore_n (lv' := [(2, .int v_52), (1, .int x1), (0, .ref h)]) hx hb dX12_readAll_185 rfl hl (by decide) rfl (fun ls hl => ?_)
                          have e_v_52 : v_52 = whG (ft (tn (wx 3))) := e_v_52
                          refine lv_iload_n hx hb dX12_readAll_186 rfl (lv_at hl 0 rfl) ?_
                          refine lv_if_eq (tgt := 196) hx hb dX12_readAll_187 (by decide) (fun c_54 => ?_) (fun c_54 => ?_)
                          · have hr9 : (RA ft 16 0 v_40 v_41) = (0, wx, wr) := hres.symm.trans (RA_no1 c_50 e_v_52 c_54)
                            have hq1 : (RA ft 16 0 v_40 v_41).2.1 = wx := by rw [hr9]
                            have hq2 : (RA ft 16 0 v_40 v_41).2.2 = wr := by rw [hr9]
                            have hP : va_P G vwCl [kX12 h q1 q4 q5 q6 q7 q9 q10 q11 ((RA ft 16 0 v_40 v_41).2.1), aI y q1 60 ft, aI y q4 154 ((RA ft 16 0 v_40 v_41).2.2)] H := by rw [hq1, hq2]; exact hP
                            have hD : va_D A [kX12 h q1 q4 q5 q6 q7 q9 q10 q11 ((RA ft 16 0 v_40 v_41).2.1), aI y q1 60 ft, aI y q4 154 ((RA ft 16 0 v_40 v_41).2.2)] := by rw [hq1, hq2]; exact hD
                            refine lv_iconst (v := 0) hx hb dX12_readAll_196 (by decide) ?_
                            refine rw_i (x' := (RA ft 16 0 v_40 v_41).1) (by rw [hr9]) ?_
                            rw [hQQ]
                            exact W.zret hx hb hr (nz_bool RA_01) (end_Hi () hP hD hS (by unfold s_X12_readAll_r; exact (bd_eq e_v_1 (bd_eq e_v_2 (bd_eq e_v_3 (itN c_6 (bd_eq e_v_7 (bd_eq e_v_8 (bd_eq e_v_9 (itN c_12 (bd_eq e_v_13 (bd_eq e_v_14 (itN c_17 (bd_eq e_v_18 (bd_eq e_v_19 (bd_eq e_v_20 (itN c_23 (bd_eq e_v_24 (bd_eq e_v_25 (itN c_28 (bd_eq e_v_29 (bd_eq e_v_30 (bd_eq e_v_31 (itN c_34 (bd_eq e_v_35 (bd_eq e_v_36 (itN c_39 (bd_eq e_v_40 (bd_eq e_v_41 (bd_eq e_v_42 (itN c_45 rfl)))))))))))))))))))))))))))))) (congr (congrArg (fun (z0 : Nat → Int32) (z2 : Nat → Int32) => [kX12 h q1 q4 q5 q6 q7 q9 q10 q11 z0, aI y q1 60 ft, aI y q4 154 z2]) (by unfold s_X12_readAll_w0; exact (bd_eq e_v_1 (bd_eq e_v_2 (bd_eq e_v_3 (itN c_6 (bd_eq e_v_7 (bd_eq e_v_8 (bd_eq e_v_9 (itN c_12 (bd_eq e_v_13 (bd_eq e_v_14 (itN c_17 (bd_eq e_v_18 (bd_eq e_v_19 (bd_eq e_v_20 (itN c_23 (bd_eq e_v_24 (bd_eq e_v_25 (itN c_28 (bd_eq e_v_29 (bd_eq e_v_30 (bd_eq e_v_31 (itN c_34 (bd_eq e_v_35 (bd_eq e_v_36 (itN c_39 (bd_eq e_v_40 (bd_eq e_v_41 (bd_eq e_v_42 (itN c_45 rfl))))))))))))))))))))))))))))))) (by unfold s_X12_readAll_w2; exact (bd_eq e_v_1 (bd_eq e_v_2 (bd_eq e_v_3 (itN c_6 (bd_eq e_v_7 (bd_eq e_v_8 (bd_eq e_v_9 (itN c_12 (bd_eq e_v_13 (bd_eq e_v_14 (itN c_17 (bd_eq e_v_18 (bd_eq e_v_19 (bd_eq e_v_20 (itN c_23 (bd_eq e_v_24 (bd_eq e_v_25 (itN c_28 (bd_eq e_v_29 (bd_eq e_v_30 (bd_eq e_v_31 (itN c_34 (bd_eq e_v_35 (bd_eq e_v_36 (itN c_39 (bd_eq e_v_40 (bd_eq e_v_41 (bd_eq e_v_42 (itN c_45 rfl)))))))))))))))))))))))))))))))) hS.2.2 dX12_readAll_197
                          · refine lv_iload_n hx hb dX12_readAll_190 rfl (lv_at hl 1 rfl) ?_
                            refine lv_iload_n hx hb dX12_readAll_191 rfl (lv_at hl 0 rfl) ?_
                            refine lv_iand hx hb dX12_readAll_192 ?_
                            refine lv_if_eq (tgt := 198) hx hb dX12_readAll_193 (by decide) (fun c_55 => ?_) (fun c_55 => ?_)
                            · obtain ⟨ht1, ht2, ht3⟩ := told_next hx1 ht0 e_v_52 c_54 c_55
                              refine lv_iload_n hx hb dX12_readAll_198 rfl (lv_at hl 1 rfl) ?_
                              refine lv_iload_n hx hb dX12_readAll_199 rfl (lv_at hl 0 rfl) ?_
                              refine lv_ior hx hb dX12_readAll_200 ?_
                              refine lv_istore_n (lv' := [(1, .int (x1 ||| v_52)), (2, .int v_52), (0, .ref h)]) hx hb dX12_readAll_201 rfl hl (by decide) rfl (fun ls hl => ?_)
                              refine lv_aload_n hx hb dX12_readAll_202 rfl (lv_at hl 2 rfl) ?_
                              refine lv_dup hx hb dX12_readAll_203 rfl ?_
                              refine va_get (D := G) (ci := 10) (v := .int (wx 3)) (C := RX12) (T := TX12) (N := 15) hx hb hts i_X12 hown hK hP 0 rfl rfl 3 (by decide) (hts (.fieldLink RX12 122 "RelayTunerModel" "spot" "I") (by decide +kernel)) (fun _ h9 => h9) rfl dX12_readAll_204 ?_
                              refine lv_iconst (v := 1) hx hb dX12_readAll_207 (by decide) ?_
                              refine lv_iadd hx hb dX12_readAll_208 ?_
                              refine va_put (D := G) (ci := 10) (v := .int ((wx 3) + 1)) (ty := .int) (C := RX12) (T := TX12) (N := 15) hx hb hts i_X12 tyX12 tyX12_ok nmX12 hown hK hP hD hS 0 rfl rfl 3 (by decide) (hts (.fieldLink RX12 122 "RelayTunerModel" "spot" "I") (by decide +kernel)) (fun _ h9 => h9) rfl (by decide +kernel) rfl rfl (Nat.le_of_ble_eq_true rfl) dX12_readAll_209 (fun H locs hP hD hS => ?_)
                              have hP : va_P G vwCl [kX12 h q1 q4 q5 q6 q7 q9 q10 q11 (upd wx 3 ((wx 3) + 1)), aI y q1 60 ft, aI y q4 154 wr] H := hP
                              have hD : va_D A [kX12 h q1 q4 q5 q6 q7 q9 q10 q11 (upd wx 3 ((wx 3) + 1)), aI y q1 60 ft, aI y q4 154 wr] := hD
                              have hy2 : vp_in ((upd wx 3 ((wx 3) + 1)) 2) 61 := hw2
                              have hy3 : vp_in ((upd wx 3 ((wx 3) + 1)) 3) 61 := spot_next hw3 hw2 c_50
                              refine lv_iload_n hx hb dX12_readAll_212 rfl (lv_at hl 1 rfl) ?_
                              refine lv_iconst (v := 1) hx hb dX12_readAll_213 (by decide) ?_
                              have J270_61 : ∀ (v_57 : Int32) (v_58 : Nat → Int32) (v_59 : Nat → Int32) (e_v_57 : v_57 = (if v_52 = 1 then (bd ((s_X12_readAmbient_r (upd wx 3 ((wx 3) + 1)) ft)) (fun (v_76 : Int32) => v_76)) else (if v_52 = 2 then (bd ((s_X12_put_3_r 0 999 (upd wx 3 ((wx 3) + 1)) ft)) (fun (v_71 : Int32) => v_71)) else (if v_52 = 4 then (bd ((s_X12_put_2_r 0 20 (upd wx 3 ((wx 3) + 1)) ft)) (fun (v_66 : Int32) => v_66)) else (bd ((s_X12_put_2_r 0 99 (upd wx 3 ((wx 3) + 1)) ft)) (fun (v_61 : Int32) => v_61)))))) (e_v_58 : v_58 = (if v_52 = 1 then (bd ((s_X12_readAmbient_w0 (upd wx 3 ((wx 3) + 1)) ft)) (fun (v_74 : Nat → Int32) => v_74)) else (if v_52 = 2 then (bd ((s_X12_put_3_w0 0 999 (upd wx 3 ((wx 3) + 1)) ft)) (fun (v_69 : Nat → Int32) => v_69)) else (if v_52 = 4 then (bd ((s_X12_put_2_w0 0 20 (upd wx 3 ((wx 3) + 1)) ft)) (fun (v_64 : Nat → Int32) => v_64)) else (bd ((s_X12_put_2_w0 0 99 (upd wx 3 ((wx 3) + 1)) ft)) (fun (v_59 : Nat → Int32) => v_59)))))) (e_v_59 : v_59 = (if v_52 = 1 then (bd ((s_X12_readAmbient_w2 (upd wx 3 ((wx 3) + 1)) ft wr)) (fun (v_75 : Nat → Int32) => v_75)) else (if v_52 = 2 then (bd ((s_X12_put_3_w2 0 999 (upd wx 3 ((wx 3) + 1)) ft wr 5)) (fun (v_70 : Nat → Int32) => v_70)) else (if v_52 = 4 then (bd ((s_X12_put_2_w2 0 20 (upd wx 3 ((wx 3) + 1)) ft wr 6)) (fun (v_65 : Nat → Int32) => v_65)) else (bd ((s_X12_put_2_w2 0 99 (upd wx 3 ((wx 3) + 1)) ft wr 7)) (fun (v_60 : Nat → Int32) => v_60)))))) (z_60 : v_57 = 0 ∨ v_57 = 1) (H : Heap) (locs : List Loc) (hP : va_P G vwCl [kX12 h q1 q4 q5 q6 q7 q9 q10 q11 v_58, aI y q1 60 ft, aI y q4 154 v_59] H) (hD : va_D A [kX12 h q1 q4 q5 q6 q7 q9 q10 q11 v_58, aI y q1 60 ft, aI y q4 154 v_59]) (hS : va_S A s.heap H locs) (ls : Array Slot) (hl : lv_has ls 4 [(1, .int (x1 ||| v_52)), (0, .ref h)]), W p l e (headSpec wsX12_readAll rmX12_readAll).room s m ([.ref h] : List Value).toArray below meth c H locs 0 0 QQ (F0 m 270 ls [.int v_57]) := by
                                intro v_57 v_58 v_59 e_v_57 e_v_58 e_v_59 z_60 H locs hP hD hS ls hl
                                refine lv_istore_n (lv' := [(3, .int v_57), (1, .int (x1 ||| v_52)), (0, .ref h)]) hx hb dX12_readAll_270 rfl hl (by decide) rfl (fun ls hl => ?_)
                                have e_v_57 : v_57 = paA v_52 (upd wx 3 ((wx 3) + 1)) ft := by rw [e_v_57]; unfold paA; simp only [bd]
                                have e_v_58 : v_58 = paX v_52 (upd wx 3 ((wx 3) + 1)) ft := by rw [e_v_58]; unfold paX; simp only [bd]
                                have e_v_59 : v_59 = paF v_52 (upd wx 3 ((wx 3) + 1)) ft wr := by rw [e_v_59]; unfold paF; simp only [bd]
                                refine lv_iload_n hx hb dX12_readAll_271 rfl (lv_at hl 0 rfl) ?_
                                refine lv_if_ne (tgt := 277) hx hb dX12_readAll_272 (by decide) (fun c_62 => ?_) (fun c_62 => ?_)
                                · refine lv_goto (tgt := 100) hx hb dX12_readAll_277 (by decide) ?_
                                  exact ih_48 (tn (x1 ||| v_52)) n1 (x1 ||| v_52) v_58 v_59 ht1 ht3 (by omega) (by rw [e_v_58, paX_2e]; exact hw2) (by rw [e_v_58]; exact paX_3 hy2 hy3) (by rw [e_v_58, e_v_59]; exact (RA_go c_50 e_v_52 c_54 c_55 (by rw [← e_v_57]; exact c_62)).symm.trans hres) (by omega) H locs hP hD hS ls (lv_sub hl [1, 2] rfl)
                                · have hr9 : (RA ft 16 0 v_40 v_41) = (0, v_58, v_59) := hres.symm.trans (by rw [e_v_58, e_v_59]; exact RA_no3 c_50 e_v_52 c_54 c_55 (by rw [← e_v_57]; exact c_62))
                                  have hq1 : (RA ft 16 0 v_40 v_41).2.1 = v_58 := by rw [hr9]
                                  have hq2 : (RA ft 16 0 v_40 v_41).2.2 = v_59 := by rw [hr9]
                                  have hP : va_P G vwCl [kX12 h q1 q4 q5 q6 q7 q9 q10 q11 ((RA ft 16 0 v_40 v_41).2.1), aI y q1 60 ft, aI y q4 154 ((RA ft 16 0 v_40 v_41).2.2)] H := by rw [hq1, hq2]; exact hP
                                  have hD : va_D A [kX12 h q1 q4 q5 q6 q7 q9 q10 q11 ((RA ft 16 0 v_40 v_41).2.1), aI y q1 60 ft, aI y q4 154 ((RA ft 16 0 v_40 v_41).2.2)] := by rw [hq1, hq2]; exact hD
                                  refine lv_iconst (v := 0) hx hb dX12_readAll_275 (by decide) ?_
                                  refine rw_i (x' := (RA ft 16 0 v_40 v_41).1) (by rw [hr9]) ?_
                                  rw [hQQ]
                                  exact W.zret hx hb hr (nz_bool RA_01) (end_Hi () hP hD hS (by unfold s_X12_readAll_r; exact (bd_eq e_v_1 (bd_eq e_v_2 (bd_eq e_v_3 (itN c_6 (bd_eq e_v_7 (bd_eq e_v_8 (bd_eq e_v_9 (itN c_12 (bd_eq e_v_13 (bd_eq e_v_14 (itN c_17 (bd_eq e_v_18 (bd_eq e_v_19 (bd_eq e_v_20 (itN c_23 (bd_eq e_v_24 (bd_eq e_v_25 (itN c_28 (bd_eq e_v_29 (bd_eq e_v_30 (bd_eq e_v_31 (itN c_34 (bd_eq e_v_35 (bd_eq e_v_36 (itN c_39 (bd_eq e_v_40 (bd_eq e_v_41 (bd_eq e_v_42 (itN c_45 rfl)))))))))))))))))))))))))))))) (congr (congrArg (fun (z0 : Nat → Int32) (z2 : Nat → Int32) => [kX12 h q1 q4 q5 q6 q7 q9 q10 q11 z0, aI y q1 60 ft, aI y q4 154 z2]) (by unfold s_X12_readAll_w0; exact (bd_eq e_v_1 (bd_eq e_v_2 (bd_eq e_v_3 (itN c_6 (bd_eq e_v_7 (bd_eq e_v_8 (bd_eq e_v_9 (itN c_12 (bd_eq e_v_13 (bd_eq e_v_14 (itN c_17 (bd_eq e_v_18 (bd_eq e_v_19 (bd_eq e_v_20 (itN c_23 (bd_eq e_v_24 (bd_eq e_v_25 (itN c_28 (bd_eq e_v_29 (bd_eq e_v_30 (bd_eq e_v_31 (itN c_34 (bd_eq e_v_35 (bd_eq e_v_36 (itN c_39 (bd_eq e_v_40 (bd_eq e_v_41 (bd_eq e_v_42 (itN c_45 rfl))))))))))))))))))))))))))))))) (by unfold s_X12_readAll_w2; exact (bd_eq e_v_1 (bd_eq e_v_2 (bd_eq e_v_3 (itN c_6 (bd_eq e_v_7 (bd_eq e_v_8 (bd_eq e_v_9 (itN c_12 (bd_eq e_v_13 (bd_eq e_v_14 (itN c_17 (bd_eq e_v_18 (bd_eq e_v_19 (bd_eq e_v_20 (itN c_23 (bd_eq e_v_24 (bd_eq e_v_25 (itN c_28 (bd_eq e_v_29 (bd_eq e_v_30 (bd_eq e_v_31 (itN c_34 (bd_eq e_v_35 (bd_eq e_v_36 (itN c_39 (bd_eq e_v_40 (bd_eq e_v_41 (bd_eq e_v_42 (itN c_45 rfl)))))))))))))))))))))))))))))))) hS.2.2 dX12_readAll_276
                              refine lv_icmp_ne (tgt := 224) hx hb dX12_readAll_214 (by decide) (fun c_56 => ?_) (fun c_56 => ?_)
                              · refine lv_iload_n hx hb dX12_readAll_224 rfl (lv_at hl 1 rfl) ?_
                                refine lv_iconst (v := 2) hx hb dX12_readAll_225 (by decide) ?_
                                refine lv_icmp_ne (tgt := 242) hx hb dX12_readAll_226 (by decide) (fun c_63 => ?_) (fun c_63 => ?_)
                                · refine lv_iload_n hx hb dX12_readAll_242 rfl (lv_at hl 1 rfl) ?_
                                  refine lv_iconst (v := 4) hx hb dX12_readAll_243 (by decide) ?_
                                  refine lv_icmp_ne (tgt := 260) hx hb dX12_readAll_244 (by decide) (fun c_64 => ?_) (fun c_64 => ?_)
                                  · refine lv_aload_n hx hb dX12_readAll_260 rfl (lv_at hl 2 rfl) ?_
                                    refine lv_bipush (v := 7) hx hb dX12_readAll_261 (by decide) ?_
                                    refine lv_iconst (v := 2) hx hb dX12_readAll_263 (by decide) ?_
                                    refine lv_iconst (v := 0) hx hb dX12_readAll_264 (by decide) ?_
                                    refine lv_bipush (v := 99) hx hb dX12_readAll_265 (by decide) ?_
                                    refine cl_Hi (wr := []) (fun _ : Unit => [kX12 h q1 q4 q5 q6 q7 q9 q10 q11 (s_X12_put_2_w0 0 99 (upd wx 3 ((wx 3) + 1)) ft), aI y q1 60 ft, aI y q4 154 (s_X12_put_2_w2 0 99 (upd wx 3 ((wx 3) + 1)) ft wr 7)]) [0, 1, 2] [] [0, 1, 2] (va_runV (As := [.int 7, .int 2, .int 0, .int 99]) (rest := []) ⟨hx, hb, hml, hown, hts⟩ (c_X12_put_2 l G y h 7 0 99 q1 q4 q5 q6 q7 q9 q10 q11 (upd wx 3 ((wx 3) + 1)) ft wr 7 H.size (by assumption) (by assumption) rfl (by decide)) (cwV 4 hts gX12_readAll_X12_put rfl rfl rfl (by decide +kernel) ⟨Nat.le_of_ble_eq_true rfl, Nat.le_of_ble_eq_true rfl⟩) (PH_V (hP.sub (ws' := [kX12 h q1 q4 q5 q6 q7 q9 q10 q11 (upd wx 3 ((wx 3) + 1)), aI y q1 60 ft, aI y q4 154 wr]) [0, 1, 2] rfl) hK hN (hD.sub (ws' := [kX12 h q1 q4 q5 q6 q7 q9 q10 q11 (upd wx 3 ((wx 3) + 1)), aI y q1 60 ft, aI y q4 154 wr]) [0, 1, 2] (by decide) rfl) (ci := 10) (q0 := 0) rfl rfl) rfl rfl hl.1 rfl (lv_room (Nat.le_of_ble_eq_true rfl)) dX12_readAll_267 ⟨Nat.le_of_ble_eq_true rfl, Nat.le_of_ble_eq_true rfl⟩) hP hD hS hA rfl rfl rfl (by decide) rfl (fun _ => rfl) (fun _ H locs hP hD hS => ?_)
                                    have hP : va_P G vwCl [kX12 h q1 q4 q5 q6 q7 q9 q10 q11 (s_X12_put_2_w0 0 99 (upd wx 3 ((wx 3) + 1)) ft), aI y q1 60 ft, aI y q4 154 (s_X12_put_2_w2 0 99 (upd wx 3 ((wx 3) + 1)) ft wr 7)] H := hP
                                    have hD : va_D A [kX12 h q1 q4 q5 q6 q7 q9 q10 q11 (s_X12_put_2_w0 0 99 (upd wx 3 ((wx 3) + 1)) ft), aI y q1 60 ft, aI y q4 154 (s_X12_put_2_w2 0 99 (upd wx 3 ((wx 3) + 1)) ft wr 7)] := hD
                                    obtain ⟨v_65, e_v_65⟩ : ∃ zq9 : Nat → Int32, zq9 = (s_X12_put_2_w0 0 99 (upd wx 3 ((wx 3) + 1)) ft) := ⟨_, rfl⟩
                                    obtain ⟨v_66, e_v_66⟩ : ∃ zq9 : Nat → Int32, zq9 = (s_X12_put_2_w2 0 99 (upd wx 3 ((wx 3) + 1)) ft wr 7) := ⟨_, rfl⟩
                                    have hP : va_P G vwCl [kX12 h q1 q4 q5 q6 q7 q9 q10 q11 v_65, aI y q1 60 ft, aI y q4 154 v_66] H := by rw [e_v_65, e_v_66]; exact hP
                                    have hD : va_D A [kX12 h q1 q4 q5 q6 q7 q9 q10 q11 v_65, aI y q1 60 ft, aI y q4 154 v_66] := by rw [e_v_65, e_v_66]; exact hD
                                    obtain ⟨v_67, e_v_67⟩ : ∃ zq9 : Int32, zq9 = (s_X12_put_2_r 0 99 (upd wx 3 ((wx 3) + 1)) ft) := ⟨_, rfl⟩
                                    refine rw_i (x' := v_67) e_v_67.symm ?_
                                    have hf_68 : vp_in (v_65 2) 61 := by rw [e_v_65]; exact (put2_2 (by assumption))
                                    have hf_69 : vp_in (v_65 3) 61 := by rw [e_v_65]; exact (put2_3 (by assumption) (by assumption))
                                    exact J270_61 _ _ _ (itN c_56 (itN c_63 (itN c_64 (bd_eq e_v_67 rfl)))) (itN c_56 (itN c_63 (itN c_64 (bd_eq e_v_65 rfl)))) (itN c_56 (itN c_63 (itN c_64 (bd_eq e_v_66 rfl)))) (by rw [e_v_67]; exact (z_X12_put_2 0 99 (upd wx 3 ((wx 3) + 1)) ft)) H locs hP hD hS ls (lv_sub hl [0, 2] rfl)
                                  · refine lv_aload_n hx hb dX12_readAll_247 rfl (lv_at hl 2 rfl) ?_
                                    refine lv_bipush (v := 6) hx hb dX12_readAll_248 (by decide) ?_
                                    refine lv_iconst (v := 2) hx hb dX12_readAll_250 (by decide) ?_
                                    refine lv_iconst (v := 0) hx hb dX12_readAll_251 (by decide) ?_
                                    refine lv_bipush (v := 20) hx hb dX12_readAll_252 (by decide) ?_
                                    refine cl_Hi (wr := []) (fun _ : Unit => [kX12 h q1 q4 q5 q6 q7 q9 q10 q11 (s_X12_put_2_w0 0 20 (upd wx 3 ((wx 3) + 1)) ft), aI y q1 60 ft, aI y q4 154 (s_X12_put_2_w2 0 20 (upd wx 3 ((wx 3) + 1)) ft wr 6)]) [0, 1, 2] [] [0, 1, 2] (va_runV (As := [.int 6, .int 2, .int 0, .int 20]) (rest := []) ⟨hx, hb, hml, hown, hts⟩ (c_X12_put_2 l G y h 6 0 20 q1 q4 q5 q6 q7 q9 q10 q11 (upd wx 3 ((wx 3) + 1)) ft wr 6 H.size (by assumption) (by assumption) rfl (by decide)) (cwV 4 hts gX12_readAll_X12_put rfl rfl rfl (by decide +kernel) ⟨Nat.le_of_ble_eq_true rfl, Nat.le_of_ble_eq_true rfl⟩) (PH_V (hP.sub (ws' := [kX12 h q1 q4 q5 q6 q7 q9 q10 q11 (upd wx 3 ((wx 3) + 1)), aI y q1 60 ft, aI y q4 154 wr]) [0, 1, 2] rfl) hK hN (hD.sub (ws' := [kX12 h q1 q4 q5 q6 q7 q9 q10 q11 (upd wx 3 ((wx 3) + 1)), aI y q1 60 ft, aI y q4 154 wr]) [0, 1, 2] (by decide) rfl) (ci := 10) (q0 := 0) rfl rfl) rfl rfl hl.1 rfl (lv_room (Nat.le_of_ble_eq_true rfl)) dX12_readAll_254 ⟨Nat.le_of_ble_eq_true rfl, Nat.le_of_ble_eq_true rfl⟩) hP hD hS hA rfl rfl rfl (by decide) rfl (fun _ => rfl) (fun _ H locs hP hD hS => ?_)
                                    have hP : va_P G vwCl [kX12 h q1 q4 q5 q6 q7 q9 q10 q11 (s_X12_put_2_w0 0 20 (upd wx 3 ((wx 3) + 1)) ft), aI y q1 60 ft, aI y q4 154 (s_X12_put_2_w2 0 20 (upd wx 3 ((wx 3) + 1)) ft wr 6)] H := hP
                                    have hD : va_D A [kX12 h q1 q4 q5 q6 q7 q9 q10 q11 (s_X12_put_2_w0 0 20 (upd wx 3 ((wx 3) + 1)) ft), aI y q1 60 ft, aI y q4 154 (s_X12_put_2_w2 0 20 (upd wx 3 ((wx 3) + 1)) ft wr 6)] := hD
                                    obtain ⟨v_70, e_v_70⟩ : ∃ zq9 : Nat → Int32, zq9 = (s_X12_put_2_w0 0 20 (upd wx 3 ((wx 3) + 1)) ft) := ⟨_, rfl⟩
                                    obtain ⟨v_71, e_v_71⟩ : ∃ zq9 : Nat → Int32, zq9 = (s_X12_put_2_w2 0 20 (upd wx 3 ((wx 3) + 1)) ft wr 6) := ⟨_, rfl⟩
                                    have hP : va_P G vwCl [kX12 h q1 q4 q5 q6 q7 q9 q10 q11 v_70, aI y q1 60 ft, aI y q4 154 v_71] H := by rw [e_v_70, e_v_71]; exact hP
                                    have hD : va_D A [kX12 h q1 q4 q5 q6 q7 q9 q10 q11 v_70, aI y q1 60 ft, aI y q4 154 v_71] := by rw [e_v_70, e_v_71]; exact hD
                                    obtain ⟨v_72, e_v_72⟩ : ∃ zq9 : Int32, zq9 = (s_X12_put_2_r 0 20 (upd wx 3 ((wx 3) + 1)) ft) := ⟨_, rfl⟩
                                    refine rw_i (x' := v_72) e_v_72.symm ?_
                                    have hf_73 : vp_in (v_70 2) 61 := by rw [e_v_70]; exact (put2_2 (by assumption))
                                    have hf_74 : vp_in (v_70 3) 61 := by rw [e_v_70]; exact (put2_3 (by assumption) (by assumption))
                                    refine lv_goto (tgt := 270) hx hb dX12_readAll_257 (by decide) ?_
                                    exact J270_61 _ _ _ (itN c_56 (itN c_63 (itP c_64 (bd_eq e_v_72 rfl)))) (itN c_56 (itN c_63 (itP c_64 (bd_eq e_v_70 rfl)))) (itN c_56 (itN c_63 (itP c_64 (bd_eq e_v_71 rfl)))) (by rw [e_v_72]; exact (z_X12_put_2 0 20 (upd wx 3 ((wx 3) + 1)) ft)) H locs hP hD hS ls (lv_sub hl [0, 2] rfl)
                                · refine lv_aload_n hx hb dX12_readAll_229 rfl (lv_at hl 2 rfl) ?_
                                  refine lv_iconst (v := 5) hx hb dX12_readAll_230 (by decide) ?_
                                  refine lv_iconst (v := 3) hx hb dX12_readAll_231 (by decide) ?_
                                  refine lv_iconst (v := 0) hx hb dX12_readAll_232 (by decide) ?_
                                  refine lv_sipush (v := 999) hx hb dX12_readAll_233 (by decide) ?_
                                  refine cl_Hi (wr := []) (fun _ : Unit => [kX12 h q1 q4 q5 q6 q7 q9 q10 q11 (s_X12_put_3_w0 0 999 (upd wx 3 ((wx 3) + 1)) ft), aI y q1 60 ft, aI y q4 154 (s_X12_put_3_w2 0 999 (upd wx 3 ((wx 3) + 1)) ft wr 5)]) [0, 1, 2] [] [0, 1, 2] (va_runV (As := [.int 5, .int 3, .int 0, .int 999]) (rest := []) ⟨hx, hb, hml, hown, hts⟩ (c_X12_put_3 l G y h 5 0 999 q1 q4 q5 q6 q7 q9 q10 q11 (upd wx 3 ((wx 3) + 1)) ft wr 5 H.size (by assumption) (by assumption) rfl (by decide)) (cwV 4 hts gX12_readAll_X12_put rfl rfl rfl (by decide +kernel) ⟨Nat.le_of_ble_eq_true rfl, Nat.le_of_ble_eq_true rfl⟩) (PH_V (hP.sub (ws' := [kX12 h q1 q4 q5 q6 q7 q9 q10 q11 (upd wx 3 ((wx 3) + 1)), aI y q1 60 ft, aI y q4 154 wr]) [0, 1, 2] rfl) hK hN (hD.sub (ws' := [kX12 h q1 q4 q5 q6 q7 q9 q10 q11 (upd wx 3 ((wx 3) + 1)), aI y q1 60 ft, aI y q4 154 wr]) [0, 1, 2] (by decide) rfl) (ci := 10) (q0 := 0) rfl rfl) rfl rfl hl.1 rfl (lv_room (Nat.le_of_ble_eq_true rfl)) dX12_readAll_236 ⟨Nat.le_of_ble_eq_true rfl, Nat.le_of_ble_eq_true rfl⟩) hP hD hS hA rfl rfl rfl (by decide) rfl (fun _ => rfl) (fun _ H locs hP hD hS => ?_)
                                  have hP : va_P G vwCl [kX12 h q1 q4 q5 q6 q7 q9 q10 q11 (s_X12_put_3_w0 0 999 (upd wx 3 ((wx 3) + 1)) ft), aI y q1 60 ft, aI y q4 154 (s_X12_put_3_w2 0 999 (upd wx 3 ((wx 3) + 1)) ft wr 5)] H := hP
                                  have hD : va_D A [kX12 h q1 q4 q5 q6 q7 q9 q10 q11 (s_X12_put_3_w0 0 999 (upd wx 3 ((wx 3) + 1)) ft), aI y q1 60 ft, aI y q4 154 (s_X12_put_3_w2 0 999 (upd wx 3 ((wx 3) + 1)) ft wr 5)] := hD
                                  obtain ⟨v_75, e_v_75⟩ : ∃ zq9 : Nat → Int32, zq9 = (s_X12_put_3_w0 0 999 (upd wx 3 ((wx 3) + 1)) ft) := ⟨_, rfl⟩
                                  obtain ⟨v_76, e_v_76⟩ : ∃ zq9 : Nat → Int32, zq9 = (s_X12_put_3_w2 0 999 (upd wx 3 ((wx 3) + 1)) ft wr 5) := ⟨_, rfl⟩
                                  have hP : va_P G vwCl [kX12 h q1 q4 q5 q6 q7 q9 q10 q11 v_75, aI y q1 60 ft, aI y q4 154 v_76] H := by rw [e_v_75, e_v_76]; exact hP
                                  have hD : va_D A [kX12 h q1 q4 q5 q6 q7 q9 q10 q11 v_75, aI y q1 60 ft, aI y q4 154 v_76] := by rw [e_v_75, e_v_76]; exact hD
                                  obtain ⟨v_77, e_v_77⟩ : ∃ zq9 : Int32, zq9 = (s_X12_put_3_r 0 999 (upd wx 3 ((wx 3) + 1)) ft) := ⟨_, rfl⟩
                                  refine rw_i (x' := v_77) e_v_77.symm ?_
                                  have hf_78 : vp_in (v_75 2) 61 := by rw [e_v_75]; exact (put3_2 (by assumption))
                                  have hf_79 : vp_in (v_75 3) 61 := by rw [e_v_75]; exact (put3_3 (by assumption) (by assumption))
                                  refine lv_goto (tgt := 270) hx hb dX12_readAll_239 (by decide) ?_
                                  exact J270_61 _ _ _ (itN c_56 (itP c_63 (bd_eq e_v_77 rfl))) (itN c_56 (itP c_63 (bd_eq e_v_75 rfl))) (itN c_56 (itP c_63 (bd_eq e_v_76 rfl))) (by rw [e_v_77]; exact (z_X12_put_3 0 999 (upd wx 3 ((wx 3) + 1)) ft)) H locs hP hD hS ls (lv_sub hl [0, 2] rfl)
                              · refine lv_aload_n hx hb dX12_readAll_217 rfl (lv_at hl 2 rfl) ?_
                                refine cl_Hi (wr := []) (fun _ : Unit => [kX12 h q1 q4 q5 q6 q7 q9 q10 q11 (s_X12_readAmbient_w0 (upd wx 3 ((wx 3) + 1)) ft), aI y q1 60 ft, aI y q4 154 (s_X12_readAmbient_w2 (upd wx 3 ((wx 3) + 1)) ft wr)]) [0, 1, 2] [] [0, 1, 2] (va_runV (As := []) (rest := []) ⟨hx, hb, hml, hown, hts⟩ (c_X12_readAmbient l G y h q1 q4 q5 q6 q7 q9 q10 q11 (upd wx 3 ((wx 3) + 1)) ft wr H.size (by assumption) (by assumption)) (cwV 0 hts gX12_readAll_X12_readAmbient rfl rfl rfl (by decide +kernel) ⟨Nat.le_of_ble_eq_true rfl, Nat.le_of_ble_eq_true rfl⟩) (PH_V (hP.sub (ws' := [kX12 h q1 q4 q5 q6 q7 q9 q10 q11 (upd wx 3 ((wx 3) + 1)), aI y q1 60 ft, aI y q4 154 wr]) [0, 1, 2] rfl) hK hN (hD.sub (ws' := [kX12 h q1 q4 q5 q6 q7 q9 q10 q11 (upd wx 3 ((wx 3) + 1)), aI y q1 60 ft, aI y q4 154 wr]) [0, 1, 2] (by decide) rfl) (ci := 10) (q0 := 0) rfl rfl) rfl rfl hl.1 rfl (lv_room (Nat.le_of_ble_eq_true rfl)) dX12_readAll_218 ⟨Nat.le_of_ble_eq_true rfl, Nat.le_of_ble_eq_true rfl⟩) hP hD hS hA rfl rfl rfl (by decide) rfl (fun _ => rfl) (fun _ H locs hP hD hS => ?_)
                                have hP : va_P G vwCl [kX12 h q1 q4 q5 q6 q7 q9 q10 q11 (s_X12_readAmbient_w0 (upd wx 3 ((wx 3) + 1)) ft), aI y q1 60 ft, aI y q4 154 (s_X12_readAmbient_w2 (upd wx 3 ((wx 3) + 1)) ft wr)] H := hP
                                have hD : va_D A [kX12 h q1 q4 q5 q6 q7 q9 q10 q11 (s_X12_readAmbient_w0 (upd wx 3 ((wx 3) + 1)) ft), aI y q1 60 ft, aI y q4 154 (s_X12_readAmbient_w2 (upd wx 3 ((wx 3) + 1)) ft wr)] := hD
                                obtain ⟨v_80, e_v_80⟩ : ∃ zq9 : Nat → Int32, zq9 = (s_X12_readAmbient_w0 (upd wx 3 ((wx 3) + 1)) ft) := ⟨_, rfl⟩
                                obtain ⟨v_81, e_v_81⟩ : ∃ zq9 : Nat → Int32, zq9 = (s_X12_readAmbient_w2 (upd wx 3 ((wx 3) + 1)) ft wr) := ⟨_, rfl⟩
                                have hP : va_P G vwCl [kX12 h q1 q4 q5 q6 q7 q9 q10 q11 v_80, aI y q1 60 ft, aI y q4 154 v_81] H := by rw [e_v_80, e_v_81]; exact hP
                                have hD : va_D A [kX12 h q1 q4 q5 q6 q7 q9 q10 q11 v_80, aI y q1 60 ft, aI y q4 154 v_81] := by rw [e_v_80, e_v_81]; exact hD
                                obtain ⟨v_82, e_v_82⟩ : ∃ zq9 : Int32, zq9 = (s_X12_readAmbient_r (upd wx 3 ((wx 3) + 1)) ft) := ⟨_, rfl⟩
                                refine rw_i (x' := v_82) e_v_82.symm ?_
                                have hf_83 : vp_in (v_80 2) 61 := by rw [e_v_80]; exact (rAm_2 (by assumption) (by assumption))
                                have hf_84 : vp_in (v_80 3) 61 := by rw [e_v_80]; exact (rAm_3 (by assumption) (by assumption))
                                refine lv_goto (tgt := 270) hx hb dX12_readAll_221 (by decide) ?_
                                exact J270_61 _ _ _ (itP c_56 (bd_eq e_v_82 rfl)) (itP c_56 (bd_eq e_v_80 rfl)) (itP c_56 (bd_eq e_v_81 rfl)) (by rw [e_v_82]; exact (z_X12_readAmbient (upd wx 3 ((wx 3) + 1)) ft)) H locs hP hD hS ls (lv_sub hl [0, 2] rfl)
                            · have hr9 : (RA ft 16 0 v_40 v_41) = (0, wx, wr) := hres.symm.trans (RA_no2 c_50 e_v_52 c_54 c_55)
                              have hq1 : (RA ft 16 0 v_40 v_41).2.1 = wx := by rw [hr9]
                              have hq2 : (RA ft 16 0 v_40 v_41).2.2 = wr := by rw [hr9]
                              have hP : va_P G vwCl [kX12 h q1 q4 q5 q6 q7 q9 q10 q11 ((RA ft 16 0 v_40 v_41).2.1), aI y q1 60 ft, aI y q4 154 ((RA ft 16 0 v_40 v_41).2.2)] H := by rw [hq1, hq2]; exact hP
                              have hD : va_D A [kX12 h q1 q4 q5 q6 q7 q9 q10 q11 ((RA ft 16 0 v_40 v_41).2.1), aI y q1 60 ft, aI y q4 154 ((RA ft 16 0 v_40 v_41).2.2)] := by rw [hq1, hq2]; exact hD
                              refine lv_iconst (v := 0) hx hb dX12_readAll_196 (by decide) ?_
                              refine rw_i (x' := (RA ft 16 0 v_40 v_41).1) (by rw [hr9]) ?_
                              rw [hQQ]
                              exact W.zret hx hb hr (nz_bool RA_01) (end_Hi () hP hD hS (by unfold s_X12_readAll_r; exact (bd_eq e_v_1 (bd_eq e_v_2 (bd_eq e_v_3 (itN c_6 (bd_eq e_v_7 (bd_eq e_v_8 (bd_eq e_v_9 (itN c_12 (bd_eq e_v_13 (bd_eq e_v_14 (itN c_17 (bd_eq e_v_18 (bd_eq e_v_19 (bd_eq e_v_20 (itN c_23 (bd_eq e_v_24 (bd_eq e_v_25 (itN c_28 (bd_eq e_v_29 (bd_eq e_v_30 (bd_eq e_v_31 (itN c_34 (bd_eq e_v_35 (bd_eq e_v_36 (itN c_39 (bd_eq e_v_40 (bd_eq e_v_41 (bd_eq e_v_42 (itN c_45 rfl)))))))))))))))))))))))))))))) (congr (congrArg (fun (z0 : Nat → Int32) (z2 : Nat → Int32) => [kX12 h q1 q4 q5 q6 q7 q9 q10 q11 z0, aI y q1 60 ft, aI y q4 154 z2]) (by unfold s_X12_readAll_w0; exact (bd_eq e_v_1 (bd_eq e_v_2 (bd_eq e_v_3 (itN c_6 (bd_eq e_v_7 (bd_eq e_v_8 (bd_eq e_v_9 (itN c_12 (bd_eq e_v_13 (bd_eq e_v_14 (itN c_17 (bd_eq e_v_18 (bd_eq e_v_19 (bd_eq e_v_20 (itN c_23 (bd_eq e_v_24 (bd_eq e_v_25 (itN c_28 (bd_eq e_v_29 (bd_eq e_v_30 (bd_eq e_v_31 (itN c_34 (bd_eq e_v_35 (bd_eq e_v_36 (itN c_39 (bd_eq e_v_40 (bd_eq e_v_41 (bd_eq e_v_42 (itN c_45 rfl))))))))))))))))))))))))))))))) (by unfold s_X12_readAll_w2; exact (bd_eq e_v_1 (bd_eq e_v_2 (bd_eq e_v_3 (itN c_6 (bd_eq e_v_7 (bd_eq e_v_8 (bd_eq e_v_9 (itN c_12 (bd_eq e_v_13 (bd_eq e_v_14 (itN c_17 (bd_eq e_v_18 (bd_eq e_v_19 (bd_eq e_v_20 (itN c_23 (bd_eq e_v_24 (bd_eq e_v_25 (itN c_28 (bd_eq e_v_29 (bd_eq e_v_30 (bd_eq e_v_31 (itN c_34 (bd_eq e_v_35 (bd_eq e_v_36 (itN c_39 (bd_eq e_v_40 (bd_eq e_v_41 (bd_eq e_v_42 (itN c_45 rfl)))))))))))))))))))))))))))))))) hS.2.2 dX12_readAll_197
                        refine lv_icmp_ne (tgt := 129) hx hb dX12_readAll_122 (by decide) (fun c_51 => ?_) (fun c_51 => ?_)
                        · refine lv_aload_n hx hb dX12_readAll_129 rfl (lv_at hl 1 rfl) ?_
                          refine va_get (D := G) (ci := 10) (v := .ref q1) (C := RX12) (T := TX12) (N := 15) hx hb hts i_X12 hown hK hP 0 rfl rfl 1 (by decide) (hts (.fieldLink RX12 7 "RelayTunerModel" "text" "[I") (by decide +kernel)) (fun _ h9 => h9) rfl dX12_readAll_130 ?_
                          refine lv_aload_n hx hb dX12_readAll_133 rfl (lv_at hl 1 rfl) ?_
                          refine va_get (D := G) (ci := 10) (v := .int (wx 3)) (C := RX12) (T := TX12) (N := 15) hx hb hts i_X12 hown hK hP 0 rfl rfl 3 (by decide) (hts (.fieldLink RX12 122 "RelayTunerModel" "spot" "I") (by decide +kernel)) (fun _ h9 => h9) rfl dX12_readAll_134 ?_
                          refine al_i (D := G) (n := 60) (f := ft) hx hb hK hP 1 0 rfl rfl (tn (wx 3)) (spot_in (by assumption) (by assumption) c_50).1 (spot_in (by assumption) (by assumption) c_50).2 (by first | decide | omega) dX12_readAll_137 ?_
                          refine lv_bipush (v := 83) hx hb dX12_readAll_138 (by decide) ?_
                          refine lv_icmp_ne (tgt := 147) hx hb dX12_readAll_140 (by decide) (fun c_85 => ?_) (fun c_85 => ?_)
                          · refine lv_aload_n hx hb dX12_readAll_147 rfl (lv_at hl 1 rfl) ?_
                            refine va_get (D := G) (ci := 10) (v := .ref q1) (C := RX12) (T := TX12) (N := 15) hx hb hts i_X12 hown hK hP 0 rfl rfl 1 (by decide) (hts (.fieldLink RX12 7 "RelayTunerModel" "text" "[I") (by decide +kernel)) (fun _ h9 => h9) rfl dX12_readAll_148 ?_
                            refine lv_aload_n hx hb dX12_readAll_151 rfl (lv_at hl 1 rfl) ?_
                            refine va_get (D := G) (ci := 10) (v := .int (wx 3)) (C := RX12) (T := TX12) (N := 15) hx hb hts i_X12 hown hK hP 0 rfl rfl 3 (by decide) (hts (.fieldLink RX12 122 "RelayTunerModel" "spot" "I") (by decide +kernel)) (fun _ h9 => h9) rfl dX12_readAll_152 ?_
                            refine al_i (D := G) (n := 60) (f := ft) hx hb hK hP 1 0 rfl rfl (tn (wx 3)) (spot_in (by assumption) (by assumption) c_50).1 (spot_in (by assumption) (by assumption) c_50).2 (by first | decide | omega) dX12_readAll_155 ?_
                            refine lv_bipush (v := 66) hx hb dX12_readAll_156 (by decide) ?_
                            refine lv_icmp_ne (tgt := 165) hx hb dX12_readAll_158 (by decide) (fun c_86 => ?_) (fun c_86 => ?_)
                            · refine lv_aload_n hx hb dX12_readAll_165 rfl (lv_at hl 1 rfl) ?_
                              refine va_get (D := G) (ci := 10) (v := .ref q1) (C := RX12) (T := TX12) (N := 15) hx hb hts i_X12 hown hK hP 0 rfl rfl 1 (by decide) (hts (.fieldLink RX12 7 "RelayTunerModel" "text" "[I") (by decide +kernel)) (fun _ h9 => h9) rfl dX12_readAll_166 ?_
                              refine lv_aload_n hx hb dX12_readAll_169 rfl (lv_at hl 1 rfl) ?_
                              refine va_get (D := G) (ci := 10) (v := .int (wx 3)) (C := RX12) (T := TX12) (N := 15) hx hb hts i_X12 hown hK hP 0 rfl rfl 3 (by decide) (hts (.fieldLink RX12 122 "RelayTunerModel" "spot" "I") (by decide +kernel)) (fun _ h9 => h9) rfl dX12_readAll_170 ?_
                              refine al_i (D := G) (n := 60) (f := ft) hx hb hK hP 1 0 rfl rfl (tn (wx 3)) (spot_in (by assumption) (by assumption) c_50).1 (spot_in (by assumption) (by assumption) c_50).2 (by first | decide | omega) dX12_readAll_173 ?_
                              refine lv_bipush (v := 84) hx hb dX12_readAll_174 (by decide) ?_
                              refine lv_icmp_ne (tgt := 184) hx hb dX12_readAll_176 (by decide) (fun c_87 => ?_) (fun c_87 => ?_)
                              · refine lv_iconst (v := 0) hx hb dX12_readAll_184 (by decide) ?_
                                exact J185_53 _ (itN c_51 (itN c_85 (itN c_86 (itN c_87 rfl)))) ls (lv_sub hl [0, 1] rfl)
                              · refine lv_bipush (v := 8) hx hb dX12_readAll_179 (by decide) ?_
                                refine lv_goto (tgt := 185) hx hb dX12_readAll_181 (by decide) ?_
                                exact J185_53 _ (itN c_51 (itN c_85 (itN c_86 (itP c_87 rfl)))) ls (lv_sub hl [0, 1] rfl)
                            · refine lv_iconst (v := 4) hx hb dX12_readAll_161 (by decide) ?_
                              refine lv_goto (tgt := 185) hx hb dX12_readAll_162 (by decide) ?_
                              exact J185_53 _ (itN c_51 (itN c_85 (itP c_86 rfl))) ls (lv_sub hl [0, 1] rfl)
                          · refine lv_iconst (v := 2) hx hb dX12_readAll_143 (by decide) ?_
                            refine lv_goto (tgt := 185) hx hb dX12_readAll_144 (by decide) ?_
                            exact J185_53 _ (itN c_51 (itP c_85 rfl)) ls (lv_sub hl [0, 1] rfl)
                        · refine lv_iconst (v := 1) hx hb dX12_readAll_125 (by decide) ?_
                          refine lv_goto (tgt := 185) hx hb dX12_readAll_126 (by decide) ?_
                          exact J185_53 _ (itP c_51 rfl) ls (lv_sub hl [0, 1] rfl)
                  exact LOOP100_46 (16 + 1) 0 16 0 v_40 v_41 rfl (by decide) (by decide) (by assumption) (by assumption) rfl (Nat.lt_succ_self _) H locs hP hD hS ls (lv_sub hl [0, 1] rfl)
                · refine lv_iconst (v := 0) hx hb dX12_readAll_96 (by decide) ?_
                  rw [hQQ]
                  exact W.zret hx hb hr (nz_bool (Or.inl rfl)) (end_Hi () hP hD hS (by unfold s_X12_readAll_r; exact (bd_eq e_v_1 (bd_eq e_v_2 (bd_eq e_v_3 (itN c_6 (bd_eq e_v_7 (bd_eq e_v_8 (bd_eq e_v_9 (itN c_12 (bd_eq e_v_13 (bd_eq e_v_14 (itN c_17 (bd_eq e_v_18 (bd_eq e_v_19 (bd_eq e_v_20 (itN c_23 (bd_eq e_v_24 (bd_eq e_v_25 (itN c_28 (bd_eq e_v_29 (bd_eq e_v_30 (bd_eq e_v_31 (itN c_34 (bd_eq e_v_35 (bd_eq e_v_36 (itN c_39 (bd_eq e_v_40 (bd_eq e_v_41 (bd_eq e_v_42 (itP c_45 rfl)))))))))))))))))))))))))))))) (congr (congrArg (fun (z0 : Nat → Int32) (z2 : Nat → Int32) => [kX12 h q1 q4 q5 q6 q7 q9 q10 q11 z0, aI y q1 60 ft, aI y q4 154 z2]) (by unfold s_X12_readAll_w0; exact (bd_eq e_v_1 (bd_eq e_v_2 (bd_eq e_v_3 (itN c_6 (bd_eq e_v_7 (bd_eq e_v_8 (bd_eq e_v_9 (itN c_12 (bd_eq e_v_13 (bd_eq e_v_14 (itN c_17 (bd_eq e_v_18 (bd_eq e_v_19 (bd_eq e_v_20 (itN c_23 (bd_eq e_v_24 (bd_eq e_v_25 (itN c_28 (bd_eq e_v_29 (bd_eq e_v_30 (bd_eq e_v_31 (itN c_34 (bd_eq e_v_35 (bd_eq e_v_36 (itN c_39 (bd_eq e_v_40 (bd_eq e_v_41 (bd_eq e_v_42 (itP c_45 rfl))))))))))))))))))))))))))))))) (by unfold s_X12_readAll_w2; exact (bd_eq e_v_1 (bd_eq e_v_2 (bd_eq e_v_3 (itN c_6 (bd_eq e_v_7 (bd_eq e_v_8 (bd_eq e_v_9 (itN c_12 (bd_eq e_v_13 (bd_eq e_v_14 (itN c_17 (bd_eq e_v_18 (bd_eq e_v_19 (bd_eq e_v_20 (itN c_23 (bd_eq e_v_24 (bd_eq e_v_25 (itN c_28 (bd_eq e_v_29 (bd_eq e_v_30 (bd_eq e_v_31 (itN c_34 (bd_eq e_v_35 (bd_eq e_v_36 (itN c_39 (bd_eq e_v_40 (bd_eq e_v_41 (bd_eq e_v_42 (itP c_45 rfl)))))))))))))))))))))))))))))))) hS.2.2 dX12_readAll_97

theorem RA_2e {ft : Nat → Int32} : ∀ {n : Nat} {told : Int32} {x fr : Nat → Int32}, (RA ft n told x fr).2.1 2 = x 2
  | 0, _, _, _ => rfl
  | n + 1, told, x, fr => by
    rw [RA]
    exact ite_P (P := fun z : Int32 × (Nat → Int32) × (Nat → Int32) => z.2.1 2 = x 2) (fun _ => rfl) (fun _ => ite_P (P := fun z : Int32 × (Nat → Int32) × (Nat → Int32) => z.2.1 2 = x 2) (fun _ => rfl) (fun _ => ite_P (P := fun z : Int32 × (Nat → Int32) × (Nat → Int32) => z.2.1 2 = x 2) (fun _ => ite_P (P := fun z : Int32 × (Nat → Int32) × (Nat → Int32) => z.2.1 2 = x 2) (fun _ => paX_2e) (fun _ => RA_2e.trans paX_2e)) (fun _ => rfl)))

def s_X12_errorPosition_r (x : Nat → Int32) (ft : Nat → Int32) (fr : Nat → Int32) : Int32 := (let v_2 : Int32 := (if (s_X12_readAll_r (upd x 0 0) ft fr) = 0 then ((s_X12_readAll_w0 (upd x 0 0) ft fr) 3) else (-99999)); v_2)
def s_X12_errorPosition_w0 (x : Nat → Int32) (ft : Nat → Int32) (fr : Nat → Int32) : Nat → Int32 := (s_X12_readAll_w0 (upd x 0 0) ft fr)
def s_X12_errorPosition_w2 (x : Nat → Int32) (ft : Nat → Int32) (fr : Nat → Int32) : Nat → Int32 := (s_X12_readAll_w2 (upd x 0 0) ft fr)
abbrev rmX12_errorPosition : Room := ({ frames := 4, cells := 0, slots := 0, locals := 97 } : Room)
set_option maxHeartbeats 4000000 in
set_option maxRecDepth 100000 in
theorem c_X12_errorPosition (l : Launch) (G : va_G) (y : Nat → ClassId) (h : Nat) (q1 : Nat) (q4 : Nat) (q5 : Nat) (q6 : Nat) (q7 : Nat) (q9 : Nat) (q10 : Nat) (q11 : Nat) (x : Nat → Int32) (ft : Nat → Int32) (fr : Nat → Int32) (sz : Nat) (ht : vp_in (x 2) 61) : Met l yX12_errorPosition wsX12_errorPosition rmX12_errorPosition (PH G y [.ref h] [kX12 h q1 q4 q5 q6 q7 q9 q10 q11 x, aI y q1 60 ft, aI y q4 154 fr] sz) (QHi G (s_X12_errorPosition_r x ft fr) (fun _ : Unit => [kX12 h q1 q4 q5 q6 q7 q9 q10 q11 (s_X12_errorPosition_w0 x ft fr), aI y q1 60 ft, aI y q4 154 (s_X12_errorPosition_w2 x ft fr)]) (va_A [kX12 h q1 q4 q5 q6 q7 q9 q10 q11 x, aI y q1 60 ft, aI y q4 154 fr] sz)) 0 0 (va_A [kX12 h q1 q4 q5 q6 q7 q9 q10 q11 x, aI y q1 60 ft, aI y q4 154 fr] sz) := by
  refine Met.ofW (cc := cX12_errorPosition) (maxL := 1) (ret := (some .int)) (by decide) rfl ?_
  intro p e s m args below meth c s₁ B hml hv
  obtain ⟨rfl, hsz, hP, ⟨hK, hN⟩, hD0⟩ := hv
  have hx := B.exec
  have hb := B.bytes
  have hr := B.returns
  have hts := atoms_spec (ws := wsX12_errorPosition) B.pre
  have hown : s.vm.findClass RX12 = some m.cls := findClass_of_methodNamed B.named
  have hlocks := B.notSynchronized
  have i_X12 : ∀ w ∈ u_ws RX12 TX12 15, w ∈ wsX12_errorPosition := by decide +kernel
  subst hsz
  have hD := hD0.self (sz := s.heap.size)
  generalize hAe : va_A [kX12 h q1 q4 q5 q6 q7 q9 q10 q11 x, aI y q1 60 ft, aI y q4 154 fr] s.heap.size = A at hD ⊢
  have hA : ∀ q : Nat, s.heap.size ≤ q → A q := fun q h => by rw [← hAe]; exact Or.inr h
  have hS : va_S A s.heap s.heap [] := va_S.rf
  have hP : va_P G vwCl [kX12 h q1 q4 q5 q6 q7 q9 q10 q11 x, aI y q1 60 ft, aI y q4 154 fr] s.heap := hP
  have hl := lv_entry ([.ref h]) (n := 1) (Nat.le_of_ble_eq_true rfl)
  rw [lg_entry_eq]
  generalize (lg_sl ([.ref h]) ++ List.replicate (1 - (lg_sl ([.ref h])).length) Slot.unset).toArray = ls at hl ⊢
  have hl : lv_has ls 1 [(0, .ref h)] := hl
  obtain ⟨QQ, hQQ⟩ : ∃ zq9, zq9 = MQ below (QHi G (s_X12_errorPosition_r x ft fr) (fun _ : Unit => [kX12 h q1 q4 q5 q6 q7 q9 q10 q11 (s_X12_errorPosition_w0 x ft fr), aI y q1 60 ft, aI y q4 154 (s_X12_errorPosition_w2 x ft fr)]) A) ([.ref h] : List Value).toArray s 0 0 A := ⟨_, rfl⟩
  rw [← hQQ]
  refine lv_aload_n hx hb dX12_errorPosition_0 rfl (lv_at hl 0 rfl) ?_
  refine lv_iconst (v := 0) hx hb dX12_errorPosition_1 (by decide) ?_
  refine va_put (D := G) (ci := 10) (v := .int 0) (ty := .int) (C := RX12) (T := TX12) (N := 15) hx hb hts i_X12 tyX12 tyX12_ok nmX12 hown hK hP hD hS 0 rfl rfl 0 (by decide) (hts (.fieldLink RX12 39 "RelayTunerModel" "refusal" "I") (by decide +kernel)) (fun _ h9 => h9) rfl (by decide +kernel) rfl rfl (Nat.le_of_ble_eq_true rfl) dX12_errorPosition_2 (fun H locs hP hD hS => ?_)
  have hP : va_P G vwCl [kX12 h q1 q4 q5 q6 q7 q9 q10 q11 (upd x 0 0), aI y q1 60 ft, aI y q4 154 fr] H := hP
  have hD : va_D A [kX12 h q1 q4 q5 q6 q7 q9 q10 q11 (upd x 0 0), aI y q1 60 ft, aI y q4 154 fr] := hD
  refine lv_aload_n hx hb dX12_errorPosition_5 rfl (lv_at hl 0 rfl) ?_
  refine cl_Hi (wr := []) (fun _ : Unit => [kX12 h q1 q4 q5 q6 q7 q9 q10 q11 (s_X12_readAll_w0 (upd x 0 0) ft fr), aI y q1 60 ft, aI y q4 154 (s_X12_readAll_w2 (upd x 0 0) ft fr)]) [0, 1, 2] [] [0, 1, 2] (va_runV (As := []) (rest := []) ⟨hx, hb, hml, hown, hts⟩ (c_X12_readAll l G y h q1 q4 q5 q6 q7 q9 q10 q11 (upd x 0 0) ft fr H.size (by assumption)) (cwV 0 hts gX12_errorPosition_X12_readAll rfl rfl rfl (by decide +kernel) ⟨Nat.le_of_ble_eq_true rfl, Nat.le_of_ble_eq_true rfl⟩) (PH_V (hP.sub (ws' := [kX12 h q1 q4 q5 q6 q7 q9 q10 q11 (upd x 0 0), aI y q1 60 ft, aI y q4 154 fr]) [0, 1, 2] rfl) hK hN (hD.sub (ws' := [kX12 h q1 q4 q5 q6 q7 q9 q10 q11 (upd x 0 0), aI y q1 60 ft, aI y q4 154 fr]) [0, 1, 2] (by decide) rfl) (ci := 10) (q0 := 0) rfl rfl) rfl rfl hl.1 rfl (lv_room (Nat.le_of_ble_eq_true rfl)) dX12_errorPosition_6 ⟨Nat.le_of_ble_eq_true rfl, Nat.le_of_ble_eq_true rfl⟩) hP hD hS hA rfl rfl rfl (by decide) rfl (fun _ => rfl) (fun _ H locs hP hD hS => ?_)
  have hP : va_P G vwCl [kX12 h q1 q4 q5 q6 q7 q9 q10 q11 (s_X12_readAll_w0 (upd x 0 0) ft fr), aI y q1 60 ft, aI y q4 154 (s_X12_readAll_w2 (upd x 0 0) ft fr)] H := hP
  have hD : va_D A [kX12 h q1 q4 q5 q6 q7 q9 q10 q11 (s_X12_readAll_w0 (upd x 0 0) ft fr), aI y q1 60 ft, aI y q4 154 (s_X12_readAll_w2 (upd x 0 0) ft fr)] := hD
  have J21_3 : ∀ (v_2 : Int32) (e_v_2 : v_2 = (if (s_X12_readAll_r (upd x 0 0) ft fr) = 0 then ((s_X12_readAll_w0 (upd x 0 0) ft fr) 3) else (-99999))) (ls : Array Slot) (hl : lv_has ls 1 []), W p l e (headSpec wsX12_errorPosition rmX12_errorPosition).room s m ([.ref h] : List Value).toArray below meth c H locs 0 0 QQ (F0 m 21 ls [.int v_2]) := by
    intro v_2 e_v_2 ls hl
    rw [hQQ]
    exact W.iret hx hb hr (end_Hi () hP hD hS (by subst e_v_2; unfold s_X12_errorPosition_r; exact rfl) (congr (congrArg (fun (z0 : Nat → Int32) (z2 : Nat → Int32) => [kX12 h q1 q4 q5 q6 q7 q9 q10 q11 z0, aI y q1 60 ft, aI y q4 154 z2]) (by subst e_v_2; unfold s_X12_errorPosition_w0; exact rfl)) (by subst e_v_2; unfold s_X12_errorPosition_w2; exact rfl))) hS.2.2 dX12_errorPosition_21
  refine lv_if_eq (tgt := 17) hx hb dX12_errorPosition_9 (by decide) (fun c_1 => ?_) (fun c_1 => ?_)
  · refine lv_aload_n hx hb dX12_errorPosition_17 rfl (lv_at hl 0 rfl) ?_
    refine va_get (D := G) (ci := 10) (v := .int ((s_X12_readAll_w0 (upd x 0 0) ft fr) 3)) (C := RX12) (T := TX12) (N := 15) hx hb hts i_X12 hown hK hP 0 rfl rfl 3 (by decide) (hts (.fieldLink RX12 122 "RelayTunerModel" "spot" "I") (by decide +kernel)) (fun _ h9 => h9) rfl dX12_errorPosition_18 ?_
    exact J21_3 _ (if_pos c_1).symm ls (lv_sub hl [] rfl)
  · refine lv_ldc (v := (-99999)) hx hb hown (hts (.constant RX12 74 (-99999)) (by decide +kernel)) dX12_errorPosition_12 ?_
    refine lv_goto (tgt := 21) hx hb dX12_errorPosition_14 (by decide) ?_
    exact J21_3 _ (if_neg c_1).symm ls (lv_sub hl [] rfl)

def s_X12_load_r (x : Nat → Int32) (ft : Nat → Int32) (fr : Nat → Int32) : Int32 := (let v_2 : Int32 := (if (s_X12_readAll_r x ft fr) = 0 then 1 else 0); (if (s_X12_refused_r v_2) = 0 then ((s_X12_readAll_w2 x ft fr) 12) else 0))
def s_X12_load_w0 (x : Nat → Int32) (ft : Nat → Int32) (fr : Nat → Int32) : Nat → Int32 := (let v_2 : Int32 := (if (s_X12_readAll_r x ft fr) = 0 then 1 else 0); (if (s_X12_refused_r v_2) = 0 then (upd (upd (s_X12_readAll_w0 x ft fr) 0 v_2) 8 0) else (upd (s_X12_readAll_w0 x ft fr) 0 v_2)))
def s_X12_load_w2 (x : Nat → Int32) (ft : Nat → Int32) (fr : Nat → Int32) : Nat → Int32 := (s_X12_readAll_w2 x ft fr)
def s_X12_load_w3 (x : Nat → Int32) (ft : Nat → Int32) (fr : Nat → Int32) (f : Nat → Int32) : Nat → Int32 := (let v_2 : Int32 := (if (s_X12_readAll_r x ft fr) = 0 then 1 else 0); (if (s_X12_refused_r v_2) = 0 then (s_X12_readAll_w2 x ft fr) else f))
def s_X12_load_w4 (x : Nat → Int32) (ft : Nat → Int32) (fr : Nat → Int32) (fz : Nat → Int32) : Nat → Int32 := (let v_2 : Int32 := (if (s_X12_readAll_r x ft fr) = 0 then 1 else 0); (if (s_X12_refused_r v_2) = 0 then (upd (upd fz 0 (vp_nar .boolean 0)) 1 (vp_nar .boolean 0)) else fz))
abbrev rmX12_load : Room := ({ frames := 4, cells := 0, slots := 0, locals := 97 } : Room)
set_option maxHeartbeats 4000000 in
set_option maxRecDepth 100000 in
theorem c_X12_load (l : Launch) (G : va_G) (y : Nat → ClassId) (h : Nat) (q1 : Nat) (q4 : Nat) (q5 : Nat) (q6 : Nat) (q7 : Nat) (q9 : Nat) (q10 : Nat) (q11 : Nat) (x : Nat → Int32) (ft : Nat → Int32) (fr : Nat → Int32) (f : Nat → Int32) (fz : Nat → Int32) (sz : Nat) (ht : vp_in (x 2) 61) : Met l yX12_load wsX12_load rmX12_load (PH G y [.ref h] [kX12 h q1 q4 q5 q6 q7 q9 q10 q11 x, aI y q1 60 ft, aI y q4 154 fr, aI y q5 154 f, aZ y q10 2 fz] sz) (QHi G (s_X12_load_r x ft fr) (fun _ : Unit => [kX12 h q1 q4 q5 q6 q7 q9 q10 q11 (s_X12_load_w0 x ft fr), aI y q1 60 ft, aI y q4 154 (s_X12_load_w2 x ft fr), aI y q5 154 (s_X12_load_w3 x ft fr f), aZ y q10 2 (s_X12_load_w4 x ft fr fz)]) (va_A [kX12 h q1 q4 q5 q6 q7 q9 q10 q11 x, aI y q1 60 ft, aI y q4 154 fr, aI y q5 154 f, aZ y q10 2 fz] sz)) 0 0 (va_A [kX12 h q1 q4 q5 q6 q7 q9 q10 q11 x, aI y q1 60 ft, aI y q4 154 fr, aI y q5 154 f, aZ y q10 2 fz] sz) := by
  refine Met.ofW (cc := cX12_load) (maxL := 1) (ret := (some .int)) (by decide) rfl ?_
  intro p e s m args below meth c s₁ B hml hv
  obtain ⟨rfl, hsz, hP, ⟨hK, hN⟩, hD0⟩ := hv
  have hx := B.exec
  have hb := B.bytes
  have hr := B.returns
  have hts := atoms_spec (ws := wsX12_load) B.pre
  have hown : s.vm.findClass RX12 = some m.cls := findClass_of_methodNamed B.named
  have hlocks := B.notSynchronized
  have i_X12 : ∀ w ∈ u_ws RX12 TX12 15, w ∈ wsX12_load := by decide +kernel
  subst hsz
  have hD := hD0.self (sz := s.heap.size)
  generalize hAe : va_A [kX12 h q1 q4 q5 q6 q7 q9 q10 q11 x, aI y q1 60 ft, aI y q4 154 fr, aI y q5 154 f, aZ y q10 2 fz] s.heap.size = A at hD ⊢
  have hA : ∀ q : Nat, s.heap.size ≤ q → A q := fun q h => by rw [← hAe]; exact Or.inr h
  have hS : va_S A s.heap s.heap [] := va_S.rf
  have hP : va_P G vwCl [kX12 h q1 q4 q5 q6 q7 q9 q10 q11 x, aI y q1 60 ft, aI y q4 154 fr, aI y q5 154 f, aZ y q10 2 fz] s.heap := hP
  have hl := lv_entry ([.ref h]) (n := 1) (Nat.le_of_ble_eq_true rfl)
  rw [lg_entry_eq]
  generalize (lg_sl ([.ref h]) ++ List.replicate (1 - (lg_sl ([.ref h])).length) Slot.unset).toArray = ls at hl ⊢
  have hl : lv_has ls 1 [(0, .ref h)] := hl
  obtain ⟨QQ, hQQ⟩ : ∃ zq9, zq9 = MQ below (QHi G (s_X12_load_r x ft fr) (fun _ : Unit => [kX12 h q1 q4 q5 q6 q7 q9 q10 q11 (s_X12_load_w0 x ft fr), aI y q1 60 ft, aI y q4 154 (s_X12_load_w2 x ft fr), aI y q5 154 (s_X12_load_w3 x ft fr f), aZ y q10 2 (s_X12_load_w4 x ft fr fz)]) A) ([.ref h] : List Value).toArray s 0 0 A := ⟨_, rfl⟩
  rw [← hQQ]
  refine lv_aload_n hx hb dX12_load_0 rfl (lv_at hl 0 rfl) ?_
  refine lv_aload_n hx hb dX12_load_1 rfl (lv_at hl 0 rfl) ?_
  refine cl_Hi (wr := [aI y q5 154 f, aZ y q10 2 fz]) (fun _ : Unit => [kX12 h q1 q4 q5 q6 q7 q9 q10 q11 (s_X12_readAll_w0 x ft fr), aI y q1 60 ft, aI y q4 154 (s_X12_readAll_w2 x ft fr), aI y q5 154 f, aZ y q10 2 fz]) [0, 1, 2] [3, 4] [2, 3, 4, 0, 1] (va_runV (As := []) (rest := [.ref h]) ⟨hx, hb, hml, hown, hts⟩ (c_X12_readAll l G y h q1 q4 q5 q6 q7 q9 q10 q11 x ft fr s.heap.size ht) (cwV 0 hts gX12_load_X12_readAll rfl rfl rfl (by decide +kernel) ⟨Nat.le_of_ble_eq_true rfl, Nat.le_of_ble_eq_true rfl⟩) (PH_V (hP.sub (ws' := [kX12 h q1 q4 q5 q6 q7 q9 q10 q11 x, aI y q1 60 ft, aI y q4 154 fr]) [0, 1, 2] rfl) hK hN (hD.sub (ws' := [kX12 h q1 q4 q5 q6 q7 q9 q10 q11 x, aI y q1 60 ft, aI y q4 154 fr]) [0, 1, 2] (by decide) rfl) (ci := 10) (q0 := 0) rfl rfl) rfl rfl hl.1 rfl (lv_room (Nat.le_of_ble_eq_true rfl)) dX12_load_2 ⟨Nat.le_of_ble_eq_true rfl, Nat.le_of_ble_eq_true rfl⟩) hP hD hS hA rfl rfl rfl (by decide) rfl (fun _ => rfl) (fun _ H locs hP hD hS => ?_)
  have hP : va_P G vwCl [kX12 h q1 q4 q5 q6 q7 q9 q10 q11 (s_X12_readAll_w0 x ft fr), aI y q1 60 ft, aI y q4 154 (s_X12_readAll_w2 x ft fr), aI y q5 154 f, aZ y q10 2 fz] H := hP
  have hD : va_D A [kX12 h q1 q4 q5 q6 q7 q9 q10 q11 (s_X12_readAll_w0 x ft fr), aI y q1 60 ft, aI y q4 154 (s_X12_readAll_w2 x ft fr), aI y q5 154 f, aZ y q10 2 fz] := hD
  have J13_4 : ∀ (v_2 : Int32) (e_v_2 : v_2 = (if (s_X12_readAll_r x ft fr) = 0 then 1 else 0)) (z_3 : v_2 = 0 ∨ v_2 = 1) (ls : Array Slot) (hl : lv_has ls 1 [(0, .ref h)]), W p l e (headSpec wsX12_load rmX12_load).room s m ([.ref h] : List Value).toArray below meth c H locs 0 0 QQ (F0 m 13 ls [.int v_2, .ref h]) := by
    intro v_2 e_v_2 z_3 ls hl
    refine cl_Hi (wr := [aI y q1 60 ft, aI y q4 154 (s_X12_readAll_w2 x ft fr), aI y q5 154 f, aZ y q10 2 fz]) (fun _ : Unit => [kX12 h q1 q4 q5 q6 q7 q9 q10 q11 (upd (s_X12_readAll_w0 x ft fr) 0 v_2), aI y q1 60 ft, aI y q4 154 (s_X12_readAll_w2 x ft fr), aI y q5 154 f, aZ y q10 2 fz]) [0] [1, 2, 3, 4] [4, 0, 1, 2, 3] (va_runV (As := [.int v_2]) (rest := []) ⟨hx, hb, hml, hown, hts⟩ (c_X12_refused l G y h v_2 q1 q4 q5 q6 q7 q9 q10 q11 (s_X12_readAll_w0 x ft fr) H.size) (cwV 1 hts gX12_load_X12_refused rfl rfl rfl (by decide +kernel) ⟨Nat.le_of_ble_eq_true rfl, Nat.le_of_ble_eq_true rfl⟩) (PH_V (hP.sub (ws' := [kX12 h q1 q4 q5 q6 q7 q9 q10 q11 (s_X12_readAll_w0 x ft fr)]) [0] rfl) hK hN (hD.sub (ws' := [kX12 h q1 q4 q5 q6 q7 q9 q10 q11 (s_X12_readAll_w0 x ft fr)]) [0] (by decide) rfl) (ci := 10) (q0 := 0) rfl rfl) rfl rfl hl.1 rfl (lv_room (Nat.le_of_ble_eq_true rfl)) dX12_load_13 ⟨Nat.le_of_ble_eq_true rfl, Nat.le_of_ble_eq_true rfl⟩) hP hD hS hA rfl rfl rfl (by decide) rfl (fun _ => rfl) (fun _ H locs hP hD hS => ?_)
    have hP : va_P G vwCl [kX12 h q1 q4 q5 q6 q7 q9 q10 q11 (upd (s_X12_readAll_w0 x ft fr) 0 v_2), aI y q1 60 ft, aI y q4 154 (s_X12_readAll_w2 x ft fr), aI y q5 154 f, aZ y q10 2 fz] H := hP
    have hD : va_D A [kX12 h q1 q4 q5 q6 q7 q9 q10 q11 (upd (s_X12_readAll_w0 x ft fr) 0 v_2), aI y q1 60 ft, aI y q4 154 (s_X12_readAll_w2 x ft fr), aI y q5 154 f, aZ y q10 2 fz] := hD
    refine lv_if_eq (tgt := 21) hx hb dX12_load_16 (by decide) (fun c_5 => ?_) (fun c_5 => ?_)
    · refine lv_aload_n hx hb dX12_load_21 rfl (lv_at hl 0 rfl) ?_
      refine va_get (D := G) (ci := 10) (v := .ref q4) (C := RX12) (T := TX12) (N := 15) hx hb hts i_X12 hown hK hP 0 rfl rfl 4 (by decide) (hts (.fieldLink RX12 13 "RelayTunerModel" "read" "[I") (by decide +kernel)) (fun _ h9 => h9) rfl dX12_load_22 ?_
      refine lv_iconst (v := 0) hx hb dX12_load_25 (by decide) ?_
      refine lv_aload_n hx hb dX12_load_26 rfl (lv_at hl 0 rfl) ?_
      refine va_get (D := G) (ci := 10) (v := .ref q5) (C := RX12) (T := TX12) (N := 15) hx hb hts i_X12 hown hK hP 0 rfl rfl 5 (by decide) (hts (.fieldLink RX12 16 "RelayTunerModel" "now" "[I") (by decide +kernel)) (fun _ h9 => h9) rfl dX12_load_27 ?_
      refine lv_iconst (v := 0) hx hb dX12_load_30 (by decide) ?_
      refine cl_Hv (wr := [kX12 h q1 q4 q5 q6 q7 q9 q10 q11 (upd (s_X12_readAll_w0 x ft fr) 0 v_2), aI y q1 60 ft, aZ y q10 2 fz]) (fun _ : Unit => [kX12 h q1 q4 q5 q6 q7 q9 q10 q11 (upd (s_X12_readAll_w0 x ft fr) 0 v_2), aI y q1 60 ft, aI y q4 154 (s_X12_readAll_w2 x ft fr), aI y q5 154 (va_cpy (s_X12_readAll_w2 x ft fr) f 0 0 154), aZ y q10 2 fz]) [2, 3] [0, 1, 4] [0, 1, 3, 4, 2] (va_runS (As := [.ref q4, .int 0, .ref q5, .int 0]) (rest := []) ⟨hx, hb, hml, hown, hts⟩ (c_X12_copyPage l G y q4 0 q5 0 (s_X12_readAll_w2 x ft fr) f 0 0 154 154 H.size rfl (by decide) (by decide) rfl (by decide) (by decide)) (va_cwS 4 hts gX12_load_X12_copyPage rfl rfl rfl (by decide +kernel) ⟨Nat.le_of_ble_eq_true rfl, Nat.le_of_ble_eq_true rfl⟩) (PH_S (hP.sub (ws' := [aI y q4 154 (s_X12_readAll_w2 x ft fr), aI y q5 154 f]) [2, 3] rfl) hK hN (hD.sub (ws' := [aI y q4 154 (s_X12_readAll_w2 x ft fr), aI y q5 154 f]) [2, 3] (by decide) rfl)) rfl rfl hl.1 rfl (lv_room (Nat.le_of_ble_eq_true rfl)) dX12_load_31 ⟨Nat.le_of_ble_eq_true rfl, Nat.le_of_ble_eq_true rfl⟩) hP hD hS hA rfl rfl rfl (by decide) rfl (fun _ => rfl) (fun _ H locs hP hD hS => ?_)
      have hP : va_P G vwCl [kX12 h q1 q4 q5 q6 q7 q9 q10 q11 (upd (s_X12_readAll_w0 x ft fr) 0 v_2), aI y q1 60 ft, aI y q4 154 (s_X12_readAll_w2 x ft fr), aI y q5 154 (va_cpy (s_X12_readAll_w2 x ft fr) f 0 0 154), aZ y q10 2 fz] H := hP
      have hD : va_D A [kX12 h q1 q4 q5 q6 q7 q9 q10 q11 (upd (s_X12_readAll_w0 x ft fr) 0 v_2), aI y q1 60 ft, aI y q4 154 (s_X12_readAll_w2 x ft fr), aI y q5 154 (va_cpy (s_X12_readAll_w2 x ft fr) f 0 0 154), aZ y q10 2 fz] := hD
      have hD := va_D.set (p := 3) (e := (aI y q5 154 (s_X12_readAll_w2 x ft fr)).2) hD rfl
      have hP := alike1 (i := 3) (g := (s_X12_readAll_w2 x ft fr)) hP rfl (fun j hj => cpy_all hj)
      have hP : va_P G vwCl [kX12 h q1 q4 q5 q6 q7 q9 q10 q11 (upd (s_X12_readAll_w0 x ft fr) 0 v_2), aI y q1 60 ft, aI y q4 154 (s_X12_readAll_w2 x ft fr), aI y q5 154 (s_X12_readAll_w2 x ft fr), aZ y q10 2 fz] H := hP
      have hD : va_D A [kX12 h q1 q4 q5 q6 q7 q9 q10 q11 (upd (s_X12_readAll_w0 x ft fr) 0 v_2), aI y q1 60 ft, aI y q4 154 (s_X12_readAll_w2 x ft fr), aI y q5 154 (s_X12_readAll_w2 x ft fr), aZ y q10 2 fz] := hD
      refine lv_aload_n hx hb dX12_load_34 rfl (lv_at hl 0 rfl) ?_
      refine lv_iconst (v := 0) hx hb dX12_load_35 (by decide) ?_
      refine va_put (D := G) (ci := 10) (v := .int 0) (ty := .int) (C := RX12) (T := TX12) (N := 15) hx hb hts i_X12 tyX12 tyX12_ok nmX12 hown hK hP hD hS 0 rfl rfl 8 (by decide) (hts (.fieldLink RX12 145 "RelayTunerModel" "acts" "I") (by decide +kernel)) (fun _ h9 => h9) rfl (by decide +kernel) rfl rfl (Nat.le_of_ble_eq_true rfl) dX12_load_36 (fun H locs hP hD hS => ?_)
      have hP : va_P G vwCl [kX12 h q1 q4 q5 q6 q7 q9 q10 q11 (upd (upd (s_X12_readAll_w0 x ft fr) 0 v_2) 8 0), aI y q1 60 ft, aI y q4 154 (s_X12_readAll_w2 x ft fr), aI y q5 154 (s_X12_readAll_w2 x ft fr), aZ y q10 2 fz] H := hP
      have hD : va_D A [kX12 h q1 q4 q5 q6 q7 q9 q10 q11 (upd (upd (s_X12_readAll_w0 x ft fr) 0 v_2) 8 0), aI y q1 60 ft, aI y q4 154 (s_X12_readAll_w2 x ft fr), aI y q5 154 (s_X12_readAll_w2 x ft fr), aZ y q10 2 fz] := hD
      refine lv_aload_n hx hb dX12_load_39 rfl (lv_at hl 0 rfl) ?_
      refine va_get (D := G) (ci := 10) (v := .ref q10) (C := RX12) (T := TX12) (N := 15) hx hb hts i_X12 hown hK hP 0 rfl rfl 10 (by decide) (hts (.fieldLink RX12 28 "RelayTunerModel" "isKept" "[Z") (by decide +kernel)) (fun _ h9 => h9) rfl dX12_load_40 ?_
      refine lv_iconst (v := 0) hx hb dX12_load_43 (by decide) ?_
      refine lv_iconst (v := 0) hx hb dX12_load_44 (by decide) ?_
      refine as_z (D := G) (n := 2) (f := fz) hx hb hK hP hD hS 4 2 rfl rfl 0 rfl (by decide) (by first | decide | omega) dX12_load_45 (fun H locs hP hD hS => ?_)
      have hP : va_P G vwCl [kX12 h q1 q4 q5 q6 q7 q9 q10 q11 (upd (upd (s_X12_readAll_w0 x ft fr) 0 v_2) 8 0), aI y q1 60 ft, aI y q4 154 (s_X12_readAll_w2 x ft fr), aI y q5 154 (s_X12_readAll_w2 x ft fr), aZ y q10 2 (upd fz 0 (vp_nar .boolean 0))] H := hP
      have hD : va_D A [kX12 h q1 q4 q5 q6 q7 q9 q10 q11 (upd (upd (s_X12_readAll_w0 x ft fr) 0 v_2) 8 0), aI y q1 60 ft, aI y q4 154 (s_X12_readAll_w2 x ft fr), aI y q5 154 (s_X12_readAll_w2 x ft fr), aZ y q10 2 (upd fz 0 (vp_nar .boolean 0))] := hD
      refine lv_aload_n hx hb dX12_load_46 rfl (lv_at hl 0 rfl) ?_
      refine va_get (D := G) (ci := 10) (v := .ref q10) (C := RX12) (T := TX12) (N := 15) hx hb hts i_X12 hown hK hP 0 rfl rfl 10 (by decide) (hts (.fieldLink RX12 28 "RelayTunerModel" "isKept" "[Z") (by decide +kernel)) (fun _ h9 => h9) rfl dX12_load_47 ?_
      refine lv_iconst (v := 1) hx hb dX12_load_50 (by decide) ?_
      refine lv_iconst (v := 0) hx hb dX12_load_51 (by decide) ?_
      refine as_z (D := G) (n := 2) (f := (upd fz 0 (vp_nar .boolean 0))) hx hb hK hP hD hS 4 2 rfl rfl 1 rfl (by decide) (by first | decide | omega) dX12_load_52 (fun H locs hP hD hS => ?_)
      have hP : va_P G vwCl [kX12 h q1 q4 q5 q6 q7 q9 q10 q11 (upd (upd (s_X12_readAll_w0 x ft fr) 0 v_2) 8 0), aI y q1 60 ft, aI y q4 154 (s_X12_readAll_w2 x ft fr), aI y q5 154 (s_X12_readAll_w2 x ft fr), aZ y q10 2 (upd (upd fz 0 (vp_nar .boolean 0)) 1 (vp_nar .boolean 0))] H := hP
      have hD : va_D A [kX12 h q1 q4 q5 q6 q7 q9 q10 q11 (upd (upd (s_X12_readAll_w0 x ft fr) 0 v_2) 8 0), aI y q1 60 ft, aI y q4 154 (s_X12_readAll_w2 x ft fr), aI y q5 154 (s_X12_readAll_w2 x ft fr), aZ y q10 2 (upd (upd fz 0 (vp_nar .boolean 0)) 1 (vp_nar .boolean 0))] := hD
      refine lv_aload_n hx hb dX12_load_53 rfl (lv_at hl 0 rfl) ?_
      refine va_get (D := G) (ci := 10) (v := .ref q5) (C := RX12) (T := TX12) (N := 15) hx hb hts i_X12 hown hK hP 0 rfl rfl 5 (by decide) (hts (.fieldLink RX12 16 "RelayTunerModel" "now" "[I") (by decide +kernel)) (fun _ h9 => h9) rfl dX12_load_54 ?_
      refine lv_bipush (v := 12) hx hb dX12_load_57 (by decide) ?_
      refine al_i (D := G) (n := 154) (f := (s_X12_readAll_w2 x ft fr)) hx hb hK hP 3 0 rfl rfl 12 rfl (by decide) (by first | decide | omega) dX12_load_59 ?_
      rw [hQQ]
      exact W.iret hx hb hr (end_Hi () hP hD hS (by subst e_v_2; unfold s_X12_load_r; exact (if_pos c_5).symm) (congr (congr (congr (congrArg (fun (z0 : Nat → Int32) (z2 : Nat → Int32) (z3 : Nat → Int32) (z4 : Nat → Int32) => [kX12 h q1 q4 q5 q6 q7 q9 q10 q11 z0, aI y q1 60 ft, aI y q4 154 z2, aI y q5 154 z3, aZ y q10 2 z4]) (by subst e_v_2; unfold s_X12_load_w0; exact (if_pos c_5).symm)) (by subst e_v_2; unfold s_X12_load_w2; exact rfl)) (by subst e_v_2; unfold s_X12_load_w3; exact (if_pos c_5).symm)) (by subst e_v_2; unfold s_X12_load_w4; exact (if_pos c_5).symm))) hS.2.2 dX12_load_60
    · refine lv_iconst (v := 0) hx hb dX12_load_19 (by decide) ?_
      rw [hQQ]
      exact W.iret hx hb hr (end_Hi () hP hD hS (by subst e_v_2; unfold s_X12_load_r; exact (if_neg c_5).symm) (congr (congr (congr (congrArg (fun (z0 : Nat → Int32) (z2 : Nat → Int32) (z3 : Nat → Int32) (z4 : Nat → Int32) => [kX12 h q1 q4 q5 q6 q7 q9 q10 q11 z0, aI y q1 60 ft, aI y q4 154 z2, aI y q5 154 z3, aZ y q10 2 z4]) (by subst e_v_2; unfold s_X12_load_w0; exact (if_neg c_5).symm)) (by subst e_v_2; unfold s_X12_load_w2; exact rfl)) (by subst e_v_2; unfold s_X12_load_w3; exact (if_neg c_5).symm)) (by subst e_v_2; unfold s_X12_load_w4; exact (if_neg c_5).symm))) hS.2.2 dX12_load_20
  refine lv_if_eq (tgt := 12) hx hb dX12_load_5 (by decide) (fun c_1 => ?_) (fun c_1 => ?_)
  · refine lv_iconst (v := 1) hx hb dX12_load_12 (by decide) ?_
    exact J13_4 _ (if_pos c_1).symm (Or.inr rfl) ls (lv_sub hl [0] rfl)
  · refine lv_iconst (v := 0) hx hb dX12_load_8 (by decide) ?_
    refine lv_goto (tgt := 13) hx hb dX12_load_9 (by decide) ?_
    exact J13_4 _ (if_neg c_1).symm (Or.inl rfl) ls (lv_sub hl [0] rfl)

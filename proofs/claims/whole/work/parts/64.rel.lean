section TEXT4
variable {x X fc fR fr g xs Xs g0 : Nat → Int32} {L p pl k n m : Nat} {lo hi e1 : Int32}
def amN (fc x : Nat → Int32) : Int32 := cuR 0 99 fc 2 0 (upd (upd x 2 ((x 2) + 1)) 2 (((x 2) + 1) + 1))
def amW (fc x : Nat → Int32) : Nat → Int32 := cuW 0 99 fc 2 0 (upd (upd x 2 ((x 2) + 1)) 2 (((x 2) + 1) + 1))
theorem nuR2 : s_X9_number_2_r lo hi x fc = cuR lo hi fc 2 0 x := rfl
theorem nuW2 : s_X9_number_2_w0 lo hi x fc = cuW lo hi fc 2 0 x := rfl
set_option maxHeartbeats 100000 in
theorem am_R : s_X9_readAmbient_r x fc = (if (s_X9_isHere_r 45 (upd x 2 ((x 2) + 1)) fc) = 0 then (if (s_X9_isHere_r 43 (upd x 2 ((x 2) + 1)) fc) = 0 then 0 else (if amN fc x = -1 then 0 else 1)) else (if amN fc x = -1 then 0 else 1)) := by
  unfold s_X9_readAmbient_r
  unfold amN
  try dsimp only
  rw [nuR2]
set_option maxHeartbeats 100000 in
theorem am_W : s_X9_readAmbient_w0 x fc = (if (s_X9_isHere_r 45 (upd x 2 ((x 2) + 1)) fc) = 0 then (if (s_X9_isHere_r 43 (upd x 2 ((x 2) + 1)) fc) = 0 then (upd x 2 ((x 2) + 1)) else upd (upd (amW fc x) 11 (amN fc x)) 10 (if amN fc x = -1 then 0 else 1)) else upd (upd (amW fc x) 11 (-(amN fc x))) 10 (if amN fc x = -1 then 0 else 1)) := by
  unfold s_X9_readAmbient_w0
  unfold amN amW
  try dsimp only
  rw [nuR2, nuW2]
set_option maxHeartbeats 100000 in
theorem an_R : s_X12_readAmbient_r X fR = (if (s_X12_eat_r 45 X fR) = 0 then (if (s_X12_eat_r 43 (s_X12_eat_w0 45 X fR) fR) = 0 then 0 else (if ruR 0 99 fR 2 0 (s_X12_eat_w0 43 (s_X12_eat_w0 45 X fR) fR) = 0 then 0 else 1)) else (if ruR 0 99 fR 2 0 (s_X12_eat_w0 45 X fR) = 0 then 0 else 1)) := by
  unfold s_X12_readAmbient_r
  try dsimp only
  rw [puR2, puR2]
set_option maxHeartbeats 100000 in
theorem an_W : s_X12_readAmbient_w0 X fR = (if (s_X12_eat_r 45 X fR) = 0 then (if (s_X12_eat_r 43 (s_X12_eat_w0 45 X fR) fR) = 0 then (s_X12_eat_w0 43 (s_X12_eat_w0 45 X fR) fR) else ruW 0 99 fR 2 0 (s_X12_eat_w0 43 (s_X12_eat_w0 45 X fR) fR)) else ruW 0 99 fR 2 0 (s_X12_eat_w0 45 X fR)) := by
  unfold s_X12_readAmbient_w0
  try dsimp only
  rw [puW2, puW2]
def anP (F : Nat → Int32) (s : Int32) : Nat → Int32 := if s = 0 then F else upd F 3 (F 3)
def anM (F : Nat → Int32) (s : Int32) : Nat → Int32 := if s = 0 then F else upd F 3 (-(F 3))
set_option maxHeartbeats 100000 in
theorem an_F : s_X12_readAmbient_w2 X fR g = (if (s_X12_eat_r 45 X fR) = 0 then (if (s_X12_eat_r 43 (s_X12_eat_w0 45 X fR) fR) = 0 then g else anP (ruF 0 99 fR g 3 2 0 (s_X12_eat_w0 43 (s_X12_eat_w0 45 X fR) fR)) (ruR 0 99 fR 2 0 (s_X12_eat_w0 43 (s_X12_eat_w0 45 X fR) fR))) else anM (ruF 0 99 fR g 3 2 0 (s_X12_eat_w0 45 X fR)) (ruR 0 99 fR 2 0 (s_X12_eat_w0 45 X fR))) := by
  unfold s_X12_readAmbient_w2
  unfold anP anM
  try dsimp only
  rw [puF2, puF2, puR2, puR2]
theorem neg_bI {R : Nat} (h : nI R ≤ 99) (hR : R < 5000) : bI (-(nI R)) (-99) 99 := by
  have k := Int32.le_iff_toInt_le.mp h
  have k99 : (99 : Int32).toInt = 99 := rfl
  have km : (-99 : Int32).toInt = -99 := rfl
  have k0 : (0 : Int32).toInt = 0 := rfl
  rw [nI_toInt (by omega), k99] at k
  have e : (-(nI R)).toInt = -(R : Int) := by
    rw [neg_sub0, Int32.toInt_sub, nI_toInt (by omega), k0]
    rw [show (0 : Int) - (R : Int) = -(R : Int) by omega]
    exact Int.bmod_eq_of_le_mul_two (by omega) (by omega)
  exact ⟨Int32.le_iff_toInt_le.mpr (by omega), Int32.le_iff_toInt_le.mpr (by omega)⟩
theorem pos_bI {R : Nat} (h : nI R ≤ 99) (hR : R < 5000) : bI (nI R) (-99) 99 := by
  have km : (-99 : Int32).toInt = -99 := rfl
  exact ⟨Int32.le_iff_toInt_le.mpr (by rw [nI_toInt (by omega)]; omega), h⟩
/-- the ambient temperature on both sides; x stands at its sign, the reference behind it -/
theorem amb_rel (hb : tpB L fc fR) (h : tpR L p (upd x 2 ((x 2) + 1)) X) : (∃ q, p ≤ q ∧ tpR L q (s_X9_readAmbient_w0 x fc) (s_X12_readAmbient_w0 X fR)) ∧ (∀ i, i ≠ 2 → i ≠ 10 → i ≠ 11 → s_X9_readAmbient_w0 x fc i = x i) ∧ (∀ i, i ≠ 3 → s_X12_readAmbient_w0 X fR i = X i) ∧ ((s_X9_readAmbient_r x fc = 0 ∧ s_X12_readAmbient_r X fR = 0) ∨ (s_X9_readAmbient_r x fc = 1 ∧ s_X12_readAmbient_r X fR = 1 ∧ s_X9_readAmbient_w0 x fc 10 = 1 ∧ bI (s_X9_readAmbient_w0 x fc 11) (-99) 99 ∧ s_X12_readAmbient_w2 X fR g = upd g 3 (s_X9_readAmbient_w0 x fc 11))) := by
  obtain ⟨e1, e2, e3, e4⟩ := eat_rel (a := 45) hb h
  rw [am_R, am_W, an_R, an_W, an_F, e1]
  by_cases c : s_X9_isHere_r 45 (upd x 2 ((x 2) + 1)) fc = 0
  · obtain ⟨e1', e2', e3', e4'⟩ := eat_rel (a := 43) hb (e2 c)
    rw [if_pos c, if_pos c, if_pos c, if_pos c, if_pos c, e1']
    by_cases c' : s_X9_isHere_r 43 (upd x 2 ((x 2) + 1)) fc = 0
    · rw [if_pos c', if_pos c', if_pos c', if_pos c', if_pos c']
      exact ⟨⟨p, Nat.le_refl _, e2' c'⟩, fun i hi _ _ => upd_ne hi, fun i hi => (e4' i hi).trans (e4 i hi), Or.inl ⟨rfl, rfl⟩⟩
    · rw [if_neg c', if_neg c', if_neg c', if_neg c', if_neg c']
      obtain ⟨⟨q, hq, t⟩, f, f', d⟩ := cu_rel hb (lo := 0) (hi := 99) (fr := g) (pl := 3) 2 0 (p + 1) 0 _ _ (by decide) rfl (by decide) (e3' c') (fun q => by omega)
      have t : tpR L q (amW fc x) (ruW 0 99 fR 2 0 (s_X12_eat_w0 43 (s_X12_eat_w0 45 X fR) fR)) := t
      have f : ∀ i, i ≠ 2 → amW fc x i = (upd (upd x 2 ((x 2) + 1)) 2 (((x 2) + 1) + 1)) i := f
      refine ⟨⟨q, by omega, (upd_ne (by decide)).trans ((upd_ne (by decide)).trans t.1), (upd_ne (by decide)).trans ((upd_ne (by decide)).trans t.2.1), t.2.2⟩, fun i hi h10 h11 => (upd_ne h10).trans ((upd_ne h11).trans ((f i hi).trans ((upd_ne hi).trans (upd_ne hi)))), fun i hi => (f' i hi).trans ((e4' i hi).trans (e4 i hi)), ?_⟩
      rcases d with ⟨r1, z1⟩ | ⟨R, w, r1, z1, g1, b1, b1'⟩
      · have r1 : amN fc x = -1 := r1
        exact Or.inl ⟨if_pos r1, if_pos z1⟩
      · have r1 : amN fc x = nI R := r1
        have n1 : ¬ amN fc x = -1 := by rw [r1]; exact nI_m1 w
        have v11 : upd (upd (amW fc x) 11 (amN fc x)) 10 (if amN fc x = -1 then 0 else 1) 11 = nI R := (upd_ne (by decide)).trans ((upd_at _ _ _).trans r1)
        have z0 : ¬ ruR 0 99 fR 2 0 (s_X12_eat_w0 43 (s_X12_eat_w0 45 X fR) fR) = 0 := by rw [z1]; decide
        refine Or.inr ⟨if_neg n1, if_neg z0, (upd_at _ _ _).trans (if_neg n1), ?_, ?_⟩
        · rw [v11]; exact pos_bI b1' w
        · rw [v11]
          unfold anP
          rw [if_neg z0, g1, upd_twice, upd_at]
  · rw [if_neg c, if_neg c, if_neg c, if_neg c, if_neg c]
    obtain ⟨⟨q, hq, t⟩, f, f', d⟩ := cu_rel hb (lo := 0) (hi := 99) (fr := g) (pl := 3) 2 0 (p + 1) 0 _ _ (by decide) rfl (by decide) (e3 c) (fun q => by omega)
    have t : tpR L q (amW fc x) (ruW 0 99 fR 2 0 (s_X12_eat_w0 45 X fR)) := t
    have f : ∀ i, i ≠ 2 → amW fc x i = (upd (upd x 2 ((x 2) + 1)) 2 (((x 2) + 1) + 1)) i := f
    refine ⟨⟨q, by omega, (upd_ne (by decide)).trans ((upd_ne (by decide)).trans t.1), (upd_ne (by decide)).trans ((upd_ne (by decide)).trans t.2.1), t.2.2⟩, fun i hi h10 h11 => (upd_ne h10).trans ((upd_ne h11).trans ((f i hi).trans ((upd_ne hi).trans (upd_ne hi)))), fun i hi => (f' i hi).trans (e4 i hi), ?_⟩
    rcases d with ⟨r1, z1⟩ | ⟨R, w, r1, z1, g1, b1, b1'⟩
    · have r1 : amN fc x = -1 := r1
      exact Or.inl ⟨if_pos r1, if_pos z1⟩
    · have r1 : amN fc x = nI R := r1
      have n1 : ¬ amN fc x = -1 := by rw [r1]; exact nI_m1 w
      have v11 : upd (upd (amW fc x) 11 (-(amN fc x))) 10 (if amN fc x = -1 then 0 else 1) 11 = -(nI R) := (upd_ne (by decide)).trans ((upd_at _ _ _).trans (by rw [r1]))
      have z0 : ¬ ruR 0 99 fR 2 0 (s_X12_eat_w0 45 X fR) = 0 := by rw [z1]; decide
      refine Or.inr ⟨if_neg n1, if_neg z0, (upd_at _ _ _).trans (if_neg n1), ?_, ?_⟩
      · rw [v11]; exact neg_bI b1' w
      · rw [v11]
        unfold anM
        rw [if_neg z0, g1, upd_twice, upd_at]
/-- a labelled number of the class, the number of the reference behind its sign -/
theorem st_num (hb : tpB L fc fR) (h : tpR L p x X) (hp : p < L) {a : Int32} (ea : fR p = a) (hk : 1 ≤ k) (hk3 : k ≤ 3) : cuQ lo hi L p pl x X g (lbR a lo hi fc k x) (lbW a lo hi fc k x) (ruR lo hi fR k 0 (upd X 3 (X 3 + 1))) (ruW lo hi fR k 0 (upd X 3 (X 3 + 1))) (ruF lo hi fR g pl k 0 (upd X 3 (X 3 + 1))) := by
  have c : ¬ s_X9_isHere_r a x fc = 0 := by
    rw [here_r hb h hp, if_pos ea]
    decide
  unfold lbR lbW
  rw [if_neg c, if_neg c]
  obtain ⟨h1, h2, h3, h4, h5⟩ := h
  refine cu_fr (p' := p + 1) (cu_rel hb k 0 (p + 1) 0 (upd x 2 (x 2 + 1)) (upd X 3 (X 3 + 1)) hk3 rfl (by omega) ⟨(upd_ne (by decide)).trans h1, ?_, (upd_ne (by decide)).trans h3, ?_, hp⟩ (fun q => by omega)) (Nat.le_succ _) (fun i hi => upd_ne hi) (fun i hi => upd_ne hi)
  · rw [upd_at, h2]
    exact nI_add p 1
  · rw [upd_at, h4]
    exact nI_add p 1
def rdR (ft : Nat → Int32) : Nat → (Nat → Int32) → Int32
  | 0, x => if (x 1) ≤ (x 2) then (-99999) else (x 2)
  | n + 1, x => if (x 1) ≤ (x 2) then (-99999) else if s_X9_readPart_r x ft = 0 then (s_X9_readPart_w0 x ft) 2 else rdR ft n (s_X9_readPart_w0 x ft)
def rdW (ft : Nat → Int32) : Nat → (Nat → Int32) → Nat → Int32
  | 0, x => x
  | n + 1, x => if (x 1) ≤ (x 2) then x else if s_X9_readPart_r x ft = 0 then s_X9_readPart_w0 x ft else rdW ft n (s_X9_readPart_w0 x ft)
theorem rd_end (h : (x 1) ≤ (x 2)) : ∀ n, rdR fc n x = -99999 ∧ rdW fc n x = x
  | 0 => ⟨if_pos h, rfl⟩
  | n + 1 => ⟨by rw [rdR, if_pos h], by rw [rdW, if_pos h]⟩
theorem rd_stop (h : ¬ (x 1) ≤ (x 2)) (hs : s_X9_readPart_r x fc = 0 ∧ s_X9_readPart_w0 x fc = x) : ∀ n, rdR fc n x = x 2 ∧ rdW fc n x = x
  | 0 => ⟨if_neg h, rfl⟩
  | n + 1 => ⟨by rw [rdR, if_neg h, if_pos hs.1, hs.2], by rw [rdW, if_neg h, if_pos hs.1, hs.2]⟩
theorem rd_fail (h : ¬ (x 1) ≤ (x 2)) (hs : s_X9_readPart_r x fc = 0) : rdR fc (n + 1) x = (s_X9_readPart_w0 x fc) 2 ∧ rdW fc (n + 1) x = s_X9_readPart_w0 x fc := ⟨by rw [rdR, if_neg h, if_pos hs], by rw [rdW, if_neg h, if_pos hs]⟩
theorem rd_go (h : ¬ (x 1) ≤ (x 2)) (hs : ¬ s_X9_readPart_r x fc = 0) : rdR fc (n + 1) x = rdR fc n (s_X9_readPart_w0 x fc) ∧ rdW fc (n + 1) x = rdW fc n (s_X9_readPart_w0 x fc) := ⟨by rw [rdR, if_neg h, if_neg hs], by rw [rdW, if_neg h, if_neg hs]⟩
def td (a b c d : Bool) : Int32 := nI (a.toNat + 2 * b.toNat + 4 * c.toNat + 8 * d.toNat)
def cn (a b c d : Bool) : Nat := (!a).toNat + (!b).toNat + (!c).toNat + (!d).toNat
theorem td_1f (b c d : Bool) : (td false b c d &&& 1) = 0 := by cases b <;> cases c <;> cases d <;> decide
theorem td_1t (b c d : Bool) : ¬ (td true b c d &&& 1) = 0 := by cases b <;> cases c <;> cases d <;> decide
theorem td_1o (b c d : Bool) : (td false b c d ||| 1) = td true b c d := by cases b <;> cases c <;> cases d <;> decide
theorem cn_1 (b c d : Bool) : cn false b c d = cn true b c d + 1 := by cases b <;> cases c <;> cases d <;> decide
theorem td_2f (a c d : Bool) : (td a false c d &&& 2) = 0 := by cases a <;> cases c <;> cases d <;> decide
theorem td_2t (a c d : Bool) : ¬ (td a true c d &&& 2) = 0 := by cases a <;> cases c <;> cases d <;> decide
theorem td_2o (a c d : Bool) : (td a false c d ||| 2) = td a true c d := by cases a <;> cases c <;> cases d <;> decide
theorem cn_2 (a c d : Bool) : cn a false c d = cn a true c d + 1 := by cases a <;> cases c <;> cases d <;> decide
theorem td_4f (a b d : Bool) : (td a b false d &&& 4) = 0 := by cases a <;> cases b <;> cases d <;> decide
theorem td_4t (a b d : Bool) : ¬ (td a b true d &&& 4) = 0 := by cases a <;> cases b <;> cases d <;> decide
theorem td_4o (a b d : Bool) : (td a b false d ||| 4) = td a b true d := by cases a <;> cases b <;> cases d <;> decide
theorem cn_4 (a b d : Bool) : cn a b false d = cn a b true d + 1 := by cases a <;> cases b <;> cases d <;> decide
theorem td_8f (a b c : Bool) : (td a b c false &&& 8) = 0 := by cases a <;> cases b <;> cases c <;> decide
theorem td_8t (a b c : Bool) : ¬ (td a b c true &&& 8) = 0 := by cases a <;> cases b <;> cases c <;> decide
theorem td_8o (a b c : Bool) : (td a b c false ||| 8) = td a b c true := by cases a <;> cases b <;> cases c <;> decide
theorem cn_8 (a b c : Bool) : cn a b c false = cn a b c true + 1 := by cases a <;> cases b <;> cases c <;> decide
/-- one part: told or not -/
def prB (b : Bool) (v dv : Int32) (u : Int32) : Prop := (b = false ∧ v = -1 ∧ u = dv) ∨ (b = true ∧ ¬ v = -1 ∧ u = v)
def prA (a : Bool) (t v u : Int32) : Prop := (a = false ∧ t = 0 ∧ u = 20) ∨ (a = true ∧ t = 1 ∧ u = v)
def prS (xs g0 : Nat → Int32) (a b c d : Bool) (x g : Nat → Int32) : Prop := prA a (x 10) (x 11) (g 3) ∧ bI (g 3) (-99) 99 ∧ prB b (x 7) 100 (g 5) ∧ prB c (x 8) 3 (g 6) ∧ prB d (x 9) 20 (g 7) ∧ (∀ i, 3 ≤ i → i < 7 → x i = xs i) ∧ ∀ j, j ≠ 3 → j ≠ 5 → j ≠ 6 → j ≠ 7 → g j = g0 j
def lpQ (L : Nat) (Xs xs g0 : Nat → Int32) (R : Int32 × (Nat → Int32) × (Nat → Int32)) (r : Int32) (w : Nat → Int32) : Prop := w 1 = nI L ∧ (∀ i, i ≠ 3 → R.2.1 i = Xs i) ∧ ((R.1 = 0 ∧ ∃ q, q ≤ L ∧ r = nI q ∧ R.2.1 3 = nI q) ∨ (R.1 = 1 ∧ r = -99999 ∧ ∃ a b c d v, R.2.2 = upd v 12 (v 3) ∧ prS xs g0 a b c d w v))
end TEXT4

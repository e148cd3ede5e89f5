section WHOLE
variable {z : Nat → Nat → Int32} {zk : Nat → Nat → Nat → Int32} {f f' fd fk fl fz : Nat → Int32} {N M c i : Nat}
/-- a page's relation speaks of 154 places -/
theorem RZ.fcong (h : RZ N z f) (e : ∀ j, j < 154 → f' j = f j) : RZ N z f' := by
  obtain ⟨hP, hC, hW, hT, hA, hI⟩ := h
  have h17 := (in_tn hI.2.1.2.2 (by decide)).2
  refine ⟨hP.cong rfl rfl rfl (fun j hj => e j (by omega)), hC.cong rfl (fun j hj => e j (by omega)), hW.cong hI.2.1.2.1 rfl rfl rfl rfl rfl rfl (fun j hj => e j (by omega)), ?_, hA.cong rfl rfl (fun j hj => e j (by omega)), ?_⟩
  · obtain ⟨a1, a2⟩ := hT
    unfold rlT
    rw [e 17 (by decide)]
    exact ⟨a1, fun t ht => by rw [e (122 + t) (by omega)]; exact a2 t ht⟩
  · obtain ⟨⟨a1, a2, a3, a4, a5, a6⟩, ⟨b1, b2, b3⟩, ⟨c1, c2, c3⟩, d1, d2, d3⟩ := hI
    unfold rlI
    rw [e 0 (by decide), e 1 (by decide), e 2 (by decide), e 3 (by decide), e 4 (by decide), e 12 (by decide), e 11 (by decide), e 16 (by decide), e 17 (by decide), e 14 (by decide), e 19 (by decide), e 21 (by decide), e 22 (by decide)]
    exact ⟨⟨a1, a2, a3, a4, a5, a6⟩, ⟨b1, b2, b3⟩, ⟨c1, c2, c3⟩, fun k hk => by rw [e (25 + k) (by omega)]; exact d1 k hk, d2, fun t ht => by rw [e (122 + 4 * t + 3) (by omega)]; exact d3 t ht⟩
/-- a State's own yes-or-no places -/
def BZ (z : Nat → Nat → Int32) : Prop := (z 3 7 = 0 ∨ z 3 7 = 1) ∧ (z 3 10 = 0 ∨ z 3 10 = 1) ∧ (z 4 6 = 0 ∨ z 4 6 = 1)
theorem RZ.bz (h : RZ N z f) : BZ z := by
  obtain ⟨hP, hC, hW, hT, hA, hI⟩ := h
  refine ⟨?_, ?_, ?_⟩
  · rw [hC.2.2.1]; exact hI.2.2.1.1
  · rw [hC.2.2.2.2.2]; exact hI.2.2.1.2.1
  · rw [hW.2.1]; exact hI.2.2.1.2.2
/-- the history and the diary -/
def HR (N c : Nat) (zk : Nat → Nat → Nat → Int32) (fd : Nat → Int32) : Prop := ∀ k, k < c → RZ N (zk k) (fun j => fd (154 * k + j))
theorem HR.mono (h : HR N c zk fd) (hm : N ≤ M) : HR M c zk fd := fun k hk => (h k hk).mono hm
theorem cpy_in {α : Type} {f g : Nat → α} {sp dp n k : Nat} (h1 : dp ≤ k) (h2 : k < dp + n) : va_cpy f g sp dp n k = f (sp + (k - dp)) := if_pos ⟨h1, h2⟩
theorem cpy_out {α : Type} {f g : Nat → α} {sp dp n k : Nat} (h : ¬ (dp ≤ k ∧ k < dp + n)) : va_cpy f g sp dp n k = g k := if_neg h
theorem note_rel {x : Nat → Int32} (h : HR N c zk fd) (hx : x 8 = nI c) (hc : c ≤ 14) (hz : RZ N z f) : HR N (rmC c + 1) (uK (rmT c zk) (rmC c) z) (s_X12_note_w2 x f fd) ∧ s_X12_note_w0 x 8 = nI (rmC c + 1) ∧ (∀ i, i ≠ 8 → s_X12_note_w0 x i = x i) := by
  rcases Nat.lt_or_ge c 14 with q | q
  · have n14 : ¬ x 8 = 14 := by
      rw [hx]
      exact nI_ne (i := c) (j := 14) (by omega) (by decide) (by omega)
    have e0 : s_X12_note_w0 x = upd x 8 (nI (c + 1)) := by
      unfold s_X12_note_w0
      try dsimp only
      rw [if_neg n14, hx]
      exact congrArg (upd x 8) (nI_add c 1)
    have e2 : s_X12_note_w2 x f fd = va_cpy f fd 0 (154 * c) 154 := by
      unfold s_X12_note_w2
      try dsimp only
      rw [if_neg n14, if_neg n14, hx, tn_of (k := c) rfl (by omega)]
    have r1 : rmC c = c := if_pos q
    have r2 : rmT c zk = zk := if_pos q
    rw [e0, e2, r1, r2]
    refine ⟨fun k hk => ?_, upd_at _ _ _, fun i hi => upd_ne hi⟩
    unfold uK
    by_cases d : k = c
    · rw [if_pos d, d]
      exact hz.fcong (fun j hj => by rw [cpy_in (by omega) (by omega)]; congr 1; omega)
    · rw [if_neg d]
      exact (h k (by omega)).fcong (fun j hj => cpy_out (by omega))
  · have c14 : c = 14 := by omega
    subst c14
    have n14 : x 8 = 14 := hx
    have e0 : s_X12_note_w0 x = upd (upd x 8 (x 8 - 1)) 8 (nI 14) := by
      unfold s_X12_note_w0
      try dsimp only
      rw [if_pos n14, upd_at, n14]
      rfl
    have e2 : s_X12_note_w2 x f fd = va_cpy f (shD 2002 fd) 0 (154 * 13) 154 := by
      unfold s_X12_note_w2
      try dsimp only
      rw [if_pos n14, if_pos n14, upd_at, n14]
      rw [show tn ((14 : Int32) - 1) = 13 from tn_of (k := 13) rfl (by decide)]
    have r1 : rmC 14 = 13 := if_neg (by decide)
    have r2 : rmT 14 zk = tK zk := if_neg (by decide)
    rw [e0, e2, r1, r2]
    refine ⟨fun k hk => ?_, upd_at _ _ _, fun i hi => (upd_ne hi).trans (upd_ne hi)⟩
    unfold uK
    by_cases d : k = 13
    · rw [if_pos d, d]
      exact hz.fcong (fun j hj => (cpy_in (by omega) (by omega)).trans (congrArg f (by omega)))
    · rw [if_neg d]
      have e : tK zk k = zk (k + 1) := by
        unfold tK
        rw [if_neg d, if_pos (by omega)]
      rw [e]
      refine (h (k + 1) (by omega)).fcong (fun j hj => ?_)
      rw [cpy_out (by omega)]
      unfold shD
      rw [if_pos (by omega)]
      congr 1
      omega
theorem undo_rel (h : HR N (c + 1) zk fd) : RZ N (zk c) (va_cpy fd f (154 * c) 0 154) ∧ HR N c zk fd := ⟨(h c (by omega)).fcong (fun j hj => by rw [cpy_in (by omega) (by omega)]; congr 1), fun k hk => h k (by omega)⟩
/-- the slots and the kept pages -/
def KR (N : Nat) (zs : Nat → Nat → Nat → Int32) (fl fk fz : Nat → Int32) : Prop := ∀ i, i < 2 → fl i = fz i ∧ (fz i = 0 ∨ fz i = 1) ∧ (¬ fz i = 0 → RZ N (zs i) (fun j => fk (154 * i + j)))
theorem KR.mono {zs : Nat → Nat → Nat → Int32} (h : KR N zs fl fk fz) (hm : N ≤ M) : KR M zs fl fk fz := fun k hk => ⟨(h k hk).1, (h k hk).2.1, fun q => ((h k hk).2.2 q).mono hm⟩
theorem KR.none {zs : Nat → Nat → Nat → Int32} (h1 : ∀ i, i < 2 → fl i = 0) (h2 : ∀ i, i < 2 → fz i = 0) : KR N zs fl fk fz := fun k hk => ⟨(h1 k hk).trans (h2 k hk).symm, Or.inl (h2 k hk), fun q => absurd (h2 k hk) q⟩
theorem save_rel {zs : Nat → Nat → Nat → Int32} {t : Nat} (h : KR N zs fl fk fz) (ht : t < 2) (hz : RZ N z f) : KR N (uK zs t z) (upd fl t 1) (va_cpy f fk 0 (154 * t) 154) (upd fz t 1) := by
  intro k hk
  unfold uK
  by_cases d : k = t
  · subst d
    rw [if_pos rfl, upd_at, upd_at]
    exact ⟨rfl, Or.inr rfl, fun _ => hz.fcong (fun j hj => by rw [cpy_in (by omega) (by omega)]; congr 1; omega)⟩
  · rw [if_neg d, upd_ne d, upd_ne d]
    obtain ⟨h1, h2, h3⟩ := h k hk
    exact ⟨h1, h2, fun q => (h3 q).fcong (fun j hj => cpy_out (by omega))⟩
theorem restore_rel {zs : Nat → Nat → Nat → Int32} {t : Nat} (h : KR N zs fl fk fz) (ht : t < 2) (hf : ¬ fz t = 0) : RZ N (zs t) (va_cpy fk f (154 * t) 0 154) := ((h t ht).2.2 hf).fcong (fun j hj => by rw [cpy_in (by omega) (by omega)]; congr 1)
end WHOLE

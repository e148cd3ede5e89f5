/-! ===== the class's own: places, swings ===== -/
theorem vin2 {x B : Int32} {n : Nat} (h0 : ¬ x < 0) (h : ¬ B ≤ x) (hB : B = nI n) (hn : n < 1000000) : vp_in x n := by
  obtain ⟨k, hk, rfl⟩ := nI_of h0
  exact vp_in_nI (klt (x := nI k) rfl hB hk (by omega) h) (by omega)
theorem vin3 {x : Int32} (h0 : ¬ x < 1) (h : x < 20) : vp_in x 20 := by
  refine vin2 (B := 20) (fun h1 => h0 (Int32.lt_trans h1 (by decide))) (by rw [Int32.not_le]; exact h) rfl (by decide)
theorem vin4 {x B : Int32} {n : Nat} (h0 : ¬ x < 0) (h : x < B) (hB : B = nI n) (hn : n < 1000000) : vp_in x n := vin2 h0 (by rw [Int32.not_le]; exact h) hB hn
theorem vin5 {x B : Int32} {n : Nat} (h0 : 0 ≤ x) (h : x < B) (hB : B = nI n) (hn : n < 1000000) : vp_in x n := vin4 (by rw [Int32.not_lt]; exact h0) h hB hn
theorem vin6 {x B : Int32} {n : Nat} (h0 : ¬ x < 0) (h : x ≤ B) (hB : B = nI n) (hn : n < 1000000) : vp_in x (n + 1) := by
  obtain ⟨k, hk, rfl⟩ := nI_of h0
  subst hB
  exact vp_in_nI (by have := (nI_leI hk (by omega)).mp h; omega) (by omega)
theorem ite_z {c : Prop} [Decidable c] {f g : Nat → Int32} {j : Nat} (h1 : f j = 0 ∨ f j = 1) (h2 : g j = 0 ∨ g j = 1) : (if c then f else g) j = 0 ∨ (if c then f else g) j = 1 := by
  by_cases h : c
  · rw [if_pos h]; exact h1
  · rw [if_neg h]; exact h2
theorem ne_of_nle0 {x : Int32} (h : ¬ x ≤ 0) : ¬ x = 0 := fun h2 => h (by rw [h2]; exact Int32.le_refl _)
/-- from place j on up to k, each place takes the next one's -/
def drJ (j k : Nat) (f : Nat → Int32) : Nat → Int32 := fun i => if j ≤ i ∧ i < k then f (i + 1) else f i
theorem drJ_0 (j : Nat) (f : Nat → Int32) : drJ j j f = f := by funext i; simp only [drJ]; rw [if_neg (by omega)]
theorem drJ_s {j k : Nat} (h0 : 0 < k) (h : j ≤ k - 1) (f : Nat → Int32) : upd (drJ j (k - 1) f) (k - 1) (drJ j (k - 1) f k) = drJ j (k + 1 - 1) f := by
  funext i
  simp only [upd, drJ]
  rcases Nat.lt_trichotomy i (k - 1) with h1 | h1 | h1
  · rw [if_neg (by omega)]
    by_cases h2 : j ≤ i
    · rw [if_pos (by omega), if_pos (by omega)]
    · rw [if_neg (by omega), if_neg (by omega)]
  · subst h1
    rw [if_pos rfl, if_neg (by omega), if_pos (by omega)]
    congr 1
    omega
  · rw [if_neg (by omega), if_neg (by omega), if_neg (by omega)]
def vC (b : Int32) (fp fh fl : Nat → Int32) : Nat → Int32 := if b = 0 then fp else fun j => fh j - fl j
abbrev sC (fh fl : Nat → Int32) : Nat → Int32 := fun j => fh j - fl j
theorem vC_val {a1 v : Int32} {fp fh fl : Nat → Int32} {k : Nat} (e : v = (if a1 = 0 then (fp k) else ((fh k) - (fl k)))) : v = vC a1 fp fh fl k := by
  rw [e]
  unfold vC
  split
  · rfl
  · rfl
def oddB (p s : Nat → Int32) (tol mp ms : Int32) (j : Nat) : Int32 := if j = 0 then 1 else if sizeG (p j - mp) * 100 ≤ tol * mp then (if sizeG (s j - ms) * 100 ≤ tol * ms then 0 else 3) else 2
def goodB (p s : Nat → Int32) (tol mp ms : Int32) : Nat → Nat
  | 0 => 0
  | k + 1 => goodB p s tol mp ms k + if oddB p s tol mp ms k = 0 then 1 else 0
theorem goodB_G (p s : Nat → Int32) (n : Nat) (tol : Int32) : ∀ k, goodB p s tol (midG p n) (midG s n) k = goodG p s n tol k
  | 0 => rfl
  | k + 1 => by
    simp only [goodB, goodG]
    rw [goodB_G p s n tol k]
    rfl
theorem goodB_le (p s : Nat → Int32) (tol mp ms : Int32) : ∀ k, goodB p s tol mp ms k ≤ k
  | 0 => Nat.le_refl _
  | k + 1 => by
    have := goodB_le p s tol mp ms k
    simp only [goodB]
    split <;> omega
theorem mid_ixC {x : Int32} {k : Nat} (hx : x = nI k) (hk : k < 1000000) (h : ¬ x ≤ 0) : (x - nI 1) / nI 2 = nI ((k + 1 - 2) / 2) := by
  have h0 := pos_of_nle0 hx h
  rw [hx, pk_sub (by omega), pk_div (by omega) (by omega) (by omega)]
  congr 1
theorem maxG (q : Int32) : (if 1 < q then q else 1) = (if 1 ≤ q then q else 1) := by
  by_cases h : 1 < q
  · rw [if_pos h, if_pos (Int32.le_of_lt h)]
  · rw [if_neg h]
    by_cases h2 : 1 ≤ q
    · rw [if_pos h2]
      rw [Int32.not_lt] at h
      exact Int32.le_antisymm h2 h
    · rw [if_neg h2]
/-- a State's numbers, by the object or row that they stand in; one of them put anew -/
def zU (z : Nat → Nat → Int32) (k : Nat) (f : Nat → Int32) : Nat → Nat → Int32 := fun i => if i = k then f else z i

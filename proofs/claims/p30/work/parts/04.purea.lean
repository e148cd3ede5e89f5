/-! ===== the reference's page, as a function of places ===== -/
abbrev tn (x : Int32) : Nat := x.toNatClampNeg
theorem in_tn {x : Int32} {n : Nat} (h : vp_in x n) (hn : n < 1000000) : x = nI (tn x) ∧ tn x < n := by
  obtain ⟨j, hj, rfl⟩ := vp_in_of h (by omega)
  have h31 : j < 2 ^ 31 := by omega
  unfold tn
  rw [nI_clamp h31]
  exact ⟨rfl, hj⟩
theorem nI_plus {x : Int32} {n : Nat} (a : Nat) (h : vp_in x n) (hn : n < 1000000) : nI a + x = nI (a + tn x) := by
  have h1 := (in_tn h hn).1
  generalize tn x = t at h1
  rw [h1, nI_add]
/-- 154 places of g from b on, out of f from a on: va_cpy; a page of zeros and the numbers of a new heater -/
def zrF (k : Nat) (f : Nat → Int32) : Nat → Int32 := fun j => if j < k then 0 else f j
theorem zrF_0 (f : Nat → Int32) : zrF 0 f = f := by funext j; simp [zrF]
theorem zrF_s (k : Nat) (f : Nat → Int32) : upd (zrF k f) k 0 = zrF (k + 1) f := by
  funext j
  simp only [upd, zrF]
  rcases Nat.lt_trichotomy j k with h | h | h
  · rw [if_neg (by omega), if_pos h, if_pos (by omega)]
  · rw [if_pos h, if_pos (by omega)]
  · rw [if_neg (by omega), if_neg (by omega), if_neg (by omega)]
theorem cpyF_0 (f g : Nat → Int32) (a b : Nat) : va_cpy f g a b 0 = g := by
  funext j
  simp only [va_cpy]
  rw [if_neg (by omega)]
theorem cpyF_s (f g : Nat → Int32) (a b k : Nat) : upd (va_cpy f g a b k) (b + k) (f (a + k)) = va_cpy f g a b (k + 1) := by
  funext j
  simp only [upd, va_cpy]
  rcases Nat.lt_trichotomy j (b + k) with h | h | h
  · rw [if_neg (by omega)]
    by_cases h2 : b ≤ j
    · rw [if_pos (by omega), if_pos (by omega)]
    · rw [if_neg (by omega), if_neg (by omega)]
  · subst h
    rw [if_pos rfl, if_pos (by omega)]
    congr 1
    omega
  · rw [if_neg (by omega), if_neg (by omega), if_neg (by omega)]
/-- from place a on up to b, each place takes what stands four places on -/
def drF (a b : Nat) (f : Nat → Int32) : Nat → Int32 := fun j => if a ≤ j ∧ j < b then f (j + 4) else f j
theorem drF_0 (a : Nat) (f : Nat → Int32) : drF a a f = f := by funext j; simp only [drF]; rw [if_neg (by omega)]
theorem drF_s (a k : Nat) (h : a ≤ k) (f : Nat → Int32) : upd (drF a k f) k (drF a k f (k + 4)) = drF a (k + 1) f := by
  funext j
  simp only [upd, drF]
  rcases Nat.lt_trichotomy j k with h1 | h1 | h1
  · rw [if_neg (by omega)]
    by_cases h2 : a ≤ j
    · rw [if_pos (by omega), if_pos (by omega)]
    · rw [if_neg (by omega), if_neg (by omega)]
  · subst h1
    rw [if_pos rfl, if_neg (by omega), if_pos (by omega)]
  · rw [if_neg (by omega), if_neg (by omega), if_neg (by omega)]
/-- the pipe from place 25 + k on has moved by one -/
def shF (k : Nat) (f : Nat → Int32) : Nat → Int32 := fun j => if 25 + k < j ∧ j ≤ 34 then f (j - 1) else f j
theorem shF_9 (f : Nat → Int32) : shF 9 f = f := by funext j; simp only [shF]; rw [if_neg (by omega)]
theorem shF_s (k : Nat) (h : k < 9) (f : Nat → Int32) : upd (shF (k + 1) f) (25 + (k + 1)) (shF (k + 1) f (25 + k)) = shF k f := by
  funext j
  simp only [upd, shF]
  rcases Nat.lt_trichotomy j (25 + (k + 1)) with h1 | h1 | h1
  · rw [if_neg (by omega), if_neg (by omega), if_neg (by omega)]
  · subst h1
    rw [if_pos rfl, if_neg (by omega), if_pos (by omega)]
    congr 1
  · rw [if_neg (by omega)]
    by_cases h2 : j ≤ 34
    · rw [if_pos (by omega), if_pos (by omega)]
    · rw [if_neg (by omega), if_neg (by omega)]
theorem shF_out {k j : Nat} {f : Nat → Int32} (h : ¬ (25 + k < j ∧ j ≤ 34)) : shF k f j = f j := by simp only [shF]; rw [if_neg h]
theorem drF_out {a b j : Nat} {f : Nat → Int32} (h : ¬ (a ≤ j ∧ j < b)) : drF a b f j = f j := by simp only [drF]; rw [if_neg h]
def itF {α : Type} (t : α → α) : Nat → α → α
  | 0, f => f
  | k + 1, f => t (itF t k f)
/-- what the reference needs of a page, so that nothing of the machine's own throws -/
def PG (f : Nat → Int32) : Prop := ¬ f 1 = 0 ∧ vp_in (f 2) 10 ∧ vp_in (f 11) 3 ∧ vp_in (f 16) 21 ∧ vp_in (f 17) 9
theorem upd_ne {f : Nat → Int32} {k j : Nat} {x : Int32} (h : j ≠ k) : upd f k x j = f j := by simp [upd, h]
/-! ===== swings: what both sides count ===== -/
/-- v goes into its place among the first t of o, which are in order -/
def insF (o : Nat → Int32) (v : Int32) : Nat → (Nat → Int32)
  | 0 => upd o 0 v
  | t + 1 => if v < o t then insF (upd o (t + 1) (o t)) v t else upd o (t + 1) v
/-- the numbers 1 to k of val, in order -/
def midS (val : Nat → Int32) : Nat → (Nat → Int32) → (Nat → Int32)
  | 0, o => o
  | k + 1, o => insF (midS val k o) (val (k + 1)) k
def midG (val : Nat → Int32) (n : Nat) : Int32 := if n < 2 then -99999 else midS val (n - 1) (fun _ => 0) ((n - 2) / 2)
theorem insF_out {v : Int32} : ∀ {t : Nat} {o : Nat → Int32} {i : Nat}, t < i → insF o v t i = o i
  | 0, o, i, h => by simp only [insF]; exact upd_ne (by omega)
  | t + 1, o, i, h => by
    simp only [insF]
    split
    · rw [insF_out (by omega)]; exact upd_ne (by omega)
    · exact upd_ne (by omega)
theorem insF_cong {v : Int32} : ∀ {t : Nat} {o o2 : Nat → Int32}, (∀ i, i < t → o i = o2 i) → ∀ i, i ≤ t → insF o v t i = insF o2 v t i
  | 0, o, o2, _, i, hi => by
    have : i = 0 := by omega
    subst this
    simp [insF, upd]
  | t + 1, o, o2, h, i, hi => by
    simp only [insF]
    rw [h t (by omega)]
    by_cases h3 : i = t + 1
    · subst h3
      split
      · rw [insF_out (by omega), insF_out (by omega)]; simp [upd]
      · simp [upd]
    · split
      · exact insF_cong (fun j hj => by rw [upd_ne (by omega), upd_ne (by omega)]; exact h j (by omega)) i (by omega)
      · rw [upd_ne h3, upd_ne h3]; exact h i (by omega)
theorem midS_cong {v v2 : Nat → Int32} {o o2 : Nat → Int32} : ∀ {k : Nat}, (∀ j, 1 ≤ j → j ≤ k → v j = v2 j) → ∀ i, i < k → midS v k o i = midS v2 k o2 i
  | 0, _, i, hi => absurd hi (Nat.not_lt_zero _)
  | k + 1, h, i, hi => by
    simp only [midS]
    rw [h (k + 1) (by omega) (by omega)]
    exact insF_cong (fun j hj => midS_cong (fun j2 h1 h2 => h j2 h1 (by omega)) j hj) i (by omega)
theorem midG_of {val : Nat → Int32} {n : Nat} (h : ¬ n < 2) (o : Nat → Int32) : midS val (n - 1) o ((n - 2) / 2) = midG val n := by
  simp only [midG]
  rw [if_neg h]
  exact midS_cong (fun _ _ _ => rfl) _ (by omega)
theorem midG_cong {v v2 : Nat → Int32} {n : Nat} (h : ∀ j, j < n → v j = v2 j) : midG v n = midG v2 n := by
  simp only [midG]
  split
  · rfl
  · exact midS_cong (fun j h1 h2 => h j (by omega)) _ (by omega)
def sizeG (a : Int32) : Int32 := if 0 ≤ a then a else 0 - a
theorem neg_sub0 (a : Int32) : -a = 0 - a := by simp
def farG (v m t : Int32) : Prop := ¬ sizeG (v - m) * 100 ≤ t * m
def oddG (p s : Nat → Int32) (n : Nat) (tol : Int32) (j : Nat) : Int32 := if j = 0 then 1 else if sizeG (p j - midG p n) * 100 ≤ tol * midG p n then (if sizeG (s j - midG s n) * 100 ≤ tol * midG s n then 0 else 3) else 2
def goodG (p s : Nat → Int32) (n : Nat) (tol : Int32) : Nat → Nat
  | 0 => 0
  | k + 1 => goodG p s n tol k + if oddG p s n tol k = 0 then 1 else 0
def sumG (p s : Nat → Int32) (n : Nat) (tol : Int32) (v : Nat → Int32) : Nat → Int32
  | 0 => 0
  | k + 1 => if oddG p s n tol k = 0 then sumG p s n tol v k + v k else sumG p s n tol v k
def meanG (p s : Nat → Int32) (n : Nat) (tol : Int32) (v : Nat → Int32) : Int32 := if 1 ≤ sumG p s n tol v n / nI (goodG p s n tol n) then sumG p s n tol v n / nI (goodG p s n tol n) else 1
theorem goodG_le (p s : Nat → Int32) (n : Nat) (tol : Int32) : ∀ k, goodG p s n tol k ≤ k
  | 0 => Nat.le_refl _
  | k + 1 => by
    have := goodG_le p s n tol k
    simp only [goodG]
    split <;> omega
/-- the swings of a page -/
def pP (f : Nat → Int32) : Nat → Int32 := fun j => f (42 + 4 * j)
def sP (f : Nat → Int32) : Nat → Int32 := fun j => f (42 + 4 * j + 1) - f (42 + 4 * j + 2)
def vP (b : Int32) (f : Nat → Int32) : Nat → Int32 := if b = 0 then pP f else sP f
abbrev nP (f : Nat → Int32) : Nat := tn (f 16)
def midP (f : Nat → Int32) (b : Int32) : Int32 := midG (vP b f) (nP f)
def oddP (f : Nat → Int32) (j : Nat) : Int32 := oddG (pP f) (sP f) (nP f) (f 7) j
def goodP (f : Nat → Int32) : Nat := goodG (pP f) (sP f) (nP f) (f 7) (nP f)
def meanP (f : Nat → Int32) (b : Int32) : Int32 := meanG (pP f) (sP f) (nP f) (f 7) (vP b f)
theorem ix4 (c t : Nat) {x : Int32} (hx : x = nI t) : (nI 42 + nI 4 * x) + nI c = nI (42 + 4 * t + c) := by rw [hx, pk_mul, nI_add, nI_add]
theorem ix40 (t : Nat) {x : Int32} (hx : x = nI t) : nI 42 + nI 4 * x = nI (42 + 4 * t) := by rw [hx, pk_mul, nI_add]
theorem pos_of_nle0 {x : Int32} {k : Nat} (hx : x = nI k) (h : ¬ x ≤ 0) : 0 < k := by
  rcases Nat.eq_zero_or_pos k with q | q
  · exact absurd (by rw [hx, q]; decide) h
  · exact q
theorem zero_of_le0 {x : Int32} {k : Nat} (hx : x = nI k) (hk : k < 2 ^ 31) (h : x ≤ 0) : k = 0 := by
  rcases Nat.eq_zero_or_pos k with q | q
  · exact q
  · exact absurd (by rw [← hx]; exact h) (nI_nle q hk)
theorem dec_ix {x : Int32} {k : Nat} (hx : x = nI k) (h : 0 < k) : x + (-1) = nI (k - 1) := by
  rw [hx, show k = (k - 1) + 1 by omega]
  exact pk_m1 _
theorem sh_ix {x : Int32} {k : Nat} (hx : x = nI k) (h : 0 < k) : (nI 25 + x) - nI 1 = nI (25 + (k - 1)) := by
  rw [hx, nI_add, pk_sub (by omega)]
  congr 1
  omega
theorem sub1_ix {x : Int32} {k : Nat} (hx : x = nI k) (h : 0 < k) : x - nI 1 = nI (k - 1) := by rw [hx, pk_sub (by omega)]
theorem shF_t {k : Nat} (h : 0 < k) (h2 : k ≤ 9) (f : Nat → Int32) : upd (shF k f) (25 + k) (shF k f (25 + (k - 1))) = shF (k - 1) f := by
  have := shF_s (k - 1) (by omega) f
  rw [show k - 1 + 1 = k by omega] at this
  exact this
theorem sum_step {p s : Nat → Int32} {n k : Nat} {tol x3 : Int32} {val : Nat → Int32} {od z vv : Int32} (hx : x3 = sumG p s n tol val k) (ho : od = oddG p s n tol k) (hv : vv = val k) (e : z = (if od = 0 then x3 + vv else x3)) : z = sumG p s n tol val (k + 1) := by
  rw [e, ho, hx, hv]
  rfl
theorem good_step2 {p s : Nat → Int32} {n k : Nat} {tol x4 od z : Int32} (hx : x4 = nI (goodG p s n tol k)) (ho : od = oddG p s n tol k) (e : z = (if od = 0 then x4 + 1 else x4)) : z = nI (goodG p s n tol (k + 1)) := by
  rw [e, ho, hx]
  simp only [goodG]
  split
  · exact nI_1 _
  · rfl
theorem oddG_cong {p s p2 s2 : Nat → Int32} {n : Nat} {tol : Int32} (hp : ∀ j, j < n → p j = p2 j) (hs : ∀ j, j < n → s j = s2 j) {j : Nat} (hj : j < n) : oddG p s n tol j = oddG p2 s2 n tol j := by
  unfold oddG
  rw [midG_cong hp, midG_cong hs, hp j hj, hs j hj]
theorem goodG_cong {p s p2 s2 : Nat → Int32} {n : Nat} {tol : Int32} (hp : ∀ j, j < n → p j = p2 j) (hs : ∀ j, j < n → s j = s2 j) : ∀ {k : Nat}, k ≤ n → goodG p s n tol k = goodG p2 s2 n tol k
  | 0, _ => rfl
  | k + 1, h => by
    simp only [goodG]
    rw [goodG_cong hp hs (by omega), oddG_cong hp hs (by omega)]
theorem sumG_cong {p s p2 s2 v v2 : Nat → Int32} {n : Nat} {tol : Int32} (hp : ∀ j, j < n → p j = p2 j) (hs : ∀ j, j < n → s j = s2 j) (hv : ∀ j, j < n → v j = v2 j) : ∀ {k : Nat}, k ≤ n → sumG p s n tol v k = sumG p2 s2 n tol v2 k
  | 0, _ => rfl
  | k + 1, h => by
    simp only [sumG]
    rw [sumG_cong hp hs hv (by omega), oddG_cong hp hs (by omega), hv k (by omega)]
theorem meanG_cong {p s p2 s2 v v2 : Nat → Int32} {n : Nat} {tol : Int32} (hp : ∀ j, j < n → p j = p2 j) (hs : ∀ j, j < n → s j = s2 j) (hv : ∀ j, j < n → v j = v2 j) : meanG p s n tol v = meanG p2 s2 n tol v2 := by
  unfold meanG
  rw [sumG_cong hp hs hv (Nat.le_refl n), goodG_cong hp hs (Nat.le_refl n)]
theorem meanG_pos (p s : Nat → Int32) (n : Nat) (tol : Int32) (v : Nat → Int32) : 1 ≤ meanG p s n tol v := by
  unfold meanG
  split
  · next h => exact h
  · exact Int32.le_refl _
theorem ne0_of_pos {x : Int32} (h : 1 ≤ x) : ¬ x = 0 := fun h2 => absurd (by rw [← h2]; exact h) (by decide : ¬ (1 : Int32) ≤ 0)
theorem ten_nat {k : Nat} (hk : k < 2147483648) (h7 : 1 ≤ k) (h6 : (10 * k) % 4294967296 = 0) : False := by
  obtain ⟨c, hc⟩ := Nat.dvd_of_mod_eq_zero h6
  have h3 : 2147483648 ∣ 5 * k := by
    have e : 2 * (5 * k) = 2 * (2147483648 * c) := by
      rw [← Nat.mul_assoc, ← Nat.mul_assoc]
      exact hc
    exact ⟨c, Nat.eq_of_mul_eq_mul_left (Nat.succ_pos 1) e⟩
  have h4 : 2147483648 ∣ k := Nat.Coprime.dvd_of_dvd_mul_left (by decide +kernel) h3
  exact absurd (Nat.le_of_dvd h7 h4) (Nat.not_le.mpr hk)
theorem nI_mod (n : Nat) : (nI n).toBitVec.toNat = n % 4294967296 := by
  show (BitVec.ofNat 32 n).toNat = _
  rw [BitVec.toNat_ofNat]
theorem ten_ne0 {x : Int32} (h : 1 ≤ x) : ¬ 10 * x = 0 := by
  intro h2
  have h3 : ¬ x < 0 := by
    rw [Int32.not_lt]
    exact Int32.le_trans (by decide) h
  obtain ⟨k, hk, rfl⟩ := nI_of h3
  have h4 : nI (10 * k) = nI 0 := (pk_mul 10 k).symm.trans h2
  have h5 : (10 * k) % 4294967296 = 0 := by rw [← nI_mod, h4]; rfl
  have h7 : 1 ≤ k := by
    rcases Nat.eq_zero_or_pos k with q | q
    · subst q; exact absurd h (by decide)
    · exact q
  exact ten_nat hk h7 h5
/-- two pages with the same swings and the same tolerance -/
def sameSw (f g : Nat → Int32) : Prop := f 16 = g 16 ∧ f 7 = g 7 ∧ ∀ j, 42 ≤ j → j < 122 → f j = g j
theorem same_vP {f g : Nat → Int32} (h : sameSw f g) (h16 : vp_in (f 16) 21) (b : Int32) : ∀ j, j < nP f → vP b f j = vP b g j := by
  intro j hj
  have h2 := (in_tn h16 (by decide)).2
  have hj : j < tn (f 16) := hj
  unfold vP
  split
  · exact h.2.2 _ (by omega) (by omega)
  · show f (42 + 4 * j + 1) - f (42 + 4 * j + 2) = g (42 + 4 * j + 1) - g (42 + 4 * j + 2)
    rw [h.2.2 _ (by omega) (by omega), h.2.2 _ (by omega) (by omega)]
theorem same_good {f g : Nat → Int32} (h : sameSw f g) (h16 : vp_in (f 16) 21) : goodP f = goodP g := by
  have hn : nP f = nP g := by show tn (f 16) = tn (g 16); rw [h.1]
  unfold goodP
  rw [← hn, ← h.2.1]
  exact goodG_cong (same_vP h h16 0) (same_vP h h16 1) (Nat.le_refl _)
theorem same_mean {f g : Nat → Int32} (h : sameSw f g) (h16 : vp_in (f 16) 21) (b : Int32) : meanP f b = meanP g b := by
  have hn : nP f = nP g := by show tn (f 16) = tn (g 16); rw [h.1]
  unfold meanP
  rw [← hn, ← h.2.1]
  exact meanG_cong (same_vP h h16 0) (same_vP h h16 1) (same_vP h h16 b)
theorem tr_ix0 (t : Nat) {x : Int32} (hx : x = nI t) : nI 122 + nI 4 * x = nI (122 + 4 * t) := by rw [hx, pk_mul, nI_add]
theorem tr_ix (c t : Nat) {x : Int32} (hx : x = nI t) : (nI 122 + nI 4 * x) + nI c = nI (122 + 4 * t + c) := by rw [hx, pk_mul, nI_add, nI_add]
theorem try_same {f : Nat → Int32} {k : Nat} {a b c d e : Int32} (h : 122 ≤ k) : sameSw f (upd (upd (upd (upd (upd f k a) (k + 1) b) (k + 2) c) (k + 3) d) 17 e) := by
  refine ⟨?_, ?_, fun j h1 h2 => ?_⟩
  · rw [upd_ne (by omega), upd_ne (by omega), upd_ne (by omega), upd_ne (by omega), upd_ne (by omega)]
  · rw [upd_ne (by omega), upd_ne (by omega), upd_ne (by omega), upd_ne (by omega), upd_ne (by omega)]
  · rw [upd_ne (by omega), upd_ne (by omega), upd_ne (by omega), upd_ne (by omega), upd_ne (by omega)]
/-! ===== in, refused ===== -/
theorem i64_of (a : Int32) : a.toInt64.toInt = a.toInt := Int32.toInt_toInt64 a
theorem pg_ix (t : Nat) {x : Int32} (hx : x = nI t) : nI 154 * x = nI (154 * t) := by rw [hx, pk_mul]
/-- the diary has moved by a page, up to place k -/
def shD (k : Nat) (f : Nat → Int32) : Nat → Int32 := fun j => if j < k then f (j + 154) else f j
theorem shD_0 (f : Nat → Int32) : shD 0 f = f := by funext j; simp [shD]
theorem shD_s (k : Nat) (f : Nat → Int32) : upd (shD k f) k (shD k f (k + 154)) = shD (k + 1) f := by
  funext j
  simp only [upd, shD]
  rcases Nat.lt_trichotomy j k with h | h | h
  · rw [if_neg (by omega), if_pos h, if_pos (by omega)]
  · subst h
    rw [if_pos rfl, if_neg (by omega), if_pos (by omega)]
  · rw [if_neg (by omega), if_neg (by omega), if_neg (by omega)]
theorem ix4v (t t2 : Nat) {x z : Int32} (hx : x = nI t) (hz : z = nI t2) : (nI 42 + nI 4 * x) + z = nI (42 + 4 * t + t2) := by rw [hx, hz, pk_mul, nI_add, nI_add]
/-- the least number k from k0 on with a ≤ g k, among r numbers -/
def tolS (g : Nat → Nat) (a : Int32) : Nat → Nat → Int32
  | 0, _ => -99999
  | r + 1, k => if nI (g k) < a then tolS g a r (k + 1) else nI k
theorem tol_hit {g : Nat → Nat} {a : Int32} {k : Nat} (hk : k < 100) (h : ¬ nI (g k) < a) : tolS g a (100 - k) k = nI k := by
  rw [show 100 - k = (99 - k) + 1 by omega]
  simp only [tolS]
  rw [if_neg h]
theorem tol_next {g : Nat → Nat} {a : Int32} {k : Nat} (hk : k < 100) (h : nI (g k) < a) : tolS g a (100 - (k + 1)) (k + 1) = tolS g a (100 - k) k := by
  rw [show 100 - k = (100 - (k + 1)) + 1 by omega]
  conv => rhs; simp only [tolS]
  rw [if_pos h]
theorem upd_twice (f : Nat → Int32) (k : Nat) (a b : Int32) : upd (upd f k a) k b = upd f k b := by
  funext j
  simp only [upd]
  by_cases h : j = k
  · rw [if_pos h, if_pos h]
  · rw [if_neg h, if_neg h, if_neg h]
/-- what ticks add up to -/
def outS (t : Nat → Nat → Int32) : Nat → Int32
  | 0 => 0
  | k + 1 => outS t k + t (k + 1) 18
def greS (t : Nat → Nat → Int32) : Nat → Int32
  | 0 => -99999
  | k + 1 => if t (k + 1) 12 ≤ greS t k then greS t k else t (k + 1) 12
def apaS (t : Nat → Nat → Int32) : Nat → Int32
  | 0 => 0
  | k + 1 => apaS t k + sizeG (t (k + 1) 5 - t (k + 1) 12)
theorem upd3 (x : Nat → Int32) (a b c a2 b2 c2 : Int32) : upd (upd (upd (upd (upd (upd x 12 a) 13 b) 14 c) 12 a2) 13 b2) 14 c2 = upd (upd (upd x 12 a2) 13 b2) 14 c2 := by
  funext j
  simp only [upd]
  by_cases h1 : j = 14
  · rw [if_pos h1, if_pos h1]
  · by_cases h2 : j = 13
    · rw [if_neg h1, if_pos h2, if_neg h1, if_pos h2]
    · by_cases h3 : j = 12
      · rw [if_neg h1, if_neg h2, if_pos h3, if_neg h1, if_neg h2, if_pos h3]
      · rw [if_neg h1, if_neg h2, if_neg h3, if_neg h1, if_neg h2, if_neg h3, if_neg h1, if_neg h2, if_neg h3]
theorem kle {x : Int32} {k N : Nat} (hx : x = nI k) (hk : k < 2 ^ 31) (hN : N < 1000000) (h : ¬ nI N < x) : k < N + 1 := by
  subst hx
  rcases Nat.lt_or_ge k (N + 1) with q | q
  · exact q
  · exact absurd (nI_lt (by omega) hk) h
theorem kgt {x : Int32} {k N : Nat} (hx : x = nI k) (hk : k < 2 ^ 31) (hN : N < 1000000) (h : nI N < x) : N < k := by
  subst hx
  exact (nI_ltI (by omega) hk).mp h

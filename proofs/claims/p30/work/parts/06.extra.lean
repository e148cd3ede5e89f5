theorem ins_end0 {w : Nat → Int32} {v : Int32} {t : Nat} (h : t = 0) : upd w t v = insF w v t := by subst h; rfl
theorem ins_end1 {w : Nat → Int32} {v : Int32} {t : Nat} (h0 : 0 < t) (h : w (t - 1) ≤ v) : upd w t v = insF w v t := by
  obtain ⟨k, rfl⟩ : ∃ k, t = k + 1 := ⟨t - 1, by omega⟩
  have h : w k ≤ v := h
  simp only [insF]
  rw [if_neg (by rw [Int32.not_lt]; exact h)]
theorem ins_step {w : Nat → Int32} {v : Int32} {t : Nat} (h0 : 0 < t) (h : ¬ w (t - 1) ≤ v) : insF (upd w t (w (t - 1))) v (t - 1) = insF w v t := by
  obtain ⟨k, rfl⟩ : ∃ k, t = k + 1 := ⟨t - 1, by omega⟩
  have h : ¬ w k ≤ v := h
  show insF (upd w (k + 1) (w k)) v k = insF w v (k + 1)
  simp only [insF]
  rw [if_pos (by rw [← Int32.not_le]; exact h)]

theorem sub1_in {x : Int32} {n : Nat} (h : vp_in x (n + 1)) (h0 : ¬ x = 0) (hn : n < 1000000) : vp_in (x - 1) n := by
  obtain ⟨j, hj, e⟩ := vp_in_of h (by omega)
  rw [e]
  have h1 : 0 < j := by
    rcases Nat.eq_zero_or_pos j with q | q
    · exact absurd (by rw [e, q]; rfl) h0
    · exact q
  have e9 : nI j - 1 = nI (j - 1) := pk_sub h1
  rw [e9]
  exact vp_in_nI (by omega) (by omega)
def simR (x : Int64) : Int32 := ((x.toUInt64 >>> ((33 : Int32).toInt64.toUInt64 &&& Int64.toUInt64 63)).toInt64).toInt32
def simD (r : Int32) : Int32 := r / 8 - r / 8 / 81 * 81 - 40
def simN (x : Int64) : Int64 := x * 6364136223846793005 + 1442695040888963407
section ROWL
variable {p : Program} {l : Launch} {e : Env} {R : Room} {s : State} {m : MethodId} {args : Array Value} {below : List Frame} {meth : Method} {c : Code} {H : Heap} {locs : List Loc} {cells slots : Nat} {Q : State → Prop} {pc : Nat} {ls : Array Slot} {rest : List Value}
theorem rw_l {x x' : Int64} (h : x = x') (k : W p l e R s m args below meth c H locs cells slots Q (F0 m pc ls (.long x' :: rest))) : W p l e R s m args below meth c H locs cells slots Q (F0 m pc ls (.long x :: rest)) := h ▸ k
end ROWL
theorem ite_P {α : Type} {P : α → Prop} {c : Prop} [Decidable c] {f g : α} (h1 : c → P f) (h2 : ¬ c → P g) : P (if c then f else g) := by
  by_cases h : c
  · rw [if_pos h]; exact h1 h
  · rw [if_neg h]; exact h2 h
def bd {α β : Type} (a : α) (f : α → β) : β := f a
theorem bd_eq {α β : Type} {a v : α} {r : β} {f : α → β} (e : v = a) (h : r = f v) : r = bd a f := by
  subst e
  exact h
theorem itP {α : Type} {c : Prop} {i : Decidable c} {r a b : α} (h : c) (p : r = a) : r = @ite α c i a b := p.trans (if_pos h).symm
theorem itN {α : Type} {c : Prop} {i : Decidable c} {r a b : α} (h : ¬ c) (p : r = b) : r = @ite α c i a b := p.trans (if_neg h).symm

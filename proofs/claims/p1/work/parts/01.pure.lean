/-! numbers -/
def xIn (x lo hi : Int32) : Int32 := if lo ≤ x ∧ x ≤ hi then 1 else 0
def xOut (x lo hi : Int32) : Int32 := if x < lo ∨ hi < x then 1 else 0
theorem xIn_1 {x lo hi : Int32} (h1 : ¬ x < lo) (h2 : ¬ hi < x) : (1 : Int32) = xIn x lo hi := by
  unfold xIn
  rw [if_pos]
  simp only [Int32.le_iff_toInt_le, Int32.lt_iff_toInt_lt] at *
  omega
theorem xIn_0a {x lo hi : Int32} (h1 : x < lo) : (0 : Int32) = xIn x lo hi := by
  unfold xIn
  rw [if_neg]
  simp only [Int32.le_iff_toInt_le, Int32.lt_iff_toInt_lt] at *
  omega
theorem xIn_0b {x lo hi : Int32} (h1 : hi < x) : (0 : Int32) = xIn x lo hi := by
  unfold xIn
  rw [if_neg]
  simp only [Int32.le_iff_toInt_le, Int32.lt_iff_toInt_lt] at *
  omega
theorem xOut_1a {x lo hi : Int32} (h1 : x < lo) : (1 : Int32) = xOut x lo hi := by
  unfold xOut
  rw [if_pos (Or.inl h1)]
theorem xOut_1b {x lo hi : Int32} (h1 : hi < x) : (1 : Int32) = xOut x lo hi := by
  unfold xOut
  rw [if_pos (Or.inr h1)]
theorem xOut_0 {x lo hi : Int32} (h1 : ¬ x < lo) (h2 : ¬ hi < x) : (0 : Int32) = xOut x lo hi := by
  unfold xOut
  rw [if_neg (fun h => h.elim h1 h2)]
theorem xOut_In (x lo hi : Int32) : xOut x lo hi = 0 ↔ xIn x lo hi = 1 := by
  unfold xOut xIn
  simp only [Int32.le_iff_toInt_le, Int32.lt_iff_toInt_lt]
  by_cases h : x.toInt < lo.toInt ∨ hi.toInt < x.toInt
  · rw [if_pos h, if_neg (by omega)]
    decide
  · rw [if_neg h, if_pos (by omega)]
    decide
theorem xIn_bin (x lo hi : Int32) : xIn x lo hi = 0 ∨ xIn x lo hi = 1 := by
  unfold xIn
  by_cases h : lo ≤ x ∧ x ≤ hi
  · rw [if_pos h]; exact Or.inr rfl
  · rw [if_neg h]; exact Or.inl rfl
theorem xOut_bin (x lo hi : Int32) : xOut x lo hi = 0 ∨ xOut x lo hi = 1 := by
  unfold xOut
  by_cases h : x < lo ∨ hi < x
  · rw [if_pos h]; exact Or.inr rfl
  · rw [if_neg h]; exact Or.inl rfl
theorem xIn_nar (x lo hi : Int32) : narrow .boolean (.int (xIn x lo hi)) = .int (xIn x lo hi) := by
  rcases xIn_bin x lo hi with h | h <;> rw [h] <;> rfl
theorem xOut_nar (x lo hi : Int32) : narrow .boolean (.int (xOut x lo hi)) = .int (xOut x lo hi) := by
  rcases xOut_bin x lo hi with h | h <;> rw [h] <;> rfl
theorem xIn_none (x : Int32) : xIn x 0 (-1) = 0 := by
  unfold xIn
  rw [if_neg]
  simp only [Int32.le_iff_toInt_le]
  have h0 : (0 : Int32).toInt = 0 := by decide
  have h1 : (-1 : Int32).toInt = -1 := by decide
  omega
theorem xOut_none (x : Int32) : xOut x 0 (-1) = 1 := by
  unfold xOut
  rw [if_pos]
  simp only [Int32.lt_iff_toInt_lt]
  have h0 : (0 : Int32).toInt = 0 := by decide
  have h1 : (-1 : Int32).toInt = -1 := by decide
  omega
theorem xIn_ge {x lo hi : Int32} (h : xIn x lo hi = 1) : lo ≤ x ∧ x ≤ hi := by
  unfold xIn at h
  by_cases g : lo ≤ x ∧ x ≤ hi
  · exact g
  · rw [if_neg g] at h
    exact absurd h (by decide)
theorem xIn_in {x hi : Int32} {n : Nat} (h : xIn x 0 hi = 1) (hn : hi.toInt + 1 = n) : vp_in x n := by
  rw [vp_in_iff]
  obtain ⟨h1, h2⟩ := xIn_ge h
  simp only [Int32.le_iff_toInt_le] at h1 h2
  have h0 : (0 : Int32).toInt = 0 := by decide
  omega
theorem xne0 {x : Int32} (h : x = 0 ∨ x = 1) (h0 : ¬ x = 0) : x = 1 := h.resolve_left h0
theorem xne1 {x : Int32} (h : x = 1) : ¬ x = 0 := by rw [h]; decide
section XN
variable {p : Program} {l : Launch} {e : Env} {R : Room} {s : State} {m : MethodId} {args : Array Value} {below : List Frame} {meth : Method} {c : Code} {H : Heap} {locs : List Loc} {cells slots : Nat} {Q : State → Prop}
theorem xnum {pc : Nat} {ls : Array Slot} {rest : List Value} {x v : Int32} (h : x = v) (k : W p l e R s m args below meth c H locs cells slots Q (F0 m pc ls (.int v :: rest))) : W p l e R s m args below meth c H locs cells slots Q (F0 m pc ls (.int x :: rest)) := h ▸ k
end XN

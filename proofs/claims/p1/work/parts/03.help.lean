section PF
variable {p : Program} {l : Launch} {e : Env} {R : Room} {s : State} {m : MethodId} {args : Array Value} {below : List Frame} {meth : Method} {c : Code} {H : Heap} {locs : List Loc} {cells slots : Nat} {Q : State → Prop} {pc : Nat} {ls : Array Slot} {rest : List Value}
/-- the top of the stack under another, equal, text -/
theorem pf_top {x : Int32} {y : Int32} (h : x = y) (k : W p l e R s m args below meth c H locs cells slots Q (F0 m pc ls (.int y :: rest))) : W p l e R s m args below meth c H locs cells slots Q (F0 m pc ls (.int x :: rest)) := h ▸ k
end PF
/-- what each call answers on a fresh object, where it hangs on an argument -/
def pf_in (v a b : Int32) : Int32 := if v < a then 0 else if b < v then 0 else 1
def pf_feed (n : Int32) : Int32 := if n < 1 then -3 else if n ≤ 8 then n else -3
def pf_cut (n : Int32) : Int32 := if n < 0 then -3 else if n ≤ 0 then 0 else -3
def pf_count (w : Int32) : Int32 := if w < 0 then -3 else if w ≤ 6 then (if w = 5 then 0 else if w = 6 then 0 else -4) else -3
theorem pf_in_0 {v a b : Int32} (h : pf_in v a b = 0) : v < a ∨ b < v := by
  unfold pf_in at h
  by_cases h1 : v < a
  · exact Or.inl h1
  · by_cases h2 : b < v
    · exact Or.inr h2
    · rw [if_neg h1, if_neg h2] at h
      exact absurd h (by decide)
theorem pf_in_1 {v a b : Int32} (h : ¬ pf_in v a b = 0) : ¬ v < a ∧ v ≤ b := by
  unfold pf_in at h
  by_cases h1 : v < a
  · rw [if_pos h1] at h
    exact absurd rfl h
  · by_cases h2 : b < v
    · rw [if_neg h1, if_pos h2] at h
      exact absurd rfl h
    · exact ⟨h1, Int32.not_lt.mp h2⟩
theorem pf_in_m1 (k : Int32) : pf_in k 0 (-1) = 0 := by
  unfold pf_in
  by_cases h1 : k < 0
  · rw [if_pos h1]
  · have h2 : (-1 : Int32) < k := by
      rw [Int32.lt_iff_toInt_lt] at h1 ⊢
      have e0 : (0 : Int32).toInt = 0 := by decide
      have e1 : (-1 : Int32).toInt = -1 := by decide
      omega
    rw [if_neg h1, if_pos h2]
theorem pf_sub0 {k : Int32} (h1 : ¬ k < 0) (h2 : k ≤ 0) : 0 - k = 0 := by
  have e : k = 0 := Int32.le_antisymm h2 (Int32.not_lt.mp h1)
  rw [e]
  decide
theorem pf_dec (x : Int32) : x + Int32.ofInt (-1) = x - 1 := by
  rw [Int32.sub_eq_add_neg]
  rfl
theorem pf_small {k : Int32} (h1 : ¬ k < 1) (h2 : k ≤ 8) : ∃ n : Nat, n ≤ 8 ∧ k = nI n := nI_of2 (M := 8) (by decide) (by
  intro h
  rw [Int32.lt_iff_toInt_lt] at h h1
  have e0 : (0 : Int32).toInt = 0 := by decide
  have e1 : (1 : Int32).toInt = 1 := by decide
  omega) h2
theorem pf_small2 {k : Int32} (h : ¬ pf_in k 1 8 = 0) : ∃ n : Nat, n ≤ 8 ∧ k = nI n := pf_small (pf_in_1 h).1 (pf_in_1 h).2
theorem pf_le1200 {k : Int32} (h : k ≤ 8) : k ≤ 1200 := by
  rw [Int32.le_iff_toInt_le] at h ⊢
  have e0 : (8 : Int32).toInt = 8 := by decide
  have e1 : (1200 : Int32).toInt = 1200 := by decide
  omega
theorem pf_le1200b {k : Int32} (h : ¬ pf_in k 1 8 = 0) : k ≤ 1200 := pf_le1200 (pf_in_1 h).2
theorem pf_feed_out {k : Int32} (h : pf_in k 1 8 = 0) : pf_feed k = -3 := by
  unfold pf_feed
  rcases pf_in_0 h with q | q
  · rw [if_pos q]
  · by_cases h1 : k < 1
    · rw [if_pos h1]
    · rw [if_neg h1, if_neg (Int32.not_le.mpr q)]
theorem pf_feed_in {k : Int32} (h : ¬ pf_in k 1 8 = 0) : pf_feed k = k := by
  unfold pf_feed
  rw [if_neg (pf_in_1 h).1, if_pos (pf_in_1 h).2]
theorem pf_cut_out {k : Int32} (h : pf_in k 0 0 = 0) : pf_cut k = -3 := by
  unfold pf_cut
  rcases pf_in_0 h with q | q
  · rw [if_pos q]
  · by_cases h1 : k < 0
    · rw [if_pos h1]
    · rw [if_neg h1, if_neg (Int32.not_le.mpr q)]
theorem pf_cut_in {k : Int32} (h : ¬ pf_in k 0 0 = 0) : pf_cut k = 0 := by
  unfold pf_cut
  rw [if_neg (pf_in_1 h).1, if_pos (pf_in_1 h).2]
theorem pf_cut_k {k : Int32} (h : ¬ pf_in k 0 0 = 0) : 0 - k = 0 := pf_sub0 (pf_in_1 h).1 (pf_in_1 h).2
theorem pf_count_out {k : Int32} (h : pf_in k 0 6 = 0) : pf_count k = -3 := by
  unfold pf_count
  rcases pf_in_0 h with q | q
  · rw [if_pos q]
  · by_cases h1 : k < 0
    · rw [if_pos h1]
    · rw [if_neg h1, if_neg (Int32.not_le.mpr q)]
theorem pf_count_in {k : Int32} (h : ¬ pf_in k 0 6 = 0) : pf_count k = (if k = 5 then 0 else if k = 6 then 0 else -4) := by
  unfold pf_count
  rw [if_neg (pf_in_1 h).1, if_pos (pf_in_1 h).2]

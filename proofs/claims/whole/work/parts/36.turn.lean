theorem pp_up (q : Nat → Nat → Nat) (j v : Nat) : hz_up (PP q) 21 j v = PP (hz_up q 21 j v) := by
  funext b k
  by_cases h : b = 21
  · subst h
    simp only [hz_up, PP, if_pos, if_true, true_or]
  · simp only [hz_up, if_neg h, PP]
/-- the moments that may be brought back, moved down below place i -/
def rt (q : Nat → Nat → Nat) (i : Nat) : Nat → Nat → Nat := fun b k => if b = 21 ∧ k + 1 < i then q 21 (k + 1) else q b k
theorem rt_s (q : Nat → Nat → Nat) {i : Nat} (h : 1 ≤ i) : hz_up (rt q i) 21 (i - 1) (q 21 i) = rt q (i + 1) := by
  funext b k
  by_cases h1 : b = 21
  · subst h1
    by_cases h2 : k = i - 1
    · subst h2
      simp only [hz_up, va_up, rt, if_pos, true_and]
      rw [if_pos (by omega), show i - 1 + 1 = i by omega]
    · simp only [hz_up, va_up, if_neg h2, rt, if_pos, true_and]
      by_cases h3 : k + 1 < i
      · rw [if_pos h3, if_pos (by omega)]
      · rw [if_neg h3, if_neg (by omega)]
  · simp only [hz_up, if_neg h1, rt, h1, false_and, if_false]
theorem rt_1 (q : Nat → Nat → Nat) : rt q 1 = q := by
  funext b k
  simp only [rt]
  rw [if_neg (by omega)]
theorem rt_at (q : Nat → Nat → Nat) {i k : Nat} (h : i ≤ k + 1) : rt q i 21 k = q 21 k := by
  simp only [rt]
  rw [if_neg (by omega)]

theorem pp_up (q : Nat → Nat → Nat) (j v : Nat) : hz_up (PP q) 21 j v = PP (hz_up q 21 j v) := by
  funext b k
  by_cases h : b = 21
  · subst h
    simp only [hz_up, PP, if_pos, if_true, true_or]
  · simp only [hz_up, if_neg h, PP]
/-- the moments that may be brought back, moved down below place i -/
def rt (q : Nat → Nat → Nat) (i : Nat) : Nat → Nat → Nat := fun b k => if b = 21 ∧ k + 1 < i then q 21 (k + 1) else q b k
theorem rt_s (q : Nat → Nat → Nat) {i : Nat} (h : 1 ≤ i) : hz_up (rt q i) 21 (i - 1) (q 21 i) = rt q (i + 1) := by
  funext b k
  by_cases h1 : b = 21
  · subst h1
    by_cases h2 : k = i - 1
    · subst h2
      simp only [hz_up, va_up, rt, if_pos, true_and]
      rw [if_pos (by omega), show i - 1 + 1 = i by omega]
    · simp only [hz_up, va_up, if_neg h2, rt, if_pos, true_and]
      by_cases h3 : k + 1 < i
      · rw [if_pos h3, if_pos (by omega)]
      · rw [if_neg h3, if_neg (by omega)]
  · simp only [hz_up, if_neg h1, rt, h1, false_and, if_false]
theorem rt_1 (q : Nat → Nat → Nat) : rt q 1 = q := by
  funext b k
  simp only [rt]
  rw [if_neg (by omega)]
theorem rt_at (q : Nat → Nat → Nat) {i k : Nat} (h : i ≤ k + 1) : rt q i 21 k = q 21 k := by
  simp only [rt]
  rw [if_neg (by omega)]
theorem rt_up (I : Nat → Nat → Int32) (L : Nat → Nat → Int64) (q : Nat → Nat → Nat) {i : Nat} (h : 1 ≤ i) : hz_uP (I, L, PP (rt q i)) 21 (i - 1) (q 21 i) = (I, L, PP (rt q (i + 1))) := by
  unfold hz_uP
  show (I, L, hz_up (PP (rt q i)) 21 (i - 1) (q 21 i)) = _
  rw [pp_up, rt_s q h]
set_option maxHeartbeats 4000000 in
set_option maxRecDepth 100000 in
theorem lp_turn {X : hz_X} (C : hz_C X mX2_remember) {I : Nat → Nat → Int32} {L : Nat → Nat → Int64} {q : Nat → Nat → Nat} (H : HP 12 q) (kk : hz_G X TT NN (I, L, PP (rt q 8)) 0 0 44 [some (.ref 12), some (.ref (q 21 0)), some (.int (nI 8))] []) : ∀ (n i : Nat) , i + n = 8 → 1 ≤ i → hz_G X TT NN (I, L, PP (rt q i)) 0 0 18 [some (.ref 12), some (.ref (q 21 0)), some (.int (nI i))] [] := by
  intro n
  induction n with
  | zero =>
    intro i  hi hi1
    obtain rfl : i = 8 := by omega
    skip
    refine hz_iload_n (pc := 18) C dX2_remember_18 rfl ?_
    refine hz_bipush (pc := 19) C (v := nI 8) dX2_remember_19 (by decide +kernel) ?_
    refine hz_ic_ge (pc := 21) C (tgt := 44) dX2_remember_21 rfl (fun _ => ?_) (fun cq => absurd (nI_le (by omega) (by omega)) cq)
    exact kk
  | succ n ih =>
    intro i  hi hi1
    obtain ⟨hq0, hq1, hq2⟩ := mq_12 H (i := i) (by omega)
    refine hz_iload_n (pc := 18) C dX2_remember_18 rfl ?_
    refine hz_bipush (pc := 19) C (v := nI 8) dX2_remember_19 (by decide +kernel) ?_
    refine hz_ic_ge (pc := 21) C (tgt := 44) dX2_remember_21 rfl (fun cq => absurd cq (nI_ge (by omega) (by omega))) (fun _ => ?_)
    refine hz_aload_n (pc := 24) C dX2_remember_24 rfl ?_
    refine hz_getP (pc := 25) C (v := 21) ffX2_37 dX2_remember_25 hT12 hA12 rfl (hP12_8 (rt q i)) (by decide) ?_
    refine hz_iload_n (pc := 28) C dX2_remember_28 rfl ?_
    refine hz_iconst (pc := 29) C (v := nI 1) dX2_remember_29 (by decide +kernel) ?_
    refine hz_isub (pc := 30) C dX2_remember_30 rfl ?_
    refine hz_aload_n (pc := 31) C dX2_remember_31 rfl ?_
    refine hz_getP (pc := 32) C (v := 21) ffX2_37 dX2_remember_32 hT12 hA12 rfl (hP12_8 (rt q i)) (by decide) ?_
    refine hz_iload_n (pc := 35) C dX2_remember_35 rfl ?_
    refine hz_aald (pc := 36) C (v := q 21 i) (j := i) dX2_remember_36 hT21 (Or.inr (Or.inl rfl)) hA21 rfl (by omega) (by decide) ((pp_q _ (Or.inl rfl) i).trans (rt_at q (by omega))) (by omega) ?_
    refine hz_aast3 (pc := 37) C (j := i - 1) (M' := (I, L, PP (rt q (i + 1)))) dX2_remember_37 hT21 hA21 hq0.1 hq0.2.1 (pk_sub (by omega)) (by omega) (by decide) (rt_up _ _ q (by omega)) ?_
    refine hz_iinc (pc := 38) C (v := nI (i + 1)) (ls' := [some (.ref 12), some (.ref (q 21 0)), some (.int (nI (i + 1)))]) dX2_remember_38 rfl (nI_add _ 1) rfl ?_
    refine hz_goto (pc := 41) C (tgt := 18) dX2_remember_41 rfl ?_
    exact ih (i + 1) (by omega) (by omega)

theorem wn_q0 {x : Nat → Nat} {b n : Nat} (hn : n ≤ 7) (hl : ∀ k, k < n → 97 ≤ x (b + k) ∧ x (b + k) ≤ 122) : wn x b n = 448546567013 ↔ n = 5 ∧ x (b + 0) = 104 ∧ x (b + 1) = 111 ∧ x (b + 2) = 117 ∧ x (b + 3) = 115 ∧ x (b + 4) = 101 := by
  have hc : n = 0 ∨ n = 1 ∨ n = 2 ∨ n = 3 ∨ n = 4 ∨ n = 5 ∨ n = 6 ∨ n = 7 := by omega
  rcases hc with h | h | h | h | h | h | h | h <;> subst h <;> simp only [wn]
  · omega
  · have zza0 := hl 0 (by omega); omega
  · have zza0 := hl 0 (by omega); have zza1 := hl 1 (by omega); omega
  · have zza0 := hl 0 (by omega); have zza1 := hl 1 (by omega); have zza2 := hl 2 (by omega); omega
  · have zza0 := hl 0 (by omega); have zza1 := hl 1 (by omega); have zza2 := hl 2 (by omega); have zza3 := hl 3 (by omega); omega
  · have zza0 := hl 0 (by omega); have zza1 := hl 1 (by omega); have zza2 := hl 2 (by omega); have zza3 := hl 3 (by omega); have zza4 := hl 4 (by omega); exact ⟨fun h => ⟨by first | rfl | trivial, by omega, by omega, by omega, by omega, by omega⟩, fun h => by obtain ⟨-, h⟩ := h; omega⟩
  · have zza0 := hl 0 (by omega); have zza1 := hl 1 (by omega); have zza2 := hl 2 (by omega); have zza3 := hl 3 (by omega); have zza4 := hl 4 (by omega); have zza5 := hl 5 (by omega); omega
  · have zza0 := hl 0 (by omega); have zza1 := hl 1 (by omega); have zza2 := hl 2 (by omega); have zza3 := hl 3 (by omega); have zza4 := hl 4 (by omega); have zza5 := hl 5 (by omega); have zza6 := hl 6 (by omega); omega
theorem wn_q1 {x : Nat → Nat} {b n : Nat} (hn : n ≤ 7) (hl : ∀ k, k < n → 97 ≤ x (b + k) ∧ x (b + k) ≤ 122) : wn x b n = 1685024626 ↔ n = 4 ∧ x (b + 0) = 100 ∧ x (b + 1) = 111 ∧ x (b + 2) = 111 ∧ x (b + 3) = 114 := by
  have hc : n = 0 ∨ n = 1 ∨ n = 2 ∨ n = 3 ∨ n = 4 ∨ n = 5 ∨ n = 6 ∨ n = 7 := by omega
  rcases hc with h | h | h | h | h | h | h | h <;> subst h <;> simp only [wn]
  · omega
  · have zza0 := hl 0 (by omega); omega
  · have zza0 := hl 0 (by omega); have zza1 := hl 1 (by omega); omega
  · have zza0 := hl 0 (by omega); have zza1 := hl 1 (by omega); have zza2 := hl 2 (by omega); omega
  · have zza0 := hl 0 (by omega); have zza1 := hl 1 (by omega); have zza2 := hl 2 (by omega); have zza3 := hl 3 (by omega); exact ⟨fun h => ⟨by first | rfl | trivial, by omega, by omega, by omega, by omega⟩, fun h => by obtain ⟨-, h⟩ := h; omega⟩
  · have zza0 := hl 0 (by omega); have zza1 := hl 1 (by omega); have zza2 := hl 2 (by omega); have zza3 := hl 3 (by omega); have zza4 := hl 4 (by omega); omega
  · have zza0 := hl 0 (by omega); have zza1 := hl 1 (by omega); have zza2 := hl 2 (by omega); have zza3 := hl 3 (by omega); have zza4 := hl 4 (by omega); have zza5 := hl 5 (by omega); omega
  · have zza0 := hl 0 (by omega); have zza1 := hl 1 (by omega); have zza2 := hl 2 (by omega); have zza3 := hl 3 (by omega); have zza4 := hl 4 (by omega); have zza5 := hl 5 (by omega); have zza6 := hl 6 (by omega); omega
theorem wn_q2 {x : Nat → Nat} {b n : Nat} (hn : n ≤ 7) (hl : ∀ k, k < n → 97 ≤ x (b + k) ∧ x (b + k) ≤ 122) : wn x b n = 418430153325 ↔ n = 5 ∧ x (b + 0) = 97 ∧ x (b + 1) = 108 ∧ x (b + 2) = 97 ∧ x (b + 3) = 114 ∧ x (b + 4) = 109 := by
  have hc : n = 0 ∨ n = 1 ∨ n = 2 ∨ n = 3 ∨ n = 4 ∨ n = 5 ∨ n = 6 ∨ n = 7 := by omega
  rcases hc with h | h | h | h | h | h | h | h <;> subst h <;> simp only [wn]
  · omega
  · have zza0 := hl 0 (by omega); omega
  · have zza0 := hl 0 (by omega); have zza1 := hl 1 (by omega); omega
  · have zza0 := hl 0 (by omega); have zza1 := hl 1 (by omega); have zza2 := hl 2 (by omega); omega
  · have zza0 := hl 0 (by omega); have zza1 := hl 1 (by omega); have zza2 := hl 2 (by omega); have zza3 := hl 3 (by omega); omega
  · have zza0 := hl 0 (by omega); have zza1 := hl 1 (by omega); have zza2 := hl 2 (by omega); have zza3 := hl 3 (by omega); have zza4 := hl 4 (by omega); exact ⟨fun h => ⟨by first | rfl | trivial, by omega, by omega, by omega, by omega, by omega⟩, fun h => by obtain ⟨-, h⟩ := h; omega⟩
  · have zza0 := hl 0 (by omega); have zza1 := hl 1 (by omega); have zza2 := hl 2 (by omega); have zza3 := hl 3 (by omega); have zza4 := hl 4 (by omega); have zza5 := hl 5 (by omega); omega
  · have zza0 := hl 0 (by omega); have zza1 := hl 1 (by omega); have zza2 := hl 2 (by omega); have zza3 := hl 3 (by omega); have zza4 := hl 4 (by omega); have zza5 := hl 5 (by omega); have zza6 := hl 6 (by omega); omega
theorem wn_q3 {x : Nat → Nat} {b n : Nat} (hn : n ≤ 7) (hl : ∀ k, k < n → 97 ≤ x (b + k) ∧ x (b + k) ≤ 122) : wn x b n = 1685026670 ↔ n = 4 ∧ x (b + 0) = 100 ∧ x (b + 1) = 111 ∧ x (b + 2) = 119 ∧ x (b + 3) = 110 := by
  have hc : n = 0 ∨ n = 1 ∨ n = 2 ∨ n = 3 ∨ n = 4 ∨ n = 5 ∨ n = 6 ∨ n = 7 := by omega
  rcases hc with h | h | h | h | h | h | h | h <;> subst h <;> simp only [wn]
  · omega
  · have zza0 := hl 0 (by omega); omega
  · have zza0 := hl 0 (by omega); have zza1 := hl 1 (by omega); omega
  · have zza0 := hl 0 (by omega); have zza1 := hl 1 (by omega); have zza2 := hl 2 (by omega); omega
  · have zza0 := hl 0 (by omega); have zza1 := hl 1 (by omega); have zza2 := hl 2 (by omega); have zza3 := hl 3 (by omega); exact ⟨fun h => ⟨by first | rfl | trivial, by omega, by omega, by omega, by omega⟩, fun h => by obtain ⟨-, h⟩ := h; omega⟩
  · have zza0 := hl 0 (by omega); have zza1 := hl 1 (by omega); have zza2 := hl 2 (by omega); have zza3 := hl 3 (by omega); have zza4 := hl 4 (by omega); omega
  · have zza0 := hl 0 (by omega); have zza1 := hl 1 (by omega); have zza2 := hl 2 (by omega); have zza3 := hl 3 (by omega); have zza4 := hl 4 (by omega); have zza5 := hl 5 (by omega); omega
  · have zza0 := hl 0 (by omega); have zza1 := hl 1 (by omega); have zza2 := hl 2 (by omega); have zza3 := hl 3 (by omega); have zza4 := hl 4 (by omega); have zza5 := hl 5 (by omega); have zza6 := hl 6 (by omega); omega
theorem lN_q {a c : Nat} (ha : a < 2 ^ 63) (hc : c < 2 ^ 63) : lN a = lN c ↔ a = c := by
  refine ⟨fun h => ?_, fun h => by rw [h]⟩
  have h2 := congrArg Int64.toInt h
  rw [show lN a = Int64.ofNat a from rfl, show lN c = Int64.ofNat c from rfl, Int64.toInt_ofNat_of_lt ha, Int64.toInt_ofNat_of_lt hc] at h2
  omega
theorem wn_lt {x : Nat → Nat} {b : Nat} : ∀ n, (∀ k, k < n → x (b + k) ≤ 122) → wn x b n < 256 ^ n := by
  intro n
  induction n with
  | zero => intro _; exact (show (0 : Nat) < 1 by decide)
  | succ n ih =>
    intro h
    have h1 := ih (fun k hk => h k (by omega))
    have h2 := h n (by omega)
    show 256 * wn x b n + x (b + n) < 256 ^ (n + 1)
    rw [Nat.pow_succ]; omega
theorem kR_1 {t : Nat} {x : Nat → Nat} {s : Nat} : kR t x s = 1 ↔ kc t x s = 1 := by
  unfold kR
  split
  · rename_i z; rw [z.1]; exact ⟨fun h => absurd h (by decide), fun h => absurd h (by decide)⟩
  · exact Iff.rfl
theorem wq0 {t : Nat} {x : Nat → Nat} {s : Nat} (hs : s ≤ t) (hk : kc t x s = 1) : wv x (bgn t x s) (nxe t x s - bgn t x s) = lN 448546567013 ↔ wd t x s 0 = true := by
  have hn := nxe_ok x hs
  have hl : ∀ k, k < nxe t x s - bgn t x s → 97 ≤ x (bgn t x s + k) ∧ x (bgn t x s + k) ≤ 122 := by
    have e : nxe t x s = rn t x 97 122 (bgn t x s) := by unfold nxe; rw [hk]; rfl
    have h9 := (rn_ok t x 97 122 (p := bgn t x s) (by omega)).2.2
    rw [← e] at h9
    exact fun k hk => h9 _ (by omega) (by omega)
  rw [wd_i]
  unfold wv
  by_cases h7 : nxe t x s - bgn t x s ≤ 7
  · rw [if_pos h7]
    have hlt := wn_lt (x := x) (b := bgn t x s) _ (fun k hk => (hl k hk).2)
    have h256 : 256 ^ (nxe t x s - bgn t x s) ≤ 256 ^ 7 := Nat.pow_le_pow_right (by decide) h7
    rw [lN_q (Nat.lt_trans (Nat.lt_of_lt_of_le hlt h256) (by decide)) (by decide), wn_q0 h7 hl]
    refine ⟨fun h => ⟨hk, h.1, fun k hk => ?_⟩, fun h => ⟨h.2.1, h.2.2 0 (by decide), h.2.2 1 (by decide), h.2.2 2 (by decide), h.2.2 3 (by decide), h.2.2 4 (by decide)⟩⟩
    have hk' : k < 5 := hk
    have hc : k = 0 ∨ k = 1 ∨ k = 2 ∨ k = 3 ∨ k = 4 := by omega
    rcases hc with e | e | e | e | e <;> subst e
    · exact h.2.1
    · exact h.2.2.1
    · exact h.2.2.2.1
    · exact h.2.2.2.2.1
    · exact h.2.2.2.2.2
  · rw [if_neg h7]
    exact ⟨fun h => absurd h (by decide +kernel), fun h => absurd (h.2.1.trans (show hz_wl.getD 0 0 = 5 from rfl)) (by omega)⟩
theorem wq1 {t : Nat} {x : Nat → Nat} {s : Nat} (hs : s ≤ t) (hk : kc t x s = 1) : wv x (bgn t x s) (nxe t x s - bgn t x s) = lN 1685024626 ↔ wd t x s 1 = true := by
  have hn := nxe_ok x hs
  have hl : ∀ k, k < nxe t x s - bgn t x s → 97 ≤ x (bgn t x s + k) ∧ x (bgn t x s + k) ≤ 122 := by
    have e : nxe t x s = rn t x 97 122 (bgn t x s) := by unfold nxe; rw [hk]; rfl
    have h9 := (rn_ok t x 97 122 (p := bgn t x s) (by omega)).2.2
    rw [← e] at h9
    exact fun k hk => h9 _ (by omega) (by omega)
  rw [wd_i]
  unfold wv
  by_cases h7 : nxe t x s - bgn t x s ≤ 7
  · rw [if_pos h7]
    have hlt := wn_lt (x := x) (b := bgn t x s) _ (fun k hk => (hl k hk).2)
    have h256 : 256 ^ (nxe t x s - bgn t x s) ≤ 256 ^ 7 := Nat.pow_le_pow_right (by decide) h7
    rw [lN_q (Nat.lt_trans (Nat.lt_of_lt_of_le hlt h256) (by decide)) (by decide), wn_q1 h7 hl]
    refine ⟨fun h => ⟨hk, h.1, fun k hk => ?_⟩, fun h => ⟨h.2.1, h.2.2 0 (by decide), h.2.2 1 (by decide), h.2.2 2 (by decide), h.2.2 3 (by decide)⟩⟩
    have hk' : k < 4 := hk
    have hc : k = 0 ∨ k = 1 ∨ k = 2 ∨ k = 3 := by omega
    rcases hc with e | e | e | e <;> subst e
    · exact h.2.1
    · exact h.2.2.1
    · exact h.2.2.2.1
    · exact h.2.2.2.2
  · rw [if_neg h7]
    exact ⟨fun h => absurd h (by decide +kernel), fun h => absurd (h.2.1.trans (show hz_wl.getD 1 0 = 4 from rfl)) (by omega)⟩
theorem wq2 {t : Nat} {x : Nat → Nat} {s : Nat} (hs : s ≤ t) (hk : kc t x s = 1) : wv x (bgn t x s) (nxe t x s - bgn t x s) = lN 418430153325 ↔ wd t x s 2 = true := by
  have hn := nxe_ok x hs
  have hl : ∀ k, k < nxe t x s - bgn t x s → 97 ≤ x (bgn t x s + k) ∧ x (bgn t x s + k) ≤ 122 := by
    have e : nxe t x s = rn t x 97 122 (bgn t x s) := by unfold nxe; rw [hk]; rfl
    have h9 := (rn_ok t x 97 122 (p := bgn t x s) (by omega)).2.2
    rw [← e] at h9
    exact fun k hk => h9 _ (by omega) (by omega)
  rw [wd_i]
  unfold wv
  by_cases h7 : nxe t x s - bgn t x s ≤ 7
  · rw [if_pos h7]
    have hlt := wn_lt (x := x) (b := bgn t x s) _ (fun k hk => (hl k hk).2)
    have h256 : 256 ^ (nxe t x s - bgn t x s) ≤ 256 ^ 7 := Nat.pow_le_pow_right (by decide) h7
    rw [lN_q (Nat.lt_trans (Nat.lt_of_lt_of_le hlt h256) (by decide)) (by decide), wn_q2 h7 hl]
    refine ⟨fun h => ⟨hk, h.1, fun k hk => ?_⟩, fun h => ⟨h.2.1, h.2.2 0 (by decide), h.2.2 1 (by decide), h.2.2 2 (by decide), h.2.2 3 (by decide), h.2.2 4 (by decide)⟩⟩
    have hk' : k < 5 := hk
    have hc : k = 0 ∨ k = 1 ∨ k = 2 ∨ k = 3 ∨ k = 4 := by omega
    rcases hc with e | e | e | e | e <;> subst e
    · exact h.2.1
    · exact h.2.2.1
    · exact h.2.2.2.1
    · exact h.2.2.2.2.1
    · exact h.2.2.2.2.2
  · rw [if_neg h7]
    exact ⟨fun h => absurd h (by decide +kernel), fun h => absurd (h.2.1.trans (show hz_wl.getD 2 0 = 5 from rfl)) (by omega)⟩
theorem wq3 {t : Nat} {x : Nat → Nat} {s : Nat} (hs : s ≤ t) (hk : kc t x s = 1) : wv x (bgn t x s) (nxe t x s - bgn t x s) = lN 1685026670 ↔ wd t x s 3 = true := by
  have hn := nxe_ok x hs
  have hl : ∀ k, k < nxe t x s - bgn t x s → 97 ≤ x (bgn t x s + k) ∧ x (bgn t x s + k) ≤ 122 := by
    have e : nxe t x s = rn t x 97 122 (bgn t x s) := by unfold nxe; rw [hk]; rfl
    have h9 := (rn_ok t x 97 122 (p := bgn t x s) (by omega)).2.2
    rw [← e] at h9
    exact fun k hk => h9 _ (by omega) (by omega)
  rw [wd_i]
  unfold wv
  by_cases h7 : nxe t x s - bgn t x s ≤ 7
  · rw [if_pos h7]
    have hlt := wn_lt (x := x) (b := bgn t x s) _ (fun k hk => (hl k hk).2)
    have h256 : 256 ^ (nxe t x s - bgn t x s) ≤ 256 ^ 7 := Nat.pow_le_pow_right (by decide) h7
    rw [lN_q (Nat.lt_trans (Nat.lt_of_lt_of_le hlt h256) (by decide)) (by decide), wn_q3 h7 hl]
    refine ⟨fun h => ⟨hk, h.1, fun k hk => ?_⟩, fun h => ⟨h.2.1, h.2.2 0 (by decide), h.2.2 1 (by decide), h.2.2 2 (by decide), h.2.2 3 (by decide)⟩⟩
    have hk' : k < 4 := hk
    have hc : k = 0 ∨ k = 1 ∨ k = 2 ∨ k = 3 := by omega
    rcases hc with e | e | e | e <;> subst e
    · exact h.2.1
    · exact h.2.2.1
    · exact h.2.2.2.1
    · exact h.2.2.2.2
  · rw [if_neg h7]
    exact ⟨fun h => absurd h (by decide +kernel), fun h => absurd (h.2.1.trans (show hz_wl.getD 3 0 = 4 from rfl)) (by omega)⟩

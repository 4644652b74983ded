/-! ways: what the rows of ways are -/
theorem fw_s (u : Nat → Nat) (k a b : Nat) : fwk u (k + 1) a b = min (fwk u k a b) (fwk u k a k + fwk u k k b) := rfl
theorem fw_anti (u : Nat → Nat) (k a b : Nat) : fwk u (k + 1) a b ≤ fwk u k a b := Nat.min_le_left _ _
theorem fw_le0 (u : Nat → Nat) : ∀ k a b, fwk u k a b ≤ fw0 u a b := by
  intro k
  induction k with
  | zero => intro a b; exact Nat.le_refl _
  | succ k ih => intro a b; exact Nat.le_trans (fw_anti u k a b) (ih a b)
theorem fw_door (u : Nat → Nat) (k : Nat) {a b : Nat} (h : ¬ u (8 * a + b) = 0) : fwk u k a b ≤ u (8 * a + b) := by
  refine Nat.le_trans (fw_le0 u k a b) ?_
  unfold fw0
  split
  · exact Nat.zero_le _
  · exact Nat.le_refl _
/-- no way over a room that is looked at already is shorter -/
theorem fw_tri (u : Nat → Nat) : ∀ k v a b, v < k → fwk u k a b ≤ fwk u k a v + fwk u k v b := by
  intro k
  induction k with
  | zero => intro v a b h; omega
  | succ k ih =>
    intro v a b h
    by_cases e : v = k
    · subst e
      rw [fw_col, fw_row]
      exact Nat.min_le_right _ _
    · have hv : v < k := by omega
      have h1 := ih v a b hv
      have h2 := ih v k b hv
      have h3 := ih v a k hv
      have h4 := ih v k k hv
      rw [fw_s, fw_s, fw_s]
      omega
theorem fw_first (u : Nat → Nat) (hu : ∀ j, j < 64 → u j ≤ 9) : ∀ k, k ≤ 8 → ∀ a b, a < 8 → b < 8 → a ≠ b → fwk u k a b < 1000 → ∃ n, n < 8 ∧ ¬ u (8 * a + n) = 0 ∧ (n < k ∨ n = b) ∧ u (8 * a + n) + fwk u k n b ≤ fwk u k a b := by
  intro k
  induction k with
  | zero =>
    intro hk a b ha hb hab h
    have h0 : fwk u 0 a b = fw0 u a b := rfl
    rw [h0] at h
    unfold fw0 at h
    rw [if_neg hab] at h
    by_cases e : u (8 * a + b) = 0
    · rw [if_pos e] at h; omega
    · refine ⟨b, hb, e, Or.inr rfl, ?_⟩
      rw [fw_dg, h0]
      unfold fw0
      rw [if_neg hab, if_neg e]
      omega
  | succ k ih =>
    intro hk a b ha hb hab h
    by_cases e : fwk u k a b ≤ fwk u k a k + fwk u k k b
    · have e1 : fwk u (k + 1) a b = fwk u k a b := by rw [fw_s]; omega
      obtain ⟨n, h1, h2, h3, h4⟩ := ih (by omega) a b ha hb hab (by omega)
      exact ⟨n, h1, h2, by omega, by have := fw_anti u k n b; omega⟩
    · have e1 : fwk u (k + 1) a b = fwk u k a k + fwk u k k b := by rw [fw_s]; omega
      have hak : a ≠ k := by
        intro z
        subst z
        rw [fw_dg] at e
        omega
      obtain ⟨n, h1, h2, h3, h4⟩ := ih (by omega) a k ha (by omega) hak (by omega)
      refine ⟨n, h1, h2, by omega, ?_⟩
      have h5 : fwk u (k + 1) n b ≤ fwk u k n k + fwk u k k b := Nat.min_le_right _ _
      omega
theorem csum_mono {f g : Nat → Bool} (h : ∀ x, f x = true → g x = true) : ∀ n, csum f n ≤ csum g n := by
  intro n
  induction n with
  | zero => exact Nat.le_refl _
  | succ n ih =>
    simp only [csum]
    by_cases e : f n = true
    · rw [if_pos e, if_pos (h n e)]; omega
    · rw [if_neg e]; omega
theorem csum_more {f g : Nat → Bool} (h : ∀ x, f x = true → g x = true) {k : Nat} (hg : g k = true) (hf : ¬ f k = true) : ∀ n, k < n → csum f n + 1 ≤ csum g n := by
  intro n
  induction n with
  | zero => intro hk; omega
  | succ n ih =>
    intro hk
    simp only [csum]
    by_cases e : k = n
    · subst e
      have := csum_mono h k
      rw [if_neg hf, if_pos hg]
      omega
    · have h1 := ih (by omega)
      by_cases e2 : f n = true
      · rw [if_pos e2, if_pos (h n e2)]; omega
      · rw [if_neg e2]; omega
theorem csum_not {f : Nat → Bool} {k : Nat} (hf : ¬ f k = true) : ∀ n, k < n → csum f n + 1 ≤ n := by
  intro n
  induction n with
  | zero => intro hk; omega
  | succ n ih =>
    intro hk
    simp only [csum]
    by_cases e : k = n
    · subst e
      have := csum_le f k
      rw [if_neg hf]
      omega
    · have h1 := ih (by omega)
      split <;> omega
theorem fw_cnt (u : Nat → Nat) (hu : ∀ j, j < 64 → u j ≤ 9) {k b : Nat} (hk : k ≤ 8) (hb : b < 8) : ∀ m a, a < 8 → fwk u k a b = m → m < 1000 → m ≤ 9 * csum (fun x => decide (fwk u k x b < m)) 8 := by
  intro m
  induction m using Nat.strongRecOn with
  | ind m ih =>
    intro a ha e hm
    by_cases hab : a = b
    · subst hab
      rw [fw_dg] at e
      omega
    · obtain ⟨n, h1, h2, h3, h4⟩ := fw_first u hu k hk a b ha hb hab (by omega)
      have h5 := hu (8 * a + n) (by omega)
      have h6 : fwk u k a b ≤ u (8 * a + n) + fwk u k n b := by
        rcases h3 with h3 | h3
        · have t1 := fw_tri u k n a b h3
          have t2 := fw_door u k h2
          omega
        · subst h3
          have t2 := fw_door u k h2
          omega
      have h7 := ih (fwk u k n b) (by omega) n h1 rfl (by omega)
      have h8 := csum_more (f := fun x => decide (fwk u k x b < fwk u k n b)) (g := fun x => decide (fwk u k x b < m)) (fun x hx => by simp only [decide_eq_true_eq] at *; omega) (k := n) (by simp only [decide_eq_true_eq]; omega) (by simp) 8 h1
      omega
theorem fw_fin (u : Nat → Nat) (hu : ∀ j, j < 64 → u j ≤ 9) {k a b : Nat} (hk : k ≤ 8) (ha : a < 8) (hb : b < 8) (h : fwk u k a b < 1000) : fwk u k a b ≤ 63 := by
  have h1 := fw_cnt u hu hk hb (fwk u k a b) a ha rfl h
  have h2 := csum_not (f := fun x => decide (fwk u k x b < fwk u k a b)) (k := a) (by simp) 8 ha
  omega
theorem fw_sym (u : Nat → Nat) (hs : ∀ a b, a < 8 → b < 8 → u (8 * a + b) = u (8 * b + a)) : ∀ k, k ≤ 8 → ∀ a b, a < 8 → b < 8 → fwk u k a b = fwk u k b a := by
  intro k
  induction k with
  | zero =>
    intro _ a b ha hb
    show fw0 u a b = fw0 u b a
    unfold fw0
    rw [hs a b ha hb]
    by_cases e : a = b
    · rw [if_pos e, if_pos e.symm]
    · rw [if_neg e, if_neg (Ne.symm e)]
  | succ k ih =>
    intro hk a b ha hb
    rw [fw_s, fw_s, ih (by omega) a b ha hb, ih (by omega) a k ha (by omega), ih (by omega) k b (by omega) hb, Nat.add_comm]
theorem fw_pos (u : Nat → Nat) (hu : ∀ j, j < 64 → u j ≤ 9) {k a b : Nat} (hk : k ≤ 8) (ha : a < 8) (hb : b < 8) (hab : a ≠ b) : 0 < fwk u k a b := by
  by_cases h : fwk u k a b < 1000
  · obtain ⟨n, h1, h2, h3, h4⟩ := fw_first u hu k hk a b ha hb hab h
    omega
  · omega
section DS
variable {u : Nat → Nat}
theorem ds_fin (U : WU u) {a b : Nat} (ha : a < 8) (hb : b < 8) (h : ds u a b < 1000) : ds u a b ≤ 63 := fw_fin u U.2.1 (Nat.le_refl 8) ha hb h
theorem ds_sym (U : WU u) {a b : Nat} (ha : a < 8) (hb : b < 8) : ds u a b = ds u b a := fw_sym u U.2.2.1 8 (Nat.le_refl 8) a b ha hb
theorem ds_tri (u : Nat → Nat) {a v b : Nat} (hv : v < 8) : ds u a b ≤ ds u a v + ds u v b := fw_tri u 8 v a b hv
theorem ds_self (u : Nat → Nat) (a : Nat) : ds u a a = 0 := fw_dg u 8 a
theorem ds_0 (U : WU u) {a b : Nat} (ha : a < 8) (hb : b < 8) : ds u a b = 0 ↔ a = b := by
  constructor
  · intro h
    by_cases e : a = b
    · exact e
    · have := fw_pos u U.2.1 (Nat.le_refl 8) ha hb e
      unfold ds at h
      omega
  · intro e; subst e; exact ds_self u a
theorem ds_step (U : WU u) {a b : Nat} (ha : a < 8) (hb : b < 8) (hab : a ≠ b) (h : ds u a b < 1000) : ∃ n, n < 8 ∧ ¬ u (8 * a + n) = 0 ∧ u (8 * a + n) + ds u n b = ds u a b := by
  obtain ⟨n, h1, h2, h3, h4⟩ := fw_first u U.2.1 8 (Nat.le_refl 8) a b ha hb hab h
  have t1 := fw_tri u 8 n a b h1
  have t2 := fw_door u 8 h2
  exact ⟨n, h1, h2, by unfold ds; omega⟩
end DS

/-- two memories that no place of a cell tells apart -/
def hz_sm (T : hz_T) (n : Nat) (M M' : hz_M) : Prop := M.2 = M'.2 ∧ ∀ a, a ≠ 0 → a ≤ n → (M.1 a = M'.1 a ∨ (12 ≤ (T a).1 ∧ (T a).1 < 15 ∧ ∀ j, j < (T a).2 → M.1 a j = M'.1 a j))
theorem arrV_same (c : ClassId) {N : Nat} {f g : Nat → Value} (h : ∀ j, j < N → f j = g j) : arrV c N f = arrV c N g := by
  unfold arrV
  congr 1
  apply Array.ext
  · simp
  · intro i h1 h2
    simp only [Array.getElem_ofFn]
    exact h i (by simpa using h1)
theorem hz_W_at {D : hz_D} {T : hz_T} {n k : Nat} {M : hz_M} {x : Nat × va_E} (h : (hz_W D T n M)[k]? = some x) : k < n ∧ x = (D.2.2.1 (k + 1), hz_E D T M (k + 1)) := by
  have hk : k < n := by
    have := (List.getElem?_eq_some_iff.mp h).1
    simpa [hz_W] using this
  have h2 := hz_W_get D T (n := n) M (a := k + 1) (by omega) (by omega)
  rw [show k + 1 - 1 = k by omega, h] at h2
  exact ⟨hk, Option.some.inj h2⟩
theorem hz_R.same {D : hz_D} {T : hz_T} {n : Nat} {M M' : hz_M} {H : Heap} (h : hz_sm T n M M') (hR : hz_R D T n M H) : hz_R D T n M' H := by
  refine ⟨fun k x hx => ?_, ⟨fun i j x z hi hj hxz => ?_, fun k x hx => ?_⟩, hR.2.2⟩
  · obtain ⟨hk, rfl⟩ := hz_W_at hx
    have h0 := hR.1 k _ (by have := hz_W_get D T (n := n) M (a := k + 1) (by omega) (by omega); rwa [show k + 1 - 1 = k by omega] at this)
    rcases h.2 (k + 1) (by omega) (by omega) with e | ⟨e1, e2, e3⟩
    · rw [show hz_E D T M' (k + 1) = hz_E D T M (k + 1) from hz_E_ne D T M M' e.symm (by rw [h.1]) (by rw [h.1])]
      exact h0
    · have q1 : hz_E D T M (k + 1) = .inl (D.2.1 (T (k + 1)).1, (T (k + 1)).2, .inl (M.1 (k + 1))) := by simp [hz_E, Nat.not_lt.mpr e1, e2]
      have q2 : hz_E D T M' (k + 1) = .inl (D.2.1 (T (k + 1)).1, (T (k + 1)).2, .inl (M'.1 (k + 1))) := by simp [hz_E, Nat.not_lt.mpr e1, e2]
      rw [q1] at h0
      rw [q2]
      show H[D.2.2.1 (k + 1)]? = some (vp_cell _ _)
      have h1 : H[D.2.2.1 (k + 1)]? = some (vp_cell _ _) := h0
      rw [h1, vp_cell_i, vp_cell_i, arrV_same _ (fun j hj => by rw [e3 j hj])]
  · obtain ⟨hi1, rfl⟩ := hz_W_at hi
    obtain ⟨hj1, rfl⟩ := hz_W_at hj
    exact hR.2.1.1 i j (D.2.2.1 (i + 1), hz_E D T M (i + 1)) (D.2.2.1 (j + 1), hz_E D T M (j + 1)) (by have := hz_W_get D T (n := n) M (a := i + 1) (by omega) (by omega); rwa [show i + 1 - 1 = i by omega] at this) (by have := hz_W_get D T (n := n) M (a := j + 1) (by omega) (by omega); rwa [show j + 1 - 1 = j by omega] at this) hxz
  · obtain ⟨hk1, rfl⟩ := hz_W_at hx
    exact hR.2.1.2 k (D.2.2.1 (k + 1), hz_E D T M (k + 1)) (by have := hz_W_get D T (n := n) M (a := k + 1) (by omega) (by omega); rwa [show k + 1 - 1 = k by omega] at this)
theorem hz_cong {X : hz_X} {T : hz_T} {n : Nat} {M M' : hz_M} {kc ks pc : Nat} {ls : List (Option Value)} {st : List Value} (h : hz_sm T n M M') (kk : hz_G X T n M' kc ks pc ls st) : hz_G X T n M kc ks pc ls st := by
  obtain ⟨p, l, e, R, s, m, args, below, meth, cd, D, Q⟩ := X
  intro H locs hR hS lsA hl
  exact kk H locs (hR.same h) hS lsA hl
theorem hz_sm_sa {T : hz_T} {n a : Nat} {I : Nat → Nat → Int32} {L : Nat → Nat → Int64} {P : Nat → Nat → Nat} {f g : Nat → Int32} {c N : Nat} (hT : T a = (c, N)) (hc : 12 ≤ c) (hc2 : c < 15) (h : ∀ j, j < N → f j = g j) : hz_sm T n (hz_sa I a f, L, P) (hz_sa I a g, L, P) := by
  refine ⟨rfl, fun b h0 hb => ?_⟩
  by_cases e : b = a
  · subst e
    exact Or.inr ⟨by rw [hT]; exact hc, by rw [hT]; exact hc2, fun j hj => by rw [hT] at hj; simpa [hz_sa] using h j hj⟩
  · exact Or.inl (by simp [hz_sa, e])

theorem wu_door {u : Nat → Nat} (U : WU u) {a0 b0 l : Nat} (ha0 : a0 < 8) (hb0 : b0 < 8) (hn : a0 ≠ b0) (hl : l ≤ 9) : WU (va_up (va_up u (8 * a0 + b0) l) (8 * b0 + a0) l) := by
  obtain ⟨w1, w2, w3, w4, w5, w6, w7, w8, w9, w10⟩ := U
  refine ⟨?_, fun j hj => ?_, fun a b ha hb => ?_, fun a ha => ?_, fun k h => ?_, ?_, fun i h => ?_, ?_, ?_, fun i h => ?_⟩
  · (try simp (disch := omega) only [va_up_ne, va_up_self])
    exact w1
  · by_cases e1 : j = 8 * b0 + a0
    · subst e1; rw [va_up_self]; exact hl
    · by_cases e2 : j = 8 * a0 + b0
      · subst e2; simp (disch := omega) only [va_up_ne, va_up_self]; exact hl
      · simp (disch := omega) only [va_up_ne, va_up_self]; exact w2 j hj
  · by_cases e1 : a = b0 ∧ b = a0
    · obtain ⟨rfl, rfl⟩ := e1; simp (disch := omega) only [va_up_ne, va_up_self]
    · by_cases e2 : a = a0 ∧ b = b0
      · obtain ⟨rfl, rfl⟩ := e2; simp (disch := omega) only [va_up_ne, va_up_self]
      · simp (disch := omega) only [va_up_ne, va_up_self]; exact w3 a b ha hb
  · simp (disch := omega) only [va_up_ne, va_up_self]
    exact w4 a ha
  · (try simp (disch := omega) only [va_up_ne, va_up_self] at h)
    (try simp (disch := omega) only [va_up_ne, va_up_self])
    exact w5 k h
  · (try simp (disch := omega) only [va_up_ne, va_up_self])
    exact w6
  · (try simp (disch := omega) only [va_up_ne, va_up_self] at h)
    (try simp (disch := omega) only [va_up_ne, va_up_self])
    exact w7 i h
  · unfold WN at w8 ⊢
    (try simp (disch := omega) only [va_up_ne, va_up_self])
    exact w8
  · (try simp (disch := omega) only [va_up_ne, va_up_self])
    exact w9
  · (try simp (disch := omega) only [va_up_ne, va_up_self] at h)
    have h9 := w10 i h
    unfold WN at h9 ⊢
    (try simp (disch := omega) only [va_up_ne, va_up_self])
    exact h9
theorem wu_alarm {u : Nat → Nat} (U : WU u) (h6 : u 64 < 6) {kd rm ba : Nat} (hkd : kd < 6) (hrm : rm < 8) (hba : ba ≤ 99) : WU (va_up (va_up (va_up (va_up (va_up u (65 + u 64) kd) (71 + u 64) rm) (94 + u 64) ba) 64 (u 64 + 1)) 100 0) := by
  obtain ⟨w1, w2, w3, w4, w5, w6, w7, w8, w9, w10⟩ := U
  refine ⟨?_, fun j hj => ?_, fun a b ha hb => ?_, fun a ha => ?_, fun k h => ?_, ?_, fun i h => ?_, ?_, ?_, fun i h => ?_⟩
  · simp (disch := omega) only [va_up_ne, va_up_self]
    omega
  · (try simp (disch := omega) only [va_up_ne, va_up_self])
    exact w2 j hj
  · (try simp (disch := omega) only [va_up_ne, va_up_self])
    exact w3 a b ha hb
  · (try simp (disch := omega) only [va_up_ne, va_up_self])
    exact w4 a ha
  · simp (disch := omega) only [va_up_ne, va_up_self] at h
    by_cases e : k = u 64
    · subst e; simp (disch := omega) only [va_up_ne, va_up_self]; exact ⟨hkd, hrm⟩
    · simp (disch := omega) only [va_up_ne, va_up_self]; exact w5 k (by omega)
  · (try simp (disch := omega) only [va_up_ne, va_up_self])
    exact w6
  · (try simp (disch := omega) only [va_up_ne, va_up_self] at h)
    (try simp (disch := omega) only [va_up_ne, va_up_self])
    exact w7 i h
  · obtain ⟨n1, n2, n3, n4, n5⟩ := w8
    refine ⟨by simp (disch := omega) only [va_up_ne, va_up_self]; exact n1, by simp (disch := omega) only [va_up_ne, va_up_self]; exact n2, by simp (disch := omega) only [va_up_ne, va_up_self]; exact n3, by simp (disch := omega) only [va_up_ne, va_up_self]; exact n4, fun k hk => ?_⟩
    simp (disch := omega) only [va_up_ne, va_up_self] at hk
    by_cases e : k = u 64
    · subst e; simp (disch := omega) only [va_up_ne, va_up_self]; exact hba
    · simp (disch := omega) only [va_up_ne, va_up_self]; exact n5 k (by omega)
  · simp (disch := omega) only [va_up_ne, va_up_self]
    omega
  · simp (disch := omega) only [va_up_ne, va_up_self] at h
    omega
theorem wu_sec {u : Nat → Nat} (U : WU u) {x : Nat} (hx : x ≤ 9999) : WU (va_up u 90 x) := by
  obtain ⟨w1, w2, w3, w4, w5, w6, w7, w8, w9, w10⟩ := U
  refine ⟨?_, fun j hj => ?_, fun a b ha hb => ?_, fun a ha => ?_, fun k h => ?_, ?_, fun i h => ?_, ?_, ?_, fun i h => ?_⟩
  · (try simp (disch := omega) only [va_up_ne, va_up_self])
    exact w1
  · (try simp (disch := omega) only [va_up_ne, va_up_self])
    exact w2 j hj
  · (try simp (disch := omega) only [va_up_ne, va_up_self])
    exact w3 a b ha hb
  · (try simp (disch := omega) only [va_up_ne, va_up_self])
    exact w4 a ha
  · (try simp (disch := omega) only [va_up_ne, va_up_self] at h)
    (try simp (disch := omega) only [va_up_ne, va_up_self])
    exact w5 k h
  · (try simp (disch := omega) only [va_up_ne, va_up_self])
    exact w6
  · (try simp (disch := omega) only [va_up_ne, va_up_self] at h)
    (try simp (disch := omega) only [va_up_ne, va_up_self])
    exact w7 i h
  · obtain ⟨n1, n2, n3, n4, n5⟩ := w8
    refine ⟨by simp (disch := omega) only [va_up_ne, va_up_self]; exact hx, by simp (disch := omega) only [va_up_ne, va_up_self]; exact n2, by simp (disch := omega) only [va_up_ne, va_up_self]; exact n3, by simp (disch := omega) only [va_up_ne, va_up_self]; exact n4, fun k hk => ?_⟩
    (try simp (disch := omega) only [va_up_ne, va_up_self] at hk)
    simp (disch := omega) only [va_up_ne, va_up_self]
    exact n5 k hk
  · (try simp (disch := omega) only [va_up_ne, va_up_self])
    exact w9
  · (try simp (disch := omega) only [va_up_ne, va_up_self] at h)
    have h9 := w10 i h
    unfold WN at h9 ⊢
    (try simp (disch := omega) only [va_up_ne, va_up_self])
    exact h9
theorem wu_plc {u : Nat → Nat} (U : WU u) {x : Nat} (hx : x < 8) : WU (va_up u 91 x) := by
  obtain ⟨w1, w2, w3, w4, w5, w6, w7, w8, w9, w10⟩ := U
  refine ⟨?_, fun j hj => ?_, fun a b ha hb => ?_, fun a ha => ?_, fun k h => ?_, ?_, fun i h => ?_, ?_, ?_, fun i h => ?_⟩
  · (try simp (disch := omega) only [va_up_ne, va_up_self])
    exact w1
  · (try simp (disch := omega) only [va_up_ne, va_up_self])
    exact w2 j hj
  · (try simp (disch := omega) only [va_up_ne, va_up_self])
    exact w3 a b ha hb
  · (try simp (disch := omega) only [va_up_ne, va_up_self])
    exact w4 a ha
  · (try simp (disch := omega) only [va_up_ne, va_up_self] at h)
    (try simp (disch := omega) only [va_up_ne, va_up_self])
    exact w5 k h
  · (try simp (disch := omega) only [va_up_ne, va_up_self])
    exact w6
  · (try simp (disch := omega) only [va_up_ne, va_up_self] at h)
    (try simp (disch := omega) only [va_up_ne, va_up_self])
    exact w7 i h
  · obtain ⟨n1, n2, n3, n4, n5⟩ := w8
    refine ⟨by simp (disch := omega) only [va_up_ne, va_up_self]; exact n1, by simp (disch := omega) only [va_up_ne, va_up_self]; exact hx, by simp (disch := omega) only [va_up_ne, va_up_self]; exact n3, by simp (disch := omega) only [va_up_ne, va_up_self]; exact n4, fun k hk => ?_⟩
    (try simp (disch := omega) only [va_up_ne, va_up_self] at hk)
    simp (disch := omega) only [va_up_ne, va_up_self]
    exact n5 k hk
  · (try simp (disch := omega) only [va_up_ne, va_up_self])
    exact w9
  · (try simp (disch := omega) only [va_up_ne, va_up_self] at h)
    have h9 := w10 i h
    unfold WN at h9 ⊢
    (try simp (disch := omega) only [va_up_ne, va_up_self])
    exact h9
theorem wu_cold {u : Nat → Nat} (U : WU u) {x : Nat} (hx : x ≤ 9) : WU (va_up u 92 x) := by
  obtain ⟨w1, w2, w3, w4, w5, w6, w7, w8, w9, w10⟩ := U
  refine ⟨?_, fun j hj => ?_, fun a b ha hb => ?_, fun a ha => ?_, fun k h => ?_, ?_, fun i h => ?_, ?_, ?_, fun i h => ?_⟩
  · (try simp (disch := omega) only [va_up_ne, va_up_self])
    exact w1
  · (try simp (disch := omega) only [va_up_ne, va_up_self])
    exact w2 j hj
  · (try simp (disch := omega) only [va_up_ne, va_up_self])
    exact w3 a b ha hb
  · (try simp (disch := omega) only [va_up_ne, va_up_self])
    exact w4 a ha
  · (try simp (disch := omega) only [va_up_ne, va_up_self] at h)
    (try simp (disch := omega) only [va_up_ne, va_up_self])
    exact w5 k h
  · (try simp (disch := omega) only [va_up_ne, va_up_self])
    exact w6
  · (try simp (disch := omega) only [va_up_ne, va_up_self] at h)
    (try simp (disch := omega) only [va_up_ne, va_up_self])
    exact w7 i h
  · obtain ⟨n1, n2, n3, n4, n5⟩ := w8
    refine ⟨by simp (disch := omega) only [va_up_ne, va_up_self]; exact n1, by simp (disch := omega) only [va_up_ne, va_up_self]; exact n2, by simp (disch := omega) only [va_up_ne, va_up_self]; exact hx, by simp (disch := omega) only [va_up_ne, va_up_self]; exact n4, fun k hk => ?_⟩
    (try simp (disch := omega) only [va_up_ne, va_up_self] at hk)
    simp (disch := omega) only [va_up_ne, va_up_self]
    exact n5 k hk
  · (try simp (disch := omega) only [va_up_ne, va_up_self])
    exact w9
  · (try simp (disch := omega) only [va_up_ne, va_up_self] at h)
    have h9 := w10 i h
    unfold WN at h9 ⊢
    (try simp (disch := omega) only [va_up_ne, va_up_self])
    exact h9
theorem wu_down {u : Nat → Nat} (U : WU u) {x : Nat} (hx : x < 64) : WU (va_up u 93 x) := by
  obtain ⟨w1, w2, w3, w4, w5, w6, w7, w8, w9, w10⟩ := U
  refine ⟨?_, fun j hj => ?_, fun a b ha hb => ?_, fun a ha => ?_, fun k h => ?_, ?_, fun i h => ?_, ?_, ?_, fun i h => ?_⟩
  · (try simp (disch := omega) only [va_up_ne, va_up_self])
    exact w1
  · (try simp (disch := omega) only [va_up_ne, va_up_self])
    exact w2 j hj
  · (try simp (disch := omega) only [va_up_ne, va_up_self])
    exact w3 a b ha hb
  · (try simp (disch := omega) only [va_up_ne, va_up_self])
    exact w4 a ha
  · (try simp (disch := omega) only [va_up_ne, va_up_self] at h)
    (try simp (disch := omega) only [va_up_ne, va_up_self])
    exact w5 k h
  · (try simp (disch := omega) only [va_up_ne, va_up_self])
    exact w6
  · (try simp (disch := omega) only [va_up_ne, va_up_self] at h)
    (try simp (disch := omega) only [va_up_ne, va_up_self])
    exact w7 i h
  · obtain ⟨n1, n2, n3, n4, n5⟩ := w8
    refine ⟨by simp (disch := omega) only [va_up_ne, va_up_self]; exact n1, by simp (disch := omega) only [va_up_ne, va_up_self]; exact n2, by simp (disch := omega) only [va_up_ne, va_up_self]; exact n3, by simp (disch := omega) only [va_up_ne, va_up_self]; exact hx, fun k hk => ?_⟩
    (try simp (disch := omega) only [va_up_ne, va_up_self] at hk)
    simp (disch := omega) only [va_up_ne, va_up_self]
    exact n5 k hk
  · (try simp (disch := omega) only [va_up_ne, va_up_self])
    exact w9
  · (try simp (disch := omega) only [va_up_ne, va_up_self] at h)
    have h9 := w10 i h
    unfold WN at h9 ⊢
    (try simp (disch := omega) only [va_up_ne, va_up_self])
    exact h9
theorem wu_bat {u : Nat → Nat} (U : WU u) {k0 x : Nat} (hk0 : k0 < u 64) (hx : x ≤ 99) : WU (va_up u (94 + k0) x) := by
  obtain ⟨w1, w2, w3, w4, w5, w6, w7, w8, w9, w10⟩ := U
  refine ⟨?_, fun j hj => ?_, fun a b ha hb => ?_, fun a ha => ?_, fun k h => ?_, ?_, fun i h => ?_, ?_, ?_, fun i h => ?_⟩
  · (try simp (disch := omega) only [va_up_ne, va_up_self])
    exact w1
  · (try simp (disch := omega) only [va_up_ne, va_up_self])
    exact w2 j hj
  · (try simp (disch := omega) only [va_up_ne, va_up_self])
    exact w3 a b ha hb
  · (try simp (disch := omega) only [va_up_ne, va_up_self])
    exact w4 a ha
  · (try simp (disch := omega) only [va_up_ne, va_up_self] at h)
    (try simp (disch := omega) only [va_up_ne, va_up_self])
    exact w5 k h
  · (try simp (disch := omega) only [va_up_ne, va_up_self])
    exact w6
  · (try simp (disch := omega) only [va_up_ne, va_up_self] at h)
    (try simp (disch := omega) only [va_up_ne, va_up_self])
    exact w7 i h
  · obtain ⟨n1, n2, n3, n4, n5⟩ := w8
    refine ⟨by simp (disch := omega) only [va_up_ne, va_up_self]; exact n1, by simp (disch := omega) only [va_up_ne, va_up_self]; exact n2, by simp (disch := omega) only [va_up_ne, va_up_self]; exact n3, by simp (disch := omega) only [va_up_ne, va_up_self]; exact n4, fun k hk => ?_⟩
    (try simp (disch := omega) only [va_up_ne, va_up_self] at hk)
    by_cases e : k = k0
    · subst e; simp (disch := omega) only [va_up_ne, va_up_self]; exact hx
    · simp (disch := omega) only [va_up_ne, va_up_self]; exact n5 k hk
  · (try simp (disch := omega) only [va_up_ne, va_up_self])
    exact w9
  · (try simp (disch := omega) only [va_up_ne, va_up_self] at h)
    have h9 := w10 i h
    unfold WN at h9 ⊢
    (try simp (disch := omega) only [va_up_ne, va_up_self])
    exact h9
theorem wu_note {u : Nat → Nat} (U : WU u) (h6 : u 77 < 6) {r t : Nat} (hr : r < 8) (ht : t ≤ 8) : WU (va_up (va_up (va_up u (78 + 2 * u 77) r) (79 + 2 * u 77) t) 77 (u 77 + 1)) := by
  obtain ⟨w1, w2, w3, w4, w5, w6, w7, w8, w9, w10⟩ := U
  refine ⟨?_, fun j hj => ?_, fun a b ha hb => ?_, fun a ha => ?_, fun k h => ?_, ?_, fun i h => ?_, ?_, ?_, fun i h => ?_⟩
  · (try simp (disch := omega) only [va_up_ne, va_up_self])
    exact w1
  · (try simp (disch := omega) only [va_up_ne, va_up_self])
    exact w2 j hj
  · (try simp (disch := omega) only [va_up_ne, va_up_self])
    exact w3 a b ha hb
  · (try simp (disch := omega) only [va_up_ne, va_up_self])
    exact w4 a ha
  · (try simp (disch := omega) only [va_up_ne, va_up_self] at h)
    (try simp (disch := omega) only [va_up_ne, va_up_self])
    exact w5 k h
  · simp (disch := omega) only [va_up_ne, va_up_self]
    omega
  · simp (disch := omega) only [va_up_ne, va_up_self] at h
    by_cases e : i = u 77
    · subst e; simp (disch := omega) only [va_up_ne, va_up_self]; exact ⟨hr, ht⟩
    · simp (disch := omega) only [va_up_ne, va_up_self]; exact w7 i (by omega)
  · unfold WN at w8 ⊢
    (try simp (disch := omega) only [va_up_ne, va_up_self])
    exact w8
  · (try simp (disch := omega) only [va_up_ne, va_up_self])
    exact w9
  · (try simp (disch := omega) only [va_up_ne, va_up_self] at h)
    have h9 := w10 i h
    unfold WN at h9 ⊢
    (try simp (disch := omega) only [va_up_ne, va_up_self])
    exact h9
theorem wu_forget {u : Nat → Nat} (U : WU u)  : WU (va_up u 77 0) := by
  obtain ⟨w1, w2, w3, w4, w5, w6, w7, w8, w9, w10⟩ := U
  refine ⟨?_, fun j hj => ?_, fun a b ha hb => ?_, fun a ha => ?_, fun k h => ?_, ?_, fun i h => ?_, ?_, ?_, fun i h => ?_⟩
  · (try simp (disch := omega) only [va_up_ne, va_up_self])
    exact w1
  · (try simp (disch := omega) only [va_up_ne, va_up_self])
    exact w2 j hj
  · (try simp (disch := omega) only [va_up_ne, va_up_self])
    exact w3 a b ha hb
  · (try simp (disch := omega) only [va_up_ne, va_up_self])
    exact w4 a ha
  · (try simp (disch := omega) only [va_up_ne, va_up_self] at h)
    (try simp (disch := omega) only [va_up_ne, va_up_self])
    exact w5 k h
  · simp (disch := omega) only [va_up_ne, va_up_self]
    omega
  · simp (disch := omega) only [va_up_ne, va_up_self] at h
    omega
  · unfold WN at w8 ⊢
    (try simp (disch := omega) only [va_up_ne, va_up_self])
    exact w8
  · (try simp (disch := omega) only [va_up_ne, va_up_self])
    exact w9
  · (try simp (disch := omega) only [va_up_ne, va_up_self] at h)
    have h9 := w10 i h
    unfold WN at h9 ⊢
    (try simp (disch := omega) only [va_up_ne, va_up_self])
    exact h9
theorem u0_0 {j : Nat} (h : j ≠ 92) (h2 : j < 79 ∨ 89 < j) : u0 j = 0 := by
  unfold u0
  rw [if_neg h, if_neg (by simp only [isT, Bool.or_eq_true, decide_eq_true_eq]; omega)]
theorem wu_0 : WU u0 := by
  have e64 : u0 64 = 0 := rfl
  have e77 : u0 77 = 0 := rfl
  have e100 : u0 100 = 0 := rfl
  refine ⟨by omega, fun j hj => ?_, fun a b ha hb => ?_, fun a ha => ?_, fun k h => ?_, by omega, fun i h => ?_, ⟨by decide, by decide, by decide, by decide, fun k h => ?_⟩, by omega, fun i h => ?_⟩
  · rw [u0_0 (by omega) (by omega)]; omega
  · rw [u0_0 (by omega) (by omega), u0_0 (by omega) (by omega)]
  · rw [u0_0 (by omega) (by omega)]
  all_goals omega
theorem wu_keep {u : Nat → Nat} (U : WU u) : WU (kb u) := by
  obtain ⟨w1, w2, w3, w4, w5, w6, w7, w8, w9, w10⟩ := U
  have e64 : kb u 64 = u 64 := kb_lo u (by omega)
  have e77 : kb u 77 = u 77 := kb_lo u (by omega)
  refine ⟨by rw [e64]; exact w1, fun j hj => by rw [kb_lo u (by omega)]; exact w2 j hj, fun a b ha hb => ?_, fun a ha => ?_, fun k h => ?_, by rw [e77]; exact w6, fun i h => ?_, ?_, ?_, fun i h => ?_⟩
  · rw [kb_lo u (by omega), kb_lo u (by omega)]; exact w3 a b ha hb
  · rw [kb_lo u (by omega)]; exact w4 a ha
  · rw [e64] at h; rw [kb_lo u (by omega), kb_lo u (by omega)]; exact w5 k h
  · rw [e77] at h; rw [kb_lo u (by omega), kb_lo u (by omega)]; exact w7 i h
  · rw [e64]; exact WN.to w8 w1 (fun t ht => kb_lo u (by omega))
  · by_cases h8 : u 100 < 8
    · rw [kb_100 h8]; omega
    · rw [kb_108 (by omega)]; omega
  · rw [e64]
    by_cases h8 : u 100 < 8
    · rw [kb_100 h8] at h
      by_cases e : i = u 100
      · subst e; exact WN.to w8 w1 (fun t ht => kb_new h8 ht)
      · exact WN.to (w10 i (by omega)) w1 (fun t ht => kb_old h8 (by omega) ht)
    · have h88 : u 100 = 8 := by omega
      rw [kb_108 h88] at h
      by_cases e : i = 7
      · subst e; exact WN.to w8 w1 (fun t ht => kb_new8 h88 ht)
      · exact WN.to (w10 (i + 1) (by omega)) w1 (fun t ht => kb_old8 h88 (by omega) ht)
theorem wu_undo {u : Nat → Nat} (U : WU u) {n : Nat} (hn : u 100 = n + 1) : WU (ub u n) := by
  obtain ⟨w1, w2, w3, w4, w5, w6, w7, w8, w9, w10⟩ := U
  have e64 : ub u n 64 = u 64 := ub_o u n (by omega)
  have e77 : ub u n 77 = u 77 := ub_o u n (by omega)
  refine ⟨by rw [e64]; exact w1, fun j hj => by rw [ub_o u n (by omega)]; exact w2 j hj, fun a b ha hb => ?_, fun a ha => ?_, fun k h => ?_, by rw [e77]; exact w6, fun i h => ?_, ?_, by rw [ub_100]; omega, fun i h => ?_⟩
  · rw [ub_o u n (by omega), ub_o u n (by omega)]; exact w3 a b ha hb
  · rw [ub_o u n (by omega)]; exact w4 a ha
  · rw [e64] at h; rw [ub_o u n (by omega), ub_o u n (by omega)]; exact w5 k h
  · rw [e77] at h; rw [ub_o u n (by omega), ub_o u n (by omega)]; exact w7 i h
  · rw [e64]; exact WN.to (w10 n (by omega)) w1 (fun t ht => ub_n u n ht)
  · rw [ub_100] at h
    rw [e64]
    exact WN.to (w10 i (by omega)) w1 (fun t ht => ub_o u n (by omega))
/-! the reference's row -/
theorem mv_of {I J : Nat → Nat → Int32} {u u' : Nat → Nat} (h : ∀ j, j < 181 → J 147 j = mv u' j) : MV J u' := h
theorem mv_0 (I : Nat → Nat → Int32) : MV (hz_sa I 147 (bg (I 147))) u0 := by
  intro j hj
  rw [sa_eq]
  unfold bg mv u0
  rw [if_pos hj]
  by_cases h1 : j = 92
  · subst h1; rfl
  · rw [if_neg h1, if_neg h1]
    by_cases h2 : isT j = true
    · rw [if_pos h2, if_pos h2]; decide +kernel
    · rw [if_neg h2, if_neg h2]
theorem mv_keep {I : Nat → Nat → Int32} {u : Nat → Nat} (V : MV I u) (h8 : u 100 < 8) : MV (hz_sa I 147 (va_up (va_cpy (I 147) (I 147) 90 (101 + (10 * u 100)) 10) 100 (nI (u 100 + 1)))) (kb u) := by
  intro j hj
  rw [sa_eq]
  by_cases e : j = 100
  · subst e; rw [va_up_self, mv_n (by omega), kb_100 h8]
  · rw [va_up_ne _ _ e]
    unfold va_cpy
    by_cases h : 101 + 10 * u 100 ≤ j ∧ j < 101 + 10 * u 100 + 10
    · rw [if_pos h, mg V (by omega) (by omega), mv_n (by omega)]
      obtain ⟨t, rfl⟩ : ∃ t, j = 101 + 10 * u 100 + t := ⟨j - (101 + 10 * u 100), by omega⟩
      rw [kb_new h8 (by omega), show 101 + 10 * u 100 + t - (101 + 10 * u 100) = t by omega]
    · rw [if_neg h, V j hj]
      refine (mv_c ?_).symm
      unfold kb
      rw [if_pos h8, if_neg e, if_neg (by omega)]
theorem mv_keep8 {I : Nat → Nat → Int32} {u : Nat → Nat} (V : MV I u) (h8 : u 100 = 8) : MV (hz_sa (hz_sa I 147 (va_up (va_cpy (I 147) (I 147) 111 101 70) 100 (nI 7))) 147 (va_up (va_cpy ((hz_sa I 147 (va_up (va_cpy (I 147) (I 147) 111 101 70) 100 (nI 7))) 147) ((hz_sa I 147 (va_up (va_cpy (I 147) (I 147) 111 101 70) 100 (nI 7))) 147) 90 171 10) 100 (nI 8))) (kb u) := by
  intro j hj
  rw [sa_eq, sa_eq]
  by_cases e : j = 100
  · subst e; rw [va_up_self, mv_n (by omega), kb_108 h8]
  · rw [va_up_ne _ _ e]
    unfold va_cpy
    by_cases h : 171 ≤ j ∧ j < 171 + 10
    · rw [if_pos h, va_up_ne _ _ (by omega), if_neg (by omega), mg V (by omega) (by omega), mv_n (by omega)]
      obtain ⟨t, rfl⟩ : ∃ t, j = 101 + 10 * 7 + t := ⟨j - 171, by omega⟩
      rw [kb_new8 h8 (by omega), show 101 + 10 * 7 + t - 171 = t by omega]
    · rw [if_neg h, va_up_ne _ _ e]
      by_cases h2 : 101 ≤ j ∧ j < 101 + 70
      · rw [if_pos h2, mg V (by omega) (by omega), mv_n (by omega)]
        unfold kb
        rw [if_neg (by omega), if_pos (by omega), show 111 + (j - 101) = j + 10 by omega]
      · rw [if_neg h2, V j hj]
        refine (mv_c ?_).symm
        unfold kb
        rw [if_neg (by omega), if_neg (by omega), if_neg (by omega)]
theorem mv_undo {I : Nat → Nat → Int32} {u : Nat → Nat} (V : MV I u) {n : Nat} (hn : n < 8) : MV (hz_sa (hz_up I 147 100 (nI n)) 147 (va_cpy (hz_up I 147 100 (nI n) 147) (hz_up I 147 100 (nI n) 147) (101 + 10 * n) 90 10)) (ub u n) := by
  intro j hj
  rw [sa_eq]
  unfold va_cpy
  by_cases h : 90 ≤ j ∧ j < 90 + 10
  · rw [if_pos h, hz_up_nk _ _ _ _ (by omega), mg V (by omega) (by omega), mv_n (by omega)]
    obtain ⟨t, rfl⟩ : ∃ t, j = 90 + t := ⟨j - 90, by omega⟩
    rw [ub_n u n (by omega), show 90 + t - 90 = t by omega]
  · rw [if_neg h]
    by_cases e : j = 100
    · subst e; rw [hz_up_self, mv_n (by omega), ub_100]
    · rw [hz_up_nk _ _ _ _ e, V j hj]
      exact (mv_c (ub_o u n (by omega))).symm
/-! the invariant of a run -/
/-- of the class: all stays but what searches write and the home; of the reference: all stays but its rows -/
def kpC (I J : Nat → Nat → Int32) : Prop := (∀ a, a < 4 ∨ 44 < a → J a = I a) ∧ ∀ i, i < 6 → J 11 i = I 11 i
def kpM (I J : Nat → Nat → Int32) : Prop := (∀ a, a < 146 ∨ (149 ≤ a ∧ a ≤ 152) → J a = I a) ∧ J 146 7 = I 146 7
def kpQ (q q' : Nat → Nat → Nat) : Prop := ∀ a, a ≠ 21 → ∀ i, q' a i = q a i
def IM (i h : Nat) (q : Nat → Nat → Nat) (I : Nat → Nat → Int32) : Prop := HP h q ∧ (I h 9 = 0 ∨ I h 9 = 1) ∧ I 145 i = I 150 i ∧ (I 145 i = 0 ∨ (I 145 i = 1 ∧ ∃ w, HV h q I w ∧ WU w ∧ ∀ j, j < 181 → I 149 (181 * i + j) = mv w j))
def TX (I : Nat → Nat → Int32) (t : Nat) : Prop := t ≤ 150 ∧ I 2 1 = nI t ∧ I 146 7 = nI t ∧ ∀ j, j < t → ∃ c, c < 128 ∧ I 3 j = nI c ∧ I 152 j = nI c
def RST (q : Nat → Nat → Nat) (I : Nat → Nat → Int32) (L : Nat → Nat → Int64) : Prop := HP 45 q ∧ IM 0 79 q I ∧ IM 1 112 q I ∧ (∃ t, TX I t) ∧ (I 1 8 = I 151 0 ∧ I 1 9 = I 151 1 ∧ I 1 10 = I 151 2) ∧ (L 1 6 = L 146 5 ∧ L 1 7 = L 146 6) ∧ ∀ i, i < 6 → I 11 i = 0
def INV (q : Nat → Nat → Nat) (I : Nat → Nat → Int32) (L : Nat → Nat → Int64) (u : Nat → Nat) : Prop := HV 12 q I u ∧ WU u ∧ MV I u ∧ RST q I L
theorem IM.cong {i h : Nat} {q q' : Nat → Nat → Nat} {I J : Nat → Nat → Int32} (V : IM i h q I) (e : ∀ a, h ≤ a → a ≤ h + 32 → J a = I a) (e1 : J 145 = I 145) (e2 : J 150 = I 150) (e3 : J 149 = I 149) (eq : ∀ i, q' (h + 9) i = q (h + 9) i) : IM i h q' J := by
  obtain ⟨v1, v0, v2, v3⟩ := V
  refine ⟨v1.cong eq, by rw [e h (by omega) (by omega)]; exact v0, by rw [e1, e2]; exact v2, ?_⟩
  rw [e1, e3]
  rcases v3 with v3 | ⟨v3, w, v4, v5, v6⟩
  · exact Or.inl v3
  · exact Or.inr ⟨v3, w, v4.cong v5 e eq, v5, v6⟩
theorem TX.cong {I J : Nat → Nat → Int32} {t : Nat} (V : TX I t) (e1 : J 2 1 = I 2 1) (e2 : J 146 7 = I 146 7) (e3 : J 3 = I 3) (e4 : J 152 = I 152) : TX J t := by
  obtain ⟨v1, v2, v3, v4⟩ := V
  exact ⟨v1, e1.trans v2, e2.trans v3, by rw [e3, e4]; exact v4⟩
theorem RST.c {q q' : Nat → Nat → Nat} {I J : Nat → Nat → Int32} {L : Nat → Nat → Int64} (V : RST q I L) (K : kpC I J) (Q : kpQ q q') : RST q' J L := by
  obtain ⟨v1, v2, v3, ⟨t, v4⟩, v5, v6, v7⟩ := V
  refine ⟨v1.cong (Q 54 (by omega)), v2.cong (fun a h1 h2 => K.1 a (by omega)) (K.1 _ (by omega)) (K.1 _ (by omega)) (K.1 _ (by omega)) (Q 88 (by omega)), v3.cong (fun a h1 h2 => K.1 a (by omega)) (K.1 _ (by omega)) (K.1 _ (by omega)) (K.1 _ (by omega)) (Q 121 (by omega)), ⟨t, v4.cong (by rw [K.1 2 (by omega)]) (by rw [K.1 146 (by omega)]) (K.1 3 (by omega)) (K.1 152 (by omega))⟩, ?_, v6, fun i hi => (K.2 i hi).trans (v7 i hi)⟩
  rw [K.1 1 (by omega), K.1 151 (by omega)]
  exact v5
theorem RST.m {q : Nat → Nat → Nat} {I J : Nat → Nat → Int32} {L : Nat → Nat → Int64} (V : RST q I L) (K : kpM I J) : RST q J L := by
  obtain ⟨v1, v2, v3, ⟨t, v4⟩, v5, v6, v7⟩ := V
  refine ⟨v1, v2.cong (fun a h1 h2 => K.1 a (by omega)) (K.1 _ (by omega)) (K.1 _ (by omega)) (K.1 _ (by omega)) (fun _ => rfl), v3.cong (fun a h1 h2 => K.1 a (by omega)) (K.1 _ (by omega)) (K.1 _ (by omega)) (K.1 _ (by omega)) (fun _ => rfl), ⟨t, v4.cong (by rw [K.1 2 (by omega)]) K.2 (K.1 3 (by omega)) (K.1 152 (by omega))⟩, ?_, v6, fun i hi => by rw [K.1 11 (by omega)]; exact v7 i hi⟩
  rw [K.1 1 (by omega), K.1 151 (by omega)]
  exact v5
theorem kpC.rf (I : Nat → Nat → Int32) : kpC I I := ⟨fun _ _ => rfl, fun _ _ => rfl⟩
theorem kpM.rf (I : Nat → Nat → Int32) : kpM I I := ⟨fun _ _ => rfl, rfl⟩
theorem kpQ.rf (q : Nat → Nat → Nat) : kpQ q q := fun _ _ _ => rfl
theorem kpC.tr {I J K : Nat → Nat → Int32} (h : kpC I J) (g : kpC J K) : kpC I K := ⟨fun a ha => (g.1 a ha).trans (h.1 a ha), fun i hi => (g.2 i hi).trans (h.2 i hi)⟩
theorem kpM.tr {I J K : Nat → Nat → Int32} (h : kpM I J) (g : kpM J K) : kpM I K := ⟨fun a ha => (g.1 a ha).trans (h.1 a ha), g.2.trans h.2⟩
theorem kpQ.tr {p q r : Nat → Nat → Nat} (h : kpQ p q) (g : kpQ q r) : kpQ p r := fun a ha i => (g a ha i).trans (h a ha i)
theorem kpC.up (I : Nat → Nat → Int32) {a k : Nat} (x : Int32) (h : 12 ≤ a ∧ a ≤ 44) : kpC I (hz_up I a k x) := ⟨fun b hb => hz_up_ne _ _ _ _ (by omega), fun i _ => by rw [hz_up_ne _ _ _ _ (by omega)]⟩
theorem kpM.up (I : Nat → Nat → Int32) {a k : Nat} (x : Int32) (h : a = 147 ∨ a = 148 ∨ 153 ≤ a) : kpM I (hz_up I a k x) := ⟨fun b hb => hz_up_ne _ _ _ _ (by omega), by rw [hz_up_ne _ _ _ _ (by omega)]⟩
theorem kpM.sa (I : Nat → Nat → Int32) {a : Nat} (f : Nat → Int32) (h : a = 147 ∨ a = 148 ∨ 153 ≤ a) : kpM I (hz_sa I a f) := ⟨fun b hb => sa_ne _ _ _ (by omega), by rw [sa_ne _ _ _ (by omega)]⟩
theorem kpC.sa (I : Nat → Nat → Int32) {a : Nat} (f : Nat → Int32) (h : 12 ≤ a ∧ a ≤ 44) : kpC I (hz_sa I a f) := ⟨fun b hb => sa_ne _ _ _ (by omega), fun i _ => by rw [sa_ne _ _ _ (by omega)]⟩
theorem kpC.mS (u : Nat → Nat) (I : Nat → Nat → Int32) : kpC I (ms u I) := ⟨fun b hb => ms_at u I (by omega) (by omega), fun i _ => by rw [ms_at u I (by omega) (by omega)]⟩
theorem kpC.msB (b : Bool) (u : Nat → Nat) (I : Nat → Nat → Int32) : kpC I (msb b u I) := by
  unfold msb
  split
  · exact kpC.mS u I
  · exact kpC.rf I
theorem kpM.lM (u : Nat → Nat) (I : Nat → Nat → Int32) : kpM I (lm u I) := kpM.sa I _ (by omega)
theorem kpC.mV {I J : Nat → Nat → Int32} {u : Nat → Nat} (K : kpC I J) (V : MV I u) : MV J u := V.cong (K.1 147 (by omega))
theorem kpM.hV {q : Nat → Nat → Nat} {I J : Nat → Nat → Int32} {u : Nat → Nat} (K : kpM I J) (V : HV 12 q I u) (U : WU u) : HV 12 q J u := V.cong U (fun a h1 h2 => K.1 a (by omega)) (fun _ => rfl)
theorem MV.lM {I : Nat → Nat → Int32} {u : Nat → Nat} (V : MV I u) : MV (lm u I) u := (mf_lm V).1
/-! a call of the class and the same call of the reference -/
def hz_PQ (L : Nat → Nat → Int64) (r : Option Value) (F : (Nat → Nat → Nat) → (Nat → Nat → Int32) → Prop) : Option Value → hz_M → Prop := fun r' M' => ∃ q J, r' = r ∧ M' = (J, L, PP q) ∧ F q J
/-- the two homes change places -/
def rho (a : Nat) : Nat := if 12 ≤ a ∧ a ≤ 44 then a + 33 else if 45 ≤ a ∧ a ≤ 77 then a - 33 else a
def GOOD (M : hz_M) : Prop := ∃ q I L u, INV q I L u ∧ (M = (I, L, PP q) ∨ M = ((fun a => I (rho a)), (fun a => L (rho a)), fun a k => rho (PP q (rho a) k)))
/-- an answer of the method's type -/
def tyv (y : hz_Y) (r : Value) : Bool := match y.2.2.2.1, r with
  | some .long, .long _ => true
  | some .int, .int _ => true
  | some .boolean, .int _ => true
  | _, _ => false
def ST (yC yM : hz_Y) (M : hz_M) (as : List Value) : Prop := ∃ r, hz_Ex yC TT NN M (.ref 1 :: as) (fun r1 M1 => r1 = some r ∧ hz_Ex yM TT NN M1 (.ref 146 :: as) (fun r2 M2 => r2 = some r ∧ GOOD M2)) ∧ tyv yC r = true
theorem st_mk {yC yM : hz_Y} {M : hz_M} {as : List Value} {r : Value} (E : hz_Ex yC TT NN M (.ref 1 :: as) (fun r1 M1 => r1 = some r ∧ hz_Ex yM TT NN M1 (.ref 146 :: as) (fun r2 M2 => r2 = some r ∧ GOOD M2))) (hr : tyv yC r = true := by exact rfl) : ST yC yM M as := ⟨r, E, hr⟩
theorem st_of {q : Nat → Nat → Nat} {I : Nat → Nat → Int32} {L : Nat → Nat → Int64} {u u' : Nat → Nat} {yC yM : hz_Y} {as : List Value} {r : Value} (V : INV q I L u) (U' : WU u')
    (Ec : hz_Ex yC TT NN (I, L, PP q) (.ref 1 :: as) (hz_PQ L (some r) (fun q' J => HV 12 q' J u' ∧ kpC I J ∧ kpQ q q')))
    (Em : ∀ q' J, MV J u → hz_Ex yM TT NN (J, L, PP q') (.ref 146 :: as) (hz_PI L (PP q') (some r) (fun K => MV K u' ∧ kpM J K))) (hr : tyv yC r = true := by exact rfl) : ST yC yM (I, L, PP q) as := by
  obtain ⟨v1, v2, v3, v4⟩ := V
  refine st_mk (Ec.mono ?_) hr
  rintro _ _ ⟨q', J, rfl, rfl, h1, h2, h3⟩
  refine ⟨rfl, (Em q' J (h2.mV v3)).mono ?_⟩
  rintro _ _ ⟨K, rfl, rfl, h4, h5⟩
  exact ⟨rfl, q', K, L, u', ⟨h5.hV h1 U', U', h4, (v4.c h2 h3).m h5⟩, Or.inl rfl⟩
/-- of exact contracts that leave the house as it is -/
theorem st_ask {q : Nat → Nat → Nat} {I J : Nat → Nat → Int32} {L : Nat → Nat → Int64} {u : Nat → Nat} {yC yM : hz_Y} {as : List Value} {r : Value} {K : (Nat → Nat → Int32) → Nat → Nat → Int32} (V : INV q I L u)
    (Ec : hz_Ev yC TT NN (I, L, PP q) (.ref 1 :: as) 0 0 (some r) TT NN (J, L, PP q)) (hJ : HV 12 q J u ∧ kpC I J)
    (Em : ∀ q' J, MV J u → hz_Ev yM TT NN (J, L, PP q') (.ref 146 :: as) 0 0 (some r) TT NN (K J, L, PP q')) (hK : ∀ J, MV J u → MV (K J) u ∧ kpM J (K J)) (hr : tyv yC r = true := by exact rfl) : ST yC yM (I, L, PP q) as :=
  st_of V V.2.1 (Ec.x ⟨q, J, rfl, rfl, hJ.1, hJ.2, kpQ.rf q⟩) (fun q' J hJ => (Em q' J hJ).x ⟨K J, rfl, rfl, hK J hJ⟩) hr
theorem RST.cnt {q : Nat → Nat → Nat} {I : Nat → Nat → Int32} {L : Nat → Nat → Int64} (V : RST q I L) {k : Nat} (hk : k < 3) : RST q (hz_up (hz_up I 1 (8 + k) (I 1 (8 + k) + nI 1)) 151 k (I 151 k + nI 1)) L := by
  obtain ⟨v1, v2, v3, ⟨t, v4⟩, v5, v6, v7⟩ := V
  have e : ∀ a, a ≠ 1 → a ≠ 151 → hz_up (hz_up I 1 (8 + k) (I 1 (8 + k) + nI 1)) 151 k (I 151 k + nI 1) a = I a := fun a h1 h2 => by rw [hz_up_ne _ _ _ _ h2, hz_up_ne _ _ _ _ h1]
  refine ⟨v1, v2.cong (fun a h1 h2 => e a (by omega) (by omega)) (e _ (by omega) (by omega)) (e _ (by omega) (by omega)) (e _ (by omega) (by omega)) (fun _ => rfl), v3.cong (fun a h1 h2 => e a (by omega) (by omega)) (e _ (by omega) (by omega)) (e _ (by omega) (by omega)) (e _ (by omega) (by omega)) (fun _ => rfl), ⟨t, v4.cong (by rw [e 2 (by omega) (by omega)]) (by rw [e 146 (by omega) (by omega)]) (e 3 (by omega) (by omega)) (e 152 (by omega) (by omega))⟩, ?_, v6, fun i hi => by rw [e 11 (by omega) (by omega)]; exact v7 i hi⟩
  obtain ⟨a1, a2, a3⟩ := v5
  rcases (show k = 0 ∨ k = 1 ∨ k = 2 by omega) with rfl | rfl | rfl <;> simp [hz_up, va_up, a1, a2, a3]
/-- a call that both refuse: the k-th counter -/
theorem st_ref {q : Nat → Nat → Nat} {I : Nat → Nat → Int32} {L : Nat → Nat → Int64} {u : Nat → Nat} {yC yM : hz_Y} {as : List Value} {r : Value} {k : Nat} (hk : k < 3) (V : INV q I L u)
    (Ec : hz_Ev yC TT NN (I, L, PP q) (.ref 1 :: as) 0 0 (some r) TT NN (hz_up I 1 (8 + k) (I 1 (8 + k) + nI 1), L, PP q))
    (Em : ∀ J, MV J u → hz_Ev yM TT NN (J, L, PP q) (.ref 146 :: as) 0 0 (some r) TT NN (hz_up J 151 k (J 151 k + nI 1), L, PP q)) (hr : tyv yC r = true := by exact rfl) : ST yC yM (I, L, PP q) as := by
  obtain ⟨v1, v2, v3, v4⟩ := V
  refine st_mk (Ec.x ⟨rfl, (Em _ (v3.cong (hz_up_ne _ _ _ _ (by omega)))).x ⟨rfl, q, _, L, u, ⟨?_, v2, ?_, ?_⟩, Or.inl rfl⟩⟩) hr
  · exact v1.cong v2 (fun a h1 h2 => by rw [hz_up_ne _ _ _ _ (by omega), hz_up_ne _ _ _ _ (by omega)]) (fun _ => rfl)
  · exact v3.cong (by rw [hz_up_ne _ _ _ _ (by omega), hz_up_ne _ _ _ _ (by omega)])
  · have h := v4.cnt hk
    rw [show hz_up I 1 (8 + k) (I 1 (8 + k) + nI 1) 151 k = I 151 k by rw [hz_up_ne _ _ _ _ (by omega)]]
    exact h

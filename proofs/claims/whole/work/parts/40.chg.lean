theorem sa_ne (I : Nat → Nat → Int32) (a : Nat) (f : Nat → Int32) {b : Nat} (h : b ≠ a) : hz_sa I a f b = I b := by simp [hz_sa, h]
theorem sa_eq (I : Nat → Nat → Int32) (a : Nat) (f : Nat → Int32) : hz_sa I a f a = f := by simp [hz_sa]
theorem dv_z : dv 0 = -1 := rfl
theorem fw_cong {u u' : Nat → Nat} (h : ∀ j, j < 64 → u' j = u j) : ∀ k, k ≤ 8 → ∀ a b, a < 8 → b < 8 → fwk u' k a b = fwk u k a b := by
  intro k
  induction k with
  | zero =>
    intro _ a b ha hb
    show fw0 u' a b = fw0 u a b
    unfold fw0
    rw [h (8 * a + b) (by omega)]
  | succ k ih =>
    intro hk a b ha hb
    show min _ _ = min _ _
    rw [ih (by omega) a b ha hb, ih (by omega) a k ha (by omega), ih (by omega) k b (by omega) hb]
theorem ds_cong {u u' : Nat → Nat} (h : ∀ j, j < 64 → u' j = u j) {a b : Nat} (ha : a < 8) (hb : b < 8) : ds u' a b = ds u a b := fw_cong h 8 (Nat.le_refl _) a b ha hb
/-- the cells of a Home alone count -/
theorem HV.cong {h : Nat} {q q' : Nat → Nat → Nat} {I J : Nat → Nat → Int32} {u : Nat → Nat} (V : HV h q I u) (U : WU u) (e : ∀ a, h ≤ a → a ≤ h + 32 → J a = I a) (eq : ∀ i, q' (h + 9) i = q (h + 9) i) : HV h q' J u := by
  obtain ⟨v1, v2, v3, v4, v5, v6, v7, v8, v9, v10, v11⟩ := V
  refine ⟨fun j hj => ?_, ?_, fun k hk => ?_, fun k hk => ?_, ?_, fun i hi => ?_, ?_, ?_, fun i hi => ?_, ⟨fun i hi => ?_, fun i j hi hj hij => ?_⟩, ?_⟩
  · rw [e (h + 1) (by omega) (by omega)]; exact v1 j hj
  · rw [e h (by omega) (by omega)]; exact v2
  · rw [e (h + 3) (by omega) (by omega)]; exact v3 k hk
  · rw [e (h + 4) (by omega) (by omega)]; exact v4 k hk
  · rw [e h (by omega) (by omega)]; exact v5
  · rw [e (h + 5) (by omega) (by omega), e (h + 6) (by omega) (by omega)]; exact v6 i hi
  · exact HN_eq v7 (e (h + 7) (by omega) (by omega)) (e (h + 7 + 1) (by omega) (by omega))
  · rw [e h (by omega) (by omega)]; exact v8
  · obtain ⟨j, hj, ej⟩ := v10.1 i (Nat.lt_of_lt_of_le hi (wu_un U))
    rw [eq i]
    exact HN_eq (v9 i hi) (e _ (by omega) (by omega)) (e _ (by omega) (by omega))
  · rw [eq i]; exact v10.1 i hi
  · rw [eq i, eq j] at hij; exact v10.2 i j hi hj hij
  · rw [e h (by omega) (by omega), e (h + 2) (by omega) (by omega)]; exact v11
theorem HP.cong {h : Nat} {q q' : Nat → Nat → Nat} (V : HP h q) (eq : ∀ i, q' (h + 9) i = q (h + 9) i) : HP h q' := by
  refine ⟨fun i hi => ?_, fun i j hi hj hij => ?_⟩
  · rw [eq i]; exact V.1 i hi
  · rw [eq i, eq j] at hij; exact V.2 i j hi hj hij
theorem mv_c {u u' : Nat → Nat} {j : Nat} (h : u' j = u j) : mv u' j = mv u j := by unfold mv; rw [h]
theorem MV.cong {I J : Nat → Nat → Int32} {u : Nat → Nat} (V : MV I u) (e : J 147 = I 147) : MV J u := fun j hj => by rw [e]; exact V j hj
theorem mv_up {I : Nat → Nat → Int32} {u : Nat → Nat} (V : MV I u) {k x : Nat} (h : k < 79 ∨ 89 < k) : MV (hz_up I 147 k (nI x)) (va_up u k x) := by
  intro j hj
  by_cases e : j = k
  · subst e; rw [hz_up_self, mv_n h, va_up_self]
  · rw [hz_up_nk _ _ _ _ e, V j hj, mv_c (va_up_ne u x e)]
theorem mv_upT {I : Nat → Nat → Int32} {u : Nat → Nat} (V : MV I u) {i x : Nat} (h : i < 6) : MV (hz_up I 147 (79 + 2 * i) (nI x - 1)) (va_up u (79 + 2 * i) x) := by
  intro j hj
  by_cases e : j = 79 + 2 * i
  · subst e; rw [hz_up_self, mv_t h, va_up_self]
  · rw [hz_up_nk _ _ _ _ e, V j hj, mv_c (va_up_ne u x e)]
theorem hv_door {q : Nat → Nat → Nat} {I : Nat → Nat → Int32} {u : Nat → Nat} (V : HV 12 q I u) (U : WU u) {a b l : Nat} (ha : a < 8) (hb : b < 8) (hl : 0 < l) : HV 12 q (hz_up (hz_up (hz_up I 13 ((a * 8) + b) (nI l)) 13 ((b * 8) + a) (nI l)) 12 9 (nI 0)) (va_up (va_up u (8 * a + b) l) (8 * b + a) l) := by
  obtain ⟨v1, v2, v3, v4, v5, v6, v7, v8, v9, v10, v11⟩ := V
  have hal := wu_al U
  have hun := wu_un U
  have hnt := wu_nt U
  simp only [Nat.reduceAdd] at v1 v3 v4 v6 v7 v8 v9 v11
  rw [show a * 8 + b = 8 * a + b by omega, show b * 8 + a = 8 * b + a by omega]
  refine ⟨fun j h => ?_, ?_, fun k h => ?_, fun k h => ?_, ?_, fun i h => ?_, ?_, ?_, fun i h => ?_, ?_, ?_⟩
  · by_cases e1 : j = 8 * b + a
    · subst e1; simp (disch := omega) only [Nat.reduceAdd, hz_up_ne, hz_up_eq, sa_ne, sa_eq, va_up_ne, va_up_self, mcp_o]; exact (dv_nz (by omega)).symm
    · by_cases e2 : j = 8 * a + b
      · subst e2; simp (disch := omega) only [Nat.reduceAdd, hz_up_ne, hz_up_eq, sa_ne, sa_eq, va_up_ne, va_up_self, mcp_o]; exact (dv_nz (by omega)).symm
      · simp (disch := omega) only [Nat.reduceAdd, hz_up_ne, hz_up_eq, sa_ne, sa_eq, va_up_ne, va_up_self, mcp_o]; exact v1 j h
  · simp (disch := omega) only [Nat.reduceAdd, hz_up_ne, hz_up_eq, sa_ne, sa_eq, va_up_ne, va_up_self, mcp_o]
    exact v2
  · (try simp (disch := omega) only [Nat.reduceAdd, hz_up_ne, hz_up_eq, sa_ne, sa_eq, va_up_ne, va_up_self, mcp_o] at h)
    simp (disch := omega) only [Nat.reduceAdd, hz_up_ne, hz_up_eq, sa_ne, sa_eq, va_up_ne, va_up_self, mcp_o]
    exact v3 k h
  · (try simp (disch := omega) only [Nat.reduceAdd, hz_up_ne, hz_up_eq, sa_ne, sa_eq, va_up_ne, va_up_self, mcp_o] at h)
    simp (disch := omega) only [Nat.reduceAdd, hz_up_ne, hz_up_eq, sa_ne, sa_eq, va_up_ne, va_up_self, mcp_o]
    exact v4 k h
  · simp (disch := omega) only [Nat.reduceAdd, hz_up_ne, hz_up_eq, sa_ne, sa_eq, va_up_ne, va_up_self, mcp_o]
    exact v5
  · (try simp (disch := omega) only [Nat.reduceAdd, hz_up_ne, hz_up_eq, sa_ne, sa_eq, va_up_ne, va_up_self, mcp_o] at h)
    simp (disch := omega) only [Nat.reduceAdd, hz_up_ne, hz_up_eq, sa_ne, sa_eq, va_up_ne, va_up_self, mcp_o]
    exact v6 i h
  · unfold HN at v7 ⊢
    simp (disch := omega) only [Nat.reduceAdd, hz_up_ne, hz_up_eq, sa_ne, sa_eq, va_up_ne, va_up_self, mcp_o]
    exact v7
  · simp (disch := omega) only [Nat.reduceAdd, hz_up_ne, hz_up_eq, sa_ne, sa_eq, va_up_ne, va_up_self, mcp_o]
    exact v8
  · (try simp (disch := omega) only [Nat.reduceAdd, hz_up_ne, hz_up_eq, sa_ne, sa_eq, va_up_ne, va_up_self, mcp_o] at h)
    obtain ⟨-, hq1, hq2⟩ := mq_12 v10 (i := i) (by omega)
    have h9 := v9 i h
    unfold HN at h9 ⊢
    simp (disch := omega) only [Nat.reduceAdd, hz_up_ne, hz_up_eq, sa_ne, sa_eq, va_up_ne, va_up_self, mcp_o]
    exact h9
  · exact v10
  · exact Or.inl (by simp (disch := omega) only [Nat.reduceAdd, hz_up_ne, hz_up_eq, sa_ne, sa_eq, va_up_ne, va_up_self, mcp_o]; exact nI_0)
theorem hv_alarm {q : Nat → Nat → Nat} {I : Nat → Nat → Int32} {u : Nat → Nat} (V : HV 12 q I u) (U : WU u) (h6 : u 64 < 6) (kd rm ba : Nat) : HV 12 q (hz_up (hz_up (hz_up (hz_up (hz_up I 15 (u 64) (nI kd)) 16 (u 64) (nI rm)) 20 (u 64) (nI ba)) 12 10 (nI (u 64 + 1))) 12 12 (nI 0)) (va_up (va_up (va_up (va_up (va_up u (65 + u 64) kd) (71 + u 64) rm) (94 + u 64) ba) 64 (u 64 + 1)) 100 0) := by
  obtain ⟨v1, v2, v3, v4, v5, v6, v7, v8, v9, v10, v11⟩ := V
  have hal := wu_al U
  have hun := wu_un U
  have hnt := wu_nt U
  simp only [Nat.reduceAdd] at v1 v3 v4 v6 v7 v8 v9 v11
  refine ⟨fun j h => ?_, ?_, fun k h => ?_, fun k h => ?_, ?_, fun i h => ?_, ?_, ?_, fun i h => ?_, ?_, ?_⟩
  · simp (disch := omega) only [Nat.reduceAdd, hz_up_ne, hz_up_eq, sa_ne, sa_eq, va_up_ne, va_up_self, mcp_o]
    exact v1 j h
  · simp (disch := omega) only [Nat.reduceAdd, hz_up_ne, hz_up_eq, sa_ne, sa_eq, va_up_ne, va_up_self, mcp_o]
  · simp (disch := omega) only [Nat.reduceAdd, hz_up_ne, hz_up_eq, sa_ne, sa_eq, va_up_ne, va_up_self, mcp_o] at h
    by_cases e : k = u 64
    · subst e; simp (disch := omega) only [Nat.reduceAdd, hz_up_ne, hz_up_eq, sa_ne, sa_eq, va_up_ne, va_up_self, mcp_o]
    · simp (disch := omega) only [Nat.reduceAdd, hz_up_ne, hz_up_eq, sa_ne, sa_eq, va_up_ne, va_up_self, mcp_o]; exact v3 k (by omega)
  · simp (disch := omega) only [Nat.reduceAdd, hz_up_ne, hz_up_eq, sa_ne, sa_eq, va_up_ne, va_up_self, mcp_o] at h
    by_cases e : k = u 64
    · subst e; simp (disch := omega) only [Nat.reduceAdd, hz_up_ne, hz_up_eq, sa_ne, sa_eq, va_up_ne, va_up_self, mcp_o]
    · simp (disch := omega) only [Nat.reduceAdd, hz_up_ne, hz_up_eq, sa_ne, sa_eq, va_up_ne, va_up_self, mcp_o]; exact v4 k (by omega)
  · simp (disch := omega) only [Nat.reduceAdd, hz_up_ne, hz_up_eq, sa_ne, sa_eq, va_up_ne, va_up_self, mcp_o]
    exact v5
  · (try simp (disch := omega) only [Nat.reduceAdd, hz_up_ne, hz_up_eq, sa_ne, sa_eq, va_up_ne, va_up_self, mcp_o] at h)
    simp (disch := omega) only [Nat.reduceAdd, hz_up_ne, hz_up_eq, sa_ne, sa_eq, va_up_ne, va_up_self, mcp_o]
    exact v6 i h
  · obtain ⟨n1, n2, n3, n4, n5⟩ := v7
    refine ⟨by simp (disch := omega) only [Nat.reduceAdd, hz_up_ne, hz_up_eq, sa_ne, sa_eq, va_up_ne, va_up_self, mcp_o]; exact n1, by simp (disch := omega) only [Nat.reduceAdd, hz_up_ne, hz_up_eq, sa_ne, sa_eq, va_up_ne, va_up_self, mcp_o]; exact n2, by simp (disch := omega) only [Nat.reduceAdd, hz_up_ne, hz_up_eq, sa_ne, sa_eq, va_up_ne, va_up_self, mcp_o]; exact n3, by simp (disch := omega) only [Nat.reduceAdd, hz_up_ne, hz_up_eq, sa_ne, sa_eq, va_up_ne, va_up_self, mcp_o]; exact n4, fun k hk => ?_⟩
    simp (disch := omega) only [Nat.reduceAdd, hz_up_ne, hz_up_eq, sa_ne, sa_eq, va_up_ne, va_up_self, mcp_o] at hk
    by_cases e : k = u 64
    · subst e; simp (disch := omega) only [Nat.reduceAdd, hz_up_ne, hz_up_eq, sa_ne, sa_eq, va_up_ne, va_up_self, mcp_o]
    · simp (disch := omega) only [Nat.reduceAdd, hz_up_ne, hz_up_eq, sa_ne, sa_eq, va_up_ne, va_up_self, mcp_o]; exact n5 k (by omega)
  · simp (disch := omega) only [Nat.reduceAdd, hz_up_ne, hz_up_eq, sa_ne, sa_eq, va_up_ne, va_up_self, mcp_o]
  · simp (disch := omega) only [Nat.reduceAdd, hz_up_ne, hz_up_eq, sa_ne, sa_eq, va_up_ne, va_up_self, mcp_o] at h
    omega
  · exact v10
  · simp (disch := omega) only [Nat.reduceAdd, hz_up_ne, hz_up_eq, sa_ne, sa_eq, va_up_ne, va_up_self, mcp_o]
    rcases v11 with h | ⟨h, g⟩
    · exact Or.inl h
    · exact Or.inr ⟨h, fun a b ha hb => (g a b ha hb).trans (congrArg nI (ds_cong (u := u) (fun j hj => by simp (disch := omega) only [Nat.reduceAdd, hz_up_ne, hz_up_eq, sa_ne, sa_eq, va_up_ne, va_up_self, mcp_o]) ha hb).symm)⟩
theorem hv_sec {q : Nat → Nat → Nat} {I : Nat → Nat → Int32} {u : Nat → Nat} (V : HV 12 q I u) (U : WU u) (x : Nat) : HV 12 q (hz_up I 19 1 (nI x)) (va_up u 90 x) := by
  obtain ⟨v1, v2, v3, v4, v5, v6, v7, v8, v9, v10, v11⟩ := V
  have hal := wu_al U
  have hun := wu_un U
  have hnt := wu_nt U
  simp only [Nat.reduceAdd] at v1 v3 v4 v6 v7 v8 v9 v11
  refine ⟨fun j h => ?_, ?_, fun k h => ?_, fun k h => ?_, ?_, fun i h => ?_, ?_, ?_, fun i h => ?_, ?_, ?_⟩
  · simp (disch := omega) only [Nat.reduceAdd, hz_up_ne, hz_up_eq, sa_ne, sa_eq, va_up_ne, va_up_self, mcp_o]
    exact v1 j h
  · simp (disch := omega) only [Nat.reduceAdd, hz_up_ne, hz_up_eq, sa_ne, sa_eq, va_up_ne, va_up_self, mcp_o]
    exact v2
  · (try simp (disch := omega) only [Nat.reduceAdd, hz_up_ne, hz_up_eq, sa_ne, sa_eq, va_up_ne, va_up_self, mcp_o] at h)
    simp (disch := omega) only [Nat.reduceAdd, hz_up_ne, hz_up_eq, sa_ne, sa_eq, va_up_ne, va_up_self, mcp_o]
    exact v3 k h
  · (try simp (disch := omega) only [Nat.reduceAdd, hz_up_ne, hz_up_eq, sa_ne, sa_eq, va_up_ne, va_up_self, mcp_o] at h)
    simp (disch := omega) only [Nat.reduceAdd, hz_up_ne, hz_up_eq, sa_ne, sa_eq, va_up_ne, va_up_self, mcp_o]
    exact v4 k h
  · simp (disch := omega) only [Nat.reduceAdd, hz_up_ne, hz_up_eq, sa_ne, sa_eq, va_up_ne, va_up_self, mcp_o]
    exact v5
  · (try simp (disch := omega) only [Nat.reduceAdd, hz_up_ne, hz_up_eq, sa_ne, sa_eq, va_up_ne, va_up_self, mcp_o] at h)
    simp (disch := omega) only [Nat.reduceAdd, hz_up_ne, hz_up_eq, sa_ne, sa_eq, va_up_ne, va_up_self, mcp_o]
    exact v6 i h
  · obtain ⟨n1, n2, n3, n4, n5⟩ := v7
    refine ⟨by simp (disch := omega) only [Nat.reduceAdd, hz_up_ne, hz_up_eq, sa_ne, sa_eq, va_up_ne, va_up_self, mcp_o], by simp (disch := omega) only [Nat.reduceAdd, hz_up_ne, hz_up_eq, sa_ne, sa_eq, va_up_ne, va_up_self, mcp_o]; exact n2, by simp (disch := omega) only [Nat.reduceAdd, hz_up_ne, hz_up_eq, sa_ne, sa_eq, va_up_ne, va_up_self, mcp_o]; exact n3, by simp (disch := omega) only [Nat.reduceAdd, hz_up_ne, hz_up_eq, sa_ne, sa_eq, va_up_ne, va_up_self, mcp_o]; exact n4, fun k hk => ?_⟩
    (try simp (disch := omega) only [Nat.reduceAdd, hz_up_ne, hz_up_eq, sa_ne, sa_eq, va_up_ne, va_up_self, mcp_o] at hk)
    simp (disch := omega) only [Nat.reduceAdd, hz_up_ne, hz_up_eq, sa_ne, sa_eq, va_up_ne, va_up_self, mcp_o]
    exact n5 k hk
  · simp (disch := omega) only [Nat.reduceAdd, hz_up_ne, hz_up_eq, sa_ne, sa_eq, va_up_ne, va_up_self, mcp_o]
    exact v8
  · (try simp (disch := omega) only [Nat.reduceAdd, hz_up_ne, hz_up_eq, sa_ne, sa_eq, va_up_ne, va_up_self, mcp_o] at h)
    obtain ⟨-, hq1, hq2⟩ := mq_12 v10 (i := i) (by omega)
    have h9 := v9 i h
    unfold HN at h9 ⊢
    simp (disch := omega) only [Nat.reduceAdd, hz_up_ne, hz_up_eq, sa_ne, sa_eq, va_up_ne, va_up_self, mcp_o]
    exact h9
  · exact v10
  · simp (disch := omega) only [Nat.reduceAdd, hz_up_ne, hz_up_eq, sa_ne, sa_eq, va_up_ne, va_up_self, mcp_o]
    rcases v11 with h | ⟨h, g⟩
    · exact Or.inl h
    · exact Or.inr ⟨h, fun a b ha hb => (g a b ha hb).trans (congrArg nI (ds_cong (u := u) (fun j hj => by simp (disch := omega) only [Nat.reduceAdd, hz_up_ne, hz_up_eq, sa_ne, sa_eq, va_up_ne, va_up_self, mcp_o]) ha hb).symm)⟩
theorem hv_plc {q : Nat → Nat → Nat} {I : Nat → Nat → Int32} {u : Nat → Nat} (V : HV 12 q I u) (U : WU u) (x : Nat) : HV 12 q (hz_up I 19 2 (nI x)) (va_up u 91 x) := by
  obtain ⟨v1, v2, v3, v4, v5, v6, v7, v8, v9, v10, v11⟩ := V
  have hal := wu_al U
  have hun := wu_un U
  have hnt := wu_nt U
  simp only [Nat.reduceAdd] at v1 v3 v4 v6 v7 v8 v9 v11
  refine ⟨fun j h => ?_, ?_, fun k h => ?_, fun k h => ?_, ?_, fun i h => ?_, ?_, ?_, fun i h => ?_, ?_, ?_⟩
  · simp (disch := omega) only [Nat.reduceAdd, hz_up_ne, hz_up_eq, sa_ne, sa_eq, va_up_ne, va_up_self, mcp_o]
    exact v1 j h
  · simp (disch := omega) only [Nat.reduceAdd, hz_up_ne, hz_up_eq, sa_ne, sa_eq, va_up_ne, va_up_self, mcp_o]
    exact v2
  · (try simp (disch := omega) only [Nat.reduceAdd, hz_up_ne, hz_up_eq, sa_ne, sa_eq, va_up_ne, va_up_self, mcp_o] at h)
    simp (disch := omega) only [Nat.reduceAdd, hz_up_ne, hz_up_eq, sa_ne, sa_eq, va_up_ne, va_up_self, mcp_o]
    exact v3 k h
  · (try simp (disch := omega) only [Nat.reduceAdd, hz_up_ne, hz_up_eq, sa_ne, sa_eq, va_up_ne, va_up_self, mcp_o] at h)
    simp (disch := omega) only [Nat.reduceAdd, hz_up_ne, hz_up_eq, sa_ne, sa_eq, va_up_ne, va_up_self, mcp_o]
    exact v4 k h
  · simp (disch := omega) only [Nat.reduceAdd, hz_up_ne, hz_up_eq, sa_ne, sa_eq, va_up_ne, va_up_self, mcp_o]
    exact v5
  · (try simp (disch := omega) only [Nat.reduceAdd, hz_up_ne, hz_up_eq, sa_ne, sa_eq, va_up_ne, va_up_self, mcp_o] at h)
    simp (disch := omega) only [Nat.reduceAdd, hz_up_ne, hz_up_eq, sa_ne, sa_eq, va_up_ne, va_up_self, mcp_o]
    exact v6 i h
  · obtain ⟨n1, n2, n3, n4, n5⟩ := v7
    refine ⟨by simp (disch := omega) only [Nat.reduceAdd, hz_up_ne, hz_up_eq, sa_ne, sa_eq, va_up_ne, va_up_self, mcp_o]; exact n1, by simp (disch := omega) only [Nat.reduceAdd, hz_up_ne, hz_up_eq, sa_ne, sa_eq, va_up_ne, va_up_self, mcp_o], by simp (disch := omega) only [Nat.reduceAdd, hz_up_ne, hz_up_eq, sa_ne, sa_eq, va_up_ne, va_up_self, mcp_o]; exact n3, by simp (disch := omega) only [Nat.reduceAdd, hz_up_ne, hz_up_eq, sa_ne, sa_eq, va_up_ne, va_up_self, mcp_o]; exact n4, fun k hk => ?_⟩
    (try simp (disch := omega) only [Nat.reduceAdd, hz_up_ne, hz_up_eq, sa_ne, sa_eq, va_up_ne, va_up_self, mcp_o] at hk)
    simp (disch := omega) only [Nat.reduceAdd, hz_up_ne, hz_up_eq, sa_ne, sa_eq, va_up_ne, va_up_self, mcp_o]
    exact n5 k hk
  · simp (disch := omega) only [Nat.reduceAdd, hz_up_ne, hz_up_eq, sa_ne, sa_eq, va_up_ne, va_up_self, mcp_o]
    exact v8
  · (try simp (disch := omega) only [Nat.reduceAdd, hz_up_ne, hz_up_eq, sa_ne, sa_eq, va_up_ne, va_up_self, mcp_o] at h)
    obtain ⟨-, hq1, hq2⟩ := mq_12 v10 (i := i) (by omega)
    have h9 := v9 i h
    unfold HN at h9 ⊢
    simp (disch := omega) only [Nat.reduceAdd, hz_up_ne, hz_up_eq, sa_ne, sa_eq, va_up_ne, va_up_self, mcp_o]
    exact h9
  · exact v10
  · simp (disch := omega) only [Nat.reduceAdd, hz_up_ne, hz_up_eq, sa_ne, sa_eq, va_up_ne, va_up_self, mcp_o]
    rcases v11 with h | ⟨h, g⟩
    · exact Or.inl h
    · exact Or.inr ⟨h, fun a b ha hb => (g a b ha hb).trans (congrArg nI (ds_cong (u := u) (fun j hj => by simp (disch := omega) only [Nat.reduceAdd, hz_up_ne, hz_up_eq, sa_ne, sa_eq, va_up_ne, va_up_self, mcp_o]) ha hb).symm)⟩
theorem hv_cold {q : Nat → Nat → Nat} {I : Nat → Nat → Int32} {u : Nat → Nat} (V : HV 12 q I u) (U : WU u) (x : Nat) : HV 12 q (hz_up I 19 3 (nI x)) (va_up u 92 x) := by
  obtain ⟨v1, v2, v3, v4, v5, v6, v7, v8, v9, v10, v11⟩ := V
  have hal := wu_al U
  have hun := wu_un U
  have hnt := wu_nt U
  simp only [Nat.reduceAdd] at v1 v3 v4 v6 v7 v8 v9 v11
  refine ⟨fun j h => ?_, ?_, fun k h => ?_, fun k h => ?_, ?_, fun i h => ?_, ?_, ?_, fun i h => ?_, ?_, ?_⟩
  · simp (disch := omega) only [Nat.reduceAdd, hz_up_ne, hz_up_eq, sa_ne, sa_eq, va_up_ne, va_up_self, mcp_o]
    exact v1 j h
  · simp (disch := omega) only [Nat.reduceAdd, hz_up_ne, hz_up_eq, sa_ne, sa_eq, va_up_ne, va_up_self, mcp_o]
    exact v2
  · (try simp (disch := omega) only [Nat.reduceAdd, hz_up_ne, hz_up_eq, sa_ne, sa_eq, va_up_ne, va_up_self, mcp_o] at h)
    simp (disch := omega) only [Nat.reduceAdd, hz_up_ne, hz_up_eq, sa_ne, sa_eq, va_up_ne, va_up_self, mcp_o]
    exact v3 k h
  · (try simp (disch := omega) only [Nat.reduceAdd, hz_up_ne, hz_up_eq, sa_ne, sa_eq, va_up_ne, va_up_self, mcp_o] at h)
    simp (disch := omega) only [Nat.reduceAdd, hz_up_ne, hz_up_eq, sa_ne, sa_eq, va_up_ne, va_up_self, mcp_o]
    exact v4 k h
  · simp (disch := omega) only [Nat.reduceAdd, hz_up_ne, hz_up_eq, sa_ne, sa_eq, va_up_ne, va_up_self, mcp_o]
    exact v5
  · (try simp (disch := omega) only [Nat.reduceAdd, hz_up_ne, hz_up_eq, sa_ne, sa_eq, va_up_ne, va_up_self, mcp_o] at h)
    simp (disch := omega) only [Nat.reduceAdd, hz_up_ne, hz_up_eq, sa_ne, sa_eq, va_up_ne, va_up_self, mcp_o]
    exact v6 i h
  · obtain ⟨n1, n2, n3, n4, n5⟩ := v7
    refine ⟨by simp (disch := omega) only [Nat.reduceAdd, hz_up_ne, hz_up_eq, sa_ne, sa_eq, va_up_ne, va_up_self, mcp_o]; exact n1, by simp (disch := omega) only [Nat.reduceAdd, hz_up_ne, hz_up_eq, sa_ne, sa_eq, va_up_ne, va_up_self, mcp_o]; exact n2, by simp (disch := omega) only [Nat.reduceAdd, hz_up_ne, hz_up_eq, sa_ne, sa_eq, va_up_ne, va_up_self, mcp_o], by simp (disch := omega) only [Nat.reduceAdd, hz_up_ne, hz_up_eq, sa_ne, sa_eq, va_up_ne, va_up_self, mcp_o]; exact n4, fun k hk => ?_⟩
    (try simp (disch := omega) only [Nat.reduceAdd, hz_up_ne, hz_up_eq, sa_ne, sa_eq, va_up_ne, va_up_self, mcp_o] at hk)
    simp (disch := omega) only [Nat.reduceAdd, hz_up_ne, hz_up_eq, sa_ne, sa_eq, va_up_ne, va_up_self, mcp_o]
    exact n5 k hk
  · simp (disch := omega) only [Nat.reduceAdd, hz_up_ne, hz_up_eq, sa_ne, sa_eq, va_up_ne, va_up_self, mcp_o]
    exact v8
  · (try simp (disch := omega) only [Nat.reduceAdd, hz_up_ne, hz_up_eq, sa_ne, sa_eq, va_up_ne, va_up_self, mcp_o] at h)
    obtain ⟨-, hq1, hq2⟩ := mq_12 v10 (i := i) (by omega)
    have h9 := v9 i h
    unfold HN at h9 ⊢
    simp (disch := omega) only [Nat.reduceAdd, hz_up_ne, hz_up_eq, sa_ne, sa_eq, va_up_ne, va_up_self, mcp_o]
    exact h9
  · exact v10
  · simp (disch := omega) only [Nat.reduceAdd, hz_up_ne, hz_up_eq, sa_ne, sa_eq, va_up_ne, va_up_self, mcp_o]
    rcases v11 with h | ⟨h, g⟩
    · exact Or.inl h
    · exact Or.inr ⟨h, fun a b ha hb => (g a b ha hb).trans (congrArg nI (ds_cong (u := u) (fun j hj => by simp (disch := omega) only [Nat.reduceAdd, hz_up_ne, hz_up_eq, sa_ne, sa_eq, va_up_ne, va_up_self, mcp_o]) ha hb).symm)⟩
theorem hv_down {q : Nat → Nat → Nat} {I : Nat → Nat → Int32} {u : Nat → Nat} (V : HV 12 q I u) (U : WU u) (x : Nat) : HV 12 q (hz_up I 19 4 (nI x)) (va_up u 93 x) := by
  obtain ⟨v1, v2, v3, v4, v5, v6, v7, v8, v9, v10, v11⟩ := V
  have hal := wu_al U
  have hun := wu_un U
  have hnt := wu_nt U
  simp only [Nat.reduceAdd] at v1 v3 v4 v6 v7 v8 v9 v11
  refine ⟨fun j h => ?_, ?_, fun k h => ?_, fun k h => ?_, ?_, fun i h => ?_, ?_, ?_, fun i h => ?_, ?_, ?_⟩
  · simp (disch := omega) only [Nat.reduceAdd, hz_up_ne, hz_up_eq, sa_ne, sa_eq, va_up_ne, va_up_self, mcp_o]
    exact v1 j h
  · simp (disch := omega) only [Nat.reduceAdd, hz_up_ne, hz_up_eq, sa_ne, sa_eq, va_up_ne, va_up_self, mcp_o]
    exact v2
  · (try simp (disch := omega) only [Nat.reduceAdd, hz_up_ne, hz_up_eq, sa_ne, sa_eq, va_up_ne, va_up_self, mcp_o] at h)
    simp (disch := omega) only [Nat.reduceAdd, hz_up_ne, hz_up_eq, sa_ne, sa_eq, va_up_ne, va_up_self, mcp_o]
    exact v3 k h
  · (try simp (disch := omega) only [Nat.reduceAdd, hz_up_ne, hz_up_eq, sa_ne, sa_eq, va_up_ne, va_up_self, mcp_o] at h)
    simp (disch := omega) only [Nat.reduceAdd, hz_up_ne, hz_up_eq, sa_ne, sa_eq, va_up_ne, va_up_self, mcp_o]
    exact v4 k h
  · simp (disch := omega) only [Nat.reduceAdd, hz_up_ne, hz_up_eq, sa_ne, sa_eq, va_up_ne, va_up_self, mcp_o]
    exact v5
  · (try simp (disch := omega) only [Nat.reduceAdd, hz_up_ne, hz_up_eq, sa_ne, sa_eq, va_up_ne, va_up_self, mcp_o] at h)
    simp (disch := omega) only [Nat.reduceAdd, hz_up_ne, hz_up_eq, sa_ne, sa_eq, va_up_ne, va_up_self, mcp_o]
    exact v6 i h
  · obtain ⟨n1, n2, n3, n4, n5⟩ := v7
    refine ⟨by simp (disch := omega) only [Nat.reduceAdd, hz_up_ne, hz_up_eq, sa_ne, sa_eq, va_up_ne, va_up_self, mcp_o]; exact n1, by simp (disch := omega) only [Nat.reduceAdd, hz_up_ne, hz_up_eq, sa_ne, sa_eq, va_up_ne, va_up_self, mcp_o]; exact n2, by simp (disch := omega) only [Nat.reduceAdd, hz_up_ne, hz_up_eq, sa_ne, sa_eq, va_up_ne, va_up_self, mcp_o]; exact n3, by simp (disch := omega) only [Nat.reduceAdd, hz_up_ne, hz_up_eq, sa_ne, sa_eq, va_up_ne, va_up_self, mcp_o], fun k hk => ?_⟩
    (try simp (disch := omega) only [Nat.reduceAdd, hz_up_ne, hz_up_eq, sa_ne, sa_eq, va_up_ne, va_up_self, mcp_o] at hk)
    simp (disch := omega) only [Nat.reduceAdd, hz_up_ne, hz_up_eq, sa_ne, sa_eq, va_up_ne, va_up_self, mcp_o]
    exact n5 k hk
  · simp (disch := omega) only [Nat.reduceAdd, hz_up_ne, hz_up_eq, sa_ne, sa_eq, va_up_ne, va_up_self, mcp_o]
    exact v8
  · (try simp (disch := omega) only [Nat.reduceAdd, hz_up_ne, hz_up_eq, sa_ne, sa_eq, va_up_ne, va_up_self, mcp_o] at h)
    obtain ⟨-, hq1, hq2⟩ := mq_12 v10 (i := i) (by omega)
    have h9 := v9 i h
    unfold HN at h9 ⊢
    simp (disch := omega) only [Nat.reduceAdd, hz_up_ne, hz_up_eq, sa_ne, sa_eq, va_up_ne, va_up_self, mcp_o]
    exact h9
  · exact v10
  · simp (disch := omega) only [Nat.reduceAdd, hz_up_ne, hz_up_eq, sa_ne, sa_eq, va_up_ne, va_up_self, mcp_o]
    rcases v11 with h | ⟨h, g⟩
    · exact Or.inl h
    · exact Or.inr ⟨h, fun a b ha hb => (g a b ha hb).trans (congrArg nI (ds_cong (u := u) (fun j hj => by simp (disch := omega) only [Nat.reduceAdd, hz_up_ne, hz_up_eq, sa_ne, sa_eq, va_up_ne, va_up_self, mcp_o]) ha hb).symm)⟩
theorem hv_bat {q : Nat → Nat → Nat} {I : Nat → Nat → Int32} {u : Nat → Nat} (V : HV 12 q I u) (U : WU u) {k0 : Nat} (hk0 : k0 < u 64) (x : Nat) : HV 12 q (hz_up I 20 k0 (nI x)) (va_up u (94 + k0) x) := by
  obtain ⟨v1, v2, v3, v4, v5, v6, v7, v8, v9, v10, v11⟩ := V
  have hal := wu_al U
  have hun := wu_un U
  have hnt := wu_nt U
  simp only [Nat.reduceAdd] at v1 v3 v4 v6 v7 v8 v9 v11
  refine ⟨fun j h => ?_, ?_, fun k h => ?_, fun k h => ?_, ?_, fun i h => ?_, ?_, ?_, fun i h => ?_, ?_, ?_⟩
  · simp (disch := omega) only [Nat.reduceAdd, hz_up_ne, hz_up_eq, sa_ne, sa_eq, va_up_ne, va_up_self, mcp_o]
    exact v1 j h
  · simp (disch := omega) only [Nat.reduceAdd, hz_up_ne, hz_up_eq, sa_ne, sa_eq, va_up_ne, va_up_self, mcp_o]
    exact v2
  · (try simp (disch := omega) only [Nat.reduceAdd, hz_up_ne, hz_up_eq, sa_ne, sa_eq, va_up_ne, va_up_self, mcp_o] at h)
    simp (disch := omega) only [Nat.reduceAdd, hz_up_ne, hz_up_eq, sa_ne, sa_eq, va_up_ne, va_up_self, mcp_o]
    exact v3 k h
  · (try simp (disch := omega) only [Nat.reduceAdd, hz_up_ne, hz_up_eq, sa_ne, sa_eq, va_up_ne, va_up_self, mcp_o] at h)
    simp (disch := omega) only [Nat.reduceAdd, hz_up_ne, hz_up_eq, sa_ne, sa_eq, va_up_ne, va_up_self, mcp_o]
    exact v4 k h
  · simp (disch := omega) only [Nat.reduceAdd, hz_up_ne, hz_up_eq, sa_ne, sa_eq, va_up_ne, va_up_self, mcp_o]
    exact v5
  · (try simp (disch := omega) only [Nat.reduceAdd, hz_up_ne, hz_up_eq, sa_ne, sa_eq, va_up_ne, va_up_self, mcp_o] at h)
    simp (disch := omega) only [Nat.reduceAdd, hz_up_ne, hz_up_eq, sa_ne, sa_eq, va_up_ne, va_up_self, mcp_o]
    exact v6 i h
  · obtain ⟨n1, n2, n3, n4, n5⟩ := v7
    refine ⟨by simp (disch := omega) only [Nat.reduceAdd, hz_up_ne, hz_up_eq, sa_ne, sa_eq, va_up_ne, va_up_self, mcp_o]; exact n1, by simp (disch := omega) only [Nat.reduceAdd, hz_up_ne, hz_up_eq, sa_ne, sa_eq, va_up_ne, va_up_self, mcp_o]; exact n2, by simp (disch := omega) only [Nat.reduceAdd, hz_up_ne, hz_up_eq, sa_ne, sa_eq, va_up_ne, va_up_self, mcp_o]; exact n3, by simp (disch := omega) only [Nat.reduceAdd, hz_up_ne, hz_up_eq, sa_ne, sa_eq, va_up_ne, va_up_self, mcp_o]; exact n4, fun k hk => ?_⟩
    (try simp (disch := omega) only [Nat.reduceAdd, hz_up_ne, hz_up_eq, sa_ne, sa_eq, va_up_ne, va_up_self, mcp_o] at hk)
    by_cases e : k = k0
    · subst e; simp (disch := omega) only [Nat.reduceAdd, hz_up_ne, hz_up_eq, sa_ne, sa_eq, va_up_ne, va_up_self, mcp_o]
    · simp (disch := omega) only [Nat.reduceAdd, hz_up_ne, hz_up_eq, sa_ne, sa_eq, va_up_ne, va_up_self, mcp_o]; exact n5 k hk
  · simp (disch := omega) only [Nat.reduceAdd, hz_up_ne, hz_up_eq, sa_ne, sa_eq, va_up_ne, va_up_self, mcp_o]
    exact v8
  · (try simp (disch := omega) only [Nat.reduceAdd, hz_up_ne, hz_up_eq, sa_ne, sa_eq, va_up_ne, va_up_self, mcp_o] at h)
    obtain ⟨-, hq1, hq2⟩ := mq_12 v10 (i := i) (by omega)
    have h9 := v9 i h
    unfold HN at h9 ⊢
    simp (disch := omega) only [Nat.reduceAdd, hz_up_ne, hz_up_eq, sa_ne, sa_eq, va_up_ne, va_up_self, mcp_o]
    exact h9
  · exact v10
  · simp (disch := omega) only [Nat.reduceAdd, hz_up_ne, hz_up_eq, sa_ne, sa_eq, va_up_ne, va_up_self, mcp_o]
    rcases v11 with h | ⟨h, g⟩
    · exact Or.inl h
    · exact Or.inr ⟨h, fun a b ha hb => (g a b ha hb).trans (congrArg nI (ds_cong (u := u) (fun j hj => by simp (disch := omega) only [Nat.reduceAdd, hz_up_ne, hz_up_eq, sa_ne, sa_eq, va_up_ne, va_up_self, mcp_o]) ha hb).symm)⟩
theorem hv_note {q : Nat → Nat → Nat} {I : Nat → Nat → Int32} {u : Nat → Nat} (V : HV 12 q I u) (U : WU u) (h6 : u 77 < 6) (r t : Nat) : HV 12 q (hz_up (hz_up (hz_up I 17 (u 77) (nI r)) 18 (u 77) (nI t - 1)) 12 11 (nI (u 77 + 1))) (va_up (va_up (va_up u (78 + 2 * u 77) r) (79 + 2 * u 77) t) 77 (u 77 + 1)) := by
  obtain ⟨v1, v2, v3, v4, v5, v6, v7, v8, v9, v10, v11⟩ := V
  have hal := wu_al U
  have hun := wu_un U
  have hnt := wu_nt U
  simp only [Nat.reduceAdd] at v1 v3 v4 v6 v7 v8 v9 v11
  refine ⟨fun j h => ?_, ?_, fun k h => ?_, fun k h => ?_, ?_, fun i h => ?_, ?_, ?_, fun i h => ?_, ?_, ?_⟩
  · simp (disch := omega) only [Nat.reduceAdd, hz_up_ne, hz_up_eq, sa_ne, sa_eq, va_up_ne, va_up_self, mcp_o]
    exact v1 j h
  · simp (disch := omega) only [Nat.reduceAdd, hz_up_ne, hz_up_eq, sa_ne, sa_eq, va_up_ne, va_up_self, mcp_o]
    exact v2
  · (try simp (disch := omega) only [Nat.reduceAdd, hz_up_ne, hz_up_eq, sa_ne, sa_eq, va_up_ne, va_up_self, mcp_o] at h)
    simp (disch := omega) only [Nat.reduceAdd, hz_up_ne, hz_up_eq, sa_ne, sa_eq, va_up_ne, va_up_self, mcp_o]
    exact v3 k h
  · (try simp (disch := omega) only [Nat.reduceAdd, hz_up_ne, hz_up_eq, sa_ne, sa_eq, va_up_ne, va_up_self, mcp_o] at h)
    simp (disch := omega) only [Nat.reduceAdd, hz_up_ne, hz_up_eq, sa_ne, sa_eq, va_up_ne, va_up_self, mcp_o]
    exact v4 k h
  · simp (disch := omega) only [Nat.reduceAdd, hz_up_ne, hz_up_eq, sa_ne, sa_eq, va_up_ne, va_up_self, mcp_o]
  · simp (disch := omega) only [Nat.reduceAdd, hz_up_ne, hz_up_eq, sa_ne, sa_eq, va_up_ne, va_up_self, mcp_o] at h
    by_cases e : i = u 77
    · subst e; simp (disch := omega) only [Nat.reduceAdd, hz_up_ne, hz_up_eq, sa_ne, sa_eq, va_up_ne, va_up_self, mcp_o]; exact ⟨trivial, trivial⟩
    · simp (disch := omega) only [Nat.reduceAdd, hz_up_ne, hz_up_eq, sa_ne, sa_eq, va_up_ne, va_up_self, mcp_o]; exact v6 i (by omega)
  · unfold HN at v7 ⊢
    simp (disch := omega) only [Nat.reduceAdd, hz_up_ne, hz_up_eq, sa_ne, sa_eq, va_up_ne, va_up_self, mcp_o]
    exact v7
  · simp (disch := omega) only [Nat.reduceAdd, hz_up_ne, hz_up_eq, sa_ne, sa_eq, va_up_ne, va_up_self, mcp_o]
    exact v8
  · (try simp (disch := omega) only [Nat.reduceAdd, hz_up_ne, hz_up_eq, sa_ne, sa_eq, va_up_ne, va_up_self, mcp_o] at h)
    obtain ⟨-, hq1, hq2⟩ := mq_12 v10 (i := i) (by omega)
    have h9 := v9 i h
    unfold HN at h9 ⊢
    simp (disch := omega) only [Nat.reduceAdd, hz_up_ne, hz_up_eq, sa_ne, sa_eq, va_up_ne, va_up_self, mcp_o]
    exact h9
  · exact v10
  · simp (disch := omega) only [Nat.reduceAdd, hz_up_ne, hz_up_eq, sa_ne, sa_eq, va_up_ne, va_up_self, mcp_o]
    rcases v11 with h | ⟨h, g⟩
    · exact Or.inl h
    · exact Or.inr ⟨h, fun a b ha hb => (g a b ha hb).trans (congrArg nI (ds_cong (u := u) (fun j hj => by simp (disch := omega) only [Nat.reduceAdd, hz_up_ne, hz_up_eq, sa_ne, sa_eq, va_up_ne, va_up_self, mcp_o]) ha hb).symm)⟩
theorem hv_forget {q : Nat → Nat → Nat} {I : Nat → Nat → Int32} {u : Nat → Nat} (V : HV 12 q I u) (U : WU u)  : HV 12 q (hz_up I 12 11 (nI 0)) (va_up u 77 0) := by
  obtain ⟨v1, v2, v3, v4, v5, v6, v7, v8, v9, v10, v11⟩ := V
  have hal := wu_al U
  have hun := wu_un U
  have hnt := wu_nt U
  simp only [Nat.reduceAdd] at v1 v3 v4 v6 v7 v8 v9 v11
  refine ⟨fun j h => ?_, ?_, fun k h => ?_, fun k h => ?_, ?_, fun i h => ?_, ?_, ?_, fun i h => ?_, ?_, ?_⟩
  · simp (disch := omega) only [Nat.reduceAdd, hz_up_ne, hz_up_eq, sa_ne, sa_eq, va_up_ne, va_up_self, mcp_o]
    exact v1 j h
  · simp (disch := omega) only [Nat.reduceAdd, hz_up_ne, hz_up_eq, sa_ne, sa_eq, va_up_ne, va_up_self, mcp_o]
    exact v2
  · (try simp (disch := omega) only [Nat.reduceAdd, hz_up_ne, hz_up_eq, sa_ne, sa_eq, va_up_ne, va_up_self, mcp_o] at h)
    simp (disch := omega) only [Nat.reduceAdd, hz_up_ne, hz_up_eq, sa_ne, sa_eq, va_up_ne, va_up_self, mcp_o]
    exact v3 k h
  · (try simp (disch := omega) only [Nat.reduceAdd, hz_up_ne, hz_up_eq, sa_ne, sa_eq, va_up_ne, va_up_self, mcp_o] at h)
    simp (disch := omega) only [Nat.reduceAdd, hz_up_ne, hz_up_eq, sa_ne, sa_eq, va_up_ne, va_up_self, mcp_o]
    exact v4 k h
  · simp (disch := omega) only [Nat.reduceAdd, hz_up_ne, hz_up_eq, sa_ne, sa_eq, va_up_ne, va_up_self, mcp_o]
  · simp (disch := omega) only [Nat.reduceAdd, hz_up_ne, hz_up_eq, sa_ne, sa_eq, va_up_ne, va_up_self, mcp_o] at h
    omega
  · unfold HN at v7 ⊢
    simp (disch := omega) only [Nat.reduceAdd, hz_up_ne, hz_up_eq, sa_ne, sa_eq, va_up_ne, va_up_self, mcp_o]
    exact v7
  · simp (disch := omega) only [Nat.reduceAdd, hz_up_ne, hz_up_eq, sa_ne, sa_eq, va_up_ne, va_up_self, mcp_o]
    exact v8
  · (try simp (disch := omega) only [Nat.reduceAdd, hz_up_ne, hz_up_eq, sa_ne, sa_eq, va_up_ne, va_up_self, mcp_o] at h)
    obtain ⟨-, hq1, hq2⟩ := mq_12 v10 (i := i) (by omega)
    have h9 := v9 i h
    unfold HN at h9 ⊢
    simp (disch := omega) only [Nat.reduceAdd, hz_up_ne, hz_up_eq, sa_ne, sa_eq, va_up_ne, va_up_self, mcp_o]
    exact h9
  · exact v10
  · simp (disch := omega) only [Nat.reduceAdd, hz_up_ne, hz_up_eq, sa_ne, sa_eq, va_up_ne, va_up_self, mcp_o]
    rcases v11 with h | ⟨h, g⟩
    · exact Or.inl h
    · exact Or.inr ⟨h, fun a b ha hb => (g a b ha hb).trans (congrArg nI (ds_cong (u := u) (fun j hj => by simp (disch := omega) only [Nat.reduceAdd, hz_up_ne, hz_up_eq, sa_ne, sa_eq, va_up_ne, va_up_self, mcp_o]) ha hb).symm)⟩
def u0 : Nat → Nat := fun j => if j = 92 then 3 else if isT j = true then 1 else 0
theorem hv_reset {q : Nat → Nat → Nat} {I : Nat → Nat → Int32} {u : Nat → Nat} (V : HV 12 q I u) (U : WU u)  : HV 12 q (hz_up (hz_up (hz_up (hz_up (hz_up (hz_up (hz_up (hz_up (hz_sa I 13 (fun _ => (-1 : Int32))) 12 9 (nI 0)) 12 10 (nI 0)) 12 11 (nI 0)) 12 12 (nI 0)) 19 1 (nI 0)) 19 2 (nI 0)) 19 3 (nI 3)) 19 4 (nI 0)) (u0) := by
  obtain ⟨v1, v2, v3, v4, v5, v6, v7, v8, v9, v10, v11⟩ := V
  have hal := wu_al U
  have hun := wu_un U
  have hnt := wu_nt U
  simp only [Nat.reduceAdd] at v1 v3 v4 v6 v7 v8 v9 v11
  refine ⟨fun j h => ?_, ?_, fun k h => ?_, fun k h => ?_, ?_, fun i h => ?_, ?_, ?_, fun i h => ?_, ?_, ?_⟩
  · simp (disch := omega) only [Nat.reduceAdd, hz_up_ne, hz_up_eq, sa_ne, sa_eq, va_up_ne, va_up_self, mcp_o]
    have e : u0 j = 0 := by unfold u0; rw [if_neg (by omega), if_neg (by simp only [isT, Bool.or_eq_true, decide_eq_true_eq]; omega)]
    rw [e]; rfl
  · simp (disch := omega) only [Nat.reduceAdd, hz_up_ne, hz_up_eq, sa_ne, sa_eq, va_up_ne, va_up_self, mcp_o]
    rfl
  · exact absurd h (Nat.not_lt_zero _)
  · exact absurd h (Nat.not_lt_zero _)
  · simp (disch := omega) only [Nat.reduceAdd, hz_up_ne, hz_up_eq, sa_ne, sa_eq, va_up_ne, va_up_self, mcp_o]
    rfl
  · exact absurd h (Nat.not_lt_zero _)
  · refine ⟨by simp (disch := omega) only [Nat.reduceAdd, hz_up_ne, hz_up_eq, sa_ne, sa_eq, va_up_ne, va_up_self, mcp_o]; rfl, by simp (disch := omega) only [Nat.reduceAdd, hz_up_ne, hz_up_eq, sa_ne, sa_eq, va_up_ne, va_up_self, mcp_o]; rfl, by simp (disch := omega) only [Nat.reduceAdd, hz_up_ne, hz_up_eq, sa_ne, sa_eq, va_up_ne, va_up_self, mcp_o]; rfl, by simp (disch := omega) only [Nat.reduceAdd, hz_up_ne, hz_up_eq, sa_ne, sa_eq, va_up_ne, va_up_self, mcp_o]; rfl, fun k h => absurd h (Nat.not_lt_zero _)⟩
  · simp (disch := omega) only [Nat.reduceAdd, hz_up_ne, hz_up_eq, sa_ne, sa_eq, va_up_ne, va_up_self, mcp_o]
    rfl
  · exact absurd h (Nat.not_lt_zero _)
  · exact v10
  · exact Or.inl (by simp (disch := omega) only [Nat.reduceAdd, hz_up_ne, hz_up_eq, sa_ne, sa_eq, va_up_ne, va_up_self, mcp_o]; exact nI_0)
def kb (u : Nat → Nat) : Nat → Nat := fun j =>
  if u 100 < 8 then (if j = 100 then u 100 + 1 else if 101 + 10 * u 100 ≤ j ∧ j < 111 + 10 * u 100 then u (j - (11 + 10 * u 100)) else u j)
  else (if 101 ≤ j ∧ j < 171 then u (j + 10) else if 171 ≤ j ∧ j < 181 then u (j - 81) else u j)
theorem kb_lo (u : Nat → Nat) {j : Nat} (h : j < 100) : kb u j = u j := by
  unfold kb
  split
  · rw [if_neg (by omega), if_neg (by omega)]
  · rw [if_neg (by omega), if_neg (by omega)]
theorem kb_100 {u : Nat → Nat} (h : u 100 < 8) : kb u 100 = u 100 + 1 := by
  unfold kb
  rw [if_pos h, if_pos rfl]
theorem kb_108 {u : Nat → Nat} (h : u 100 = 8) : kb u 100 = 8 := by
  unfold kb
  rw [if_neg (by omega), if_neg (by omega), if_neg (by omega), h]
theorem kb_new {u : Nat → Nat} (h : u 100 < 8) {t : Nat} (ht : t < 10) : kb u (101 + 10 * u 100 + t) = u (90 + t) := by
  unfold kb
  rw [if_pos h, if_neg (by omega), if_pos (by omega), show 101 + 10 * u 100 + t - (11 + 10 * u 100) = 90 + t by omega]
theorem kb_old {u : Nat → Nat} (h : u 100 < 8) {i t : Nat} (hi : i < u 100) (ht : t < 10) : kb u (101 + 10 * i + t) = u (101 + 10 * i + t) := by
  unfold kb
  rw [if_pos h, if_neg (by omega), if_neg (by omega)]
theorem kb_new8 {u : Nat → Nat} (h : u 100 = 8) {t : Nat} (ht : t < 10) : kb u (101 + 10 * 7 + t) = u (90 + t) := by
  unfold kb
  rw [if_neg (by omega), if_neg (by omega), if_pos (by omega), show 101 + 10 * 7 + t - 81 = 90 + t by omega]
theorem kb_old8 {u : Nat → Nat} (h : u 100 = 8) {i t : Nat} (hi : i < 7) (ht : t < 10) : kb u (101 + 10 * i + t) = u (101 + 10 * (i + 1) + t) := by
  unfold kb
  rw [if_neg (by omega), if_pos (by omega), show 101 + 10 * i + t + 10 = 101 + 10 * (i + 1) + t by omega]
/-- moments: the same numbers elsewhere -/
theorem HN.to {m m' al o o' : Nat} {I J : Nat → Nat → Int32} {u u' : Nat → Nat} (h : HN m I al u o) (hal : al ≤ 6) (e1 : ∀ k, 1 ≤ k → k ≤ 4 → J m' k = I m k) (e2 : ∀ k, k < 6 → J (m' + 1) k = I (m + 1) k) (eu : ∀ t, t < 10 → u' (o' + t) = u (o + t)) : HN m' J al u' o' := by
  obtain ⟨n1, n2, n3, n4, n5⟩ := h
  refine ⟨?_, ?_, ?_, ?_, fun k hk => ?_⟩
  · rw [e1 1 (by omega) (by omega), n1]; exact congrArg nI (eu 0 (by omega)).symm
  · rw [e1 2 (by omega) (by omega), n2, eu 1 (by omega)]
  · rw [e1 3 (by omega) (by omega), n3, eu 2 (by omega)]
  · rw [e1 4 (by omega) (by omega), n4, eu 3 (by omega)]
  · rw [e2 k (by omega), n5 k hk, show o' + 4 + k = o' + (4 + k) by omega, eu (4 + k) (by omega), show o + (4 + k) = o + 4 + k by omega]
theorem WN.to {al o o' : Nat} {u u' : Nat → Nat} (h : WN u al o) (hal : al ≤ 6) (eu : ∀ t, t < 10 → u' (o' + t) = u (o + t)) : WN u' al o' := by
  obtain ⟨n1, n2, n3, n4, n5⟩ := h
  have e0 : u' o' = u o := eu 0 (by omega)
  refine ⟨by rw [e0]; exact n1, by rw [eu 1 (by omega)]; exact n2, by rw [eu 2 (by omega)]; exact n3, by rw [eu 3 (by omega)]; exact n4, fun k hk => ?_⟩
  rw [show o' + 4 + k = o' + (4 + k) by omega, eu (4 + k) (by omega), show o + (4 + k) = o + 4 + k by omega]
  exact n5 k hk
theorem mcp_m {I : Nat → Nat → Int32} {m o k : Nat} (h : ¬ o = m + 1) (h1 : 1 ≤ k) (h2 : k ≤ 4) : mcp I m o m k = I o k := by
  rcases (show k = 1 ∨ k = 2 ∨ k = 3 ∨ k = 4 by omega) with rfl | rfl | rfl | rfl <;> simp [mcp, hz_up, va_up, cpy, h]
theorem mcp_b {I : Nat → Nat → Int32} {m o k : Nat} (h : k < 6) : mcp I m o (m + 1) k = I (o + 1) k := by
  simp [mcp, hz_up, cpy, va_cpy, h]
theorem hv_keep {q : Nat → Nat → Nat} {I : Nat → Nat → Int32} {u : Nat → Nat} (V : HV 12 q I u) (U : WU u) (h8 : u 100 < 8) : HV 12 q (hz_up (mcp I (q 21 (u 100)) 19) 12 12 (nI (u 100 + 1))) (kb u) := by
  obtain ⟨v1, v2, v3, v4, v5, v6, v7, v8, v9, v10, v11⟩ := V
  have hal := wu_al U
  have hnt := wu_nt U
  obtain ⟨-, hm1, hm2⟩ := mq_12 v10 (i := u 100) h8
  have ho : ∀ b, b ≠ q 21 (u 100) → b ≠ q 21 (u 100) + 1 → b ≠ 12 → hz_up (mcp I (q 21 (u 100)) 19) 12 12 (nI (u 100 + 1)) b = I b := fun b h1 h2 h3 => by rw [hz_up_ne _ _ _ _ h3, mcp_o h1 h2]
  have h12 : ∀ k, k ≠ 12 → hz_up (mcp I (q 21 (u 100)) 19) 12 12 (nI (u 100 + 1)) 12 k = I 12 k := fun k hk => by rw [hz_up_nk _ _ _ _ hk, mcp_o (by omega) (by omega)]
  refine ⟨fun j h => ?_, ?_, fun k h => ?_, fun k h => ?_, ?_, fun i h => ?_, ?_, ?_, fun i h => ?_, v10, ?_⟩
  · rw [ho _ (by omega) (by omega) (by omega), kb_lo u (by omega)]; exact v1 j h
  · rw [h12 _ (by omega), kb_lo u (by omega)]; exact v2
  · rw [kb_lo u (by omega)] at h; rw [ho _ (by omega) (by omega) (by omega), kb_lo u (by omega)]; exact v3 k h
  · rw [kb_lo u (by omega)] at h; rw [ho _ (by omega) (by omega) (by omega), kb_lo u (by omega)]; exact v4 k h
  · rw [h12 _ (by omega), kb_lo u (by omega)]; exact v5
  · rw [kb_lo u (by omega)] at h; rw [ho _ (by omega) (by omega) (by omega), ho _ (by omega) (by omega) (by omega), kb_lo u (by omega), kb_lo u (by omega)]; exact v6 i h
  · rw [kb_lo u (j := 64) (by omega)]
    exact HN.to v7 hal (fun k _ _ => by rw [ho _ (by omega) (by omega) (by omega)]) (fun k _ => by rw [ho _ (by omega) (by omega) (by omega)]) (fun t ht => kb_lo u (by omega))
  · rw [kb_100 h8]; exact hz_up_self _ _ _ _
  · rw [kb_100 h8] at h
    rw [kb_lo u (j := 64) (by omega)]
    show HN (q 21 i) _ _ _ _
    by_cases e : i = u 100
    · subst e
      refine HN.to v7 hal (fun k h1 h2 => ?_) (fun k hk => ?_) (fun t ht => kb_new h8 ht)
      · rw [hz_up_ne _ _ _ _ (by omega), mcp_m (by omega) h1 h2]
      · rw [hz_up_ne _ _ _ _ (by omega), mcp_b hk]
    · obtain ⟨j, hj, ej⟩ := v10.1 i (by omega)
      obtain ⟨j2, hj2, ej2⟩ := v10.1 (u 100) h8
      have hne : q 21 i ≠ q 21 (u 100) := fun z => e (v10.2 i (u 100) (by omega) h8 z)
      have ej' : q 21 i = 12 + 17 + 2 * j := ej
      have ej2' : q 21 (u 100) = 12 + 17 + 2 * j2 := ej2
      refine HN.to (v9 i (by omega)) hal (fun k h1 h2 => ?_) (fun k hk => ?_) (fun t ht => kb_old h8 (by omega) ht)
      · rw [ho _ hne (by omega) (by omega)]
      · show hz_up _ _ _ _ (q 21 i + 1) k = I (q 21 i + 1) k
        rw [ho _ (by omega) (by omega) (by omega)]
  · rw [h12 _ (by omega), ho _ (by omega) (by omega) (by omega)]
    rcases v11 with h | ⟨h, g⟩
    · exact Or.inl h
    · exact Or.inr ⟨h, fun a b ha hb => (g a b ha hb).trans (congrArg nI (ds_cong (u := u) (fun j hj => kb_lo u (by omega)) ha hb).symm)⟩
theorem rt8_at (q : Nat → Nat → Nat) {i : Nat} (hi : i < 7) : rt8 q 21 i = q 21 (i + 1) := by
  unfold rt8
  rw [hz_up_nk _ _ _ _ (by omega)]
  show (if (21 : Nat) = 21 ∧ i + 1 < 8 then q 21 (i + 1) else q 21 i) = _
  rw [if_pos ⟨rfl, by omega⟩]
theorem rt8_l (q : Nat → Nat → Nat) : rt8 q 21 7 = q 21 0 := hz_up_self _ _ _ _
theorem rt8_o (q : Nat → Nat → Nat) {a : Nat} (h : a ≠ 21) (i : Nat) : rt8 q a i = q a i := by
  unfold rt8
  rw [hz_up_ne _ _ _ _ h]
  simp only [rt]
  rw [if_neg (by omega)]
theorem hp_rt8 {q : Nat → Nat → Nat} (H : HP 12 q) : HP 12 (rt8 q) := by
  have hs : ∀ i, i < 8 → ∃ i', i' < 8 ∧ rt8 q 21 i = q 21 i' ∧ ((i < 7 ∧ i' = i + 1) ∨ (i = 7 ∧ i' = 0)) := fun i hi => by
    by_cases e : i < 7
    · exact ⟨i + 1, by omega, rt8_at q e, Or.inl ⟨e, rfl⟩⟩
    · obtain rfl : i = 7 := by omega
      exact ⟨0, by omega, rt8_l q, Or.inr ⟨rfl, rfl⟩⟩
  refine ⟨fun i hi => ?_, fun i j hi hj hij => ?_⟩
  · obtain ⟨i', h1, h2, -⟩ := hs i hi
    obtain ⟨j, hj, ej⟩ := H.1 i' h1
    exact ⟨j, hj, h2.trans ej⟩
  · obtain ⟨i', h1, h2, h3⟩ := hs i hi
    obtain ⟨j', g1, g2, g3⟩ := hs j hj
    have := H.2 i' j' h1 g1 (h2.symm.trans (hij.trans g2))
    omega
theorem hv_keep8 {q : Nat → Nat → Nat} {I : Nat → Nat → Int32} {u : Nat → Nat} (V : HV 12 q I u) (U : WU u) (h8 : u 100 = 8) : HV 12 (rt8 q) (hz_up (mcp (hz_up I 12 12 (nI 7)) (q 21 0) 19) 12 12 (nI 8)) (kb u) := by
  obtain ⟨v1, v2, v3, v4, v5, v6, v7, v8, v9, v10, v11⟩ := V
  have hal := wu_al U
  have hnt := wu_nt U
  obtain ⟨-, hm1, hm2⟩ := mq_12 v10 (i := 0) (by omega)
  have ho : ∀ b, b ≠ q 21 0 → b ≠ q 21 0 + 1 → b ≠ 12 → hz_up (mcp (hz_up I 12 12 (nI 7)) (q 21 0) 19) 12 12 (nI 8) b = I b := fun b h1 h2 h3 => by rw [hz_up_ne _ _ _ _ h3, mcp_o h1 h2, hz_up_ne _ _ _ _ h3]
  have h12 : ∀ k, k ≠ 12 → hz_up (mcp (hz_up I 12 12 (nI 7)) (q 21 0) 19) 12 12 (nI 8) 12 k = I 12 k := fun k hk => by rw [hz_up_nk _ _ _ _ hk, mcp_o (by omega) (by omega), hz_up_nk _ _ _ _ hk]
  refine ⟨fun j h => ?_, ?_, fun k h => ?_, fun k h => ?_, ?_, fun i h => ?_, ?_, ?_, fun i h => ?_, hp_rt8 v10, ?_⟩
  · rw [ho _ (by omega) (by omega) (by omega), kb_lo u (by omega)]; exact v1 j h
  · rw [h12 _ (by omega), kb_lo u (by omega)]; exact v2
  · rw [kb_lo u (by omega)] at h; rw [ho _ (by omega) (by omega) (by omega), kb_lo u (by omega)]; exact v3 k h
  · rw [kb_lo u (by omega)] at h; rw [ho _ (by omega) (by omega) (by omega), kb_lo u (by omega)]; exact v4 k h
  · rw [h12 _ (by omega), kb_lo u (by omega)]; exact v5
  · rw [kb_lo u (by omega)] at h; rw [ho _ (by omega) (by omega) (by omega), ho _ (by omega) (by omega) (by omega), kb_lo u (by omega), kb_lo u (by omega)]; exact v6 i h
  · rw [kb_lo u (j := 64) (by omega)]
    exact HN.to v7 hal (fun k _ _ => by rw [ho _ (by omega) (by omega) (by omega)]) (fun k _ => by rw [ho _ (by omega) (by omega) (by omega)]) (fun t ht => kb_lo u (by omega))
  · rw [kb_108 h8]; exact hz_up_self _ _ _ _
  · rw [kb_108 h8] at h
    rw [kb_lo u (j := 64) (by omega)]
    show HN (rt8 q 21 i) _ _ _ _
    by_cases e : i = 7
    · subst e
      rw [rt8_l]
      refine HN.to v7 hal (fun k h1 h2 => ?_) (fun k hk => ?_) (fun t ht => kb_new8 h8 ht)
      · rw [hz_up_ne _ _ _ _ (by omega), mcp_m (by omega) h1 h2, hz_up_ne _ _ _ _ (by omega)]
      · rw [hz_up_ne _ _ _ _ (by omega), mcp_b hk, hz_up_ne _ _ _ _ (by omega)]
    · rw [rt8_at q (by omega)]
      obtain ⟨j, hj, ej⟩ := v10.1 (i + 1) (by omega)
      obtain ⟨j2, hj2, ej2⟩ := v10.1 0 (by omega)
      have hne : q 21 (i + 1) ≠ q 21 0 := fun z => absurd (v10.2 (i + 1) 0 (by omega) (by omega) z) (by omega)
      have ej' : q 21 (i + 1) = 12 + 17 + 2 * j := ej
      have ej2' : q 21 0 = 12 + 17 + 2 * j2 := ej2
      refine HN.to (v9 (i + 1) (by omega)) hal (fun k h1 h2 => ?_) (fun k hk => ?_) (fun t ht => kb_old8 h8 (by omega) ht)
      · rw [ho _ hne (by omega) (by omega)]
      · show hz_up _ _ _ _ (q 21 (i + 1) + 1) k = I (q 21 (i + 1) + 1) k
        rw [ho _ (by omega) (by omega) (by omega)]
  · rw [h12 _ (by omega), ho _ (by omega) (by omega) (by omega)]
    rcases v11 with h | ⟨h, g⟩
    · exact Or.inl h
    · exact Or.inr ⟨h, fun a b ha hb => (g a b ha hb).trans (congrArg nI (ds_cong (u := u) (fun j hj => kb_lo u (by omega)) ha hb).symm)⟩
/-- brought back -/
def ub (u : Nat → Nat) (n : Nat) : Nat → Nat := fun j => if 90 ≤ j ∧ j < 100 then u (101 + 10 * n + (j - 90)) else if j = 100 then n else u j
theorem ub_o (u : Nat → Nat) (n : Nat) {j : Nat} (h : j < 90 ∨ 100 < j) : ub u n j = u j := by
  unfold ub
  rw [if_neg (by omega), if_neg (by omega)]
theorem ub_100 (u : Nat → Nat) (n : Nat) : ub u n 100 = n := by
  unfold ub
  rw [if_neg (by omega), if_pos rfl]
theorem ub_n (u : Nat → Nat) (n : Nat) {t : Nat} (h : t < 10) : ub u n (90 + t) = u (101 + 10 * n + t) := by
  unfold ub
  rw [if_pos (by omega), show 90 + t - 90 = t by omega]
theorem hv_undo {q : Nat → Nat → Nat} {I : Nat → Nat → Int32} {u : Nat → Nat} (V : HV 12 q I u) (U : WU u) {n : Nat} (hn : u 100 = n + 1) : HV 12 q (mcp (hz_up I 12 12 (nI n)) 19 (q 21 n)) (ub u n) := by
  obtain ⟨v1, v2, v3, v4, v5, v6, v7, v8, v9, v10, v11⟩ := V
  have hal := wu_al U
  have hnt := wu_nt U
  have hun := wu_un U
  have ho : ∀ b, b ≠ 19 → b ≠ 20 → b ≠ 12 → mcp (hz_up I 12 12 (nI n)) 19 (q 21 n) b = I b := fun b h1 h2 h3 => by rw [mcp_o h1 h2, hz_up_ne _ _ _ _ h3]
  have h12 : ∀ k, k ≠ 12 → mcp (hz_up I 12 12 (nI n)) 19 (q 21 n) 12 k = I 12 k := fun k hk => by rw [mcp_o (by omega) (by omega), hz_up_nk _ _ _ _ hk]
  have u64 : ub u n 64 = u 64 := ub_o u n (by omega)
  have u77 : ub u n 77 = u 77 := ub_o u n (by omega)
  refine ⟨fun j h => ?_, ?_, fun k h => ?_, fun k h => ?_, ?_, fun i h => ?_, ?_, ?_, fun i h => ?_, v10, ?_⟩
  · rw [ho _ (by omega) (by omega) (by omega), ub_o u n (by omega)]; exact v1 j h
  · rw [h12 _ (by omega), u64]; exact v2
  · rw [u64] at h; rw [ho _ (by omega) (by omega) (by omega), ub_o u n (by omega)]; exact v3 k h
  · rw [u64] at h; rw [ho _ (by omega) (by omega) (by omega), ub_o u n (by omega)]; exact v4 k h
  · rw [h12 _ (by omega), u77]; exact v5
  · rw [u77] at h; rw [ho _ (by omega) (by omega) (by omega), ho _ (by omega) (by omega) (by omega), ub_o u n (by omega), ub_o u n (by omega)]; exact v6 i h
  · rw [u64]
    obtain ⟨-, hm1, hm2⟩ := mq_12 v10 (i := n) (by omega)
    refine HN.to (v9 n (by omega)) hal (fun k h1 h2 => ?_) (fun k hk => ?_) (fun t ht => ub_n u n ht)
    · show mcp _ 19 (q 21 n) 19 k = I (q 21 n) k
      rw [mcp_m (by omega) h1 h2, hz_up_ne _ _ _ _ (by omega)]
    · show mcp _ 19 (q 21 n) (19 + 1) k = I (q 21 n + 1) k
      rw [mcp_b hk, hz_up_ne _ _ _ _ (by omega)]
  · rw [ub_100, mcp_o (by omega) (by omega)]; exact hz_up_self _ _ _ _
  · rw [ub_100] at h
    rw [u64]
    obtain ⟨-, hm1, hm2⟩ := mq_12 v10 (i := i) (by omega)
    refine HN.to (v9 i (by omega)) hal (fun k h1 h2 => ?_) (fun k hk => ?_) (fun t ht => ub_o u n (by omega))
    · show mcp _ 19 (q 21 n) (q 21 i) k = I (q 21 i) k
      rw [ho _ (by omega) (by omega) (by omega)]
    · show mcp _ 19 (q 21 n) (q 21 i + 1) k = I (q 21 i + 1) k
      rw [ho _ (by omega) (by omega) (by omega)]
  · rw [h12 _ (by omega), ho _ (by omega) (by omega) (by omega)]
    rcases v11 with h | ⟨h, g⟩
    · exact Or.inl h
    · exact Or.inr ⟨h, fun a b ha hb => (g a b ha hb).trans (congrArg nI (ds_cong (u := u) (fun j hj => ub_o u n (by omega)) ha hb).symm)⟩

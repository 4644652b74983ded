theorem hz_up_ne {α : Type} (f : Nat → Nat → α) (a k : Nat) (x : α) {b : Nat} (h : b ≠ a) : hz_up f a k x b = f b := if_neg h
theorem hz_up_eq {α : Type} (f : Nat → Nat → α) (a k : Nat) (x : α) : hz_up f a k x a = va_up (f a) k x := if_pos rfl
theorem hz_up_self {α : Type} (f : Nat → Nat → α) (a k : Nat) (x : α) : hz_up f a k x a k = x := by rw [hz_up_eq]; exact if_pos rfl
theorem hz_up_nk {α : Type} (f : Nat → Nat → α) (a k : Nat) (x : α) {j : Nat} (h : j ≠ k) : hz_up f a k x a j = f a j := by rw [hz_up_eq]; exact if_neg h
theorem hz_rf_ref {ad : Nat → Nat} {a : Nat} (h : a ≠ 0) : hz_rf ad a = .ref (ad a) := by
  simp [hz_rf, hz_op, h, va_rf]
theorem hz_W_get (D : hz_D) (T : hz_T) {n a : Nat} (M : hz_M) (h0 : a ≠ 0) (h : a ≤ n) : (hz_W D T n M)[a - 1]? = some (D.2.2.1 a, hz_E D T M a) := by
  have e : a - 1 + 1 = a := by omega
  unfold hz_W
  rw [List.getElem?_map, List.getElem?_range (by omega)]
  simp only [Option.map_some, e]
theorem hz_W_obj (D : hz_D) {T : hz_T} {n a c N : Nat} (M : hz_M) (h0 : a ≠ 0) (h : a ≤ n) (hT : T a = (c, N)) (hc : c < 12) : (hz_W D T n M)[a - 1]? = some (D.2.2.1 a, .inr (c, hz_fs D.2.2.1 M c a)) := by
  rw [hz_W_get D T M h0 h]
  simp [hz_E, hT, hc]
theorem hz_W_arr (D : hz_D) {T : hz_T} {n a c N : Nat} (M : hz_M) (h0 : a ≠ 0) (h : a ≤ n) (hT : T a = (c, N)) (hc : 12 ≤ c) (hc2 : c < 15) : (hz_W D T n M)[a - 1]? = some (D.2.2.1 a, .inl (D.2.1 c, N, .inl (M.1 a))) := by
  rw [hz_W_get D T M h0 h]
  simp [hz_E, hT, Nat.not_lt.mpr hc, hc2]
theorem hz_W_arq (D : hz_D) {T : hz_T} {n a c N : Nat} (M : hz_M) (h0 : a ≠ 0) (h : a ≤ n) (hT : T a = (c, N)) (hc : 15 ≤ c) : (hz_W D T n M)[a - 1]? = some (D.2.2.1 a, .inl (D.2.1 c, N, .inr (.inr (.inr (.inr (fun j => hz_op D.2.2.1 (M.2.2 a j))))))) := by
  have h1 : ¬ c < 12 := by omega
  have h2 : ¬ c < 15 := by omega
  rw [hz_W_get D T M h0 h]
  simp [hz_E, hT, h1, h2]
theorem hz_W_set (D : hz_D) (T : hz_T) {n a : Nat} (M M' : hz_M) {E' : va_E} (h0 : a ≠ 0) (he : hz_E D T M' a = E') (ho : ∀ b, b ≠ a → hz_E D T M' b = hz_E D T M b) : (hz_W D T n M).set (a - 1) (D.2.2.1 a, E') = hz_W D T n M' := by
  apply List.ext_getElem?
  intro i
  have e : a - 1 + 1 = a := by omega
  unfold hz_W
  by_cases hi : i < n
  · by_cases ha : i = a - 1
    · subst ha
      rw [List.getElem?_set_self (by simpa using hi), List.getElem?_map, List.getElem?_range hi]
      simp only [Option.map_some, e, he]
    · rw [List.getElem?_set_ne (Ne.symm ha), List.getElem?_map, List.getElem?_map, List.getElem?_range hi]
      simp only [Option.map_some, ho (i + 1) (by omega)]
  · have h1 : n ≤ i := by omega
    rw [List.getElem?_eq_none (by simp [h1]), List.getElem?_eq_none (by simp [h1])]
theorem hz_fs_get (ad : Nat → Nat) (M : hz_M) (c a : Nat) {k : Nat} (h : k < hz_nf c) : (hz_fs ad M c a)[k]? = some (hz_fv ad M (hz_ty c k) a k) := by
  unfold hz_fs
  rw [List.getElem?_map, List.getElem?_range h]
  rfl
theorem hz_fs_set (ad : Nat → Nat) (M M' : hz_M) (c a : Nat) {k : Nat} {v : Value} (hv : hz_fv ad M' (hz_ty c k) a k = v) (ho : ∀ j, j ≠ k → hz_fv ad M' (hz_ty c j) a j = hz_fv ad M (hz_ty c j) a j) : (hz_fs ad M c a).set k v = hz_fs ad M' c a := by
  apply List.ext_getElem?
  intro i
  unfold hz_fs
  by_cases hi : i < hz_nf c
  · by_cases hk : i = k
    · subst hk
      rw [List.getElem?_set_self (by simpa using hi), List.getElem?_map, List.getElem?_range hi]
      simp only [Option.map_some, hv]
    · rw [List.getElem?_set_ne (Ne.symm hk), List.getElem?_map, List.getElem?_map, List.getElem?_range hi]
      simp only [Option.map_some, ho i hk]
  · have h1 : hz_nf c ≤ i := by omega
    rw [List.getElem?_eq_none (by simp [h1]), List.getElem?_eq_none (by simp [h1])]
theorem hz_E_ne (D : hz_D) (T : hz_T) (M M' : hz_M) {b : Nat} (h1 : M'.1 b = M.1 b) (h2 : M'.2.1 b = M.2.1 b) (h3 : M'.2.2 b = M.2.2 b) : hz_E D T M' b = hz_E D T M b := by
  simp only [hz_E, hz_fs, hz_fv, h1, h2, h3]
/-- three kinds of change: a number, a long, a reference -/
def hz_uI (M : hz_M) (a k : Nat) (x : Int32) : hz_M := (hz_up M.1 a k x, M.2.1, M.2.2)
def hz_uL (M : hz_M) (a k : Nat) (x : Int64) : hz_M := (M.1, hz_up M.2.1 a k x, M.2.2)
def hz_uP (M : hz_M) (a k : Nat) (x : Nat) : hz_M := (M.1, M.2.1, hz_up M.2.2 a k x)
theorem hz_E_uI (D : hz_D) (T : hz_T) (M : hz_M) (a k : Nat) (x : Int32) (b : Nat) (h : b ≠ a) : hz_E D T (hz_uI M a k x) b = hz_E D T M b := hz_E_ne D T M _ (hz_up_ne _ _ _ _ h) rfl rfl
theorem hz_E_uL (D : hz_D) (T : hz_T) (M : hz_M) (a k : Nat) (x : Int64) (b : Nat) (h : b ≠ a) : hz_E D T (hz_uL M a k x) b = hz_E D T M b := hz_E_ne D T M _ rfl (hz_up_ne _ _ _ _ h) rfl
theorem hz_E_uP (D : hz_D) (T : hz_T) (M : hz_M) (a k : Nat) (x : Nat) (b : Nat) (h : b ≠ a) : hz_E D T (hz_uP M a k x) b = hz_E D T M b := hz_E_ne D T M _ rfl rfl (hz_up_ne _ _ _ _ h)
theorem hz_fv_uI (ad : Nat → Nat) (M : hz_M) (ty : FieldType) (a k j : Nat) (x : Int32) (h : j ≠ k) : hz_fv ad (hz_uI M a k x) ty a j = hz_fv ad M ty a j := by
  have e : (hz_uI M a k x).1 a j = M.1 a j := hz_up_nk _ _ _ _ h
  cases ty <;> simp only [hz_fv, e] <;> rfl
theorem hz_fv_uL (ad : Nat → Nat) (M : hz_M) (ty : FieldType) (a k j : Nat) (x : Int64) (h : j ≠ k) : hz_fv ad (hz_uL M a k x) ty a j = hz_fv ad M ty a j := by
  have e : (hz_uL M a k x).2.1 a j = M.2.1 a j := hz_up_nk _ _ _ _ h
  cases ty <;> simp only [hz_fv, e] <;> rfl
theorem hz_fv_uP (ad : Nat → Nat) (M : hz_M) (ty : FieldType) (a k j : Nat) (x : Nat) (h : j ≠ k) : hz_fv ad (hz_uP M a k x) ty a j = hz_fv ad M ty a j := by
  have e : (hz_uP M a k x).2.2 a j = M.2.2 a j := hz_up_nk _ _ _ _ h
  cases ty <;> simp only [hz_fv, e] <;> rfl
/-- the classes' words are among the tables' -/
theorem hz_mem {w : Cond} (h : w ∈ lw_tbl) (g : goodWord w = true) : w ∈ hz_tbl := List.mem_filter.mpr ⟨h, g⟩
theorem hz_good : GoodIn hz_tbl hz_tbl := fun w h => ⟨h, good_of_word (List.mem_filter.mp h).2⟩
theorem hz_goodY {y : hz_Y} (h : Cond.code y.1 y.2.1 y.2.2.1 y.2.2.2.1 ∈ hz_tbl) : GoodIn hz_tbl (hz_ws y) := fun w hw => (List.mem_cons.mp hw).elim (fun e => e ▸ hz_good _ h) (hz_good w)
set_option maxRecDepth 100000 in
theorem hz_lays : ∀ c, c < 12 → ∀ r, vwCl[c]? = some r → (u_ws r.1 r.2.1 r.2.2).all (fun w => decide (w ∈ hz_tbl)) = true := by
  intro c hc r hr
  rcases (show c = 0 ∨ c = 1 ∨ c = 2 ∨ c = 3 ∨ c = 4 ∨ c = 5 ∨ c = 6 ∨ c = 7 ∨ c = 8 ∨ c = 9 ∨ c = 10 ∨ c = 11 by omega) with rfl | rfl | rfl | rfl | rfl | rfl | rfl | rfl | rfl | rfl | rfl | rfl <;> (cases hr; decide +kernel)
theorem hz_lay {c : Nat} {r : vw_C} (hr : vwCl[c]? = some r) : ∀ w ∈ u_ws r.1 r.2.1 r.2.2, w ∈ hz_tbl := by
  have hc : c < 12 := (List.getElem?_eq_some_iff.mp hr).1
  intro w hw
  have h := List.all_eq_true.mp (hz_lays c hc r hr) w hw
  exact of_decide_eq_true h
theorem hz_nf_eq {c : Nat} {r : vw_C} (hr : vwCl[c]? = some r) : hz_nf c = r.2.2 := by simp only [hz_nf, hr]
theorem hz_tyok : ∀ c, c < 12 → ∀ r, vwCl[c]? = some r → ∀ k, k < r.2.2 → parseFieldDescriptor (r.2.1 k).2.2.1 = some (hz_ty c k) := by
  intro c hc r hr
  rcases (show c = 0 ∨ c = 1 ∨ c = 2 ∨ c = 3 ∨ c = 4 ∨ c = 5 ∨ c = 6 ∨ c = 7 ∨ c = 8 ∨ c = 9 ∨ c = 10 ∨ c = 11 by omega) with rfl | rfl | rfl | rfl | rfl | rfl | rfl | rfl | rfl | rfl | rfl | rfl <;> (cases hr)
  · exact tyX0_ok
  · exact tyX1_ok
  · exact tyX2_ok
  · exact tyX3_ok
  · exact tyX4_ok
  · exact tyX5_ok
  · exact tyX6_ok
  · exact tyX7_ok
  · exact tyX8_ok
  · exact tyX9_ok
  · exact tyX10_ok
  · exact tyX11_ok
theorem hz_nmok : ∀ c, c < 12 → ∀ r, vwCl[c]? = some r → ∀ a, a < r.2.2 → ∀ b, b < r.2.2 → a ≠ b → (r.2.1 a).2.1 ≠ (r.2.1 b).2.1 := by
  intro c hc r hr
  rcases (show c = 0 ∨ c = 1 ∨ c = 2 ∨ c = 3 ∨ c = 4 ∨ c = 5 ∨ c = 6 ∨ c = 7 ∨ c = 8 ∨ c = 9 ∨ c = 10 ∨ c = 11 by omega) with rfl | rfl | rfl | rfl | rfl | rfl | rfl | rfl | rfl | rfl | rfl | rfl <;> (cases hr)
  · exact nmX0
  · exact nmX1
  · exact nmX2
  · exact nmX3
  · exact nmX4
  · exact nmX5
  · exact nmX6
  · exact nmX7
  · exact nmX8
  · exact nmX9
  · exact nmX10
  · exact nmX11

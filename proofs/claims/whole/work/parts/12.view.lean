/-! A HOUSE AS NUMBERS: u j, in the layout of the reference's row (0..63 doors, 64 how many alarms, 65 kinds, 71 rooms, 77 notes, 78 + 2 i, 79 + 2 i a note's room and 1 + its t, 90 second, 91 room, 92 cold, 93 down, 94 batteries, 100 how many may be undone, 101 + 10 i what they bring back) -/
def dv (x : Nat) : Int32 := if x = 0 then -1 else nI x
/-- ways, room by room: 1000 is none -/
def fw0 (u : Nat → Nat) (a b : Nat) : Nat := if a = b then 0 else if u (8 * a + b) = 0 then 1000 else u (8 * a + b)
def fwk (u : Nat → Nat) : Nat → Nat → Nat → Nat
  | 0 => fw0 u
  | k + 1 => fun a b => min (fwk u k a b) (fwk u k a k + fwk u k k b)
def ds (u : Nat → Nat) (a b : Nat) : Nat := fwk u 8 a b
/-- a moment at the cells m, m + 1 -/
def HN (m : Nat) (I : Nat → Nat → Int32) (al : Nat) (u : Nat → Nat) (o : Nat) : Prop :=
  I m 1 = nI (u o) ∧ I m 2 = nI (u (o + 1)) ∧ I m 3 = nI (u (o + 2)) ∧ I m 4 = nI (u (o + 3)) ∧ ∀ k, k < al → I (m + 1) k = nI (u (o + 4 + k))
/-- the eight moments that may be brought back stand in some order -/
def HP (h : Nat) (q : Nat → Nat → Nat) : Prop := (∀ i, i < 8 → ∃ j, j < 8 ∧ q (h + 9) i = h + 17 + 2 * j) ∧ ∀ i j, i < 8 → j < 8 → q (h + 9) i = q (h + 9) j → i = j
/-- the class's Home at h is u -/
def HV (h : Nat) (q : Nat → Nat → Nat) (I : Nat → Nat → Int32) (u : Nat → Nat) : Prop :=
  (∀ j, j < 64 → I (h + 1) j = dv (u j)) ∧ I h 10 = nI (u 64) ∧ (∀ k, k < u 64 → I (h + 3) k = nI (u (65 + k))) ∧ (∀ k, k < u 64 → I (h + 4) k = nI (u (71 + k))) ∧ I h 11 = nI (u 77) ∧
  (∀ i, i < u 77 → I (h + 5) i = nI (u (78 + 2 * i)) ∧ I (h + 6) i = nI (u (79 + 2 * i)) - 1) ∧ HN (h + 7) I (u 64) u 90 ∧ I h 12 = nI (u 100) ∧ (∀ i, i < u 100 → HN (q (h + 9) i) I (u 64) u (101 + 10 * i)) ∧ HP h q ∧
  (I h 9 = 0 ∨ (I h 9 = 1 ∧ ∀ a b, a < 8 → b < 8 → I (h + 2) (a * 8 + b) = nI (ds u a b)))
def WN (u : Nat → Nat) (al o : Nat) : Prop := u o ≤ 9999 ∧ u (o + 1) < 8 ∧ u (o + 2) ≤ 9 ∧ u (o + 3) < 64 ∧ ∀ k, k < al → u (o + 4 + k) ≤ 99
/-- the numbers are in their ranges -/
def WU (u : Nat → Nat) : Prop := u 64 ≤ 6 ∧ (∀ j, j < 64 → u j ≤ 9) ∧ (∀ a b, a < 8 → b < 8 → u (8 * a + b) = u (8 * b + a)) ∧ (∀ a, a < 8 → u (8 * a + a) = 0) ∧ (∀ k, k < u 64 → u (65 + k) < 6 ∧ u (71 + k) < 8) ∧
  u 77 ≤ 6 ∧ (∀ i, i < u 77 → u (78 + 2 * i) < 8 ∧ u (79 + 2 * i) ≤ 8) ∧ WN u (u 64) 90 ∧ u 100 ≤ 8 ∧ ∀ i, i < u 100 → WN u (u 64) (101 + 10 * i)
section VIEW
variable {q : Nat → Nat → Nat} {I : Nat → Nat → Int32} {u : Nat → Nat}
theorem hv_do (V : HV 12 q I u) {j : Nat} (h : j < 64) : I 13 j = dv (u j) := V.1 j h
theorem hv_al (V : HV 12 q I u) : I 12 10 = nI (u 64) := V.2.1
theorem hv_kd (V : HV 12 q I u) {k : Nat} (h : k < u 64) : I 15 k = nI (u (65 + k)) := V.2.2.1 k h
theorem hv_rm (V : HV 12 q I u) {k : Nat} (h : k < u 64) : I 16 k = nI (u (71 + k)) := V.2.2.2.1 k h
theorem hv_nt (V : HV 12 q I u) : I 12 11 = nI (u 77) := V.2.2.2.2.1
theorem hv_nr (V : HV 12 q I u) {i : Nat} (h : i < u 77) : I 17 i = nI (u (78 + 2 * i)) := (V.2.2.2.2.2.1 i h).1
theorem hv_nq (V : HV 12 q I u) {i : Nat} (h : i < u 77) : I 18 i = nI (u (79 + 2 * i)) - 1 := (V.2.2.2.2.2.1 i h).2
theorem hv_se (V : HV 12 q I u) : I 19 1 = nI (u 90) := V.2.2.2.2.2.2.1.1
theorem hv_pl (V : HV 12 q I u) : I 19 2 = nI (u 91) := V.2.2.2.2.2.2.1.2.1
theorem hv_co (V : HV 12 q I u) : I 19 3 = nI (u 92) := V.2.2.2.2.2.2.1.2.2.1
theorem hv_dn (V : HV 12 q I u) : I 19 4 = nI (u 93) := V.2.2.2.2.2.2.1.2.2.2.1
theorem hv_ba (V : HV 12 q I u) {k : Nat} (h : k < u 64) : I 20 k = nI (u (94 + k)) := V.2.2.2.2.2.2.1.2.2.2.2 k h
theorem hv_un (V : HV 12 q I u) : I 12 12 = nI (u 100) := V.2.2.2.2.2.2.2.1
theorem hv_me (V : HV 12 q I u) : I 12 9 = 0 ∨ (I 12 9 = 1 ∧ ∀ a b, a < 8 → b < 8 → I 14 (a * 8 + b) = nI (ds u a b)) := V.2.2.2.2.2.2.2.2.2.2
theorem wu_al (U : WU u) : u 64 ≤ 6 := U.1
theorem wu_dr (U : WU u) {j : Nat} (h : j < 64) : u j ≤ 9 := U.2.1 j h
theorem wu_sy (U : WU u) {a b : Nat} (ha : a < 8) (hb : b < 8) : u (8 * a + b) = u (8 * b + a) := U.2.2.1 a b ha hb
theorem wu_dg (U : WU u) {a : Nat} (ha : a < 8) : u (8 * a + a) = 0 := U.2.2.2.1 a ha
theorem wu_kd (U : WU u) {k : Nat} (h : k < u 64) : u (65 + k) < 6 := (U.2.2.2.2.1 k h).1
theorem wu_rm (U : WU u) {k : Nat} (h : k < u 64) : u (71 + k) < 8 := (U.2.2.2.2.1 k h).2
theorem wu_nt (U : WU u) : u 77 ≤ 6 := U.2.2.2.2.2.1
theorem wu_nr (U : WU u) {i : Nat} (h : i < u 77) : u (78 + 2 * i) < 8 := (U.2.2.2.2.2.2.1 i h).1
theorem wu_nq (U : WU u) {i : Nat} (h : i < u 77) : u (79 + 2 * i) ≤ 8 := (U.2.2.2.2.2.2.1 i h).2
theorem wu_no (U : WU u) : WN u (u 64) 90 := U.2.2.2.2.2.2.2.1
theorem wu_se (U : WU u) : u 90 ≤ 9999 := (wu_no U).1
theorem wu_pl (U : WU u) : u 91 < 8 := (wu_no U).2.1
theorem wu_co (U : WU u) : u 92 ≤ 9 := (wu_no U).2.2.1
theorem wu_dn (U : WU u) : u 93 < 64 := (wu_no U).2.2.2.1
theorem wu_ba (U : WU u) {k : Nat} (h : k < u 64) : u (94 + k) ≤ 99 := (wu_no U).2.2.2.2 k h
theorem wu_un (U : WU u) : u 100 ≤ 8 := U.2.2.2.2.2.2.2.2.1
theorem wu_pa (U : WU u) {i : Nat} (h : i < u 100) : WN u (u 64) (101 + 10 * i) := U.2.2.2.2.2.2.2.2.2 i h
end VIEW
/-! ways -/
theorem fw_le (u : Nat → Nat) (hu : ∀ j, j < 64 → u j ≤ 9) : ∀ k a b, a < 8 → b < 8 → fwk u k a b ≤ 1000 := by
  intro k
  induction k with
  | zero =>
    intro a b ha hb
    have h := hu (8 * a + b) (by omega)
    show fw0 u a b ≤ 1000
    unfold fw0
    split
    · omega
    · split <;> omega
  | succ k ih =>
    intro a b ha hb
    exact Nat.le_trans (Nat.min_le_left _ _) (ih a b ha hb)
theorem fw_dg (u : Nat → Nat) : ∀ k a, fwk u k a a = 0 := by
  intro k
  induction k with
  | zero => intro a; show fw0 u a a = 0; simp [fw0]
  | succ k ih => intro a; show min _ _ = 0; rw [ih a]; exact Nat.zero_min _
theorem fw_row (u : Nat → Nat) (k b : Nat) : fwk u (k + 1) k b = fwk u k k b := by
  show min _ _ = _
  rw [fw_dg u k k, Nat.zero_add, Nat.min_self]
theorem fw_col (u : Nat → Nat) (k a : Nat) : fwk u (k + 1) a k = fwk u k a k := by
  show min _ _ = _
  rw [fw_dg u k k, Nat.add_zero, Nat.min_self]
/-- an array as a function, in the memory -/
def hz_sa (I : Nat → Nat → Int32) (a : Nat) (f : Nat → Int32) : Nat → Nat → Int32 := fun b => if b = a then f else I b
theorem hz_sau (I : Nat → Nat → Int32) (L : Nat → Nat → Int64) (P : Nat → Nat → Nat) (a : Nat) (f : Nat → Int32) (j : Nat) {x : Int32} : hz_uI (hz_sa I a f, L, P) a j x = (hz_sa I a (va_up f j x), L, P) := by
  unfold hz_uI
  congr 1
  funext b
  by_cases h : b = a
  · subst h; simp [hz_up, hz_sa]
  · simp [hz_up, hz_sa, h]
theorem hz_sa_id (I : Nat → Nat → Int32) (a : Nat) : hz_sa I a (I a) = I := by
  funext b
  by_cases h : b = a
  · subst h; simp [hz_sa]
  · simp [hz_sa, h]
theorem hP22 (q : Nat → Nat → Nat) {k : Nat} (h : k < 6) : PP q 22 k = 23 + k := by
  rcases (show k = 0 ∨ k = 1 ∨ k = 2 ∨ k = 3 ∨ k = 4 ∨ k = 5 by omega) with rfl | rfl | rfl | rfl | rfl | rfl
  · exact hP22_0 q
  · exact hP22_1 q
  · exact hP22_2 q
  · exact hP22_3 q
  · exact hP22_4 q
  · exact hP22_5 q

def stR (t : Nat) (x u : Nat → Nat) (R : pR) : pR := if R.1 = true then (if kc t x (nxe t x R.2.1) = 3 then (true, nxe t x (nxe t x R.2.1), R.2.2) else (false, nxe t x R.2.1, u)) else R
section STR
variable {t : Nat} {x u : Nat → Nat} {s : Nat}
theorem stR_f (p : Nat) : stR t x u (false, p, u) = (false, p, u) := if_neg (fun z => absurd (show false = true from z) (by decide))
theorem stR_t (p : Nat) (w : Nat → Nat) : stR t x u (true, p, w) = if kc t x (nxe t x p) = 3 then (true, nxe t x (nxe t x p), w) else (false, nxe t x p, u) := if_pos rfl
theorem st_cold : pHouse t x u s = stR t x u (rCold t x u s) := by
  unfold pHouse rCold
  by_cases h : okn t x s 0 (nI 9) = true
  · rw [if_pos h, if_pos h, stR_t]
  · rw [if_neg h, if_neg h, stR_f]
theorem st_down : pDown t x u s = stR t x u (rDown t x u s) := by
  unfold pDown rDown
  by_cases h : okn t x s 0 (nI (u 64) - nI 1) = true
  · rw [if_pos h, if_pos h, stR_t]
  · rw [if_neg h, if_neg h, stR_f]
theorem st_alarm : pAlarm t x u s = stR t x u (rAlarm t x u s) := by
  unfold pAlarm rAlarm
  by_cases h : okn t x s 0 (nI 5) = true
  · rw [if_pos h, if_pos h]
    by_cases h2 : okn t x (nxe t x s) 0 (nI 7) = true
    · rw [if_pos h2, if_pos h2]
      by_cases h3 : okn t x (nxe t x (nxe t x s)) 0 (nI 99) = true
      · rw [if_pos h3, if_pos h3, stR_t]
      · rw [if_neg h3, if_neg h3, stR_f]
    · rw [if_neg h2, if_neg h2, stR_f]
  · rw [if_neg h, if_neg h, stR_f]
theorem st_door (hs : s ≤ t) : pDoor t x u s = stR t x u (rDoor t x u s) := by
  unfold pDoor rDoor
  by_cases h : okn t x s 0 (nI 7) = true
  · rw [if_pos h, if_pos h]
    by_cases h2 : okn t x (nxe t x s) 0 (nI 7) = true
    · rw [okn_v h2, if_pos h2, if_pos h2]
      by_cases he : nI (vl t x (nxe t x s)) = nI (vl t x s)
      · rw [if_pos he, if_pos he, stR_f]
      · rw [if_neg he, if_neg he]
        by_cases h3 : okn t x (nxe t x (nxe t x s)) 1 (nI 9) = true
        · rw [if_pos h3, if_pos h3, stR_t]
        · rw [if_neg h3, if_neg h3, stR_f]
    · rw [if_neg h2, if_neg h2, stR_f]
      split <;> rfl
  · rw [if_neg h, if_neg h, stR_f]
theorem st_item (hs : s ≤ t) (f : Bool) : pItem t x u f s = stR t x u (rItem t x u f s) := by
  unfold pItem rItem
  by_cases h0 : wd t x s 0 = true
  · rw [if_pos h0, if_pos h0]
    by_cases hf : f = true
    · rw [if_pos hf, if_pos hf]; exact st_cold
    · rw [if_neg hf, if_neg hf, stR_f]
  · rw [if_neg h0, if_neg h0]
    by_cases hf : f = true
    · rw [if_pos hf, if_pos hf, stR_f]
    · rw [if_neg hf, if_neg hf]
      by_cases h1 : wd t x s 1 = true
      · rw [if_pos h1, if_pos h1]; exact st_door (nxe_t hs)
      · rw [if_neg h1, if_neg h1]
        by_cases h2 : wd t x s 2 = true
        · rw [if_pos h2, if_pos h2]
          by_cases h6 : u 64 < 6
          · rw [if_pos h6, if_pos h6]; exact st_alarm
          · rw [if_neg h6, if_neg h6, stR_f]
        · rw [if_neg h2, if_neg h2]
          by_cases h3 : wd t x s 3 = true
          · rw [if_pos h3, if_pos h3]; exact st_down
          · rw [if_neg h3, if_neg h3, stR_f]
/-- a good item of the reference: the house stays in its ranges, and the reading goes on -/
def rG (t : Nat) (s : Nat) (R : pR) : Prop := R.1 = true → WU R.2.2 ∧ s ≤ R.2.1 ∧ R.2.1 ≤ t
theorem rg_cold (hs : s ≤ t) (U : WU u) : rG t s (rCold t x u s) := by
  unfold rCold rG
  by_cases h : okn t x s 0 (nI 9) = true
  · rw [if_pos h]; exact fun _ => ⟨wu_cold U (okn_b hs (by decide) h).2.1, Nat.le_refl _, hs⟩
  · rw [if_neg h]; exact fun z => absurd (show false = true from z) (by decide)
theorem rg_down (hs : s ≤ t) (U : WU u) : rG t s (rDown t x u s) := by
  unfold rDown rG
  by_cases h : okn t x s 0 (nI (u 64) - nI 1) = true
  · rw [if_pos h]; exact fun _ => ⟨wu_down U (down_v (wu_dn U) (Nat.lt_of_lt_of_le (okn_d hs (wu_al U) h) (wu_al U)) (x := 1) (by decide)).2, Nat.le_refl _, hs⟩
  · rw [if_neg h]; exact fun z => absurd (show false = true from z) (by decide)
theorem rg_no (p : Nat) (w : Nat → Nat) : rG t s (false, p, w) := fun z => absurd (show false = true from z) (by decide)
theorem rg_door (hs : s ≤ t) (U : WU u) : rG t s (rDoor t x u s) := by
  have zzn1 := nxe_ok x hs
  have zzn2 := nxe_ok x (nxe_t (x := x) hs)
  unfold rDoor
  by_cases h : okn t x s 0 (nI 7) = true
  · rw [if_pos h]
    by_cases h2 : okn t x (nxe t x s) 0 (nI 7) = true
    · rw [if_pos h2]
      by_cases he : nI (vl t x (nxe t x s)) = nI (vl t x s)
      · rw [if_pos he]; exact rg_no _ _
      · rw [if_neg he]
        by_cases h3 : okn t x (nxe t x (nxe t x s)) 1 (nI 9) = true
        · rw [if_pos h3]
          exact fun _ => ⟨wu_door U (Nat.lt_succ_of_le (okn_b hs (by decide) h).2.1) (Nat.lt_succ_of_le (okn_b (nxe_t hs) (by decide) h2).2.1) (fun e => he (congrArg nI e.symm)) (okn_b (nxe_t (nxe_t hs)) (by decide) h3).2.1, by show s ≤ nxe t x (nxe t x s); omega, nxe_t (nxe_t hs)⟩
        · rw [if_neg h3]; exact rg_no _ _
    · rw [if_neg h2]; exact rg_no _ _
  · rw [if_neg h]; exact rg_no _ _
theorem rg_alarm (hs : s ≤ t) (U : WU u) (h6 : u 64 < 6) : rG t s (rAlarm t x u s) := by
  have zzn1 := nxe_ok x hs
  have zzn2 := nxe_ok x (nxe_t (x := x) hs)
  unfold rAlarm
  by_cases h : okn t x s 0 (nI 5) = true
  · rw [if_pos h]
    by_cases h2 : okn t x (nxe t x s) 0 (nI 7) = true
    · rw [if_pos h2]
      by_cases h3 : okn t x (nxe t x (nxe t x s)) 0 (nI 99) = true
      · rw [if_pos h3]
        exact fun _ => ⟨wu_alarm U h6 (Nat.lt_succ_of_le (okn_b hs (by decide) h).2.1) (Nat.lt_succ_of_le (okn_b (nxe_t hs) (by decide) h2).2.1) (okn_b (nxe_t (nxe_t hs)) (by decide) h3).2.2, by show s ≤ nxe t x (nxe t x s); omega, nxe_t (nxe_t hs)⟩
      · rw [if_neg h3]; exact rg_no _ _
    · rw [if_neg h2]; exact rg_no _ _
  · rw [if_neg h]; exact rg_no _ _
theorem rg_item (hs : s ≤ t) (U : WU u) (f : Bool) (hR : (rItem t x u f s).1 = true) : WU (rItem t x u f s).2.2 ∧ s < (rItem t x u f s).2.1 ∧ (rItem t x u f s).2.1 ≤ t := by
  have zzn1 := nxe_ok x hs
  have go : ∀ {w : Nat} {R : pR}, wd t x s w = true → rG t (nxe t x s) R → R.1 = true → WU R.2.2 ∧ s < R.2.1 ∧ R.2.1 ≤ t := fun {w} {R} hw g z => by
    have hlt := zzn1.2.2.2 (by have := (wd_i.mp hw).1; omega)
    obtain ⟨zzg1, zzg2, zzg3⟩ := g z
    exact ⟨zzg1, by omega, zzg3⟩
  revert hR
  unfold rItem
  by_cases h0 : wd t x s 0 = true
  · rw [if_pos h0]
    by_cases hf : f = true
    · rw [if_pos hf]; exact go h0 (rg_cold (nxe_t hs) U)
    · rw [if_neg hf]; exact fun z => absurd (show false = true from z) (by decide)
  · rw [if_neg h0]
    by_cases hf : f = true
    · rw [if_pos hf]; exact fun z => absurd (show false = true from z) (by decide)
    · rw [if_neg hf]
      by_cases h1 : wd t x s 1 = true
      · rw [if_pos h1]; exact go h1 (rg_door (nxe_t hs) U)
      · rw [if_neg h1]
        by_cases h2 : wd t x s 2 = true
        · rw [if_pos h2]
          by_cases h6 : u 64 < 6
          · rw [if_pos h6]; exact go h2 (rg_alarm (nxe_t hs) U h6)
          · rw [if_neg h6]; exact fun z => absurd (show false = true from z) (by decide)
        · rw [if_neg h2]
          by_cases h3 : wd t x s 3 = true
          · rw [if_pos h3]; exact go h3 (rg_down (nxe_t hs) U)
          · rw [if_neg h3]; exact fun z => absurd (show false = true from z) (by decide)
end STR

theorem bsum_bt {s n : Nat} (hn : n ≤ 6) (hs : s < 2 ^ n) : bsum (bt s) n = s := by
  have h : ∀ n, n < 7 → ∀ s, s < 2 ^ n → bsum (bt s) n = s := by decide +kernel
  exact h n (by omega) s hs
theorem bsum_mono {f g : Nat → Bool} (h : ∀ o, f o = true → g o = true) : ∀ n, bsum f n ≤ bsum g n := by
  intro n
  induction n with
  | zero => exact Nat.le_refl _
  | succ n ih =>
    by_cases hf : f n = true
    · rw [bsum_t hf, bsum_t (h n hf)]; omega
    · rw [bsum_f hf]
      by_cases hg : g n = true
      · rw [bsum_t hg]; exact Nat.le_trans ih (Nat.le_add_right _ _)
      · rw [bsum_f hg]; exact ih
theorem pa_le {u : Nat → Nat} (U : WU u) {s : Nat} (hs : s < 2 ^ u 64) (r k : Nat) : pa u s r k ≤ s := by
  have h := bsum_mono (f := fun o => bt s o && sm u r k o) (g := bt s) (fun o ho => by simp only [Bool.and_eq_true] at ho; exact ho.1) (u 64)
  rw [bsum_bt (wu_al U) hs] at h
  exact h
theorem mxf_cong {f g : Nat → Nat} : ∀ {n : Nat}, (∀ k, k < n → f k = g k) → mxf f n = mxf g n := by
  intro n
  induction n with
  | zero => intro _; rfl
  | succ n ih => intro h; simp only [mxf]; rw [ih (fun k hk => h k (by omega)), h n (by omega)]
theorem mxf_ge {f : Nat → Nat} : ∀ {n k : Nat}, k < n → f k ≤ mxf f n := by
  intro n
  induction n with
  | zero => intro k h; omega
  | succ n ih =>
    intro k h
    show f k ≤ max (mxf f n) (f n)
    by_cases hk : k = n
    · subst hk; exact Nat.le_max_right _ _
    · exact Nat.le_trans (ih (show k < n by omega)) (Nat.le_max_left _ _)
theorem mxf_ex {f : Nat → Nat} {b : Nat} (hb : 0 < b) : ∀ {n : Nat}, b ≤ mxf f n → ∃ k, k < n ∧ b ≤ f k := by
  intro n
  induction n with
  | zero => intro h; exact absurd (show b ≤ 0 from h) (by omega)
  | succ n ih =>
    intro h
    have h2 : b ≤ max (mxf f n) (f n) := h
    by_cases h3 : b ≤ f n
    · exact ⟨n, by omega, h3⟩
    · obtain ⟨k, hk, hk2⟩ := ih (by omega)
      exact ⟨k, by omega, hk2⟩
theorem mxf_lt {f : Nat → Nat} {b : Nat} (hb : 0 < b) {n : Nat} (h : ∀ k, k < n → f k < b) : mxf f n < b := Nat.lt_of_not_le fun z => by
  obtain ⟨k, hk, hk2⟩ := mxf_ex hb z
  have := h k hk
  omega
theorem anyb_no {f : Nat → Bool} : ∀ {n : Nat}, (∀ k, k < n → f k = false) → anyb f n = false := by
  intro n
  induction n with
  | zero => intro _; rfl
  | succ n ih => intro h; simp only [anyb]; rw [ih (fun k hk => h k (by omega)), h n (by omega)]; rfl
/-! the table: how often, and where first; 100 is never -/
def wk (u : Nat → Nat) (t : Nat → Nat × Nat) (s r k : Nat) : Nat := if bt s k = true then (t (pa u s r k)).1 else 0
def wany (u : Nat → Nat) (s r k : Nat) : Bool := bt s k && decide (pa u s r k = s)
def wp (u : Nat → Nat) (t : Nat → Nat × Nat) (s r : Nat) : Nat := if anyb (wany u s r) 6 = true then 100 else mxf (wk u t s r) 6
def sfold (u : Nat → Nat) (t : Nat → Nat × Nat) (s : Nat) : Nat → Nat × Nat
  | 0 => (100, 0)
  | r + 1 => if 1 + wp u t s r < (sfold u t s r).1 then (1 + wp u t s r, r) else sfold u t s r
def cell (u : Nat → Nat) (t : Nat → Nat × Nat) (s : Nat) : Nat × Nat := if csum (bt s) 6 < 2 then (0, 0) else sfold u t s 8
def svT (u : Nat → Nat) : Nat → Nat → Nat × Nat
  | 0 => fun _ => (0, 0)
  | m + 1 => fun p => if p = m then cell u (svT u m) m else svT u m p
def SV (u : Nat → Nat) (s : Nat) : Nat × Nat := svT u (s + 1) s
theorem svT_at (u : Nat → Nat) {p : Nat} : ∀ {m : Nat}, p < m → svT u m p = SV u p := by
  intro m
  induction m with
  | zero => intro h; omega
  | succ m ih =>
    intro h
    by_cases hp : p = m
    · subst hp; rfl
    · show (if p = m then _ else _) = _
      rw [if_neg hp]
      exact ih (by omega)
theorem wp_cong {u : Nat → Nat} (U : WU u) {s : Nat} (hs : s < 2 ^ u 64) {t t' : Nat → Nat × Nat} (h : ∀ p, p < s → t p = t' p) (r : Nat) : wp u t s r = wp u t' s r := by
  unfold wp
  by_cases ha : anyb (wany u s r) 6 = true
  · rw [if_pos ha, if_pos ha]
  · rw [if_neg ha, if_neg ha]
    refine mxf_cong fun k hk => ?_
    unfold wk
    by_cases hb : bt s k = true
    · rw [if_pos hb, if_pos hb]
      have h1 := pa_le U hs r k
      have h2 : pa u s r k ≠ s := fun z => ha (anyb_of hk (by unfold wany; rw [hb, decide_eq_true z]; rfl))
      rw [h _ (by omega)]
    · rw [if_neg hb, if_neg hb]
theorem sfold_cong {u : Nat → Nat} (U : WU u) {s : Nat} (hs : s < 2 ^ u 64) {t t' : Nat → Nat × Nat} (h : ∀ p, p < s → t p = t' p) : ∀ r, sfold u t s r = sfold u t' s r := by
  intro r
  induction r with
  | zero => rfl
  | succ r ih => simp only [sfold]; rw [wp_cong U hs h r, ih]
theorem SV_eq {u : Nat → Nat} (U : WU u) {s : Nat} (hs : s < 2 ^ u 64) : SV u s = cell u (SV u) s := by
  show (if s = s then cell u (svT u s) s else _) = _
  rw [if_pos rfl]
  unfold cell
  split
  · rfl
  · exact sfold_cong U hs (fun p hp => svT_at u hp) 8
def tb (t : Nat → Nat × Nat) (s : Nat) : Prop := ∀ p, p < s → (t p).1 ≤ p ∨ (t p).1 = 100
theorem wp_bd {u : Nat → Nat} (U : WU u) {s : Nat} (hs : s < 2 ^ u 64) {t : Nat → Nat × Nat} (B : tb t s) (h0 : 0 < s) (r : Nat) : 1 + wp u t s r ≤ s ∨ 100 ≤ wp u t s r := by
  unfold wp
  by_cases ha : anyb (wany u s r) 6 = true
  · rw [if_pos ha]; omega
  · rw [if_neg ha]
    by_cases hx : 100 ≤ mxf (wk u t s r) 6
    · exact Or.inr hx
    · refine Or.inl ?_
      have hlt := mxf_lt (f := wk u t s r) (b := s) h0 (n := 6) (fun k hk => by
        have hge := mxf_ge (f := wk u t s r) (n := 6) hk
        by_cases hb : bt s k = true
        · have hw : wk u t s r k = (t (pa u s r k)).1 := if_pos hb
          rw [hw] at hge ⊢
          have h1 := pa_le U hs r k
          have h2 : pa u s r k ≠ s := fun z => ha (anyb_of hk (by unfold wany; rw [hb, decide_eq_true z]; rfl))
          rcases B (pa u s r k) (by omega) with zzb1 | zzb1 <;> omega
        · rw [show wk u t s r k = 0 from if_neg hb]; exact h0)
      omega
theorem sfold_bd {u : Nat → Nat} (U : WU u) {s : Nat} (hs : s < 2 ^ u 64) {t : Nat → Nat × Nat} (B : tb t s) (h0 : 0 < s) : ∀ r, ((sfold u t s r).1 ≤ s ∨ (sfold u t s r).1 = 100) ∧ (sfold u t s r).2 ≤ r := by
  intro r
  induction r with
  | zero => exact ⟨Or.inr rfl, Nat.le_refl _⟩
  | succ r ih =>
    have h64 := pw64 U hs
    have h1 := wp_bd U hs B h0 r
    simp only [sfold]
    split
    · refine ⟨?_, by show r ≤ r + 1; omega⟩
      show 1 + wp u t s r ≤ s ∨ 1 + wp u t s r = 100
      omega
    · exact ⟨ih.1, by omega⟩
theorem SV_bd {u : Nat → Nat} (U : WU u) : ∀ s, s ≤ 2 ^ u 64 → tb (SV u) s := by
  intro s
  induction s with
  | zero => intro _ p hp; omega
  | succ s ih =>
    intro hs p hp
    by_cases hps : p = s
    · subst hps
      rw [SV_eq U (by omega)]
      unfold cell
      split
      · exact Or.inl (Nat.zero_le _)
      · rename_i hc
        have h0 : 0 < p := Nat.pos_of_ne_zero fun z => by subst z; exact hc (by decide)
        exact (sfold_bd U (by omega) (ih (by omega)) h0 8).1
    · exact ih (by omega) p (by omega)
theorem SV_ok {u : Nat → Nat} (U : WU u) {s : Nat} (hs : s < 2 ^ u 64) : ((SV u s).1 ≤ s ∨ (SV u s).1 = 100) := SV_bd U (s + 1) (by omega) s (by omega)
/-! as the reference says it -/
def rb (u : Nat → Nat) (t : Nat → Nat × Nat) (s r k : Nat) : Nat := if bt s k = true then (if pa u s r k = s ∨ 100 ≤ (t (pa u s r k)).1 then 999 else (t (pa u s r k)).1) else 0
theorem rb_lo {u : Nat → Nat} (U : WU u) {s : Nat} (hs : s < 2 ^ u 64) {t : Nat → Nat × Nat} {r : Nat} (h : mxf (rb u t s r) (u 64) < 999) : wp u t s r = mxf (rb u t s r) (u 64) := by
  have hk : ∀ k, k < 6 → bt s k = true → ¬ (pa u s r k = s ∨ 100 ≤ (t (pa u s r k)).1) := fun k hk hb z => by
    have h1 := mxf_ge (f := rb u t s r) (n := u 64) (bt_lt hs hb)
    unfold rb at h1
    rw [if_pos hb, if_pos z] at h1
    unfold rb at h
    omega
  have ha : anyb (wany u s r) 6 = false := anyb_no fun k h6 => by
    by_cases hb : bt s k = true
    · unfold wany
      rw [hb, decide_eq_false (fun z => hk k h6 hb (Or.inl z))]; rfl
    · unfold wany
      rw [Bool.eq_false_iff.mpr hb]; rfl
  unfold wp
  rw [if_neg (by rw [ha]; decide)]
  have h2 := mxf_hi (f := rb u t s r) (m := u 64) (fun k hk2 => by
    unfold rb
    rw [if_neg (fun z => absurd (bt_lt hs z) (by omega))]) (6 - u 64)
  rw [show u 64 + (6 - u 64) = 6 by have := wu_al U; omega] at h2
  rw [← h2]
  refine mxf_cong fun k h6 => ?_
  unfold wk rb
  by_cases hb : bt s k = true
  · rw [if_pos hb, if_pos hb, if_neg (hk k h6 hb)]
  · rw [if_neg hb, if_neg hb]
theorem rb_sm {u : Nat → Nat} {s : Nat} {t : Nat → Nat × Nat} {r n : Nat} (h : mxf (rb u t s r) n < 999) : mxf (rb u t s r) n < 100 := Nat.lt_of_not_le fun z => by
  obtain ⟨k, hk, hk2⟩ := mxf_ex (by decide) z
  have h1 := mxf_ge (f := rb u t s r) (n := n) hk
  have h2 : rb u t s r k = 0 ∨ rb u t s r k = 999 ∨ (rb u t s r k < 100) := by
    unfold rb
    split
    · split
      · exact Or.inr (Or.inl rfl)
      · rename_i h3; exact Or.inr (Or.inr (Nat.lt_of_not_le fun y => h3 (Or.inr y)))
    · exact Or.inl rfl
  omega
theorem rb_hi {u : Nat → Nat} (U : WU u) {s : Nat} (hs : s < 2 ^ u 64) {t : Nat → Nat × Nat} {r : Nat} (h : 999 ≤ mxf (rb u t s r) (u 64)) (B : tb t s) (h64 : s < 100) : 100 ≤ wp u t s r := by
  obtain ⟨k, hk, hk2⟩ := mxf_ex (by decide) h
  have h6 : k < 6 := Nat.lt_of_lt_of_le hk (wu_al U)
  unfold rb at hk2
  by_cases hb : bt s k = true
  · rw [if_pos hb] at hk2
    unfold wp
    by_cases ha : anyb (wany u s r) 6 = true
    · rw [if_pos ha]; omega
    · rw [if_neg ha]
      have h2 : pa u s r k ≠ s := fun z => ha (anyb_of h6 (by unfold wany; rw [hb, decide_eq_true z]; rfl))
      have h3 := mxf_ge (f := wk u t s r) (n := 6) h6
      unfold wk at h3 ⊢
      rw [if_pos hb] at h3
      by_cases hx : 100 ≤ (t (pa u s r k)).1
      · omega
      · rw [if_neg (fun z => z.elim h2 hx)] at hk2
        omega
  · rw [if_neg hb] at hk2; omega
theorem sf_yes {u : Nat → Nat} (U : WU u) {s : Nat} (hs : s < 2 ^ u 64) {t : Nat → Nat × Nat} (B : tb t s) (h0 : 0 < s) {r : Nat} (h : mxf (rb u t s r) (u 64) < 999) (h2 : 100 ≤ (sfold u t s r).1 ∨ 1 + mxf (rb u t s r) (u 64) < (sfold u t s r).1) : sfold u t s (r + 1) = (1 + mxf (rb u t s r) (u 64), r) := by
  have e := rb_lo U hs h
  have zze2 := rb_sm h
  have h64 := pw64 U hs
  have zzb1 := wp_bd U hs B h0 r
  have zzb2 := (sfold_bd U hs B h0 r).1
  simp only [sfold]
  rw [if_pos (by omega), e]
theorem sf_no1 {u : Nat → Nat} (U : WU u) {s : Nat} (hs : s < 2 ^ u 64) {t : Nat → Nat × Nat} (B : tb t s) (h0 : 0 < s) {r : Nat} (h : 999 ≤ mxf (rb u t s r) (u 64)) : sfold u t s (r + 1) = sfold u t s r := by
  have h64 := pw64 U hs
  have e := rb_hi U hs h B (by omega)
  have zzb2 := (sfold_bd U hs B h0 r).1
  simp only [sfold]
  rw [if_neg (by omega)]
theorem sf_no2 {u : Nat → Nat} (U : WU u) {s : Nat} (hs : s < 2 ^ u 64) {t : Nat → Nat × Nat} {r : Nat} (h : mxf (rb u t s r) (u 64) < 999) (h2 : (sfold u t s r).1 ≤ 1 + mxf (rb u t s r) (u 64)) : sfold u t s (r + 1) = sfold u t s r := by
  have e := rb_lo U hs h
  simp only [sfold]
  rw [if_neg (by omega)]
/-- how the reference keeps 'never' -/
def dI (x : Nat) : Int32 := if 100 ≤ x then -1 else nI x
theorem dI_t {x : Nat} (h : 100 ≤ x) : dI x = -1 := if_pos h
theorem dI_f {x : Nat} (h : ¬ 100 ≤ x) : dI x = nI x := if_neg h
theorem dI_m1 {x : Nat} : dI x = -1 ↔ 100 ≤ x := by
  by_cases h : 100 ≤ x
  · exact ⟨fun _ => h, fun _ => dI_t h⟩
  · rw [dI_f h]
    exact ⟨fun z => absurd z (nm1 (by omega)), fun z => absurd z h⟩
theorem csb {s : Nat} (h : s < 64) : csum (bt s) 6 ≤ 6 := csum_le _ 6
theorem cs0 {s : Nat} (h : s < 64) (h0 : 0 < s) : 1 ≤ csum (bt s) 6 := by
  have h9 : ∀ s, s < 64 → 0 < s → 1 ≤ csum (bt s) 6 := by decide +kernel
  exact h9 s h h0
/-- parts of a set -/
def sub (p a : Nat) : Prop := ∀ k, k < 6 → bt p k = true → bt a k = true
theorem sub_i {p a : Nat} (hp : p < 64) (ha : a < 64) : (nI p &&& (nI a ^^^ (-1 : Int32))) = 0 ↔ sub p a := by
  have h : ∀ p, p < 64 → ∀ a, a < 64 → ((nI p &&& (nI a ^^^ (-1 : Int32))) = 0 ↔ ∀ k, k < 6 → bt p k = true → bt a k = true) := by decide +kernel
  exact h p hp a ha
theorem sub_pa {u : Nat → Nat} (U : WU u) {s a r k : Nat} (h : sub s a) : sub (pa u s r k) a := fun o ho hb => by
  have h1 : o < u 64 := bt_lt (bsum_lt _ _) hb
  unfold pa at hb
  rw [bt_bsum h1] at hb
  simp only [Bool.and_eq_true] at hb
  exact h o ho hb.1
theorem pa_pos {u : Nat → Nat} (U : WU u) {s r k : Nat} (hs : s < 2 ^ u 64) (hb : bt s k = true) : 0 < pa u s r k := Nat.pos_of_ne_zero fun z => by
  have h1 : bt (pa u s r k) k = true := by
    unfold pa
    rw [bt_bsum (bt_lt hs hb), hb]
    simp [sm]
  rw [z] at h1
  revert h1
  unfold bt
  rw [Nat.zero_div]
  decide

/-- the least of some -/
def mnf (f : Nat → Nat) (p : Nat → Bool) : Nat → Nat
  | 0 => 1000
  | n + 1 => if p n = true then min (mnf f p n) (f n) else mnf f p n
theorem mnf_top (f : Nat → Nat) (p : Nat → Bool) : ∀ n, mnf f p n ≤ 1000 := by
  intro n
  induction n with
  | zero => exact Nat.le_refl _
  | succ n ih =>
    simp only [mnf]
    split
    · exact Nat.le_trans (Nat.min_le_left _ _) ih
    · exact ih
theorem mnf_le {f : Nat → Nat} {p : Nat → Bool} : ∀ {n b : Nat}, b < n → p b = true → mnf f p n ≤ f b := by
  intro n
  induction n with
  | zero => intro b h; omega
  | succ n ih =>
    intro b h hp
    simp only [mnf]
    by_cases hb : b = n
    · subst hb; rw [if_pos hp]; exact Nat.min_le_right _ _
    · have h2 := ih (show b < n by omega) hp
      split
      · exact Nat.le_trans (Nat.min_le_left _ _) h2
      · exact h2
theorem mnf_ge {f : Nat → Nat} {p : Nat → Bool} {v : Nat} (hv : v ≤ 1000) : ∀ {n : Nat}, (∀ b, b < n → p b = true → v ≤ f b) → v ≤ mnf f p n := by
  intro n
  induction n with
  | zero => intro _; exact hv
  | succ n ih =>
    intro h
    have h2 := ih (fun b hb hp => h b (by omega) hp)
    simp only [mnf]
    split
    · rename_i hp; exact Nat.le_min.mpr ⟨h2, h n (by omega) hp⟩
    · exact h2
theorem mnf_ex {f : Nat → Nat} {p : Nat → Bool} : ∀ {n : Nat}, mnf f p n < 1000 → ∃ b, b < n ∧ p b = true ∧ f b = mnf f p n := by
  intro n
  induction n with
  | zero => intro h; exact absurd (show 1000 < 1000 from h) (by decide)
  | succ n ih =>
    intro h
    simp only [mnf] at h ⊢
    by_cases hp : p n = true
    · rw [if_pos hp] at h ⊢
      by_cases hm : f n ≤ mnf f p n
      · exact ⟨n, by omega, hp, (Nat.min_eq_right hm).symm⟩
      · rw [Nat.min_eq_left (by omega)] at h ⊢
        obtain ⟨b, h1, h2, h3⟩ := ih h
        exact ⟨b, by omega, h2, h3⟩
    · rw [if_neg hp] at h ⊢
      obtain ⟨b, h1, h2, h3⟩ := ih h
      exact ⟨b, by omega, h2, h3⟩
theorem mnf_cong {f g : Nat → Nat} {p : Nat → Bool} : ∀ {n : Nat}, (∀ b, b < n → p b = true → f b = g b) → mnf f p n = mnf g p n := by
  intro n
  induction n with
  | zero => intro _; rfl
  | succ n ih =>
    intro h
    simp only [mnf]
    rw [ih (fun b hb hp => h b (by omega) hp)]
    by_cases hp : p n = true
    · rw [if_pos hp, if_pos hp, h n (by omega) hp]
    · rw [if_neg hp, if_neg hp]
theorem mnf_hi {f : Nat → Nat} {p : Nat → Bool} {m : Nat} (h : ∀ k, m ≤ k → p k = false) : ∀ n, mnf f p (m + n) = mnf f p m := by
  intro n
  induction n with
  | zero => rfl
  | succ n ih =>
    show (if p (m + n) = true then _ else mnf f p (m + n)) = _
    rw [h (m + n) (by omega), if_neg (by decide), ih]
/-- the least walk from a through all n of the set -/
def RF (dd : Nat → Nat → Nat) : Nat → Nat → Nat → Nat
  | 0, _, _ => 0
  | n + 1, S, a => mnf (fun b => dd a b + RF dd n (S - 2 ^ b) b) (bt S) 6
def cst (dd : Nat → Nat → Nat) : Nat → List Nat → Nat
  | _, [] => 0
  | a, b :: l => dd a b + cst dd b l
def orb (M d : Nat) : Nat := if bt M d = true then M else M + 2 ^ d
def met : List Nat → Nat
  | [] => 0
  | b :: l => orb (met l) b
def VL (l : List Nat) (S : Nat) : Prop := met l = S ∧ csum (bt S) 6 = l.length ∧ ∀ b, b ∈ l → b < 6
theorem orb_64 {M d : Nat} (hM : M < 64) (hd : d < 6) : orb M d < 64 ∧ bt (orb M d) d = true ∧ (bt M d = true → csum (bt (orb M d)) 6 = csum (bt M) 6) ∧ (¬ bt M d = true → csum (bt (orb M d)) 6 = csum (bt M) 6 + 1 ∧ orb M d - 2 ^ d = M) := by
  have h : ∀ M, M < 64 → ∀ d, d < 6 → orb M d < 64 ∧ bt (orb M d) d = true ∧ (bt M d = true → csum (bt (orb M d)) 6 = csum (bt M) 6) ∧ (¬ bt M d = true → csum (bt (orb M d)) 6 = csum (bt M) 6 + 1 ∧ orb M d - 2 ^ d = M) := by decide +kernel
  exact h M hM d hd
theorem met_ok : ∀ {l : List Nat}, (∀ b, b ∈ l → b < 6) → met l < 64 ∧ csum (bt (met l)) 6 ≤ l.length := by
  intro l
  induction l with
  | nil => intro _; exact ⟨by decide, by decide⟩
  | cons b l ih =>
    intro h
    obtain ⟨h1, h2⟩ := ih (fun c hc => h c (List.mem_cons_of_mem _ hc))
    obtain ⟨zzo1, zzo2, zzo3, zzo4⟩ := orb_64 h1 (h b List.mem_cons_self)
    refine ⟨zzo1, ?_⟩
    show csum (bt (orb (met l) b)) 6 ≤ l.length + 1
    by_cases hb : bt (met l) b = true
    · rw [zzo3 hb]; omega
    · rw [(zzo4 hb).1]; omega
theorem VL.cons {b : Nat} {l : List Nat} {S : Nat} (h : VL (b :: l) S) : b < 6 ∧ bt S b = true ∧ VL l (S - 2 ^ b) := by
  obtain ⟨h1, h2, h3⟩ := h
  have hb := h3 b List.mem_cons_self
  have hl : ∀ c, c ∈ l → c < 6 := fun c hc => h3 c (List.mem_cons_of_mem _ hc)
  obtain ⟨zzm1, zzm2⟩ := met_ok hl
  obtain ⟨zzo1, zzo2, zzo3, zzo4⟩ := orb_64 zzm1 hb
  have e : orb (met l) b = S := h1
  have zze2 : csum (bt S) 6 = l.length + 1 := h2
  have hnb : ¬ bt (met l) b = true := fun z => by
    have := zzo3 z
    rw [e] at this
    omega
  obtain ⟨q1, q2⟩ := zzo4 hnb
  rw [e] at zzo2 q1 q2
  refine ⟨hb, zzo2, q2.symm, ?_, hl⟩
  rw [q2]; omega
theorem sub_s {S b : Nat} (hS : S < 64) (hb : b < 6) (h : bt S b = true) : S - 2 ^ b < 64 ∧ csum (bt S) 6 = csum (bt (S - 2 ^ b)) 6 + 1 ∧ orb (S - 2 ^ b) b = S ∧ ∀ c, c < 6 → (bt (S - 2 ^ b) c = true ↔ bt S c = true ∧ c ≠ b) := by
  have h8 : ∀ S, S < 64 → ∀ b, b < 6 → bt S b = true → S - 2 ^ b < 64 ∧ csum (bt S) 6 = csum (bt (S - 2 ^ b)) 6 + 1 ∧ orb (S - 2 ^ b) b = S := by decide +kernel
  have h9 : ∀ S, S < 64 → ∀ b, b < 6 → bt S b = true → ∀ c, c < 6 → bt (S - 2 ^ b) c = (bt S c && !decide (c = b)) := by decide +kernel
  obtain ⟨q1, q2, q3⟩ := h8 S hS b hb h
  refine ⟨q1, q2, q3, fun c hc => ?_⟩
  rw [h9 S hS b hb h c hc]
  simp
theorem cs_ex {S : Nat} (hS : S < 64) (h : 0 < csum (bt S) 6) : ∃ b, b < 6 ∧ bt S b = true := by
  have h9 : ∀ S, S < 64 → 0 < csum (bt S) 6 → ∃ b, b < 6 ∧ bt S b = true := by decide +kernel
  exact h9 S hS h
theorem cs_0 {S : Nat} (hS : S < 64) (h : csum (bt S) 6 = 0) : S = 0 := by
  have h9 : ∀ S, S < 64 → csum (bt S) 6 = 0 → S = 0 := by decide +kernel
  exact h9 S hS h
/-- no order is shorter than the least walk -/
theorem R_le (dd : Nat → Nat → Nat) : ∀ (l : List Nat) (S a : Nat), VL l S → RF dd l.length S a ≤ cst dd a l := by
  intro l
  induction l with
  | nil => intro S a _; exact Nat.zero_le _
  | cons b l ih =>
    intro S a h
    obtain ⟨h1, h2, h3⟩ := h.cons
    have h4 := ih (S - 2 ^ b) b h3
    have h5 : RF dd (l.length + 1) S a ≤ dd a b + RF dd l.length (S - 2 ^ b) b := mnf_le (f := fun b => dd a b + RF dd l.length (S - 2 ^ b) b) h1 h2
    show RF dd (l.length + 1) S a ≤ dd a b + cst dd b l
    omega
/-- the first that is so, from lo on -/
def fi (f : Nat → Bool) : Nat → Nat → Nat
  | 0, _ => 0
  | n + 1, lo => if f lo = true then lo else fi f n (lo + 1)
theorem fi_ok {f : Nat → Bool} : ∀ {n lo b : Nat}, lo ≤ b → b < lo + n → f b = true → f (fi f n lo) = true ∧ fi f n lo ≤ b ∧ lo ≤ fi f n lo ∧ ∀ c, lo ≤ c → c < fi f n lo → ¬ f c = true := by
  intro n
  induction n with
  | zero => intro lo b h1 h2; omega
  | succ n ih =>
    intro lo b h1 h2 hf
    simp only [fi]
    by_cases hl : f lo = true
    · rw [if_pos hl]
      exact ⟨hl, h1, Nat.le_refl _, fun c zzc1 zzc2 => by omega⟩
    · rw [if_neg hl]
      have hne : lo ≠ b := fun z => hl (z ▸ hf)
      obtain ⟨q1, q2, q3, q4⟩ := ih (lo := lo + 1) (b := b) (by omega) (by omega) hf
      refine ⟨q1, q2, by omega, fun c zzc1 zzc2 => ?_⟩
      by_cases hc : c = lo
      · subst hc; exact hl
      · exact q4 c (by omega) zzc2
def gc (dd : Nat → Nat → Nat) (n S a b : Nat) : Bool := bt S b && decide (dd a b + RF dd n (S - 2 ^ b) b = RF dd (n + 1) S a)
def gb (dd : Nat → Nat → Nat) (n S a : Nat) : Nat := fi (gc dd n S a) 6 0
/-- the first order, rising -/
def gl (dd : Nat → Nat → Nat) : Nat → Nat → Nat → List Nat
  | 0, _, _ => []
  | n + 1, S, a => gb dd n S a :: gl dd n (S - 2 ^ gb dd n S a) (gb dd n S a)
def cod : List Nat → Nat
  | [] => 0
  | b :: l => b * 6 ^ l.length + cod l
theorem cod_lt : ∀ {l : List Nat}, (∀ b, b ∈ l → b < 6) → cod l < 6 ^ l.length := by
  intro l
  induction l with
  | nil => intro _; exact Nat.one_pos
  | cons b l ih =>
    intro h
    have h1 := ih (fun c hc => h c (List.mem_cons_of_mem _ hc))
    have h2 : b ≤ 5 := by have := h b List.mem_cons_self; omega
    have h3 : b * 6 ^ l.length ≤ 5 * 6 ^ l.length := Nat.mul_le_mul_right _ h2
    show b * 6 ^ l.length + cod l < 6 ^ (l.length + 1)
    rw [Nat.pow_succ]
    omega
/-- distances among these are small -/
def fin6 (dd : Nat → Nat → Nat) (S0 : Nat) : Prop := ∀ a b, b < 6 → (a = 6 ∨ (a < 6 ∧ bt S0 a = true)) → bt S0 b = true → dd a b ≤ 63
theorem R_bd {dd : Nat → Nat → Nat} {S0 : Nat} (F : fin6 dd S0) : ∀ (n S a : Nat), n ≤ 6 → S < 64 → sub S S0 → csum (bt S) 6 = n → (a = 6 ∨ (a < 6 ∧ bt S0 a = true)) → RF dd n S a ≤ 63 * n := by
  intro n
  induction n with
  | zero => intro S a _ _ _ _ _; exact Nat.le_refl _
  | succ n ih =>
    intro S a hn hS hs hc ha
    obtain ⟨b, hb, hbt⟩ := cs_ex hS (by omega)
    obtain ⟨zzs1, zzs2, zzs3, zzs4⟩ := sub_s hS hb hbt
    have h1 : RF dd (n + 1) S a ≤ dd a b + RF dd n (S - 2 ^ b) b := mnf_le (f := fun b => dd a b + RF dd n (S - 2 ^ b) b) hb hbt
    have h2 := ih (S - 2 ^ b) b (by omega) zzs1 (fun c hc2 hb2 => hs c hc2 ((zzs4 c hc2).mp hb2).1) (by omega) (Or.inr ⟨hb, hs b hb hbt⟩)
    have h3 := F a b hb ha (hs b hb hbt)
    omega
theorem gb_ok {dd : Nat → Nat → Nat} {S0 : Nat} (F : fin6 dd S0) {n S a : Nat} (hn : n + 1 ≤ 6) (hS : S < 64) (hs : sub S S0) (hc : csum (bt S) 6 = n + 1) (ha : a = 6 ∨ (a < 6 ∧ bt S0 a = true)) : gb dd n S a < 6 ∧ bt S (gb dd n S a) = true ∧ dd a (gb dd n S a) + RF dd n (S - 2 ^ gb dd n S a) (gb dd n S a) = RF dd (n + 1) S a ∧ ∀ c, c < 6 → bt S c = true → dd a c + RF dd n (S - 2 ^ c) c = RF dd (n + 1) S a → gb dd n S a ≤ c := by
  have hb := R_bd F (n + 1) S a hn hS hs hc ha
  obtain ⟨b, h1, h2, h3⟩ := mnf_ex (f := fun b => dd a b + RF dd n (S - 2 ^ b) b) (p := bt S) (n := 6) (show RF dd (n + 1) S a < 1000 by omega)
  have hg : gc dd n S a b = true := by
    unfold gc
    rw [h2, decide_eq_true (show dd a b + RF dd n (S - 2 ^ b) b = RF dd (n + 1) S a from h3)]; rfl
  obtain ⟨q1, q2, q3, q4⟩ := fi_ok (f := gc dd n S a) (n := 6) (lo := 0) (Nat.zero_le b) (by omega) hg
  have q1' : gc dd n S a (gb dd n S a) = true := q1
  have q2' : gb dd n S a ≤ b := q2
  unfold gc at q1'
  simp only [Bool.and_eq_true, decide_eq_true_eq] at q1'
  refine ⟨by omega, q1'.1, q1'.2, fun c hc6 hcb hce => Nat.le_of_not_lt fun z => q4 c (Nat.zero_le _) z ?_⟩
  unfold gc
  rw [hcb, decide_eq_true hce]; rfl
theorem gl_ok {dd : Nat → Nat → Nat} {S0 : Nat} (F : fin6 dd S0) : ∀ (n S a : Nat), n ≤ 6 → S < 64 → sub S S0 → csum (bt S) 6 = n → (a = 6 ∨ (a < 6 ∧ bt S0 a = true)) → VL (gl dd n S a) S ∧ (gl dd n S a).length = n ∧ cst dd a (gl dd n S a) = RF dd n S a ∧ ∀ l, VL l S → cst dd a l = RF dd n S a → cod (gl dd n S a) ≤ cod l := by
  intro n
  induction n with
  | zero =>
    intro S a _ hS _ hc _
    have e := cs_0 hS hc
    subst e
    exact ⟨⟨rfl, by show csum (bt 0) 6 = 0; decide, fun b hb => absurd hb List.not_mem_nil⟩, rfl, rfl, fun l _ _ => Nat.zero_le _⟩
  | succ n ih =>
    intro S a hn hS hs hc ha
    obtain ⟨zzg1, zzg2, zzg3, zzg4⟩ := gb_ok F hn hS hs hc ha
    obtain ⟨zzs1, zzs2, zzs3, zzs4⟩ := sub_s hS zzg1 zzg2
    obtain ⟨zzi1, zzi2, zzi3, zzi4⟩ := ih (S - 2 ^ gb dd n S a) (gb dd n S a) (by omega) zzs1 (fun c hc2 hb2 => hs c hc2 ((zzs4 c hc2).mp hb2).1) (by omega) (Or.inr ⟨zzg1, hs _ zzg1 zzg2⟩)
    have hlen : (gl dd (n + 1) S a).length = n + 1 := by show (gl dd n _ _).length + 1 = n + 1; rw [zzi2]
    refine ⟨⟨?_, by rw [hc, hlen], fun b hb => ?_⟩, hlen, ?_, fun l hl hcl => ?_⟩
    · show orb (met (gl dd n _ _)) _ = S
      rw [zzi1.1, zzs3]
    · rcases List.mem_cons.mp hb with h | h
      · rw [h]; exact zzg1
      · exact zzi1.2.2 b h
    · show dd a _ + cst dd _ (gl dd n _ _) = _
      rw [zzi3]; exact zzg3
    · cases l with
      | nil =>
        have h2 : csum (bt S) 6 = 0 := hl.2.1
        omega
      | cons b l =>
        obtain ⟨h1, h2, h3⟩ := hl.cons
        have hll : l.length = n := by have h4 : csum (bt S) 6 = l.length + 1 := hl.2.1; omega
        have h5 := R_le dd l (S - 2 ^ b) b h3
        rw [hll] at h5
        have h6 : dd a b + cst dd b l = RF dd (n + 1) S a := hcl
        have h7 : RF dd (n + 1) S a ≤ dd a b + RF dd n (S - 2 ^ b) b := mnf_le (f := fun b => dd a b + RF dd n (S - 2 ^ b) b) h1 h2
        have h8 := zzg4 b h1 h2 (by omega)
        show gb dd n S a * 6 ^ (gl dd n _ _).length + cod (gl dd n _ _) ≤ b * 6 ^ l.length + cod l
        rw [zzi2, hll]
        by_cases hb : b = gb dd n S a
        · subst hb
          have h9 := zzi4 l h3 (by omega)
          omega
        · have hcl2 := cod_lt zzi1.2.2
          rw [zzi2] at hcl2
          have h10 : (gb dd n S a + 1) * 6 ^ n ≤ b * 6 ^ n := Nat.mul_le_mul_right _ (by omega)
          rw [Nat.add_mul, Nat.one_mul] at h10
          omega
/-! codes and lists of figures -/
def dl : Nat → Nat → List Nat
  | 0, _ => []
  | m + 1, c => c / 6 ^ m % 6 :: dl m c
theorem dl_len : ∀ (m c : Nat), (dl m c).length = m := by
  intro m
  induction m with
  | zero => intro c; rfl
  | succ m ih => intro c; show (dl m c).length + 1 = m + 1; rw [ih]
theorem dl_lt : ∀ (m c b : Nat), b ∈ dl m c → b < 6 := by
  intro m
  induction m with
  | zero => intro c b h; exact absurd h List.not_mem_nil
  | succ m ih =>
    intro c b h
    rcases List.mem_cons.mp h with h | h
    · rw [h]; exact Nat.mod_lt _ (by decide)
    · exact ih c b h
theorem dl_cod : ∀ (m c : Nat), cod (dl m c) = c % 6 ^ m := by
  intro m
  induction m with
  | zero => intro c; show 0 = c % 1; rw [Nat.mod_one]
  | succ m ih =>
    intro c
    show c / 6 ^ m % 6 * 6 ^ (dl m c).length + cod (dl m c) = c % 6 ^ (m + 1)
    rw [dl_len, ih, Nat.pow_succ, Nat.mod_mul]
    rw [Nat.mul_comm (6 ^ m) (c / 6 ^ m % 6), Nat.add_comm]
theorem cod_inj : ∀ {l l' : List Nat}, l.length = l'.length → (∀ b, b ∈ l → b < 6) → (∀ b, b ∈ l' → b < 6) → cod l = cod l' → l = l' := by
  intro l
  induction l with
  | nil =>
    intro l' h _ _ _
    cases l' with
    | nil => rfl
    | cons b l' => exact absurd h (by simp)
  | cons b l ih =>
    intro l' h h1 h2 hc
    cases l' with
    | nil => exact absurd h (by simp)
    | cons b' l' =>
      have hl : l.length = l'.length := by simpa using h
      have zzk1 : ∀ c, c ∈ l → c < 6 := fun c hc => h1 c (List.mem_cons_of_mem _ hc)
      have zzk2 : ∀ c, c ∈ l' → c < 6 := fun c hc => h2 c (List.mem_cons_of_mem _ hc)
      have zzc1 := cod_lt zzk1
      have zzc2 := cod_lt zzk2
      have hc2 : b * 6 ^ l.length + cod l = b' * 6 ^ l'.length + cod l' := hc
      rw [← hl] at hc2 zzc2
      have hp : 0 < 6 ^ l.length := Nat.pow_pos (by decide)
      have hb : b = b' := by
        have zzd1 : (b * 6 ^ l.length + cod l) / 6 ^ l.length = b := by rw [Nat.add_comm, Nat.add_mul_div_right _ _ hp, Nat.div_eq_of_lt zzc1, Nat.zero_add]
        have zzd2 : (b' * 6 ^ l.length + cod l') / 6 ^ l.length = b' := by rw [Nat.add_comm, Nat.add_mul_div_right _ _ hp, Nat.div_eq_of_lt zzc2, Nat.zero_add]
        rw [← zzd1, ← zzd2, hc2]
      subst hb
      rw [ih hl zzk1 zzk2 (by omega)]
theorem dl_of {l : List Nat} (h : ∀ b, b ∈ l → b < 6) : dl l.length (cod l) = l := cod_inj (dl_len _ _) (dl_lt _ _) h (by rw [dl_cod, Nat.mod_eq_of_lt (cod_lt h)])
theorem dl_get : ∀ (m c i : Nat), i < m → (dl m c).getD i 0 = c / 6 ^ (m - 1 - i) % 6 := by
  intro m
  induction m with
  | zero => intro c i h; omega
  | succ m ih =>
    intro c i h
    cases i with
    | zero => rfl
    | succ i =>
      show (dl m c).getD i 0 = _
      rw [ih c i (by omega), show m + 1 - 1 - (i + 1) = m - 1 - i by omega]
/-- what a count of all codes ends with is the first of the least -/
theorem way_end {dd : Nat → Nat → Nat} {S m : Nat} (F : fin6 dd S) (hm : m ≤ 6) (hS : S < 64) (hc : csum (bt S) 6 = m) {x : Nat} (hx : x < 6 ^ m) (hv : VL (dl m x) S) (hle : ∀ y, y < 6 ^ m → VL (dl m y) S → cst dd 6 (dl m x) ≤ cst dd 6 (dl m y) ∧ (y < x → cst dd 6 (dl m x) < cst dd 6 (dl m y))) : cst dd 6 (dl m x) = RF dd m S 6 ∧ dl m x = gl dd m S 6 := by
  obtain ⟨zzg1, zzg2, zzg3, zzg4⟩ := gl_ok F m S 6 hm hS (fun _ _ h => h) hc (Or.inl rfl)
  have hcl := cod_lt zzg1.2.2
  rw [zzg2] at hcl
  have hd : dl m (cod (gl dd m S 6)) = gl dd m S 6 := by have h9 := dl_of zzg1.2.2; rw [zzg2] at h9; exact h9
  have h1 := hle (cod (gl dd m S 6)) hcl (by rw [hd]; exact zzg1)
  rw [hd, zzg3] at h1
  have h2 := R_le dd (dl m x) S 6 hv
  rw [dl_len] at h2
  have h3 : cst dd 6 (dl m x) = RF dd m S 6 := by omega
  refine ⟨h3, ?_⟩
  have h4 := zzg4 (dl m x) hv h3
  rw [dl_cod, Nat.mod_eq_of_lt hx] at h4
  have h5 : cod (gl dd m S 6) = x := by
    rcases Nat.lt_or_ge (cod (gl dd m S 6)) x with h | h
    · have := h1.2 h; omega
    · omega
  rw [← h5, hd]
theorem way_some {dd : Nat → Nat → Nat} {S m : Nat} (F : fin6 dd S) (hm : m ≤ 6) (hS : S < 64) (hc : csum (bt S) 6 = m) : ∃ x, x < 6 ^ m ∧ VL (dl m x) S := by
  obtain ⟨zzg1, zzg2, zzg3, zzg4⟩ := gl_ok F m S 6 hm hS (fun _ _ h => h) hc (Or.inl rfl)
  have hcl := cod_lt zzg1.2.2
  rw [zzg2] at hcl
  have hd : dl m (cod (gl dd m S 6)) = gl dd m S 6 := by have h9 := dl_of zzg1.2.2; rw [zzg2] at h9; exact h9
  exact ⟨_, hcl, by rw [hd]; exact zzg1⟩

/-- to be taken down: up, neither drawer nor phone, beeping in some second -/
def lo1 (u : Nat → Nat) (k : Nat) : Bool := !bt (u 93) k && (!sd_of (u (65 + k)) && so_ev (u (65 + k)) (nI (u 92)) (nI (u (94 + k))))
def loS (u : Nat → Nat) : Nat := bsum (lo1 u) (u 64)
def mm (u : Nat → Nat) : Nat := csum (lo1 u) (u 64)
def tgn (u : Nat → Nat) : Nat → Nat → Nat
  | 0 => fun _ => 0
  | n + 1 => if lo1 u n = true then va_up (tgn u n) (csum (lo1 u) n) n else tgn u n
def tgx (u : Nat → Nat) : Nat → Nat := tgn u (u 64)
theorem tgn_ok (u : Nat → Nat) : ∀ n, (∀ i, i < csum (lo1 u) n → tgn u n i < n ∧ lo1 u (tgn u n i) = true) ∧ (∀ i j, i < j → j < csum (lo1 u) n → tgn u n i < tgn u n j) ∧ ∀ k, k < n → lo1 u k = true → ∃ i, i < csum (lo1 u) n ∧ tgn u n i = k := by
  intro n
  induction n with
  | zero => exact ⟨fun i h => absurd h (Nat.not_lt_zero _), fun i j _ h => absurd h (Nat.not_lt_zero _), fun k h => absurd h (Nat.not_lt_zero _)⟩
  | succ n ih =>
    obtain ⟨h1, h2, h3⟩ := ih
    by_cases hl : lo1 u n = true
    · have e : tgn u (n + 1) = va_up (tgn u n) (csum (lo1 u) n) n := if_pos hl
      rw [e, csum_t hl]
      refine ⟨fun i hi => ?_, fun i j hij hj => ?_, fun k hk hk2 => ?_⟩
      · by_cases hi2 : i = csum (lo1 u) n
        · subst hi2; rw [va_up_self]; exact ⟨by omega, hl⟩
        · rw [va_up_ne _ _ hi2]
          have h9 := h1 i (by omega)
          exact ⟨by omega, h9.2⟩
      · rw [va_up_ne _ _ (by omega)]
        by_cases hj2 : j = csum (lo1 u) n
        · subst hj2; rw [va_up_self]; exact (h1 i hij).1
        · rw [va_up_ne _ _ hj2]; exact h2 i j hij (by omega)
      · by_cases hk3 : k = n
        · subst hk3; exact ⟨csum (lo1 u) k, by omega, va_up_self _ _ _⟩
        · obtain ⟨i, hi, hi2⟩ := h3 k (by omega) hk2
          exact ⟨i, by omega, by rw [va_up_ne _ _ (by omega)]; exact hi2⟩
    · have e : tgn u (n + 1) = tgn u n := if_neg hl
      rw [e, csum_f hl]
      refine ⟨fun i hi => ⟨by have := (h1 i hi).1; omega, (h1 i hi).2⟩, h2, fun k hk hk2 => ?_⟩
      have hne : k ≠ n := fun z => hl (z ▸ hk2)
      exact h3 k (by omega) hk2
theorem mm_le {u : Nat → Nat} (U : WU u) : mm u ≤ 6 := Nat.le_trans (csum_le _ _) (wu_al U)
theorem tgx_lt {u : Nat → Nat} {i : Nat} (h : i < mm u) : tgx u i < u 64 := ((tgn_ok u (u 64)).1 i h).1
theorem tgx_lo {u : Nat → Nat} {i : Nat} (h : i < mm u) : lo1 u (tgx u i) = true := ((tgn_ok u (u 64)).1 i h).2
theorem tgx_mono {u : Nat → Nat} {i j : Nat} (h : i < j) (hj : j < mm u) : tgx u i < tgx u j := (tgn_ok u (u 64)).2.1 i j h hj
theorem tgx_sur {u : Nat → Nat} {k : Nat} (h : k < u 64) (hl : lo1 u k = true) : ∃ i, i < mm u ∧ tgx u i = k := (tgn_ok u (u 64)).2.2 k h hl
theorem tgx_inj {u : Nat → Nat} {i j : Nat} (hi : i < mm u) (hj : j < mm u) (h : tgx u i = tgx u j) : i = j := by
  rcases Nat.lt_trichotomy i j with z | z | z
  · have := tgx_mono z hj; omega
  · exact z
  · have := tgx_mono z hi; omega
theorem csum_cong {f g : Nat → Bool} : ∀ {n : Nat}, (∀ k, k < n → f k = g k) → csum f n = csum g n := by
  intro n
  induction n with
  | zero => intro _; rfl
  | succ n ih => intro h; simp only [csum]; rw [ih (fun k hk => h k (by omega)), h n (by omega)]
theorem csum_hi {f : Nat → Bool} {m : Nat} (h : ∀ k, m ≤ k → f k = false) : ∀ n, csum f (m + n) = csum f m := by
  intro n
  induction n with
  | zero => rfl
  | succ n ih =>
    show csum f (m + n) + (if f (m + n) = true then 1 else 0) = _
    rw [h (m + n) (by omega), if_neg (by decide), Nat.add_zero]
    exact ih
theorem bt_no {d n k : Nat} (hd : d < 2 ^ n) (hk : n ≤ k) : bt d k = false := Bool.eq_false_iff.mpr fun z => absurd (bt_lt hd z) (by omega)
theorem cs_loS {u : Nat → Nat} (U : WU u) : csum (bt (loS u)) 6 = mm u := by
  have h := csum_hi (f := bt (loS u)) (m := u 64) (fun k hk => bt_no (bsum_lt _ _) hk) (6 - u 64)
  rw [show u 64 + (6 - u 64) = 6 by have := wu_al U; omega] at h
  rw [h]
  exact csum_cong fun k hk => bt_bsum hk
theorem loS_lt {u : Nat → Nat} (U : WU u) : loS u < 64 := pw64 U (bsum_lt _ _)
theorem loS_bt {u : Nat → Nat} (U : WU u) {b : Nat} : bt (loS u) b = true ↔ b < u 64 ∧ lo1 u b = true := by
  constructor
  · intro h
    have h1 := bt_lt (bsum_lt (lo1 u) (u 64)) h
    unfold loS at h
    rw [bt_bsum h1] at h
    exact ⟨h1, h⟩
  · intro h
    unfold loS
    rw [bt_bsum h.1]; exact h.2
/-- how far from one to another; 6 is where one stands -/
def dd (u : Nat → Nat) (a b : Nat) : Nat := ds u (if a = 6 then u 91 else u (71 + a)) (u (71 + b))
def tga (u : Nat → Nat) (a : Nat) : Nat := if a = 6 then 6 else tgx u a
def di (u : Nat → Nat) (a i : Nat) : Nat := dd u (tga u a) (tgx u i)
theorem tga_i {u : Nat → Nat} (U : WU u) {i : Nat} (h : i < mm u) : tga u i = tgx u i := if_neg (by have := mm_le U; omega)
def Rel (u : Nat → Nat) (X S : Nat) : Prop := X < 2 ^ mm u ∧ S < 64 ∧ (∀ i, i < mm u → bt S (tgx u i) = bt X i) ∧ ∀ b, b < 6 → bt S b = true → ∃ i, i < mm u ∧ tgx u i = b
theorem m64 {u : Nat → Nat} (U : WU u) {X : Nat} (h : X < 2 ^ mm u) : X < 64 := Nat.lt_of_lt_of_le h (Nat.pow_le_pow_right (n := 2) (i := mm u) (j := 6) (by decide) (mm_le U))
theorem Rel.step {u : Nat → Nat} (U : WU u) {X S i : Nat} (h : Rel u X S) (hi : i < mm u) (hb : bt X i = true) : Rel u (X - 2 ^ i) (S - 2 ^ tgx u i) := by
  obtain ⟨h1, h2, h3, h4⟩ := h
  have hm := mm_le U
  have ht := tgx_lt hi
  have hal := wu_al U
  obtain ⟨zzx1, zzx2, zzx3, zzx4⟩ := sub_s (m64 U h1) (show i < 6 by omega) hb
  obtain ⟨zzs1, zzs2, zzs3, zzs4⟩ := sub_s h2 (show tgx u i < 6 by omega) ((h3 i hi).trans hb)
  refine ⟨Nat.lt_of_le_of_lt (Nat.sub_le _ _) h1, zzs1, fun j hj => ?_, fun b hb6 hbb => h4 b hb6 ((zzs4 b hb6).mp hbb).1⟩
  have htj := tgx_lt hj
  refine Bool.eq_iff_iff.mpr ((zzs4 _ (by omega)).trans (Iff.trans ?_ (zzx4 j (by omega)).symm))
  rw [h3 j hj]
  exact ⟨fun z => ⟨z.1, fun e => z.2 (by rw [e])⟩, fun z => ⟨z.1, fun e => z.2 (tgx_inj hj hi e)⟩⟩
theorem Rel.top {u : Nat → Nat} (U : WU u) : Rel u (2 ^ mm u - 1) (loS u) := by
  have h9 : ∀ m, m < 7 → ∀ i, i < m → bt (2 ^ m - 1) i = true := by decide +kernel
  have hp := Nat.two_pow_pos (mm u)
  refine ⟨by omega, loS_lt U, fun i hi => ?_, fun b _ hb => ?_⟩
  · rw [h9 (mm u) (by have := mm_le U; omega) i hi]
    exact (loS_bt U).mpr ⟨tgx_lt hi, tgx_lo hi⟩
  · obtain ⟨q1, q2⟩ := (loS_bt U).mp hb
    exact tgx_sur q1 q2
theorem cs_top {u : Nat → Nat} (U : WU u) : csum (bt (2 ^ mm u - 1)) 6 = mm u := by
  have h9 : ∀ m, m < 7 → csum (bt (2 ^ m - 1)) 6 = m := by decide +kernel
  exact h9 (mm u) (by have := mm_le U; omega)
theorem RF_z (e : Nat → Nat → Nat) (S a : Nat) : RF e 0 S a = 0 := rfl
theorem RF_s (e : Nat → Nat → Nat) (n S a : Nat) : RF e (n + 1) S a = mnf (fun b => e a b + RF e n (S - 2 ^ b) b) (bt S) 6 := rfl
theorem gl_z (e : Nat → Nat → Nat) (S a : Nat) : gl e 0 S a = [] := rfl
theorem gl_s (e : Nat → Nat → Nat) (n S a : Nat) : gl e (n + 1) S a = gb e n S a :: gl e n (S - 2 ^ gb e n S a) (gb e n S a) := rfl
theorem di_e (u : Nat → Nat) (a i : Nat) : di u a i = dd u (tga u a) (tgx u i) := rfl
theorem RF_map {u : Nat → Nat} (U : WU u) : ∀ (n X S a : Nat), Rel u X S → RF (dd u) n S (tga u a) = RF (di u) n X a := by
  intro n
  induction n with
  | zero => intro X S a _; rw [RF_z, RF_z]
  | succ n ih =>
    intro X S a h
    have hm := mm_le U
    have hal := wu_al U
    have key : ∀ i, i < mm u → bt X i = true → dd u (tga u a) (tgx u i) + RF (dd u) n (S - 2 ^ tgx u i) (tgx u i) = di u a i + RF (di u) n (X - 2 ^ i) i := fun i hi hb => by
      have h1 := ih (X - 2 ^ i) (S - 2 ^ tgx u i) i (h.step U hi hb)
      rw [tga_i U hi] at h1
      rw [h1, di_e]
    rw [RF_s, RF_s]
    refine Nat.le_antisymm (mnf_ge (mnf_top _ _ _) fun i _ hb => ?_) (mnf_ge (mnf_top _ _ _) fun b hb6 hb => ?_)
    · have hi := bt_lt h.1 hb
      show _ ≤ di u a i + RF (di u) n (X - 2 ^ i) i
      rw [← key i hi hb]
      have ht := tgx_lt hi
      exact mnf_le (f := fun b => dd u (tga u a) b + RF (dd u) n (S - 2 ^ b) b) (by omega) ((h.2.2.1 i hi).trans hb)
    · obtain ⟨i, hi, rfl⟩ := h.2.2.2 b hb6 hb
      have hbx : bt X i = true := (h.2.2.1 i hi).symm.trans hb
      show _ ≤ dd u (tga u a) (tgx u i) + RF (dd u) n (S - 2 ^ tgx u i) (tgx u i)
      rw [key i hi hbx]
      exact mnf_le (f := fun i => di u a i + RF (di u) n (X - 2 ^ i) i) (by omega) hbx
theorem fin_d {u : Nat → Nat} (U : WU u) (A : ∀ k, k < u 64 → lo1 u k = true → ds u (u 91) (u (71 + k)) < 1000) : fin6 (dd u) (loS u) := by
  intro a b hb ha hbt
  obtain ⟨zzb1, zzb2⟩ := (loS_bt U).mp hbt
  have hpl := wu_pl U
  have hrb := wu_rm U zzb1
  have fb := ds_fin U hpl hrb (A b zzb1 zzb2)
  unfold dd
  rcases ha with ha | ⟨ha6, hat⟩
  · rw [if_pos ha]; exact fb
  · rw [if_neg (by omega)]
    obtain ⟨zza1, zza2⟩ := (loS_bt U).mp hat
    have hra := wu_rm U zza1
    have fa := ds_fin U hpl hra (A a zza1 zza2)
    have ft := ds_tri u (a := u (71 + a)) (v := u 91) (b := u (71 + b)) hpl
    rw [ds_sym U hra hpl] at ft
    exact ds_fin U hra hrb (by omega)
theorem fin_i {u : Nat → Nat} (U : WU u) (F : fin6 (dd u) (loS u)) : fin6 (di u) (2 ^ mm u - 1) := by
  intro a b hb ha hbt
  have hp := Nat.two_pow_pos (mm u)
  have hb2 := bt_lt (show 2 ^ mm u - 1 < 2 ^ mm u by omega) hbt
  have hal := wu_al U
  have htb := tgx_lt hb2
  have hlb := (loS_bt U).mpr ⟨htb, tgx_lo hb2⟩
  unfold di tga
  rcases ha with ha | ⟨ha6, hat⟩
  · rw [if_pos ha]; exact F 6 (tgx u b) (by omega) (Or.inl rfl) hlb
  · rw [if_neg (by omega)]
    have ha2 := bt_lt (show 2 ^ mm u - 1 < 2 ^ mm u by omega) hat
    have hta := tgx_lt ha2
    exact F (tgx u a) (tgx u b) (by omega) (Or.inr ⟨by omega, (loS_bt U).mpr ⟨hta, tgx_lo ha2⟩⟩) hlb
theorem sub_top {u : Nat → Nat} (U : WU u) {X : Nat} (h : X < 2 ^ mm u) : sub X (2 ^ mm u - 1) := fun k _ hb => by
  have h9 : ∀ m, m < 7 → ∀ i, i < m → bt (2 ^ m - 1) i = true := by decide +kernel
  exact h9 (mm u) (by have := mm_le U; omega) k (bt_lt h hb)
theorem Rel.sub {u : Nat → Nat} (U : WU u) {X S : Nat} (h : Rel u X S) : sub S (loS u) := fun b hb hbt => by
  obtain ⟨i, hi, rfl⟩ := h.2.2.2 b hb hbt
  exact (loS_bt U).mpr ⟨tgx_lt hi, tgx_lo hi⟩
theorem gl_map {u : Nat → Nat} (U : WU u) (F : fin6 (dd u) (loS u)) : ∀ (n X S a : Nat), n ≤ 6 → Rel u X S → csum (bt X) 6 = n → csum (bt S) 6 = n → (a = 6 ∨ a < mm u) → gl (dd u) n S (tga u a) = (gl (di u) n X a).map (tgx u) := by
  intro n
  induction n with
  | zero => intro X S a _ _ _ _ _; rw [gl_z, gl_z]; rfl
  | succ n ih =>
    intro X S a hn h hX hS ha
    have hm := mm_le U
    have hal := wu_al U
    have G := fin_i U F
    have haS : tga u a = 6 ∨ (tga u a < 6 ∧ bt (loS u) (tga u a) = true) := by
      rcases ha with ha | ha
      · exact Or.inl (if_pos ha)
      · rw [tga_i U ha]
        have := tgx_lt ha
        exact Or.inr ⟨by omega, (loS_bt U).mpr ⟨tgx_lt ha, tgx_lo ha⟩⟩
    have haX : a = 6 ∨ (a < 6 ∧ bt (2 ^ mm u - 1) a = true) := by
      rcases ha with ha | ha
      · exact Or.inl ha
      · have h9 : ∀ m, m < 7 → ∀ i, i < m → bt (2 ^ m - 1) i = true := by decide +kernel
        exact Or.inr ⟨by omega, h9 (mm u) (by omega) a ha⟩
    obtain ⟨zzp1, zzp2, zzp3, zzp4⟩ := gb_ok F hn h.2.1 (h.sub U) hS haS
    obtain ⟨q1, q2, q3, q4⟩ := gb_ok G hn (m64 U h.1) (sub_top U h.1) hX haX
    have hi0 := bt_lt h.1 q2
    have key : ∀ i, i < mm u → bt X i = true → dd u (tga u a) (tgx u i) + RF (dd u) n (S - 2 ^ tgx u i) (tgx u i) = di u a i + RF (di u) n (X - 2 ^ i) i := fun i hi hb => by
      have h1 := RF_map U n (X - 2 ^ i) (S - 2 ^ tgx u i) i (h.step U hi hb)
      rw [tga_i U hi] at h1
      rw [h1, di_e]
    have hR := RF_map U (n + 1) X S a h
    have ht0 := tgx_lt hi0
    have e : gb (dd u) n S (tga u a) = tgx u (gb (di u) n X a) := by
      refine Nat.le_antisymm (zzp4 _ (by omega) ((h.2.2.1 _ hi0).trans q2) (by rw [key _ hi0 q2, q3, hR])) ?_
      obtain ⟨j, hj, hj2⟩ := h.2.2.2 _ zzp1 zzp2
      have hbj : bt X j = true := (h.2.2.1 j hj).symm.trans (by rw [hj2]; exact zzp2)
      have h1 := q4 j (by omega) hbj (by rw [← key j hj hbj, hj2, zzp3, hR])
      rw [← hj2]
      rcases Nat.lt_or_ge (gb (di u) n X a) j with z | z
      · exact Nat.le_of_lt (tgx_mono z hj)
      · rw [show gb (di u) n X a = j by omega]
        exact Nat.le_refl _
    obtain ⟨zzx1, zzx2, zzx3, zzx4⟩ := sub_s (m64 U h.1) q1 q2
    obtain ⟨zzs1, zzs2, zzs3, zzs4⟩ := sub_s h.2.1 zzp1 zzp2
    rw [gl_s, gl_s, List.map_cons]
    have h1 := ih (X - 2 ^ gb (di u) n X a) (S - 2 ^ tgx u (gb (di u) n X a)) (gb (di u) n X a) (by omega) (h.step U hi0 q2) (by omega) (by rw [← e]; omega) (Or.inr hi0)
    rw [tga_i U hi0] at h1
    rw [e, h1]
theorem way_map {u : Nat → Nat} (U : WU u) (F : fin6 (dd u) (loS u)) : RF (dd u) (mm u) (loS u) 6 = RF (di u) (mm u) (2 ^ mm u - 1) 6 ∧ gl (dd u) (mm u) (loS u) 6 = (gl (di u) (mm u) (2 ^ mm u - 1) 6).map (tgx u) :=
  ⟨RF_map U (mm u) (2 ^ mm u - 1) (loS u) 6 (Rel.top U), gl_map U F (mm u) (2 ^ mm u - 1) (loS u) 6 (mm_le U) (Rel.top U) (cs_top U) (cs_loS U) (Or.inl rfl)⟩
theorem map_getD {f : Nat → Nat} : ∀ {l : List Nat} {i : Nat}, i < l.length → (l.map f).getD i 0 = f (l.getD i 0) := by
  intro l
  induction l with
  | nil => intro i h; exact absurd h (Nat.not_lt_zero _)
  | cons b l ih =>
    intro i h
    cases i with
    | zero => rfl
    | succ i => exact ih (show i < l.length by simpa using h)

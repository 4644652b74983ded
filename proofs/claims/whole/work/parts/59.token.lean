/-- behind a run -/
def bh (f : Nat → Bool) : Nat → Nat → Nat
  | 0, p => p
  | n + 1, p => if f p = true then bh f n (p + 1) else p
theorem bh_ok (f : Nat → Bool) : ∀ n p, p ≤ bh f n p ∧ bh f n p ≤ p + n ∧ ∀ j, p ≤ j → j < bh f n p → f j = true := by
  intro n
  induction n with
  | zero => intro p; exact ⟨Nat.le_refl _, Nat.le_refl _, fun j h1 h2 => absurd h2 (by show ¬ j < p; omega)⟩
  | succ n ih =>
    intro p
    simp only [bh]
    by_cases hf : f p = true
    · rw [if_pos hf]
      obtain ⟨h1, h2, h3⟩ := ih (p + 1)
      refine ⟨by omega, by omega, fun j hj1 hj2 => ?_⟩
      by_cases hz : j = p
      · rw [hz]; exact hf
      · exact h3 j (by omega) hj2
    · rw [if_neg hf]
      exact ⟨Nat.le_refl _, by omega, fun j h1 h2 => by omega⟩
def inr (x : Nat → Nat) (lo hi p : Nat) : Bool := decide (lo ≤ x p) && decide (x p ≤ hi)
theorem inr_i {x : Nat → Nat} {lo hi p : Nat} : inr x lo hi p = true ↔ lo ≤ x p ∧ x p ≤ hi := by simp [inr]
def rn (t : Nat) (x : Nat → Nat) (lo hi p : Nat) : Nat := bh (inr x lo hi) (t - p) p
theorem rn_ok (t : Nat) (x : Nat → Nat) (lo hi : Nat) {p : Nat} (h : p ≤ t) : p ≤ rn t x lo hi p ∧ rn t x lo hi p ≤ t ∧ ∀ j, p ≤ j → j < rn t x lo hi p → lo ≤ x j ∧ x j ≤ hi := by
  obtain ⟨h1, h2, h3⟩ := bh_ok (inr x lo hi) (t - p) p
  exact ⟨h1, by unfold rn; omega, fun j hj1 hj2 => inr_i.mp (h3 j hj1 hj2)⟩
theorem rn_s {t : Nat} {x : Nat → Nat} {lo hi p : Nat} (h : p < t) (hin : lo ≤ x p ∧ x p ≤ hi) : rn t x lo hi p = rn t x lo hi (p + 1) := by
  unfold rn
  rw [show t - p = t - (p + 1) + 1 by omega]
  exact if_pos (inr_i.mpr hin)
theorem rn_e {t : Nat} {x : Nat → Nat} {lo hi p : Nat} (h : ¬ (p < t ∧ lo ≤ x p ∧ x p ≤ hi)) : rn t x lo hi p = p := by
  unfold rn
  by_cases hp : p < t
  · rw [show t - p = t - (p + 1) + 1 by omega]
    exact if_neg (fun z => h ⟨hp, inr_i.mp z⟩)
  · rw [show t - p = 0 by omega]; rfl
/-! a token from s on: where it begins, of which sort it is (0 end, 1 word, 2 figures, 3 stop, 4 other), where it ends, its value -/
def bgn (t : Nat) (x : Nat → Nat) (s : Nat) : Nat := rn t x 32 32 s
def kc (t : Nat) (x : Nat → Nat) (s : Nat) : Nat := if t ≤ bgn t x s then 0 else if 97 ≤ x (bgn t x s) ∧ x (bgn t x s) ≤ 122 then 1 else if 48 ≤ x (bgn t x s) ∧ x (bgn t x s) ≤ 57 then 2 else if x (bgn t x s) = 59 then 3 else 4
def nxe (t : Nat) (x : Nat → Nat) (s : Nat) : Nat := if kc t x s = 0 then bgn t x s else if kc t x s = 1 then rn t x 97 122 (bgn t x s) else if kc t x s = 2 then rn t x 48 57 (bgn t x s) else bgn t x s + 1
def vd (x : Nat → Nat) (b e : Nat) : Nat := if e - b = 1 then x b - 48 else 10 * (x b - 48) + (x (b + 1) - 48)
def vC (t : Nat) (x : Nat → Nat) (s : Nat) : Int32 := if kc t x s = 2 ∧ nxe t x s - bgn t x s ≤ 2 then nI (vd x (bgn t x s) (nxe t x s)) else -1
def tx (J : Nat → Nat → Int32) (t : Nat) (x : Nat → Nat) : Prop := t ≤ 150 ∧ J 2 1 = nI t ∧ ∀ j, j < t → x j < 128 ∧ J 3 j = nI (x j)
def tS (J : Nat → Nat → Int32) (t : Nat) (x : Nat → Nat) (s : Nat) : Prop := J 2 2 = nI (kc t x s) ∧ J 2 3 = nI (bgn t x s) ∧ J 2 4 = nI (nxe t x s) ∧ J 2 5 = vC t x s
set_option maxHeartbeats 4000000 in
set_option maxRecDepth 100000 in
theorem lp_br {X : hz_X} (C : hz_C X mX8_behindRun) {J : Nat → Nat → Int32} {L : Nat → Nat → Int64} {q : Nat → Nat → Nat} {t : Nat} {x : Nat → Nat} (X0 : tx J t x) {p lo hh : Nat} (hp : p ≤ t) (hlo : lo < 128) (hhi : hh < 128) (kk : hz_G X TT NN (J, L, PP q) 0 0 40 [some (.ref 2), some (.int (nI p)), some (.int (nI lo)), some (.int (nI hh)), some (.int (nI (rn t x lo hh p)))] []) : ∀ (n i : Nat) , i + n = t → rn t x lo hh p = rn t x lo hh i → hz_G X TT NN (J, L, PP q) 0 0 3 [some (.ref 2), some (.int (nI p)), some (.int (nI lo)), some (.int (nI hh)), some (.int (nI i))] [] := by
  intro n
  induction n with
  | zero =>
    intro i  hi hf
    obtain rfl : t = i := by omega
    have h150 := X0.1
    refine hz_iload (pc := 3) C dX8_behindRun_3 rfl ?_
    refine hz_aload_n (pc := 5) C dX8_behindRun_5 rfl ?_
    refine hz_getI (pc := 6) C (v := nI t) ffX8_15 dX8_behindRun_6 hT2 hA2 rfl X0.2.1 ?_
    refine hz_ic_ge (pc := 9) C (tgt := 40) dX8_behindRun_9 rfl (fun _ => ?_) (fun cq => absurd (nI_le (by omega) (by omega)) cq)
    have h9 := kk
    rw [hf, rn_e (by omega)] at h9
    exact h9
  | succ n ih =>
    intro i  hi hf
    have h150 := X0.1
    have hx := (X0.2.2 i (by omega)).1
    refine hz_iload (pc := 3) C dX8_behindRun_3 rfl ?_
    refine hz_aload_n (pc := 5) C dX8_behindRun_5 rfl ?_
    refine hz_getI (pc := 6) C (v := nI t) ffX8_15 dX8_behindRun_6 hT2 hA2 rfl X0.2.1 ?_
    refine hz_ic_ge (pc := 9) C (tgt := 40) dX8_behindRun_9 rfl (fun cq => absurd cq (nI_ge (by omega) (by omega))) (fun _ => ?_)
    refine hz_aload_n (pc := 12) C dX8_behindRun_12 rfl ?_
    refine hz_getP (pc := 13) C (v := 3) ffX8_9 dX8_behindRun_13 hT2 hA2 rfl (hP2_0 q) (by decide) ?_
    refine hz_iload (pc := 16) C dX8_behindRun_16 rfl ?_
    refine hz_cald (pc := 18) C (v := nI (x i)) (j := i) dX8_behindRun_18 hT3 hA3 rfl (by omega) (by decide) (X0.2.2 i (by omega)).2 ?_
    refine hz_iload_n (pc := 19) C dX8_behindRun_19 rfl ?_
    refine hz_ic_lt (pc := 20) C (tgt := 40) dX8_behindRun_20 rfl (fun zzc1 => ?_) (fun zzc1 => ?_)
    · have h9 := kk
      rw [hf, rn_e (fun z => nI_nlt z.2.1 (by omega) zzc1)] at h9
      exact h9
    · refine hz_aload_n (pc := 23) C dX8_behindRun_23 rfl ?_
      refine hz_getP (pc := 24) C (v := 3) ffX8_9 dX8_behindRun_24 hT2 hA2 rfl (hP2_0 q) (by decide) ?_
      refine hz_iload (pc := 27) C dX8_behindRun_27 rfl ?_
      refine hz_cald (pc := 29) C (v := nI (x i)) (j := i) dX8_behindRun_29 hT3 hA3 rfl (by omega) (by decide) (X0.2.2 i (by omega)).2 ?_
      refine hz_iload_n (pc := 30) C dX8_behindRun_30 rfl ?_
      refine hz_ic_gt (pc := 31) C (tgt := 40) dX8_behindRun_31 rfl (fun zzc2 => ?_) (fun zzc2 => ?_)
      · have h9 := kk
        rw [hf, rn_e (fun z => nI_nlt z.2.2 (by omega) zzc2)] at h9
        exact h9
      · refine hz_iinc (pc := 34) C (v := nI (i + 1)) (ls' := [some (.ref 2), some (.int (nI p)), some (.int (nI lo)), some (.int (nI hh)), some (.int (nI (i + 1)))]) dX8_behindRun_34 rfl (nI_add _ 1) rfl ?_
        refine hz_goto (pc := 37) C (tgt := 3) dX8_behindRun_37 rfl ?_
        exact ih (i + 1) (by omega) (by rw [hf]; exact rn_s (by omega) ⟨Nat.le_of_not_lt fun z => zzc1 (nI_lt z (by omega)), Nat.le_of_not_lt fun z => zzc2 (nI_lt z (by omega))⟩)
set_option maxHeartbeats 4000000 in
set_option maxRecDepth 100000 in
theorem ev_behind {J : Nat → Nat → Int32} {L : Nat → Nat → Int64} {q : Nat → Nat → Nat} {t : Nat} {x : Nat → Nat} (X0 : tx J t x) {p lo hh : Nat} (hp : p ≤ t) (hlo : lo < 128) (hhi : hh < 128) : hz_Ev mX8_behindRun TT NN (J, L, PP q) [.ref 2, .int (nI p), .int (nI lo), .int (nI hh)] 0 0 (some (.int (nI (rn t x lo hh p)))) TT NN (J, L, PP q) := by
  refine hz_Ev.intro (ls := [some (.ref 2), some (.int (nI p)), some (.int (nI lo)), some (.int (nI hh)), none]) (by decide +kernel) rfl (Nat.le_of_ble_eq_true rfl) (fun X C Z _ => ?_)
  refine hz_iload_n (pc := 0) C dX8_behindRun_0 rfl ?_
  refine hz_istore (pc := 1) C (ls' := [some (.ref 2), some (.int (nI p)), some (.int (nI lo)), some (.int (nI hh)), some (.int (nI p))]) dX8_behindRun_1 (Nat.le_of_ble_eq_true rfl) rfl ?_
  refine lp_br C X0 hp hlo hhi ?_ (t - p) p (by omega) rfl
  refine hz_iload (pc := 40) C dX8_behindRun_40 rfl ?_
  exact hz_iret C Z rfl dX8_behindRun_42 rfl rfl
set_option maxHeartbeats 4000000 in
set_option maxRecDepth 100000 in
theorem ev_valN {J : Nat → Nat → Int32} {L : Nat → Nat → Int64} {q : Nat → Nat → Nat} {t : Nat} {x : Nat → Nat} (X0 : tx J t x) {b e : Nat} (hb : J 2 3 = nI b) (he : J 2 4 = nI e) (hbe : b < e) (het : e ≤ t) (hd : ∀ j, b ≤ j → j < e → 48 ≤ x j ∧ x j ≤ 57) (h2 : ¬ e - b ≤ 2) : hz_Ev mX8_valueOfFigures TT NN (J, L, PP q) [.ref 2] 0 0 (some (.int (-1 : Int32))) TT NN (J, L, PP q) := by
  have h150 := X0.1
  have zzd0 := hd b (by omega) (by omega)
  refine hz_Ev.intro (ls := [some (.ref 2), none, none]) (by decide +kernel) rfl (Nat.le_of_ble_eq_true rfl) (fun X C Z _ => ?_)
  refine hz_aload_n (pc := 0) C dX8_valueOfFigures_0 rfl ?_
  refine hz_getI (pc := 1) C (v := nI e) ffX8_19 dX8_valueOfFigures_1 hT2 hA2 rfl he ?_
  refine hz_aload_n (pc := 4) C dX8_valueOfFigures_4 rfl ?_
  refine hz_getI (pc := 5) C (v := nI b) ffX8_32 dX8_valueOfFigures_5 hT2 hA2 rfl hb ?_
  refine hz_isub (pc := 8) C (v := nI (e - b)) dX8_valueOfFigures_8 (pk_sub (by omega)) ?_
  refine hz_iconst (pc := 9) C (v := nI 2) dX8_valueOfFigures_9 (by decide +kernel) ?_
  refine hz_ic_le (pc := 10) C (tgt := 15) dX8_valueOfFigures_10 rfl (fun cq => absurd cq (nI_ge (by omega) (by omega))) (fun _ => ?_)
  refine hz_iconst (pc := 13) C (v := (-1 : Int32)) dX8_valueOfFigures_13 (by decide +kernel) ?_
  exact hz_iret C Z rfl dX8_valueOfFigures_14 rfl rfl
theorem val_1 (y : Nat) : nI (10 * 0 + y) = nI y := by rw [Nat.mul_zero, Nat.zero_add]
set_option maxHeartbeats 4000000 in
set_option maxRecDepth 100000 in
theorem ev_val1 {J : Nat → Nat → Int32} {L : Nat → Nat → Int64} {q : Nat → Nat → Nat} {t : Nat} {x : Nat → Nat} (X0 : tx J t x) {b e : Nat} (hb : J 2 3 = nI b) (he : J 2 4 = nI e) (hbe : b < e) (het : e ≤ t) (hd : ∀ j, b ≤ j → j < e → 48 ≤ x j ∧ x j ≤ 57) (h2 : e - b = 1) : hz_Ev mX8_valueOfFigures TT NN (J, L, PP q) [.ref 2] 0 0 (some (.int (nI (vd x b e)))) TT NN (J, L, PP q) := by
  have h150 := X0.1
  have zzd0 := hd b (by omega) (by omega)
  refine hz_Ev.intro (ls := [some (.ref 2), none, none]) (by decide +kernel) rfl (Nat.le_of_ble_eq_true rfl) (fun X C Z _ => ?_)
  refine hz_aload_n (pc := 0) C dX8_valueOfFigures_0 rfl ?_
  refine hz_getI (pc := 1) C (v := nI e) ffX8_19 dX8_valueOfFigures_1 hT2 hA2 rfl he ?_
  refine hz_aload_n (pc := 4) C dX8_valueOfFigures_4 rfl ?_
  refine hz_getI (pc := 5) C (v := nI b) ffX8_32 dX8_valueOfFigures_5 hT2 hA2 rfl hb ?_
  refine hz_isub (pc := 8) C (v := nI (e - b)) dX8_valueOfFigures_8 (pk_sub (by omega)) ?_
  refine hz_iconst (pc := 9) C (v := nI 2) dX8_valueOfFigures_9 (by decide +kernel) ?_
  refine hz_ic_le (pc := 10) C (tgt := 15) dX8_valueOfFigures_10 rfl (fun _ => ?_) (fun cq => absurd (nI_le (by omega) (by omega)) cq)
  refine hz_iconst (pc := 15) C (v := nI 0) dX8_valueOfFigures_15 (by decide +kernel) ?_
  refine hz_istore_n (pc := 16) C (ls' := [some (.ref 2), some (.int (nI 0)), none]) dX8_valueOfFigures_16 (Nat.le_of_ble_eq_true rfl) rfl ?_
  refine hz_aload_n (pc := 17) C dX8_valueOfFigures_17 rfl ?_
  refine hz_getI (pc := 18) C (v := nI b) ffX8_32 dX8_valueOfFigures_18 hT2 hA2 rfl hb ?_
  refine hz_istore_n (pc := 21) C (ls' := [some (.ref 2), some (.int (nI 0)), some (.int (nI b))]) dX8_valueOfFigures_21 (Nat.le_of_ble_eq_true rfl) rfl ?_
  refine hz_iload_n (pc := 22) C dX8_valueOfFigures_22 rfl ?_
  refine hz_aload_n (pc := 23) C dX8_valueOfFigures_23 rfl ?_
  refine hz_getI (pc := 24) C (v := nI e) ffX8_19 dX8_valueOfFigures_24 hT2 hA2 rfl he ?_
  refine hz_ic_ge (pc := 27) C (tgt := 51) dX8_valueOfFigures_27 rfl (fun cq => absurd cq (nI_ge (by omega) (by omega))) (fun _ => ?_)
  refine hz_bipush (pc := 30) C (v := nI 10) dX8_valueOfFigures_30 (by decide +kernel) ?_
  refine hz_iload_n (pc := 32) C dX8_valueOfFigures_32 rfl ?_
  refine hz_imul (pc := 33) C (v := nI 0) dX8_valueOfFigures_33 (pk_mul _ _) ?_
  refine hz_aload_n (pc := 34) C dX8_valueOfFigures_34 rfl ?_
  refine hz_getP (pc := 35) C (v := 3) ffX8_9 dX8_valueOfFigures_35 hT2 hA2 rfl (hP2_0 q) (by decide) ?_
  refine hz_iload_n (pc := 38) C dX8_valueOfFigures_38 rfl ?_
  refine hz_cald (pc := 39) C (v := nI (x b)) (j := b) dX8_valueOfFigures_39 hT3 hA3 rfl (by omega) (by decide) (X0.2.2 b (by omega)).2 ?_
  refine hz_bipush (pc := 40) C (v := nI 48) dX8_valueOfFigures_40 (by decide +kernel) ?_
  refine hz_isub (pc := 42) C (v := nI (x b - 48)) dX8_valueOfFigures_42 (pk_sub (by omega)) ?_
  refine hz_iadd (pc := 43) C (v := nI (0 + (x b - 48))) dX8_valueOfFigures_43 (nI_add _ _) ?_
  refine hz_istore_n (pc := 44) C (ls' := [some (.ref 2), some (.int (nI (0 + (x b - 48)))), some (.int (nI b))]) dX8_valueOfFigures_44 (Nat.le_of_ble_eq_true rfl) rfl ?_
  refine hz_iinc (pc := 45) C (v := nI (b + 1)) (ls' := [some (.ref 2), some (.int (nI (0 + (x b - 48)))), some (.int (nI (b + 1)))]) dX8_valueOfFigures_45 rfl (nI_add _ 1) rfl ?_
  refine hz_goto (pc := 48) C (tgt := 22) dX8_valueOfFigures_48 rfl ?_
  refine hz_iload_n (pc := 22) C dX8_valueOfFigures_22 rfl ?_
  refine hz_aload_n (pc := 23) C dX8_valueOfFigures_23 rfl ?_
  refine hz_getI (pc := 24) C (v := nI e) ffX8_19 dX8_valueOfFigures_24 hT2 hA2 rfl he ?_
  refine hz_ic_ge (pc := 27) C (tgt := 51) dX8_valueOfFigures_27 rfl (fun _ => ?_) (fun cq => absurd (nI_le (by omega) (by omega)) cq)
  refine hz_iload_n (pc := 51) C dX8_valueOfFigures_51 rfl ?_
  exact hz_iret C Z rfl dX8_valueOfFigures_52 (by unfold vd; rw [if_pos h2]; exact val_1 _) rfl
set_option maxHeartbeats 4000000 in
set_option maxRecDepth 100000 in
theorem ev_val2 {J : Nat → Nat → Int32} {L : Nat → Nat → Int64} {q : Nat → Nat → Nat} {t : Nat} {x : Nat → Nat} (X0 : tx J t x) {b e : Nat} (hb : J 2 3 = nI b) (he : J 2 4 = nI e) (hbe : b < e) (het : e ≤ t) (hd : ∀ j, b ≤ j → j < e → 48 ≤ x j ∧ x j ≤ 57) (h2 : e - b = 2) : hz_Ev mX8_valueOfFigures TT NN (J, L, PP q) [.ref 2] 0 0 (some (.int (nI (vd x b e)))) TT NN (J, L, PP q) := by
  have h150 := X0.1
  have zzd0 := hd b (by omega) (by omega)
  have zzd1 := hd (b + 1) (by omega) (by omega)
  refine hz_Ev.intro (ls := [some (.ref 2), none, none]) (by decide +kernel) rfl (Nat.le_of_ble_eq_true rfl) (fun X C Z _ => ?_)
  refine hz_aload_n (pc := 0) C dX8_valueOfFigures_0 rfl ?_
  refine hz_getI (pc := 1) C (v := nI e) ffX8_19 dX8_valueOfFigures_1 hT2 hA2 rfl he ?_
  refine hz_aload_n (pc := 4) C dX8_valueOfFigures_4 rfl ?_
  refine hz_getI (pc := 5) C (v := nI b) ffX8_32 dX8_valueOfFigures_5 hT2 hA2 rfl hb ?_
  refine hz_isub (pc := 8) C (v := nI (e - b)) dX8_valueOfFigures_8 (pk_sub (by omega)) ?_
  refine hz_iconst (pc := 9) C (v := nI 2) dX8_valueOfFigures_9 (by decide +kernel) ?_
  refine hz_ic_le (pc := 10) C (tgt := 15) dX8_valueOfFigures_10 rfl (fun _ => ?_) (fun cq => absurd (nI_le (by omega) (by omega)) cq)
  refine hz_iconst (pc := 15) C (v := nI 0) dX8_valueOfFigures_15 (by decide +kernel) ?_
  refine hz_istore_n (pc := 16) C (ls' := [some (.ref 2), some (.int (nI 0)), none]) dX8_valueOfFigures_16 (Nat.le_of_ble_eq_true rfl) rfl ?_
  refine hz_aload_n (pc := 17) C dX8_valueOfFigures_17 rfl ?_
  refine hz_getI (pc := 18) C (v := nI b) ffX8_32 dX8_valueOfFigures_18 hT2 hA2 rfl hb ?_
  refine hz_istore_n (pc := 21) C (ls' := [some (.ref 2), some (.int (nI 0)), some (.int (nI b))]) dX8_valueOfFigures_21 (Nat.le_of_ble_eq_true rfl) rfl ?_
  refine hz_iload_n (pc := 22) C dX8_valueOfFigures_22 rfl ?_
  refine hz_aload_n (pc := 23) C dX8_valueOfFigures_23 rfl ?_
  refine hz_getI (pc := 24) C (v := nI e) ffX8_19 dX8_valueOfFigures_24 hT2 hA2 rfl he ?_
  refine hz_ic_ge (pc := 27) C (tgt := 51) dX8_valueOfFigures_27 rfl (fun cq => absurd cq (nI_ge (by omega) (by omega))) (fun _ => ?_)
  refine hz_bipush (pc := 30) C (v := nI 10) dX8_valueOfFigures_30 (by decide +kernel) ?_
  refine hz_iload_n (pc := 32) C dX8_valueOfFigures_32 rfl ?_
  refine hz_imul (pc := 33) C (v := nI 0) dX8_valueOfFigures_33 (pk_mul _ _) ?_
  refine hz_aload_n (pc := 34) C dX8_valueOfFigures_34 rfl ?_
  refine hz_getP (pc := 35) C (v := 3) ffX8_9 dX8_valueOfFigures_35 hT2 hA2 rfl (hP2_0 q) (by decide) ?_
  refine hz_iload_n (pc := 38) C dX8_valueOfFigures_38 rfl ?_
  refine hz_cald (pc := 39) C (v := nI (x b)) (j := b) dX8_valueOfFigures_39 hT3 hA3 rfl (by omega) (by decide) (X0.2.2 b (by omega)).2 ?_
  refine hz_bipush (pc := 40) C (v := nI 48) dX8_valueOfFigures_40 (by decide +kernel) ?_
  refine hz_isub (pc := 42) C (v := nI (x b - 48)) dX8_valueOfFigures_42 (pk_sub (by omega)) ?_
  refine hz_iadd (pc := 43) C (v := nI (0 + (x b - 48))) dX8_valueOfFigures_43 (nI_add _ _) ?_
  refine hz_istore_n (pc := 44) C (ls' := [some (.ref 2), some (.int (nI (0 + (x b - 48)))), some (.int (nI b))]) dX8_valueOfFigures_44 (Nat.le_of_ble_eq_true rfl) rfl ?_
  refine hz_iinc (pc := 45) C (v := nI (b + 1)) (ls' := [some (.ref 2), some (.int (nI (0 + (x b - 48)))), some (.int (nI (b + 1)))]) dX8_valueOfFigures_45 rfl (nI_add _ 1) rfl ?_
  refine hz_goto (pc := 48) C (tgt := 22) dX8_valueOfFigures_48 rfl ?_
  refine hz_iload_n (pc := 22) C dX8_valueOfFigures_22 rfl ?_
  refine hz_aload_n (pc := 23) C dX8_valueOfFigures_23 rfl ?_
  refine hz_getI (pc := 24) C (v := nI e) ffX8_19 dX8_valueOfFigures_24 hT2 hA2 rfl he ?_
  refine hz_ic_ge (pc := 27) C (tgt := 51) dX8_valueOfFigures_27 rfl (fun cq => absurd cq (nI_ge (by omega) (by omega))) (fun _ => ?_)
  refine hz_bipush (pc := 30) C (v := nI 10) dX8_valueOfFigures_30 (by decide +kernel) ?_
  refine hz_iload_n (pc := 32) C dX8_valueOfFigures_32 rfl ?_
  refine hz_imul (pc := 33) C (v := nI (10 * (0 + (x b - 48)))) dX8_valueOfFigures_33 (pk_mul _ _) ?_
  refine hz_aload_n (pc := 34) C dX8_valueOfFigures_34 rfl ?_
  refine hz_getP (pc := 35) C (v := 3) ffX8_9 dX8_valueOfFigures_35 hT2 hA2 rfl (hP2_0 q) (by decide) ?_
  refine hz_iload_n (pc := 38) C dX8_valueOfFigures_38 rfl ?_
  refine hz_cald (pc := 39) C (v := nI (x (b + 1))) (j := b + 1) dX8_valueOfFigures_39 hT3 hA3 rfl (by omega) (by decide) (X0.2.2 (b + 1) (by omega)).2 ?_
  refine hz_bipush (pc := 40) C (v := nI 48) dX8_valueOfFigures_40 (by decide +kernel) ?_
  refine hz_isub (pc := 42) C (v := nI (x (b + 1) - 48)) dX8_valueOfFigures_42 (pk_sub (by omega)) ?_
  refine hz_iadd (pc := 43) C (v := nI ((10 * (0 + (x b - 48))) + (x (b + 1) - 48))) dX8_valueOfFigures_43 (nI_add _ _) ?_
  refine hz_istore_n (pc := 44) C (ls' := [some (.ref 2), some (.int (nI ((10 * (0 + (x b - 48))) + (x (b + 1) - 48)))), some (.int (nI (b + 1)))]) dX8_valueOfFigures_44 (Nat.le_of_ble_eq_true rfl) rfl ?_
  refine hz_iinc (pc := 45) C (v := nI (b + 1 + 1)) (ls' := [some (.ref 2), some (.int (nI ((10 * (0 + (x b - 48))) + (x (b + 1) - 48)))), some (.int (nI (b + 1 + 1)))]) dX8_valueOfFigures_45 rfl (nI_add _ 1) rfl ?_
  refine hz_goto (pc := 48) C (tgt := 22) dX8_valueOfFigures_48 rfl ?_
  refine hz_iload_n (pc := 22) C dX8_valueOfFigures_22 rfl ?_
  refine hz_aload_n (pc := 23) C dX8_valueOfFigures_23 rfl ?_
  refine hz_getI (pc := 24) C (v := nI e) ffX8_19 dX8_valueOfFigures_24 hT2 hA2 rfl he ?_
  refine hz_ic_ge (pc := 27) C (tgt := 51) dX8_valueOfFigures_27 rfl (fun _ => ?_) (fun cq => absurd (nI_le (by omega) (by omega)) cq)
  refine hz_iload_n (pc := 51) C dX8_valueOfFigures_51 rfl ?_
  exact hz_iret C Z rfl dX8_valueOfFigures_52 (by unfold vd; rw [if_neg (by omega)]; rw [Nat.zero_add]) rfl
theorem ev_val {J : Nat → Nat → Int32} {L : Nat → Nat → Int64} {q : Nat → Nat → Nat} {t : Nat} {x : Nat → Nat} (X0 : tx J t x) {b e : Nat} (hb : J 2 3 = nI b) (he : J 2 4 = nI e) (hbe : b < e) (het : e ≤ t) (hd : ∀ j, b ≤ j → j < e → 48 ≤ x j ∧ x j ≤ 57) : hz_Ev mX8_valueOfFigures TT NN (J, L, PP q) [.ref 2] 0 0 (some (.int (if e - b ≤ 2 then nI (vd x b e) else -1))) TT NN (J, L, PP q) := by
  by_cases h2 : e - b ≤ 2
  · rw [if_pos h2]
    rcases (show e - b = 1 ∨ e - b = 2 by omega) with h | h
    · exact ev_val1 X0 hb he hbe het hd h
    · exact ev_val2 X0 hb he hbe het hd h
  · rw [if_neg h2]
    exact ev_valN X0 hb he hbe het hd h2
theorem tx.cong {J K : Nat → Nat → Int32} {t : Nat} {x : Nat → Nat} (h : tx J t x) (zze1 : K 2 1 = J 2 1) (zze2 : K 3 = J 3) : tx K t x := ⟨h.1, zze1.trans h.2.1, fun j hj => by rw [zze2]; exact h.2.2 j hj⟩
def tC (J K : Nat → Nat → Int32) : Prop := (∀ a, a ≠ 2 → K a = J a) ∧ K 2 1 = J 2 1
theorem tC.tx {J K : Nat → Nat → Int32} {t : Nat} {x : Nat → Nat} (h : tC J K) (X0 : tx J t x) : tx K t x := X0.cong h.2 (h.1 3 (by omega))
set_option maxHeartbeats 4000000 in
set_option maxRecDepth 100000 in
theorem ex_step {J : Nat → Nat → Int32} {L : Nat → Nat → Int64} {q : Nat → Nat → Nat} {t : Nat} {x : Nat → Nat} (X0 : tx J t x) {s : Nat} (hs : s ≤ t) (h4 : J 2 4 = nI s) : hz_Ex mX8_step TT NN (J, L, PP q) [.ref 2] (hz_PI L (PP q) none (fun K => tC J K ∧ tS K t x s)) := by
  have h150 := X0.1
  have hbg := rn_ok t x 32 32 hs
  have hbt : bgn t x s ≤ t := hbg.2.1
  refine hz_Ex.intro (ls := [some (.ref 2)]) (by decide +kernel) rfl (Nat.le_of_ble_eq_true rfl) (fun X C Z => ?_)
  refine hz_aload_n (pc := 0) C dX8_step_0 rfl ?_
  refine hz_aload_n (pc := 1) C dX8_step_1 rfl ?_
  refine hz_aload_n (pc := 2) C dX8_step_2 rfl ?_
  refine hz_getI (pc := 3) C (v := nI s) ffX8_19 dX8_step_3 hT2 hA2 rfl h4 ?_
  refine hz_bipush (pc := 6) C (v := nI 32) dX8_step_6 (by decide +kernel) ?_
  refine hz_bipush (pc := 8) C (v := nI 32) dX8_step_8 (by decide +kernel) ?_
  refine hz_callVs (pc := 10) C (as := [.int (nI s), .int (nI 32), .int (nI 32)]) (st := [.ref 2]) (ev_behind X0 (p := s) (lo := 32) (hh := 32) (by omega) (by decide) (by decide)) (hz_new0 _ _) fyX8_behindRun fvX8_109 rfl dX8_step_10 hT2 rfl rfl hA2 rfl rfl (Nat.le_of_ble_eq_true rfl) (by decide) (hz_cap0 _) ?_
  refine hz_putI (pc := 13) C (M' := (hz_up J 2 3 (nI (bgn t x s)), L, PP q)) ffX8_32 dX8_step_13 hT2 hA2 rfl rfl ⟨rfl, rfl⟩ rfl ?_
  refine hz_aload_n (pc := 16) C dX8_step_16 rfl ?_
  refine hz_iconst (pc := 17) C (v := (-1 : Int32)) dX8_step_17 (by decide +kernel) ?_
  refine hz_putI (pc := 18) C (M' := (hz_up (hz_up J 2 3 (nI (bgn t x s))) 2 5 (-1 : Int32), L, PP q)) ffX8_82 dX8_step_18 hT2 hA2 rfl rfl ⟨rfl, rfl⟩ rfl ?_
  refine hz_aload_n (pc := 21) C dX8_step_21 rfl ?_
  refine hz_getI (pc := 22) C (v := nI (bgn t x s)) ffX8_32 dX8_step_22 hT2 hA2 rfl rfl ?_
  refine hz_aload_n (pc := 25) C dX8_step_25 rfl ?_
  refine hz_getI (pc := 26) C (v := nI t) ffX8_15 dX8_step_26 hT2 hA2 rfl (by simp (disch := omega) only [hz_up_eq, va_up_ne]; exact X0.2.1) ?_
  refine hz_ic_lt (pc := 29) C (tgt := 48) dX8_step_29 rfl (fun zzc1 => ?_) (fun zzc1 => ?_)
  · have hbl : bgn t x s < t := Nat.lt_of_not_le fun z => nI_nlt z (by omega) zzc1
    have hxb := (X0.2.2 (bgn t x s) hbl).1
    refine hz_aload_n (pc := 48) C dX8_step_48 rfl ?_
    refine hz_getP (pc := 49) C (v := 3) ffX8_9 dX8_step_49 hT2 hA2 rfl (hP2_0 q) (by decide) ?_
    refine hz_aload_n (pc := 52) C dX8_step_52 rfl ?_
    refine hz_getI (pc := 53) C (v := nI (bgn t x s)) ffX8_32 dX8_step_53 hT2 hA2 rfl rfl ?_
    refine hz_cald (pc := 56) C (v := nI (x (bgn t x s))) (j := bgn t x s) dX8_step_56 hT3 hA3 rfl (by omega) (by decide) (by simp (disch := omega) only [hz_up_ne]; exact (X0.2.2 (bgn t x s) (by omega)).2) ?_
    refine hz_bipush (pc := 57) C (v := nI 97) dX8_step_57 (by decide +kernel) ?_
    refine hz_bipush (pc := 59) C (v := nI 122) dX8_step_59 (by decide +kernel) ?_
    refine hz_callSNs (pc := 61) C (as := [.int (nI (x (bgn t x s))), .int (nI 97), .int (nI 122)]) (st := []) (ev_within _ (nI (x (bgn t x s))) (nI 97) (nI 122)) (hz_new0 _ _) fyX10_within fsX8_96 rfl dX8_step_61 rfl rfl (Nat.le_of_ble_eq_true rfl) (by decide) (hz_cap0 _) ?_
    refine hz_ifb_eq (pc := 64) C (tgt := 91) dX8_step_64 rfl (fun zzc2 => ?_) (fun zzc2 => ?_)
    · have hnw : ¬ (97 ≤ x (bgn t x s) ∧ x (bgn t x s) ≤ 122) := fun z => zzc2 ⟨nI_nlt z.1 (by omega), nI_nlt z.2 (by omega)⟩
      refine hz_aload_n (pc := 91) C dX8_step_91 rfl ?_
      refine hz_getP (pc := 92) C (v := 3) ffX8_9 dX8_step_92 hT2 hA2 rfl (hP2_0 q) (by decide) ?_
      refine hz_aload_n (pc := 95) C dX8_step_95 rfl ?_
      refine hz_getI (pc := 96) C (v := nI (bgn t x s)) ffX8_32 dX8_step_96 hT2 hA2 rfl rfl ?_
      refine hz_cald (pc := 99) C (v := nI (x (bgn t x s))) (j := bgn t x s) dX8_step_99 hT3 hA3 rfl (by omega) (by decide) (by simp (disch := omega) only [hz_up_ne]; exact (X0.2.2 (bgn t x s) (by omega)).2) ?_
      refine hz_bipush (pc := 100) C (v := nI 48) dX8_step_100 (by decide +kernel) ?_
      refine hz_bipush (pc := 102) C (v := nI 57) dX8_step_102 (by decide +kernel) ?_
      refine hz_callSNs (pc := 104) C (as := [.int (nI (x (bgn t x s))), .int (nI 48), .int (nI 57)]) (st := []) (ev_within _ (nI (x (bgn t x s))) (nI 48) (nI 57)) (hz_new0 _ _) fyX10_within fsX8_96 rfl dX8_step_104 rfl rfl (Nat.le_of_ble_eq_true rfl) (by decide) (hz_cap0 _) ?_
      refine hz_ifb_eq (pc := 107) C (tgt := 142) dX8_step_107 rfl (fun zzc3 => ?_) (fun zzc3 => ?_)
      · have hnd : ¬ (48 ≤ x (bgn t x s) ∧ x (bgn t x s) ≤ 57) := fun z => zzc3 ⟨nI_nlt z.1 (by omega), nI_nlt z.2 (by omega)⟩
        refine hz_aload_n (pc := 142) C dX8_step_142 rfl ?_
        refine hz_aload_n (pc := 143) C dX8_step_143 rfl ?_
        refine hz_getP (pc := 144) C (v := 3) ffX8_9 dX8_step_144 hT2 hA2 rfl (hP2_0 q) (by decide) ?_
        refine hz_aload_n (pc := 147) C dX8_step_147 rfl ?_
        refine hz_getI (pc := 148) C (v := nI (bgn t x s)) ffX8_32 dX8_step_148 hT2 hA2 rfl rfl ?_
        refine hz_cald (pc := 151) C (v := nI (x (bgn t x s))) (j := bgn t x s) dX8_step_151 hT3 hA3 rfl (by omega) (by decide) (by simp (disch := omega) only [hz_up_ne]; exact (X0.2.2 (bgn t x s) (by omega)).2) ?_
        refine hz_bipush (pc := 152) C (v := nI 59) dX8_step_152 (by decide +kernel) ?_
        refine hz_ic_ne (pc := 154) C (tgt := 161) dX8_step_154 rfl (fun zzc4 => ?_) (fun zzc4 => ?_)
        · refine hz_iconst (pc := 161) C (v := nI 4) dX8_step_161 (by decide +kernel) ?_
          refine hz_putI (pc := 162) C (M' := (hz_up (hz_up (hz_up J 2 3 (nI (bgn t x s))) 2 5 (-1 : Int32)) 2 2 (nI 4), L, PP q)) ffX8_25 dX8_step_162 hT2 hA2 rfl rfl ⟨rfl, rfl⟩ rfl ?_
          refine hz_aload_n (pc := 165) C dX8_step_165 rfl ?_
          refine hz_aload_n (pc := 166) C dX8_step_166 rfl ?_
          refine hz_getI (pc := 167) C (v := nI (bgn t x s)) ffX8_32 dX8_step_167 hT2 hA2 rfl rfl ?_
          refine hz_iconst (pc := 170) C (v := nI 1) dX8_step_170 (by decide +kernel) ?_
          refine hz_iadd (pc := 171) C (v := nI ((bgn t x s) + 1)) dX8_step_171 (nI_add _ _) ?_
          refine hz_putI (pc := 172) C (M' := (hz_up (hz_up (hz_up (hz_up J 2 3 (nI (bgn t x s))) 2 5 (-1 : Int32)) 2 2 (nI 4)) 2 4 (nI ((bgn t x s) + 1)), L, PP q)) ffX8_19 dX8_step_172 hT2 hA2 rfl rfl ⟨rfl, rfl⟩ rfl ?_
          exact hz_vretx C Z rfl dX8_step_175 ⟨_, rfl, rfl, ⟨fun a ha => by simp (disch := omega) only [hz_up_ne], by simp (disch := omega) only [hz_up_eq, va_up_ne]⟩, by simp (disch := omega) only [hz_up_eq, va_up_ne, va_up_self]; rw [show kc t x s = 4 by unfold kc; rw [if_neg (by omega), if_neg hnw, if_neg hnd, if_neg (fun z => zzc4 (by rw [z]))]], by simp (disch := omega) only [hz_up_eq, va_up_ne, va_up_self], by simp (disch := omega) only [hz_up_eq, va_up_ne, va_up_self]; unfold nxe; rw [show kc t x s = 4 by unfold kc; rw [if_neg (by omega), if_neg hnw, if_neg hnd, if_neg (fun z => zzc4 (by rw [z]))]]; rfl, by simp (disch := omega) only [hz_up_eq, va_up_ne, va_up_self]; unfold vC; rw [if_neg (by rw [show kc t x s = 4 by unfold kc; rw [if_neg (by omega), if_neg hnw, if_neg hnd, if_neg (fun z => zzc4 (by rw [z]))]]; omega)]⟩
        · refine hz_iconst (pc := 157) C (v := nI 3) dX8_step_157 (by decide +kernel) ?_
          refine hz_goto (pc := 158) C (tgt := 162) dX8_step_158 rfl ?_
          refine hz_putI (pc := 162) C (M' := (hz_up (hz_up (hz_up J 2 3 (nI (bgn t x s))) 2 5 (-1 : Int32)) 2 2 (nI 3), L, PP q)) ffX8_25 dX8_step_162 hT2 hA2 rfl rfl ⟨rfl, rfl⟩ rfl ?_
          refine hz_aload_n (pc := 165) C dX8_step_165 rfl ?_
          refine hz_aload_n (pc := 166) C dX8_step_166 rfl ?_
          refine hz_getI (pc := 167) C (v := nI (bgn t x s)) ffX8_32 dX8_step_167 hT2 hA2 rfl rfl ?_
          refine hz_iconst (pc := 170) C (v := nI 1) dX8_step_170 (by decide +kernel) ?_
          refine hz_iadd (pc := 171) C (v := nI ((bgn t x s) + 1)) dX8_step_171 (nI_add _ _) ?_
          refine hz_putI (pc := 172) C (M' := (hz_up (hz_up (hz_up (hz_up J 2 3 (nI (bgn t x s))) 2 5 (-1 : Int32)) 2 2 (nI 3)) 2 4 (nI ((bgn t x s) + 1)), L, PP q)) ffX8_19 dX8_step_172 hT2 hA2 rfl rfl ⟨rfl, rfl⟩ rfl ?_
          exact hz_vretx C Z rfl dX8_step_175 ⟨_, rfl, rfl, ⟨fun a ha => by simp (disch := omega) only [hz_up_ne], by simp (disch := omega) only [hz_up_eq, va_up_ne]⟩, by simp (disch := omega) only [hz_up_eq, va_up_ne, va_up_self]; rw [show kc t x s = 3 by unfold kc; rw [if_neg (by omega), if_neg hnw, if_neg hnd, if_pos ((nI_eq (by omega) (by omega)).mp zzc4)]], by simp (disch := omega) only [hz_up_eq, va_up_ne, va_up_self], by simp (disch := omega) only [hz_up_eq, va_up_ne, va_up_self]; unfold nxe; rw [show kc t x s = 3 by unfold kc; rw [if_neg (by omega), if_neg hnw, if_neg hnd, if_pos ((nI_eq (by omega) (by omega)).mp zzc4)]]; rfl, by simp (disch := omega) only [hz_up_eq, va_up_ne, va_up_self]; unfold vC; rw [if_neg (by rw [show kc t x s = 3 by unfold kc; rw [if_neg (by omega), if_neg hnw, if_neg hnd, if_pos ((nI_eq (by omega) (by omega)).mp zzc4)]]; omega)]⟩
      · have hw : 48 ≤ x (bgn t x s) ∧ x (bgn t x s) ≤ 57 := ⟨Nat.le_of_not_lt fun z => zzc3.1 (nI_lt z (by omega)), Nat.le_of_not_lt fun z => zzc3.2 (nI_lt z (by omega))⟩
        have hk : kc t x s = 2 := by unfold kc; rw [if_neg (by omega), if_neg hnw, if_pos hw]
        have he9 := rn_ok t x 48 57 (p := bgn t x s) (by omega)
        have hlt9 : bgn t x s < rn t x 48 57 (bgn t x s) := by rw [rn_s hbl hw]; have := rn_ok t x 48 57 (p := bgn t x s + 1) (by omega); omega
        refine hz_aload_n (pc := 110) C dX8_step_110 rfl ?_
        refine hz_iconst (pc := 111) C (v := nI 2) dX8_step_111 (by decide +kernel) ?_
        refine hz_putI (pc := 112) C (M' := (hz_up (hz_up (hz_up J 2 3 (nI (bgn t x s))) 2 5 (-1 : Int32)) 2 2 (nI 2), L, PP q)) ffX8_25 dX8_step_112 hT2 hA2 rfl rfl ⟨rfl, rfl⟩ rfl ?_
        refine hz_aload_n (pc := 115) C dX8_step_115 rfl ?_
        refine hz_aload_n (pc := 116) C dX8_step_116 rfl ?_
        refine hz_aload_n (pc := 117) C dX8_step_117 rfl ?_
        refine hz_getI (pc := 118) C (v := nI (bgn t x s)) ffX8_32 dX8_step_118 hT2 hA2 rfl rfl ?_
        refine hz_bipush (pc := 121) C (v := nI 48) dX8_step_121 (by decide +kernel) ?_
        refine hz_bipush (pc := 123) C (v := nI 57) dX8_step_123 (by decide +kernel) ?_
        refine hz_callVs (pc := 125) C (as := [.int (nI (bgn t x s)), .int (nI 48), .int (nI 57)]) (st := [.ref 2]) (ev_behind (X0.cong (by simp (disch := omega) only [hz_up_eq, va_up_ne]) (by simp (disch := omega) only [hz_up_ne])) (p := bgn t x s) (lo := 48) (hh := 57) (by omega) (by decide) (by decide)) (hz_new0 _ _) fyX8_behindRun fvX8_109 rfl dX8_step_125 hT2 rfl rfl hA2 rfl rfl (Nat.le_of_ble_eq_true rfl) (by decide) (hz_cap0 _) ?_
        refine hz_putI (pc := 128) C (M' := (hz_up (hz_up (hz_up (hz_up J 2 3 (nI (bgn t x s))) 2 5 (-1 : Int32)) 2 2 (nI 2)) 2 4 (nI (rn t x 48 57 (bgn t x s))), L, PP q)) ffX8_19 dX8_step_128 hT2 hA2 rfl rfl ⟨rfl, rfl⟩ rfl ?_
        refine hz_aload_n (pc := 131) C dX8_step_131 rfl ?_
        refine hz_aload_n (pc := 132) C dX8_step_132 rfl ?_
        refine hz_callVs (pc := 133) C (as := []) (st := [.ref 2]) (ev_val (X0.cong (by simp (disch := omega) only [hz_up_eq, va_up_ne]) (by simp (disch := omega) only [hz_up_ne])) (b := bgn t x s) (e := rn t x 48 57 (bgn t x s)) (by simp (disch := omega) only [hz_up_eq, va_up_ne, va_up_self]) (by simp (disch := omega) only [hz_up_eq, va_up_ne, va_up_self]) hlt9 he9.2.1 he9.2.2) (hz_new0 _ _) fyX8_valueOfFigures fvX8_113 rfl dX8_step_133 hT2 rfl rfl hA2 rfl rfl (Nat.le_of_ble_eq_true rfl) (by decide) (hz_cap0 _) ?_
        refine hz_putI (pc := 136) C (M' := (hz_up (hz_up (hz_up (hz_up (hz_up J 2 3 (nI (bgn t x s))) 2 5 (-1 : Int32)) 2 2 (nI 2)) 2 4 (nI (rn t x 48 57 (bgn t x s)))) 2 5 (if rn t x 48 57 (bgn t x s) - bgn t x s ≤ 2 then nI (vd x (bgn t x s) (rn t x 48 57 (bgn t x s))) else -1), L, PP q)) ffX8_82 dX8_step_136 hT2 hA2 rfl rfl ⟨rfl, rfl⟩ rfl ?_
        refine hz_goto (pc := 139) C (tgt := 175) dX8_step_139 rfl ?_
        exact hz_vretx C Z rfl dX8_step_175 ⟨_, rfl, rfl, ⟨fun a ha => by simp (disch := omega) only [hz_up_ne], by simp (disch := omega) only [hz_up_eq, va_up_ne]⟩, by simp (disch := omega) only [hz_up_eq, va_up_ne, va_up_self]; rw [hk], by simp (disch := omega) only [hz_up_eq, va_up_ne, va_up_self], by simp (disch := omega) only [hz_up_eq, va_up_ne, va_up_self]; unfold nxe; rw [hk]; rfl, by simp (disch := omega) only [hz_up_eq, va_up_ne, va_up_self]; unfold vC nxe; rw [hk]; simp⟩
    · have hw : 97 ≤ x (bgn t x s) ∧ x (bgn t x s) ≤ 122 := ⟨Nat.le_of_not_lt fun z => zzc2.1 (nI_lt z (by omega)), Nat.le_of_not_lt fun z => zzc2.2 (nI_lt z (by omega))⟩
      have hk : kc t x s = 1 := by unfold kc; rw [if_neg (by omega), if_pos hw]
      refine hz_aload_n (pc := 67) C dX8_step_67 rfl ?_
      refine hz_iconst (pc := 68) C (v := nI 1) dX8_step_68 (by decide +kernel) ?_
      refine hz_putI (pc := 69) C (M' := (hz_up (hz_up (hz_up J 2 3 (nI (bgn t x s))) 2 5 (-1 : Int32)) 2 2 (nI 1), L, PP q)) ffX8_25 dX8_step_69 hT2 hA2 rfl rfl ⟨rfl, rfl⟩ rfl ?_
      refine hz_aload_n (pc := 72) C dX8_step_72 rfl ?_
      refine hz_aload_n (pc := 73) C dX8_step_73 rfl ?_
      refine hz_aload_n (pc := 74) C dX8_step_74 rfl ?_
      refine hz_getI (pc := 75) C (v := nI (bgn t x s)) ffX8_32 dX8_step_75 hT2 hA2 rfl rfl ?_
      refine hz_bipush (pc := 78) C (v := nI 97) dX8_step_78 (by decide +kernel) ?_
      refine hz_bipush (pc := 80) C (v := nI 122) dX8_step_80 (by decide +kernel) ?_
      refine hz_callVs (pc := 82) C (as := [.int (nI (bgn t x s)), .int (nI 97), .int (nI 122)]) (st := [.ref 2]) (ev_behind (X0.cong (by simp (disch := omega) only [hz_up_eq, va_up_ne]) (by simp (disch := omega) only [hz_up_ne])) (p := bgn t x s) (lo := 97) (hh := 122) (by omega) (by decide) (by decide)) (hz_new0 _ _) fyX8_behindRun fvX8_109 rfl dX8_step_82 hT2 rfl rfl hA2 rfl rfl (Nat.le_of_ble_eq_true rfl) (by decide) (hz_cap0 _) ?_
      refine hz_putI (pc := 85) C (M' := (hz_up (hz_up (hz_up (hz_up J 2 3 (nI (bgn t x s))) 2 5 (-1 : Int32)) 2 2 (nI 1)) 2 4 (nI (rn t x 97 122 (bgn t x s))), L, PP q)) ffX8_19 dX8_step_85 hT2 hA2 rfl rfl ⟨rfl, rfl⟩ rfl ?_
      refine hz_goto (pc := 88) C (tgt := 175) dX8_step_88 rfl ?_
      exact hz_vretx C Z rfl dX8_step_175 ⟨_, rfl, rfl, ⟨fun a ha => by simp (disch := omega) only [hz_up_ne], by simp (disch := omega) only [hz_up_eq, va_up_ne]⟩, by simp (disch := omega) only [hz_up_eq, va_up_ne, va_up_self]; rw [hk], by simp (disch := omega) only [hz_up_eq, va_up_ne, va_up_self], by simp (disch := omega) only [hz_up_eq, va_up_ne, va_up_self]; unfold nxe; rw [hk]; rfl, by simp (disch := omega) only [hz_up_eq, va_up_ne, va_up_self]; unfold vC; rw [if_neg (by rw [hk]; omega)]⟩
  · have hend : t ≤ bgn t x s := Nat.le_of_not_lt fun z => zzc1 (nI_lt z (by omega))
    refine hz_aload_n (pc := 32) C dX8_step_32 rfl ?_
    refine hz_iconst (pc := 33) C (v := nI 0) dX8_step_33 (by decide +kernel) ?_
    refine hz_putI (pc := 34) C (M' := (hz_up (hz_up (hz_up J 2 3 (nI (bgn t x s))) 2 5 (-1 : Int32)) 2 2 (nI 0), L, PP q)) ffX8_25 dX8_step_34 hT2 hA2 rfl rfl ⟨rfl, rfl⟩ rfl ?_
    refine hz_aload_n (pc := 37) C dX8_step_37 rfl ?_
    refine hz_aload_n (pc := 38) C dX8_step_38 rfl ?_
    refine hz_getI (pc := 39) C (v := nI (bgn t x s)) ffX8_32 dX8_step_39 hT2 hA2 rfl rfl ?_
    refine hz_putI (pc := 42) C (M' := (hz_up (hz_up (hz_up (hz_up J 2 3 (nI (bgn t x s))) 2 5 (-1 : Int32)) 2 2 (nI 0)) 2 4 (nI (bgn t x s)), L, PP q)) ffX8_19 dX8_step_42 hT2 hA2 rfl rfl ⟨rfl, rfl⟩ rfl ?_
    refine hz_goto (pc := 45) C (tgt := 175) dX8_step_45 rfl ?_
    exact hz_vretx C Z rfl dX8_step_175 ⟨_, rfl, rfl, ⟨fun a ha => by simp (disch := omega) only [hz_up_ne], by simp (disch := omega) only [hz_up_eq, va_up_ne]⟩, by simp (disch := omega) only [hz_up_eq, va_up_ne, va_up_self]; rw [show kc t x s = 0 by unfold kc; rw [if_pos hend]], by simp (disch := omega) only [hz_up_eq, va_up_ne, va_up_self], by simp (disch := omega) only [hz_up_eq, va_up_ne, va_up_self]; unfold nxe; rw [show kc t x s = 0 by unfold kc; rw [if_pos hend]]; rfl, by simp (disch := omega) only [hz_up_eq, va_up_ne, va_up_self]; unfold vC; rw [if_neg (by rw [show kc t x s = 0 by unfold kc; rw [if_pos hend]]; omega)]⟩

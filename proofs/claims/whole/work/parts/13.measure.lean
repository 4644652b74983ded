theorem hz_upl {f : Nat → Int32} {x : Int32} {i : Nat} (P : Nat → Int32 → Prop) (h : ∀ j, j < i → P j (f j)) (hx : P i x) : ∀ j, j < i + 1 → P j (va_up f i x j) := by
  intro j hj
  by_cases e : j = i
  · subst e; simpa [va_up] using hx
  · simp only [va_up, if_neg e]; exact h j (by omega)
theorem hz_up2 {f : Nat → Int32} {x : Int32} {a b a' b' : Nat} (hb : b < 8) (hb' : b' < 8) : va_up f (a * 8 + b) x (a' * 8 + b') = if a' = a ∧ b' = b then x else f (a' * 8 + b') := by
  unfold va_up
  by_cases e : a' = a ∧ b' = b
  · rw [if_pos e, if_pos (by obtain ⟨rfl, rfl⟩ := e; rfl)]
  · rw [if_neg e, if_neg (by omega)]
theorem dv_no {x : Nat} (h : x = 0) : dv x = -1 := by simp [dv, h]
theorem dv_is {x : Nat} (h : x ≤ 9) (h0 : ¬ dv x = -1) : dv x = nI x ∧ x ≠ 0 := by
  by_cases e : x = 0
  · exact absurd (dv_no e) h0
  · exact ⟨by simp [dv, e], e⟩
theorem dv_0 {x : Nat} (h : x ≤ 9) (h0 : dv x = -1) : x = 0 := by
  rcases (show x = 0 ∨ x = 1 ∨ x = 2 ∨ x = 3 ∨ x = 4 ∨ x = 5 ∨ x = 6 ∨ x = 7 ∨ x = 8 ∨ x = 9 by omega) with rfl | rfl | rfl | rfl | rfl | rfl | rfl | rfl | rfl | rfl <;> first | rfl | (exact absurd h0 (by decide))
def ms_1 (u : Nat → Nat) (j : Nat) : Nat := if u j = 0 then 1000 else u j
/-- ways by rooms below v, and for the rows and places that are done already by v too -/
def ms_F (u : Nat → Nat) (v a b : Nat) (f : Nat → Int32) : Prop := ∀ a' b', a' < 8 → b' < 8 → f (a' * 8 + b') = nI (if a' < a ∨ (a' = a ∧ b' < b) then fwk u (v + 1) a' b' else fwk u v a' b')
theorem ms_row {u : Nat → Nat} {v a b : Nat} {f : Nat → Int32} (hf : ms_F u v a b f) (hv : v < 8) (hb : b < 8) : f (v * 8 + b) = nI (fwk u v v b) := by
  rw [hf v b hv hb]
  by_cases e : v < a ∨ (v = a ∧ b < b)
  · rw [if_pos e, fw_row]
  · rw [if_neg e]
theorem ms_dg {u : Nat → Nat} {f : Nat → Int32} (hf : ∀ a b, a < 8 → b < 8 → f (a * 8 + b) = nI (if a = b ∧ a < 8 then 0 else ms_1 u (8 * a + b))) : ∀ a b, a < 8 → b < 8 → f (a * 8 + b) = nI (fw0 u a b) := by
  intro a b ha hb
  rw [hf a b ha hb]
  unfold fw0
  by_cases e : a = b
  · rw [if_pos ⟨e, ha⟩, if_pos e]
  · rw [if_neg (fun z => e z.1), if_neg e]
    rfl
set_option maxHeartbeats 4000000 in
set_option maxRecDepth 100000 in
theorem lp_ms1 {X : hz_X} (C : hz_C X mX2_measure) {I : Nat → Nat → Int32} {L : Nat → Nat → Int64} {q : Nat → Nat → Nat} {u : Nat → Nat} (V : HV 12 q I u) (U : WU u) (kk : ∀ (f : Nat → Int32) (w : Option Value), (∀ j, j < 64 → f j = nI (ms_1 u j)) → hz_G X TT NN (hz_sa I 14 f, L, PP q) 0 0 45 [some (.ref 12), w, none, none, none, none] []) : ∀ (n i : Nat) (f : Nat → Int32), i + n = 64 → (∀ j, j < i → f j = nI (ms_1 u j)) → hz_G X TT NN (hz_sa I 14 f, L, PP q) 0 0 2 [some (.ref 12), some (.int (nI i)), none, none, none, none] [] := by
  intro n
  induction n with
  | zero =>
    intro i f hi hf
    obtain rfl : i = 64 := by omega
    refine hz_iload_n (pc := 2) C dX2_measure_2 rfl ?_
    refine hz_aload_n (pc := 3) C dX2_measure_3 rfl ?_
    refine hz_getP (pc := 4) C (v := 13) ffX2_9 dX2_measure_4 hT12 hA12 rfl (hP12_1 q) (by decide) ?_
    refine hz_alen (pc := 7) C (v := nI 64) dX2_measure_7 hT13 ⟨by decide, by decide⟩ hA13 rfl ?_
    refine hz_ic_ge (pc := 8) C (tgt := 45) dX2_measure_8 rfl (fun _ => ?_) (fun cq => absurd (nI_le (by omega) (by omega)) cq)
    exact kk f _ hf
  | succ n ih =>
    intro i f hi hf
    have hu := wu_dr U (j := i) (by omega)
    refine hz_iload_n (pc := 2) C dX2_measure_2 rfl ?_
    refine hz_aload_n (pc := 3) C dX2_measure_3 rfl ?_
    refine hz_getP (pc := 4) C (v := 13) ffX2_9 dX2_measure_4 hT12 hA12 rfl (hP12_1 q) (by decide) ?_
    refine hz_alen (pc := 7) C (v := nI 64) dX2_measure_7 hT13 ⟨by decide, by decide⟩ hA13 rfl ?_
    refine hz_ic_ge (pc := 8) C (tgt := 45) dX2_measure_8 rfl (fun cq => absurd cq (nI_ge (by omega) (by omega))) (fun _ => ?_)
    refine hz_aload_n (pc := 11) C dX2_measure_11 rfl ?_
    refine hz_getP (pc := 12) C (v := 14) ffX2_15 dX2_measure_12 hT12 hA12 rfl (hP12_2 q) (by decide) ?_
    refine hz_iload_n (pc := 15) C dX2_measure_15 rfl ?_
    refine hz_aload_n (pc := 16) C dX2_measure_16 rfl ?_
    refine hz_getP (pc := 17) C (v := 13) ffX2_9 dX2_measure_17 hT12 hA12 rfl (hP12_1 q) (by decide) ?_
    refine hz_iload_n (pc := 20) C dX2_measure_20 rfl ?_
    refine hz_iald (pc := 21) C (v := dv (u i)) (j := i) dX2_measure_21 hT13 hA13 rfl (by omega) (by decide) (hv_do V (by omega)) ?_
    refine hz_iconst (pc := 22) C (v := (-1 : Int32)) dX2_measure_22 (by decide +kernel) ?_
    refine hz_ic_ne (pc := 23) C (tgt := 32) dX2_measure_23 rfl (fun c1 => ?_) (fun c1 => ?_)
    · refine hz_aload_n (pc := 32) C dX2_measure_32 rfl ?_
      refine hz_getP (pc := 33) C (v := 13) ffX2_9 dX2_measure_33 hT12 hA12 rfl (hP12_1 q) (by decide) ?_
      refine hz_iload_n (pc := 36) C dX2_measure_36 rfl ?_
      refine hz_iald (pc := 37) C (v := dv (u i)) (j := i) dX2_measure_37 hT13 hA13 rfl (by omega) (by decide) (hv_do V (by omega)) ?_
      refine hz_iast (pc := 38) C (v := dv (u i)) (j := i) (M' := (hz_sa I 14 (va_up f i (dv (u i))), L, PP q)) dX2_measure_38 hT14 hA14 rfl (by omega) (by decide) rfl (hz_sau _ _ _ _ _ _) ?_
      refine hz_iinc (pc := 39) C (v := nI (i + 1)) (ls' := [some (.ref 12), some (.int (nI (i + 1))), none, none, none, none]) dX2_measure_39 rfl (nI_add _ 1) rfl ?_
      refine hz_goto (pc := 42) C (tgt := 2) dX2_measure_42 rfl ?_
      exact ih (i + 1) _ (by omega) (hz_upl (fun j y => y = nI (ms_1 u j)) hf (by have h9 := dv_is hu c1; rw [h9.1]; simp [ms_1, h9.2]))
    · refine hz_sipush (pc := 26) C (v := nI 1000) dX2_measure_26 (by decide +kernel) ?_
      refine hz_goto (pc := 29) C (tgt := 38) dX2_measure_29 rfl ?_
      refine hz_iast (pc := 38) C (v := nI 1000) (j := i) (M' := (hz_sa I 14 (va_up f i (nI 1000)), L, PP q)) dX2_measure_38 hT14 hA14 rfl (by omega) (by decide) rfl (hz_sau _ _ _ _ _ _) ?_
      refine hz_iinc (pc := 39) C (v := nI (i + 1)) (ls' := [some (.ref 12), some (.int (nI (i + 1))), none, none, none, none]) dX2_measure_39 rfl (nI_add _ 1) rfl ?_
      refine hz_goto (pc := 42) C (tgt := 2) dX2_measure_42 rfl ?_
      exact ih (i + 1) _ (by omega) (hz_upl (fun j y => y = nI (ms_1 u j)) hf (by simp [ms_1, dv_0 hu c1]))
set_option maxHeartbeats 4000000 in
set_option maxRecDepth 100000 in
theorem lp_ms2 {X : hz_X} (C : hz_C X mX2_measure) {I : Nat → Nat → Int32} {L : Nat → Nat → Int64} {q : Nat → Nat → Nat} {u : Nat → Nat} (V : HV 12 q I u) (U : WU u) (kk : ∀ (f : Nat → Int32) (w : Option Value), (∀ a b, a < 8 → b < 8 → f (a * 8 + b) = nI (fw0 u a b)) → hz_G X TT NN (hz_sa I 14 f, L, PP q) 0 0 71 [some (.ref 12), w, none, none, none, none] []) : ∀ (n i : Nat) (f : Nat → Int32), i + n = 8 → (∀ a b, a < 8 → b < 8 → f (a * 8 + b) = nI (if a = b ∧ a < i then 0 else ms_1 u (8 * a + b))) → hz_G X TT NN (hz_sa I 14 f, L, PP q) 0 0 47 [some (.ref 12), some (.int (nI i)), none, none, none, none] [] := by
  intro n
  induction n with
  | zero =>
    intro i f hi hf
    obtain rfl : i = 8 := by omega
    refine hz_iload_n (pc := 47) C dX2_measure_47 rfl ?_
    refine hz_bipush (pc := 48) C (v := nI 8) dX2_measure_48 (by decide +kernel) ?_
    refine hz_ic_ge (pc := 50) C (tgt := 71) dX2_measure_50 rfl (fun _ => ?_) (fun cq => absurd (nI_le (by omega) (by omega)) cq)
    exact kk f _ (ms_dg hf)
  | succ n ih =>
    intro i f hi hf
    refine hz_iload_n (pc := 47) C dX2_measure_47 rfl ?_
    refine hz_bipush (pc := 48) C (v := nI 8) dX2_measure_48 (by decide +kernel) ?_
    refine hz_ic_ge (pc := 50) C (tgt := 71) dX2_measure_50 rfl (fun cq => absurd cq (nI_ge (by omega) (by omega))) (fun _ => ?_)
    refine hz_aload_n (pc := 53) C dX2_measure_53 rfl ?_
    refine hz_getP (pc := 54) C (v := 14) ffX2_15 dX2_measure_54 hT12 hA12 rfl (hP12_2 q) (by decide) ?_
    refine hz_iload_n (pc := 57) C dX2_measure_57 rfl ?_
    refine hz_bipush (pc := 58) C (v := nI 8) dX2_measure_58 (by decide +kernel) ?_
    refine hz_imul (pc := 60) C (v := nI (i * 8)) dX2_measure_60 (pk_mul _ _) ?_
    refine hz_iload_n (pc := 61) C dX2_measure_61 rfl ?_
    refine hz_iadd (pc := 62) C (v := nI ((i * 8) + i)) dX2_measure_62 (nI_add _ _) ?_
    refine hz_iconst (pc := 63) C (v := nI 0) dX2_measure_63 (by decide +kernel) ?_
    refine hz_iast (pc := 64) C (v := nI 0) (j := (i * 8) + i) (M' := (hz_sa I 14 (va_up f ((i * 8) + i) (nI 0)), L, PP q)) dX2_measure_64 hT14 hA14 rfl (by omega) (by decide) rfl (hz_sau _ _ _ _ _ _) ?_
    refine hz_iinc (pc := 65) C (v := nI (i + 1)) (ls' := [some (.ref 12), some (.int (nI (i + 1))), none, none, none, none]) dX2_measure_65 rfl (nI_add _ 1) rfl ?_
    refine hz_goto (pc := 68) C (tgt := 47) dX2_measure_68 rfl ?_
    exact ih (i + 1) _ (by omega) (fun a b ha hb => by
      rw [hz_up2 (by omega) hb, hf a b ha hb]
      by_cases e : a = i ∧ b = i
      · rw [if_pos e, if_pos (by omega)]
      · rw [if_neg e]
        by_cases e2 : a = b ∧ a < i
        · rw [if_pos e2, if_pos (by omega)]
        · rw [if_neg e2, if_neg (by omega)])
set_option maxHeartbeats 4000000 in
set_option maxRecDepth 100000 in
theorem lp_ms5 {X : hz_X} (C : hz_C X mX2_measure) {I : Nat → Nat → Int32} {L : Nat → Nat → Int64} {q : Nat → Nat → Nat} {u : Nat → Nat} (V : HV 12 q I u) (U : WU u) {v a : Nat} (hv : v < 8) (ha : a < 8) (kk : ∀ (f : Nat → Int32) (w3 w4 w5 : Option Value), ms_F u v (a + 1) 0 f → hz_G X TT NN (hz_sa I 14 f, L, PP q) 0 0 167 [some (.ref 12), some (.int (nI v)), some (.int (nI a)), w3, w4, w5] []) : ∀ (n b : Nat) (f : Nat → Int32) (w5 : Option Value), b + n = 8 → ms_F u v a b f → hz_G X TT NN (hz_sa I 14 f, L, PP q) 0 0 102 [some (.ref 12), some (.int (nI v)), some (.int (nI a)), some (.int (nI (fwk u v a v))), some (.int (nI b)), w5] [] := by
  have hl := fw_le u U.2.1
  intro n
  induction n with
  | zero =>
    intro b f w5 hi hf
    obtain rfl : b = 8 := by omega
    refine hz_iload (pc := 102) C dX2_measure_102 rfl ?_
    refine hz_bipush (pc := 104) C (v := nI 8) dX2_measure_104 (by decide +kernel) ?_
    refine hz_ic_ge (pc := 106) C (tgt := 167) dX2_measure_106 rfl (fun _ => ?_) (fun cq => absurd (nI_le (by omega) (by omega)) cq)
    exact kk f _ _ _ (fun a' b' ha' hb' => by
      rw [hf a' b' ha' hb']
      by_cases e : a' < a ∨ (a' = a ∧ b' < 8)
      · rw [if_pos e, if_pos (by omega)]
      · rw [if_neg e]
        by_cases e2 : a' < a + 1
        · obtain rfl : a' = a := by omega
          rw [if_pos (by omega)]
          omega
        · rw [if_neg (by omega)])
  | succ n ih =>
    intro b f w5 hi hf
    have h1 := hl v a v ha hv
    have h2 := hl v v b hv (by omega)
    have h3 := hl v a b ha (by omega)
    have r1 := ms_row hf hv (show b < 8 by omega)
    have r2 : f (a * 8 + b) = nI (fwk u v a b) := by rw [hf a b ha (by omega), if_neg (by omega)]
    by_cases hc : 1000 ≤ fwk u v a v
    · refine hz_iload (pc := 102) C dX2_measure_102 rfl ?_
      refine hz_bipush (pc := 104) C (v := nI 8) dX2_measure_104 (by decide +kernel) ?_
      refine hz_ic_ge (pc := 106) C (tgt := 167) dX2_measure_106 rfl (fun cq => absurd cq (nI_ge (by omega) (by omega))) (fun _ => ?_)
      refine hz_iload_n (pc := 109) C dX2_measure_109 rfl ?_
      refine hz_sipush (pc := 110) C (v := nI 1000) dX2_measure_110 (by decide +kernel) ?_
      refine hz_ic_ge (pc := 113) C (tgt := 167) dX2_measure_113 rfl (fun _ => ?_) (fun cq => absurd (nI_le (by omega) (by omega)) cq)
      exact kk f _ _ _ (fun a' b' ha' hb' => by
        rw [hf a' b' ha' hb']
        by_cases e : a' < a ∨ (a' = a ∧ b' < b)
        · rw [if_pos e, if_pos (by omega)]
        · rw [if_neg e]
          by_cases e2 : a' < a + 1
          · obtain rfl : a' = a := by omega
            rw [if_pos (by omega)]
            show _ = nI (min _ _)
            rw [Nat.min_eq_left (by have := hl v a' b' ha' hb'; omega)]
          · rw [if_neg (by omega)])
    · refine hz_iload (pc := 102) C dX2_measure_102 rfl ?_
      refine hz_bipush (pc := 104) C (v := nI 8) dX2_measure_104 (by decide +kernel) ?_
      refine hz_ic_ge (pc := 106) C (tgt := 167) dX2_measure_106 rfl (fun cq => absurd cq (nI_ge (by omega) (by omega))) (fun _ => ?_)
      refine hz_iload_n (pc := 109) C dX2_measure_109 rfl ?_
      refine hz_sipush (pc := 110) C (v := nI 1000) dX2_measure_110 (by decide +kernel) ?_
      refine hz_ic_ge (pc := 113) C (tgt := 167) dX2_measure_113 rfl (fun cq => absurd cq (nI_ge (by omega) (by omega))) (fun _ => ?_)
      refine hz_iload_n (pc := 116) C dX2_measure_116 rfl ?_
      refine hz_aload_n (pc := 117) C dX2_measure_117 rfl ?_
      refine hz_getP (pc := 118) C (v := 14) ffX2_15 dX2_measure_118 hT12 hA12 rfl (hP12_2 q) (by decide) ?_
      refine hz_iload_n (pc := 121) C dX2_measure_121 rfl ?_
      refine hz_bipush (pc := 122) C (v := nI 8) dX2_measure_122 (by decide +kernel) ?_
      refine hz_imul (pc := 124) C (v := nI (v * 8)) dX2_measure_124 (pk_mul _ _) ?_
      refine hz_iload (pc := 125) C dX2_measure_125 rfl ?_
      refine hz_iadd (pc := 127) C (v := nI ((v * 8) + b)) dX2_measure_127 (nI_add _ _) ?_
      refine hz_iald (pc := 128) C (v := nI (fwk u v v b)) (j := (v * 8) + b) dX2_measure_128 hT14 hA14 rfl (by omega) (by decide) r1 ?_
      refine hz_iadd (pc := 129) C (v := nI ((fwk u v a v) + (fwk u v v b))) dX2_measure_129 (nI_add _ _) ?_
      refine hz_istore (pc := 130) C (ls' := [some (.ref 12), some (.int (nI v)), some (.int (nI a)), some (.int (nI (fwk u v a v))), some (.int (nI b)), some (.int (nI ((fwk u v a v) + (fwk u v v b))))]) dX2_measure_130 (Nat.le_of_ble_eq_true rfl) rfl ?_
      refine hz_aload_n (pc := 132) C dX2_measure_132 rfl ?_
      refine hz_getP (pc := 133) C (v := 14) ffX2_15 dX2_measure_133 hT12 hA12 rfl (hP12_2 q) (by decide) ?_
      refine hz_iload_n (pc := 136) C dX2_measure_136 rfl ?_
      refine hz_bipush (pc := 137) C (v := nI 8) dX2_measure_137 (by decide +kernel) ?_
      refine hz_imul (pc := 139) C (v := nI (a * 8)) dX2_measure_139 (pk_mul _ _) ?_
      refine hz_iload (pc := 140) C dX2_measure_140 rfl ?_
      refine hz_iadd (pc := 142) C (v := nI ((a * 8) + b)) dX2_measure_142 (nI_add _ _) ?_
      refine hz_aload_n (pc := 143) C dX2_measure_143 rfl ?_
      refine hz_getP (pc := 144) C (v := 14) ffX2_15 dX2_measure_144 hT12 hA12 rfl (hP12_2 q) (by decide) ?_
      refine hz_iload_n (pc := 147) C dX2_measure_147 rfl ?_
      refine hz_bipush (pc := 148) C (v := nI 8) dX2_measure_148 (by decide +kernel) ?_
      refine hz_imul (pc := 150) C (v := nI (a * 8)) dX2_measure_150 (pk_mul _ _) ?_
      refine hz_iload (pc := 151) C dX2_measure_151 rfl ?_
      refine hz_iadd (pc := 153) C (v := nI ((a * 8) + b)) dX2_measure_153 (nI_add _ _) ?_
      refine hz_iald (pc := 154) C (v := nI (fwk u v a b)) (j := (a * 8) + b) dX2_measure_154 hT14 hA14 rfl (by omega) (by decide) r2 ?_
      refine hz_iload (pc := 155) C dX2_measure_155 rfl ?_
      refine hz_mmin (pc := 157) C fsX2_105 rfl dX2_measure_157 (Nat.le_of_ble_eq_true rfl) (by decide) (And.intro (Nat.zero_le _) (Nat.zero_le _)) ?_
      refine hz_iast (pc := 160) C (v := if nI ((fwk u v a v) + (fwk u v v b)) < nI (fwk u v a b) then nI ((fwk u v a v) + (fwk u v v b)) else nI (fwk u v a b)) (j := (a * 8) + b) (M' := (hz_sa I 14 (va_up f ((a * 8) + b) (if nI ((fwk u v a v) + (fwk u v v b)) < nI (fwk u v a b) then nI ((fwk u v a v) + (fwk u v v b)) else nI (fwk u v a b))), L, PP q)) dX2_measure_160 hT14 hA14 rfl (by omega) (by decide) rfl (hz_sau _ _ _ _ _ _) ?_
      refine hz_iinc (pc := 161) C (v := nI (b + 1)) (ls' := [some (.ref 12), some (.int (nI v)), some (.int (nI a)), some (.int (nI (fwk u v a v))), some (.int (nI (b + 1))), some (.int (nI ((fwk u v a v) + (fwk u v v b))))]) dX2_measure_161 rfl (nI_add _ 1) rfl ?_
      refine hz_goto (pc := 164) C (tgt := 102) dX2_measure_164 rfl ?_
      exact ih (b + 1) _ _ (by omega) (fun a' b' ha' hb' => by
        rw [hz_up2 (by omega) hb']
        by_cases e : a' = a ∧ b' = b
        · obtain ⟨rfl, rfl⟩ := e
          rw [if_pos ⟨rfl, rfl⟩, show (if a' < a' ∨ (a' = a' ∧ b' < b' + 1) then fwk u (v + 1) a' b' else fwk u v a' b') = fwk u (v + 1) a' b' from if_pos (by omega)]
          show _ = nI (min _ _)
          by_cases e2 : fwk u v a' v + fwk u v v b' < fwk u v a' b'
          · rw [if_pos (nI_lt e2 (by omega)), Nat.min_eq_right (by omega)]
          · rw [if_neg (nI_nlt (by omega) (by omega)), Nat.min_eq_left (by omega)]
        · rw [if_neg e, hf a' b' ha' hb']
          by_cases e2 : a' < a ∨ (a' = a ∧ b' < b)
          · rw [if_pos e2, if_pos (by omega)]
          · rw [if_neg e2, if_neg (by omega)])
set_option maxHeartbeats 4000000 in
set_option maxRecDepth 100000 in
theorem lp_ms4 {X : hz_X} (C : hz_C X mX2_measure) {I : Nat → Nat → Int32} {L : Nat → Nat → Int64} {q : Nat → Nat → Nat} {u : Nat → Nat} (V : HV 12 q I u) (U : WU u) {v : Nat} (hv : v < 8) (kk : ∀ (f : Nat → Int32) (w2 w3 w4 w5 : Option Value), ms_F u (v + 1) 0 0 f → hz_G X TT NN (hz_sa I 14 f, L, PP q) 0 0 173 [some (.ref 12), some (.int (nI v)), w2, w3, w4, w5] []) : ∀ (n a : Nat) (f : Nat → Int32) (w3 w4 w5 : Option Value), a + n = 8 → ms_F u v a 0 f → hz_G X TT NN (hz_sa I 14 f, L, PP q) 0 0 81 [some (.ref 12), some (.int (nI v)), some (.int (nI a)), w3, w4, w5] [] := by
  intro n
  induction n with
  | zero =>
    intro a f w3 w4 w5 hi hf
    obtain rfl : a = 8 := by omega
    refine hz_iload_n (pc := 81) C dX2_measure_81 rfl ?_
    refine hz_bipush (pc := 82) C (v := nI 8) dX2_measure_82 (by decide +kernel) ?_
    refine hz_ic_ge (pc := 84) C (tgt := 173) dX2_measure_84 rfl (fun _ => ?_) (fun cq => absurd (nI_le (by omega) (by omega)) cq)
    exact kk f _ _ _ _ (fun a' b' ha' hb' => by rw [hf a' b' ha' hb', if_pos (by omega), if_neg (by omega)])
  | succ n ih =>
    intro a f w3 w4 w5 hi hf
    have r1 : f (a * 8 + v) = nI (fwk u v a v) := by rw [hf a v (by omega) hv, if_neg (by omega)]
    refine hz_iload_n (pc := 81) C dX2_measure_81 rfl ?_
    refine hz_bipush (pc := 82) C (v := nI 8) dX2_measure_82 (by decide +kernel) ?_
    refine hz_ic_ge (pc := 84) C (tgt := 173) dX2_measure_84 rfl (fun cq => absurd cq (nI_ge (by omega) (by omega))) (fun _ => ?_)
    refine hz_aload_n (pc := 87) C dX2_measure_87 rfl ?_
    refine hz_getP (pc := 88) C (v := 14) ffX2_15 dX2_measure_88 hT12 hA12 rfl (hP12_2 q) (by decide) ?_
    refine hz_iload_n (pc := 91) C dX2_measure_91 rfl ?_
    refine hz_bipush (pc := 92) C (v := nI 8) dX2_measure_92 (by decide +kernel) ?_
    refine hz_imul (pc := 94) C (v := nI (a * 8)) dX2_measure_94 (pk_mul _ _) ?_
    refine hz_iload_n (pc := 95) C dX2_measure_95 rfl ?_
    refine hz_iadd (pc := 96) C (v := nI ((a * 8) + v)) dX2_measure_96 (nI_add _ _) ?_
    refine hz_iald (pc := 97) C (v := nI (fwk u v a v)) (j := (a * 8) + v) dX2_measure_97 hT14 hA14 rfl (by omega) (by decide) r1 ?_
    refine hz_istore_n (pc := 98) C (ls' := [some (.ref 12), some (.int (nI v)), some (.int (nI a)), some (.int (nI (fwk u v a v))), w4, w5]) dX2_measure_98 (Nat.le_of_ble_eq_true rfl) rfl ?_
    refine hz_iconst (pc := 99) C (v := nI 0) dX2_measure_99 (by decide +kernel) ?_
    refine hz_istore (pc := 100) C (ls' := [some (.ref 12), some (.int (nI v)), some (.int (nI a)), some (.int (nI (fwk u v a v))), some (.int (nI 0)), w5]) dX2_measure_100 (Nat.le_of_ble_eq_true rfl) rfl ?_
    refine lp_ms5 C V U hv (by omega) (fun f w3 w4 w5 hf => ?_) 8 0 f _ (by omega) hf
    refine hz_iinc (pc := 167) C (v := nI (a + 1)) (ls' := [some (.ref 12), some (.int (nI v)), some (.int (nI (a + 1))), w3, w4, w5]) dX2_measure_167 rfl (nI_add _ 1) rfl ?_
    refine hz_goto (pc := 170) C (tgt := 81) dX2_measure_170 rfl ?_
    exact ih (a + 1) f _ _ _ (by omega) hf
set_option maxHeartbeats 4000000 in
set_option maxRecDepth 100000 in
theorem lp_ms3 {X : hz_X} (C : hz_C X mX2_measure) {I : Nat → Nat → Int32} {L : Nat → Nat → Int64} {q : Nat → Nat → Nat} {u : Nat → Nat} (V : HV 12 q I u) (U : WU u) (kk : ∀ (f : Nat → Int32) (ls : List (Option Value)), ms_F u 8 0 0 f → hz_G X TT NN (hz_sa I 14 f, L, PP q) 0 0 179 ls []) : ∀ (n v : Nat) (f : Nat → Int32) (w2 w3 w4 w5 : Option Value), v + n = 8 → ms_F u v 0 0 f → hz_G X TT NN (hz_sa I 14 f, L, PP q) 0 0 73 [some (.ref 12), some (.int (nI v)), w2, w3, w4, w5] [] := by
  intro n
  induction n with
  | zero =>
    intro v f w2 w3 w4 w5 hi hf
    obtain rfl : v = 8 := by omega
    refine hz_iload_n (pc := 73) C dX2_measure_73 rfl ?_
    refine hz_bipush (pc := 74) C (v := nI 8) dX2_measure_74 (by decide +kernel) ?_
    refine hz_ic_ge (pc := 76) C (tgt := 179) dX2_measure_76 rfl (fun _ => ?_) (fun cq => absurd (nI_le (by omega) (by omega)) cq)
    exact kk f _ hf
  | succ n ih =>
    intro v f w2 w3 w4 w5 hi hf
    refine hz_iload_n (pc := 73) C dX2_measure_73 rfl ?_
    refine hz_bipush (pc := 74) C (v := nI 8) dX2_measure_74 (by decide +kernel) ?_
    refine hz_ic_ge (pc := 76) C (tgt := 179) dX2_measure_76 rfl (fun cq => absurd cq (nI_ge (by omega) (by omega))) (fun _ => ?_)
    refine hz_iconst (pc := 79) C (v := nI 0) dX2_measure_79 (by decide +kernel) ?_
    refine hz_istore_n (pc := 80) C (ls' := [some (.ref 12), some (.int (nI v)), some (.int (nI 0)), w3, w4, w5]) dX2_measure_80 (Nat.le_of_ble_eq_true rfl) rfl ?_
    refine lp_ms4 C V U (by omega) (fun f w2 w3 w4 w5 hf => ?_) 8 0 f _ _ _ (by omega) hf
    refine hz_iinc (pc := 173) C (v := nI (v + 1)) (ls' := [some (.ref 12), some (.int (nI (v + 1))), w2, w3, w4, w5]) dX2_measure_173 rfl (nI_add _ 1) rfl ?_
    refine hz_goto (pc := 176) C (tgt := 73) dX2_measure_176 rfl ?_
    exact ih (v + 1) f _ _ _ _ (by omega) hf
/-- the rows of ways, once measured -/
def ms_A (u : Nat → Nat) (f : Nat → Int32) : Nat → Int32 := fun j => if j < 64 then nI (ds u (j / 8) (j % 8)) else f j
theorem ms_A_at (u : Nat → Nat) (f : Nat → Int32) {a b : Nat} (ha : a < 8) (hb : b < 8) : ms_A u f (a * 8 + b) = nI (ds u a b) := by
  unfold ms_A
  rw [if_pos (by omega), show (a * 8 + b) / 8 = a by omega, show (a * 8 + b) % 8 = b by omega]

theorem sd_34 {k : Nat} (h : k < 6) : sd_of k = (decide (k = 3) || decide (k = 4)) := by
  have h9 : ∀ k, k < 6 → sd_of k = (decide (k = 3) || decide (k = 4)) := by decide +kernel
  exact h9 k h
set_option maxHeartbeats 4000000 in
set_option maxRecDepth 100000 in
theorem lp_lo {X : hz_X} (C : hz_C X mX11_loudOnes) {I : Nat → Nat → Int32} {L : Nat → Nat → Int64} {q : Nat → Nat → Nat} {u : Nat → Nat} (V : MV I u) (U : WU u) (kk : ∀ zzw3, hz_G X TT NN (I, L, PP q) 0 0 96 [some (.ref 146), some (.int (nI (bsum (lo1 u) (u 64)))), some (.int (nI (u 64))), zzw3] []) : ∀ (n k : Nat) (zzw3 : Option Value), k + n = u 64 → hz_G X TT NN (I, L, PP q) 0 0 4 [some (.ref 146), some (.int (nI (bsum (lo1 u) k))), some (.int (nI k)), zzw3] [] := by
  intro n
  induction n with
  | zero =>
    intro k zzw3 hi 
    obtain rfl : u 64 = k := by omega
    have hal := wu_al U
    refine hz_iload_n (pc := 4) C dX11_loudOnes_4 rfl ?_
    refine hz_aload_n (pc := 5) C dX11_loudOnes_5 rfl ?_
    refine hz_getP (pc := 6) C (v := 147) ffX11_7 dX11_loudOnes_6 hT146 hA146 rfl (hP146_0 q) (by decide) ?_
    refine hz_bipush (pc := 9) C (v := nI 64) dX11_loudOnes_9 (by decide +kernel) ?_
    refine hz_iald (pc := 11) C (v := nI (u 64)) (j := 64) dX11_loudOnes_11 hT147 hA147 rfl (by decide) (by decide) (mg V (j := 64) (by omega) (by omega)) ?_
    refine hz_ic_ge (pc := 12) C (tgt := 96) dX11_loudOnes_12 rfl (fun _ => ?_) (fun cq => absurd (nI_le (by omega) (by omega)) cq)
    exact kk zzw3
  | succ n ih =>
    intro k zzw3 hi 
    have hal := wu_al U
    have hkd := wu_kd U (k := k) (by omega)
    refine hz_iload_n (pc := 4) C dX11_loudOnes_4 rfl ?_
    refine hz_aload_n (pc := 5) C dX11_loudOnes_5 rfl ?_
    refine hz_getP (pc := 6) C (v := 147) ffX11_7 dX11_loudOnes_6 hT146 hA146 rfl (hP146_0 q) (by decide) ?_
    refine hz_bipush (pc := 9) C (v := nI 64) dX11_loudOnes_9 (by decide +kernel) ?_
    refine hz_iald (pc := 11) C (v := nI (u 64)) (j := 64) dX11_loudOnes_11 hT147 hA147 rfl (by decide) (by decide) (mg V (j := 64) (by omega) (by omega)) ?_
    refine hz_ic_ge (pc := 12) C (tgt := 96) dX11_loudOnes_12 rfl (fun cq => absurd cq (nI_ge (by omega) (by omega))) (fun _ => ?_)
    refine hz_aload_n (pc := 15) C dX11_loudOnes_15 rfl ?_
    refine hz_getP (pc := 16) C (v := 147) ffX11_7 dX11_loudOnes_16 hT146 hA146 rfl (hP146_0 q) (by decide) ?_
    refine hz_bipush (pc := 19) C (v := nI 65) dX11_loudOnes_19 (by decide +kernel) ?_
    refine hz_iload_n (pc := 21) C dX11_loudOnes_21 rfl ?_
    refine hz_iadd (pc := 22) C (v := nI (65 + k)) dX11_loudOnes_22 (nI_add _ _) ?_
    refine hz_iald (pc := 23) C (v := nI (u (65 + k))) (j := 65 + k) dX11_loudOnes_23 hT147 hA147 rfl (by omega) (by decide) (mg V (j := 65 + k) (by omega) (by omega)) ?_
    refine hz_iconst (pc := 24) C (v := nI 3) dX11_loudOnes_24 (by decide +kernel) ?_
    refine hz_ic_eq (pc := 25) C (tgt := 41) dX11_loudOnes_25 rfl (fun zzc1 => ?_) (fun zzc1 => ?_)
    · refine hz_iconst (pc := 41) C (v := nI 1) dX11_loudOnes_41 (by decide +kernel) ?_
      refine hz_goto (pc := 42) C (tgt := 46) dX11_loudOnes_42 rfl ?_
      refine hz_istore_n (pc := 46) C (ls' := [some (.ref 146), some (.int (nI (bsum (lo1 u) k))), some (.int (nI k)), some (.int (nI 1))]) dX11_loudOnes_46 (Nat.le_of_ble_eq_true rfl) rfl ?_
      refine hz_iload_n (pc := 47) C dX11_loudOnes_47 rfl ?_
      refine hz_iload_n (pc := 48) C dX11_loudOnes_48 rfl ?_
      refine hz_if_ne (pc := 49) C (tgt := 87) dX11_loudOnes_49 rfl (fun _ => ?_) (fun cq => absurd cq (by decide +kernel))
      refine hz_iconst (pc := 87) C (v := nI 0) dX11_loudOnes_87 (by decide +kernel) ?_
      refine hz_ior (pc := 88) C dX11_loudOnes_88 rfl ?_
      refine hz_istore_n (pc := 89) C (ls' := [some (.ref 146), some (.int ((nI (bsum (lo1 u) k)) ||| (nI 0))), some (.int (nI k)), some (.int (nI 1))]) dX11_loudOnes_89 (Nat.le_of_ble_eq_true rfl) rfl ?_
      refine hz_iinc (pc := 90) C (v := nI (k + 1)) (ls' := [some (.ref 146), some (.int ((nI (bsum (lo1 u) k)) ||| (nI 0))), some (.int (nI (k + 1))), some (.int (nI 1))]) dX11_loudOnes_90 rfl (nI_add _ 1) rfl ?_
      refine hz_goto (pc := 93) C (tgt := 4) dX11_loudOnes_93 rfl ?_
      have hkk := (nI_eq (by omega) (by omega)).mp zzc1
      have hno : ¬ lo1 u k = true := by simp [lo1, sd_of, hkk]
      have h9 := ih (k + 1) (some (.int (nI 1))) (by omega)
      rw [bsum_f (f := lo1 u) (n := k) hno] at h9
      rw [bor_0 (by omega)]
      exact h9
    · refine hz_aload_n (pc := 28) C dX11_loudOnes_28 rfl ?_
      refine hz_getP (pc := 29) C (v := 147) ffX11_7 dX11_loudOnes_29 hT146 hA146 rfl (hP146_0 q) (by decide) ?_
      refine hz_bipush (pc := 32) C (v := nI 65) dX11_loudOnes_32 (by decide +kernel) ?_
      refine hz_iload_n (pc := 34) C dX11_loudOnes_34 rfl ?_
      refine hz_iadd (pc := 35) C (v := nI (65 + k)) dX11_loudOnes_35 (nI_add _ _) ?_
      refine hz_iald (pc := 36) C (v := nI (u (65 + k))) (j := 65 + k) dX11_loudOnes_36 hT147 hA147 rfl (by omega) (by decide) (mg V (j := 65 + k) (by omega) (by omega)) ?_
      refine hz_iconst (pc := 37) C (v := nI 4) dX11_loudOnes_37 (by decide +kernel) ?_
      refine hz_ic_ne (pc := 38) C (tgt := 45) dX11_loudOnes_38 rfl (fun zzc2 => ?_) (fun zzc2 => ?_)
      · refine hz_iconst (pc := 45) C (v := nI 0) dX11_loudOnes_45 (by decide +kernel) ?_
        refine hz_istore_n (pc := 46) C (ls' := [some (.ref 146), some (.int (nI (bsum (lo1 u) k))), some (.int (nI k)), some (.int (nI 0))]) dX11_loudOnes_46 (Nat.le_of_ble_eq_true rfl) rfl ?_
        refine hz_iload_n (pc := 47) C dX11_loudOnes_47 rfl ?_
        refine hz_iload_n (pc := 48) C dX11_loudOnes_48 rfl ?_
        refine hz_if_ne (pc := 49) C (tgt := 87) dX11_loudOnes_49 rfl (fun cq => absurd (by decide +kernel) cq) (fun _ => ?_)
        refine hz_aload_n (pc := 52) C dX11_loudOnes_52 rfl ?_
        refine hz_getP (pc := 53) C (v := 147) ffX11_7 dX11_loudOnes_53 hT146 hA146 rfl (hP146_0 q) (by decide) ?_
        refine hz_bipush (pc := 56) C (v := nI 93) dX11_loudOnes_56 (by decide +kernel) ?_
        refine hz_iald (pc := 58) C (v := nI (u 93)) (j := 93) dX11_loudOnes_58 hT147 hA147 rfl (by decide) (by decide) (mg V (j := 93) (by omega) (by omega)) ?_
        refine hz_iload_n (pc := 59) C dX11_loudOnes_59 rfl ?_
        refine hz_callSs (pc := 60) C (as := [.int (nI (u 93)), .int (nI k)]) (st := [.int (nI (bsum (lo1 u) k))]) (ev_hasM _ (wu_dn U) (by omega)) (hz_new0 _ _) fyX11_has fsX11_166 rfl dX11_loudOnes_60 rfl rfl (Nat.le_of_ble_eq_true rfl) (by decide) (hz_cap0 _) ?_
        refine hz_ifb_ne (pc := 63) C (tgt := 87) dX11_loudOnes_63 rfl (fun zzc3 => ?_) (fun zzc3 => ?_)
        · refine hz_iconst (pc := 87) C (v := nI 0) dX11_loudOnes_87 (by decide +kernel) ?_
          refine hz_ior (pc := 88) C dX11_loudOnes_88 rfl ?_
          refine hz_istore_n (pc := 89) C (ls' := [some (.ref 146), some (.int ((nI (bsum (lo1 u) k)) ||| (nI 0))), some (.int (nI k)), some (.int (nI 0))]) dX11_loudOnes_89 (Nat.le_of_ble_eq_true rfl) rfl ?_
          refine hz_iinc (pc := 90) C (v := nI (k + 1)) (ls' := [some (.ref 146), some (.int ((nI (bsum (lo1 u) k)) ||| (nI 0))), some (.int (nI (k + 1))), some (.int (nI 0))]) dX11_loudOnes_90 rfl (nI_add _ 1) rfl ?_
          refine hz_goto (pc := 93) C (tgt := 4) dX11_loudOnes_93 rfl ?_
          have hk3 : ¬ u (65 + k) = 3 := fun z => zzc1 (by rw [z])
          have hk4 : ¬ u (65 + k) = 4 := fun z => zzc2 (by rw [z])
          have hno : ¬ lo1 u k = true := by simp [lo1, zzc3]
          have h9 := ih (k + 1) (some (.int (nI 0))) (by omega)
          rw [bsum_f (f := lo1 u) (n := k) hno] at h9
          rw [bor_0 (by omega)]
          exact h9
        · refine hz_aload_n (pc := 66) C dX11_loudOnes_66 rfl ?_
          refine hz_iload_n (pc := 67) C dX11_loudOnes_67 rfl ?_
          refine hz_aload_n (pc := 68) C dX11_loudOnes_68 rfl ?_
          refine hz_getP (pc := 69) C (v := 147) ffX11_7 dX11_loudOnes_69 hT146 hA146 rfl (hP146_0 q) (by decide) ?_
          refine hz_bipush (pc := 72) C (v := nI 92) dX11_loudOnes_72 (by decide +kernel) ?_
          refine hz_iald (pc := 74) C (v := nI (u 92)) (j := 92) dX11_loudOnes_74 hT147 hA147 rfl (by decide) (by decide) (mg V (j := 92) (by omega) (by omega)) ?_
          refine hz_callVs (pc := 75) C (as := [.int (nI k), .int (nI (u 92))]) (st := [.int (nI (bsum (lo1 u) k))]) (ev_beepsEver V U (k := k) (by omega) (wu_co U)) (hz_new0 _ _) fyX11_beepsEver fvX11_185 rfl dX11_loudOnes_75 hT146 rfl rfl hA146 rfl rfl (Nat.le_of_ble_eq_true rfl) (by decide) (hz_cap0 _) ?_
          refine hz_ifb_eq (pc := 78) C (tgt := 87) dX11_loudOnes_78 rfl (fun zzc4 => ?_) (fun zzc4 => ?_)
          · refine hz_iconst (pc := 87) C (v := nI 0) dX11_loudOnes_87 (by decide +kernel) ?_
            refine hz_ior (pc := 88) C dX11_loudOnes_88 rfl ?_
            refine hz_istore_n (pc := 89) C (ls' := [some (.ref 146), some (.int ((nI (bsum (lo1 u) k)) ||| (nI 0))), some (.int (nI k)), some (.int (nI 0))]) dX11_loudOnes_89 (Nat.le_of_ble_eq_true rfl) rfl ?_
            refine hz_iinc (pc := 90) C (v := nI (k + 1)) (ls' := [some (.ref 146), some (.int ((nI (bsum (lo1 u) k)) ||| (nI 0))), some (.int (nI (k + 1))), some (.int (nI 0))]) dX11_loudOnes_90 rfl (nI_add _ 1) rfl ?_
            refine hz_goto (pc := 93) C (tgt := 4) dX11_loudOnes_93 rfl ?_
            have hk3 : ¬ u (65 + k) = 3 := fun z => zzc1 (by rw [z])
            have hk4 : ¬ u (65 + k) = 4 := fun z => zzc2 (by rw [z])
            have hno : ¬ lo1 u k = true := by simp [lo1, zzc4]
            have h9 := ih (k + 1) (some (.int (nI 0))) (by omega)
            rw [bsum_f (f := lo1 u) (n := k) hno] at h9
            rw [bor_0 (by omega)]
            exact h9
          · refine hz_iconst (pc := 81) C (v := nI 1) dX11_loudOnes_81 (by decide +kernel) ?_
            refine hz_iload_n (pc := 82) C dX11_loudOnes_82 rfl ?_
            refine hz_ishl (pc := 83) C dX11_loudOnes_83 rfl ?_
            refine hz_goto (pc := 84) C (tgt := 88) dX11_loudOnes_84 rfl ?_
            refine hz_ior (pc := 88) C dX11_loudOnes_88 rfl ?_
            refine hz_istore_n (pc := 89) C (ls' := [some (.ref 146), some (.int ((nI (bsum (lo1 u) k)) ||| ((nI 1) <<< ((nI k) &&& 31)))), some (.int (nI k)), some (.int (nI 0))]) dX11_loudOnes_89 (Nat.le_of_ble_eq_true rfl) rfl ?_
            refine hz_iinc (pc := 90) C (v := nI (k + 1)) (ls' := [some (.ref 146), some (.int ((nI (bsum (lo1 u) k)) ||| ((nI 1) <<< ((nI k) &&& 31)))), some (.int (nI (k + 1))), some (.int (nI 0))]) dX11_loudOnes_90 rfl (nI_add _ 1) rfl ?_
            refine hz_goto (pc := 93) C (tgt := 4) dX11_loudOnes_93 rfl ?_
            have hk3 : ¬ u (65 + k) = 3 := fun z => zzc1 (by rw [z])
            have hk4 : ¬ u (65 + k) = 4 := fun z => zzc2 (by rw [z])
            have hyes : lo1 u k = true := by simp [lo1, sd_of, hk3, hk4, zzc3, zzc4]
            have h9 := ih (k + 1) (some (.int (nI 0))) (by omega)
            rw [bsum_t (f := lo1 u) (n := k) hyes] at h9
            rw [bor_add (by omega)]
            exact h9
      · refine hz_iconst (pc := 41) C (v := nI 1) dX11_loudOnes_41 (by decide +kernel) ?_
        refine hz_goto (pc := 42) C (tgt := 46) dX11_loudOnes_42 rfl ?_
        refine hz_istore_n (pc := 46) C (ls' := [some (.ref 146), some (.int (nI (bsum (lo1 u) k))), some (.int (nI k)), some (.int (nI 1))]) dX11_loudOnes_46 (Nat.le_of_ble_eq_true rfl) rfl ?_
        refine hz_iload_n (pc := 47) C dX11_loudOnes_47 rfl ?_
        refine hz_iload_n (pc := 48) C dX11_loudOnes_48 rfl ?_
        refine hz_if_ne (pc := 49) C (tgt := 87) dX11_loudOnes_49 rfl (fun _ => ?_) (fun cq => absurd cq (by decide +kernel))
        refine hz_iconst (pc := 87) C (v := nI 0) dX11_loudOnes_87 (by decide +kernel) ?_
        refine hz_ior (pc := 88) C dX11_loudOnes_88 rfl ?_
        refine hz_istore_n (pc := 89) C (ls' := [some (.ref 146), some (.int ((nI (bsum (lo1 u) k)) ||| (nI 0))), some (.int (nI k)), some (.int (nI 1))]) dX11_loudOnes_89 (Nat.le_of_ble_eq_true rfl) rfl ?_
        refine hz_iinc (pc := 90) C (v := nI (k + 1)) (ls' := [some (.ref 146), some (.int ((nI (bsum (lo1 u) k)) ||| (nI 0))), some (.int (nI (k + 1))), some (.int (nI 1))]) dX11_loudOnes_90 rfl (nI_add _ 1) rfl ?_
        refine hz_goto (pc := 93) C (tgt := 4) dX11_loudOnes_93 rfl ?_
        have hkk := (nI_eq (by omega) (by omega)).mp zzc2
        have hno : ¬ lo1 u k = true := by simp [lo1, sd_of, hkk]
        have h9 := ih (k + 1) (some (.int (nI 1))) (by omega)
        rw [bsum_f (f := lo1 u) (n := k) hno] at h9
        rw [bor_0 (by omega)]
        exact h9
set_option maxHeartbeats 4000000 in
set_option maxRecDepth 100000 in
theorem ev_loudOnes {I : Nat → Nat → Int32} {L : Nat → Nat → Int64} {q : Nat → Nat → Nat} {u : Nat → Nat} (V : MV I u) (U : WU u) : hz_Ev mX11_loudOnes TT NN (I, L, PP q) [.ref 146] 0 0 (some (.int (nI (loS u)))) TT NN (I, L, PP q) := by
  refine hz_Ev.intro (ls := [some (.ref 146), none, none, none]) (by decide +kernel) rfl (Nat.le_of_ble_eq_true rfl) (fun X C Z _ => ?_)
  refine hz_iconst (pc := 0) C (v := nI 0) dX11_loudOnes_0 (by decide +kernel) ?_
  refine hz_istore_n (pc := 1) C (ls' := [some (.ref 146), some (.int (nI 0)), none, none]) dX11_loudOnes_1 (Nat.le_of_ble_eq_true rfl) rfl ?_
  refine hz_iconst (pc := 2) C (v := nI 0) dX11_loudOnes_2 (by decide +kernel) ?_
  refine hz_istore_n (pc := 3) C (ls' := [some (.ref 146), some (.int (nI 0)), some (.int (nI 0)), none]) dX11_loudOnes_3 (Nat.le_of_ble_eq_true rfl) rfl ?_
  refine lp_lo C V U (fun zzw3 => ?_) (u 64) 0 _ (by omega)
  refine hz_iload_n (pc := 96) C dX11_loudOnes_96 rfl ?_
  exact hz_iret C Z rfl dX11_loudOnes_97 rfl rfl
def rmx (u : Nat → Nat) (a : Nat) : Nat := if a = 6 then u 91 else u (71 + a)
theorem dd_r (u : Nat → Nat) (a b : Nat) : dd u a b = ds u (rmx u a) (u (71 + b)) := rfl
theorem drop_s {l : List Nat} {i : Nat} (h : i < l.length) : l.drop i = l.getD i 0 :: l.drop (i + 1) := by
  rw [List.drop_eq_getElem_cons h, List.getD_eq_getElem?_getD, List.getElem?_eq_getElem h]; rfl
theorem getD_mem {l : List Nat} {i : Nat} (h : i < l.length) : l.getD i 0 ∈ l := by
  rw [List.getD_eq_getElem?_getD, List.getElem?_eq_getElem h]; exact List.getElem_mem h
theorem VL.sub : ∀ {l : List Nat} {S : Nat}, VL l S → S < 64 → ∀ b, b ∈ l → bt S b = true := by
  intro l
  induction l with
  | nil => intro S _ _ b hb; exact absurd hb List.not_mem_nil
  | cons c l ih =>
    intro S h hS b hb
    obtain ⟨h1, h2, h3⟩ := h.cons
    obtain ⟨zzs1, zzs2, zzs3, zzs4⟩ := sub_s hS h1 h2
    rcases List.mem_cons.mp hb with h | h
    · rw [h]; exact h2
    · have h9 := ih h3 zzs1 b h
      exact ((zzs4 b (h3.2.2 b h)).mp h9).1
theorem VL.mem : ∀ {l : List Nat} {S : Nat}, VL l S → S < 64 → ∀ b, b < 6 → bt S b = true → b ∈ l := by
  intro l
  induction l with
  | nil =>
    intro S h hS b hb6 hb
    have h2 : csum (bt S) 6 = 0 := h.2.1
    rw [cs_0 hS h2] at hb
    unfold bt at hb
    rw [Nat.zero_div] at hb
    exact absurd hb (by decide)
  | cons c l ih =>
    intro S h hS b hb6 hb
    obtain ⟨h1, h2, h3⟩ := h.cons
    obtain ⟨zzs1, zzs2, zzs3, zzs4⟩ := sub_s hS h1 h2
    by_cases hz : b = c
    · rw [hz]; exact List.mem_cons_self
    · exact List.mem_cons_of_mem _ (ih h3 zzs1 b hb6 ((zzs4 b hb6).mpr ⟨hb, hz⟩))
theorem cst_bd {e : Nat → Nat → Nat} {S0 : Nat} (F : fin6 e S0) : ∀ {l : List Nat} {a : Nat}, (∀ b, b ∈ l → b < 6 ∧ bt S0 b = true) → (a = 6 ∨ (a < 6 ∧ bt S0 a = true)) → cst e a l ≤ 63 * l.length := by
  intro l
  induction l with
  | nil => intro a _ _; exact Nat.le_refl _
  | cons b l ih =>
    intro a h ha
    obtain ⟨zzb1, zzb2⟩ := h b List.mem_cons_self
    have h1 := ih (a := b) (fun c hc => h c (List.mem_cons_of_mem _ hc)) (Or.inr ⟨zzb1, zzb2⟩)
    have h2 := F a b zzb1 ha zzb2
    show e a b + cst e b l ≤ 63 * (l.length + 1)
    omega
theorem cst_c (e : Nat → Nat → Nat) (a b : Nat) (l : List Nat) : cst e a (b :: l) = e a b + cst e b l := rfl
set_option maxHeartbeats 4000000 in
set_option maxRecDepth 100000 in
theorem lp_wb {X : hz_X} (C : hz_C X mX11_wayBy) {K : Nat → Nat → Int32} {L : Nat → Nat → Int64} {q : Nat → Nat → Nat} {u : Nat → Nat} (V : MF K u) (U : WU u) {l : List Nat} (hl6 : l.length ≤ 6) (hO : ∀ i, i < l.length → K 156 i = nI (l.getD i 0)) (hS : ∀ b, b ∈ l → b < 6 ∧ bt (loS u) b = true) (F : fin6 (dd u) (loS u)) (kk : ∀ (a s : Nat) (zzw5 : Option Value), s = cst (dd u) 6 l → hz_G X TT NN (K, L, PP q) 0 0 73 [some (.ref 146), some (.int (nI l.length)), some (.int (nI (rmx u a))), some (.int (nI s)), some (.int (nI l.length)), zzw5] []) : ∀ (n i : Nat) (a s : Nat) (zzw5 : Option Value), i + n = l.length → (a = 6 ∨ (a < 6 ∧ bt (loS u) a = true)) → s + cst (dd u) a (l.drop i) = cst (dd u) 6 l → hz_G X TT NN (K, L, PP q) 0 0 13 [some (.ref 146), some (.int (nI l.length)), some (.int (nI (rmx u a))), some (.int (nI s)), some (.int (nI i)), zzw5] [] := by
  intro n
  induction n with
  | zero =>
    intro i a s zzw5 hi ha hs
    obtain rfl : l.length = i := by omega
    refine hz_iload (pc := 13) C dX11_wayBy_13 rfl ?_
    refine hz_iload_n (pc := 15) C dX11_wayBy_15 rfl ?_
    refine hz_ic_ge (pc := 16) C (tgt := 73) dX11_wayBy_16 rfl (fun _ => ?_) (fun cq => absurd (nI_le (by omega) (by omega)) cq)
    exact kk a s zzw5 (by rw [List.drop_length] at hs; exact hs)
  | succ n ih =>
    intro i a s zzw5 hi ha hs
    obtain ⟨b, hgb⟩ : ∃ b, b = l.getD i 0 := ⟨_, rfl⟩
    have hil : i < l.length := by omega
    have hbS := hS b (hgb ▸ getD_mem hil)
    have hd := drop_s hil
    rw [← hgb] at hd
    have hbl := (loS_bt U).mp hbS.2
    have hal := wu_al U
    have hrb := wu_rm U hbl.1
    have hra : rmx u a < 8 := by
      unfold rmx
      rcases ha with ha | ha
      · rw [if_pos ha]; exact wu_pl U
      · rw [if_neg (by omega)]; exact wu_rm U ((loS_bt U).mp ha.2).1
    have hfd := F a b hbS.1 ha hbS.2
    have hdr : ds u (rmx u a) (u (71 + b)) ≤ 63 := hfd
    rw [hd, cst_c] at hs
    have hcb := cst_bd F (l := l) (a := 6) hS (Or.inl rfl)
    refine hz_iload (pc := 13) C dX11_wayBy_13 rfl ?_
    refine hz_iload_n (pc := 15) C dX11_wayBy_15 rfl ?_
    refine hz_ic_ge (pc := 16) C (tgt := 73) dX11_wayBy_16 rfl (fun cq => absurd cq (nI_ge (by omega) (by omega))) (fun _ => ?_)
    refine hz_iload_n (pc := 19) C dX11_wayBy_19 rfl ?_
    refine hz_if_lt (pc := 20) C (tgt := 73) dX11_wayBy_20 rfl (fun cq => absurd cq (nI_pos (by omega))) (fun _ => ?_)
    refine hz_aload_n (pc := 23) C dX11_wayBy_23 rfl ?_
    refine hz_getP (pc := 24) C (v := 147) ffX11_7 dX11_wayBy_24 hT146 hA146 rfl (hP146_0 q) (by decide) ?_
    refine hz_bipush (pc := 27) C (v := nI 71) dX11_wayBy_27 (by decide +kernel) ?_
    refine hz_aload_n (pc := 29) C dX11_wayBy_29 rfl ?_
    refine hz_getP (pc := 30) C (v := 156) ffX11_42 dX11_wayBy_30 hT146 hA146 rfl (hP146_18 q) (by decide) ?_
    refine hz_iload (pc := 33) C dX11_wayBy_33 rfl ?_
    refine hz_iald (pc := 35) C (v := nI b) (j := i) dX11_wayBy_35 hT156 hA156 rfl (by omega) (by decide) ((hO i (by omega)).trans (by rw [hgb])) ?_
    refine hz_iadd (pc := 36) C (v := nI (71 + b)) dX11_wayBy_36 (nI_add _ _) ?_
    refine hz_iald (pc := 37) C (v := nI (u (71 + b))) (j := 71 + b) dX11_wayBy_37 hT147 hA147 rfl (by omega) (by decide) (mg V.1 (j := 71 + b) (by omega) (by omega)) ?_
    refine hz_istore (pc := 38) C (ls' := [some (.ref 146), some (.int (nI l.length)), some (.int (nI (rmx u a))), some (.int (nI s)), some (.int (nI i)), some (.int (nI (u (71 + b))))]) dX11_wayBy_38 (Nat.le_of_ble_eq_true rfl) rfl ?_
    refine hz_aload_n (pc := 40) C dX11_wayBy_40 rfl ?_
    refine hz_iload_n (pc := 41) C dX11_wayBy_41 rfl ?_
    refine hz_iload (pc := 42) C dX11_wayBy_42 rfl ?_
    refine hz_callVs (pc := 44) C (as := [.int (nI (rmx u a)), .int (nI (u (71 + b)))]) (st := []) (by have h9 := ev_farX (L := L) (q := q) (a := rmx u a) (b := u (71 + b)) hra hrb (V.2 _ _ hra hrb); rw [fa_fin (by rw [← dd_r]; omega)] at h9; exact h9) (hz_new0 _ _) fyX11_farOf fvX11_153 rfl dX11_wayBy_44 hT146 rfl rfl hA146 rfl rfl (Nat.le_of_ble_eq_true rfl) (by decide) (hz_cap0 _) ?_
    refine hz_if_ge (pc := 47) C (tgt := 54) dX11_wayBy_47 rfl (fun _ => ?_) (fun cq => absurd (nI_pos' (by omega)) cq)
    refine hz_iload_n (pc := 54) C dX11_wayBy_54 rfl ?_
    refine hz_aload_n (pc := 55) C dX11_wayBy_55 rfl ?_
    refine hz_iload_n (pc := 56) C dX11_wayBy_56 rfl ?_
    refine hz_iload (pc := 57) C dX11_wayBy_57 rfl ?_
    refine hz_callVs (pc := 59) C (as := [.int (nI (rmx u a)), .int (nI (u (71 + b)))]) (st := [.int (nI s)]) (by have h9 := ev_farX (L := L) (q := q) (a := rmx u a) (b := u (71 + b)) hra hrb (V.2 _ _ hra hrb); rw [fa_fin (by rw [← dd_r]; omega)] at h9; exact h9) (hz_new0 _ _) fyX11_farOf fvX11_153 rfl dX11_wayBy_59 hT146 rfl rfl hA146 rfl rfl (Nat.le_of_ble_eq_true rfl) (by decide) (hz_cap0 _) ?_
    refine hz_iadd (pc := 62) C (v := nI (s + (dd u a b))) dX11_wayBy_62 (nI_add _ _) ?_
    refine hz_istore_n (pc := 63) C (ls' := [some (.ref 146), some (.int (nI l.length)), some (.int (nI (rmx u a))), some (.int (nI (s + (dd u a b)))), some (.int (nI i)), some (.int (nI (u (71 + b))))]) dX11_wayBy_63 (Nat.le_of_ble_eq_true rfl) rfl ?_
    refine hz_iload (pc := 64) C dX11_wayBy_64 rfl ?_
    refine hz_istore_n (pc := 66) C (ls' := [some (.ref 146), some (.int (nI l.length)), some (.int (nI (u (71 + b)))), some (.int (nI (s + (dd u a b)))), some (.int (nI i)), some (.int (nI (u (71 + b))))]) dX11_wayBy_66 (Nat.le_of_ble_eq_true rfl) rfl ?_
    refine hz_iinc (pc := 67) C (v := nI (i + 1)) (ls' := [some (.ref 146), some (.int (nI l.length)), some (.int (nI (u (71 + b)))), some (.int (nI (s + (dd u a b)))), some (.int (nI (i + 1))), some (.int (nI (u (71 + b))))]) dX11_wayBy_67 rfl (nI_add _ 1) rfl ?_
    refine hz_goto (pc := 70) C (tgt := 13) dX11_wayBy_70 rfl ?_
    have h9 := ih (i + 1) b (s + dd u a b) (some (.int (nI (u (71 + b))))) (by omega) (Or.inr hbS) (by omega)
    rw [show rmx u b = u (71 + b) from if_neg (by omega)] at h9
    exact h9
set_option maxHeartbeats 4000000 in
set_option maxRecDepth 100000 in
theorem ev_wayBy {K : Nat → Nat → Int32} {L : Nat → Nat → Int64} {q : Nat → Nat → Nat} {u : Nat → Nat} (V : MF K u) (U : WU u) {l : List Nat} (hl6 : l.length ≤ 6) (hO : ∀ i, i < l.length → K 156 i = nI (l.getD i 0)) (hS : ∀ b, b ∈ l → b < 6 ∧ bt (loS u) b = true) (F : fin6 (dd u) (loS u)) : hz_Ev mX11_wayBy TT NN (K, L, PP q) [.ref 146, .int (nI l.length)] 0 0 (some (.int (nI (cst (dd u) 6 l)))) TT NN (K, L, PP q) := by
  refine hz_Ev.intro (ls := [some (.ref 146), some (.int (nI l.length)), none, none, none, none]) (by decide +kernel) rfl (Nat.le_of_ble_eq_true rfl) (fun X C Z _ => ?_)
  refine hz_aload_n (pc := 0) C dX11_wayBy_0 rfl ?_
  refine hz_getP (pc := 1) C (v := 147) ffX11_7 dX11_wayBy_1 hT146 hA146 rfl (hP146_0 q) (by decide) ?_
  refine hz_bipush (pc := 4) C (v := nI 91) dX11_wayBy_4 (by decide +kernel) ?_
  refine hz_iald (pc := 6) C (v := nI (rmx u 6)) (j := 91) dX11_wayBy_6 hT147 hA147 rfl (by decide) (by decide) ((mg V.1 (by omega) (by omega)).trans (congrArg nI (if_pos rfl).symm)) ?_
  refine hz_istore_n (pc := 7) C (ls' := [some (.ref 146), some (.int (nI l.length)), some (.int (nI (rmx u 6))), none, none, none]) dX11_wayBy_7 (Nat.le_of_ble_eq_true rfl) rfl ?_
  refine hz_iconst (pc := 8) C (v := nI 0) dX11_wayBy_8 (by decide +kernel) ?_
  refine hz_istore_n (pc := 9) C (ls' := [some (.ref 146), some (.int (nI l.length)), some (.int (nI (rmx u 6))), some (.int (nI 0)), none, none]) dX11_wayBy_9 (Nat.le_of_ble_eq_true rfl) rfl ?_
  refine hz_iconst (pc := 10) C (v := nI 0) dX11_wayBy_10 (by decide +kernel) ?_
  refine hz_istore (pc := 11) C (ls' := [some (.ref 146), some (.int (nI l.length)), some (.int (nI (rmx u 6))), some (.int (nI 0)), some (.int (nI 0)), none]) dX11_wayBy_11 (Nat.le_of_ble_eq_true rfl) rfl ?_
  refine lp_wb C V U hl6 hO hS F (fun a s zzw5 hs => ?_) l.length 0 6 0 _ (by omega) (Or.inl rfl) (by rw [List.drop_zero, Nat.zero_add])
  refine hz_iload_n (pc := 73) C dX11_wayBy_73 rfl ?_
  exact hz_iret C Z rfl dX11_wayBy_74 (congrArg nI hs) rfl
set_option maxHeartbeats 4000000 in
set_option maxRecDepth 100000 in
theorem wb_m1 {X : hz_X} (C : hz_C X mX11_wayBy) {K : Nat → Nat → Int32} {L : Nat → Nat → Int64} {q : Nat → Nat → Nat} (Z : hz_Z X 0 0 (some (.int (-1 : Int32))) TT NN (K, L, PP q)) (m i : Nat) (t : Int32) (zzw5 : Option Value) : hz_G X TT NN (K, L, PP q) 0 0 13 [some (.ref 146), some (.int (nI m)), some (.int t), some (.int (-1 : Int32)), some (.int (nI i)), zzw5] [] := by
  refine hz_iload (pc := 13) C dX11_wayBy_13 rfl ?_
  refine hz_iload_n (pc := 15) C dX11_wayBy_15 rfl ?_
  refine hz_ic_ge (pc := 16) C (tgt := 73) dX11_wayBy_16 rfl (fun zzc1 => ?_) (fun zzc1 => ?_)
  · refine hz_iload_n (pc := 73) C dX11_wayBy_73 rfl ?_
    exact hz_iret C Z rfl dX11_wayBy_74 rfl rfl
  · refine hz_iload_n (pc := 19) C dX11_wayBy_19 rfl ?_
    refine hz_if_lt (pc := 20) C (tgt := 73) dX11_wayBy_20 rfl (fun _ => ?_) (fun cq => absurd (by decide) cq)
    refine hz_iload_n (pc := 73) C dX11_wayBy_73 rfl ?_
    exact hz_iret C Z rfl dX11_wayBy_74 rfl rfl
set_option maxHeartbeats 4000000 in
set_option maxRecDepth 100000 in
theorem lp_wn {X : hz_X} (C : hz_C X mX11_wayBy) {K : Nat → Nat → Int32} {L : Nat → Nat → Int64} {q : Nat → Nat → Nat} {u : Nat → Nat} (V : MF K u) (U : WU u) {l : List Nat} (hl6 : l.length ≤ 6) (hO : ∀ i, i < l.length → K 156 i = nI (l.getD i 0)) (hS : ∀ b, b ∈ l → b < 6 ∧ bt (loS u) b = true) {zzk0 : Nat} (hk0 : zzk0 ∈ l) (hB : 1000 ≤ ds u (u 91) (u (71 + zzk0))) (Z : hz_Z X 0 0 (some (.int (-1 : Int32))) TT NN (K, L, PP q))  : ∀ (n i : Nat) (a s : Nat) (zzw5 : Option Value), i + n = l.length → (a = 6 ∨ (a < 6 ∧ bt (loS u) a = true)) → (s ≤ 63 * i ∧ ds u (u 91) (rmx u a) < 1000 ∧ ∀ j, j < i → ds u (u 91) (u (71 + l.getD j 0)) < 1000) → hz_G X TT NN (K, L, PP q) 0 0 13 [some (.ref 146), some (.int (nI l.length)), some (.int (nI (rmx u a))), some (.int (nI s)), some (.int (nI i)), zzw5] [] := by
  intro n
  induction n with
  | zero =>
    intro i a s zzw5 hi ha hs
    obtain rfl : l.length = i := by omega
    refine hz_iload (pc := 13) C dX11_wayBy_13 rfl ?_
    refine hz_iload_n (pc := 15) C dX11_wayBy_15 rfl ?_
    refine hz_ic_ge (pc := 16) C (tgt := 73) dX11_wayBy_16 rfl (fun _ => ?_) (fun cq => absurd (nI_le (by omega) (by omega)) cq)
    obtain ⟨j, hj, hj2⟩ := List.mem_iff_getElem.mp hk0
    have h9 := hs.2.2 j hj
    rw [List.getD_eq_getElem?_getD, List.getElem?_eq_getElem hj] at h9
    exact absurd (show ds u (u 91) (u (71 + l[j])) < 1000 from h9) (by rw [hj2]; omega)
  | succ n ih =>
    intro i a s zzw5 hi ha hs
    obtain ⟨b, hgb⟩ : ∃ b, b = l.getD i 0 := ⟨_, rfl⟩
    have hil : i < l.length := by omega
    have hbS := hS b (hgb ▸ getD_mem hil)
    have hd := drop_s hil
    rw [← hgb] at hd
    have hbl := (loS_bt U).mp hbS.2
    have hal := wu_al U
    have hrb := wu_rm U hbl.1
    have hra : rmx u a < 8 := by
      unfold rmx
      rcases ha with ha | ha
      · rw [if_pos ha]; exact wu_pl U
      · rw [if_neg (by omega)]; exact wu_rm U ((loS_bt U).mp ha.2).1
    have hs63 := hs.1
    refine hz_iload (pc := 13) C dX11_wayBy_13 rfl ?_
    refine hz_iload_n (pc := 15) C dX11_wayBy_15 rfl ?_
    refine hz_ic_ge (pc := 16) C (tgt := 73) dX11_wayBy_16 rfl (fun cq => absurd cq (nI_ge (by omega) (by omega))) (fun _ => ?_)
    refine hz_iload_n (pc := 19) C dX11_wayBy_19 rfl ?_
    refine hz_if_lt (pc := 20) C (tgt := 73) dX11_wayBy_20 rfl (fun cq => absurd cq (nI_pos (by omega))) (fun _ => ?_)
    refine hz_aload_n (pc := 23) C dX11_wayBy_23 rfl ?_
    refine hz_getP (pc := 24) C (v := 147) ffX11_7 dX11_wayBy_24 hT146 hA146 rfl (hP146_0 q) (by decide) ?_
    refine hz_bipush (pc := 27) C (v := nI 71) dX11_wayBy_27 (by decide +kernel) ?_
    refine hz_aload_n (pc := 29) C dX11_wayBy_29 rfl ?_
    refine hz_getP (pc := 30) C (v := 156) ffX11_42 dX11_wayBy_30 hT146 hA146 rfl (hP146_18 q) (by decide) ?_
    refine hz_iload (pc := 33) C dX11_wayBy_33 rfl ?_
    refine hz_iald (pc := 35) C (v := nI b) (j := i) dX11_wayBy_35 hT156 hA156 rfl (by omega) (by decide) ((hO i (by omega)).trans (by rw [hgb])) ?_
    refine hz_iadd (pc := 36) C (v := nI (71 + b)) dX11_wayBy_36 (nI_add _ _) ?_
    refine hz_iald (pc := 37) C (v := nI (u (71 + b))) (j := 71 + b) dX11_wayBy_37 hT147 hA147 rfl (by omega) (by decide) (mg V.1 (j := 71 + b) (by omega) (by omega)) ?_
    refine hz_istore (pc := 38) C (ls' := [some (.ref 146), some (.int (nI l.length)), some (.int (nI (rmx u a))), some (.int (nI s)), some (.int (nI i)), some (.int (nI (u (71 + b))))]) dX11_wayBy_38 (Nat.le_of_ble_eq_true rfl) rfl ?_
    by_cases hfin : ds u (rmx u a) (u (71 + b)) < 1000
    · have hf63 := ds_fin U hra hrb hfin
      refine hz_aload_n (pc := 40) C dX11_wayBy_40 rfl ?_
      refine hz_iload_n (pc := 41) C dX11_wayBy_41 rfl ?_
      refine hz_iload (pc := 42) C dX11_wayBy_42 rfl ?_
      refine hz_callVs (pc := 44) C (as := [.int (nI (rmx u a)), .int (nI (u (71 + b)))]) (st := []) (by have h9 := ev_farX (L := L) (q := q) (a := rmx u a) (b := u (71 + b)) hra hrb (V.2 _ _ hra hrb); rw [fa_fin (by omega)] at h9; exact h9) (hz_new0 _ _) fyX11_farOf fvX11_153 rfl dX11_wayBy_44 hT146 rfl rfl hA146 rfl rfl (Nat.le_of_ble_eq_true rfl) (by decide) (hz_cap0 _) ?_
      refine hz_if_ge (pc := 47) C (tgt := 54) dX11_wayBy_47 rfl (fun _ => ?_) (fun cq => absurd (nI_pos' (by omega)) cq)
      refine hz_iload_n (pc := 54) C dX11_wayBy_54 rfl ?_
      refine hz_aload_n (pc := 55) C dX11_wayBy_55 rfl ?_
      refine hz_iload_n (pc := 56) C dX11_wayBy_56 rfl ?_
      refine hz_iload (pc := 57) C dX11_wayBy_57 rfl ?_
      refine hz_callVs (pc := 59) C (as := [.int (nI (rmx u a)), .int (nI (u (71 + b)))]) (st := [.int (nI s)]) (by have h9 := ev_farX (L := L) (q := q) (a := rmx u a) (b := u (71 + b)) hra hrb (V.2 _ _ hra hrb); rw [fa_fin (by omega)] at h9; exact h9) (hz_new0 _ _) fyX11_farOf fvX11_153 rfl dX11_wayBy_59 hT146 rfl rfl hA146 rfl rfl (Nat.le_of_ble_eq_true rfl) (by decide) (hz_cap0 _) ?_
      refine hz_iadd (pc := 62) C (v := nI (s + (ds u (rmx u a) (u (71 + b))))) dX11_wayBy_62 (nI_add _ _) ?_
      refine hz_istore_n (pc := 63) C (ls' := [some (.ref 146), some (.int (nI l.length)), some (.int (nI (rmx u a))), some (.int (nI (s + (ds u (rmx u a) (u (71 + b)))))), some (.int (nI i)), some (.int (nI (u (71 + b))))]) dX11_wayBy_63 (Nat.le_of_ble_eq_true rfl) rfl ?_
      refine hz_iload (pc := 64) C dX11_wayBy_64 rfl ?_
      refine hz_istore_n (pc := 66) C (ls' := [some (.ref 146), some (.int (nI l.length)), some (.int (nI (u (71 + b)))), some (.int (nI (s + (ds u (rmx u a) (u (71 + b)))))), some (.int (nI i)), some (.int (nI (u (71 + b))))]) dX11_wayBy_66 (Nat.le_of_ble_eq_true rfl) rfl ?_
      refine hz_iinc (pc := 67) C (v := nI (i + 1)) (ls' := [some (.ref 146), some (.int (nI l.length)), some (.int (nI (u (71 + b)))), some (.int (nI (s + (ds u (rmx u a) (u (71 + b)))))), some (.int (nI (i + 1))), some (.int (nI (u (71 + b))))]) dX11_wayBy_67 rfl (nI_add _ 1) rfl ?_
      refine hz_goto (pc := 70) C (tgt := 13) dX11_wayBy_70 rfl ?_
      have htri := ds_tri u (a := u 91) (v := rmx u a) (b := u (71 + b)) hra
      have hrch := ds_fin U (wu_pl U) hra hs.2.1
      have h9 := ih (i + 1) b (s + ds u (rmx u a) (u (71 + b))) (some (.int (nI (u (71 + b))))) (by omega) (Or.inr hbS) ⟨by omega, by rw [show rmx u b = u (71 + b) from if_neg (by omega)]; omega, fun j hj => by
        by_cases hz : j = i
        · subst hz; rw [← hgb]; omega
        · exact hs.2.2 j (by omega)⟩
      rw [show rmx u b = u (71 + b) from if_neg (by omega)] at h9
      exact h9
    · have hge : 1000 ≤ ds u (rmx u a) (u (71 + b)) := by omega
      refine hz_aload_n (pc := 40) C dX11_wayBy_40 rfl ?_
      refine hz_iload_n (pc := 41) C dX11_wayBy_41 rfl ?_
      refine hz_iload (pc := 42) C dX11_wayBy_42 rfl ?_
      refine hz_callVs (pc := 44) C (as := [.int (nI (rmx u a)), .int (nI (u (71 + b)))]) (st := []) (by have h9 := ev_farX (L := L) (q := q) (a := rmx u a) (b := u (71 + b)) hra hrb (V.2 _ _ hra hrb); rw [fa_inf (by omega)] at h9; exact h9) (hz_new0 _ _) fyX11_farOf fvX11_153 rfl dX11_wayBy_44 hT146 rfl rfl hA146 rfl rfl (Nat.le_of_ble_eq_true rfl) (by decide) (hz_cap0 _) ?_
      refine hz_if_ge (pc := 47) C (tgt := 54) dX11_wayBy_47 rfl (fun cq => absurd cq (by decide)) (fun _ => ?_)
      refine hz_iconst (pc := 50) C (v := (-1 : Int32)) dX11_wayBy_50 (by decide +kernel) ?_
      refine hz_goto (pc := 51) C (tgt := 63) dX11_wayBy_51 rfl ?_
      refine hz_istore_n (pc := 63) C (ls' := [some (.ref 146), some (.int (nI l.length)), some (.int (nI (rmx u a))), some (.int (-1 : Int32)), some (.int (nI i)), some (.int (nI (u (71 + b))))]) dX11_wayBy_63 (Nat.le_of_ble_eq_true rfl) rfl ?_
      refine hz_iload (pc := 64) C dX11_wayBy_64 rfl ?_
      refine hz_istore_n (pc := 66) C (ls' := [some (.ref 146), some (.int (nI l.length)), some (.int (nI (u (71 + b)))), some (.int (-1 : Int32)), some (.int (nI i)), some (.int (nI (u (71 + b))))]) dX11_wayBy_66 (Nat.le_of_ble_eq_true rfl) rfl ?_
      refine hz_iinc (pc := 67) C (v := nI (i + 1)) (ls' := [some (.ref 146), some (.int (nI l.length)), some (.int (nI (u (71 + b)))), some (.int (-1 : Int32)), some (.int (nI (i + 1))), some (.int (nI (u (71 + b))))]) dX11_wayBy_67 rfl (nI_add _ 1) rfl ?_
      refine hz_goto (pc := 70) C (tgt := 13) dX11_wayBy_70 rfl ?_
      exact wb_m1 C Z _ _ _ _
set_option maxHeartbeats 4000000 in
set_option maxRecDepth 100000 in
theorem ev_wayByN {K : Nat → Nat → Int32} {L : Nat → Nat → Int64} {q : Nat → Nat → Nat} {u : Nat → Nat} (V : MF K u) (U : WU u) {l : List Nat} (hl6 : l.length ≤ 6) (hO : ∀ i, i < l.length → K 156 i = nI (l.getD i 0)) (hS : ∀ b, b ∈ l → b < 6 ∧ bt (loS u) b = true) {zzk0 : Nat} (hk0 : zzk0 ∈ l) (hB : 1000 ≤ ds u (u 91) (u (71 + zzk0))) : hz_Ev mX11_wayBy TT NN (K, L, PP q) [.ref 146, .int (nI l.length)] 0 0 (some (.int (-1 : Int32))) TT NN (K, L, PP q) := by
  refine hz_Ev.intro (ls := [some (.ref 146), some (.int (nI l.length)), none, none, none, none]) (by decide +kernel) rfl (Nat.le_of_ble_eq_true rfl) (fun X C Z _ => ?_)
  refine hz_aload_n (pc := 0) C dX11_wayBy_0 rfl ?_
  refine hz_getP (pc := 1) C (v := 147) ffX11_7 dX11_wayBy_1 hT146 hA146 rfl (hP146_0 q) (by decide) ?_
  refine hz_bipush (pc := 4) C (v := nI 91) dX11_wayBy_4 (by decide +kernel) ?_
  refine hz_iald (pc := 6) C (v := nI (rmx u 6)) (j := 91) dX11_wayBy_6 hT147 hA147 rfl (by decide) (by decide) ((mg V.1 (by omega) (by omega)).trans (congrArg nI (if_pos rfl).symm)) ?_
  refine hz_istore_n (pc := 7) C (ls' := [some (.ref 146), some (.int (nI l.length)), some (.int (nI (rmx u 6))), none, none, none]) dX11_wayBy_7 (Nat.le_of_ble_eq_true rfl) rfl ?_
  refine hz_iconst (pc := 8) C (v := nI 0) dX11_wayBy_8 (by decide +kernel) ?_
  refine hz_istore_n (pc := 9) C (ls' := [some (.ref 146), some (.int (nI l.length)), some (.int (nI (rmx u 6))), some (.int (nI 0)), none, none]) dX11_wayBy_9 (Nat.le_of_ble_eq_true rfl) rfl ?_
  refine hz_iconst (pc := 10) C (v := nI 0) dX11_wayBy_10 (by decide +kernel) ?_
  refine hz_istore (pc := 11) C (ls' := [some (.ref 146), some (.int (nI l.length)), some (.int (nI (rmx u 6))), some (.int (nI 0)), some (.int (nI 0)), none]) dX11_wayBy_11 (Nat.le_of_ble_eq_true rfl) rfl ?_
  exact lp_wn C V U hl6 hO hS hk0 hB Z l.length 0 6 0 _ (by omega) (Or.inl rfl) ⟨Nat.zero_le _, by rw [show rmx u 6 = u 91 from if_pos rfl, ds_self]; omega, fun j hj => absurd hj (Nat.not_lt_zero _)⟩

set_option maxHeartbeats 4000000 in
set_option maxRecDepth 100000 in
theorem lp_rs {X : hz_X} (C : hz_C X mX2_reset) {I : Nat → Nat → Int32} {L : Nat → Nat → Int64} {q : Nat → Nat → Nat} (kk : ∀ f : Nat → Int32, (∀ j, j < 64 → f j = (-1 : Int32)) → hz_G X TT NN (hz_sa I 13 f, L, PP q) 0 0 24 [some (.ref 12), some (.int (nI 64))] []) : ∀ (n i : Nat) (f : Nat → Int32), i + n = 64 → (∀ j, j < i → f j = (-1 : Int32)) → hz_G X TT NN (hz_sa I 13 f, L, PP q) 0 0 2 [some (.ref 12), some (.int (nI i))] [] := by
  intro n
  induction n with
  | zero =>
    intro i f hi hf
    obtain rfl : i = 64 := by omega
    refine hz_iload_n (pc := 2) C dX2_reset_2 rfl ?_
    refine hz_aload_n (pc := 3) C dX2_reset_3 rfl ?_
    refine hz_getP (pc := 4) C (v := 13) ffX2_9 dX2_reset_4 hT12 hA12 rfl (hP12_1 q) (by decide) ?_
    refine hz_alen (pc := 7) C (v := nI 64) dX2_reset_7 hT13 ⟨by decide, by decide⟩ hA13 rfl ?_
    refine hz_ic_ge (pc := 8) C (tgt := 24) dX2_reset_8 rfl (fun _ => ?_) (fun cq => absurd (nI_le (by omega) (by omega)) cq)
    exact kk f hf
  | succ n ih =>
    intro i f hi hf
    refine hz_iload_n (pc := 2) C dX2_reset_2 rfl ?_
    refine hz_aload_n (pc := 3) C dX2_reset_3 rfl ?_
    refine hz_getP (pc := 4) C (v := 13) ffX2_9 dX2_reset_4 hT12 hA12 rfl (hP12_1 q) (by decide) ?_
    refine hz_alen (pc := 7) C (v := nI 64) dX2_reset_7 hT13 ⟨by decide, by decide⟩ hA13 rfl ?_
    refine hz_ic_ge (pc := 8) C (tgt := 24) dX2_reset_8 rfl (fun cq => absurd cq (nI_ge (by omega) (by omega))) (fun _ => ?_)
    refine hz_aload_n (pc := 11) C dX2_reset_11 rfl ?_
    refine hz_getP (pc := 12) C (v := 13) ffX2_9 dX2_reset_12 hT12 hA12 rfl (hP12_1 q) (by decide) ?_
    refine hz_iload_n (pc := 15) C dX2_reset_15 rfl ?_
    refine hz_iconst (pc := 16) C (v := (-1 : Int32)) dX2_reset_16 (by decide +kernel) ?_
    refine hz_iast (pc := 17) C (v := (-1 : Int32)) (j := i) (M' := (hz_sa I 13 (va_up f i (-1 : Int32)), L, PP q)) dX2_reset_17 hT13 hA13 rfl (by omega) (by decide) rfl (hz_sau _ _ _ _ _ _) ?_
    refine hz_iinc (pc := 18) C (v := nI (i + 1)) (ls' := [some (.ref 12), some (.int (nI (i + 1)))]) dX2_reset_18 rfl (nI_add _ 1) rfl ?_
    refine hz_goto (pc := 21) C (tgt := 2) dX2_reset_21 rfl ?_
    exact ih (i + 1) _ (by omega) (hz_upl (fun j y => y = (-1 : Int32)) hf rfl)
set_option maxHeartbeats 4000000 in
set_option maxRecDepth 100000 in
theorem ev_reset {I : Nat → Nat → Int32} {L : Nat → Nat → Int64} {q : Nat → Nat → Nat} : hz_Ev mX2_reset TT NN (I, L, PP q) [.ref 12] 0 0 none TT NN (hz_up (hz_up (hz_up (hz_up (hz_up (hz_up (hz_up (hz_up (hz_sa I 13 (fun _ => (-1 : Int32))) 12 9 (nI 0)) 12 10 (nI 0)) 12 11 (nI 0)) 12 12 (nI 0)) 19 1 (nI 0)) 19 2 (nI 0)) 19 3 (nI 3)) 19 4 (nI 0), L, PP q) := by
  refine hz_Ev.intro (ls := [some (.ref 12), none]) (by decide +kernel) rfl (Nat.le_of_ble_eq_true rfl) (fun X C Z _ => ?_)
  refine hz_iconst (pc := 0) C (v := nI 0) dX2_reset_0 (by decide +kernel) ?_
  refine hz_istore_n (pc := 1) C (ls' := [some (.ref 12), some (.int (nI 0))]) dX2_reset_1 (Nat.le_of_ble_eq_true rfl) rfl ?_
  refine Eq.mpr (by rw [hz_sa_id]) (?_ : hz_G X TT NN (hz_sa I 13 (I 13), L, PP q) 0 0 2 [some (.ref 12), some (.int (nI 0))] [])
  refine lp_rs C (fun f hf => ?_) 64 0 (I 13) (by omega) (fun j h => absurd h (Nat.not_lt_zero _))
  refine hz_cong (hz_sm_sa (g := fun _ => (-1 : Int32)) hT13 (by decide) (by decide) hf) ?_
  refine hz_aload_n (pc := 24) C dX2_reset_24 rfl ?_
  refine hz_iconst (pc := 25) C (v := nI 0) dX2_reset_25 (by decide +kernel) ?_
  refine hz_putI (pc := 26) C (M' := (hz_up (hz_sa I 13 (fun _ => (-1 : Int32))) 12 9 (nI 0), L, PP q)) ffX2_66 dX2_reset_26 hT12 hA12 rfl rfl ⟨by decide +kernel, by decide +kernel⟩ rfl ?_
  refine hz_aload_n (pc := 29) C dX2_reset_29 rfl ?_
  refine hz_iconst (pc := 30) C (v := nI 0) dX2_reset_30 (by decide +kernel) ?_
  refine hz_putI (pc := 31) C (M' := (hz_up (hz_up (hz_sa I 13 (fun _ => (-1 : Int32))) 12 9 (nI 0)) 12 10 (nI 0), L, PP q)) ffX2_70 dX2_reset_31 hT12 hA12 rfl rfl ⟨rfl, rfl⟩ rfl ?_
  refine hz_aload_n (pc := 34) C dX2_reset_34 rfl ?_
  refine hz_iconst (pc := 35) C (v := nI 0) dX2_reset_35 (by decide +kernel) ?_
  refine hz_putI (pc := 36) C (M' := (hz_up (hz_up (hz_up (hz_sa I 13 (fun _ => (-1 : Int32))) 12 9 (nI 0)) 12 10 (nI 0)) 12 11 (nI 0), L, PP q)) ffX2_74 dX2_reset_36 hT12 hA12 rfl rfl ⟨rfl, rfl⟩ rfl ?_
  refine hz_aload_n (pc := 39) C dX2_reset_39 rfl ?_
  refine hz_iconst (pc := 40) C (v := nI 0) dX2_reset_40 (by decide +kernel) ?_
  refine hz_putI (pc := 41) C (M' := (hz_up (hz_up (hz_up (hz_up (hz_sa I 13 (fun _ => (-1 : Int32))) 12 9 (nI 0)) 12 10 (nI 0)) 12 11 (nI 0)) 12 12 (nI 0), L, PP q)) ffX2_77 dX2_reset_41 hT12 hA12 rfl rfl ⟨rfl, rfl⟩ rfl ?_
  refine hz_aload_n (pc := 44) C dX2_reset_44 rfl ?_
  refine hz_getP (pc := 45) C (v := 19) ffX2_33 dX2_reset_45 hT12 hA12 rfl (hP12_7 q) (by decide) ?_
  refine hz_iconst (pc := 48) C (v := nI 0) dX2_reset_48 (by decide +kernel) ?_
  refine hz_putI (pc := 49) C (M' := (hz_up (hz_up (hz_up (hz_up (hz_up (hz_sa I 13 (fun _ => (-1 : Int32))) 12 9 (nI 0)) 12 10 (nI 0)) 12 11 (nI 0)) 12 12 (nI 0)) 19 1 (nI 0), L, PP q)) ffX2_80 dX2_reset_49 hT19 hA19 rfl rfl ⟨rfl, rfl⟩ rfl ?_
  refine hz_aload_n (pc := 52) C dX2_reset_52 rfl ?_
  refine hz_getP (pc := 53) C (v := 19) ffX2_33 dX2_reset_53 hT12 hA12 rfl (hP12_7 q) (by decide) ?_
  refine hz_iconst (pc := 56) C (v := nI 0) dX2_reset_56 (by decide +kernel) ?_
  refine hz_putI (pc := 57) C (M' := (hz_up (hz_up (hz_up (hz_up (hz_up (hz_up (hz_sa I 13 (fun _ => (-1 : Int32))) 12 9 (nI 0)) 12 10 (nI 0)) 12 11 (nI 0)) 12 12 (nI 0)) 19 1 (nI 0)) 19 2 (nI 0), L, PP q)) ffX2_83 dX2_reset_57 hT19 hA19 rfl rfl ⟨rfl, rfl⟩ rfl ?_
  refine hz_aload_n (pc := 60) C dX2_reset_60 rfl ?_
  refine hz_getP (pc := 61) C (v := 19) ffX2_33 dX2_reset_61 hT12 hA12 rfl (hP12_7 q) (by decide) ?_
  refine hz_iconst (pc := 64) C (v := nI 3) dX2_reset_64 (by decide +kernel) ?_
  refine hz_putI (pc := 65) C (M' := (hz_up (hz_up (hz_up (hz_up (hz_up (hz_up (hz_up (hz_sa I 13 (fun _ => (-1 : Int32))) 12 9 (nI 0)) 12 10 (nI 0)) 12 11 (nI 0)) 12 12 (nI 0)) 19 1 (nI 0)) 19 2 (nI 0)) 19 3 (nI 3), L, PP q)) ffX2_86 dX2_reset_65 hT19 hA19 rfl rfl ⟨rfl, rfl⟩ rfl ?_
  refine hz_aload_n (pc := 68) C dX2_reset_68 rfl ?_
  refine hz_getP (pc := 69) C (v := 19) ffX2_33 dX2_reset_69 hT12 hA12 rfl (hP12_7 q) (by decide) ?_
  refine hz_iconst (pc := 72) C (v := nI 0) dX2_reset_72 (by decide +kernel) ?_
  refine hz_putI (pc := 73) C (M' := (hz_up (hz_up (hz_up (hz_up (hz_up (hz_up (hz_up (hz_up (hz_sa I 13 (fun _ => (-1 : Int32))) 12 9 (nI 0)) 12 10 (nI 0)) 12 11 (nI 0)) 12 12 (nI 0)) 19 1 (nI 0)) 19 2 (nI 0)) 19 3 (nI 3)) 19 4 (nI 0), L, PP q)) ffX2_89 dX2_reset_73 hT19 hA19 rfl rfl ⟨rfl, rfl⟩ rfl ?_
  exact hz_vret C Z rfl dX2_reset_76 rfl
set_option maxHeartbeats 4000000 in
set_option maxRecDepth 100000 in
theorem lp_rsD {X : hz_X} (C : hz_C X mX2_reset) {I : Nat → Nat → Int32} {L : Nat → Nat → Int64} {q : Nat → Nat → Nat} (kk : ∀ f : Nat → Int32, (∀ j, j < 64 → f j = (-1 : Int32)) → hz_G X TT NN (hz_sa I 46 f, L, PP q) 0 0 24 [some (.ref 45), some (.int (nI 64))] []) : ∀ (n i : Nat) (f : Nat → Int32), i + n = 64 → (∀ j, j < i → f j = (-1 : Int32)) → hz_G X TT NN (hz_sa I 46 f, L, PP q) 0 0 2 [some (.ref 45), some (.int (nI i))] [] := by
  intro n
  induction n with
  | zero =>
    intro i f hi hf
    obtain rfl : i = 64 := by omega
    refine hz_iload_n (pc := 2) C dX2_reset_2 rfl ?_
    refine hz_aload_n (pc := 3) C dX2_reset_3 rfl ?_
    refine hz_getP (pc := 4) C (v := 46) ffX2_9 dX2_reset_4 hT45 hA45 rfl (hP45_1 q) (by decide) ?_
    refine hz_alen (pc := 7) C (v := nI 64) dX2_reset_7 hT46 ⟨by decide, by decide⟩ hA46 rfl ?_
    refine hz_ic_ge (pc := 8) C (tgt := 24) dX2_reset_8 rfl (fun _ => ?_) (fun cq => absurd (nI_le (by omega) (by omega)) cq)
    exact kk f hf
  | succ n ih =>
    intro i f hi hf
    refine hz_iload_n (pc := 2) C dX2_reset_2 rfl ?_
    refine hz_aload_n (pc := 3) C dX2_reset_3 rfl ?_
    refine hz_getP (pc := 4) C (v := 46) ffX2_9 dX2_reset_4 hT45 hA45 rfl (hP45_1 q) (by decide) ?_
    refine hz_alen (pc := 7) C (v := nI 64) dX2_reset_7 hT46 ⟨by decide, by decide⟩ hA46 rfl ?_
    refine hz_ic_ge (pc := 8) C (tgt := 24) dX2_reset_8 rfl (fun cq => absurd cq (nI_ge (by omega) (by omega))) (fun _ => ?_)
    refine hz_aload_n (pc := 11) C dX2_reset_11 rfl ?_
    refine hz_getP (pc := 12) C (v := 46) ffX2_9 dX2_reset_12 hT45 hA45 rfl (hP45_1 q) (by decide) ?_
    refine hz_iload_n (pc := 15) C dX2_reset_15 rfl ?_
    refine hz_iconst (pc := 16) C (v := (-1 : Int32)) dX2_reset_16 (by decide +kernel) ?_
    refine hz_iast (pc := 17) C (v := (-1 : Int32)) (j := i) (M' := (hz_sa I 46 (va_up f i (-1 : Int32)), L, PP q)) dX2_reset_17 hT46 hA46 rfl (by omega) (by decide) rfl (hz_sau _ _ _ _ _ _) ?_
    refine hz_iinc (pc := 18) C (v := nI (i + 1)) (ls' := [some (.ref 45), some (.int (nI (i + 1)))]) dX2_reset_18 rfl (nI_add _ 1) rfl ?_
    refine hz_goto (pc := 21) C (tgt := 2) dX2_reset_21 rfl ?_
    exact ih (i + 1) _ (by omega) (hz_upl (fun j y => y = (-1 : Int32)) hf rfl)
set_option maxHeartbeats 4000000 in
set_option maxRecDepth 100000 in
theorem ev_resetD {I : Nat → Nat → Int32} {L : Nat → Nat → Int64} {q : Nat → Nat → Nat} : hz_Ev mX2_reset TT NN (I, L, PP q) [.ref 45] 0 0 none TT NN (hz_up (hz_up (hz_up (hz_up (hz_up (hz_up (hz_up (hz_up (hz_sa I 46 (fun _ => (-1 : Int32))) 45 9 (nI 0)) 45 10 (nI 0)) 45 11 (nI 0)) 45 12 (nI 0)) 52 1 (nI 0)) 52 2 (nI 0)) 52 3 (nI 3)) 52 4 (nI 0), L, PP q) := by
  refine hz_Ev.intro (ls := [some (.ref 45), none]) (by decide +kernel) rfl (Nat.le_of_ble_eq_true rfl) (fun X C Z _ => ?_)
  refine hz_iconst (pc := 0) C (v := nI 0) dX2_reset_0 (by decide +kernel) ?_
  refine hz_istore_n (pc := 1) C (ls' := [some (.ref 45), some (.int (nI 0))]) dX2_reset_1 (Nat.le_of_ble_eq_true rfl) rfl ?_
  refine Eq.mpr (by rw [hz_sa_id]) (?_ : hz_G X TT NN (hz_sa I 46 (I 46), L, PP q) 0 0 2 [some (.ref 45), some (.int (nI 0))] [])
  refine lp_rsD C (fun f hf => ?_) 64 0 (I 46) (by omega) (fun j h => absurd h (Nat.not_lt_zero _))
  refine hz_cong (hz_sm_sa (g := fun _ => (-1 : Int32)) hT46 (by decide) (by decide) hf) ?_
  refine hz_aload_n (pc := 24) C dX2_reset_24 rfl ?_
  refine hz_iconst (pc := 25) C (v := nI 0) dX2_reset_25 (by decide +kernel) ?_
  refine hz_putI (pc := 26) C (M' := (hz_up (hz_sa I 46 (fun _ => (-1 : Int32))) 45 9 (nI 0), L, PP q)) ffX2_66 dX2_reset_26 hT45 hA45 rfl rfl ⟨by decide +kernel, by decide +kernel⟩ rfl ?_
  refine hz_aload_n (pc := 29) C dX2_reset_29 rfl ?_
  refine hz_iconst (pc := 30) C (v := nI 0) dX2_reset_30 (by decide +kernel) ?_
  refine hz_putI (pc := 31) C (M' := (hz_up (hz_up (hz_sa I 46 (fun _ => (-1 : Int32))) 45 9 (nI 0)) 45 10 (nI 0), L, PP q)) ffX2_70 dX2_reset_31 hT45 hA45 rfl rfl ⟨rfl, rfl⟩ rfl ?_
  refine hz_aload_n (pc := 34) C dX2_reset_34 rfl ?_
  refine hz_iconst (pc := 35) C (v := nI 0) dX2_reset_35 (by decide +kernel) ?_
  refine hz_putI (pc := 36) C (M' := (hz_up (hz_up (hz_up (hz_sa I 46 (fun _ => (-1 : Int32))) 45 9 (nI 0)) 45 10 (nI 0)) 45 11 (nI 0), L, PP q)) ffX2_74 dX2_reset_36 hT45 hA45 rfl rfl ⟨rfl, rfl⟩ rfl ?_
  refine hz_aload_n (pc := 39) C dX2_reset_39 rfl ?_
  refine hz_iconst (pc := 40) C (v := nI 0) dX2_reset_40 (by decide +kernel) ?_
  refine hz_putI (pc := 41) C (M' := (hz_up (hz_up (hz_up (hz_up (hz_sa I 46 (fun _ => (-1 : Int32))) 45 9 (nI 0)) 45 10 (nI 0)) 45 11 (nI 0)) 45 12 (nI 0), L, PP q)) ffX2_77 dX2_reset_41 hT45 hA45 rfl rfl ⟨rfl, rfl⟩ rfl ?_
  refine hz_aload_n (pc := 44) C dX2_reset_44 rfl ?_
  refine hz_getP (pc := 45) C (v := 52) ffX2_33 dX2_reset_45 hT45 hA45 rfl (hP45_7 q) (by decide) ?_
  refine hz_iconst (pc := 48) C (v := nI 0) dX2_reset_48 (by decide +kernel) ?_
  refine hz_putI (pc := 49) C (M' := (hz_up (hz_up (hz_up (hz_up (hz_up (hz_sa I 46 (fun _ => (-1 : Int32))) 45 9 (nI 0)) 45 10 (nI 0)) 45 11 (nI 0)) 45 12 (nI 0)) 52 1 (nI 0), L, PP q)) ffX2_80 dX2_reset_49 hT52 hA52 rfl rfl ⟨rfl, rfl⟩ rfl ?_
  refine hz_aload_n (pc := 52) C dX2_reset_52 rfl ?_
  refine hz_getP (pc := 53) C (v := 52) ffX2_33 dX2_reset_53 hT45 hA45 rfl (hP45_7 q) (by decide) ?_
  refine hz_iconst (pc := 56) C (v := nI 0) dX2_reset_56 (by decide +kernel) ?_
  refine hz_putI (pc := 57) C (M' := (hz_up (hz_up (hz_up (hz_up (hz_up (hz_up (hz_sa I 46 (fun _ => (-1 : Int32))) 45 9 (nI 0)) 45 10 (nI 0)) 45 11 (nI 0)) 45 12 (nI 0)) 52 1 (nI 0)) 52 2 (nI 0), L, PP q)) ffX2_83 dX2_reset_57 hT52 hA52 rfl rfl ⟨rfl, rfl⟩ rfl ?_
  refine hz_aload_n (pc := 60) C dX2_reset_60 rfl ?_
  refine hz_getP (pc := 61) C (v := 52) ffX2_33 dX2_reset_61 hT45 hA45 rfl (hP45_7 q) (by decide) ?_
  refine hz_iconst (pc := 64) C (v := nI 3) dX2_reset_64 (by decide +kernel) ?_
  refine hz_putI (pc := 65) C (M' := (hz_up (hz_up (hz_up (hz_up (hz_up (hz_up (hz_up (hz_sa I 46 (fun _ => (-1 : Int32))) 45 9 (nI 0)) 45 10 (nI 0)) 45 11 (nI 0)) 45 12 (nI 0)) 52 1 (nI 0)) 52 2 (nI 0)) 52 3 (nI 3), L, PP q)) ffX2_86 dX2_reset_65 hT52 hA52 rfl rfl ⟨rfl, rfl⟩ rfl ?_
  refine hz_aload_n (pc := 68) C dX2_reset_68 rfl ?_
  refine hz_getP (pc := 69) C (v := 52) ffX2_33 dX2_reset_69 hT45 hA45 rfl (hP45_7 q) (by decide) ?_
  refine hz_iconst (pc := 72) C (v := nI 0) dX2_reset_72 (by decide +kernel) ?_
  refine hz_putI (pc := 73) C (M' := (hz_up (hz_up (hz_up (hz_up (hz_up (hz_up (hz_up (hz_up (hz_sa I 46 (fun _ => (-1 : Int32))) 45 9 (nI 0)) 45 10 (nI 0)) 45 11 (nI 0)) 45 12 (nI 0)) 52 1 (nI 0)) 52 2 (nI 0)) 52 3 (nI 3)) 52 4 (nI 0), L, PP q)) ffX2_89 dX2_reset_73 hT52 hA52 rfl rfl ⟨rfl, rfl⟩ rfl ?_
  exact hz_vret C Z rfl dX2_reset_76 rfl

theorem ev_iX6_init {n a : Nat} {M : hz_M} : hz_Ev mX6_init TT n M [.ref a] 0 0 none TT n M := by
  refine hz_Ev.intro (ls := [some (.ref a)]) (by decide +kernel) rfl (Nat.le_of_ble_eq_true rfl) (fun X C Z hN => ?_)
  refine hz_aload_n (pc := 0) C dX6_init_0 rfl ?_
  refine hz_objInit (pc := 1) C foX6_1 dX6_init_1 rfl (Nat.le_of_ble_eq_true rfl) (by decide) ?_
  exact hz_vret C Z rfl dX6_init_4 rfl
theorem ev_iX4_init {n a : Nat} {M : hz_M} : hz_Ev mX4_init TT n M [.ref a] 0 0 none TT n M := by
  refine hz_Ev.intro (ls := [some (.ref a)]) (by decide +kernel) rfl (Nat.le_of_ble_eq_true rfl) (fun X C Z hN => ?_)
  refine hz_aload_n (pc := 0) C dX4_init_0 rfl ?_
  refine hz_callINv (pc := 1) C (as := []) (st := []) ev_iX6_init (hz_new0 _ _) fyX6_init fiX4_1 rfl dX4_init_1 rfl rfl (Nat.le_of_ble_eq_true rfl) (by decide) (hz_cap0 _) ?_
  exact hz_vret C Z rfl dX4_init_4 rfl
theorem ev_iX9_init {n a : Nat} {M : hz_M} : hz_Ev mX9_init TT n M [.ref a] 0 0 none TT n M := by
  refine hz_Ev.intro (ls := [some (.ref a)]) (by decide +kernel) rfl (Nat.le_of_ble_eq_true rfl) (fun X C Z hN => ?_)
  refine hz_aload_n (pc := 0) C dX9_init_0 rfl ?_
  refine hz_callINv (pc := 1) C (as := []) (st := []) ev_iX6_init (hz_new0 _ _) fyX6_init fiX9_1 rfl dX9_init_1 rfl rfl (Nat.le_of_ble_eq_true rfl) (by decide) (hz_cap0 _) ?_
  exact hz_vret C Z rfl dX9_init_4 rfl
theorem ev_iX0_init {n a : Nat} {M : hz_M} : hz_Ev mX0_init TT n M [.ref a] 0 0 none TT n M := by
  refine hz_Ev.intro (ls := [some (.ref a)]) (by decide +kernel) rfl (Nat.le_of_ble_eq_true rfl) (fun X C Z hN => ?_)
  refine hz_aload_n (pc := 0) C dX0_init_0 rfl ?_
  refine hz_callINv (pc := 1) C (as := []) (st := []) ev_iX6_init (hz_new0 _ _) fyX6_init fiX0_1 rfl dX0_init_1 rfl rfl (Nat.le_of_ble_eq_true rfl) (by decide) (hz_cap0 _) ?_
  exact hz_vret C Z rfl dX0_init_4 rfl
theorem ev_iX5_init {n a : Nat} {M : hz_M} : hz_Ev mX5_init TT n M [.ref a] 0 0 none TT n M := by
  refine hz_Ev.intro (ls := [some (.ref a)]) (by decide +kernel) rfl (Nat.le_of_ble_eq_true rfl) (fun X C Z hN => ?_)
  refine hz_aload_n (pc := 0) C dX5_init_0 rfl ?_
  refine hz_callINv (pc := 1) C (as := []) (st := []) ev_iX0_init (hz_new0 _ _) fyX0_init fiX5_1 rfl dX5_init_1 rfl rfl (Nat.le_of_ble_eq_true rfl) (by decide) (hz_cap0 _) ?_
  exact hz_vret C Z rfl dX5_init_4 rfl
theorem ev_iX1_init {n a : Nat} {M : hz_M} : hz_Ev mX1_init TT n M [.ref a] 0 0 none TT n M := by
  refine hz_Ev.intro (ls := [some (.ref a)]) (by decide +kernel) rfl (Nat.le_of_ble_eq_true rfl) (fun X C Z hN => ?_)
  refine hz_aload_n (pc := 0) C dX1_init_0 rfl ?_
  refine hz_callINv (pc := 1) C (as := []) (st := []) ev_iX4_init (hz_new0 _ _) fyX4_init fiX1_1 rfl dX1_init_1 rfl rfl (Nat.le_of_ble_eq_true rfl) (by decide) (hz_cap0 _) ?_
  exact hz_vret C Z rfl dX1_init_4 rfl
theorem ev_iX3 {m : Nat} {I : Nat → Nat → Int32} {L : Nat → Nat → Int64} {P P' : Nat → Nat → Nat} (hm : m ≠ 0) (h0 : TT m = (3, 5)) (h1 : TT (m + 1) = (13, 6)) (hb : hz_bl (I, L, P) (m + 1)) (hP : hz_up P m 0 (m + 1) = P') : hz_Ev mX3_init TT m (I, L, P) [.ref m] 1 6 none TT (m + 1) (I, L, P') := by
  subst hP
  refine hz_Ev.intro (ls := [some (.ref m)]) (by decide +kernel) rfl (Nat.le_of_ble_eq_true rfl) (fun X C Z hN => ?_)
  refine hz_aload_n (pc := 0) C dX3_init_0 rfl ?_
  refine hz_objInit (pc := 1) C foX3_3 dX3_init_1 rfl (Nat.le_of_ble_eq_true rfl) (by decide) ?_
  refine hz_aload_n (pc := 4) C dX3_init_4 rfl ?_
  refine hz_bipush (pc := 5) C (v := nI 6) dX3_init_5 (by decide +kernel) ?_
  refine hz_newA (pc := 7) C (n1 := m + 1) (ty := .int) (c := 13) (kc' := 1) (ks' := 6) rfl dX3_init_7 rfl (hz_mp 144 (by decide +kernel)) (fun _ => rfl) (fun _ _ h => h) rfl ⟨by decide, by decide⟩ h1 rfl (by decide) (by decide +kernel) hb hN rfl rfl (hz_capZ Z (by decide) (by decide)) ?_
  refine hz_putPF (pc := 9) C (M' := (I, L, hz_up P m 0 (m + 1))) ffX3_9 dX3_init_9 h0 ⟨hm, by omega⟩ rfl rfl rfl (fun _ h => by cases h; rfl) (fun _ => ⟨rfl, rfl⟩) (Nat.succ_ne_zero _) rfl ?_
  exact hz_vret C Z rfl dX3_init_12 rfl
/-- the ints behind reset -/
def rsI (h : Nat) (I : Nat → Nat → Int32) : Nat → Nat → Int32 := hz_up (hz_up (hz_up (hz_up (hz_up (hz_up (hz_up (hz_up (hz_sa I (h + 1) (fun _ => (-1 : Int32))) h 9 (nI 0)) h 10 (nI 0)) h 11 (nI 0)) h 12 (nI 0)) (h + 7) 1 (nI 0)) (h + 7) 2 (nI 0)) (h + 7) 3 (nI 3)) (h + 7) 4 (nI 0)
theorem rsI_o {h a : Nat} (I : Nat → Nat → Int32) (h1 : a ≠ h) (h2 : a ≠ h + 1) (h3 : a ≠ h + 7) : rsI h I a = I a := by
  unfold rsI
  rw [hz_up_ne _ _ _ _ h3, hz_up_ne _ _ _ _ h3, hz_up_ne _ _ _ _ h3, hz_up_ne _ _ _ _ h3, hz_up_ne _ _ _ _ h1, hz_up_ne _ _ _ _ h1, hz_up_ne _ _ _ _ h1, hz_up_ne _ _ _ _ h1, sa_ne _ _ _ h2]
set_option maxHeartbeats 4000000 in
set_option maxRecDepth 100000 in
theorem lp_rsG12 {X : hz_X} (C : hz_C X mX2_reset) {I : Nat → Nat → Int32} {L : Nat → Nat → Int64} {P : Nat → Nat → Nat} (zzp1 : P 12 1 = 13) (zzp7 : P 12 7 = 19) (kk : ∀ f : Nat → Int32, (∀ j, j < 64 → f j = (-1 : Int32)) → hz_G X TT 44 (hz_sa I 13 f, L, P) 0 0 24 [some (.ref 12), some (.int (nI 64))] []) : ∀ (n i : Nat) (f : Nat → Int32), i + n = 64 → (∀ j, j < i → f j = (-1 : Int32)) → hz_G X TT 44 (hz_sa I 13 f, L, P) 0 0 2 [some (.ref 12), some (.int (nI i))] [] := by
  intro n
  induction n with
  | zero =>
    intro i f hi hf
    obtain rfl : i = 64 := by omega
    refine hz_iload_n (pc := 2) C dX2_reset_2 rfl ?_
    refine hz_aload_n (pc := 3) C dX2_reset_3 rfl ?_
    refine hz_getP (pc := 4) C (v := 13) ffX2_9 dX2_reset_4 hT12 (by decide) rfl zzp1 (by decide) ?_
    refine hz_alen (pc := 7) C (v := nI 64) dX2_reset_7 hT13 ⟨by decide, by decide⟩ (by decide) rfl ?_
    refine hz_ic_ge (pc := 8) C (tgt := 24) dX2_reset_8 rfl (fun _ => ?_) (fun cq => absurd (nI_le (by omega) (by omega)) cq)
    exact kk f hf
  | succ n ih =>
    intro i f hi hf
    refine hz_iload_n (pc := 2) C dX2_reset_2 rfl ?_
    refine hz_aload_n (pc := 3) C dX2_reset_3 rfl ?_
    refine hz_getP (pc := 4) C (v := 13) ffX2_9 dX2_reset_4 hT12 (by decide) rfl zzp1 (by decide) ?_
    refine hz_alen (pc := 7) C (v := nI 64) dX2_reset_7 hT13 ⟨by decide, by decide⟩ (by decide) rfl ?_
    refine hz_ic_ge (pc := 8) C (tgt := 24) dX2_reset_8 rfl (fun cq => absurd cq (nI_ge (by omega) (by omega))) (fun _ => ?_)
    refine hz_aload_n (pc := 11) C dX2_reset_11 rfl ?_
    refine hz_getP (pc := 12) C (v := 13) ffX2_9 dX2_reset_12 hT12 (by decide) rfl zzp1 (by decide) ?_
    refine hz_iload_n (pc := 15) C dX2_reset_15 rfl ?_
    refine hz_iconst (pc := 16) C (v := (-1 : Int32)) dX2_reset_16 (by decide +kernel) ?_
    refine hz_iast (pc := 17) C (v := (-1 : Int32)) (j := i) (M' := (hz_sa I 13 (va_up f i (-1 : Int32)), L, P)) dX2_reset_17 hT13 (by decide) rfl (by omega) (by decide) rfl (hz_sau _ _ _ _ _ _) ?_
    refine hz_iinc (pc := 18) C (v := nI (i + 1)) (ls' := [some (.ref 12), some (.int (nI (i + 1)))]) dX2_reset_18 rfl (nI_add _ 1) rfl ?_
    refine hz_goto (pc := 21) C (tgt := 2) dX2_reset_21 rfl ?_
    exact ih (i + 1) _ (by omega) (hz_upl (fun j y => y = (-1 : Int32)) hf rfl)
set_option maxHeartbeats 4000000 in
set_option maxRecDepth 100000 in
theorem ev_rsG12 {I : Nat → Nat → Int32} {L : Nat → Nat → Int64} {P : Nat → Nat → Nat} (zzp1 : P 12 1 = 13) (zzp7 : P 12 7 = 19) : hz_Ev mX2_reset TT 44 (I, L, P) [.ref 12] 0 0 none TT 44 (rsI 12 I, L, P) := by
  refine hz_Ev.intro (ls := [some (.ref 12), none]) (by decide +kernel) rfl (Nat.le_of_ble_eq_true rfl) (fun X C Z _ => ?_)
  refine hz_iconst (pc := 0) C (v := nI 0) dX2_reset_0 (by decide +kernel) ?_
  refine hz_istore_n (pc := 1) C (ls' := [some (.ref 12), some (.int (nI 0))]) dX2_reset_1 (Nat.le_of_ble_eq_true rfl) rfl ?_
  refine Eq.mpr (by rw [hz_sa_id]) (?_ : hz_G X TT 44 (hz_sa I 13 (I 13), L, P) 0 0 2 [some (.ref 12), some (.int (nI 0))] [])
  refine lp_rsG12 C zzp1 zzp7 (fun f hf => ?_) 64 0 (I 13) (by omega) (fun j h => absurd h (Nat.not_lt_zero _))
  refine hz_cong (hz_sm_sa (g := fun _ => (-1 : Int32)) hT13 (by decide) (by decide) hf) ?_
  refine hz_aload_n (pc := 24) C dX2_reset_24 rfl ?_
  refine hz_iconst (pc := 25) C (v := nI 0) dX2_reset_25 (by decide +kernel) ?_
  refine hz_putI (pc := 26) C (M' := (hz_up (hz_sa I 13 (fun _ => (-1 : Int32))) 12 9 (nI 0), L, P)) ffX2_66 dX2_reset_26 hT12 (by decide) rfl rfl ⟨by decide +kernel, by decide +kernel⟩ rfl ?_
  refine hz_aload_n (pc := 29) C dX2_reset_29 rfl ?_
  refine hz_iconst (pc := 30) C (v := nI 0) dX2_reset_30 (by decide +kernel) ?_
  refine hz_putI (pc := 31) C (M' := (hz_up (hz_up (hz_sa I 13 (fun _ => (-1 : Int32))) 12 9 (nI 0)) 12 10 (nI 0), L, P)) ffX2_70 dX2_reset_31 hT12 (by decide) rfl rfl ⟨rfl, rfl⟩ rfl ?_
  refine hz_aload_n (pc := 34) C dX2_reset_34 rfl ?_
  refine hz_iconst (pc := 35) C (v := nI 0) dX2_reset_35 (by decide +kernel) ?_
  refine hz_putI (pc := 36) C (M' := (hz_up (hz_up (hz_up (hz_sa I 13 (fun _ => (-1 : Int32))) 12 9 (nI 0)) 12 10 (nI 0)) 12 11 (nI 0), L, P)) ffX2_74 dX2_reset_36 hT12 (by decide) rfl rfl ⟨rfl, rfl⟩ rfl ?_
  refine hz_aload_n (pc := 39) C dX2_reset_39 rfl ?_
  refine hz_iconst (pc := 40) C (v := nI 0) dX2_reset_40 (by decide +kernel) ?_
  refine hz_putI (pc := 41) C (M' := (hz_up (hz_up (hz_up (hz_up (hz_sa I 13 (fun _ => (-1 : Int32))) 12 9 (nI 0)) 12 10 (nI 0)) 12 11 (nI 0)) 12 12 (nI 0), L, P)) ffX2_77 dX2_reset_41 hT12 (by decide) rfl rfl ⟨rfl, rfl⟩ rfl ?_
  refine hz_aload_n (pc := 44) C dX2_reset_44 rfl ?_
  refine hz_getP (pc := 45) C (v := 19) ffX2_33 dX2_reset_45 hT12 (by decide) rfl zzp7 (by decide) ?_
  refine hz_iconst (pc := 48) C (v := nI 0) dX2_reset_48 (by decide +kernel) ?_
  refine hz_putI (pc := 49) C (M' := (hz_up (hz_up (hz_up (hz_up (hz_up (hz_sa I 13 (fun _ => (-1 : Int32))) 12 9 (nI 0)) 12 10 (nI 0)) 12 11 (nI 0)) 12 12 (nI 0)) 19 1 (nI 0), L, P)) ffX2_80 dX2_reset_49 hT19 (by decide) rfl rfl ⟨rfl, rfl⟩ rfl ?_
  refine hz_aload_n (pc := 52) C dX2_reset_52 rfl ?_
  refine hz_getP (pc := 53) C (v := 19) ffX2_33 dX2_reset_53 hT12 (by decide) rfl zzp7 (by decide) ?_
  refine hz_iconst (pc := 56) C (v := nI 0) dX2_reset_56 (by decide +kernel) ?_
  refine hz_putI (pc := 57) C (M' := (hz_up (hz_up (hz_up (hz_up (hz_up (hz_up (hz_sa I 13 (fun _ => (-1 : Int32))) 12 9 (nI 0)) 12 10 (nI 0)) 12 11 (nI 0)) 12 12 (nI 0)) 19 1 (nI 0)) 19 2 (nI 0), L, P)) ffX2_83 dX2_reset_57 hT19 (by decide) rfl rfl ⟨rfl, rfl⟩ rfl ?_
  refine hz_aload_n (pc := 60) C dX2_reset_60 rfl ?_
  refine hz_getP (pc := 61) C (v := 19) ffX2_33 dX2_reset_61 hT12 (by decide) rfl zzp7 (by decide) ?_
  refine hz_iconst (pc := 64) C (v := nI 3) dX2_reset_64 (by decide +kernel) ?_
  refine hz_putI (pc := 65) C (M' := (hz_up (hz_up (hz_up (hz_up (hz_up (hz_up (hz_up (hz_sa I 13 (fun _ => (-1 : Int32))) 12 9 (nI 0)) 12 10 (nI 0)) 12 11 (nI 0)) 12 12 (nI 0)) 19 1 (nI 0)) 19 2 (nI 0)) 19 3 (nI 3), L, P)) ffX2_86 dX2_reset_65 hT19 (by decide) rfl rfl ⟨rfl, rfl⟩ rfl ?_
  refine hz_aload_n (pc := 68) C dX2_reset_68 rfl ?_
  refine hz_getP (pc := 69) C (v := 19) ffX2_33 dX2_reset_69 hT12 (by decide) rfl zzp7 (by decide) ?_
  refine hz_iconst (pc := 72) C (v := nI 0) dX2_reset_72 (by decide +kernel) ?_
  refine hz_putI (pc := 73) C (M' := (hz_up (hz_up (hz_up (hz_up (hz_up (hz_up (hz_up (hz_up (hz_sa I 13 (fun _ => (-1 : Int32))) 12 9 (nI 0)) 12 10 (nI 0)) 12 11 (nI 0)) 12 12 (nI 0)) 19 1 (nI 0)) 19 2 (nI 0)) 19 3 (nI 3)) 19 4 (nI 0), L, P)) ffX2_89 dX2_reset_73 hT19 (by decide) rfl rfl ⟨rfl, rfl⟩ rfl ?_
  exact hz_vret C Z rfl dX2_reset_76 rfl
set_option maxHeartbeats 4000000 in
set_option maxRecDepth 100000 in
theorem lp_rsG45 {X : hz_X} (C : hz_C X mX2_reset) {I : Nat → Nat → Int32} {L : Nat → Nat → Int64} {P : Nat → Nat → Nat} (zzp1 : P 45 1 = 46) (zzp7 : P 45 7 = 52) (kk : ∀ f : Nat → Int32, (∀ j, j < 64 → f j = (-1 : Int32)) → hz_G X TT 77 (hz_sa I 46 f, L, P) 0 0 24 [some (.ref 45), some (.int (nI 64))] []) : ∀ (n i : Nat) (f : Nat → Int32), i + n = 64 → (∀ j, j < i → f j = (-1 : Int32)) → hz_G X TT 77 (hz_sa I 46 f, L, P) 0 0 2 [some (.ref 45), some (.int (nI i))] [] := by
  intro n
  induction n with
  | zero =>
    intro i f hi hf
    obtain rfl : i = 64 := by omega
    refine hz_iload_n (pc := 2) C dX2_reset_2 rfl ?_
    refine hz_aload_n (pc := 3) C dX2_reset_3 rfl ?_
    refine hz_getP (pc := 4) C (v := 46) ffX2_9 dX2_reset_4 hT45 (by decide) rfl zzp1 (by decide) ?_
    refine hz_alen (pc := 7) C (v := nI 64) dX2_reset_7 hT46 ⟨by decide, by decide⟩ (by decide) rfl ?_
    refine hz_ic_ge (pc := 8) C (tgt := 24) dX2_reset_8 rfl (fun _ => ?_) (fun cq => absurd (nI_le (by omega) (by omega)) cq)
    exact kk f hf
  | succ n ih =>
    intro i f hi hf
    refine hz_iload_n (pc := 2) C dX2_reset_2 rfl ?_
    refine hz_aload_n (pc := 3) C dX2_reset_3 rfl ?_
    refine hz_getP (pc := 4) C (v := 46) ffX2_9 dX2_reset_4 hT45 (by decide) rfl zzp1 (by decide) ?_
    refine hz_alen (pc := 7) C (v := nI 64) dX2_reset_7 hT46 ⟨by decide, by decide⟩ (by decide) rfl ?_
    refine hz_ic_ge (pc := 8) C (tgt := 24) dX2_reset_8 rfl (fun cq => absurd cq (nI_ge (by omega) (by omega))) (fun _ => ?_)
    refine hz_aload_n (pc := 11) C dX2_reset_11 rfl ?_
    refine hz_getP (pc := 12) C (v := 46) ffX2_9 dX2_reset_12 hT45 (by decide) rfl zzp1 (by decide) ?_
    refine hz_iload_n (pc := 15) C dX2_reset_15 rfl ?_
    refine hz_iconst (pc := 16) C (v := (-1 : Int32)) dX2_reset_16 (by decide +kernel) ?_
    refine hz_iast (pc := 17) C (v := (-1 : Int32)) (j := i) (M' := (hz_sa I 46 (va_up f i (-1 : Int32)), L, P)) dX2_reset_17 hT46 (by decide) rfl (by omega) (by decide) rfl (hz_sau _ _ _ _ _ _) ?_
    refine hz_iinc (pc := 18) C (v := nI (i + 1)) (ls' := [some (.ref 45), some (.int (nI (i + 1)))]) dX2_reset_18 rfl (nI_add _ 1) rfl ?_
    refine hz_goto (pc := 21) C (tgt := 2) dX2_reset_21 rfl ?_
    exact ih (i + 1) _ (by omega) (hz_upl (fun j y => y = (-1 : Int32)) hf rfl)
set_option maxHeartbeats 4000000 in
set_option maxRecDepth 100000 in
theorem ev_rsG45 {I : Nat → Nat → Int32} {L : Nat → Nat → Int64} {P : Nat → Nat → Nat} (zzp1 : P 45 1 = 46) (zzp7 : P 45 7 = 52) : hz_Ev mX2_reset TT 77 (I, L, P) [.ref 45] 0 0 none TT 77 (rsI 45 I, L, P) := by
  refine hz_Ev.intro (ls := [some (.ref 45), none]) (by decide +kernel) rfl (Nat.le_of_ble_eq_true rfl) (fun X C Z _ => ?_)
  refine hz_iconst (pc := 0) C (v := nI 0) dX2_reset_0 (by decide +kernel) ?_
  refine hz_istore_n (pc := 1) C (ls' := [some (.ref 45), some (.int (nI 0))]) dX2_reset_1 (Nat.le_of_ble_eq_true rfl) rfl ?_
  refine Eq.mpr (by rw [hz_sa_id]) (?_ : hz_G X TT 77 (hz_sa I 46 (I 46), L, P) 0 0 2 [some (.ref 45), some (.int (nI 0))] [])
  refine lp_rsG45 C zzp1 zzp7 (fun f hf => ?_) 64 0 (I 46) (by omega) (fun j h => absurd h (Nat.not_lt_zero _))
  refine hz_cong (hz_sm_sa (g := fun _ => (-1 : Int32)) hT46 (by decide) (by decide) hf) ?_
  refine hz_aload_n (pc := 24) C dX2_reset_24 rfl ?_
  refine hz_iconst (pc := 25) C (v := nI 0) dX2_reset_25 (by decide +kernel) ?_
  refine hz_putI (pc := 26) C (M' := (hz_up (hz_sa I 46 (fun _ => (-1 : Int32))) 45 9 (nI 0), L, P)) ffX2_66 dX2_reset_26 hT45 (by decide) rfl rfl ⟨by decide +kernel, by decide +kernel⟩ rfl ?_
  refine hz_aload_n (pc := 29) C dX2_reset_29 rfl ?_
  refine hz_iconst (pc := 30) C (v := nI 0) dX2_reset_30 (by decide +kernel) ?_
  refine hz_putI (pc := 31) C (M' := (hz_up (hz_up (hz_sa I 46 (fun _ => (-1 : Int32))) 45 9 (nI 0)) 45 10 (nI 0), L, P)) ffX2_70 dX2_reset_31 hT45 (by decide) rfl rfl ⟨rfl, rfl⟩ rfl ?_
  refine hz_aload_n (pc := 34) C dX2_reset_34 rfl ?_
  refine hz_iconst (pc := 35) C (v := nI 0) dX2_reset_35 (by decide +kernel) ?_
  refine hz_putI (pc := 36) C (M' := (hz_up (hz_up (hz_up (hz_sa I 46 (fun _ => (-1 : Int32))) 45 9 (nI 0)) 45 10 (nI 0)) 45 11 (nI 0), L, P)) ffX2_74 dX2_reset_36 hT45 (by decide) rfl rfl ⟨rfl, rfl⟩ rfl ?_
  refine hz_aload_n (pc := 39) C dX2_reset_39 rfl ?_
  refine hz_iconst (pc := 40) C (v := nI 0) dX2_reset_40 (by decide +kernel) ?_
  refine hz_putI (pc := 41) C (M' := (hz_up (hz_up (hz_up (hz_up (hz_sa I 46 (fun _ => (-1 : Int32))) 45 9 (nI 0)) 45 10 (nI 0)) 45 11 (nI 0)) 45 12 (nI 0), L, P)) ffX2_77 dX2_reset_41 hT45 (by decide) rfl rfl ⟨rfl, rfl⟩ rfl ?_
  refine hz_aload_n (pc := 44) C dX2_reset_44 rfl ?_
  refine hz_getP (pc := 45) C (v := 52) ffX2_33 dX2_reset_45 hT45 (by decide) rfl zzp7 (by decide) ?_
  refine hz_iconst (pc := 48) C (v := nI 0) dX2_reset_48 (by decide +kernel) ?_
  refine hz_putI (pc := 49) C (M' := (hz_up (hz_up (hz_up (hz_up (hz_up (hz_sa I 46 (fun _ => (-1 : Int32))) 45 9 (nI 0)) 45 10 (nI 0)) 45 11 (nI 0)) 45 12 (nI 0)) 52 1 (nI 0), L, P)) ffX2_80 dX2_reset_49 hT52 (by decide) rfl rfl ⟨rfl, rfl⟩ rfl ?_
  refine hz_aload_n (pc := 52) C dX2_reset_52 rfl ?_
  refine hz_getP (pc := 53) C (v := 52) ffX2_33 dX2_reset_53 hT45 (by decide) rfl zzp7 (by decide) ?_
  refine hz_iconst (pc := 56) C (v := nI 0) dX2_reset_56 (by decide +kernel) ?_
  refine hz_putI (pc := 57) C (M' := (hz_up (hz_up (hz_up (hz_up (hz_up (hz_up (hz_sa I 46 (fun _ => (-1 : Int32))) 45 9 (nI 0)) 45 10 (nI 0)) 45 11 (nI 0)) 45 12 (nI 0)) 52 1 (nI 0)) 52 2 (nI 0), L, P)) ffX2_83 dX2_reset_57 hT52 (by decide) rfl rfl ⟨rfl, rfl⟩ rfl ?_
  refine hz_aload_n (pc := 60) C dX2_reset_60 rfl ?_
  refine hz_getP (pc := 61) C (v := 52) ffX2_33 dX2_reset_61 hT45 (by decide) rfl zzp7 (by decide) ?_
  refine hz_iconst (pc := 64) C (v := nI 3) dX2_reset_64 (by decide +kernel) ?_
  refine hz_putI (pc := 65) C (M' := (hz_up (hz_up (hz_up (hz_up (hz_up (hz_up (hz_up (hz_sa I 46 (fun _ => (-1 : Int32))) 45 9 (nI 0)) 45 10 (nI 0)) 45 11 (nI 0)) 45 12 (nI 0)) 52 1 (nI 0)) 52 2 (nI 0)) 52 3 (nI 3), L, P)) ffX2_86 dX2_reset_65 hT52 (by decide) rfl rfl ⟨rfl, rfl⟩ rfl ?_
  refine hz_aload_n (pc := 68) C dX2_reset_68 rfl ?_
  refine hz_getP (pc := 69) C (v := 52) ffX2_33 dX2_reset_69 hT45 (by decide) rfl zzp7 (by decide) ?_
  refine hz_iconst (pc := 72) C (v := nI 0) dX2_reset_72 (by decide +kernel) ?_
  refine hz_putI (pc := 73) C (M' := (hz_up (hz_up (hz_up (hz_up (hz_up (hz_up (hz_up (hz_up (hz_sa I 46 (fun _ => (-1 : Int32))) 45 9 (nI 0)) 45 10 (nI 0)) 45 11 (nI 0)) 45 12 (nI 0)) 52 1 (nI 0)) 52 2 (nI 0)) 52 3 (nI 3)) 52 4 (nI 0), L, P)) ffX2_89 dX2_reset_73 hT52 (by decide) rfl rfl ⟨rfl, rfl⟩ rfl ?_
  exact hz_vret C Z rfl dX2_reset_76 rfl
set_option maxHeartbeats 4000000 in
set_option maxRecDepth 100000 in
theorem lp_rsG79 {X : hz_X} (C : hz_C X mX2_reset) {I : Nat → Nat → Int32} {L : Nat → Nat → Int64} {P : Nat → Nat → Nat} (zzp1 : P 79 1 = 80) (zzp7 : P 79 7 = 86) (kk : ∀ f : Nat → Int32, (∀ j, j < 64 → f j = (-1 : Int32)) → hz_G X TT 111 (hz_sa I 80 f, L, P) 0 0 24 [some (.ref 79), some (.int (nI 64))] []) : ∀ (n i : Nat) (f : Nat → Int32), i + n = 64 → (∀ j, j < i → f j = (-1 : Int32)) → hz_G X TT 111 (hz_sa I 80 f, L, P) 0 0 2 [some (.ref 79), some (.int (nI i))] [] := by
  intro n
  induction n with
  | zero =>
    intro i f hi hf
    obtain rfl : i = 64 := by omega
    refine hz_iload_n (pc := 2) C dX2_reset_2 rfl ?_
    refine hz_aload_n (pc := 3) C dX2_reset_3 rfl ?_
    refine hz_getP (pc := 4) C (v := 80) ffX2_9 dX2_reset_4 hT79 (by decide) rfl zzp1 (by decide) ?_
    refine hz_alen (pc := 7) C (v := nI 64) dX2_reset_7 hT80 ⟨by decide, by decide⟩ (by decide) rfl ?_
    refine hz_ic_ge (pc := 8) C (tgt := 24) dX2_reset_8 rfl (fun _ => ?_) (fun cq => absurd (nI_le (by omega) (by omega)) cq)
    exact kk f hf
  | succ n ih =>
    intro i f hi hf
    refine hz_iload_n (pc := 2) C dX2_reset_2 rfl ?_
    refine hz_aload_n (pc := 3) C dX2_reset_3 rfl ?_
    refine hz_getP (pc := 4) C (v := 80) ffX2_9 dX2_reset_4 hT79 (by decide) rfl zzp1 (by decide) ?_
    refine hz_alen (pc := 7) C (v := nI 64) dX2_reset_7 hT80 ⟨by decide, by decide⟩ (by decide) rfl ?_
    refine hz_ic_ge (pc := 8) C (tgt := 24) dX2_reset_8 rfl (fun cq => absurd cq (nI_ge (by omega) (by omega))) (fun _ => ?_)
    refine hz_aload_n (pc := 11) C dX2_reset_11 rfl ?_
    refine hz_getP (pc := 12) C (v := 80) ffX2_9 dX2_reset_12 hT79 (by decide) rfl zzp1 (by decide) ?_
    refine hz_iload_n (pc := 15) C dX2_reset_15 rfl ?_
    refine hz_iconst (pc := 16) C (v := (-1 : Int32)) dX2_reset_16 (by decide +kernel) ?_
    refine hz_iast (pc := 17) C (v := (-1 : Int32)) (j := i) (M' := (hz_sa I 80 (va_up f i (-1 : Int32)), L, P)) dX2_reset_17 hT80 (by decide) rfl (by omega) (by decide) rfl (hz_sau _ _ _ _ _ _) ?_
    refine hz_iinc (pc := 18) C (v := nI (i + 1)) (ls' := [some (.ref 79), some (.int (nI (i + 1)))]) dX2_reset_18 rfl (nI_add _ 1) rfl ?_
    refine hz_goto (pc := 21) C (tgt := 2) dX2_reset_21 rfl ?_
    exact ih (i + 1) _ (by omega) (hz_upl (fun j y => y = (-1 : Int32)) hf rfl)
set_option maxHeartbeats 4000000 in
set_option maxRecDepth 100000 in
theorem ev_rsG79 {I : Nat → Nat → Int32} {L : Nat → Nat → Int64} {P : Nat → Nat → Nat} (zzp1 : P 79 1 = 80) (zzp7 : P 79 7 = 86) : hz_Ev mX2_reset TT 111 (I, L, P) [.ref 79] 0 0 none TT 111 (rsI 79 I, L, P) := by
  refine hz_Ev.intro (ls := [some (.ref 79), none]) (by decide +kernel) rfl (Nat.le_of_ble_eq_true rfl) (fun X C Z _ => ?_)
  refine hz_iconst (pc := 0) C (v := nI 0) dX2_reset_0 (by decide +kernel) ?_
  refine hz_istore_n (pc := 1) C (ls' := [some (.ref 79), some (.int (nI 0))]) dX2_reset_1 (Nat.le_of_ble_eq_true rfl) rfl ?_
  refine Eq.mpr (by rw [hz_sa_id]) (?_ : hz_G X TT 111 (hz_sa I 80 (I 80), L, P) 0 0 2 [some (.ref 79), some (.int (nI 0))] [])
  refine lp_rsG79 C zzp1 zzp7 (fun f hf => ?_) 64 0 (I 80) (by omega) (fun j h => absurd h (Nat.not_lt_zero _))
  refine hz_cong (hz_sm_sa (g := fun _ => (-1 : Int32)) hT80 (by decide) (by decide) hf) ?_
  refine hz_aload_n (pc := 24) C dX2_reset_24 rfl ?_
  refine hz_iconst (pc := 25) C (v := nI 0) dX2_reset_25 (by decide +kernel) ?_
  refine hz_putI (pc := 26) C (M' := (hz_up (hz_sa I 80 (fun _ => (-1 : Int32))) 79 9 (nI 0), L, P)) ffX2_66 dX2_reset_26 hT79 (by decide) rfl rfl ⟨by decide +kernel, by decide +kernel⟩ rfl ?_
  refine hz_aload_n (pc := 29) C dX2_reset_29 rfl ?_
  refine hz_iconst (pc := 30) C (v := nI 0) dX2_reset_30 (by decide +kernel) ?_
  refine hz_putI (pc := 31) C (M' := (hz_up (hz_up (hz_sa I 80 (fun _ => (-1 : Int32))) 79 9 (nI 0)) 79 10 (nI 0), L, P)) ffX2_70 dX2_reset_31 hT79 (by decide) rfl rfl ⟨rfl, rfl⟩ rfl ?_
  refine hz_aload_n (pc := 34) C dX2_reset_34 rfl ?_
  refine hz_iconst (pc := 35) C (v := nI 0) dX2_reset_35 (by decide +kernel) ?_
  refine hz_putI (pc := 36) C (M' := (hz_up (hz_up (hz_up (hz_sa I 80 (fun _ => (-1 : Int32))) 79 9 (nI 0)) 79 10 (nI 0)) 79 11 (nI 0), L, P)) ffX2_74 dX2_reset_36 hT79 (by decide) rfl rfl ⟨rfl, rfl⟩ rfl ?_
  refine hz_aload_n (pc := 39) C dX2_reset_39 rfl ?_
  refine hz_iconst (pc := 40) C (v := nI 0) dX2_reset_40 (by decide +kernel) ?_
  refine hz_putI (pc := 41) C (M' := (hz_up (hz_up (hz_up (hz_up (hz_sa I 80 (fun _ => (-1 : Int32))) 79 9 (nI 0)) 79 10 (nI 0)) 79 11 (nI 0)) 79 12 (nI 0), L, P)) ffX2_77 dX2_reset_41 hT79 (by decide) rfl rfl ⟨rfl, rfl⟩ rfl ?_
  refine hz_aload_n (pc := 44) C dX2_reset_44 rfl ?_
  refine hz_getP (pc := 45) C (v := 86) ffX2_33 dX2_reset_45 hT79 (by decide) rfl zzp7 (by decide) ?_
  refine hz_iconst (pc := 48) C (v := nI 0) dX2_reset_48 (by decide +kernel) ?_
  refine hz_putI (pc := 49) C (M' := (hz_up (hz_up (hz_up (hz_up (hz_up (hz_sa I 80 (fun _ => (-1 : Int32))) 79 9 (nI 0)) 79 10 (nI 0)) 79 11 (nI 0)) 79 12 (nI 0)) 86 1 (nI 0), L, P)) ffX2_80 dX2_reset_49 hT86 (by decide) rfl rfl ⟨rfl, rfl⟩ rfl ?_
  refine hz_aload_n (pc := 52) C dX2_reset_52 rfl ?_
  refine hz_getP (pc := 53) C (v := 86) ffX2_33 dX2_reset_53 hT79 (by decide) rfl zzp7 (by decide) ?_
  refine hz_iconst (pc := 56) C (v := nI 0) dX2_reset_56 (by decide +kernel) ?_
  refine hz_putI (pc := 57) C (M' := (hz_up (hz_up (hz_up (hz_up (hz_up (hz_up (hz_sa I 80 (fun _ => (-1 : Int32))) 79 9 (nI 0)) 79 10 (nI 0)) 79 11 (nI 0)) 79 12 (nI 0)) 86 1 (nI 0)) 86 2 (nI 0), L, P)) ffX2_83 dX2_reset_57 hT86 (by decide) rfl rfl ⟨rfl, rfl⟩ rfl ?_
  refine hz_aload_n (pc := 60) C dX2_reset_60 rfl ?_
  refine hz_getP (pc := 61) C (v := 86) ffX2_33 dX2_reset_61 hT79 (by decide) rfl zzp7 (by decide) ?_
  refine hz_iconst (pc := 64) C (v := nI 3) dX2_reset_64 (by decide +kernel) ?_
  refine hz_putI (pc := 65) C (M' := (hz_up (hz_up (hz_up (hz_up (hz_up (hz_up (hz_up (hz_sa I 80 (fun _ => (-1 : Int32))) 79 9 (nI 0)) 79 10 (nI 0)) 79 11 (nI 0)) 79 12 (nI 0)) 86 1 (nI 0)) 86 2 (nI 0)) 86 3 (nI 3), L, P)) ffX2_86 dX2_reset_65 hT86 (by decide) rfl rfl ⟨rfl, rfl⟩ rfl ?_
  refine hz_aload_n (pc := 68) C dX2_reset_68 rfl ?_
  refine hz_getP (pc := 69) C (v := 86) ffX2_33 dX2_reset_69 hT79 (by decide) rfl zzp7 (by decide) ?_
  refine hz_iconst (pc := 72) C (v := nI 0) dX2_reset_72 (by decide +kernel) ?_
  refine hz_putI (pc := 73) C (M' := (hz_up (hz_up (hz_up (hz_up (hz_up (hz_up (hz_up (hz_up (hz_sa I 80 (fun _ => (-1 : Int32))) 79 9 (nI 0)) 79 10 (nI 0)) 79 11 (nI 0)) 79 12 (nI 0)) 86 1 (nI 0)) 86 2 (nI 0)) 86 3 (nI 3)) 86 4 (nI 0), L, P)) ffX2_89 dX2_reset_73 hT86 (by decide) rfl rfl ⟨rfl, rfl⟩ rfl ?_
  exact hz_vret C Z rfl dX2_reset_76 rfl
set_option maxHeartbeats 4000000 in
set_option maxRecDepth 100000 in
theorem lp_rsG112 {X : hz_X} (C : hz_C X mX2_reset) {I : Nat → Nat → Int32} {L : Nat → Nat → Int64} {P : Nat → Nat → Nat} (zzp1 : P 112 1 = 113) (zzp7 : P 112 7 = 119) (kk : ∀ f : Nat → Int32, (∀ j, j < 64 → f j = (-1 : Int32)) → hz_G X TT 144 (hz_sa I 113 f, L, P) 0 0 24 [some (.ref 112), some (.int (nI 64))] []) : ∀ (n i : Nat) (f : Nat → Int32), i + n = 64 → (∀ j, j < i → f j = (-1 : Int32)) → hz_G X TT 144 (hz_sa I 113 f, L, P) 0 0 2 [some (.ref 112), some (.int (nI i))] [] := by
  intro n
  induction n with
  | zero =>
    intro i f hi hf
    obtain rfl : i = 64 := by omega
    refine hz_iload_n (pc := 2) C dX2_reset_2 rfl ?_
    refine hz_aload_n (pc := 3) C dX2_reset_3 rfl ?_
    refine hz_getP (pc := 4) C (v := 113) ffX2_9 dX2_reset_4 hT112 (by decide) rfl zzp1 (by decide) ?_
    refine hz_alen (pc := 7) C (v := nI 64) dX2_reset_7 hT113 ⟨by decide, by decide⟩ (by decide) rfl ?_
    refine hz_ic_ge (pc := 8) C (tgt := 24) dX2_reset_8 rfl (fun _ => ?_) (fun cq => absurd (nI_le (by omega) (by omega)) cq)
    exact kk f hf
  | succ n ih =>
    intro i f hi hf
    refine hz_iload_n (pc := 2) C dX2_reset_2 rfl ?_
    refine hz_aload_n (pc := 3) C dX2_reset_3 rfl ?_
    refine hz_getP (pc := 4) C (v := 113) ffX2_9 dX2_reset_4 hT112 (by decide) rfl zzp1 (by decide) ?_
    refine hz_alen (pc := 7) C (v := nI 64) dX2_reset_7 hT113 ⟨by decide, by decide⟩ (by decide) rfl ?_
    refine hz_ic_ge (pc := 8) C (tgt := 24) dX2_reset_8 rfl (fun cq => absurd cq (nI_ge (by omega) (by omega))) (fun _ => ?_)
    refine hz_aload_n (pc := 11) C dX2_reset_11 rfl ?_
    refine hz_getP (pc := 12) C (v := 113) ffX2_9 dX2_reset_12 hT112 (by decide) rfl zzp1 (by decide) ?_
    refine hz_iload_n (pc := 15) C dX2_reset_15 rfl ?_
    refine hz_iconst (pc := 16) C (v := (-1 : Int32)) dX2_reset_16 (by decide +kernel) ?_
    refine hz_iast (pc := 17) C (v := (-1 : Int32)) (j := i) (M' := (hz_sa I 113 (va_up f i (-1 : Int32)), L, P)) dX2_reset_17 hT113 (by decide) rfl (by omega) (by decide) rfl (hz_sau _ _ _ _ _ _) ?_
    refine hz_iinc (pc := 18) C (v := nI (i + 1)) (ls' := [some (.ref 112), some (.int (nI (i + 1)))]) dX2_reset_18 rfl (nI_add _ 1) rfl ?_
    refine hz_goto (pc := 21) C (tgt := 2) dX2_reset_21 rfl ?_
    exact ih (i + 1) _ (by omega) (hz_upl (fun j y => y = (-1 : Int32)) hf rfl)
set_option maxHeartbeats 4000000 in
set_option maxRecDepth 100000 in
theorem ev_rsG112 {I : Nat → Nat → Int32} {L : Nat → Nat → Int64} {P : Nat → Nat → Nat} (zzp1 : P 112 1 = 113) (zzp7 : P 112 7 = 119) : hz_Ev mX2_reset TT 144 (I, L, P) [.ref 112] 0 0 none TT 144 (rsI 112 I, L, P) := by
  refine hz_Ev.intro (ls := [some (.ref 112), none]) (by decide +kernel) rfl (Nat.le_of_ble_eq_true rfl) (fun X C Z _ => ?_)
  refine hz_iconst (pc := 0) C (v := nI 0) dX2_reset_0 (by decide +kernel) ?_
  refine hz_istore_n (pc := 1) C (ls' := [some (.ref 112), some (.int (nI 0))]) dX2_reset_1 (Nat.le_of_ble_eq_true rfl) rfl ?_
  refine Eq.mpr (by rw [hz_sa_id]) (?_ : hz_G X TT 144 (hz_sa I 113 (I 113), L, P) 0 0 2 [some (.ref 112), some (.int (nI 0))] [])
  refine lp_rsG112 C zzp1 zzp7 (fun f hf => ?_) 64 0 (I 113) (by omega) (fun j h => absurd h (Nat.not_lt_zero _))
  refine hz_cong (hz_sm_sa (g := fun _ => (-1 : Int32)) hT113 (by decide) (by decide) hf) ?_
  refine hz_aload_n (pc := 24) C dX2_reset_24 rfl ?_
  refine hz_iconst (pc := 25) C (v := nI 0) dX2_reset_25 (by decide +kernel) ?_
  refine hz_putI (pc := 26) C (M' := (hz_up (hz_sa I 113 (fun _ => (-1 : Int32))) 112 9 (nI 0), L, P)) ffX2_66 dX2_reset_26 hT112 (by decide) rfl rfl ⟨by decide +kernel, by decide +kernel⟩ rfl ?_
  refine hz_aload_n (pc := 29) C dX2_reset_29 rfl ?_
  refine hz_iconst (pc := 30) C (v := nI 0) dX2_reset_30 (by decide +kernel) ?_
  refine hz_putI (pc := 31) C (M' := (hz_up (hz_up (hz_sa I 113 (fun _ => (-1 : Int32))) 112 9 (nI 0)) 112 10 (nI 0), L, P)) ffX2_70 dX2_reset_31 hT112 (by decide) rfl rfl ⟨rfl, rfl⟩ rfl ?_
  refine hz_aload_n (pc := 34) C dX2_reset_34 rfl ?_
  refine hz_iconst (pc := 35) C (v := nI 0) dX2_reset_35 (by decide +kernel) ?_
  refine hz_putI (pc := 36) C (M' := (hz_up (hz_up (hz_up (hz_sa I 113 (fun _ => (-1 : Int32))) 112 9 (nI 0)) 112 10 (nI 0)) 112 11 (nI 0), L, P)) ffX2_74 dX2_reset_36 hT112 (by decide) rfl rfl ⟨rfl, rfl⟩ rfl ?_
  refine hz_aload_n (pc := 39) C dX2_reset_39 rfl ?_
  refine hz_iconst (pc := 40) C (v := nI 0) dX2_reset_40 (by decide +kernel) ?_
  refine hz_putI (pc := 41) C (M' := (hz_up (hz_up (hz_up (hz_up (hz_sa I 113 (fun _ => (-1 : Int32))) 112 9 (nI 0)) 112 10 (nI 0)) 112 11 (nI 0)) 112 12 (nI 0), L, P)) ffX2_77 dX2_reset_41 hT112 (by decide) rfl rfl ⟨rfl, rfl⟩ rfl ?_
  refine hz_aload_n (pc := 44) C dX2_reset_44 rfl ?_
  refine hz_getP (pc := 45) C (v := 119) ffX2_33 dX2_reset_45 hT112 (by decide) rfl zzp7 (by decide) ?_
  refine hz_iconst (pc := 48) C (v := nI 0) dX2_reset_48 (by decide +kernel) ?_
  refine hz_putI (pc := 49) C (M' := (hz_up (hz_up (hz_up (hz_up (hz_up (hz_sa I 113 (fun _ => (-1 : Int32))) 112 9 (nI 0)) 112 10 (nI 0)) 112 11 (nI 0)) 112 12 (nI 0)) 119 1 (nI 0), L, P)) ffX2_80 dX2_reset_49 hT119 (by decide) rfl rfl ⟨rfl, rfl⟩ rfl ?_
  refine hz_aload_n (pc := 52) C dX2_reset_52 rfl ?_
  refine hz_getP (pc := 53) C (v := 119) ffX2_33 dX2_reset_53 hT112 (by decide) rfl zzp7 (by decide) ?_
  refine hz_iconst (pc := 56) C (v := nI 0) dX2_reset_56 (by decide +kernel) ?_
  refine hz_putI (pc := 57) C (M' := (hz_up (hz_up (hz_up (hz_up (hz_up (hz_up (hz_sa I 113 (fun _ => (-1 : Int32))) 112 9 (nI 0)) 112 10 (nI 0)) 112 11 (nI 0)) 112 12 (nI 0)) 119 1 (nI 0)) 119 2 (nI 0), L, P)) ffX2_83 dX2_reset_57 hT119 (by decide) rfl rfl ⟨rfl, rfl⟩ rfl ?_
  refine hz_aload_n (pc := 60) C dX2_reset_60 rfl ?_
  refine hz_getP (pc := 61) C (v := 119) ffX2_33 dX2_reset_61 hT112 (by decide) rfl zzp7 (by decide) ?_
  refine hz_iconst (pc := 64) C (v := nI 3) dX2_reset_64 (by decide +kernel) ?_
  refine hz_putI (pc := 65) C (M' := (hz_up (hz_up (hz_up (hz_up (hz_up (hz_up (hz_up (hz_sa I 113 (fun _ => (-1 : Int32))) 112 9 (nI 0)) 112 10 (nI 0)) 112 11 (nI 0)) 112 12 (nI 0)) 119 1 (nI 0)) 119 2 (nI 0)) 119 3 (nI 3), L, P)) ffX2_86 dX2_reset_65 hT119 (by decide) rfl rfl ⟨rfl, rfl⟩ rfl ?_
  refine hz_aload_n (pc := 68) C dX2_reset_68 rfl ?_
  refine hz_getP (pc := 69) C (v := 119) ffX2_33 dX2_reset_69 hT112 (by decide) rfl zzp7 (by decide) ?_
  refine hz_iconst (pc := 72) C (v := nI 0) dX2_reset_72 (by decide +kernel) ?_
  refine hz_putI (pc := 73) C (M' := (hz_up (hz_up (hz_up (hz_up (hz_up (hz_up (hz_up (hz_up (hz_sa I 113 (fun _ => (-1 : Int32))) 112 9 (nI 0)) 112 10 (nI 0)) 112 11 (nI 0)) 112 12 (nI 0)) 119 1 (nI 0)) 119 2 (nI 0)) 119 3 (nI 3)) 119 4 (nI 0), L, P)) ffX2_89 dX2_reset_73 hT119 (by decide) rfl rfl ⟨rfl, rfl⟩ rfl ?_
  exact hz_vret C Z rfl dX2_reset_76 rfl

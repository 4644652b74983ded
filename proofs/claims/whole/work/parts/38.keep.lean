set_option maxHeartbeats 4000000 in
set_option maxRecDepth 100000 in
theorem ev_keepBack {I : Nat → Nat → Int32} {L : Nat → Nat → Int64} {q : Nat → Nat → Nat} {n : Nat} (hn : I 147 100 = nI n) (hn8 : n < 8) : hz_Ev mX11_keepBack TT NN (I, L, PP q) [.ref 146] 0 0 none TT NN (hz_sa I 147 (va_up (va_cpy (I 147) (I 147) 90 (101 + (10 * n)) 10) 100 (nI (n + 1))), L, PP q) := by
  refine hz_Ev.intro (ls := [some (.ref 146), none]) (by decide +kernel) rfl (Nat.le_of_ble_eq_true rfl) (fun X C Z _ => ?_)
  refine hz_aload_n (pc := 0) C dX11_keepBack_0 rfl ?_
  refine hz_getP (pc := 1) C (v := 147) ffX11_7 dX11_keepBack_1 hT146 hA146 rfl (hP146_0 q) (by decide) ?_
  refine hz_bipush (pc := 4) C (v := nI 100) dX11_keepBack_4 (by decide +kernel) ?_
  refine hz_iald (pc := 6) C (v := nI n) (j := 100) dX11_keepBack_6 hT147 hA147 rfl (by decide) (by decide) hn ?_
  refine hz_bipush (pc := 7) C (v := nI 8) dX11_keepBack_7 (by decide +kernel) ?_
  refine hz_ic_ne (pc := 9) C (tgt := 55) dX11_keepBack_9 rfl (fun _ => ?_) (fun cq => absurd ((nI_eq (by omega) (by omega)).mp cq) (by omega))
  refine hz_aload_n (pc := 55) C dX11_keepBack_55 rfl ?_
  refine hz_getP (pc := 56) C (v := 147) ffX11_7 dX11_keepBack_56 hT146 hA146 rfl (hP146_0 q) (by decide) ?_
  refine hz_bipush (pc := 59) C (v := nI 90) dX11_keepBack_59 (by decide +kernel) ?_
  refine hz_aload_n (pc := 61) C dX11_keepBack_61 rfl ?_
  refine hz_getP (pc := 62) C (v := 147) ffX11_7 dX11_keepBack_62 hT146 hA146 rfl (hP146_0 q) (by decide) ?_
  refine hz_bipush (pc := 65) C (v := nI 101) dX11_keepBack_65 (by decide +kernel) ?_
  refine hz_bipush (pc := 67) C (v := nI 10) dX11_keepBack_67 (by decide +kernel) ?_
  refine hz_aload_n (pc := 69) C dX11_keepBack_69 rfl ?_
  refine hz_getP (pc := 70) C (v := 147) ffX11_7 dX11_keepBack_70 hT146 hA146 rfl (hP146_0 q) (by decide) ?_
  refine hz_bipush (pc := 73) C (v := nI 100) dX11_keepBack_73 (by decide +kernel) ?_
  refine hz_iald (pc := 75) C (v := nI n) (j := 100) dX11_keepBack_75 hT147 hA147 rfl (by decide) (by decide) hn ?_
  refine hz_imul (pc := 76) C (v := nI (10 * n)) dX11_keepBack_76 (pk_mul _ _) ?_
  refine hz_iadd (pc := 77) C (v := nI (101 + (10 * n))) dX11_keepBack_77 (nI_add _ _) ?_
  refine hz_bipush (pc := 78) C (v := nI 10) dX11_keepBack_78 (by decide +kernel) ?_
  refine hz_callSv (pc := 80) C (as := [.ref 147, .int (nI 90), .ref 147, .int (nI (101 + (10 * n))), .int (nI 10)]) (st := []) (ev_bring147_147 (i := 90) (j := 101 + (10 * n)) (m := 10) (by omega) (by omega) (by omega)) (hz_new0 _ _) fyX11_bring fsX11_135 rfl dX11_keepBack_80 rfl rfl (Nat.le_of_ble_eq_true rfl) (by decide) (hz_cap0 _) ?_
  refine hz_aload_n (pc := 83) C dX11_keepBack_83 rfl ?_
  refine hz_getP (pc := 84) C (v := 147) ffX11_7 dX11_keepBack_84 hT146 hA146 rfl (hP146_0 q) (by decide) ?_
  refine hz_bipush (pc := 87) C (v := nI 100) dX11_keepBack_87 (by decide +kernel) ?_
  refine hz_dup2 (pc := 89) C dX11_keepBack_89 rfl rfl ?_
  refine hz_iald (pc := 90) C (v := nI n) (j := 100) dX11_keepBack_90 hT147 hA147 rfl (by decide) (by decide) ((cpy_o (by omega)).trans hn) ?_
  refine hz_iconst (pc := 91) C (v := nI 1) dX11_keepBack_91 (by decide +kernel) ?_
  refine hz_iadd (pc := 92) C (v := nI (n + 1)) dX11_keepBack_92 (nI_add _ _) ?_
  refine hz_iast (pc := 93) C (v := nI (n + 1)) (j := 100) (M' := (hz_sa I 147 (va_up (va_cpy (I 147) (I 147) 90 (101 + (10 * n)) 10) 100 (nI (n + 1))), L, PP q)) dX11_keepBack_93 hT147 hA147 rfl (by decide) (by decide) rfl (hz_sau _ _ _ _ _ _) ?_
  exact hz_vret C Z rfl dX11_keepBack_94 rfl
set_option maxHeartbeats 4000000 in
set_option maxRecDepth 100000 in
theorem lp_kb {X : hz_X} (C : hz_C X mX11_keepBack) {I : Nat → Nat → Int32} {L : Nat → Nat → Int64} {q : Nat → Nat → Nat} (kk : hz_G X TT NN (hz_sa I 147 (va_cpy (I 147) (I 147) 111 101 70), L, PP q) 0 0 44 [some (.ref 146), some (.int (nI 70))] []) : ∀ (n i : Nat) , i + n = 70 → hz_G X TT NN (hz_sa I 147 (va_cpy (I 147) (I 147) 111 101 i), L, PP q) 0 0 14 [some (.ref 146), some (.int (nI i))] [] := by
  intro n
  induction n with
  | zero =>
    intro i  hi 
    obtain rfl : i = 70 := by omega
    refine hz_iload_n (pc := 14) C dX11_keepBack_14 rfl ?_
    refine hz_bipush (pc := 15) C (v := nI 70) dX11_keepBack_15 (by decide +kernel) ?_
    refine hz_ic_ge (pc := 17) C (tgt := 44) dX11_keepBack_17 rfl (fun _ => ?_) (fun cq => absurd (nI_le (by omega) (by omega)) cq)
    exact kk
  | succ n ih =>
    intro i  hi 
    refine hz_iload_n (pc := 14) C dX11_keepBack_14 rfl ?_
    refine hz_bipush (pc := 15) C (v := nI 70) dX11_keepBack_15 (by decide +kernel) ?_
    refine hz_ic_ge (pc := 17) C (tgt := 44) dX11_keepBack_17 rfl (fun cq => absurd cq (nI_ge (by omega) (by omega))) (fun _ => ?_)
    refine hz_aload_n (pc := 20) C dX11_keepBack_20 rfl ?_
    refine hz_getP (pc := 21) C (v := 147) ffX11_7 dX11_keepBack_21 hT146 hA146 rfl (hP146_0 q) (by decide) ?_
    refine hz_bipush (pc := 24) C (v := nI 101) dX11_keepBack_24 (by decide +kernel) ?_
    refine hz_iload_n (pc := 26) C dX11_keepBack_26 rfl ?_
    refine hz_iadd (pc := 27) C (v := nI (101 + i)) dX11_keepBack_27 (nI_add _ _) ?_
    refine hz_aload_n (pc := 28) C dX11_keepBack_28 rfl ?_
    refine hz_getP (pc := 29) C (v := 147) ffX11_7 dX11_keepBack_29 hT146 hA146 rfl (hP146_0 q) (by decide) ?_
    refine hz_bipush (pc := 32) C (v := nI 111) dX11_keepBack_32 (by decide +kernel) ?_
    refine hz_iload_n (pc := 34) C dX11_keepBack_34 rfl ?_
    refine hz_iadd (pc := 35) C (v := nI (111 + i)) dX11_keepBack_35 (nI_add _ _) ?_
    refine hz_iald (pc := 36) C (v := I 147 (111 + i)) (j := 111 + i) dX11_keepBack_36 hT147 hA147 rfl (by omega) (by decide) (cpy_o (by omega)) ?_
    refine hz_iast (pc := 37) C (v := I 147 (111 + i)) (j := 101 + i) (M' := (hz_sa I 147 (va_up (va_cpy (I 147) (I 147) 111 101 i) (101 + i) (I 147 (111 + i))), L, PP q)) dX11_keepBack_37 hT147 hA147 rfl (by omega) (by decide) rfl (hz_sau _ _ _ _ _ _) ?_
    refine hz_iinc (pc := 38) C (v := nI (i + 1)) (ls' := [some (.ref 146), some (.int (nI (i + 1)))]) dX11_keepBack_38 rfl (nI_add _ 1) rfl ?_
    refine hz_goto (pc := 41) C (tgt := 14) dX11_keepBack_41 rfl ?_
    have h9 := ih (i + 1) (by omega)
    rw [← cpy_s] at h9
    exact h9
theorem sa_at (I : Nat → Nat → Int32) (a : Nat) (f : Nat → Int32) : hz_sa I a f a = f := by simp [hz_sa]
theorem sa_rd {I : Nat → Nat → Int32} {a k : Nat} {f : Nat → Int32} {v : Int32} (h : f k = v) : hz_sa I a f a k = v := by rw [sa_at]; exact h
set_option maxHeartbeats 4000000 in
set_option maxRecDepth 100000 in
theorem ev_keepBack8 {I : Nat → Nat → Int32} {L : Nat → Nat → Int64} {q : Nat → Nat → Nat} (hn : I 147 100 = nI 8) : hz_Ev mX11_keepBack TT NN (I, L, PP q) [.ref 146] 0 0 none TT NN (hz_sa (hz_sa I 147 (va_up (va_cpy (I 147) (I 147) 111 101 70) 100 (nI 7))) 147 (va_up (va_cpy ((hz_sa I 147 (va_up (va_cpy (I 147) (I 147) 111 101 70) 100 (nI 7))) 147) ((hz_sa I 147 (va_up (va_cpy (I 147) (I 147) 111 101 70) 100 (nI 7))) 147) 90 171 10) 100 (nI 8)), L, PP q) := by
  refine hz_Ev.intro (ls := [some (.ref 146), none]) (by decide +kernel) rfl (Nat.le_of_ble_eq_true rfl) (fun X C Z _ => ?_)
  refine hz_aload_n (pc := 0) C dX11_keepBack_0 rfl ?_
  refine hz_getP (pc := 1) C (v := 147) ffX11_7 dX11_keepBack_1 hT146 hA146 rfl (hP146_0 q) (by decide) ?_
  refine hz_bipush (pc := 4) C (v := nI 100) dX11_keepBack_4 (by decide +kernel) ?_
  refine hz_iald (pc := 6) C (v := nI 8) (j := 100) dX11_keepBack_6 hT147 hA147 rfl (by decide) (by decide) hn ?_
  refine hz_bipush (pc := 7) C (v := nI 8) dX11_keepBack_7 (by decide +kernel) ?_
  refine hz_ic_ne (pc := 9) C (tgt := 55) dX11_keepBack_9 rfl (fun cq => absurd (by decide +kernel) cq) (fun _ => ?_)
  refine hz_iconst (pc := 12) C (v := nI 0) dX11_keepBack_12 (by decide +kernel) ?_
  refine hz_istore_n (pc := 13) C (ls' := [some (.ref 146), some (.int (nI 0))]) dX11_keepBack_13 (Nat.le_of_ble_eq_true rfl) rfl ?_
  refine Eq.mp (by rw [cpy_0, hz_sa_id]) (?_ : hz_G X TT NN (hz_sa I 147 (va_cpy (I 147) (I 147) 111 101 0), L, PP q) 0 0 14 [some (.ref 146), some (.int (nI 0))] [])
  refine lp_kb C ?_ 70 0 (by omega)
  refine hz_aload_n (pc := 44) C dX11_keepBack_44 rfl ?_
  refine hz_getP (pc := 45) C (v := 147) ffX11_7 dX11_keepBack_45 hT146 hA146 rfl (hP146_0 q) (by decide) ?_
  refine hz_bipush (pc := 48) C (v := nI 100) dX11_keepBack_48 (by decide +kernel) ?_
  refine hz_dup2 (pc := 50) C dX11_keepBack_50 rfl rfl ?_
  refine hz_iald (pc := 51) C (v := nI 8) (j := 100) dX11_keepBack_51 hT147 hA147 rfl (by decide) (by decide) (sa_rd (I := I) (a := 147) (f := va_cpy (I 147) (I 147) 111 101 70) ((cpy_o (by omega)).trans hn)) ?_
  refine hz_iconst (pc := 52) C (v := nI 1) dX11_keepBack_52 (by decide +kernel) ?_
  refine hz_isub (pc := 53) C (v := nI 7) dX11_keepBack_53 (by decide +kernel) ?_
  refine hz_iast (pc := 54) C (v := nI 7) (j := 100) (M' := (hz_sa I 147 (va_up (va_cpy (I 147) (I 147) 111 101 70) 100 (nI 7)), L, PP q)) dX11_keepBack_54 hT147 hA147 rfl (by decide) (by decide) rfl (hz_sau _ _ _ _ _ _) ?_
  refine hz_aload_n (pc := 55) C dX11_keepBack_55 rfl ?_
  refine hz_getP (pc := 56) C (v := 147) ffX11_7 dX11_keepBack_56 hT146 hA146 rfl (hP146_0 q) (by decide) ?_
  refine hz_bipush (pc := 59) C (v := nI 90) dX11_keepBack_59 (by decide +kernel) ?_
  refine hz_aload_n (pc := 61) C dX11_keepBack_61 rfl ?_
  refine hz_getP (pc := 62) C (v := 147) ffX11_7 dX11_keepBack_62 hT146 hA146 rfl (hP146_0 q) (by decide) ?_
  refine hz_bipush (pc := 65) C (v := nI 101) dX11_keepBack_65 (by decide +kernel) ?_
  refine hz_bipush (pc := 67) C (v := nI 10) dX11_keepBack_67 (by decide +kernel) ?_
  refine hz_aload_n (pc := 69) C dX11_keepBack_69 rfl ?_
  refine hz_getP (pc := 70) C (v := 147) ffX11_7 dX11_keepBack_70 hT146 hA146 rfl (hP146_0 q) (by decide) ?_
  refine hz_bipush (pc := 73) C (v := nI 100) dX11_keepBack_73 (by decide +kernel) ?_
  refine hz_iald (pc := 75) C (v := nI 7) (j := 100) dX11_keepBack_75 hT147 hA147 rfl (by decide) (by decide) (sa_rd (I := I) (a := 147) (f := va_up (va_cpy (I 147) (I 147) 111 101 70) 100 (nI 7)) (va_up_self _ _ _)) ?_
  refine hz_imul (pc := 76) C (v := nI 70) dX11_keepBack_76 (pk_mul _ _) ?_
  refine hz_iadd (pc := 77) C (v := nI 171) dX11_keepBack_77 (nI_add _ _) ?_
  refine hz_bipush (pc := 78) C (v := nI 10) dX11_keepBack_78 (by decide +kernel) ?_
  refine hz_callSv (pc := 80) C (as := [.ref 147, .int (nI 90), .ref 147, .int (nI 171), .int (nI 10)]) (st := []) (ev_bring147_147 (i := 90) (j := 171) (m := 10) (by omega) (by omega) (by omega)) (hz_new0 _ _) fyX11_bring fsX11_135 rfl dX11_keepBack_80 rfl rfl (Nat.le_of_ble_eq_true rfl) (by decide) (hz_cap0 _) ?_
  refine hz_aload_n (pc := 83) C dX11_keepBack_83 rfl ?_
  refine hz_getP (pc := 84) C (v := 147) ffX11_7 dX11_keepBack_84 hT146 hA146 rfl (hP146_0 q) (by decide) ?_
  refine hz_bipush (pc := 87) C (v := nI 100) dX11_keepBack_87 (by decide +kernel) ?_
  refine hz_dup2 (pc := 89) C dX11_keepBack_89 rfl rfl ?_
  refine hz_iald (pc := 90) C (v := nI 7) (j := 100) dX11_keepBack_90 hT147 hA147 rfl (by decide) (by decide) (sa_rd (I := hz_sa I 147 (va_up (va_cpy (I 147) (I 147) 111 101 70) 100 (nI 7))) (a := 147) (f := va_cpy ((hz_sa I 147 (va_up (va_cpy (I 147) (I 147) 111 101 70) 100 (nI 7))) 147) ((hz_sa I 147 (va_up (va_cpy (I 147) (I 147) 111 101 70) 100 (nI 7))) 147) 90 171 10) ((cpy_o (by omega)).trans (sa_rd (I := I) (a := 147) (f := va_up (va_cpy (I 147) (I 147) 111 101 70) 100 (nI 7)) (va_up_self _ _ _)))) ?_
  refine hz_iconst (pc := 91) C (v := nI 1) dX11_keepBack_91 (by decide +kernel) ?_
  refine hz_iadd (pc := 92) C (v := nI 8) dX11_keepBack_92 (nI_add _ _) ?_
  refine hz_iast (pc := 93) C (v := nI 8) (j := 100) (M' := (hz_sa (hz_sa I 147 (va_up (va_cpy (I 147) (I 147) 111 101 70) 100 (nI 7))) 147 (va_up (va_cpy ((hz_sa I 147 (va_up (va_cpy (I 147) (I 147) 111 101 70) 100 (nI 7))) 147) ((hz_sa I 147 (va_up (va_cpy (I 147) (I 147) 111 101 70) 100 (nI 7))) 147) 90 171 10) 100 (nI 8)), L, PP q)) dX11_keepBack_93 hT147 hA147 rfl (by decide) (by decide) rfl (hz_sau _ _ _ _ _ _) ?_
  exact hz_vret C Z rfl dX11_keepBack_94 rfl

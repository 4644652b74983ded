def pcp (q : Nat → Nat → Nat) (a b : Nat) (J : Nat → Nat → Int32) : Nat → Nat → Nat → Int32
  | 0 => J
  | n + 1 => mcp (pcp q a b J n) (q a n) (q b n)
theorem mcp_o {I : Nat → Nat → Int32} {m o b : Nat} (h1 : ¬ b = m) (h2 : ¬ b = m + 1) : mcp I m o b = I b := by
  simp only [mcp, hz_up, if_neg h1, cpy, if_neg h2]
theorem cpy_b {I : Nat → Nat → Int32} {a0 a n b : Nat} (h : ¬ b = a) : cpy I a0 a n b = I b := by
  simp only [cpy, if_neg h]
theorem pcp_o {q : Nat → Nat → Nat} {a c b : Nat} {J : Nat → Nat → Int32} : ∀ {n : Nat}, (∀ i, i < n → ¬ b = q a i ∧ ¬ b = q a i + 1) → pcp q a c J n b = J b := by
  intro n
  induction n with
  | zero => intro _; rfl
  | succ n ih =>
    intro h
    exact (mcp_o (h n (Nat.lt_succ_self n)).1 (h n (Nat.lt_succ_self n)).2).trans (ih fun i hi => h i (by omega))
theorem nz_9 {v : Int32} (h : v = 0 ∨ v = 1) : narrow (hz_ty 2 9) (.int v) = .int v ∧ fits (hz_ty 2 9) (.int v) = true := by
  rcases h with h | h
  · subst h; exact ⟨by decide +kernel, by decide +kernel⟩
  · subst h; exact ⟨by decide +kernel, by decide +kernel⟩
set_option maxHeartbeats 4000000 in
set_option maxRecDepth 100000 in
theorem lp_cp12_79 {X : hz_X} (C : hz_C X mX2_copyFrom) {J : Nat → Nat → Int32} {L : Nat → Nat → Int64} {q : Nat → Nat → Nat} (H : HP 12 q) (K : HP 79 q) (kk : hz_G X TT NN (pcp q 21 88 J 8, L, PP q) 0 0 136 [some (.ref 12), some (.ref 79), some (.int (nI 8))] []) : ∀ (n i : Nat) , i + n = 8 → hz_G X TT NN (pcp q 21 88 J i, L, PP q) 0 0 109 [some (.ref 12), some (.ref 79), some (.int (nI i))] [] := by
  intro n
  induction n with
  | zero =>
    intro i  hi 
    obtain rfl : i = 8 := by omega
    skip
    refine hz_iload_n (pc := 109) C dX2_copyFrom_109 rfl ?_
    refine hz_bipush (pc := 110) C (v := nI 8) dX2_copyFrom_110 (by decide +kernel) ?_
    refine hz_ic_ge (pc := 112) C (tgt := 136) dX2_copyFrom_112 rfl (fun _ => ?_) (fun cq => absurd (nI_le (by omega) (by omega)) cq)
    exact kk
  | succ n ih =>
    intro i  hi 
    obtain ⟨hq0, hq1, hq2⟩ := mq_12 H (i := i) (by omega)
    obtain ⟨hk0, hk1, hk2⟩ := mq_79 K (i := i) (by omega)
    refine hz_iload_n (pc := 109) C dX2_copyFrom_109 rfl ?_
    refine hz_bipush (pc := 110) C (v := nI 8) dX2_copyFrom_110 (by decide +kernel) ?_
    refine hz_ic_ge (pc := 112) C (tgt := 136) dX2_copyFrom_112 rfl (fun cq => absurd cq (nI_ge (by omega) (by omega))) (fun _ => ?_)
    refine hz_aload_n (pc := 115) C dX2_copyFrom_115 rfl ?_
    refine hz_getP (pc := 116) C (v := 21) ffX2_37 dX2_copyFrom_116 hT12 hA12 rfl (hP12_8 q) (by decide) ?_
    refine hz_iload_n (pc := 119) C dX2_copyFrom_119 rfl ?_
    refine hz_aald (pc := 120) C (v := q 21 i) (j := i) dX2_copyFrom_120 hT21 (Or.inr (Or.inl rfl)) hA21 rfl (by omega) (by decide) (pp_q q (Or.inl rfl) i) (by omega) ?_
    refine hz_aload_n (pc := 121) C dX2_copyFrom_121 rfl ?_
    refine hz_getP (pc := 122) C (v := 88) ffX2_37 dX2_copyFrom_122 hT79 hA79 rfl (hP79_8 q) (by decide) ?_
    refine hz_iload_n (pc := 125) C dX2_copyFrom_125 rfl ?_
    refine hz_aald (pc := 126) C (v := q 88 i) (j := i) dX2_copyFrom_126 hT88 (Or.inr (Or.inl rfl)) hA88 rfl (by omega) (by decide) (pp_q q (Or.inr (Or.inr (Or.inl rfl))) i) (by omega) ?_
    refine hz_callVv (pc := 127) C (as := [.ref (q 88 i)]) (st := []) (ev_mcp (by omega) (mq_12 H (by omega)).1 (mq_79 K (by omega)).1) (hz_new0 _ _) fyX3_copyFrom fvX2_98 rfl dX2_copyFrom_127 hq0.1 rfl rfl hq0.2.1 rfl rfl (Nat.le_of_ble_eq_true rfl) (by decide) (hz_cap0 _) ?_
    refine hz_iinc (pc := 130) C (v := nI (i + 1)) (ls' := [some (.ref 12), some (.ref 79), some (.int (nI (i + 1)))]) dX2_copyFrom_130 rfl (nI_add _ 1) rfl ?_
    refine hz_goto (pc := 133) C (tgt := 109) dX2_copyFrom_133 rfl ?_
    exact ih (i + 1) (by omega)
set_option maxHeartbeats 4000000 in
set_option maxRecDepth 100000 in
theorem ev_copy12_79 {I : Nat → Nat → Int32} {L : Nat → Nat → Int64} {q : Nat → Nat → Nat} (H : HP 12 q) (K : HP 79 q) (hm : I 79 9 = 0 ∨ I 79 9 = 1) : hz_Ev mX2_copyFrom TT NN (I, L, PP q) [.ref 12, .ref 79] 0 0 none TT NN (hz_up (hz_up (hz_up (hz_up (pcp q 21 88 (mcp (cpy (cpy (cpy (cpy (cpy (cpy I 80 13 64) 81 14 64) 82 15 6) 83 16 6) 84 17 6) 85 18 6) 19 86) 8) 12 9 ((pcp q 21 88 (mcp (cpy (cpy (cpy (cpy (cpy (cpy I 80 13 64) 81 14 64) 82 15 6) 83 16 6) 84 17 6) 85 18 6) 19 86) 8) 79 9)) 12 10 ((pcp q 21 88 (mcp (cpy (cpy (cpy (cpy (cpy (cpy I 80 13 64) 81 14 64) 82 15 6) 83 16 6) 84 17 6) 85 18 6) 19 86) 8) 79 10)) 12 11 ((pcp q 21 88 (mcp (cpy (cpy (cpy (cpy (cpy (cpy I 80 13 64) 81 14 64) 82 15 6) 83 16 6) 84 17 6) 85 18 6) 19 86) 8) 79 11)) 12 12 ((pcp q 21 88 (mcp (cpy (cpy (cpy (cpy (cpy (cpy I 80 13 64) 81 14 64) 82 15 6) 83 16 6) 84 17 6) 85 18 6) 19 86) 8) 79 12), L, PP q) := by
  have hg9 : (pcp q 21 88 (mcp (cpy (cpy (cpy (cpy (cpy (cpy I 80 13 64) 81 14 64) 82 15 6) 83 16 6) 84 17 6) 85 18 6) 19 86) 8) 79 9 = I 79 9 := by
    rw [pcp_o (fun i hi => by have := mq_12 H hi; omega), mcp_o (by decide) (by decide), cpy_b (by decide), cpy_b (by decide), cpy_b (by decide), cpy_b (by decide), cpy_b (by decide), cpy_b (by decide)]
  refine hz_Ev.intro (ls := [some (.ref 12), some (.ref 79), none]) (by decide +kernel) rfl (Nat.le_of_ble_eq_true rfl) (fun X C Z _ => ?_)
  refine hz_aload_n (pc := 0) C dX2_copyFrom_0 rfl ?_
  refine hz_getP (pc := 1) C (v := 80) ffX2_9 dX2_copyFrom_1 hT79 hA79 rfl (hP79_1 q) (by decide) ?_
  refine hz_iconst (pc := 4) C (v := nI 0) dX2_copyFrom_4 (by decide +kernel) ?_
  refine hz_aload_n (pc := 5) C dX2_copyFrom_5 rfl ?_
  refine hz_getP (pc := 6) C (v := 13) ffX2_9 dX2_copyFrom_6 hT12 hA12 rfl (hP12_1 q) (by decide) ?_
  refine hz_iconst (pc := 9) C (v := nI 0) dX2_copyFrom_9 (by decide +kernel) ?_
  refine hz_aload_n (pc := 10) C dX2_copyFrom_10 rfl ?_
  refine hz_getP (pc := 11) C (v := 13) ffX2_9 dX2_copyFrom_11 hT12 hA12 rfl (hP12_1 q) (by decide) ?_
  refine hz_alen (pc := 14) C (v := nI 64) dX2_copyFrom_14 hT13 ⟨by decide, by decide⟩ hA13 rfl ?_
  refine hz_cpy (pc := 15) C (sp := 0) (dp := 0) (len := 64) fcX2_92 rfl hT80 hA80 hT13 hA13 rfl rfl rfl ⟨by decide, by decide, by decide⟩ (by decide) (by decide) dX2_copyFrom_15 (Nat.le_of_ble_eq_true rfl) (by decide) rfl ?_
  refine hz_aload_n (pc := 18) C dX2_copyFrom_18 rfl ?_
  refine hz_getP (pc := 19) C (v := 81) ffX2_15 dX2_copyFrom_19 hT79 hA79 rfl (hP79_2 q) (by decide) ?_
  refine hz_iconst (pc := 22) C (v := nI 0) dX2_copyFrom_22 (by decide +kernel) ?_
  refine hz_aload_n (pc := 23) C dX2_copyFrom_23 rfl ?_
  refine hz_getP (pc := 24) C (v := 14) ffX2_15 dX2_copyFrom_24 hT12 hA12 rfl (hP12_2 q) (by decide) ?_
  refine hz_iconst (pc := 27) C (v := nI 0) dX2_copyFrom_27 (by decide +kernel) ?_
  refine hz_aload_n (pc := 28) C dX2_copyFrom_28 rfl ?_
  refine hz_getP (pc := 29) C (v := 14) ffX2_15 dX2_copyFrom_29 hT12 hA12 rfl (hP12_2 q) (by decide) ?_
  refine hz_alen (pc := 32) C (v := nI 64) dX2_copyFrom_32 hT14 ⟨by decide, by decide⟩ hA14 rfl ?_
  refine hz_cpy (pc := 33) C (sp := 0) (dp := 0) (len := 64) fcX2_92 rfl hT81 hA81 hT14 hA14 rfl rfl rfl ⟨by decide, by decide, by decide⟩ (by decide) (by decide) dX2_copyFrom_33 (Nat.le_of_ble_eq_true rfl) (by decide) rfl ?_
  refine hz_aload_n (pc := 36) C dX2_copyFrom_36 rfl ?_
  refine hz_getP (pc := 37) C (v := 82) ffX2_18 dX2_copyFrom_37 hT79 hA79 rfl (hP79_3 q) (by decide) ?_
  refine hz_iconst (pc := 40) C (v := nI 0) dX2_copyFrom_40 (by decide +kernel) ?_
  refine hz_aload_n (pc := 41) C dX2_copyFrom_41 rfl ?_
  refine hz_getP (pc := 42) C (v := 15) ffX2_18 dX2_copyFrom_42 hT12 hA12 rfl (hP12_3 q) (by decide) ?_
  refine hz_iconst (pc := 45) C (v := nI 0) dX2_copyFrom_45 (by decide +kernel) ?_
  refine hz_bipush (pc := 46) C (v := nI 6) dX2_copyFrom_46 (by decide +kernel) ?_
  refine hz_cpy (pc := 48) C (sp := 0) (dp := 0) (len := 6) fcX2_92 rfl hT82 hA82 hT15 hA15 rfl rfl rfl ⟨by decide, by decide, by decide⟩ (by decide) (by decide) dX2_copyFrom_48 (Nat.le_of_ble_eq_true rfl) (by decide) rfl ?_
  refine hz_aload_n (pc := 51) C dX2_copyFrom_51 rfl ?_
  refine hz_getP (pc := 52) C (v := 83) ffX2_21 dX2_copyFrom_52 hT79 hA79 rfl (hP79_4 q) (by decide) ?_
  refine hz_iconst (pc := 55) C (v := nI 0) dX2_copyFrom_55 (by decide +kernel) ?_
  refine hz_aload_n (pc := 56) C dX2_copyFrom_56 rfl ?_
  refine hz_getP (pc := 57) C (v := 16) ffX2_21 dX2_copyFrom_57 hT12 hA12 rfl (hP12_4 q) (by decide) ?_
  refine hz_iconst (pc := 60) C (v := nI 0) dX2_copyFrom_60 (by decide +kernel) ?_
  refine hz_bipush (pc := 61) C (v := nI 6) dX2_copyFrom_61 (by decide +kernel) ?_
  refine hz_cpy (pc := 63) C (sp := 0) (dp := 0) (len := 6) fcX2_92 rfl hT83 hA83 hT16 hA16 rfl rfl rfl ⟨by decide, by decide, by decide⟩ (by decide) (by decide) dX2_copyFrom_63 (Nat.le_of_ble_eq_true rfl) (by decide) rfl ?_
  refine hz_aload_n (pc := 66) C dX2_copyFrom_66 rfl ?_
  refine hz_getP (pc := 67) C (v := 84) ffX2_24 dX2_copyFrom_67 hT79 hA79 rfl (hP79_5 q) (by decide) ?_
  refine hz_iconst (pc := 70) C (v := nI 0) dX2_copyFrom_70 (by decide +kernel) ?_
  refine hz_aload_n (pc := 71) C dX2_copyFrom_71 rfl ?_
  refine hz_getP (pc := 72) C (v := 17) ffX2_24 dX2_copyFrom_72 hT12 hA12 rfl (hP12_5 q) (by decide) ?_
  refine hz_iconst (pc := 75) C (v := nI 0) dX2_copyFrom_75 (by decide +kernel) ?_
  refine hz_bipush (pc := 76) C (v := nI 6) dX2_copyFrom_76 (by decide +kernel) ?_
  refine hz_cpy (pc := 78) C (sp := 0) (dp := 0) (len := 6) fcX2_92 rfl hT84 hA84 hT17 hA17 rfl rfl rfl ⟨by decide, by decide, by decide⟩ (by decide) (by decide) dX2_copyFrom_78 (Nat.le_of_ble_eq_true rfl) (by decide) rfl ?_
  refine hz_aload_n (pc := 81) C dX2_copyFrom_81 rfl ?_
  refine hz_getP (pc := 82) C (v := 85) ffX2_27 dX2_copyFrom_82 hT79 hA79 rfl (hP79_6 q) (by decide) ?_
  refine hz_iconst (pc := 85) C (v := nI 0) dX2_copyFrom_85 (by decide +kernel) ?_
  refine hz_aload_n (pc := 86) C dX2_copyFrom_86 rfl ?_
  refine hz_getP (pc := 87) C (v := 18) ffX2_27 dX2_copyFrom_87 hT12 hA12 rfl (hP12_6 q) (by decide) ?_
  refine hz_iconst (pc := 90) C (v := nI 0) dX2_copyFrom_90 (by decide +kernel) ?_
  refine hz_bipush (pc := 91) C (v := nI 6) dX2_copyFrom_91 (by decide +kernel) ?_
  refine hz_cpy (pc := 93) C (sp := 0) (dp := 0) (len := 6) fcX2_92 rfl hT85 hA85 hT18 hA18 rfl rfl rfl ⟨by decide, by decide, by decide⟩ (by decide) (by decide) dX2_copyFrom_93 (Nat.le_of_ble_eq_true rfl) (by decide) rfl ?_
  refine hz_aload_n (pc := 96) C dX2_copyFrom_96 rfl ?_
  refine hz_getP (pc := 97) C (v := 19) ffX2_33 dX2_copyFrom_97 hT12 hA12 rfl (hP12_7 q) (by decide) ?_
  refine hz_aload_n (pc := 100) C dX2_copyFrom_100 rfl ?_
  refine hz_getP (pc := 101) C (v := 86) ffX2_33 dX2_copyFrom_101 hT79 hA79 rfl (hP79_7 q) (by decide) ?_
  refine hz_callVv (pc := 104) C (as := [.ref 86]) (st := []) (ev_mcp (by omega) (mn_12 q) (mn_79 q)) (hz_new0 _ _) fyX3_copyFrom fvX2_98 rfl dX2_copyFrom_104 hT19 rfl rfl hA19 rfl rfl (Nat.le_of_ble_eq_true rfl) (by decide) (hz_cap0 _) ?_
  refine hz_iconst (pc := 107) C (v := nI 0) dX2_copyFrom_107 (by decide +kernel) ?_
  refine hz_istore_n (pc := 108) C (ls' := [some (.ref 12), some (.ref 79), some (.int (nI 0))]) dX2_copyFrom_108 (Nat.le_of_ble_eq_true rfl) rfl ?_
  refine lp_cp12_79 (J := mcp (cpy (cpy (cpy (cpy (cpy (cpy I 80 13 64) 81 14 64) 82 15 6) 83 16 6) 84 17 6) 85 18 6) 19 86) C H K ?_ 8 0 (by omega)
  refine hz_aload_n (pc := 136) C dX2_copyFrom_136 rfl ?_
  refine hz_aload_n (pc := 137) C dX2_copyFrom_137 rfl ?_
  refine hz_getI (pc := 138) C (v := (pcp q 21 88 (mcp (cpy (cpy (cpy (cpy (cpy (cpy I 80 13 64) 81 14 64) 82 15 6) 83 16 6) 84 17 6) 85 18 6) 19 86) 8) 79 9) ffX2_66 dX2_copyFrom_138 hT79 hA79 rfl rfl ?_
  refine hz_putI (pc := 141) C (M' := (hz_up (pcp q 21 88 (mcp (cpy (cpy (cpy (cpy (cpy (cpy I 80 13 64) 81 14 64) 82 15 6) 83 16 6) 84 17 6) 85 18 6) 19 86) 8) 12 9 ((pcp q 21 88 (mcp (cpy (cpy (cpy (cpy (cpy (cpy I 80 13 64) 81 14 64) 82 15 6) 83 16 6) 84 17 6) 85 18 6) 19 86) 8) 79 9), L, PP q)) ffX2_66 dX2_copyFrom_141 hT12 hA12 rfl rfl (nz_9 (by rw [hg9]; exact hm)) rfl ?_
  refine hz_aload_n (pc := 144) C dX2_copyFrom_144 rfl ?_
  refine hz_aload_n (pc := 145) C dX2_copyFrom_145 rfl ?_
  refine hz_getI (pc := 146) C (v := (pcp q 21 88 (mcp (cpy (cpy (cpy (cpy (cpy (cpy I 80 13 64) 81 14 64) 82 15 6) 83 16 6) 84 17 6) 85 18 6) 19 86) 8) 79 10) ffX2_70 dX2_copyFrom_146 hT79 hA79 rfl rfl ?_
  refine hz_putI (pc := 149) C (M' := (hz_up (hz_up (pcp q 21 88 (mcp (cpy (cpy (cpy (cpy (cpy (cpy I 80 13 64) 81 14 64) 82 15 6) 83 16 6) 84 17 6) 85 18 6) 19 86) 8) 12 9 ((pcp q 21 88 (mcp (cpy (cpy (cpy (cpy (cpy (cpy I 80 13 64) 81 14 64) 82 15 6) 83 16 6) 84 17 6) 85 18 6) 19 86) 8) 79 9)) 12 10 ((pcp q 21 88 (mcp (cpy (cpy (cpy (cpy (cpy (cpy I 80 13 64) 81 14 64) 82 15 6) 83 16 6) 84 17 6) 85 18 6) 19 86) 8) 79 10), L, PP q)) ffX2_70 dX2_copyFrom_149 hT12 hA12 rfl rfl ⟨rfl, rfl⟩ rfl ?_
  refine hz_aload_n (pc := 152) C dX2_copyFrom_152 rfl ?_
  refine hz_aload_n (pc := 153) C dX2_copyFrom_153 rfl ?_
  refine hz_getI (pc := 154) C (v := (pcp q 21 88 (mcp (cpy (cpy (cpy (cpy (cpy (cpy I 80 13 64) 81 14 64) 82 15 6) 83 16 6) 84 17 6) 85 18 6) 19 86) 8) 79 11) ffX2_74 dX2_copyFrom_154 hT79 hA79 rfl rfl ?_
  refine hz_putI (pc := 157) C (M' := (hz_up (hz_up (hz_up (pcp q 21 88 (mcp (cpy (cpy (cpy (cpy (cpy (cpy I 80 13 64) 81 14 64) 82 15 6) 83 16 6) 84 17 6) 85 18 6) 19 86) 8) 12 9 ((pcp q 21 88 (mcp (cpy (cpy (cpy (cpy (cpy (cpy I 80 13 64) 81 14 64) 82 15 6) 83 16 6) 84 17 6) 85 18 6) 19 86) 8) 79 9)) 12 10 ((pcp q 21 88 (mcp (cpy (cpy (cpy (cpy (cpy (cpy I 80 13 64) 81 14 64) 82 15 6) 83 16 6) 84 17 6) 85 18 6) 19 86) 8) 79 10)) 12 11 ((pcp q 21 88 (mcp (cpy (cpy (cpy (cpy (cpy (cpy I 80 13 64) 81 14 64) 82 15 6) 83 16 6) 84 17 6) 85 18 6) 19 86) 8) 79 11), L, PP q)) ffX2_74 dX2_copyFrom_157 hT12 hA12 rfl rfl ⟨rfl, rfl⟩ rfl ?_
  refine hz_aload_n (pc := 160) C dX2_copyFrom_160 rfl ?_
  refine hz_aload_n (pc := 161) C dX2_copyFrom_161 rfl ?_
  refine hz_getI (pc := 162) C (v := (pcp q 21 88 (mcp (cpy (cpy (cpy (cpy (cpy (cpy I 80 13 64) 81 14 64) 82 15 6) 83 16 6) 84 17 6) 85 18 6) 19 86) 8) 79 12) ffX2_77 dX2_copyFrom_162 hT79 hA79 rfl rfl ?_
  refine hz_putI (pc := 165) C (M' := (hz_up (hz_up (hz_up (hz_up (pcp q 21 88 (mcp (cpy (cpy (cpy (cpy (cpy (cpy I 80 13 64) 81 14 64) 82 15 6) 83 16 6) 84 17 6) 85 18 6) 19 86) 8) 12 9 ((pcp q 21 88 (mcp (cpy (cpy (cpy (cpy (cpy (cpy I 80 13 64) 81 14 64) 82 15 6) 83 16 6) 84 17 6) 85 18 6) 19 86) 8) 79 9)) 12 10 ((pcp q 21 88 (mcp (cpy (cpy (cpy (cpy (cpy (cpy I 80 13 64) 81 14 64) 82 15 6) 83 16 6) 84 17 6) 85 18 6) 19 86) 8) 79 10)) 12 11 ((pcp q 21 88 (mcp (cpy (cpy (cpy (cpy (cpy (cpy I 80 13 64) 81 14 64) 82 15 6) 83 16 6) 84 17 6) 85 18 6) 19 86) 8) 79 11)) 12 12 ((pcp q 21 88 (mcp (cpy (cpy (cpy (cpy (cpy (cpy I 80 13 64) 81 14 64) 82 15 6) 83 16 6) 84 17 6) 85 18 6) 19 86) 8) 79 12), L, PP q)) ffX2_77 dX2_copyFrom_165 hT12 hA12 rfl rfl ⟨rfl, rfl⟩ rfl ?_
  exact hz_vret C Z rfl dX2_copyFrom_168 rfl
set_option maxHeartbeats 4000000 in
set_option maxRecDepth 100000 in
theorem lp_cp12_112 {X : hz_X} (C : hz_C X mX2_copyFrom) {J : Nat → Nat → Int32} {L : Nat → Nat → Int64} {q : Nat → Nat → Nat} (H : HP 12 q) (K : HP 112 q) (kk : hz_G X TT NN (pcp q 21 121 J 8, L, PP q) 0 0 136 [some (.ref 12), some (.ref 112), some (.int (nI 8))] []) : ∀ (n i : Nat) , i + n = 8 → hz_G X TT NN (pcp q 21 121 J i, L, PP q) 0 0 109 [some (.ref 12), some (.ref 112), some (.int (nI i))] [] := by
  intro n
  induction n with
  | zero =>
    intro i  hi 
    obtain rfl : i = 8 := by omega
    skip
    refine hz_iload_n (pc := 109) C dX2_copyFrom_109 rfl ?_
    refine hz_bipush (pc := 110) C (v := nI 8) dX2_copyFrom_110 (by decide +kernel) ?_
    refine hz_ic_ge (pc := 112) C (tgt := 136) dX2_copyFrom_112 rfl (fun _ => ?_) (fun cq => absurd (nI_le (by omega) (by omega)) cq)
    exact kk
  | succ n ih =>
    intro i  hi 
    obtain ⟨hq0, hq1, hq2⟩ := mq_12 H (i := i) (by omega)
    obtain ⟨hk0, hk1, hk2⟩ := mq_112 K (i := i) (by omega)
    refine hz_iload_n (pc := 109) C dX2_copyFrom_109 rfl ?_
    refine hz_bipush (pc := 110) C (v := nI 8) dX2_copyFrom_110 (by decide +kernel) ?_
    refine hz_ic_ge (pc := 112) C (tgt := 136) dX2_copyFrom_112 rfl (fun cq => absurd cq (nI_ge (by omega) (by omega))) (fun _ => ?_)
    refine hz_aload_n (pc := 115) C dX2_copyFrom_115 rfl ?_
    refine hz_getP (pc := 116) C (v := 21) ffX2_37 dX2_copyFrom_116 hT12 hA12 rfl (hP12_8 q) (by decide) ?_
    refine hz_iload_n (pc := 119) C dX2_copyFrom_119 rfl ?_
    refine hz_aald (pc := 120) C (v := q 21 i) (j := i) dX2_copyFrom_120 hT21 (Or.inr (Or.inl rfl)) hA21 rfl (by omega) (by decide) (pp_q q (Or.inl rfl) i) (by omega) ?_
    refine hz_aload_n (pc := 121) C dX2_copyFrom_121 rfl ?_
    refine hz_getP (pc := 122) C (v := 121) ffX2_37 dX2_copyFrom_122 hT112 hA112 rfl (hP112_8 q) (by decide) ?_
    refine hz_iload_n (pc := 125) C dX2_copyFrom_125 rfl ?_
    refine hz_aald (pc := 126) C (v := q 121 i) (j := i) dX2_copyFrom_126 hT121 (Or.inr (Or.inl rfl)) hA121 rfl (by omega) (by decide) (pp_q q (Or.inr (Or.inr (Or.inr rfl))) i) (by omega) ?_
    refine hz_callVv (pc := 127) C (as := [.ref (q 121 i)]) (st := []) (ev_mcp (by omega) (mq_12 H (by omega)).1 (mq_112 K (by omega)).1) (hz_new0 _ _) fyX3_copyFrom fvX2_98 rfl dX2_copyFrom_127 hq0.1 rfl rfl hq0.2.1 rfl rfl (Nat.le_of_ble_eq_true rfl) (by decide) (hz_cap0 _) ?_
    refine hz_iinc (pc := 130) C (v := nI (i + 1)) (ls' := [some (.ref 12), some (.ref 112), some (.int (nI (i + 1)))]) dX2_copyFrom_130 rfl (nI_add _ 1) rfl ?_
    refine hz_goto (pc := 133) C (tgt := 109) dX2_copyFrom_133 rfl ?_
    exact ih (i + 1) (by omega)
set_option maxHeartbeats 4000000 in
set_option maxRecDepth 100000 in
theorem ev_copy12_112 {I : Nat → Nat → Int32} {L : Nat → Nat → Int64} {q : Nat → Nat → Nat} (H : HP 12 q) (K : HP 112 q) (hm : I 112 9 = 0 ∨ I 112 9 = 1) : hz_Ev mX2_copyFrom TT NN (I, L, PP q) [.ref 12, .ref 112] 0 0 none TT NN (hz_up (hz_up (hz_up (hz_up (pcp q 21 121 (mcp (cpy (cpy (cpy (cpy (cpy (cpy I 113 13 64) 114 14 64) 115 15 6) 116 16 6) 117 17 6) 118 18 6) 19 119) 8) 12 9 ((pcp q 21 121 (mcp (cpy (cpy (cpy (cpy (cpy (cpy I 113 13 64) 114 14 64) 115 15 6) 116 16 6) 117 17 6) 118 18 6) 19 119) 8) 112 9)) 12 10 ((pcp q 21 121 (mcp (cpy (cpy (cpy (cpy (cpy (cpy I 113 13 64) 114 14 64) 115 15 6) 116 16 6) 117 17 6) 118 18 6) 19 119) 8) 112 10)) 12 11 ((pcp q 21 121 (mcp (cpy (cpy (cpy (cpy (cpy (cpy I 113 13 64) 114 14 64) 115 15 6) 116 16 6) 117 17 6) 118 18 6) 19 119) 8) 112 11)) 12 12 ((pcp q 21 121 (mcp (cpy (cpy (cpy (cpy (cpy (cpy I 113 13 64) 114 14 64) 115 15 6) 116 16 6) 117 17 6) 118 18 6) 19 119) 8) 112 12), L, PP q) := by
  have hg9 : (pcp q 21 121 (mcp (cpy (cpy (cpy (cpy (cpy (cpy I 113 13 64) 114 14 64) 115 15 6) 116 16 6) 117 17 6) 118 18 6) 19 119) 8) 112 9 = I 112 9 := by
    rw [pcp_o (fun i hi => by have := mq_12 H hi; omega), mcp_o (by decide) (by decide), cpy_b (by decide), cpy_b (by decide), cpy_b (by decide), cpy_b (by decide), cpy_b (by decide), cpy_b (by decide)]
  refine hz_Ev.intro (ls := [some (.ref 12), some (.ref 112), none]) (by decide +kernel) rfl (Nat.le_of_ble_eq_true rfl) (fun X C Z _ => ?_)
  refine hz_aload_n (pc := 0) C dX2_copyFrom_0 rfl ?_
  refine hz_getP (pc := 1) C (v := 113) ffX2_9 dX2_copyFrom_1 hT112 hA112 rfl (hP112_1 q) (by decide) ?_
  refine hz_iconst (pc := 4) C (v := nI 0) dX2_copyFrom_4 (by decide +kernel) ?_
  refine hz_aload_n (pc := 5) C dX2_copyFrom_5 rfl ?_
  refine hz_getP (pc := 6) C (v := 13) ffX2_9 dX2_copyFrom_6 hT12 hA12 rfl (hP12_1 q) (by decide) ?_
  refine hz_iconst (pc := 9) C (v := nI 0) dX2_copyFrom_9 (by decide +kernel) ?_
  refine hz_aload_n (pc := 10) C dX2_copyFrom_10 rfl ?_
  refine hz_getP (pc := 11) C (v := 13) ffX2_9 dX2_copyFrom_11 hT12 hA12 rfl (hP12_1 q) (by decide) ?_
  refine hz_alen (pc := 14) C (v := nI 64) dX2_copyFrom_14 hT13 ⟨by decide, by decide⟩ hA13 rfl ?_
  refine hz_cpy (pc := 15) C (sp := 0) (dp := 0) (len := 64) fcX2_92 rfl hT113 hA113 hT13 hA13 rfl rfl rfl ⟨by decide, by decide, by decide⟩ (by decide) (by decide) dX2_copyFrom_15 (Nat.le_of_ble_eq_true rfl) (by decide) rfl ?_
  refine hz_aload_n (pc := 18) C dX2_copyFrom_18 rfl ?_
  refine hz_getP (pc := 19) C (v := 114) ffX2_15 dX2_copyFrom_19 hT112 hA112 rfl (hP112_2 q) (by decide) ?_
  refine hz_iconst (pc := 22) C (v := nI 0) dX2_copyFrom_22 (by decide +kernel) ?_
  refine hz_aload_n (pc := 23) C dX2_copyFrom_23 rfl ?_
  refine hz_getP (pc := 24) C (v := 14) ffX2_15 dX2_copyFrom_24 hT12 hA12 rfl (hP12_2 q) (by decide) ?_
  refine hz_iconst (pc := 27) C (v := nI 0) dX2_copyFrom_27 (by decide +kernel) ?_
  refine hz_aload_n (pc := 28) C dX2_copyFrom_28 rfl ?_
  refine hz_getP (pc := 29) C (v := 14) ffX2_15 dX2_copyFrom_29 hT12 hA12 rfl (hP12_2 q) (by decide) ?_
  refine hz_alen (pc := 32) C (v := nI 64) dX2_copyFrom_32 hT14 ⟨by decide, by decide⟩ hA14 rfl ?_
  refine hz_cpy (pc := 33) C (sp := 0) (dp := 0) (len := 64) fcX2_92 rfl hT114 hA114 hT14 hA14 rfl rfl rfl ⟨by decide, by decide, by decide⟩ (by decide) (by decide) dX2_copyFrom_33 (Nat.le_of_ble_eq_true rfl) (by decide) rfl ?_
  refine hz_aload_n (pc := 36) C dX2_copyFrom_36 rfl ?_
  refine hz_getP (pc := 37) C (v := 115) ffX2_18 dX2_copyFrom_37 hT112 hA112 rfl (hP112_3 q) (by decide) ?_
  refine hz_iconst (pc := 40) C (v := nI 0) dX2_copyFrom_40 (by decide +kernel) ?_
  refine hz_aload_n (pc := 41) C dX2_copyFrom_41 rfl ?_
  refine hz_getP (pc := 42) C (v := 15) ffX2_18 dX2_copyFrom_42 hT12 hA12 rfl (hP12_3 q) (by decide) ?_
  refine hz_iconst (pc := 45) C (v := nI 0) dX2_copyFrom_45 (by decide +kernel) ?_
  refine hz_bipush (pc := 46) C (v := nI 6) dX2_copyFrom_46 (by decide +kernel) ?_
  refine hz_cpy (pc := 48) C (sp := 0) (dp := 0) (len := 6) fcX2_92 rfl hT115 hA115 hT15 hA15 rfl rfl rfl ⟨by decide, by decide, by decide⟩ (by decide) (by decide) dX2_copyFrom_48 (Nat.le_of_ble_eq_true rfl) (by decide) rfl ?_
  refine hz_aload_n (pc := 51) C dX2_copyFrom_51 rfl ?_
  refine hz_getP (pc := 52) C (v := 116) ffX2_21 dX2_copyFrom_52 hT112 hA112 rfl (hP112_4 q) (by decide) ?_
  refine hz_iconst (pc := 55) C (v := nI 0) dX2_copyFrom_55 (by decide +kernel) ?_
  refine hz_aload_n (pc := 56) C dX2_copyFrom_56 rfl ?_
  refine hz_getP (pc := 57) C (v := 16) ffX2_21 dX2_copyFrom_57 hT12 hA12 rfl (hP12_4 q) (by decide) ?_
  refine hz_iconst (pc := 60) C (v := nI 0) dX2_copyFrom_60 (by decide +kernel) ?_
  refine hz_bipush (pc := 61) C (v := nI 6) dX2_copyFrom_61 (by decide +kernel) ?_
  refine hz_cpy (pc := 63) C (sp := 0) (dp := 0) (len := 6) fcX2_92 rfl hT116 hA116 hT16 hA16 rfl rfl rfl ⟨by decide, by decide, by decide⟩ (by decide) (by decide) dX2_copyFrom_63 (Nat.le_of_ble_eq_true rfl) (by decide) rfl ?_
  refine hz_aload_n (pc := 66) C dX2_copyFrom_66 rfl ?_
  refine hz_getP (pc := 67) C (v := 117) ffX2_24 dX2_copyFrom_67 hT112 hA112 rfl (hP112_5 q) (by decide) ?_
  refine hz_iconst (pc := 70) C (v := nI 0) dX2_copyFrom_70 (by decide +kernel) ?_
  refine hz_aload_n (pc := 71) C dX2_copyFrom_71 rfl ?_
  refine hz_getP (pc := 72) C (v := 17) ffX2_24 dX2_copyFrom_72 hT12 hA12 rfl (hP12_5 q) (by decide) ?_
  refine hz_iconst (pc := 75) C (v := nI 0) dX2_copyFrom_75 (by decide +kernel) ?_
  refine hz_bipush (pc := 76) C (v := nI 6) dX2_copyFrom_76 (by decide +kernel) ?_
  refine hz_cpy (pc := 78) C (sp := 0) (dp := 0) (len := 6) fcX2_92 rfl hT117 hA117 hT17 hA17 rfl rfl rfl ⟨by decide, by decide, by decide⟩ (by decide) (by decide) dX2_copyFrom_78 (Nat.le_of_ble_eq_true rfl) (by decide) rfl ?_
  refine hz_aload_n (pc := 81) C dX2_copyFrom_81 rfl ?_
  refine hz_getP (pc := 82) C (v := 118) ffX2_27 dX2_copyFrom_82 hT112 hA112 rfl (hP112_6 q) (by decide) ?_
  refine hz_iconst (pc := 85) C (v := nI 0) dX2_copyFrom_85 (by decide +kernel) ?_
  refine hz_aload_n (pc := 86) C dX2_copyFrom_86 rfl ?_
  refine hz_getP (pc := 87) C (v := 18) ffX2_27 dX2_copyFrom_87 hT12 hA12 rfl (hP12_6 q) (by decide) ?_
  refine hz_iconst (pc := 90) C (v := nI 0) dX2_copyFrom_90 (by decide +kernel) ?_
  refine hz_bipush (pc := 91) C (v := nI 6) dX2_copyFrom_91 (by decide +kernel) ?_
  refine hz_cpy (pc := 93) C (sp := 0) (dp := 0) (len := 6) fcX2_92 rfl hT118 hA118 hT18 hA18 rfl rfl rfl ⟨by decide, by decide, by decide⟩ (by decide) (by decide) dX2_copyFrom_93 (Nat.le_of_ble_eq_true rfl) (by decide) rfl ?_
  refine hz_aload_n (pc := 96) C dX2_copyFrom_96 rfl ?_
  refine hz_getP (pc := 97) C (v := 19) ffX2_33 dX2_copyFrom_97 hT12 hA12 rfl (hP12_7 q) (by decide) ?_
  refine hz_aload_n (pc := 100) C dX2_copyFrom_100 rfl ?_
  refine hz_getP (pc := 101) C (v := 119) ffX2_33 dX2_copyFrom_101 hT112 hA112 rfl (hP112_7 q) (by decide) ?_
  refine hz_callVv (pc := 104) C (as := [.ref 119]) (st := []) (ev_mcp (by omega) (mn_12 q) (mn_112 q)) (hz_new0 _ _) fyX3_copyFrom fvX2_98 rfl dX2_copyFrom_104 hT19 rfl rfl hA19 rfl rfl (Nat.le_of_ble_eq_true rfl) (by decide) (hz_cap0 _) ?_
  refine hz_iconst (pc := 107) C (v := nI 0) dX2_copyFrom_107 (by decide +kernel) ?_
  refine hz_istore_n (pc := 108) C (ls' := [some (.ref 12), some (.ref 112), some (.int (nI 0))]) dX2_copyFrom_108 (Nat.le_of_ble_eq_true rfl) rfl ?_
  refine lp_cp12_112 (J := mcp (cpy (cpy (cpy (cpy (cpy (cpy I 113 13 64) 114 14 64) 115 15 6) 116 16 6) 117 17 6) 118 18 6) 19 119) C H K ?_ 8 0 (by omega)
  refine hz_aload_n (pc := 136) C dX2_copyFrom_136 rfl ?_
  refine hz_aload_n (pc := 137) C dX2_copyFrom_137 rfl ?_
  refine hz_getI (pc := 138) C (v := (pcp q 21 121 (mcp (cpy (cpy (cpy (cpy (cpy (cpy I 113 13 64) 114 14 64) 115 15 6) 116 16 6) 117 17 6) 118 18 6) 19 119) 8) 112 9) ffX2_66 dX2_copyFrom_138 hT112 hA112 rfl rfl ?_
  refine hz_putI (pc := 141) C (M' := (hz_up (pcp q 21 121 (mcp (cpy (cpy (cpy (cpy (cpy (cpy I 113 13 64) 114 14 64) 115 15 6) 116 16 6) 117 17 6) 118 18 6) 19 119) 8) 12 9 ((pcp q 21 121 (mcp (cpy (cpy (cpy (cpy (cpy (cpy I 113 13 64) 114 14 64) 115 15 6) 116 16 6) 117 17 6) 118 18 6) 19 119) 8) 112 9), L, PP q)) ffX2_66 dX2_copyFrom_141 hT12 hA12 rfl rfl (nz_9 (by rw [hg9]; exact hm)) rfl ?_
  refine hz_aload_n (pc := 144) C dX2_copyFrom_144 rfl ?_
  refine hz_aload_n (pc := 145) C dX2_copyFrom_145 rfl ?_
  refine hz_getI (pc := 146) C (v := (pcp q 21 121 (mcp (cpy (cpy (cpy (cpy (cpy (cpy I 113 13 64) 114 14 64) 115 15 6) 116 16 6) 117 17 6) 118 18 6) 19 119) 8) 112 10) ffX2_70 dX2_copyFrom_146 hT112 hA112 rfl rfl ?_
  refine hz_putI (pc := 149) C (M' := (hz_up (hz_up (pcp q 21 121 (mcp (cpy (cpy (cpy (cpy (cpy (cpy I 113 13 64) 114 14 64) 115 15 6) 116 16 6) 117 17 6) 118 18 6) 19 119) 8) 12 9 ((pcp q 21 121 (mcp (cpy (cpy (cpy (cpy (cpy (cpy I 113 13 64) 114 14 64) 115 15 6) 116 16 6) 117 17 6) 118 18 6) 19 119) 8) 112 9)) 12 10 ((pcp q 21 121 (mcp (cpy (cpy (cpy (cpy (cpy (cpy I 113 13 64) 114 14 64) 115 15 6) 116 16 6) 117 17 6) 118 18 6) 19 119) 8) 112 10), L, PP q)) ffX2_70 dX2_copyFrom_149 hT12 hA12 rfl rfl ⟨rfl, rfl⟩ rfl ?_
  refine hz_aload_n (pc := 152) C dX2_copyFrom_152 rfl ?_
  refine hz_aload_n (pc := 153) C dX2_copyFrom_153 rfl ?_
  refine hz_getI (pc := 154) C (v := (pcp q 21 121 (mcp (cpy (cpy (cpy (cpy (cpy (cpy I 113 13 64) 114 14 64) 115 15 6) 116 16 6) 117 17 6) 118 18 6) 19 119) 8) 112 11) ffX2_74 dX2_copyFrom_154 hT112 hA112 rfl rfl ?_
  refine hz_putI (pc := 157) C (M' := (hz_up (hz_up (hz_up (pcp q 21 121 (mcp (cpy (cpy (cpy (cpy (cpy (cpy I 113 13 64) 114 14 64) 115 15 6) 116 16 6) 117 17 6) 118 18 6) 19 119) 8) 12 9 ((pcp q 21 121 (mcp (cpy (cpy (cpy (cpy (cpy (cpy I 113 13 64) 114 14 64) 115 15 6) 116 16 6) 117 17 6) 118 18 6) 19 119) 8) 112 9)) 12 10 ((pcp q 21 121 (mcp (cpy (cpy (cpy (cpy (cpy (cpy I 113 13 64) 114 14 64) 115 15 6) 116 16 6) 117 17 6) 118 18 6) 19 119) 8) 112 10)) 12 11 ((pcp q 21 121 (mcp (cpy (cpy (cpy (cpy (cpy (cpy I 113 13 64) 114 14 64) 115 15 6) 116 16 6) 117 17 6) 118 18 6) 19 119) 8) 112 11), L, PP q)) ffX2_74 dX2_copyFrom_157 hT12 hA12 rfl rfl ⟨rfl, rfl⟩ rfl ?_
  refine hz_aload_n (pc := 160) C dX2_copyFrom_160 rfl ?_
  refine hz_aload_n (pc := 161) C dX2_copyFrom_161 rfl ?_
  refine hz_getI (pc := 162) C (v := (pcp q 21 121 (mcp (cpy (cpy (cpy (cpy (cpy (cpy I 113 13 64) 114 14 64) 115 15 6) 116 16 6) 117 17 6) 118 18 6) 19 119) 8) 112 12) ffX2_77 dX2_copyFrom_162 hT112 hA112 rfl rfl ?_
  refine hz_putI (pc := 165) C (M' := (hz_up (hz_up (hz_up (hz_up (pcp q 21 121 (mcp (cpy (cpy (cpy (cpy (cpy (cpy I 113 13 64) 114 14 64) 115 15 6) 116 16 6) 117 17 6) 118 18 6) 19 119) 8) 12 9 ((pcp q 21 121 (mcp (cpy (cpy (cpy (cpy (cpy (cpy I 113 13 64) 114 14 64) 115 15 6) 116 16 6) 117 17 6) 118 18 6) 19 119) 8) 112 9)) 12 10 ((pcp q 21 121 (mcp (cpy (cpy (cpy (cpy (cpy (cpy I 113 13 64) 114 14 64) 115 15 6) 116 16 6) 117 17 6) 118 18 6) 19 119) 8) 112 10)) 12 11 ((pcp q 21 121 (mcp (cpy (cpy (cpy (cpy (cpy (cpy I 113 13 64) 114 14 64) 115 15 6) 116 16 6) 117 17 6) 118 18 6) 19 119) 8) 112 11)) 12 12 ((pcp q 21 121 (mcp (cpy (cpy (cpy (cpy (cpy (cpy I 113 13 64) 114 14 64) 115 15 6) 116 16 6) 117 17 6) 118 18 6) 19 119) 8) 112 12), L, PP q)) ffX2_77 dX2_copyFrom_165 hT12 hA12 rfl rfl ⟨rfl, rfl⟩ rfl ?_
  exact hz_vret C Z rfl dX2_copyFrom_168 rfl
set_option maxHeartbeats 4000000 in
set_option maxRecDepth 100000 in
theorem lp_cp79_12 {X : hz_X} (C : hz_C X mX2_copyFrom) {J : Nat → Nat → Int32} {L : Nat → Nat → Int64} {q : Nat → Nat → Nat} (H : HP 79 q) (K : HP 12 q) (kk : hz_G X TT NN (pcp q 88 21 J 8, L, PP q) 0 0 136 [some (.ref 79), some (.ref 12), some (.int (nI 8))] []) : ∀ (n i : Nat) , i + n = 8 → hz_G X TT NN (pcp q 88 21 J i, L, PP q) 0 0 109 [some (.ref 79), some (.ref 12), some (.int (nI i))] [] := by
  intro n
  induction n with
  | zero =>
    intro i  hi 
    obtain rfl : i = 8 := by omega
    skip
    refine hz_iload_n (pc := 109) C dX2_copyFrom_109 rfl ?_
    refine hz_bipush (pc := 110) C (v := nI 8) dX2_copyFrom_110 (by decide +kernel) ?_
    refine hz_ic_ge (pc := 112) C (tgt := 136) dX2_copyFrom_112 rfl (fun _ => ?_) (fun cq => absurd (nI_le (by omega) (by omega)) cq)
    exact kk
  | succ n ih =>
    intro i  hi 
    obtain ⟨hq0, hq1, hq2⟩ := mq_79 H (i := i) (by omega)
    obtain ⟨hk0, hk1, hk2⟩ := mq_12 K (i := i) (by omega)
    refine hz_iload_n (pc := 109) C dX2_copyFrom_109 rfl ?_
    refine hz_bipush (pc := 110) C (v := nI 8) dX2_copyFrom_110 (by decide +kernel) ?_
    refine hz_ic_ge (pc := 112) C (tgt := 136) dX2_copyFrom_112 rfl (fun cq => absurd cq (nI_ge (by omega) (by omega))) (fun _ => ?_)
    refine hz_aload_n (pc := 115) C dX2_copyFrom_115 rfl ?_
    refine hz_getP (pc := 116) C (v := 88) ffX2_37 dX2_copyFrom_116 hT79 hA79 rfl (hP79_8 q) (by decide) ?_
    refine hz_iload_n (pc := 119) C dX2_copyFrom_119 rfl ?_
    refine hz_aald (pc := 120) C (v := q 88 i) (j := i) dX2_copyFrom_120 hT88 (Or.inr (Or.inl rfl)) hA88 rfl (by omega) (by decide) (pp_q q (Or.inr (Or.inr (Or.inl rfl))) i) (by omega) ?_
    refine hz_aload_n (pc := 121) C dX2_copyFrom_121 rfl ?_
    refine hz_getP (pc := 122) C (v := 21) ffX2_37 dX2_copyFrom_122 hT12 hA12 rfl (hP12_8 q) (by decide) ?_
    refine hz_iload_n (pc := 125) C dX2_copyFrom_125 rfl ?_
    refine hz_aald (pc := 126) C (v := q 21 i) (j := i) dX2_copyFrom_126 hT21 (Or.inr (Or.inl rfl)) hA21 rfl (by omega) (by decide) (pp_q q (Or.inl rfl) i) (by omega) ?_
    refine hz_callVv (pc := 127) C (as := [.ref (q 21 i)]) (st := []) (ev_mcp (by omega) (mq_79 H (by omega)).1 (mq_12 K (by omega)).1) (hz_new0 _ _) fyX3_copyFrom fvX2_98 rfl dX2_copyFrom_127 hq0.1 rfl rfl hq0.2.1 rfl rfl (Nat.le_of_ble_eq_true rfl) (by decide) (hz_cap0 _) ?_
    refine hz_iinc (pc := 130) C (v := nI (i + 1)) (ls' := [some (.ref 79), some (.ref 12), some (.int (nI (i + 1)))]) dX2_copyFrom_130 rfl (nI_add _ 1) rfl ?_
    refine hz_goto (pc := 133) C (tgt := 109) dX2_copyFrom_133 rfl ?_
    exact ih (i + 1) (by omega)
set_option maxHeartbeats 4000000 in
set_option maxRecDepth 100000 in
theorem ev_copy79_12 {I : Nat → Nat → Int32} {L : Nat → Nat → Int64} {q : Nat → Nat → Nat} (H : HP 79 q) (K : HP 12 q) (hm : I 12 9 = 0 ∨ I 12 9 = 1) : hz_Ev mX2_copyFrom TT NN (I, L, PP q) [.ref 79, .ref 12] 0 0 none TT NN (hz_up (hz_up (hz_up (hz_up (pcp q 88 21 (mcp (cpy (cpy (cpy (cpy (cpy (cpy I 13 80 64) 14 81 64) 15 82 6) 16 83 6) 17 84 6) 18 85 6) 86 19) 8) 79 9 ((pcp q 88 21 (mcp (cpy (cpy (cpy (cpy (cpy (cpy I 13 80 64) 14 81 64) 15 82 6) 16 83 6) 17 84 6) 18 85 6) 86 19) 8) 12 9)) 79 10 ((pcp q 88 21 (mcp (cpy (cpy (cpy (cpy (cpy (cpy I 13 80 64) 14 81 64) 15 82 6) 16 83 6) 17 84 6) 18 85 6) 86 19) 8) 12 10)) 79 11 ((pcp q 88 21 (mcp (cpy (cpy (cpy (cpy (cpy (cpy I 13 80 64) 14 81 64) 15 82 6) 16 83 6) 17 84 6) 18 85 6) 86 19) 8) 12 11)) 79 12 ((pcp q 88 21 (mcp (cpy (cpy (cpy (cpy (cpy (cpy I 13 80 64) 14 81 64) 15 82 6) 16 83 6) 17 84 6) 18 85 6) 86 19) 8) 12 12), L, PP q) := by
  have hg9 : (pcp q 88 21 (mcp (cpy (cpy (cpy (cpy (cpy (cpy I 13 80 64) 14 81 64) 15 82 6) 16 83 6) 17 84 6) 18 85 6) 86 19) 8) 12 9 = I 12 9 := by
    rw [pcp_o (fun i hi => by have := mq_79 H hi; omega), mcp_o (by decide) (by decide), cpy_b (by decide), cpy_b (by decide), cpy_b (by decide), cpy_b (by decide), cpy_b (by decide), cpy_b (by decide)]
  refine hz_Ev.intro (ls := [some (.ref 79), some (.ref 12), none]) (by decide +kernel) rfl (Nat.le_of_ble_eq_true rfl) (fun X C Z _ => ?_)
  refine hz_aload_n (pc := 0) C dX2_copyFrom_0 rfl ?_
  refine hz_getP (pc := 1) C (v := 13) ffX2_9 dX2_copyFrom_1 hT12 hA12 rfl (hP12_1 q) (by decide) ?_
  refine hz_iconst (pc := 4) C (v := nI 0) dX2_copyFrom_4 (by decide +kernel) ?_
  refine hz_aload_n (pc := 5) C dX2_copyFrom_5 rfl ?_
  refine hz_getP (pc := 6) C (v := 80) ffX2_9 dX2_copyFrom_6 hT79 hA79 rfl (hP79_1 q) (by decide) ?_
  refine hz_iconst (pc := 9) C (v := nI 0) dX2_copyFrom_9 (by decide +kernel) ?_
  refine hz_aload_n (pc := 10) C dX2_copyFrom_10 rfl ?_
  refine hz_getP (pc := 11) C (v := 80) ffX2_9 dX2_copyFrom_11 hT79 hA79 rfl (hP79_1 q) (by decide) ?_
  refine hz_alen (pc := 14) C (v := nI 64) dX2_copyFrom_14 hT80 ⟨by decide, by decide⟩ hA80 rfl ?_
  refine hz_cpy (pc := 15) C (sp := 0) (dp := 0) (len := 64) fcX2_92 rfl hT13 hA13 hT80 hA80 rfl rfl rfl ⟨by decide, by decide, by decide⟩ (by decide) (by decide) dX2_copyFrom_15 (Nat.le_of_ble_eq_true rfl) (by decide) rfl ?_
  refine hz_aload_n (pc := 18) C dX2_copyFrom_18 rfl ?_
  refine hz_getP (pc := 19) C (v := 14) ffX2_15 dX2_copyFrom_19 hT12 hA12 rfl (hP12_2 q) (by decide) ?_
  refine hz_iconst (pc := 22) C (v := nI 0) dX2_copyFrom_22 (by decide +kernel) ?_
  refine hz_aload_n (pc := 23) C dX2_copyFrom_23 rfl ?_
  refine hz_getP (pc := 24) C (v := 81) ffX2_15 dX2_copyFrom_24 hT79 hA79 rfl (hP79_2 q) (by decide) ?_
  refine hz_iconst (pc := 27) C (v := nI 0) dX2_copyFrom_27 (by decide +kernel) ?_
  refine hz_aload_n (pc := 28) C dX2_copyFrom_28 rfl ?_
  refine hz_getP (pc := 29) C (v := 81) ffX2_15 dX2_copyFrom_29 hT79 hA79 rfl (hP79_2 q) (by decide) ?_
  refine hz_alen (pc := 32) C (v := nI 64) dX2_copyFrom_32 hT81 ⟨by decide, by decide⟩ hA81 rfl ?_
  refine hz_cpy (pc := 33) C (sp := 0) (dp := 0) (len := 64) fcX2_92 rfl hT14 hA14 hT81 hA81 rfl rfl rfl ⟨by decide, by decide, by decide⟩ (by decide) (by decide) dX2_copyFrom_33 (Nat.le_of_ble_eq_true rfl) (by decide) rfl ?_
  refine hz_aload_n (pc := 36) C dX2_copyFrom_36 rfl ?_
  refine hz_getP (pc := 37) C (v := 15) ffX2_18 dX2_copyFrom_37 hT12 hA12 rfl (hP12_3 q) (by decide) ?_
  refine hz_iconst (pc := 40) C (v := nI 0) dX2_copyFrom_40 (by decide +kernel) ?_
  refine hz_aload_n (pc := 41) C dX2_copyFrom_41 rfl ?_
  refine hz_getP (pc := 42) C (v := 82) ffX2_18 dX2_copyFrom_42 hT79 hA79 rfl (hP79_3 q) (by decide) ?_
  refine hz_iconst (pc := 45) C (v := nI 0) dX2_copyFrom_45 (by decide +kernel) ?_
  refine hz_bipush (pc := 46) C (v := nI 6) dX2_copyFrom_46 (by decide +kernel) ?_
  refine hz_cpy (pc := 48) C (sp := 0) (dp := 0) (len := 6) fcX2_92 rfl hT15 hA15 hT82 hA82 rfl rfl rfl ⟨by decide, by decide, by decide⟩ (by decide) (by decide) dX2_copyFrom_48 (Nat.le_of_ble_eq_true rfl) (by decide) rfl ?_
  refine hz_aload_n (pc := 51) C dX2_copyFrom_51 rfl ?_
  refine hz_getP (pc := 52) C (v := 16) ffX2_21 dX2_copyFrom_52 hT12 hA12 rfl (hP12_4 q) (by decide) ?_
  refine hz_iconst (pc := 55) C (v := nI 0) dX2_copyFrom_55 (by decide +kernel) ?_
  refine hz_aload_n (pc := 56) C dX2_copyFrom_56 rfl ?_
  refine hz_getP (pc := 57) C (v := 83) ffX2_21 dX2_copyFrom_57 hT79 hA79 rfl (hP79_4 q) (by decide) ?_
  refine hz_iconst (pc := 60) C (v := nI 0) dX2_copyFrom_60 (by decide +kernel) ?_
  refine hz_bipush (pc := 61) C (v := nI 6) dX2_copyFrom_61 (by decide +kernel) ?_
  refine hz_cpy (pc := 63) C (sp := 0) (dp := 0) (len := 6) fcX2_92 rfl hT16 hA16 hT83 hA83 rfl rfl rfl ⟨by decide, by decide, by decide⟩ (by decide) (by decide) dX2_copyFrom_63 (Nat.le_of_ble_eq_true rfl) (by decide) rfl ?_
  refine hz_aload_n (pc := 66) C dX2_copyFrom_66 rfl ?_
  refine hz_getP (pc := 67) C (v := 17) ffX2_24 dX2_copyFrom_67 hT12 hA12 rfl (hP12_5 q) (by decide) ?_
  refine hz_iconst (pc := 70) C (v := nI 0) dX2_copyFrom_70 (by decide +kernel) ?_
  refine hz_aload_n (pc := 71) C dX2_copyFrom_71 rfl ?_
  refine hz_getP (pc := 72) C (v := 84) ffX2_24 dX2_copyFrom_72 hT79 hA79 rfl (hP79_5 q) (by decide) ?_
  refine hz_iconst (pc := 75) C (v := nI 0) dX2_copyFrom_75 (by decide +kernel) ?_
  refine hz_bipush (pc := 76) C (v := nI 6) dX2_copyFrom_76 (by decide +kernel) ?_
  refine hz_cpy (pc := 78) C (sp := 0) (dp := 0) (len := 6) fcX2_92 rfl hT17 hA17 hT84 hA84 rfl rfl rfl ⟨by decide, by decide, by decide⟩ (by decide) (by decide) dX2_copyFrom_78 (Nat.le_of_ble_eq_true rfl) (by decide) rfl ?_
  refine hz_aload_n (pc := 81) C dX2_copyFrom_81 rfl ?_
  refine hz_getP (pc := 82) C (v := 18) ffX2_27 dX2_copyFrom_82 hT12 hA12 rfl (hP12_6 q) (by decide) ?_
  refine hz_iconst (pc := 85) C (v := nI 0) dX2_copyFrom_85 (by decide +kernel) ?_
  refine hz_aload_n (pc := 86) C dX2_copyFrom_86 rfl ?_
  refine hz_getP (pc := 87) C (v := 85) ffX2_27 dX2_copyFrom_87 hT79 hA79 rfl (hP79_6 q) (by decide) ?_
  refine hz_iconst (pc := 90) C (v := nI 0) dX2_copyFrom_90 (by decide +kernel) ?_
  refine hz_bipush (pc := 91) C (v := nI 6) dX2_copyFrom_91 (by decide +kernel) ?_
  refine hz_cpy (pc := 93) C (sp := 0) (dp := 0) (len := 6) fcX2_92 rfl hT18 hA18 hT85 hA85 rfl rfl rfl ⟨by decide, by decide, by decide⟩ (by decide) (by decide) dX2_copyFrom_93 (Nat.le_of_ble_eq_true rfl) (by decide) rfl ?_
  refine hz_aload_n (pc := 96) C dX2_copyFrom_96 rfl ?_
  refine hz_getP (pc := 97) C (v := 86) ffX2_33 dX2_copyFrom_97 hT79 hA79 rfl (hP79_7 q) (by decide) ?_
  refine hz_aload_n (pc := 100) C dX2_copyFrom_100 rfl ?_
  refine hz_getP (pc := 101) C (v := 19) ffX2_33 dX2_copyFrom_101 hT12 hA12 rfl (hP12_7 q) (by decide) ?_
  refine hz_callVv (pc := 104) C (as := [.ref 19]) (st := []) (ev_mcp (by omega) (mn_79 q) (mn_12 q)) (hz_new0 _ _) fyX3_copyFrom fvX2_98 rfl dX2_copyFrom_104 hT86 rfl rfl hA86 rfl rfl (Nat.le_of_ble_eq_true rfl) (by decide) (hz_cap0 _) ?_
  refine hz_iconst (pc := 107) C (v := nI 0) dX2_copyFrom_107 (by decide +kernel) ?_
  refine hz_istore_n (pc := 108) C (ls' := [some (.ref 79), some (.ref 12), some (.int (nI 0))]) dX2_copyFrom_108 (Nat.le_of_ble_eq_true rfl) rfl ?_
  refine lp_cp79_12 (J := mcp (cpy (cpy (cpy (cpy (cpy (cpy I 13 80 64) 14 81 64) 15 82 6) 16 83 6) 17 84 6) 18 85 6) 86 19) C H K ?_ 8 0 (by omega)
  refine hz_aload_n (pc := 136) C dX2_copyFrom_136 rfl ?_
  refine hz_aload_n (pc := 137) C dX2_copyFrom_137 rfl ?_
  refine hz_getI (pc := 138) C (v := (pcp q 88 21 (mcp (cpy (cpy (cpy (cpy (cpy (cpy I 13 80 64) 14 81 64) 15 82 6) 16 83 6) 17 84 6) 18 85 6) 86 19) 8) 12 9) ffX2_66 dX2_copyFrom_138 hT12 hA12 rfl rfl ?_
  refine hz_putI (pc := 141) C (M' := (hz_up (pcp q 88 21 (mcp (cpy (cpy (cpy (cpy (cpy (cpy I 13 80 64) 14 81 64) 15 82 6) 16 83 6) 17 84 6) 18 85 6) 86 19) 8) 79 9 ((pcp q 88 21 (mcp (cpy (cpy (cpy (cpy (cpy (cpy I 13 80 64) 14 81 64) 15 82 6) 16 83 6) 17 84 6) 18 85 6) 86 19) 8) 12 9), L, PP q)) ffX2_66 dX2_copyFrom_141 hT79 hA79 rfl rfl (nz_9 (by rw [hg9]; exact hm)) rfl ?_
  refine hz_aload_n (pc := 144) C dX2_copyFrom_144 rfl ?_
  refine hz_aload_n (pc := 145) C dX2_copyFrom_145 rfl ?_
  refine hz_getI (pc := 146) C (v := (pcp q 88 21 (mcp (cpy (cpy (cpy (cpy (cpy (cpy I 13 80 64) 14 81 64) 15 82 6) 16 83 6) 17 84 6) 18 85 6) 86 19) 8) 12 10) ffX2_70 dX2_copyFrom_146 hT12 hA12 rfl rfl ?_
  refine hz_putI (pc := 149) C (M' := (hz_up (hz_up (pcp q 88 21 (mcp (cpy (cpy (cpy (cpy (cpy (cpy I 13 80 64) 14 81 64) 15 82 6) 16 83 6) 17 84 6) 18 85 6) 86 19) 8) 79 9 ((pcp q 88 21 (mcp (cpy (cpy (cpy (cpy (cpy (cpy I 13 80 64) 14 81 64) 15 82 6) 16 83 6) 17 84 6) 18 85 6) 86 19) 8) 12 9)) 79 10 ((pcp q 88 21 (mcp (cpy (cpy (cpy (cpy (cpy (cpy I 13 80 64) 14 81 64) 15 82 6) 16 83 6) 17 84 6) 18 85 6) 86 19) 8) 12 10), L, PP q)) ffX2_70 dX2_copyFrom_149 hT79 hA79 rfl rfl ⟨rfl, rfl⟩ rfl ?_
  refine hz_aload_n (pc := 152) C dX2_copyFrom_152 rfl ?_
  refine hz_aload_n (pc := 153) C dX2_copyFrom_153 rfl ?_
  refine hz_getI (pc := 154) C (v := (pcp q 88 21 (mcp (cpy (cpy (cpy (cpy (cpy (cpy I 13 80 64) 14 81 64) 15 82 6) 16 83 6) 17 84 6) 18 85 6) 86 19) 8) 12 11) ffX2_74 dX2_copyFrom_154 hT12 hA12 rfl rfl ?_
  refine hz_putI (pc := 157) C (M' := (hz_up (hz_up (hz_up (pcp q 88 21 (mcp (cpy (cpy (cpy (cpy (cpy (cpy I 13 80 64) 14 81 64) 15 82 6) 16 83 6) 17 84 6) 18 85 6) 86 19) 8) 79 9 ((pcp q 88 21 (mcp (cpy (cpy (cpy (cpy (cpy (cpy I 13 80 64) 14 81 64) 15 82 6) 16 83 6) 17 84 6) 18 85 6) 86 19) 8) 12 9)) 79 10 ((pcp q 88 21 (mcp (cpy (cpy (cpy (cpy (cpy (cpy I 13 80 64) 14 81 64) 15 82 6) 16 83 6) 17 84 6) 18 85 6) 86 19) 8) 12 10)) 79 11 ((pcp q 88 21 (mcp (cpy (cpy (cpy (cpy (cpy (cpy I 13 80 64) 14 81 64) 15 82 6) 16 83 6) 17 84 6) 18 85 6) 86 19) 8) 12 11), L, PP q)) ffX2_74 dX2_copyFrom_157 hT79 hA79 rfl rfl ⟨rfl, rfl⟩ rfl ?_
  refine hz_aload_n (pc := 160) C dX2_copyFrom_160 rfl ?_
  refine hz_aload_n (pc := 161) C dX2_copyFrom_161 rfl ?_
  refine hz_getI (pc := 162) C (v := (pcp q 88 21 (mcp (cpy (cpy (cpy (cpy (cpy (cpy I 13 80 64) 14 81 64) 15 82 6) 16 83 6) 17 84 6) 18 85 6) 86 19) 8) 12 12) ffX2_77 dX2_copyFrom_162 hT12 hA12 rfl rfl ?_
  refine hz_putI (pc := 165) C (M' := (hz_up (hz_up (hz_up (hz_up (pcp q 88 21 (mcp (cpy (cpy (cpy (cpy (cpy (cpy I 13 80 64) 14 81 64) 15 82 6) 16 83 6) 17 84 6) 18 85 6) 86 19) 8) 79 9 ((pcp q 88 21 (mcp (cpy (cpy (cpy (cpy (cpy (cpy I 13 80 64) 14 81 64) 15 82 6) 16 83 6) 17 84 6) 18 85 6) 86 19) 8) 12 9)) 79 10 ((pcp q 88 21 (mcp (cpy (cpy (cpy (cpy (cpy (cpy I 13 80 64) 14 81 64) 15 82 6) 16 83 6) 17 84 6) 18 85 6) 86 19) 8) 12 10)) 79 11 ((pcp q 88 21 (mcp (cpy (cpy (cpy (cpy (cpy (cpy I 13 80 64) 14 81 64) 15 82 6) 16 83 6) 17 84 6) 18 85 6) 86 19) 8) 12 11)) 79 12 ((pcp q 88 21 (mcp (cpy (cpy (cpy (cpy (cpy (cpy I 13 80 64) 14 81 64) 15 82 6) 16 83 6) 17 84 6) 18 85 6) 86 19) 8) 12 12), L, PP q)) ffX2_77 dX2_copyFrom_165 hT79 hA79 rfl rfl ⟨rfl, rfl⟩ rfl ?_
  exact hz_vret C Z rfl dX2_copyFrom_168 rfl
set_option maxHeartbeats 4000000 in
set_option maxRecDepth 100000 in
theorem lp_cp112_12 {X : hz_X} (C : hz_C X mX2_copyFrom) {J : Nat → Nat → Int32} {L : Nat → Nat → Int64} {q : Nat → Nat → Nat} (H : HP 112 q) (K : HP 12 q) (kk : hz_G X TT NN (pcp q 121 21 J 8, L, PP q) 0 0 136 [some (.ref 112), some (.ref 12), some (.int (nI 8))] []) : ∀ (n i : Nat) , i + n = 8 → hz_G X TT NN (pcp q 121 21 J i, L, PP q) 0 0 109 [some (.ref 112), some (.ref 12), some (.int (nI i))] [] := by
  intro n
  induction n with
  | zero =>
    intro i  hi 
    obtain rfl : i = 8 := by omega
    skip
    refine hz_iload_n (pc := 109) C dX2_copyFrom_109 rfl ?_
    refine hz_bipush (pc := 110) C (v := nI 8) dX2_copyFrom_110 (by decide +kernel) ?_
    refine hz_ic_ge (pc := 112) C (tgt := 136) dX2_copyFrom_112 rfl (fun _ => ?_) (fun cq => absurd (nI_le (by omega) (by omega)) cq)
    exact kk
  | succ n ih =>
    intro i  hi 
    obtain ⟨hq0, hq1, hq2⟩ := mq_112 H (i := i) (by omega)
    obtain ⟨hk0, hk1, hk2⟩ := mq_12 K (i := i) (by omega)
    refine hz_iload_n (pc := 109) C dX2_copyFrom_109 rfl ?_
    refine hz_bipush (pc := 110) C (v := nI 8) dX2_copyFrom_110 (by decide +kernel) ?_
    refine hz_ic_ge (pc := 112) C (tgt := 136) dX2_copyFrom_112 rfl (fun cq => absurd cq (nI_ge (by omega) (by omega))) (fun _ => ?_)
    refine hz_aload_n (pc := 115) C dX2_copyFrom_115 rfl ?_
    refine hz_getP (pc := 116) C (v := 121) ffX2_37 dX2_copyFrom_116 hT112 hA112 rfl (hP112_8 q) (by decide) ?_
    refine hz_iload_n (pc := 119) C dX2_copyFrom_119 rfl ?_
    refine hz_aald (pc := 120) C (v := q 121 i) (j := i) dX2_copyFrom_120 hT121 (Or.inr (Or.inl rfl)) hA121 rfl (by omega) (by decide) (pp_q q (Or.inr (Or.inr (Or.inr rfl))) i) (by omega) ?_
    refine hz_aload_n (pc := 121) C dX2_copyFrom_121 rfl ?_
    refine hz_getP (pc := 122) C (v := 21) ffX2_37 dX2_copyFrom_122 hT12 hA12 rfl (hP12_8 q) (by decide) ?_
    refine hz_iload_n (pc := 125) C dX2_copyFrom_125 rfl ?_
    refine hz_aald (pc := 126) C (v := q 21 i) (j := i) dX2_copyFrom_126 hT21 (Or.inr (Or.inl rfl)) hA21 rfl (by omega) (by decide) (pp_q q (Or.inl rfl) i) (by omega) ?_
    refine hz_callVv (pc := 127) C (as := [.ref (q 21 i)]) (st := []) (ev_mcp (by omega) (mq_112 H (by omega)).1 (mq_12 K (by omega)).1) (hz_new0 _ _) fyX3_copyFrom fvX2_98 rfl dX2_copyFrom_127 hq0.1 rfl rfl hq0.2.1 rfl rfl (Nat.le_of_ble_eq_true rfl) (by decide) (hz_cap0 _) ?_
    refine hz_iinc (pc := 130) C (v := nI (i + 1)) (ls' := [some (.ref 112), some (.ref 12), some (.int (nI (i + 1)))]) dX2_copyFrom_130 rfl (nI_add _ 1) rfl ?_
    refine hz_goto (pc := 133) C (tgt := 109) dX2_copyFrom_133 rfl ?_
    exact ih (i + 1) (by omega)
set_option maxHeartbeats 4000000 in
set_option maxRecDepth 100000 in
theorem ev_copy112_12 {I : Nat → Nat → Int32} {L : Nat → Nat → Int64} {q : Nat → Nat → Nat} (H : HP 112 q) (K : HP 12 q) (hm : I 12 9 = 0 ∨ I 12 9 = 1) : hz_Ev mX2_copyFrom TT NN (I, L, PP q) [.ref 112, .ref 12] 0 0 none TT NN (hz_up (hz_up (hz_up (hz_up (pcp q 121 21 (mcp (cpy (cpy (cpy (cpy (cpy (cpy I 13 113 64) 14 114 64) 15 115 6) 16 116 6) 17 117 6) 18 118 6) 119 19) 8) 112 9 ((pcp q 121 21 (mcp (cpy (cpy (cpy (cpy (cpy (cpy I 13 113 64) 14 114 64) 15 115 6) 16 116 6) 17 117 6) 18 118 6) 119 19) 8) 12 9)) 112 10 ((pcp q 121 21 (mcp (cpy (cpy (cpy (cpy (cpy (cpy I 13 113 64) 14 114 64) 15 115 6) 16 116 6) 17 117 6) 18 118 6) 119 19) 8) 12 10)) 112 11 ((pcp q 121 21 (mcp (cpy (cpy (cpy (cpy (cpy (cpy I 13 113 64) 14 114 64) 15 115 6) 16 116 6) 17 117 6) 18 118 6) 119 19) 8) 12 11)) 112 12 ((pcp q 121 21 (mcp (cpy (cpy (cpy (cpy (cpy (cpy I 13 113 64) 14 114 64) 15 115 6) 16 116 6) 17 117 6) 18 118 6) 119 19) 8) 12 12), L, PP q) := by
  have hg9 : (pcp q 121 21 (mcp (cpy (cpy (cpy (cpy (cpy (cpy I 13 113 64) 14 114 64) 15 115 6) 16 116 6) 17 117 6) 18 118 6) 119 19) 8) 12 9 = I 12 9 := by
    rw [pcp_o (fun i hi => by have := mq_112 H hi; omega), mcp_o (by decide) (by decide), cpy_b (by decide), cpy_b (by decide), cpy_b (by decide), cpy_b (by decide), cpy_b (by decide), cpy_b (by decide)]
  refine hz_Ev.intro (ls := [some (.ref 112), some (.ref 12), none]) (by decide +kernel) rfl (Nat.le_of_ble_eq_true rfl) (fun X C Z _ => ?_)
  refine hz_aload_n (pc := 0) C dX2_copyFrom_0 rfl ?_
  refine hz_getP (pc := 1) C (v := 13) ffX2_9 dX2_copyFrom_1 hT12 hA12 rfl (hP12_1 q) (by decide) ?_
  refine hz_iconst (pc := 4) C (v := nI 0) dX2_copyFrom_4 (by decide +kernel) ?_
  refine hz_aload_n (pc := 5) C dX2_copyFrom_5 rfl ?_
  refine hz_getP (pc := 6) C (v := 113) ffX2_9 dX2_copyFrom_6 hT112 hA112 rfl (hP112_1 q) (by decide) ?_
  refine hz_iconst (pc := 9) C (v := nI 0) dX2_copyFrom_9 (by decide +kernel) ?_
  refine hz_aload_n (pc := 10) C dX2_copyFrom_10 rfl ?_
  refine hz_getP (pc := 11) C (v := 113) ffX2_9 dX2_copyFrom_11 hT112 hA112 rfl (hP112_1 q) (by decide) ?_
  refine hz_alen (pc := 14) C (v := nI 64) dX2_copyFrom_14 hT113 ⟨by decide, by decide⟩ hA113 rfl ?_
  refine hz_cpy (pc := 15) C (sp := 0) (dp := 0) (len := 64) fcX2_92 rfl hT13 hA13 hT113 hA113 rfl rfl rfl ⟨by decide, by decide, by decide⟩ (by decide) (by decide) dX2_copyFrom_15 (Nat.le_of_ble_eq_true rfl) (by decide) rfl ?_
  refine hz_aload_n (pc := 18) C dX2_copyFrom_18 rfl ?_
  refine hz_getP (pc := 19) C (v := 14) ffX2_15 dX2_copyFrom_19 hT12 hA12 rfl (hP12_2 q) (by decide) ?_
  refine hz_iconst (pc := 22) C (v := nI 0) dX2_copyFrom_22 (by decide +kernel) ?_
  refine hz_aload_n (pc := 23) C dX2_copyFrom_23 rfl ?_
  refine hz_getP (pc := 24) C (v := 114) ffX2_15 dX2_copyFrom_24 hT112 hA112 rfl (hP112_2 q) (by decide) ?_
  refine hz_iconst (pc := 27) C (v := nI 0) dX2_copyFrom_27 (by decide +kernel) ?_
  refine hz_aload_n (pc := 28) C dX2_copyFrom_28 rfl ?_
  refine hz_getP (pc := 29) C (v := 114) ffX2_15 dX2_copyFrom_29 hT112 hA112 rfl (hP112_2 q) (by decide) ?_
  refine hz_alen (pc := 32) C (v := nI 64) dX2_copyFrom_32 hT114 ⟨by decide, by decide⟩ hA114 rfl ?_
  refine hz_cpy (pc := 33) C (sp := 0) (dp := 0) (len := 64) fcX2_92 rfl hT14 hA14 hT114 hA114 rfl rfl rfl ⟨by decide, by decide, by decide⟩ (by decide) (by decide) dX2_copyFrom_33 (Nat.le_of_ble_eq_true rfl) (by decide) rfl ?_
  refine hz_aload_n (pc := 36) C dX2_copyFrom_36 rfl ?_
  refine hz_getP (pc := 37) C (v := 15) ffX2_18 dX2_copyFrom_37 hT12 hA12 rfl (hP12_3 q) (by decide) ?_
  refine hz_iconst (pc := 40) C (v := nI 0) dX2_copyFrom_40 (by decide +kernel) ?_
  refine hz_aload_n (pc := 41) C dX2_copyFrom_41 rfl ?_
  refine hz_getP (pc := 42) C (v := 115) ffX2_18 dX2_copyFrom_42 hT112 hA112 rfl (hP112_3 q) (by decide) ?_
  refine hz_iconst (pc := 45) C (v := nI 0) dX2_copyFrom_45 (by decide +kernel) ?_
  refine hz_bipush (pc := 46) C (v := nI 6) dX2_copyFrom_46 (by decide +kernel) ?_
  refine hz_cpy (pc := 48) C (sp := 0) (dp := 0) (len := 6) fcX2_92 rfl hT15 hA15 hT115 hA115 rfl rfl rfl ⟨by decide, by decide, by decide⟩ (by decide) (by decide) dX2_copyFrom_48 (Nat.le_of_ble_eq_true rfl) (by decide) rfl ?_
  refine hz_aload_n (pc := 51) C dX2_copyFrom_51 rfl ?_
  refine hz_getP (pc := 52) C (v := 16) ffX2_21 dX2_copyFrom_52 hT12 hA12 rfl (hP12_4 q) (by decide) ?_
  refine hz_iconst (pc := 55) C (v := nI 0) dX2_copyFrom_55 (by decide +kernel) ?_
  refine hz_aload_n (pc := 56) C dX2_copyFrom_56 rfl ?_
  refine hz_getP (pc := 57) C (v := 116) ffX2_21 dX2_copyFrom_57 hT112 hA112 rfl (hP112_4 q) (by decide) ?_
  refine hz_iconst (pc := 60) C (v := nI 0) dX2_copyFrom_60 (by decide +kernel) ?_
  refine hz_bipush (pc := 61) C (v := nI 6) dX2_copyFrom_61 (by decide +kernel) ?_
  refine hz_cpy (pc := 63) C (sp := 0) (dp := 0) (len := 6) fcX2_92 rfl hT16 hA16 hT116 hA116 rfl rfl rfl ⟨by decide, by decide, by decide⟩ (by decide) (by decide) dX2_copyFrom_63 (Nat.le_of_ble_eq_true rfl) (by decide) rfl ?_
  refine hz_aload_n (pc := 66) C dX2_copyFrom_66 rfl ?_
  refine hz_getP (pc := 67) C (v := 17) ffX2_24 dX2_copyFrom_67 hT12 hA12 rfl (hP12_5 q) (by decide) ?_
  refine hz_iconst (pc := 70) C (v := nI 0) dX2_copyFrom_70 (by decide +kernel) ?_
  refine hz_aload_n (pc := 71) C dX2_copyFrom_71 rfl ?_
  refine hz_getP (pc := 72) C (v := 117) ffX2_24 dX2_copyFrom_72 hT112 hA112 rfl (hP112_5 q) (by decide) ?_
  refine hz_iconst (pc := 75) C (v := nI 0) dX2_copyFrom_75 (by decide +kernel) ?_
  refine hz_bipush (pc := 76) C (v := nI 6) dX2_copyFrom_76 (by decide +kernel) ?_
  refine hz_cpy (pc := 78) C (sp := 0) (dp := 0) (len := 6) fcX2_92 rfl hT17 hA17 hT117 hA117 rfl rfl rfl ⟨by decide, by decide, by decide⟩ (by decide) (by decide) dX2_copyFrom_78 (Nat.le_of_ble_eq_true rfl) (by decide) rfl ?_
  refine hz_aload_n (pc := 81) C dX2_copyFrom_81 rfl ?_
  refine hz_getP (pc := 82) C (v := 18) ffX2_27 dX2_copyFrom_82 hT12 hA12 rfl (hP12_6 q) (by decide) ?_
  refine hz_iconst (pc := 85) C (v := nI 0) dX2_copyFrom_85 (by decide +kernel) ?_
  refine hz_aload_n (pc := 86) C dX2_copyFrom_86 rfl ?_
  refine hz_getP (pc := 87) C (v := 118) ffX2_27 dX2_copyFrom_87 hT112 hA112 rfl (hP112_6 q) (by decide) ?_
  refine hz_iconst (pc := 90) C (v := nI 0) dX2_copyFrom_90 (by decide +kernel) ?_
  refine hz_bipush (pc := 91) C (v := nI 6) dX2_copyFrom_91 (by decide +kernel) ?_
  refine hz_cpy (pc := 93) C (sp := 0) (dp := 0) (len := 6) fcX2_92 rfl hT18 hA18 hT118 hA118 rfl rfl rfl ⟨by decide, by decide, by decide⟩ (by decide) (by decide) dX2_copyFrom_93 (Nat.le_of_ble_eq_true rfl) (by decide) rfl ?_
  refine hz_aload_n (pc := 96) C dX2_copyFrom_96 rfl ?_
  refine hz_getP (pc := 97) C (v := 119) ffX2_33 dX2_copyFrom_97 hT112 hA112 rfl (hP112_7 q) (by decide) ?_
  refine hz_aload_n (pc := 100) C dX2_copyFrom_100 rfl ?_
  refine hz_getP (pc := 101) C (v := 19) ffX2_33 dX2_copyFrom_101 hT12 hA12 rfl (hP12_7 q) (by decide) ?_
  refine hz_callVv (pc := 104) C (as := [.ref 19]) (st := []) (ev_mcp (by omega) (mn_112 q) (mn_12 q)) (hz_new0 _ _) fyX3_copyFrom fvX2_98 rfl dX2_copyFrom_104 hT119 rfl rfl hA119 rfl rfl (Nat.le_of_ble_eq_true rfl) (by decide) (hz_cap0 _) ?_
  refine hz_iconst (pc := 107) C (v := nI 0) dX2_copyFrom_107 (by decide +kernel) ?_
  refine hz_istore_n (pc := 108) C (ls' := [some (.ref 112), some (.ref 12), some (.int (nI 0))]) dX2_copyFrom_108 (Nat.le_of_ble_eq_true rfl) rfl ?_
  refine lp_cp112_12 (J := mcp (cpy (cpy (cpy (cpy (cpy (cpy I 13 113 64) 14 114 64) 15 115 6) 16 116 6) 17 117 6) 18 118 6) 119 19) C H K ?_ 8 0 (by omega)
  refine hz_aload_n (pc := 136) C dX2_copyFrom_136 rfl ?_
  refine hz_aload_n (pc := 137) C dX2_copyFrom_137 rfl ?_
  refine hz_getI (pc := 138) C (v := (pcp q 121 21 (mcp (cpy (cpy (cpy (cpy (cpy (cpy I 13 113 64) 14 114 64) 15 115 6) 16 116 6) 17 117 6) 18 118 6) 119 19) 8) 12 9) ffX2_66 dX2_copyFrom_138 hT12 hA12 rfl rfl ?_
  refine hz_putI (pc := 141) C (M' := (hz_up (pcp q 121 21 (mcp (cpy (cpy (cpy (cpy (cpy (cpy I 13 113 64) 14 114 64) 15 115 6) 16 116 6) 17 117 6) 18 118 6) 119 19) 8) 112 9 ((pcp q 121 21 (mcp (cpy (cpy (cpy (cpy (cpy (cpy I 13 113 64) 14 114 64) 15 115 6) 16 116 6) 17 117 6) 18 118 6) 119 19) 8) 12 9), L, PP q)) ffX2_66 dX2_copyFrom_141 hT112 hA112 rfl rfl (nz_9 (by rw [hg9]; exact hm)) rfl ?_
  refine hz_aload_n (pc := 144) C dX2_copyFrom_144 rfl ?_
  refine hz_aload_n (pc := 145) C dX2_copyFrom_145 rfl ?_
  refine hz_getI (pc := 146) C (v := (pcp q 121 21 (mcp (cpy (cpy (cpy (cpy (cpy (cpy I 13 113 64) 14 114 64) 15 115 6) 16 116 6) 17 117 6) 18 118 6) 119 19) 8) 12 10) ffX2_70 dX2_copyFrom_146 hT12 hA12 rfl rfl ?_
  refine hz_putI (pc := 149) C (M' := (hz_up (hz_up (pcp q 121 21 (mcp (cpy (cpy (cpy (cpy (cpy (cpy I 13 113 64) 14 114 64) 15 115 6) 16 116 6) 17 117 6) 18 118 6) 119 19) 8) 112 9 ((pcp q 121 21 (mcp (cpy (cpy (cpy (cpy (cpy (cpy I 13 113 64) 14 114 64) 15 115 6) 16 116 6) 17 117 6) 18 118 6) 119 19) 8) 12 9)) 112 10 ((pcp q 121 21 (mcp (cpy (cpy (cpy (cpy (cpy (cpy I 13 113 64) 14 114 64) 15 115 6) 16 116 6) 17 117 6) 18 118 6) 119 19) 8) 12 10), L, PP q)) ffX2_70 dX2_copyFrom_149 hT112 hA112 rfl rfl ⟨rfl, rfl⟩ rfl ?_
  refine hz_aload_n (pc := 152) C dX2_copyFrom_152 rfl ?_
  refine hz_aload_n (pc := 153) C dX2_copyFrom_153 rfl ?_
  refine hz_getI (pc := 154) C (v := (pcp q 121 21 (mcp (cpy (cpy (cpy (cpy (cpy (cpy I 13 113 64) 14 114 64) 15 115 6) 16 116 6) 17 117 6) 18 118 6) 119 19) 8) 12 11) ffX2_74 dX2_copyFrom_154 hT12 hA12 rfl rfl ?_
  refine hz_putI (pc := 157) C (M' := (hz_up (hz_up (hz_up (pcp q 121 21 (mcp (cpy (cpy (cpy (cpy (cpy (cpy I 13 113 64) 14 114 64) 15 115 6) 16 116 6) 17 117 6) 18 118 6) 119 19) 8) 112 9 ((pcp q 121 21 (mcp (cpy (cpy (cpy (cpy (cpy (cpy I 13 113 64) 14 114 64) 15 115 6) 16 116 6) 17 117 6) 18 118 6) 119 19) 8) 12 9)) 112 10 ((pcp q 121 21 (mcp (cpy (cpy (cpy (cpy (cpy (cpy I 13 113 64) 14 114 64) 15 115 6) 16 116 6) 17 117 6) 18 118 6) 119 19) 8) 12 10)) 112 11 ((pcp q 121 21 (mcp (cpy (cpy (cpy (cpy (cpy (cpy I 13 113 64) 14 114 64) 15 115 6) 16 116 6) 17 117 6) 18 118 6) 119 19) 8) 12 11), L, PP q)) ffX2_74 dX2_copyFrom_157 hT112 hA112 rfl rfl ⟨rfl, rfl⟩ rfl ?_
  refine hz_aload_n (pc := 160) C dX2_copyFrom_160 rfl ?_
  refine hz_aload_n (pc := 161) C dX2_copyFrom_161 rfl ?_
  refine hz_getI (pc := 162) C (v := (pcp q 121 21 (mcp (cpy (cpy (cpy (cpy (cpy (cpy I 13 113 64) 14 114 64) 15 115 6) 16 116 6) 17 117 6) 18 118 6) 119 19) 8) 12 12) ffX2_77 dX2_copyFrom_162 hT12 hA12 rfl rfl ?_
  refine hz_putI (pc := 165) C (M' := (hz_up (hz_up (hz_up (hz_up (pcp q 121 21 (mcp (cpy (cpy (cpy (cpy (cpy (cpy I 13 113 64) 14 114 64) 15 115 6) 16 116 6) 17 117 6) 18 118 6) 119 19) 8) 112 9 ((pcp q 121 21 (mcp (cpy (cpy (cpy (cpy (cpy (cpy I 13 113 64) 14 114 64) 15 115 6) 16 116 6) 17 117 6) 18 118 6) 119 19) 8) 12 9)) 112 10 ((pcp q 121 21 (mcp (cpy (cpy (cpy (cpy (cpy (cpy I 13 113 64) 14 114 64) 15 115 6) 16 116 6) 17 117 6) 18 118 6) 119 19) 8) 12 10)) 112 11 ((pcp q 121 21 (mcp (cpy (cpy (cpy (cpy (cpy (cpy I 13 113 64) 14 114 64) 15 115 6) 16 116 6) 17 117 6) 18 118 6) 119 19) 8) 12 11)) 112 12 ((pcp q 121 21 (mcp (cpy (cpy (cpy (cpy (cpy (cpy I 13 113 64) 14 114 64) 15 115 6) 16 116 6) 17 117 6) 18 118 6) 119 19) 8) 12 12), L, PP q)) ffX2_77 dX2_copyFrom_165 hT112 hA112 rfl rfl ⟨rfl, rfl⟩ rfl ?_
  exact hz_vret C Z rfl dX2_copyFrom_168 rfl

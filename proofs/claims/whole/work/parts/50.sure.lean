set_option maxHeartbeats 4000000 in
set_option maxRecDepth 100000 in
theorem lp_wp {X : hz_X} (C : hz_C X mX7_worstPart) {J : Nat → Nat → Int32} {L : Nat → Nat → Int64} {q : Nat → Nat → Nat} {u : Nat → Nat} (U : WU u) {s : Nat} (hs : s < 2 ^ u 64) (hA : ∀ r, r < 8 → ∀ k, k < u 64 → J 5 (r * 6 + k) = nI (al u r k)) (hT : ∀ r k, r < 8 → k < 6 → bt s k = true → pa u s r k ≠ s → J 6 (pa u s r k) = nI (SV u (pa u s r k)).1) {r : Nat} (hr : r < 8) (Z : hz_Z X 0 0 (some (.int (nI (wp u (SV u) s r)))) TT NN (J, L, PP q))  : ∀ (n k : Nat) (zzw5 : Option Value), k + n = 6 → anyb (wany u s r) k = false → hz_G X TT NN (J, L, PP q) 0 0 5 [some (.ref 4), some (.int (nI s)), some (.int (nI r)), some (.int (nI (mxf (wk u (SV u) s r) k))), some (.int (nI k)), zzw5] [] := by
  intro n
  induction n with
  | zero =>
    intro k zzw5 hi hf
    obtain rfl : 6 = k := by omega
    refine hz_iload (pc := 5) C dX7_worstPart_5 rfl ?_
    refine hz_bipush (pc := 7) C (v := nI 6) dX7_worstPart_7 (by decide +kernel) ?_
    refine hz_ic_ge (pc := 9) C (tgt := 64) dX7_worstPart_9 rfl (fun _ => ?_) (fun cq => absurd (nI_le (by omega) (by omega)) cq)
    refine hz_iload_n (pc := 64) C dX7_worstPart_64 rfl ?_
    exact hz_iret C Z rfl dX7_worstPart_65 (congrArg nI (show mxf (wk u (SV u) s r) 6 = wp u (SV u) s r from (if_neg (by rw [hf]; decide)).symm)) rfl
  | succ n ih =>
    intro k zzw5 hi hf
    have hal := wu_al U
    have h64 := pw64 U hs
    have hpl := pa_le U hs r k
    have hsb : (SV u (pa u s r k)).1 ≤ 100 := by
      rcases SV_ok U (s := pa u s r k) (bsum_lt _ _) with h | h <;> omega
    have hmb : mxf (wk u (SV u) s r) k ≤ 100 := mxf_le (fun j => by
      unfold wk
      split
      · have := pa_le U hs r j
        rcases SV_ok U (s := pa u s r j) (bsum_lt _ _) with h | h <;> omega
      · omega) k
    refine hz_iload (pc := 5) C dX7_worstPart_5 rfl ?_
    refine hz_bipush (pc := 7) C (v := nI 6) dX7_worstPart_7 (by decide +kernel) ?_
    refine hz_ic_ge (pc := 9) C (tgt := 64) dX7_worstPart_9 rfl (fun cq => absurd cq (nI_ge (by omega) (by omega))) (fun _ => ?_)
    refine hz_iload_n (pc := 12) C dX7_worstPart_12 rfl ?_
    refine hz_iload (pc := 13) C dX7_worstPart_13 rfl ?_
    refine hz_callSNs (pc := 15) C (as := [.int (nI s), .int (nI k)]) (st := []) (ev_hasN _ (pw64 U hs) (by omega)) (hz_new0 _ _) fyX10_has fsX7_56 rfl dX7_worstPart_15 rfl rfl (Nat.le_of_ble_eq_true rfl) (by decide) (hz_cap0 _) ?_
    refine hz_ifb_eq (pc := 18) C (tgt := 58) dX7_worstPart_18 rfl (fun zzc1 => ?_) (fun zzc1 => ?_)
    · refine hz_iinc (pc := 58) C (v := nI (k + 1)) (ls' := [some (.ref 4), some (.int (nI s)), some (.int (nI r)), some (.int (nI (mxf (wk u (SV u) s r) k))), some (.int (nI (k + 1))), zzw5]) dX7_worstPart_58 rfl (nI_add _ 1) rfl ?_
      refine hz_goto (pc := 61) C (tgt := 5) dX7_worstPart_61 rfl ?_
      have h9 := ih (k + 1) zzw5 (by omega) (by rw [anyb_f (by unfold wany; rw [Bool.eq_false_iff.mpr zzc1, Bool.false_and]; decide)]; exact hf)
      rw [show mxf (wk u (SV u) s r) (k + 1) = mxf (wk u (SV u) s r) k by show max _ (wk u (SV u) s r k) = _; rw [show wk u (SV u) s r k = 0 from if_neg zzc1]; omega] at h9
      exact h9
    · refine hz_iload_n (pc := 21) C dX7_worstPart_21 rfl ?_
      refine hz_aload_n (pc := 22) C dX7_worstPart_22 rfl ?_
      refine hz_getP (pc := 23) C (v := 5) ffX7_9 dX7_worstPart_23 hT4 hA4 rfl (hP4_0 q) (by decide) ?_
      refine hz_iload_n (pc := 26) C dX7_worstPart_26 rfl ?_
      refine hz_bipush (pc := 27) C (v := nI 6) dX7_worstPart_27 (by decide +kernel) ?_
      refine hz_imul (pc := 29) C (v := nI (r * 6)) dX7_worstPart_29 (pk_mul _ _) ?_
      refine hz_iload (pc := 30) C dX7_worstPart_30 rfl ?_
      refine hz_iadd (pc := 32) C (v := nI ((r * 6) + k)) dX7_worstPart_32 (nI_add _ _) ?_
      refine hz_iald (pc := 33) C (v := nI (al u r k)) (j := (r * 6) + k) dX7_worstPart_33 hT5 hA5 rfl (by omega) (by decide) (hA r hr k (bt_lt hs zzc1)) ?_
      refine hz_iand (pc := 34) C (v := nI (pa u s r k)) dX7_worstPart_34 (and_b (wu_al U) hs _) ?_
      refine hz_istore (pc := 35) C (ls' := [some (.ref 4), some (.int (nI s)), some (.int (nI r)), some (.int (nI (mxf (wk u (SV u) s r) k))), some (.int (nI k)), some (.int (nI (pa u s r k)))]) dX7_worstPart_35 (Nat.le_of_ble_eq_true rfl) rfl ?_
      refine hz_iload (pc := 37) C dX7_worstPart_37 rfl ?_
      refine hz_iload_n (pc := 39) C dX7_worstPart_39 rfl ?_
      refine hz_ic_ne (pc := 40) C (tgt := 46) dX7_worstPart_40 rfl (fun zzc2 => ?_) (fun zzc2 => ?_)
      · have hne : pa u s r k ≠ s := fun z => zzc2 ((nI_eq (by omega) (by omega)).mpr z)
        refine hz_iload_n (pc := 46) C dX7_worstPart_46 rfl ?_
        refine hz_aload_n (pc := 47) C dX7_worstPart_47 rfl ?_
        refine hz_getP (pc := 48) C (v := 6) ffX7_15 dX7_worstPart_48 hT4 hA4 rfl (hP4_1 q) (by decide) ?_
        refine hz_iload (pc := 51) C dX7_worstPart_51 rfl ?_
        refine hz_iald (pc := 53) C (v := nI (SV u (pa u s r k)).1) (j := pa u s r k) dX7_worstPart_53 hT6 hA6 rfl (by omega) (by decide) (hT r k hr (by omega) zzc1 hne) ?_
        refine hz_mmax (pc := 54) C fsX7_60 rfl dX7_worstPart_54 (Nat.le_of_ble_eq_true rfl) (by decide) (And.intro (Nat.zero_le _) (Nat.zero_le _)) ?_
        refine hz_istore_n (pc := 57) C (ls' := [some (.ref 4), some (.int (nI s)), some (.int (nI r)), some (.int (if nI (mxf (wk u (SV u) s r) k) < nI (SV u (pa u s r k)).1 then nI (SV u (pa u s r k)).1 else nI (mxf (wk u (SV u) s r) k))), some (.int (nI k)), some (.int (nI (pa u s r k)))]) dX7_worstPart_57 (Nat.le_of_ble_eq_true rfl) rfl ?_
        refine hz_iinc (pc := 58) C (v := nI (k + 1)) (ls' := [some (.ref 4), some (.int (nI s)), some (.int (nI r)), some (.int (if nI (mxf (wk u (SV u) s r) k) < nI (SV u (pa u s r k)).1 then nI (SV u (pa u s r k)).1 else nI (mxf (wk u (SV u) s r) k))), some (.int (nI (k + 1))), some (.int (nI (pa u s r k)))]) dX7_worstPart_58 rfl (nI_add _ 1) rfl ?_
        refine hz_goto (pc := 61) C (tgt := 5) dX7_worstPart_61 rfl ?_
        have h9 := ih (k + 1) (some (.int (nI (pa u s r k)))) (by omega) (by rw [anyb_f (by unfold wany; rw [zzc1, decide_eq_false hne]; decide)]; exact hf)
        rw [mx_n (by omega) (by omega)]
        rw [show mxf (wk u (SV u) s r) (k + 1) = max (mxf (wk u (SV u) s r) k) (SV u (pa u s r k)).1 by show max _ (wk u (SV u) s r k) = _; rw [show wk u (SV u) s r k = (SV u (pa u s r k)).1 from if_pos zzc1]] at h9
        exact h9
      · have heq : pa u s r k = s := (nI_eq (by omega) (by omega)).mp zzc2
        refine hz_bipush (pc := 43) C (v := nI 100) dX7_worstPart_43 (by decide +kernel) ?_
        exact hz_iret C Z rfl dX7_worstPart_45 (congrArg nI (show (100 : Nat) = wp u (SV u) s r from (if_pos (anyb_of (f := wany u s r) (show k < 6 by omega) (by unfold wany; rw [zzc1, decide_eq_true heq]; rfl))).symm)) rfl
set_option maxHeartbeats 4000000 in
set_option maxRecDepth 100000 in
theorem ev_worst {J : Nat → Nat → Int32} {L : Nat → Nat → Int64} {q : Nat → Nat → Nat} {u : Nat → Nat} (U : WU u) {s : Nat} (hs : s < 2 ^ u 64) (hA : ∀ r, r < 8 → ∀ k, k < u 64 → J 5 (r * 6 + k) = nI (al u r k)) (hT : ∀ r k, r < 8 → k < 6 → bt s k = true → pa u s r k ≠ s → J 6 (pa u s r k) = nI (SV u (pa u s r k)).1) {r : Nat} (hr : r < 8) : hz_Ev mX7_worstPart TT NN (J, L, PP q) [.ref 4, .int (nI s), .int (nI r)] 0 0 (some (.int (nI (wp u (SV u) s r)))) TT NN (J, L, PP q) := by
  refine hz_Ev.intro (ls := [some (.ref 4), some (.int (nI s)), some (.int (nI r)), none, none, none]) (by decide +kernel) rfl (Nat.le_of_ble_eq_true rfl) (fun X C Z _ => ?_)
  refine hz_iconst (pc := 0) C (v := nI 0) dX7_worstPart_0 (by decide +kernel) ?_
  refine hz_istore_n (pc := 1) C (ls' := [some (.ref 4), some (.int (nI s)), some (.int (nI r)), some (.int (nI 0)), none, none]) dX7_worstPart_1 (Nat.le_of_ble_eq_true rfl) rfl ?_
  refine hz_iconst (pc := 2) C (v := nI 0) dX7_worstPart_2 (by decide +kernel) ?_
  refine hz_istore (pc := 3) C (ls' := [some (.ref 4), some (.int (nI s)), some (.int (nI r)), some (.int (nI 0)), some (.int (nI 0)), none]) dX7_worstPart_3 (Nat.le_of_ble_eq_true rfl) rfl ?_
  exact lp_wp C U hs hA hT hr Z 6 0 _ (by omega) rfl
def sC (J K : Nat → Nat → Int32) (s : Nat) : Prop := (∀ a, a ≠ 6 → a ≠ 7 → K a = J a) ∧ ∀ p, p ≠ s → K 6 p = J 6 p ∧ K 7 p = J 7 p
theorem sC.rf (J : Nat → Nat → Int32) (s : Nat) : sC J J s := ⟨fun _ _ _ => rfl, fun _ _ => ⟨rfl, rfl⟩⟩
theorem sC.u6 {J K : Nat → Nat → Int32} {s : Nat} (h : sC J K s) (x : Int32) : sC J (hz_up K 6 s x) s := ⟨fun a h1 h2 => (hz_up_ne _ _ _ _ h1).trans (h.1 a h1 h2), fun p hp => ⟨(hz_up_nk _ _ _ _ hp).trans (h.2 p hp).1, by rw [hz_up_ne _ _ _ _ (by omega)]; exact (h.2 p hp).2⟩⟩
theorem sC.u7 {J K : Nat → Nat → Int32} {s : Nat} (h : sC J K s) (x : Int32) : sC J (hz_up K 7 s x) s := ⟨fun a h1 h2 => (hz_up_ne _ _ _ _ h2).trans (h.1 a h1 h2), fun p hp => ⟨by rw [hz_up_ne _ _ _ _ (by omega)]; exact (h.2 p hp).1, (hz_up_nk _ _ _ _ hp).trans (h.2 p hp).2⟩⟩
def sR (u : Nat → Nat) (J K : Nat → Nat → Int32) (s r : Nat) : Prop := sC J K s ∧ K 6 s = nI (sfold u (SV u) s r).1 ∧ K 7 s = nI (sfold u (SV u) s r).2
set_option maxHeartbeats 4000000 in
set_option maxRecDepth 100000 in
theorem lp_se {X : hz_X} (C : hz_C X mX7_settle) {J : Nat → Nat → Int32} {L : Nat → Nat → Int64} {q : Nat → Nat → Nat} {u : Nat → Nat} (U : WU u) {s : Nat} (hs : s < 2 ^ u 64) (h0 : 0 < s) (hA : ∀ r, r < 8 → ∀ k, k < u 64 → J 5 (r * 6 + k) = nI (al u r k)) (hT : ∀ r k, r < 8 → k < 6 → bt s k = true → pa u s r k ≠ s → J 6 (pa u s r k) = nI (SV u (pa u s r k)).1) (kk : ∀ (K : Nat → Nat → Int32) (zzw3 : Option Value), sR u J K s 8 → hz_G X TT NN (K, L, PP q) 0 0 78 [some (.ref 4), some (.int (nI s)), some (.int (nI 8)), zzw3] []) : ∀ (n r : Nat) (K : Nat → Nat → Int32) (zzw3 : Option Value), r + n = 8 → sR u J K s r → hz_G X TT NN (K, L, PP q) 0 0 33 [some (.ref 4), some (.int (nI s)), some (.int (nI r)), zzw3] [] := by
  intro n
  induction n with
  | zero =>
    intro r K zzw3 hi hK
    obtain rfl : 8 = r := by omega
    refine hz_iload_n (pc := 33) C dX7_settle_33 rfl ?_
    refine hz_bipush (pc := 34) C (v := nI 8) dX7_settle_34 (by decide +kernel) ?_
    refine hz_ic_ge (pc := 36) C (tgt := 78) dX7_settle_36 rfl (fun _ => ?_) (fun cq => absurd (nI_le (by omega) (by omega)) cq)
    exact kk K zzw3 hK
  | succ n ih =>
    intro r K zzw3 hi hK
    have hal := wu_al U
    have h64 := pw64 U hs
    have hB := SV_bd U s (by omega)
    have hsf := sfold_bd U hs hB h0 r
    have hwp := wp_bd U hs hB h0 r
    have hwl : wp u (SV u) s r ≤ 100 := by
      unfold wp
      split
      · omega
      · exact mxf_le (fun j => by
          unfold wk
          split
          · have := pa_le U hs r j
            rcases SV_ok U (s := pa u s r j) (bsum_lt _ _) with h | h <;> omega
          · omega) 6
    refine hz_iload_n (pc := 33) C dX7_settle_33 rfl ?_
    refine hz_bipush (pc := 34) C (v := nI 8) dX7_settle_34 (by decide +kernel) ?_
    refine hz_ic_ge (pc := 36) C (tgt := 78) dX7_settle_36 rfl (fun cq => absurd cq (nI_ge (by omega) (by omega))) (fun _ => ?_)
    refine hz_iconst (pc := 39) C (v := nI 1) dX7_settle_39 (by decide +kernel) ?_
    refine hz_aload_n (pc := 40) C dX7_settle_40 rfl ?_
    refine hz_iload_n (pc := 41) C dX7_settle_41 rfl ?_
    refine hz_iload_n (pc := 42) C dX7_settle_42 rfl ?_
    refine hz_callVs (pc := 43) C (as := [.int (nI s), .int (nI r)]) (st := [.int (nI 1)]) (ev_worst U hs (fun r hr k hk => by rw [hK.1.1 5 (by omega) (by omega)]; exact hA r hr k hk) (fun r k hr hk hb hne => by rw [(hK.1.2 _ hne).1]; exact hT r k hr hk hb hne) (r := r) (by omega)) (hz_new0 _ _) fyX7_worstPart fvX7_53 rfl dX7_settle_43 hT4 rfl rfl hA4 rfl rfl (Nat.le_of_ble_eq_true rfl) (by decide) (hz_cap0 _) ?_
    refine hz_iadd (pc := 46) C (v := nI (1 + (wp u (SV u) s r))) dX7_settle_46 (nI_add _ _) ?_
    refine hz_istore_n (pc := 47) C (ls' := [some (.ref 4), some (.int (nI s)), some (.int (nI r)), some (.int (nI (1 + (wp u (SV u) s r))))]) dX7_settle_47 (Nat.le_of_ble_eq_true rfl) rfl ?_
    refine hz_iload_n (pc := 48) C dX7_settle_48 rfl ?_
    refine hz_aload_n (pc := 49) C dX7_settle_49 rfl ?_
    refine hz_getP (pc := 50) C (v := 6) ffX7_15 dX7_settle_50 hT4 hA4 rfl (hP4_1 q) (by decide) ?_
    refine hz_iload_n (pc := 53) C dX7_settle_53 rfl ?_
    refine hz_iald (pc := 54) C (v := nI (sfold u (SV u) s r).1) (j := s) dX7_settle_54 hT6 hA6 rfl (by omega) (by decide) hK.2.1 ?_
    refine hz_ic_ge (pc := 55) C (tgt := 72) dX7_settle_55 rfl (fun zzc1 => ?_) (fun zzc1 => ?_)
    · refine hz_iinc (pc := 72) C (v := nI (r + 1)) (ls' := [some (.ref 4), some (.int (nI s)), some (.int (nI (r + 1))), some (.int (nI (1 + (wp u (SV u) s r))))]) dX7_settle_72 rfl (nI_add _ 1) rfl ?_
      refine hz_goto (pc := 75) C (tgt := 33) dX7_settle_75 rfl ?_
      exact ih (r + 1) K (some (.int (nI (1 + (wp u (SV u) s r))))) (by omega) (by have hf : sfold u (SV u) s (r + 1) = sfold u (SV u) s r := if_neg (fun z => nI_ge z (by omega) zzc1); exact ⟨hK.1, by rw [hf]; exact hK.2.1, by rw [hf]; exact hK.2.2⟩)
    · refine hz_aload_n (pc := 58) C dX7_settle_58 rfl ?_
      refine hz_getP (pc := 59) C (v := 6) ffX7_15 dX7_settle_59 hT4 hA4 rfl (hP4_1 q) (by decide) ?_
      refine hz_iload_n (pc := 62) C dX7_settle_62 rfl ?_
      refine hz_iload_n (pc := 63) C dX7_settle_63 rfl ?_
      refine hz_iast (pc := 64) C (v := nI (1 + (wp u (SV u) s r))) (j := s) (M' := (hz_up K 6 s (nI (1 + (wp u (SV u) s r))), L, PP q)) dX7_settle_64 hT6 hA6 rfl (by omega) (by decide) rfl rfl ?_
      refine hz_aload_n (pc := 65) C dX7_settle_65 rfl ?_
      refine hz_getP (pc := 66) C (v := 7) ffX7_18 dX7_settle_66 hT4 hA4 rfl (hP4_2 q) (by decide) ?_
      refine hz_iload_n (pc := 69) C dX7_settle_69 rfl ?_
      refine hz_iload_n (pc := 70) C dX7_settle_70 rfl ?_
      refine hz_iast (pc := 71) C (v := nI r) (j := s) (M' := (hz_up (hz_up K 6 s (nI (1 + (wp u (SV u) s r)))) 7 s (nI r), L, PP q)) dX7_settle_71 hT7 hA7 rfl (by omega) (by decide) rfl rfl ?_
      refine hz_iinc (pc := 72) C (v := nI (r + 1)) (ls' := [some (.ref 4), some (.int (nI s)), some (.int (nI (r + 1))), some (.int (nI (1 + (wp u (SV u) s r))))]) dX7_settle_72 rfl (nI_add _ 1) rfl ?_
      refine hz_goto (pc := 75) C (tgt := 33) dX7_settle_75 rfl ?_
      exact ih (r + 1) _ (some (.int (nI (1 + (wp u (SV u) s r))))) (by omega) (by have hf : sfold u (SV u) s (r + 1) = (1 + wp u (SV u) s r, r) := if_pos (Nat.lt_of_not_le fun z => zzc1 (nI_le z (by omega))); exact ⟨(hK.1.u6 _).u7 _, by rw [hf, hz_up_ne _ _ _ _ (by omega), hz_up_self], by rw [hf, hz_up_self]⟩)
set_option maxHeartbeats 4000000 in
set_option maxRecDepth 100000 in
theorem ex_settle {J : Nat → Nat → Int32} {L : Nat → Nat → Int64} {q : Nat → Nat → Nat} {u : Nat → Nat} (U : WU u) {s : Nat} (hs : s < 2 ^ u 64) (h0 : 0 < s) (hA : ∀ r, r < 8 → ∀ k, k < u 64 → J 5 (r * 6 + k) = nI (al u r k)) (hT : ∀ r k, r < 8 → k < 6 → bt s k = true → pa u s r k ≠ s → J 6 (pa u s r k) = nI (SV u (pa u s r k)).1) : hz_Ex mX7_settle TT NN (J, L, PP q) [.ref 4, .int (nI s)] (hz_PI L (PP q) none (fun K => sC J K s ∧ K 6 s = nI (SV u s).1 ∧ K 7 s = nI (SV u s).2)) := by
  have hal := wu_al U
  have h64 := pw64 U hs
  have hcl := csum_le (bt s) 6
  refine hz_Ex.intro (ls := [some (.ref 4), some (.int (nI s)), none, none]) (by decide +kernel) rfl (Nat.le_of_ble_eq_true rfl) (fun X C Z => ?_)
  refine hz_aload_n (pc := 0) C dX7_settle_0 rfl ?_
  refine hz_getP (pc := 1) C (v := 7) ffX7_18 dX7_settle_1 hT4 hA4 rfl (hP4_2 q) (by decide) ?_
  refine hz_iload_n (pc := 4) C dX7_settle_4 rfl ?_
  refine hz_iconst (pc := 5) C (v := nI 0) dX7_settle_5 (by decide +kernel) ?_
  refine hz_iast (pc := 6) C (v := nI 0) (j := s) (M' := (hz_up J 7 s (nI 0), L, PP q)) dX7_settle_6 hT7 hA7 rfl (by omega) (by decide) rfl rfl ?_
  refine hz_iload_n (pc := 7) C dX7_settle_7 rfl ?_
  refine hz_callSs (pc := 8) C (as := [.int (nI s)]) (st := []) (by have h9 := ev_bitCount (T := TT) (n := NN) (hz_up J 7 s (nI 0), L, PP q) (nI s); rw [bc_6 (pw64 U hs)] at h9; exact h9) (hz_new0 _ _) fyJ6_bitCount_0f7a4 fsX7_47 rfl dX7_settle_8 rfl rfl (Nat.le_of_ble_eq_true rfl) (by decide) (hz_cap0 _) ?_
  refine hz_iconst (pc := 11) C (v := nI 1) dX7_settle_11 (by decide +kernel) ?_
  refine hz_ic_ne (pc := 12) C (tgt := 23) dX7_settle_12 rfl (fun zzc1 => ?_) (fun zzc1 => ?_)
  · refine hz_aload_n (pc := 23) C dX7_settle_23 rfl ?_
    refine hz_getP (pc := 24) C (v := 6) ffX7_15 dX7_settle_24 hT4 hA4 rfl (hP4_1 q) (by decide) ?_
    refine hz_iload_n (pc := 27) C dX7_settle_27 rfl ?_
    refine hz_bipush (pc := 28) C (v := nI 100) dX7_settle_28 (by decide +kernel) ?_
    refine hz_iast (pc := 30) C (v := nI 100) (j := s) (M' := (hz_up (hz_up J 7 s (nI 0)) 6 s (nI 100), L, PP q)) dX7_settle_30 hT6 hA6 rfl (by omega) (by decide) rfl rfl ?_
    refine hz_iconst (pc := 31) C (v := nI 0) dX7_settle_31 (by decide +kernel) ?_
    refine hz_istore_n (pc := 32) C (ls' := [some (.ref 4), some (.int (nI s)), some (.int (nI 0)), none]) dX7_settle_32 (Nat.le_of_ble_eq_true rfl) rfl ?_
    have hcs2 : ¬ csum (bt s) 6 < 2 := fun z => zzc1 ((nI_eq (by omega) (by omega)).mpr (by have := cs0 (pw64 U hs) h0; omega))
    refine lp_se C U hs h0 hA hT (fun K zzw3 hK => ?_) 8 0 _ _ (by omega) ⟨((sC.rf J s).u7 _).u6 _, hz_up_self _ _ _ _, by rw [hz_up_ne _ _ _ _ (by omega), hz_up_self]; rfl⟩
    exact hz_vretx C Z rfl dX7_settle_78 ⟨K, rfl, rfl, hK.1, by rw [SV_eq U hs, cell, if_neg hcs2]; exact hK.2.1, by rw [SV_eq U hs, cell, if_neg hcs2]; exact hK.2.2⟩
  · refine hz_aload_n (pc := 15) C dX7_settle_15 rfl ?_
    refine hz_getP (pc := 16) C (v := 6) ffX7_15 dX7_settle_16 hT4 hA4 rfl (hP4_1 q) (by decide) ?_
    refine hz_iload_n (pc := 19) C dX7_settle_19 rfl ?_
    refine hz_iconst (pc := 20) C (v := nI 0) dX7_settle_20 (by decide +kernel) ?_
    refine hz_iast (pc := 21) C (v := nI 0) (j := s) (M' := (hz_up (hz_up J 7 s (nI 0)) 6 s (nI 0), L, PP q)) dX7_settle_21 hT6 hA6 rfl (by omega) (by decide) rfl rfl ?_
    exact hz_vretx C Z rfl dX7_settle_22 ⟨_, rfl, rfl, ((sC.rf J s).u7 _).u6 _, by rw [hz_up_self, SV_eq U hs, cell, if_pos (by have h9 := (nI_eq (by omega) (by omega)).mp zzc1; omega)], by rw [hz_up_ne _ _ _ _ (by omega), hz_up_self, SV_eq U hs, cell, if_pos (by have h9 := (nI_eq (by omega) (by omega)).mp zzc1; omega)]⟩
def sA (u : Nat → Nat) (J K : Nat → Nat → Int32) (a s : Nat) : Prop := (∀ b, b ≠ 6 → b ≠ 7 → K b = J b) ∧ ∀ p, 0 < p → p < s → sub p a → K 6 p = nI (SV u p).1 ∧ K 7 p = nI (SV u p).2
set_option maxHeartbeats 4000000 in
set_option maxRecDepth 100000 in
theorem lp_sa {X : hz_X} (C : hz_C X mX7_settleAll) {J : Nat → Nat → Int32} {L : Nat → Nat → Int64} {q : Nat → Nat → Nat} {u : Nat → Nat} (U : WU u) {a : Nat} (ha : a < 2 ^ u 64) (ha0 : 0 < a) (hA : ∀ r, r < 8 → ∀ k, k < u 64 → J 5 (r * 6 + k) = nI (al u r k)) (kk : ∀ (K : Nat → Nat → Int32), sA u J K a (a + 1) → hz_G X TT NN (K, L, PP q) 0 0 35 [some (.ref 4), some (.int (nI a)), some (.int (nI (a + 1)))] []) : ∀ (n s : Nat) (K : Nat → Nat → Int32), s + n = a + 1 → 0 < s → sA u J K a s → hz_G X TT NN (K, L, PP q) 0 0 2 [some (.ref 4), some (.int (nI a)), some (.int (nI s))] [] := by
  intro n
  induction n with
  | zero =>
    intro s K hi h1s hK
    obtain rfl : a + 1 = s := by omega
    have h64 := pw64 U ha
    refine hz_iload_n (pc := 2) C dX7_settleAll_2 rfl ?_
    refine hz_iload_n (pc := 3) C dX7_settleAll_3 rfl ?_
    refine hz_ic_gt (pc := 4) C (tgt := 35) dX7_settleAll_4 rfl (fun _ => ?_) (fun cq => absurd (nI_lt (by omega) (by omega)) cq)
    exact kk K hK
  | succ n ih =>
    intro s K hi h1s hK
    have hal := wu_al U
    have h64 := pw64 U ha
    refine hz_iload_n (pc := 2) C dX7_settleAll_2 rfl ?_
    refine hz_iload_n (pc := 3) C dX7_settleAll_3 rfl ?_
    refine hz_ic_gt (pc := 4) C (tgt := 35) dX7_settleAll_4 rfl (fun cq => absurd cq (nI_nlt (by omega) (by omega))) (fun _ => ?_)
    refine hz_iload_n (pc := 7) C dX7_settleAll_7 rfl ?_
    refine hz_aload_n (pc := 8) C dX7_settleAll_8 rfl ?_
    refine hz_getP (pc := 9) C (v := 6) ffX7_15 dX7_settleAll_9 hT4 hA4 rfl (hP4_1 q) (by decide) ?_
    refine hz_alen (pc := 12) C (v := nI 64) dX7_settleAll_12 hT6 ⟨by decide, by decide⟩ hA6 rfl ?_
    refine hz_ic_ge (pc := 13) C (tgt := 35) dX7_settleAll_13 rfl (fun cq => absurd cq (nI_ge (by omega) (by omega))) (fun _ => ?_)
    refine hz_iload_n (pc := 16) C dX7_settleAll_16 rfl ?_
    refine hz_iload_n (pc := 17) C dX7_settleAll_17 rfl ?_
    refine hz_iconst (pc := 18) C (v := (-1 : Int32)) dX7_settleAll_18 (by decide +kernel) ?_
    refine hz_ixor (pc := 19) C dX7_settleAll_19 rfl ?_
    refine hz_iand (pc := 20) C dX7_settleAll_20 rfl ?_
    refine hz_if_ne (pc := 21) C (tgt := 29) dX7_settleAll_21 rfl (fun zzc1 => ?_) (fun zzc1 => ?_)
    · refine hz_iinc (pc := 29) C (v := nI (s + 1)) (ls' := [some (.ref 4), some (.int (nI a)), some (.int (nI (s + 1)))]) dX7_settleAll_29 rfl (nI_add _ 1) rfl ?_
      refine hz_goto (pc := 32) C (tgt := 2) dX7_settleAll_32 rfl ?_
      refine ih (s + 1) K (by omega) (by omega) ⟨hK.1, fun p hp hps hpa => hK.2 p hp ?_ hpa⟩
      by_cases hz : p = s
      · subst hz; exact absurd ((sub_i (by omega) (by omega)).mpr hpa) zzc1
      · omega
    · have hsb : sub s a := (sub_i (by omega) (by omega)).mp zzc1
      refine hz_aload_n (pc := 24) C dX7_settleAll_24 rfl ?_
      refine hz_iload_n (pc := 25) C dX7_settleAll_25 rfl ?_
      refine hz_callVxv (pc := 26) C (as := [.int (nI s)]) (st := []) (ex_settle U (s := s) (by omega) h1s (fun r hr k hk => by rw [hK.1 5 (by omega) (by omega)]; exact hA r hr k hk) (fun r k hr hk hb hne => (hK.2 _ (pa_pos U (by omega) hb) (by have := pa_le U (s := s) (by omega) r k; omega) (sub_pa U hsb)).1)) fyX7_settle fvX7_43 rfl dX7_settleAll_26 hT4 rfl rfl hA4 rfl rfl (Nat.le_of_ble_eq_true rfl) (by decide) (hz_cap0 _) (fun K1 h1 => ?_)
      refine hz_iinc (pc := 29) C (v := nI (s + 1)) (ls' := [some (.ref 4), some (.int (nI a)), some (.int (nI (s + 1)))]) dX7_settleAll_29 rfl (nI_add _ 1) rfl ?_
      refine hz_goto (pc := 32) C (tgt := 2) dX7_settleAll_32 rfl ?_
      refine ih (s + 1) K1 (by omega) (by omega) ⟨fun b hb1 hb2 => (h1.1.1 b hb1 hb2).trans (hK.1 b hb1 hb2), fun p hp hps hpa => ?_⟩
      by_cases hz : p = s
      · subst hz; exact h1.2
      · have h9 := h1.1.2 p hz
        rw [h9.1, h9.2]
        exact hK.2 p hp (by omega) hpa
set_option maxHeartbeats 4000000 in
set_option maxRecDepth 100000 in
theorem ex_settleAll {J : Nat → Nat → Int32} {L : Nat → Nat → Int64} {q : Nat → Nat → Nat} {u : Nat → Nat} (U : WU u) {a : Nat} (ha : a < 2 ^ u 64) (ha0 : 0 < a) (hA : ∀ r, r < 8 → ∀ k, k < u 64 → J 5 (r * 6 + k) = nI (al u r k)) : hz_Ex mX7_settleAll TT NN (J, L, PP q) [.ref 4, .int (nI a)] (hz_PI L (PP q) none (fun K => sA u J K a (a + 1))) := by
  refine hz_Ex.intro (ls := [some (.ref 4), some (.int (nI a)), none]) (by decide +kernel) rfl (Nat.le_of_ble_eq_true rfl) (fun X C Z => ?_)
  refine hz_iconst (pc := 0) C (v := nI 1) dX7_settleAll_0 (by decide +kernel) ?_
  refine hz_istore_n (pc := 1) C (ls' := [some (.ref 4), some (.int (nI a)), some (.int (nI 1))]) dX7_settleAll_1 (Nat.le_of_ble_eq_true rfl) rfl ?_
  refine lp_sa C U ha ha0 hA (fun K hK => ?_) a 1 J (by omega) (by omega) ⟨fun _ _ _ => rfl, fun p hp hps => absurd hps (by omega)⟩
  exact hz_vretx C Z rfl dX7_settleAll_35 ⟨K, rfl, rfl, hK⟩
def sans (u : Nat → Nat) (a x : Nat) : Int32 := if 100 ≤ (SV u a).1 then -1 else if x = 0 then nI (SV u a).1 else nI (SV u a).2
theorem bsh7 {k : Nat} (hk : k ≤ 6) : nI 1 <<< (nI k &&& 31) = nI (2 ^ k) := by
  have h : ∀ k, k < 7 → nI 1 <<< (nI k &&& 31) = nI (2 ^ k) := by decide +kernel
  exact h k (by omega)
theorem ev_allN {I : Nat → Nat → Int32} {L : Nat → Nat → Int64} {q : Nat → Nat → Nat} {u : Nat → Nat} (V : HV 12 q I u) (U : WU u) : hz_Ev mX2_allBits TT NN (I, L, PP q) [.ref 12] 0 0 (some (.int (nI (2 ^ u 64) - nI 1))) TT NN (I, L, PP q) := by
  have h := ev_allBits (I := I) (L := L) (q := q)
  rw [hv_al V, bsh7 (wu_al U)] at h
  exact h
theorem v_all {a n : Nat} (h : a < 2 ^ n) (h1 : 1 ≤ a) (hn : 2 ^ n ≤ 64) : ¬ nI a < nI 1 ∧ ¬ nI (2 ^ n) - nI 1 < nI a := by
  rw [pk_sub (by omega)]
  exact ⟨nI_nlt h1 (by omega), nI_nlt (by omega) (by omega)⟩
theorem v_all_ex {v : Int32} {n : Nat} (hn : n ≤ 6) (h : ¬ v < nI 1 ∧ ¬ nI (2 ^ n) - nI 1 < v) : ∃ a, 1 ≤ a ∧ a < 2 ^ n ∧ v = nI a := by
  have h2 : 2 ^ n ≤ 64 := Nat.pow_le_pow_right (n := 2) (i := n) (j := 6) (by decide) hn
  have h3 := Nat.two_pow_pos n
  rw [pk_sub (by omega)] at h
  obtain ⟨x, hx1, hx2, e⟩ := vin_ex1 (b := 2 ^ n - 1) (by omega) h
  exact ⟨x, hx1, by omega, e⟩
set_option maxHeartbeats 4000000 in
set_option maxRecDepth 100000 in
theorem ex_sure {I : Nat → Nat → Int32} {L : Nat → Nat → Int64} {q : Nat → Nat → Nat} {u : Nat → Nat} (V : HV 12 q I u) (U : WU u) {a x : Nat} (ha1 : 1 ≤ a) (ha : a < 2 ^ u 64) (hx : x ≤ 1) : hz_Ex mX10_sure TT NN (I, L, PP q) [.ref 1, .int (nI a), .int (nI x)] (hz_PQ L (some (.int (sans u a x))) (fun q' J => HV 12 q' J (u) ∧ kpC I J ∧ kpQ q q')) := by
  have hal := wu_al U
  have h64 := pw64 U ha
  have hSb := SV_ok U ha
  have h2p : 2 ^ u 64 ≤ 64 := Nat.pow_le_pow_right (n := 2) (i := u 64) (j := 6) (by decide) (wu_al U)
  refine hz_Ex.intro (ls := [some (.ref 1), some (.int (nI a)), some (.int (nI x))]) (by decide +kernel) rfl (Nat.le_of_ble_eq_true rfl) (fun X C Z => ?_)
  refine hz_iload_n (pc := 0) C dX10_sure_0 rfl ?_
  refine hz_iconst (pc := 1) C (v := nI 1) dX10_sure_1 (by decide +kernel) ?_
  refine hz_aload_n (pc := 2) C dX10_sure_2 rfl ?_
  refine hz_getP (pc := 3) C (v := 12) ffX10_26 dX10_sure_3 hT1 hA1 rfl (hP1_4 q) (by decide) ?_
  refine hz_callVs (pc := 6) C (as := []) (st := [.int (nI 1), .int (nI a)]) (ev_allN V U) (hz_new0 _ _) fyX2_allBits fvX10_174 rfl dX10_sure_6 hT12 rfl rfl hA12 rfl rfl (Nat.le_of_ble_eq_true rfl) (by decide) (hz_cap0 _) ?_
  refine hz_callSs (pc := 9) C (as := [.int (nI a), .int (nI 1), .int (nI (2 ^ u 64) - nI 1)]) (st := []) (ev_within _ (nI a) (nI 1) (nI (2 ^ u 64) - nI 1)) (hz_new0 _ _) fyX10_within fsX10_59 rfl dX10_sure_9 rfl rfl (Nat.le_of_ble_eq_true rfl) (by decide) (hz_cap0 _) ?_
  refine hz_ifb_eq (pc := 12) C (tgt := 24) dX10_sure_12 rfl (fun cq => absurd (v_all ha ha1 h2p) cq) (fun _ => ?_)
  refine hz_iload_n (pc := 15) C dX10_sure_15 rfl ?_
  refine hz_iconst (pc := 16) C (v := nI 0) dX10_sure_16 (by decide +kernel) ?_
  refine hz_iconst (pc := 17) C (v := nI 1) dX10_sure_17 (by decide +kernel) ?_
  refine hz_callSs (pc := 18) C (as := [.int (nI x), .int (nI 0), .int (nI 1)]) (st := []) (ev_within _ (nI x) (nI 0) (nI 1)) (hz_new0 _ _) fyX10_within fsX10_59 rfl dX10_sure_18 rfl rfl (Nat.le_of_ble_eq_true rfl) (by decide) (hz_cap0 _) ?_
  refine hz_ifb_ne (pc := 21) C (tgt := 29) dX10_sure_21 rfl (fun _ => ?_) (fun cq => absurd (vin (Nat.zero_le _) hx (by decide)) cq)
  refine hz_aload_n (pc := 29) C dX10_sure_29 rfl ?_
  refine hz_getP (pc := 30) C (v := 4) ffX10_19 dX10_sure_30 hT1 hA1 rfl (hP1_1 q) (by decide) ?_
  refine hz_aload_n (pc := 33) C dX10_sure_33 rfl ?_
  refine hz_getP (pc := 34) C (v := 12) ffX10_26 dX10_sure_34 hT1 hA1 rfl (hP1_4 q) (by decide) ?_
  refine hz_callVxv (pc := 37) C (as := [.ref 12]) (st := []) (ex_learn V U) fyX7_learnAlike fvX10_177 rfl dX10_sure_37 hT4 rfl rfl hA4 rfl rfl (Nat.le_of_ble_eq_true rfl) (by decide) (hz_cap0 _) (fun J1 h1 => ?_)
  refine hz_aload_n (pc := 40) C dX10_sure_40 rfl ?_
  refine hz_getP (pc := 41) C (v := 4) ffX10_19 dX10_sure_41 hT1 hA1 rfl (hP1_1 q) (by decide) ?_
  refine hz_iload_n (pc := 44) C dX10_sure_44 rfl ?_
  refine hz_callVxv (pc := 45) C (as := [.int (nI a)]) (st := []) (ex_settleAll U ha (by omega) h1.2.2) fyX7_settleAll fvX10_181 rfl dX10_sure_45 hT4 rfl rfl hA4 rfl rfl (Nat.le_of_ble_eq_true rfl) (by decide) (hz_cap0 _) (fun K1 h2 => ?_)
  have hSa := h2.2 a (by omega) (by omega) (fun _ _ h => h)
  refine hz_aload_n (pc := 48) C dX10_sure_48 rfl ?_
  refine hz_getP (pc := 49) C (v := 4) ffX10_19 dX10_sure_49 hT1 hA1 rfl (hP1_1 q) (by decide) ?_
  refine hz_getP (pc := 52) C (v := 6) ffX10_184 dX10_sure_52 hT4 hA4 rfl (hP4_1 q) (by decide) ?_
  refine hz_iload_n (pc := 55) C dX10_sure_55 rfl ?_
  refine hz_iald (pc := 56) C (v := nI (SV u a).1) (j := a) dX10_sure_56 hT6 hA6 rfl (by omega) (by decide) hSa.1 ?_
  refine hz_bipush (pc := 57) C (v := nI 100) dX10_sure_57 (by decide +kernel) ?_
  refine hz_ic_lt (pc := 59) C (tgt := 64) dX10_sure_59 rfl (fun zzc1 => ?_) (fun zzc1 => ?_)
  · refine hz_iload_n (pc := 64) C dX10_sure_64 rfl ?_
    refine hz_if_ne (pc := 65) C (tgt := 80) dX10_sure_65 rfl (fun zzc2 => ?_) (fun zzc2 => ?_)
    · refine hz_aload_n (pc := 80) C dX10_sure_80 rfl ?_
      refine hz_getP (pc := 81) C (v := 4) ffX10_19 dX10_sure_81 hT1 hA1 rfl (hP1_1 q) (by decide) ?_
      refine hz_getP (pc := 84) C (v := 7) ffX10_187 dX10_sure_84 hT4 hA4 rfl (hP4_2 q) (by decide) ?_
      refine hz_iload_n (pc := 87) C dX10_sure_87 rfl ?_
      refine hz_iald (pc := 88) C (v := nI (SV u a).2) (j := a) dX10_sure_88 hT7 hA7 rfl (by omega) (by decide) hSa.2 ?_
      exact hz_iretx C Z rfl dX10_sure_89 ⟨q, K1, congrArg (fun z => some (Value.int z)) ((if_neg (fun z => nI_nlt z (by omega) zzc1)).trans (if_neg (fun z => zzc2 (by rw [z, nI_0])))).symm, rfl, h1.2.1.cong U (fun b hb1 hb2 => h2.1 b (by omega) (by omega)) (fun _ => rfl), h1.1.c.tr ⟨fun b hb => h2.1 b (by omega) (by omega), fun i _ => by rw [h2.1 11 (by omega) (by omega)]⟩, kpQ.rf q⟩
    · refine hz_aload_n (pc := 68) C dX10_sure_68 rfl ?_
      refine hz_getP (pc := 69) C (v := 4) ffX10_19 dX10_sure_69 hT1 hA1 rfl (hP1_1 q) (by decide) ?_
      refine hz_getP (pc := 72) C (v := 6) ffX10_184 dX10_sure_72 hT4 hA4 rfl (hP4_1 q) (by decide) ?_
      refine hz_iload_n (pc := 75) C dX10_sure_75 rfl ?_
      refine hz_iald (pc := 76) C (v := nI (SV u a).1) (j := a) dX10_sure_76 hT6 hA6 rfl (by omega) (by decide) hSa.1 ?_
      refine hz_goto (pc := 77) C (tgt := 89) dX10_sure_77 rfl ?_
      exact hz_iretx C Z rfl dX10_sure_89 ⟨q, K1, congrArg (fun z => some (Value.int z)) ((if_neg (fun z => nI_nlt z (by omega) zzc1)).trans (if_pos ((nI_eq (by omega) (by omega)).mp (zzc2.trans nI_0.symm)))).symm, rfl, h1.2.1.cong U (fun b hb1 hb2 => h2.1 b (by omega) (by omega)) (fun _ => rfl), h1.1.c.tr ⟨fun b hb => h2.1 b (by omega) (by omega), fun i _ => by rw [h2.1 11 (by omega) (by omega)]⟩, kpQ.rf q⟩
  · refine hz_iconst (pc := 62) C (v := (-1 : Int32)) dX10_sure_62 (by decide +kernel) ?_
    exact hz_iretx C Z rfl dX10_sure_63 ⟨q, K1, congrArg (fun z => some (Value.int z)) (if_pos (Nat.le_of_not_lt fun z => zzc1 (nI_lt z (by omega)))).symm, rfl, h1.2.1.cong U (fun b hb1 hb2 => h2.1 b (by omega) (by omega)) (fun _ => rfl), h1.1.c.tr ⟨fun b hb => h2.1 b (by omega) (by omega), fun i _ => by rw [h2.1 11 (by omega) (by omega)]⟩, kpQ.rf q⟩
set_option maxHeartbeats 4000000 in
set_option maxRecDepth 100000 in
theorem ev_sureX {I : Nat → Nat → Int32} {L : Nat → Nat → Int64} {q : Nat → Nat → Nat} {u : Nat → Nat} (V : HV 12 q I u) (U : WU u) (zzv1 zzv2 : Int32) (hb : ¬ ((¬ zzv1 < nI 1 ∧ ¬ nI (2 ^ u 64) - nI 1 < zzv1) ∧ (¬ zzv2 < nI 0 ∧ ¬ nI 1 < zzv2))) : hz_Ev mX10_sure TT NN (I, L, PP q) [.ref 1, .int zzv1, .int zzv2] 0 0 (some (.int (-2 : Int32))) TT NN (hz_up I 1 8 ((I 1 8) + (nI 1)), L, PP q) := by
  refine hz_Ev.intro (ls := [some (.ref 1), some (.int zzv1), some (.int zzv2)]) (by decide +kernel) rfl (Nat.le_of_ble_eq_true rfl) (fun X C Z _ => ?_)
  refine hz_iload_n (pc := 0) C dX10_sure_0 rfl ?_
  refine hz_iconst (pc := 1) C (v := nI 1) dX10_sure_1 (by decide +kernel) ?_
  refine hz_aload_n (pc := 2) C dX10_sure_2 rfl ?_
  refine hz_getP (pc := 3) C (v := 12) ffX10_26 dX10_sure_3 hT1 hA1 rfl (hP1_4 q) (by decide) ?_
  refine hz_callVs (pc := 6) C (as := []) (st := [.int (nI 1), .int zzv1]) (ev_allN V U) (hz_new0 _ _) fyX2_allBits fvX10_174 rfl dX10_sure_6 hT12 rfl rfl hA12 rfl rfl (Nat.le_of_ble_eq_true rfl) (by decide) (hz_cap0 _) ?_
  refine hz_callSs (pc := 9) C (as := [.int zzv1, .int (nI 1), .int (nI (2 ^ u 64) - nI 1)]) (st := []) (ev_within _ zzv1 (nI 1) (nI (2 ^ u 64) - nI 1)) (hz_new0 _ _) fyX10_within fsX10_59 rfl dX10_sure_9 rfl rfl (Nat.le_of_ble_eq_true rfl) (by decide) (hz_cap0 _) ?_
  refine hz_ifb_eq (pc := 12) C (tgt := 24) dX10_sure_12 rfl (fun zzc1 => ?_) (fun zzc1 => ?_)
  · refine hz_aload_n (pc := 24) C dX10_sure_24 rfl ?_
    refine hz_callVs (pc := 25) C (as := []) (st := []) ev_refBad (hz_new0 _ _) fyX10_refuseBad fvX10_74 rfl dX10_sure_25 hT1 rfl rfl hA1 rfl rfl (Nat.le_of_ble_eq_true rfl) (by decide) (hz_cap0 _) ?_
    exact hz_iret C Z rfl dX10_sure_28 rfl rfl
  · refine hz_iload_n (pc := 15) C dX10_sure_15 rfl ?_
    refine hz_iconst (pc := 16) C (v := nI 0) dX10_sure_16 (by decide +kernel) ?_
    refine hz_iconst (pc := 17) C (v := nI 1) dX10_sure_17 (by decide +kernel) ?_
    refine hz_callSs (pc := 18) C (as := [.int zzv2, .int (nI 0), .int (nI 1)]) (st := []) (ev_within _ zzv2 (nI 0) (nI 1)) (hz_new0 _ _) fyX10_within fsX10_59 rfl dX10_sure_18 rfl rfl (Nat.le_of_ble_eq_true rfl) (by decide) (hz_cap0 _) ?_
    refine hz_ifb_ne (pc := 21) C (tgt := 29) dX10_sure_21 rfl (fun zzc2 => ?_) (fun zzc2 => ?_)
    · exact absurd ⟨zzc1, zzc2⟩ hb
    · refine hz_aload_n (pc := 24) C dX10_sure_24 rfl ?_
      refine hz_callVs (pc := 25) C (as := []) (st := []) ev_refBad (hz_new0 _ _) fyX10_refuseBad fvX10_74 rfl dX10_sure_25 hT1 rfl rfl hA1 rfl rfl (Nat.le_of_ble_eq_true rfl) (by decide) (hz_cap0 _) ?_
      exact hz_iret C Z rfl dX10_sure_28 rfl rfl
set_option maxHeartbeats 4000000 in
set_option maxRecDepth 100000 in
theorem ev_sureXM {I : Nat → Nat → Int32} {L : Nat → Nat → Int64} {q : Nat → Nat → Nat} {u : Nat → Nat} (V : MV I u) (U : WU u) (zzv1 zzv2 : Int32) (hb : ¬ ((¬ zzv1 < nI 1 ∧ ¬ nI (2 ^ u 64) - nI 1 < zzv1) ∧ (¬ zzv2 < nI 0 ∧ ¬ nI 1 < zzv2))) : hz_Ev mX11_sure TT NN (I, L, PP q) [.ref 146, .int zzv1, .int zzv2] 0 0 (some (.int (-2 : Int32))) TT NN (hz_up I 151 0 ((I 151 0) + (nI 1)), L, PP q) := by
  refine hz_Ev.intro (ls := [some (.ref 146), some (.int zzv1), some (.int zzv2)]) (by decide +kernel) rfl (Nat.le_of_ble_eq_true rfl) (fun X C Z _ => ?_)
  refine hz_iload_n (pc := 0) C dX11_sure_0 rfl ?_
  refine hz_iconst (pc := 1) C (v := nI 1) dX11_sure_1 (by decide +kernel) ?_
  refine hz_iconst (pc := 2) C (v := nI 1) dX11_sure_2 (by decide +kernel) ?_
  refine hz_aload_n (pc := 3) C dX11_sure_3 rfl ?_
  refine hz_getP (pc := 4) C (v := 147) ffX11_7 dX11_sure_4 hT146 hA146 rfl (hP146_0 q) (by decide) ?_
  refine hz_bipush (pc := 7) C (v := nI 64) dX11_sure_7 (by decide +kernel) ?_
  refine hz_iald (pc := 9) C (v := nI (u 64)) (j := 64) dX11_sure_9 hT147 hA147 rfl (by decide) (by decide) (mg V (by omega) (by omega)) ?_
  refine hz_ishl (pc := 10) C (v := nI (2 ^ u 64)) dX11_sure_10 (bsh7 (wu_al U)) ?_
  refine hz_iconst (pc := 11) C (v := nI 1) dX11_sure_11 (by decide +kernel) ?_
  refine hz_isub (pc := 12) C dX11_sure_12 rfl ?_
  refine hz_callSs (pc := 13) C (as := [.int zzv1, .int (nI 1), .int ((nI (2 ^ u 64)) - (nI 1))]) (st := []) (ev_in _ zzv1 (nI 1) ((nI (2 ^ u 64)) - (nI 1))) (hz_new0 _ _) fyX11_in fsX11_52 rfl dX11_sure_13 rfl rfl (Nat.le_of_ble_eq_true rfl) (by decide) (hz_cap0 _) ?_
  refine hz_ifb_eq (pc := 16) C (tgt := 28) dX11_sure_16 rfl (fun zzc1 => ?_) (fun zzc1 => ?_)
  · refine hz_aload_n (pc := 28) C dX11_sure_28 rfl ?_
    refine hz_callVs (pc := 29) C (as := []) (st := []) ev_bad (hz_new0 _ _) fyX11_bad fvX11_60 rfl dX11_sure_29 hT146 rfl rfl hA146 rfl rfl (Nat.le_of_ble_eq_true rfl) (by decide) (hz_cap0 _) ?_
    exact hz_iret C Z rfl dX11_sure_32 rfl rfl
  · refine hz_iload_n (pc := 19) C dX11_sure_19 rfl ?_
    refine hz_iconst (pc := 20) C (v := nI 0) dX11_sure_20 (by decide +kernel) ?_
    refine hz_iconst (pc := 21) C (v := nI 1) dX11_sure_21 (by decide +kernel) ?_
    refine hz_callSs (pc := 22) C (as := [.int zzv2, .int (nI 0), .int (nI 1)]) (st := []) (ev_in _ zzv2 (nI 0) (nI 1)) (hz_new0 _ _) fyX11_in fsX11_52 rfl dX11_sure_22 rfl rfl (Nat.le_of_ble_eq_true rfl) (by decide) (hz_cap0 _) ?_
    refine hz_ifb_ne (pc := 25) C (tgt := 33) dX11_sure_25 rfl (fun zzc2 => ?_) (fun zzc2 => ?_)
    · exact absurd ⟨zzc1, zzc2⟩ hb
    · refine hz_aload_n (pc := 28) C dX11_sure_28 rfl ?_
      refine hz_callVs (pc := 29) C (as := []) (st := []) ev_bad (hz_new0 _ _) fyX11_bad fvX11_60 rfl dX11_sure_29 hT146 rfl rfl hA146 rfl rfl (Nat.le_of_ble_eq_true rfl) (by decide) (hz_cap0 _) ?_
      exact hz_iret C Z rfl dX11_sure_32 rfl rfl

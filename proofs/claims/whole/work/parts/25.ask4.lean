theorem nI_z {x : Nat} (h : x < 2 ^ 31) : nI x = 0 ↔ x = 0 := by
  rw [← nI_0]; exact nI_eq h (by decide)
theorem bs64 (f : Nat → Bool) {n : Nat} (h : n ≤ 6) : bsum f n < 64 := Nat.lt_of_lt_of_le (bsum_lt f n) (show 2 ^ n ≤ 64 from Nat.pow_le_pow_right (n := 2) (i := n) (j := 6) (by decide) h)
theorem bsum_any {f : Nat → Bool} : ∀ {n : Nat}, ¬ bsum f n = 0 → anyb f n = true := by
  intro n
  induction n with
  | zero => intro h; exact absurd rfl h
  | succ n ih =>
    intro h
    by_cases e : f n = true
    · exact anyb_t e
    · rw [bsum_f e] at h
      simp [anyb, ih h]
theorem anyb_mono {f g : Nat → Bool} (h : ∀ x, f x = true → g x = true) {n : Nat} (hf : anyb f n = true) : anyb g n = true := by
  obtain ⟨k, h1, h2⟩ := anyb_ex hf
  exact anyb_of h1 (h k h2)
set_option maxHeartbeats 4000000 in
set_option maxRecDepth 100000 in
theorem lp_nx0 {X : hz_X} (C : hz_C X mX10_next) {I : Nat → Nat → Int32} {L : Nat → Nat → Int64} {q : Nat → Nat → Nat} {u : Nat → Nat} (V : HV 12 q I u) (U : WU u) {r : Nat} (hr : r < 8) (Z : hz_Z X 0 0 (some (.int (nI (ff (fun d => decide (¬ bsum (fun k => sin u k (nI (u 90 + d)) && rch u r k) (u 64) = 0)) 121 0) - 1))) TT NN (msb (anyb (fun d => anyb (fun k => sin u k (nI (u 90 + d))) (u 64)) 121) u I, L, PP q))  : ∀ (n i : Nat) (w4 : Option Value), i + n = 121 → ff (fun d => decide (¬ bsum (fun k => sin u k (nI (u 90 + d)) && rch u r k) (u 64) = 0)) 121 0 = ff (fun d => decide (¬ bsum (fun k => sin u k (nI (u 90 + d)) && rch u r k) (u 64) = 0)) n i → hz_G X TT NN (msb (anyb (fun d => anyb (fun k => sin u k (nI (u 90 + d))) (u 64)) i) u I, L, PP q) 0 0 38 [some (.ref 1), some (.int (nI r)), some (.int (nI 0)), some (.int (nI i)), w4] [] := by
  intro n
  induction n with
  | zero =>
    intro i w4 hi hf
    obtain rfl : i = 121 := by omega
    skip
    refine hz_iload_n (pc := 38) C dX10_next_38 rfl ?_
    refine hz_bipush (pc := 39) C (v := nI 120) dX10_next_39 (by decide +kernel) ?_
    refine hz_ic_gt (pc := 41) C (tgt := 99) dX10_next_41 rfl (fun _ => ?_) (fun cq => absurd (nI_lt (by omega) (by omega)) cq)
    refine hz_iconst (pc := 99) C (v := (-1 : Int32)) dX10_next_99 (by decide +kernel) ?_
    exact hz_iret C Z rfl dX10_next_100 (by rw [hf]; show (-1 : Int32) = nI 0 - 1; decide +kernel) rfl
  | succ n ih =>
    intro i w4 hi hf
    have hal := wu_al U
    have hse := wu_se U
    have hco := wu_co U
    have hbs := bs64 (fun k => sin u k (nI (u 90 + i)) && rch u r k) hal
    refine hz_iload_n (pc := 38) C dX10_next_38 rfl ?_
    refine hz_bipush (pc := 39) C (v := nI 120) dX10_next_39 (by decide +kernel) ?_
    refine hz_ic_gt (pc := 41) C (tgt := 99) dX10_next_41 rfl (fun cq => absurd cq (nI_nlt (by omega) (by omega))) (fun _ => ?_)
    refine hz_aload_n (pc := 44) C dX10_next_44 rfl ?_
    refine hz_getP (pc := 45) C (v := 12) ffX10_26 dX10_next_45 hT1 hA1 rfl (hP1_4 q) (by decide) ?_
    refine hz_getP (pc := 48) C (v := 19) ffX10_102 dX10_next_48 hT12 hA12 rfl (hP12_7 q) (by decide) ?_
    refine hz_getI (pc := 51) C (v := nI (u 90)) ffX10_111 dX10_next_51 hT19 hA19 rfl (hv_se (hv_msb V U (anyb (fun d => anyb (fun k => sin u k (nI (u 90 + d))) (u 64)) i))) ?_
    refine hz_iload_n (pc := 54) C dX10_next_54 rfl ?_
    refine hz_iadd (pc := 55) C (v := nI ((u 90) + i)) dX10_next_55 (nI_add _ _) ?_
    refine hz_istore (pc := 56) C (ls' := [some (.ref 1), some (.int (nI r)), some (.int (nI 0)), some (.int (nI i)), some (.int (nI ((u 90) + i)))]) dX10_next_56 (Nat.le_of_ble_eq_true rfl) rfl ?_
    refine hz_iload_n (pc := 58) C dX10_next_58 rfl ?_
    refine hz_if_ne (pc := 59) C (tgt := 78) dX10_next_59 rfl (fun cq => absurd (by decide +kernel) cq) (fun _ => ?_)
    refine hz_aload_n (pc := 62) C dX10_next_62 rfl ?_
    refine hz_getP (pc := 63) C (v := 12) ffX10_26 dX10_next_63 hT1 hA1 rfl (hP1_4 q) (by decide) ?_
    refine hz_iload_n (pc := 66) C dX10_next_66 rfl ?_
    refine hz_iload (pc := 67) C dX10_next_67 rfl ?_
    refine hz_callVs (pc := 69) C (as := [.int (nI r), .int (nI ((u 90) + i))]) (st := []) ((by have h9 := ev_bitsHeard (L := L) (hv_msb V U (anyb (fun d => anyb (fun k => sin u k (nI (u 90 + d))) (u 64)) i)) U (r := r) (by omega) (nI ((u 90) + i)); rw [msb_msb] at h9; exact h9)) (hz_new0 _ _) fyX2_bitsHeard fvX10_114 rfl dX10_next_69 hT12 rfl rfl hA12 rfl rfl (Nat.le_of_ble_eq_true rfl) (by decide) (hz_cap0 _) ?_
    refine hz_if_eq (pc := 72) C (tgt := 93) dX10_next_72 rfl (fun c1 => ?_) (fun c1 => ?_)
    · refine hz_iinc (pc := 93) C (v := nI (i + 1)) (ls' := [some (.ref 1), some (.int (nI r)), some (.int (nI 0)), some (.int (nI (i + 1))), some (.int (nI ((u 90) + i)))]) dX10_next_93 rfl (nI_add _ 1) rfl ?_
      refine hz_goto (pc := 96) C (tgt := 38) dX10_next_96 rfl ?_
      exact ih (i + 1) _ (by omega) (by rw [hf, ff_f (f := (fun d => decide (¬ bsum (fun k => sin u k (nI (u 90 + d)) && rch u r k) (u 64) = 0))) (by simp only [decide_eq_true_eq]; exact fun z => z ((nI_z (by omega)).mp c1))])
    · refine hz_goto (pc := 75) C (tgt := 91) dX10_next_75 rfl ?_
      refine hz_iload_n (pc := 91) C dX10_next_91 rfl ?_
      exact hz_iret C Z rfl dX10_next_92 (by rw [hf, ff_t (f := (fun d => decide (¬ bsum (fun k => sin u k (nI (u 90 + d)) && rch u r k) (u 64) = 0))) (by simp only [decide_eq_true_eq]; exact fun z => c1 ((nI_z (by omega)).mpr z)), en_m1]) (by have h8 : anyb (fun k => sin u k (nI (u 90 + i))) (u 64) = true := anyb_mono (f := (fun k => sin u k (nI (u 90 + i)) && rch u r k)) (fun x z => by simp only [Bool.and_eq_true] at z; exact z.1) (bsum_any (fun z => c1 ((nI_z (by omega)).mpr z))); rw [h8, anyb_of (f := (fun d => anyb (fun k => sin u k (nI (u 90 + d))) (u 64))) (show i < 121 by omega) h8, Bool.or_true])
set_option maxHeartbeats 4000000 in
set_option maxRecDepth 100000 in
theorem ev_next0 {I : Nat → Nat → Int32} {L : Nat → Nat → Int64} {q : Nat → Nat → Nat} {u : Nat → Nat} (V : HV 12 q I u) (U : WU u) {r : Nat} (hr : r < 8)  : hz_Ev mX10_next TT NN (I, L, PP q) [.ref 1, .int (nI r), .int (nI 0)] 0 0 (some (.int (nI (ff (fun d => decide (¬ bsum (fun k => sin u k (nI (u 90 + d)) && rch u r k) (u 64) = 0)) 121 0) - 1))) TT NN (msb (anyb (fun d => anyb (fun k => sin u k (nI (u 90 + d))) (u 64)) 121) u I, L, PP q) := by
  refine hz_Ev.intro (ls := [some (.ref 1), some (.int (nI r)), some (.int (nI 0)), none, none]) (by decide +kernel) rfl (Nat.le_of_ble_eq_true rfl) (fun X C Z _ => ?_)
  refine hz_iload_n (pc := 0) C dX10_next_0 rfl ?_
  refine hz_iconst (pc := 1) C (v := nI 0) dX10_next_1 (by decide +kernel) ?_
  refine hz_iconst (pc := 2) C (v := nI 1) dX10_next_2 (by decide +kernel) ?_
  refine hz_callSs (pc := 3) C (as := [.int (nI 0), .int (nI 0), .int (nI 1)]) (st := []) (ev_within _ (nI 0) (nI 0) (nI 1)) (hz_new0 _ _) fyX10_within fsX10_59 rfl dX10_next_3 rfl rfl (Nat.le_of_ble_eq_true rfl) (by decide) (hz_cap0 _) ?_
  refine hz_ifb_eq (pc := 6) C (tgt := 31) dX10_next_6 rfl (fun cq => absurd (vin (Nat.zero_le _) (by decide) (by decide)) cq) (fun _ => ?_)
  refine hz_iload_n (pc := 9) C dX10_next_9 rfl ?_
  refine hz_if_ne (pc := 10) C (tgt := 23) dX10_next_10 rfl (fun cq => absurd (by decide +kernel) cq) (fun _ => ?_)
  refine hz_iload_n (pc := 13) C dX10_next_13 rfl ?_
  refine hz_callSs (pc := 14) C (as := [.int (nI r)]) (st := []) (ev_isRoom _ (nI r)) (hz_new0 _ _) fyX10_isRoom fsX10_55 rfl dX10_next_14 rfl rfl (Nat.le_of_ble_eq_true rfl) (by decide) (hz_cap0 _) ?_
  refine hz_ifb_eq (pc := 17) C (tgt := 31) dX10_next_17 rfl (fun cq => absurd (vr hr) cq) (fun _ => ?_)
  refine hz_goto (pc := 20) C (tgt := 36) dX10_next_20 rfl ?_
  refine hz_iconst (pc := 36) C (v := nI 0) dX10_next_36 (by decide +kernel) ?_
  refine hz_istore_n (pc := 37) C (ls' := [some (.ref 1), some (.int (nI r)), some (.int (nI 0)), some (.int (nI 0)), none]) dX10_next_37 (Nat.le_of_ble_eq_true rfl) rfl ?_
  exact lp_nx0 C V U hr Z 121 0 none (by omega) rfl
set_option maxHeartbeats 4000000 in
set_option maxRecDepth 100000 in
theorem lp_nm0 {X : hz_X} (C : hz_C X mX11_next) {I : Nat → Nat → Int32} {L : Nat → Nat → Int64} {q : Nat → Nat → Nat} {u : Nat → Nat} (V : MF I u) (U : WU u) {r : Nat} (hr : r < 8) (Z : hz_Z X 0 0 (some (.int (nI (ff (fun d => decide (¬ bsum (fun k => sin u k (nI (u 90 + d)) && rch u r k) (u 64) = 0)) 121 0) - 1))) TT NN (I, L, PP q))  : ∀ (n i : Nat) (w4 w5 : Option Value), i + n = 121 → ff (fun d => decide (¬ bsum (fun k => sin u k (nI (u 90 + d)) && rch u r k) (u 64) = 0)) 121 0 = ff (fun d => decide (¬ bsum (fun k => sin u k (nI (u 90 + d)) && rch u r k) (u 64) = 0)) n i → hz_G X TT NN (I, L, PP q) 0 0 42 [some (.ref 146), some (.int (nI r)), some (.int (nI 0)), some (.int (nI i)), w4, w5] [] := by
  intro n
  induction n with
  | zero =>
    intro i w4 w5 hi hf
    obtain rfl : i = 121 := by omega
    skip
    refine hz_iload_n (pc := 42) C dX11_next_42 rfl ?_
    refine hz_bipush (pc := 43) C (v := nI 120) dX11_next_43 (by decide +kernel) ?_
    refine hz_ic_gt (pc := 45) C (tgt := 117) dX11_next_45 rfl (fun _ => ?_) (fun cq => absurd (nI_lt (by omega) (by omega)) cq)
    refine hz_iconst (pc := 117) C (v := (-1 : Int32)) dX11_next_117 (by decide +kernel) ?_
    exact hz_iret C Z rfl dX11_next_118 (by rw [hf]; show (-1 : Int32) = nI 0 - 1; decide +kernel) rfl
  | succ n ih =>
    intro i w4 w5 hi hf
    have hal := wu_al U
    have hse := wu_se U
    have hco := wu_co U
    have hbs := bs64 (fun k => sin u k (nI (u 90 + i)) && rch u r k) hal
    have hbs2 := bs64 (fun k => sinc u k (nI (u 90 + i)) (u 92) && rch u r k) hal
    refine hz_iload_n (pc := 42) C dX11_next_42 rfl ?_
    refine hz_bipush (pc := 43) C (v := nI 120) dX11_next_43 (by decide +kernel) ?_
    refine hz_ic_gt (pc := 45) C (tgt := 117) dX11_next_45 rfl (fun cq => absurd cq (nI_nlt (by omega) (by omega))) (fun _ => ?_)
    refine hz_aload_n (pc := 48) C dX11_next_48 rfl ?_
    refine hz_getP (pc := 49) C (v := 147) ffX11_7 dX11_next_49 hT146 hA146 rfl (hP146_0 q) (by decide) ?_
    refine hz_bipush (pc := 52) C (v := nI 90) dX11_next_52 (by decide +kernel) ?_
    refine hz_iald (pc := 54) C (v := nI (u 90)) (j := 90) dX11_next_54 hT147 hA147 rfl (by decide) (by decide) (mg V.1 (by omega) (by omega)) ?_
    refine hz_iload_n (pc := 55) C dX11_next_55 rfl ?_
    refine hz_iadd (pc := 56) C (v := nI ((u 90) + i)) dX11_next_56 (nI_add _ _) ?_
    refine hz_istore (pc := 57) C (ls' := [some (.ref 146), some (.int (nI r)), some (.int (nI 0)), some (.int (nI i)), some (.int (nI ((u 90) + i))), w5]) dX11_next_57 (Nat.le_of_ble_eq_true rfl) rfl ?_
    refine hz_iload_n (pc := 59) C dX11_next_59 rfl ?_
    refine hz_if_ne (pc := 60) C (tgt := 88) dX11_next_60 rfl (fun cq => absurd (by decide +kernel) cq) (fun _ => ?_)
    refine hz_aload_n (pc := 63) C dX11_next_63 rfl ?_
    refine hz_iload_n (pc := 64) C dX11_next_64 rfl ?_
    refine hz_iload (pc := 65) C dX11_next_65 rfl ?_
    refine hz_aload_n (pc := 67) C dX11_next_67 rfl ?_
    refine hz_getP (pc := 68) C (v := 147) ffX11_7 dX11_next_68 hT146 hA146 rfl (hP146_0 q) (by decide) ?_
    refine hz_bipush (pc := 71) C (v := nI 92) dX11_next_71 (by decide +kernel) ?_
    refine hz_iald (pc := 73) C (v := nI (u 92)) (j := 92) dX11_next_73 hT147 hA147 rfl (by decide) (by decide) (mg V.1 (by omega) (by omega)) ?_
    refine hz_callVs (pc := 74) C (as := [.int (nI r), .int (nI ((u 90) + i)), .int (nI (u 92))]) (st := []) (ev_heardBy V U (r := r) (by omega) (nI ((u 90) + i)) (c := u 92) (by omega)) (hz_new0 _ _) fyX11_heardBy fvX11_149 rfl dX11_next_74 hT146 rfl rfl hA146 rfl rfl (Nat.le_of_ble_eq_true rfl) (by decide) (hz_cap0 _) ?_
    refine hz_if_eq (pc := 77) C (tgt := 84) dX11_next_77 rfl (fun c1 => ?_) (fun c1 => ?_)
    · refine hz_iconst (pc := 84) C (v := nI 0) dX11_next_84 (by decide +kernel) ?_
      refine hz_goto (pc := 85) C (tgt := 102) dX11_next_85 rfl ?_
      refine hz_istore (pc := 102) C (ls' := [some (.ref 146), some (.int (nI r)), some (.int (nI 0)), some (.int (nI i)), some (.int (nI ((u 90) + i))), some (.int (nI 0))]) dX11_next_102 (Nat.le_of_ble_eq_true rfl) rfl ?_
      refine hz_iload (pc := 104) C dX11_next_104 rfl ?_
      refine hz_if_eq (pc := 106) C (tgt := 111) dX11_next_106 rfl (fun _ => ?_) (fun cq => absurd (by decide +kernel) cq)
      refine hz_iinc (pc := 111) C (v := nI (i + 1)) (ls' := [some (.ref 146), some (.int (nI r)), some (.int (nI 0)), some (.int (nI (i + 1))), some (.int (nI ((u 90) + i))), some (.int (nI 0))]) dX11_next_111 rfl (nI_add _ 1) rfl ?_
      refine hz_goto (pc := 114) C (tgt := 42) dX11_next_114 rfl ?_
      exact ih (i + 1) _ _ (by omega) (by rw [hf, ff_f (f := (fun d => decide (¬ bsum (fun k => sin u k (nI (u 90 + d)) && rch u r k) (u 64) = 0))) (by simp only [decide_eq_true_eq]; exact fun z => z ((nI_z (by omega)).mp c1))])
    · refine hz_iconst (pc := 80) C (v := nI 1) dX11_next_80 (by decide +kernel) ?_
      refine hz_goto (pc := 81) C (tgt := 102) dX11_next_81 rfl ?_
      refine hz_istore (pc := 102) C (ls' := [some (.ref 146), some (.int (nI r)), some (.int (nI 0)), some (.int (nI i)), some (.int (nI ((u 90) + i))), some (.int (nI 1))]) dX11_next_102 (Nat.le_of_ble_eq_true rfl) rfl ?_
      refine hz_iload (pc := 104) C dX11_next_104 rfl ?_
      refine hz_if_eq (pc := 106) C (tgt := 111) dX11_next_106 rfl (fun cq => absurd cq (by decide +kernel)) (fun _ => ?_)
      refine hz_iload_n (pc := 109) C dX11_next_109 rfl ?_
      exact hz_iret C Z rfl dX11_next_110 (by rw [hf, ff_t (f := (fun d => decide (¬ bsum (fun k => sin u k (nI (u 90 + d)) && rch u r k) (u 64) = 0))) (by simp only [decide_eq_true_eq]; exact fun z => c1 ((nI_z (by omega)).mpr z)), en_m1]) rfl
set_option maxHeartbeats 4000000 in
set_option maxRecDepth 100000 in
theorem ev_next0M {I : Nat → Nat → Int32} {L : Nat → Nat → Int64} {q : Nat → Nat → Nat} {u : Nat → Nat} (V : MV I u) (U : WU u) {r : Nat} (hr : r < 8)  : hz_Ev mX11_next TT NN (I, L, PP q) [.ref 146, .int (nI r), .int (nI 0)] 0 0 (some (.int (nI (ff (fun d => decide (¬ bsum (fun k => sin u k (nI (u 90 + d)) && rch u r k) (u 64) = 0)) 121 0) - 1))) TT NN (lm u I, L, PP q) := by
  refine hz_Ev.intro (ls := [some (.ref 146), some (.int (nI r)), some (.int (nI 0)), none, none, none]) (by decide +kernel) rfl (Nat.le_of_ble_eq_true rfl) (fun X C Z _ => ?_)
  refine hz_iload_n (pc := 0) C dX11_next_0 rfl ?_
  refine hz_iconst (pc := 1) C (v := nI 0) dX11_next_1 (by decide +kernel) ?_
  refine hz_iconst (pc := 2) C (v := nI 1) dX11_next_2 (by decide +kernel) ?_
  refine hz_callSs (pc := 3) C (as := [.int (nI 0), .int (nI 0), .int (nI 1)]) (st := []) (ev_in _ (nI 0) (nI 0) (nI 1)) (hz_new0 _ _) fyX11_in fsX11_52 rfl dX11_next_3 rfl rfl (Nat.le_of_ble_eq_true rfl) (by decide) (hz_cap0 _) ?_
  refine hz_ifb_eq (pc := 6) C (tgt := 31) dX11_next_6 rfl (fun cq => absurd (vin (Nat.zero_le _) (by decide) (by decide)) cq) (fun _ => ?_)
  refine hz_iload_n (pc := 9) C dX11_next_9 rfl ?_
  refine hz_if_ne (pc := 10) C (tgt := 23) dX11_next_10 rfl (fun cq => absurd (by decide +kernel) cq) (fun _ => ?_)
  refine hz_iload_n (pc := 13) C dX11_next_13 rfl ?_
  refine hz_callSs (pc := 14) C (as := [.int (nI r)]) (st := []) (ev_isRoomM _ (nI r)) (hz_new0 _ _) fyX11_isRoom fsX11_56 rfl dX11_next_14 rfl rfl (Nat.le_of_ble_eq_true rfl) (by decide) (hz_cap0 _) ?_
  refine hz_ifb_ne (pc := 17) C (tgt := 36) dX11_next_17 rfl (fun _ => ?_) (fun cq => absurd (vr hr) cq)
  refine hz_aload_n (pc := 36) C dX11_next_36 rfl ?_
  refine hz_callVv (pc := 37) C (as := []) (st := []) (ev_layFar V U) (hz_new0 _ _) fyX11_layFar fvX11_146 rfl dX11_next_37 hT146 rfl rfl hA146 rfl rfl (Nat.le_of_ble_eq_true rfl) (by decide) (hz_cap0 _) ?_
  refine hz_iconst (pc := 40) C (v := nI 0) dX11_next_40 (by decide +kernel) ?_
  refine hz_istore_n (pc := 41) C (ls' := [some (.ref 146), some (.int (nI r)), some (.int (nI 0)), some (.int (nI 0)), none, none]) dX11_next_41 (Nat.le_of_ble_eq_true rfl) rfl ?_
  exact lp_nm0 C (mf_lm V) U hr Z 121 0 none none (by omega) rfl
set_option maxHeartbeats 4000000 in
set_option maxRecDepth 100000 in
theorem lp_nx1 {X : hz_X} (C : hz_C X mX10_next) {I : Nat → Nat → Int32} {L : Nat → Nat → Int64} {q : Nat → Nat → Nat} {u : Nat → Nat} (V : HV 12 q I u) (U : WU u) {k : Nat} (hk : k < u 64) (Z : hz_Z X 0 0 (some (.int (nI (ff (fun d => sin u k (nI (u 90 + d))) 121 0) - 1))) TT NN (I, L, PP q))  : ∀ (n i : Nat) (w4 : Option Value), i + n = 121 → ff (fun d => sin u k (nI (u 90 + d))) 121 0 = ff (fun d => sin u k (nI (u 90 + d))) n i → hz_G X TT NN (I, L, PP q) 0 0 38 [some (.ref 1), some (.int (nI k)), some (.int (nI 1)), some (.int (nI i)), w4] [] := by
  intro n
  induction n with
  | zero =>
    intro i w4 hi hf
    obtain rfl : i = 121 := by omega
    have hal := wu_al U
    have hse := wu_se U
    have hco := wu_co U
    refine hz_iload_n (pc := 38) C dX10_next_38 rfl ?_
    refine hz_bipush (pc := 39) C (v := nI 120) dX10_next_39 (by decide +kernel) ?_
    refine hz_ic_gt (pc := 41) C (tgt := 99) dX10_next_41 rfl (fun _ => ?_) (fun cq => absurd (nI_lt (by omega) (by omega)) cq)
    refine hz_iconst (pc := 99) C (v := (-1 : Int32)) dX10_next_99 (by decide +kernel) ?_
    exact hz_iret C Z rfl dX10_next_100 (by rw [hf]; show (-1 : Int32) = nI 0 - 1; decide +kernel) rfl
  | succ n ih =>
    intro i w4 hi hf
    have hal := wu_al U
    have hse := wu_se U
    have hco := wu_co U
    refine hz_iload_n (pc := 38) C dX10_next_38 rfl ?_
    refine hz_bipush (pc := 39) C (v := nI 120) dX10_next_39 (by decide +kernel) ?_
    refine hz_ic_gt (pc := 41) C (tgt := 99) dX10_next_41 rfl (fun cq => absurd cq (nI_nlt (by omega) (by omega))) (fun _ => ?_)
    refine hz_aload_n (pc := 44) C dX10_next_44 rfl ?_
    refine hz_getP (pc := 45) C (v := 12) ffX10_26 dX10_next_45 hT1 hA1 rfl (hP1_4 q) (by decide) ?_
    refine hz_getP (pc := 48) C (v := 19) ffX10_102 dX10_next_48 hT12 hA12 rfl (hP12_7 q) (by decide) ?_
    refine hz_getI (pc := 51) C (v := nI (u 90)) ffX10_111 dX10_next_51 hT19 hA19 rfl (hv_se V) ?_
    refine hz_iload_n (pc := 54) C dX10_next_54 rfl ?_
    refine hz_iadd (pc := 55) C (v := nI ((u 90) + i)) dX10_next_55 (nI_add _ _) ?_
    refine hz_istore (pc := 56) C (ls' := [some (.ref 1), some (.int (nI k)), some (.int (nI 1)), some (.int (nI i)), some (.int (nI ((u 90) + i)))]) dX10_next_56 (Nat.le_of_ble_eq_true rfl) rfl ?_
    refine hz_iload_n (pc := 58) C dX10_next_58 rfl ?_
    refine hz_if_ne (pc := 59) C (tgt := 78) dX10_next_59 rfl (fun _ => ?_) (fun cq => absurd cq (by decide +kernel))
    refine hz_aload_n (pc := 78) C dX10_next_78 rfl ?_
    refine hz_getP (pc := 79) C (v := 12) ffX10_26 dX10_next_79 hT1 hA1 rfl (hP1_4 q) (by decide) ?_
    refine hz_iload_n (pc := 82) C dX10_next_82 rfl ?_
    refine hz_iload (pc := 83) C dX10_next_83 rfl ?_
    refine hz_callVs (pc := 85) C (as := [.int (nI k), .int (nI ((u 90) + i))]) (st := []) (ev_soundsIn V U (k := k) (by omega) (nI ((u 90) + i))) (hz_new0 _ _) fyX2_soundsIn fvX10_164 rfl dX10_next_85 hT12 rfl rfl hA12 rfl rfl (Nat.le_of_ble_eq_true rfl) (by decide) (hz_cap0 _) ?_
    refine hz_ifb_eq (pc := 88) C (tgt := 93) dX10_next_88 rfl (fun c1 => ?_) (fun c1 => ?_)
    · refine hz_iinc (pc := 93) C (v := nI (i + 1)) (ls' := [some (.ref 1), some (.int (nI k)), some (.int (nI 1)), some (.int (nI (i + 1))), some (.int (nI ((u 90) + i)))]) dX10_next_93 rfl (nI_add _ 1) rfl ?_
      refine hz_goto (pc := 96) C (tgt := 38) dX10_next_96 rfl ?_
      exact ih (i + 1) _ (by omega) (by rw [hf, ff_f (f := (fun d => sin u k (nI (u 90 + d)))) c1])
    · refine hz_iload_n (pc := 91) C dX10_next_91 rfl ?_
      exact hz_iret C Z rfl dX10_next_92 (by rw [hf, ff_t (f := (fun d => sin u k (nI (u 90 + d)))) c1, en_m1]) rfl
set_option maxHeartbeats 4000000 in
set_option maxRecDepth 100000 in
theorem ev_next1 {I : Nat → Nat → Int32} {L : Nat → Nat → Int64} {q : Nat → Nat → Nat} {u : Nat → Nat} (V : HV 12 q I u) (U : WU u) {k : Nat} (hk : k < u 64)  : hz_Ev mX10_next TT NN (I, L, PP q) [.ref 1, .int (nI k), .int (nI 1)] 0 0 (some (.int (nI (ff (fun d => sin u k (nI (u 90 + d))) 121 0) - 1))) TT NN (I, L, PP q) := by
  refine hz_Ev.intro (ls := [some (.ref 1), some (.int (nI k)), some (.int (nI 1)), none, none]) (by decide +kernel) rfl (Nat.le_of_ble_eq_true rfl) (fun X C Z _ => ?_)
  refine hz_iload_n (pc := 0) C dX10_next_0 rfl ?_
  refine hz_iconst (pc := 1) C (v := nI 0) dX10_next_1 (by decide +kernel) ?_
  refine hz_iconst (pc := 2) C (v := nI 1) dX10_next_2 (by decide +kernel) ?_
  refine hz_callSs (pc := 3) C (as := [.int (nI 1), .int (nI 0), .int (nI 1)]) (st := []) (ev_within _ (nI 1) (nI 0) (nI 1)) (hz_new0 _ _) fyX10_within fsX10_59 rfl dX10_next_3 rfl rfl (Nat.le_of_ble_eq_true rfl) (by decide) (hz_cap0 _) ?_
  refine hz_ifb_eq (pc := 6) C (tgt := 31) dX10_next_6 rfl (fun cq => absurd (vin (Nat.zero_le _) (by decide) (by decide)) cq) (fun _ => ?_)
  refine hz_iload_n (pc := 9) C dX10_next_9 rfl ?_
  refine hz_if_ne (pc := 10) C (tgt := 23) dX10_next_10 rfl (fun _ => ?_) (fun cq => absurd cq (by decide +kernel))
  refine hz_aload_n (pc := 23) C dX10_next_23 rfl ?_
  refine hz_iload_n (pc := 24) C dX10_next_24 rfl ?_
  refine hz_callVs (pc := 25) C (as := [.int (nI k)]) (st := []) (ev_isAlarm V U (nI k)) (hz_new0 _ _) fyX10_isAlarm fvX10_123 rfl dX10_next_25 hT1 rfl rfl hA1 rfl rfl (Nat.le_of_ble_eq_true rfl) (by decide) (hz_cap0 _) ?_
  refine hz_ifb_ne (pc := 28) C (tgt := 36) dX10_next_28 rfl (fun _ => ?_) (fun cq => absurd (vk hk (wu_al U)) cq)
  refine hz_iconst (pc := 36) C (v := nI 0) dX10_next_36 (by decide +kernel) ?_
  refine hz_istore_n (pc := 37) C (ls' := [some (.ref 1), some (.int (nI k)), some (.int (nI 1)), some (.int (nI 0)), none]) dX10_next_37 (Nat.le_of_ble_eq_true rfl) rfl ?_
  exact lp_nx1 C V U hk Z 121 0 none (by omega) rfl
set_option maxHeartbeats 4000000 in
set_option maxRecDepth 100000 in
theorem lp_nm1 {X : hz_X} (C : hz_C X mX11_next) {I : Nat → Nat → Int32} {L : Nat → Nat → Int64} {q : Nat → Nat → Nat} {u : Nat → Nat} (V : MF I u) (U : WU u) {k : Nat} (hk : k < u 64) (Z : hz_Z X 0 0 (some (.int (nI (ff (fun d => sin u k (nI (u 90 + d))) 121 0) - 1))) TT NN (I, L, PP q))  : ∀ (n i : Nat) (w4 w5 : Option Value), i + n = 121 → ff (fun d => sin u k (nI (u 90 + d))) 121 0 = ff (fun d => sin u k (nI (u 90 + d))) n i → hz_G X TT NN (I, L, PP q) 0 0 42 [some (.ref 146), some (.int (nI k)), some (.int (nI 1)), some (.int (nI i)), w4, w5] [] := by
  intro n
  induction n with
  | zero =>
    intro i w4 w5 hi hf
    obtain rfl : i = 121 := by omega
    have hal := wu_al U
    have hse := wu_se U
    have hco := wu_co U
    refine hz_iload_n (pc := 42) C dX11_next_42 rfl ?_
    refine hz_bipush (pc := 43) C (v := nI 120) dX11_next_43 (by decide +kernel) ?_
    refine hz_ic_gt (pc := 45) C (tgt := 117) dX11_next_45 rfl (fun _ => ?_) (fun cq => absurd (nI_lt (by omega) (by omega)) cq)
    refine hz_iconst (pc := 117) C (v := (-1 : Int32)) dX11_next_117 (by decide +kernel) ?_
    exact hz_iret C Z rfl dX11_next_118 (by rw [hf]; show (-1 : Int32) = nI 0 - 1; decide +kernel) rfl
  | succ n ih =>
    intro i w4 w5 hi hf
    have hal := wu_al U
    have hse := wu_se U
    have hco := wu_co U
    refine hz_iload_n (pc := 42) C dX11_next_42 rfl ?_
    refine hz_bipush (pc := 43) C (v := nI 120) dX11_next_43 (by decide +kernel) ?_
    refine hz_ic_gt (pc := 45) C (tgt := 117) dX11_next_45 rfl (fun cq => absurd cq (nI_nlt (by omega) (by omega))) (fun _ => ?_)
    refine hz_aload_n (pc := 48) C dX11_next_48 rfl ?_
    refine hz_getP (pc := 49) C (v := 147) ffX11_7 dX11_next_49 hT146 hA146 rfl (hP146_0 q) (by decide) ?_
    refine hz_bipush (pc := 52) C (v := nI 90) dX11_next_52 (by decide +kernel) ?_
    refine hz_iald (pc := 54) C (v := nI (u 90)) (j := 90) dX11_next_54 hT147 hA147 rfl (by decide) (by decide) (mg V.1 (by omega) (by omega)) ?_
    refine hz_iload_n (pc := 55) C dX11_next_55 rfl ?_
    refine hz_iadd (pc := 56) C (v := nI ((u 90) + i)) dX11_next_56 (nI_add _ _) ?_
    refine hz_istore (pc := 57) C (ls' := [some (.ref 146), some (.int (nI k)), some (.int (nI 1)), some (.int (nI i)), some (.int (nI ((u 90) + i))), w5]) dX11_next_57 (Nat.le_of_ble_eq_true rfl) rfl ?_
    refine hz_iload_n (pc := 59) C dX11_next_59 rfl ?_
    refine hz_if_ne (pc := 60) C (tgt := 88) dX11_next_60 rfl (fun _ => ?_) (fun cq => absurd cq (by decide +kernel))
    refine hz_aload_n (pc := 88) C dX11_next_88 rfl ?_
    refine hz_iload_n (pc := 89) C dX11_next_89 rfl ?_
    refine hz_iload (pc := 90) C dX11_next_90 rfl ?_
    refine hz_aload_n (pc := 92) C dX11_next_92 rfl ?_
    refine hz_getP (pc := 93) C (v := 147) ffX11_7 dX11_next_93 hT146 hA146 rfl (hP146_0 q) (by decide) ?_
    refine hz_bipush (pc := 96) C (v := nI 92) dX11_next_96 (by decide +kernel) ?_
    refine hz_iald (pc := 98) C (v := nI (u 92)) (j := 92) dX11_next_98 hT147 hA147 rfl (by decide) (by decide) (mg V.1 (by omega) (by omega)) ?_
    refine hz_callVs (pc := 99) C (as := [.int (nI k), .int (nI ((u 90) + i)), .int (nI (u 92))]) (st := []) (ev_beepsNow V.1 U (k := k) (by omega) (nI ((u 90) + i)) (c := u 92) (by omega)) (hz_new0 _ _) fyX11_beepsNow fvX11_176 rfl dX11_next_99 hT146 rfl rfl hA146 rfl rfl (Nat.le_of_ble_eq_true rfl) (by decide) (hz_cap0 _) ?_
    refine hz_istore (pc := 102) C (ls' := [some (.ref 146), some (.int (nI k)), some (.int (nI 1)), some (.int (nI i)), some (.int (nI ((u 90) + i))), some (.int (hz_b (sin u k (nI ((u 90) + i)) = true)))]) dX11_next_102 (Nat.le_of_ble_eq_true rfl) rfl ?_
    refine hz_iload (pc := 104) C dX11_next_104 rfl ?_
    refine hz_ifb_eq (pc := 106) C (tgt := 111) dX11_next_106 rfl (fun c1 => ?_) (fun c1 => ?_)
    · refine hz_iinc (pc := 111) C (v := nI (i + 1)) (ls' := [some (.ref 146), some (.int (nI k)), some (.int (nI 1)), some (.int (nI (i + 1))), some (.int (nI ((u 90) + i))), some (.int (hz_b (sin u k (nI ((u 90) + i)) = true)))]) dX11_next_111 rfl (nI_add _ 1) rfl ?_
      refine hz_goto (pc := 114) C (tgt := 42) dX11_next_114 rfl ?_
      exact ih (i + 1) _ _ (by omega) (by rw [hf, ff_f (f := (fun d => sin u k (nI (u 90 + d)))) c1])
    · refine hz_iload_n (pc := 109) C dX11_next_109 rfl ?_
      exact hz_iret C Z rfl dX11_next_110 (by rw [hf, ff_t (f := (fun d => sin u k (nI (u 90 + d)))) c1, en_m1]) rfl
set_option maxHeartbeats 4000000 in
set_option maxRecDepth 100000 in
theorem ev_next1M {I : Nat → Nat → Int32} {L : Nat → Nat → Int64} {q : Nat → Nat → Nat} {u : Nat → Nat} (V : MV I u) (U : WU u) {k : Nat} (hk : k < u 64)  : hz_Ev mX11_next TT NN (I, L, PP q) [.ref 146, .int (nI k), .int (nI 1)] 0 0 (some (.int (nI (ff (fun d => sin u k (nI (u 90 + d))) 121 0) - 1))) TT NN (lm u I, L, PP q) := by
  refine hz_Ev.intro (ls := [some (.ref 146), some (.int (nI k)), some (.int (nI 1)), none, none, none]) (by decide +kernel) rfl (Nat.le_of_ble_eq_true rfl) (fun X C Z _ => ?_)
  refine hz_iload_n (pc := 0) C dX11_next_0 rfl ?_
  refine hz_iconst (pc := 1) C (v := nI 0) dX11_next_1 (by decide +kernel) ?_
  refine hz_iconst (pc := 2) C (v := nI 1) dX11_next_2 (by decide +kernel) ?_
  refine hz_callSs (pc := 3) C (as := [.int (nI 1), .int (nI 0), .int (nI 1)]) (st := []) (ev_in _ (nI 1) (nI 0) (nI 1)) (hz_new0 _ _) fyX11_in fsX11_52 rfl dX11_next_3 rfl rfl (Nat.le_of_ble_eq_true rfl) (by decide) (hz_cap0 _) ?_
  refine hz_ifb_eq (pc := 6) C (tgt := 31) dX11_next_6 rfl (fun cq => absurd (vin (Nat.zero_le _) (by decide) (by decide)) cq) (fun _ => ?_)
  refine hz_iload_n (pc := 9) C dX11_next_9 rfl ?_
  refine hz_if_ne (pc := 10) C (tgt := 23) dX11_next_10 rfl (fun _ => ?_) (fun cq => absurd cq (by decide +kernel))
  refine hz_aload_n (pc := 23) C dX11_next_23 rfl ?_
  refine hz_iload_n (pc := 24) C dX11_next_24 rfl ?_
  refine hz_callVs (pc := 25) C (as := [.int (nI k)]) (st := []) (ev_isAlarmM V U (nI k)) (hz_new0 _ _) fyX11_isAlarm fvX11_160 rfl dX11_next_25 hT146 rfl rfl hA146 rfl rfl (Nat.le_of_ble_eq_true rfl) (by decide) (hz_cap0 _) ?_
  refine hz_ifb_ne (pc := 28) C (tgt := 36) dX11_next_28 rfl (fun _ => ?_) (fun cq => absurd (vk hk (wu_al U)) cq)
  refine hz_aload_n (pc := 36) C dX11_next_36 rfl ?_
  refine hz_callVv (pc := 37) C (as := []) (st := []) (ev_layFar V U) (hz_new0 _ _) fyX11_layFar fvX11_146 rfl dX11_next_37 hT146 rfl rfl hA146 rfl rfl (Nat.le_of_ble_eq_true rfl) (by decide) (hz_cap0 _) ?_
  refine hz_iconst (pc := 40) C (v := nI 0) dX11_next_40 (by decide +kernel) ?_
  refine hz_istore_n (pc := 41) C (ls' := [some (.ref 146), some (.int (nI k)), some (.int (nI 1)), some (.int (nI 0)), none, none]) dX11_next_41 (Nat.le_of_ble_eq_true rfl) rfl ?_
  exact lp_nm1 C (mf_lm V) U hk Z 121 0 none none (by omega) rfl
set_option maxHeartbeats 4000000 in
set_option maxRecDepth 100000 in
theorem lp_is0 {X : hz_X} (C : hz_C X mX10_is) {I : Nat → Nat → Int32} {L : Nat → Nat → Int64} {q : Nat → Nat → Nat} {u : Nat → Nat} (V : HV 12 q I u) (U : WU u) {k s : Nat} (hk : k < u 64) (hs : s ≤ 9999)  (kk : hz_G X TT NN (I, L, PP q) 0 0 106 [some (.ref 1), some (.int (nI k)), some (.int (nI s)), some (.int (nI 0)), some (.int (nI (bsum (fun j => decide (hz_b (so_of j (nI s) (nI (u 92)) (nI (u (94 + k))) = true) = nI 0)) 6))), some (.int (nI 6))] []) : ∀ (n i : Nat) , i + n = 6 → hz_G X TT NN (I, L, PP q) 0 0 35 [some (.ref 1), some (.int (nI k)), some (.int (nI s)), some (.int (nI 0)), some (.int (nI (bsum (fun j => decide (hz_b (so_of j (nI s) (nI (u 92)) (nI (u (94 + k))) = true) = nI 0)) i))), some (.int (nI i))] [] := by
  intro n
  induction n with
  | zero =>
    intro i  hi 
    obtain rfl : i = 6 := by omega
    have hal := wu_al U
    have hco := wu_co U
    have hba := wu_ba U hk
    refine hz_iload (pc := 35) C dX10_is_35 rfl ?_
    refine hz_bipush (pc := 37) C (v := nI 6) dX10_is_37 (by decide +kernel) ?_
    refine hz_ic_ge (pc := 39) C (tgt := 106) dX10_is_39 rfl (fun _ => ?_) (fun cq => absurd (nI_le (by omega) (by omega)) cq)
    exact kk
  | succ n ih =>
    intro i  hi 
    have hal := wu_al U
    have hco := wu_co U
    have hba := wu_ba U hk
    refine hz_iload (pc := 35) C dX10_is_35 rfl ?_
    refine hz_bipush (pc := 37) C (v := nI 6) dX10_is_37 (by decide +kernel) ?_
    refine hz_ic_ge (pc := 39) C (tgt := 106) dX10_is_39 rfl (fun cq => absurd cq (nI_ge (by omega) (by omega))) (fun _ => ?_)
    refine hz_aload_n (pc := 42) C dX10_is_42 rfl ?_
    refine hz_getP (pc := 43) C (v := 12) ffX10_26 dX10_is_43 hT1 hA1 rfl (hP1_4 q) (by decide) ?_
    refine hz_getP (pc := 46) C (v := 22) ffX10_231 dX10_is_46 hT12 hA12 rfl (hP12_0 q) (by decide) ?_
    refine hz_iload (pc := 49) C dX10_is_49 rfl ?_
    refine hz_aald (pc := 51) C (v := 23 + i) (j := i) dX10_is_51 hT22 (Or.inr (Or.inr rfl)) hA22 rfl (by omega) (by decide) (hP22 q (by omega)) (by omega) ?_
    refine hz_iload_n (pc := 52) C dX10_is_52 rfl ?_
    refine hz_aload_n (pc := 53) C dX10_is_53 rfl ?_
    refine hz_getP (pc := 54) C (v := 12) ffX10_26 dX10_is_54 hT1 hA1 rfl (hP1_4 q) (by decide) ?_
    refine hz_getP (pc := 57) C (v := 19) ffX10_102 dX10_is_57 hT12 hA12 rfl (hP12_7 q) (by decide) ?_
    refine hz_getI (pc := 60) C (v := nI (u 92)) ffX10_137 dX10_is_60 hT19 hA19 rfl (hv_co V) ?_
    refine hz_aload_n (pc := 63) C dX10_is_63 rfl ?_
    refine hz_getP (pc := 64) C (v := 12) ffX10_26 dX10_is_64 hT1 hA1 rfl (hP1_4 q) (by decide) ?_
    refine hz_getP (pc := 67) C (v := 19) ffX10_102 dX10_is_67 hT12 hA12 rfl (hP12_7 q) (by decide) ?_
    refine hz_getP (pc := 70) C (v := 20) ffX10_134 dX10_is_70 hT19 hA19 rfl (hP19_0 q) (by decide) ?_
    refine hz_iload_n (pc := 73) C dX10_is_73 rfl ?_
    refine hz_iald (pc := 74) C (v := nI (u (94 + k))) (j := k) dX10_is_74 hT20 hA20 rfl (by omega) (by decide) (hv_ba V (by omega)) ?_
    refine kc_so (pc := 75) (k := i) (st := []) C fvX10_235_X6 fvX10_235_X4 fvX10_235_X9 fvX10_235_X0 fvX10_235_X5 fvX10_235_X1 (by omega) dX10_is_75 rfl (Nat.le_of_ble_eq_true rfl) (by decide) ?_
    refine hz_iload_n (pc := 78) C dX10_is_78 rfl ?_
    refine hz_iconst (pc := 79) C (v := nI 1) dX10_is_79 (by decide +kernel) ?_
    refine hz_ic_ne (pc := 80) C (tgt := 87) dX10_is_80 rfl (fun _ => ?_) (fun cq => absurd cq (by decide +kernel))
    refine hz_iconst (pc := 87) C (v := nI 0) dX10_is_87 (by decide +kernel) ?_
    refine hz_ic_ne (pc := 88) C (tgt := 100) dX10_is_88 rfl (fun c1 => ?_) (fun c1 => ?_)
    · refine hz_iinc (pc := 100) C (v := nI (i + 1)) (ls' := [some (.ref 1), some (.int (nI k)), some (.int (nI s)), some (.int (nI 0)), some (.int (nI (bsum (fun j => decide (hz_b (so_of j (nI s) (nI (u 92)) (nI (u (94 + k))) = true) = nI 0)) i))), some (.int (nI (i + 1)))]) dX10_is_100 rfl (nI_add _ 1) rfl ?_
      refine hz_goto (pc := 103) C (tgt := 35) dX10_is_103 rfl ?_
      have h9 := ih (i + 1) (by omega)
      rw [bsum_f (f := (fun j => decide (hz_b (so_of j (nI s) (nI (u 92)) (nI (u (94 + k))) = true) = nI 0))) (n := i) (by simp only [decide_eq_true_eq]; exact c1)] at h9
      exact h9
    · refine hz_iload (pc := 91) C dX10_is_91 rfl ?_
      refine hz_iconst (pc := 93) C (v := nI 1) dX10_is_93 (by decide +kernel) ?_
      refine hz_iload (pc := 94) C dX10_is_94 rfl ?_
      refine hz_ishl (pc := 96) C dX10_is_96 rfl ?_
      refine hz_ior (pc := 97) C dX10_is_97 rfl ?_
      refine hz_istore (pc := 98) C (ls' := [some (.ref 1), some (.int (nI k)), some (.int (nI s)), some (.int (nI 0)), some (.int ((nI (bsum (fun j => decide (hz_b (so_of j (nI s) (nI (u 92)) (nI (u (94 + k))) = true) = nI 0)) i)) ||| ((nI 1) <<< ((nI i) &&& 31)))), some (.int (nI i))]) dX10_is_98 (Nat.le_of_ble_eq_true rfl) rfl ?_
      refine hz_iinc (pc := 100) C (v := nI (i + 1)) (ls' := [some (.ref 1), some (.int (nI k)), some (.int (nI s)), some (.int (nI 0)), some (.int ((nI (bsum (fun j => decide (hz_b (so_of j (nI s) (nI (u 92)) (nI (u (94 + k))) = true) = nI 0)) i)) ||| ((nI 1) <<< ((nI i) &&& 31)))), some (.int (nI (i + 1)))]) dX10_is_100 rfl (nI_add _ 1) rfl ?_
      refine hz_goto (pc := 103) C (tgt := 35) dX10_is_103 rfl ?_
      rw [bor_add (by omega)]
      have h9 := ih (i + 1) (by omega)
      rw [bsum_t (f := (fun j => decide (hz_b (so_of j (nI s) (nI (u 92)) (nI (u (94 + k))) = true) = nI 0))) (n := i) (by simp only [decide_eq_true_eq]; exact c1)] at h9
      exact h9
set_option maxHeartbeats 4000000 in
set_option maxRecDepth 100000 in
theorem ev_is0 {I : Nat → Nat → Int32} {L : Nat → Nat → Int64} {q : Nat → Nat → Nat} {u : Nat → Nat} (V : HV 12 q I u) (U : WU u) {k s : Nat} (hk : k < u 64) (hs : s ≤ 9999)  : hz_Ev mX10_is TT NN (I, L, PP q) [.ref 1, .int (nI k), .int (nI s), .int (nI 0)] 0 0 (some (.int (nI (bsum (fun j => decide (hz_b (so_of j (nI s) (nI (u 92)) (nI (u (94 + k))) = true) = nI 0)) 6)))) TT NN (I, L, PP q) := by
  refine hz_Ev.intro (ls := [some (.ref 1), some (.int (nI k)), some (.int (nI s)), some (.int (nI 0)), none, none]) (by decide +kernel) rfl (Nat.le_of_ble_eq_true rfl) (fun X C Z _ => ?_)
  refine hz_aload_n (pc := 0) C dX10_is_0 rfl ?_
  refine hz_iload_n (pc := 1) C dX10_is_1 rfl ?_
  refine hz_callVs (pc := 2) C (as := [.int (nI k)]) (st := []) (ev_isAlarm V U (nI k)) (hz_new0 _ _) fyX10_isAlarm fvX10_123 rfl dX10_is_2 hT1 rfl rfl hA1 rfl rfl (Nat.le_of_ble_eq_true rfl) (by decide) (hz_cap0 _) ?_
  refine hz_ifb_eq (pc := 5) C (tgt := 24) dX10_is_5 rfl (fun cq => absurd (vk hk (wu_al U)) cq) (fun _ => ?_)
  refine hz_iload_n (pc := 8) C dX10_is_8 rfl ?_
  refine hz_callSs (pc := 9) C (as := [.int (nI s)]) (st := []) (ev_isSecond _ (nI s)) (hz_new0 _ _) fyX10_isSecond fsX10_161 rfl dX10_is_9 rfl rfl (Nat.le_of_ble_eq_true rfl) (by decide) (hz_cap0 _) ?_
  refine hz_ifb_eq (pc := 12) C (tgt := 24) dX10_is_12 rfl (fun cq => absurd (vs hs) cq) (fun _ => ?_)
  refine hz_iload_n (pc := 15) C dX10_is_15 rfl ?_
  refine hz_iconst (pc := 16) C (v := nI 0) dX10_is_16 (by decide +kernel) ?_
  refine hz_iconst (pc := 17) C (v := nI 1) dX10_is_17 (by decide +kernel) ?_
  refine hz_callSs (pc := 18) C (as := [.int (nI 0), .int (nI 0), .int (nI 1)]) (st := []) (ev_within _ (nI 0) (nI 0) (nI 1)) (hz_new0 _ _) fyX10_within fsX10_59 rfl dX10_is_18 rfl rfl (Nat.le_of_ble_eq_true rfl) (by decide) (hz_cap0 _) ?_
  refine hz_ifb_ne (pc := 21) C (tgt := 29) dX10_is_21 rfl (fun _ => ?_) (fun cq => absurd (vin (Nat.zero_le _) (by decide) (by decide)) cq)
  refine hz_iconst (pc := 29) C (v := nI 0) dX10_is_29 (by decide +kernel) ?_
  refine hz_istore (pc := 30) C (ls' := [some (.ref 1), some (.int (nI k)), some (.int (nI s)), some (.int (nI 0)), some (.int (nI 0)), none]) dX10_is_30 (Nat.le_of_ble_eq_true rfl) rfl ?_
  refine hz_iconst (pc := 32) C (v := nI 0) dX10_is_32 (by decide +kernel) ?_
  refine hz_istore (pc := 33) C (ls' := [some (.ref 1), some (.int (nI k)), some (.int (nI s)), some (.int (nI 0)), some (.int (nI 0)), some (.int (nI 0))]) dX10_is_33 (Nat.le_of_ble_eq_true rfl) rfl ?_
  refine lp_is0 C V U hk hs ?_ 6 0 (by omega)
  refine hz_iload (pc := 106) C dX10_is_106 rfl ?_
  exact hz_iret C Z rfl dX10_is_108 rfl rfl
set_option maxHeartbeats 4000000 in
set_option maxRecDepth 100000 in
theorem lp_im0 {X : hz_X} (C : hz_C X mX11_is) {I : Nat → Nat → Int32} {L : Nat → Nat → Int64} {q : Nat → Nat → Nat} {u : Nat → Nat} (V : MV I u) (U : WU u) {k s : Nat} (hk : k < u 64) (hs : s ≤ 9999)  (kk : hz_G X TT NN (I, L, PP q) 0 0 100 [some (.ref 146), some (.int (nI k)), some (.int (nI s)), some (.int (nI 0)), some (.int (nI (bsum (fun j => decide (hz_b (so_of j (nI s) (nI (u 92)) (nI (u (94 + k))) = true) = nI 0)) 6))), some (.int (nI 6))] []) : ∀ (n i : Nat) , i + n = 6 → hz_G X TT NN (I, L, PP q) 0 0 39 [some (.ref 146), some (.int (nI k)), some (.int (nI s)), some (.int (nI 0)), some (.int (nI (bsum (fun j => decide (hz_b (so_of j (nI s) (nI (u 92)) (nI (u (94 + k))) = true) = nI 0)) i))), some (.int (nI i))] [] := by
  intro n
  induction n with
  | zero =>
    intro i  hi 
    obtain rfl : i = 6 := by omega
    have hal := wu_al U
    have hco := wu_co U
    have hba := wu_ba U hk
    refine hz_iload (pc := 39) C dX11_is_39 rfl ?_
    refine hz_bipush (pc := 41) C (v := nI 6) dX11_is_41 (by decide +kernel) ?_
    refine hz_ic_ge (pc := 43) C (tgt := 100) dX11_is_43 rfl (fun _ => ?_) (fun cq => absurd (nI_le (by omega) (by omega)) cq)
    exact kk
  | succ n ih =>
    intro i  hi 
    have hal := wu_al U
    have hco := wu_co U
    have hba := wu_ba U hk
    refine hz_iload (pc := 39) C dX11_is_39 rfl ?_
    refine hz_bipush (pc := 41) C (v := nI 6) dX11_is_41 (by decide +kernel) ?_
    refine hz_ic_ge (pc := 43) C (tgt := 100) dX11_is_43 rfl (fun cq => absurd cq (nI_ge (by omega) (by omega))) (fun _ => ?_)
    refine hz_iload (pc := 46) C dX11_is_46 rfl ?_
    refine hz_iload (pc := 48) C dX11_is_48 rfl ?_
    refine hz_aload_n (pc := 50) C dX11_is_50 rfl ?_
    refine hz_getP (pc := 51) C (v := 147) ffX11_7 dX11_is_51 hT146 hA146 rfl (hP146_0 q) (by decide) ?_
    refine hz_bipush (pc := 54) C (v := nI 94) dX11_is_54 (by decide +kernel) ?_
    refine hz_iload_n (pc := 56) C dX11_is_56 rfl ?_
    refine hz_iadd (pc := 57) C (v := nI (94 + k)) dX11_is_57 (nI_add _ _) ?_
    refine hz_iald (pc := 58) C (v := nI (u (94 + k))) (j := 94 + k) dX11_is_58 hT147 hA147 rfl (by omega) (by decide) (mg V (by omega) (by omega)) ?_
    refine hz_iload_n (pc := 59) C dX11_is_59 rfl ?_
    refine hz_aload_n (pc := 60) C dX11_is_60 rfl ?_
    refine hz_getP (pc := 61) C (v := 147) ffX11_7 dX11_is_61 hT146 hA146 rfl (hP146_0 q) (by decide) ?_
    refine hz_bipush (pc := 64) C (v := nI 92) dX11_is_64 (by decide +kernel) ?_
    refine hz_iald (pc := 66) C (v := nI (u 92)) (j := 92) dX11_is_66 hT147 hA147 rfl (by decide) (by decide) (mg V (by omega) (by omega)) ?_
    refine hz_callSs (pc := 67) C (as := [.int (nI i), .int (nI (u (94 + k))), .int (nI s), .int (nI (u 92))]) (st := [.int (nI (bsum (fun j => decide (hz_b (so_of j (nI s) (nI (u 92)) (nI (u (94 + k))) = true) = nI 0)) i))]) (ev_beepsBy _ (k := i) (by omega) (b := u (94 + k)) (c := u 92) (by omega) (by omega) (nI s)) (hz_new0 _ _) fyX11_beepsBy fsX11_172 rfl dX11_is_67 rfl rfl (Nat.le_of_ble_eq_true rfl) (by decide) (hz_cap0 _) ?_
    refine hz_iload_n (pc := 70) C dX11_is_70 rfl ?_
    refine hz_iconst (pc := 71) C (v := nI 1) dX11_is_71 (by decide +kernel) ?_
    refine hz_ic_ne (pc := 72) C (tgt := 79) dX11_is_72 rfl (fun _ => ?_) (fun cq => absurd cq (by decide +kernel))
    refine hz_iconst (pc := 79) C (v := nI 0) dX11_is_79 (by decide +kernel) ?_
    refine hz_ic_ne (pc := 80) C (tgt := 90) dX11_is_80 rfl (fun c1 => ?_) (fun c1 => ?_)
    · refine hz_iconst (pc := 90) C (v := nI 0) dX11_is_90 (by decide +kernel) ?_
      refine hz_ior (pc := 91) C dX11_is_91 rfl ?_
      refine hz_istore (pc := 92) C (ls' := [some (.ref 146), some (.int (nI k)), some (.int (nI s)), some (.int (nI 0)), some (.int ((nI (bsum (fun j => decide (hz_b (so_of j (nI s) (nI (u 92)) (nI (u (94 + k))) = true) = nI 0)) i)) ||| (nI 0))), some (.int (nI i))]) dX11_is_92 (Nat.le_of_ble_eq_true rfl) rfl ?_
      refine hz_iinc (pc := 94) C (v := nI (i + 1)) (ls' := [some (.ref 146), some (.int (nI k)), some (.int (nI s)), some (.int (nI 0)), some (.int ((nI (bsum (fun j => decide (hz_b (so_of j (nI s) (nI (u 92)) (nI (u (94 + k))) = true) = nI 0)) i)) ||| (nI 0))), some (.int (nI (i + 1)))]) dX11_is_94 rfl (nI_add _ 1) rfl ?_
      refine hz_goto (pc := 97) C (tgt := 39) dX11_is_97 rfl ?_
      rw [bor_0 (by omega)]
      have h9 := ih (i + 1) (by omega)
      rw [bsum_f (f := (fun j => decide (hz_b (so_of j (nI s) (nI (u 92)) (nI (u (94 + k))) = true) = nI 0))) (n := i) (by simp only [decide_eq_true_eq]; exact c1)] at h9
      exact h9
    · refine hz_iconst (pc := 83) C (v := nI 1) dX11_is_83 (by decide +kernel) ?_
      refine hz_iload (pc := 84) C dX11_is_84 rfl ?_
      refine hz_ishl (pc := 86) C dX11_is_86 rfl ?_
      refine hz_goto (pc := 87) C (tgt := 91) dX11_is_87 rfl ?_
      refine hz_ior (pc := 91) C dX11_is_91 rfl ?_
      refine hz_istore (pc := 92) C (ls' := [some (.ref 146), some (.int (nI k)), some (.int (nI s)), some (.int (nI 0)), some (.int ((nI (bsum (fun j => decide (hz_b (so_of j (nI s) (nI (u 92)) (nI (u (94 + k))) = true) = nI 0)) i)) ||| ((nI 1) <<< ((nI i) &&& 31)))), some (.int (nI i))]) dX11_is_92 (Nat.le_of_ble_eq_true rfl) rfl ?_
      refine hz_iinc (pc := 94) C (v := nI (i + 1)) (ls' := [some (.ref 146), some (.int (nI k)), some (.int (nI s)), some (.int (nI 0)), some (.int ((nI (bsum (fun j => decide (hz_b (so_of j (nI s) (nI (u 92)) (nI (u (94 + k))) = true) = nI 0)) i)) ||| ((nI 1) <<< ((nI i) &&& 31)))), some (.int (nI (i + 1)))]) dX11_is_94 rfl (nI_add _ 1) rfl ?_
      refine hz_goto (pc := 97) C (tgt := 39) dX11_is_97 rfl ?_
      rw [bor_add (by omega)]
      have h9 := ih (i + 1) (by omega)
      rw [bsum_t (f := (fun j => decide (hz_b (so_of j (nI s) (nI (u 92)) (nI (u (94 + k))) = true) = nI 0))) (n := i) (by simp only [decide_eq_true_eq]; exact c1)] at h9
      exact h9
set_option maxHeartbeats 4000000 in
set_option maxRecDepth 100000 in
theorem ev_is0M {I : Nat → Nat → Int32} {L : Nat → Nat → Int64} {q : Nat → Nat → Nat} {u : Nat → Nat} (V : MV I u) (U : WU u) {k s : Nat} (hk : k < u 64) (hs : s ≤ 9999)  : hz_Ev mX11_is TT NN (I, L, PP q) [.ref 146, .int (nI k), .int (nI s), .int (nI 0)] 0 0 (some (.int (nI (bsum (fun j => decide (hz_b (so_of j (nI s) (nI (u 92)) (nI (u (94 + k))) = true) = nI 0)) 6)))) TT NN (I, L, PP q) := by
  refine hz_Ev.intro (ls := [some (.ref 146), some (.int (nI k)), some (.int (nI s)), some (.int (nI 0)), none, none]) (by decide +kernel) rfl (Nat.le_of_ble_eq_true rfl) (fun X C Z _ => ?_)
  refine hz_aload_n (pc := 0) C dX11_is_0 rfl ?_
  refine hz_iload_n (pc := 1) C dX11_is_1 rfl ?_
  refine hz_callVs (pc := 2) C (as := [.int (nI k)]) (st := []) (ev_isAlarmM V U (nI k)) (hz_new0 _ _) fyX11_isAlarm fvX11_160 rfl dX11_is_2 hT146 rfl rfl hA146 rfl rfl (Nat.le_of_ble_eq_true rfl) (by decide) (hz_cap0 _) ?_
  refine hz_ifb_eq (pc := 5) C (tgt := 28) dX11_is_5 rfl (fun cq => absurd (vk hk (wu_al U)) cq) (fun _ => ?_)
  refine hz_iload_n (pc := 8) C dX11_is_8 rfl ?_
  refine hz_iconst (pc := 9) C (v := nI 0) dX11_is_9 (by decide +kernel) ?_
  refine hz_sipush (pc := 10) C (v := nI 9999) dX11_is_10 (by decide +kernel) ?_
  refine hz_callSs (pc := 13) C (as := [.int (nI s), .int (nI 0), .int (nI 9999)]) (st := []) (ev_in _ (nI s) (nI 0) (nI 9999)) (hz_new0 _ _) fyX11_in fsX11_52 rfl dX11_is_13 rfl rfl (Nat.le_of_ble_eq_true rfl) (by decide) (hz_cap0 _) ?_
  refine hz_ifb_eq (pc := 16) C (tgt := 28) dX11_is_16 rfl (fun cq => absurd (vs hs) cq) (fun _ => ?_)
  refine hz_iload_n (pc := 19) C dX11_is_19 rfl ?_
  refine hz_iconst (pc := 20) C (v := nI 0) dX11_is_20 (by decide +kernel) ?_
  refine hz_iconst (pc := 21) C (v := nI 1) dX11_is_21 (by decide +kernel) ?_
  refine hz_callSs (pc := 22) C (as := [.int (nI 0), .int (nI 0), .int (nI 1)]) (st := []) (ev_in _ (nI 0) (nI 0) (nI 1)) (hz_new0 _ _) fyX11_in fsX11_52 rfl dX11_is_22 rfl rfl (Nat.le_of_ble_eq_true rfl) (by decide) (hz_cap0 _) ?_
  refine hz_ifb_ne (pc := 25) C (tgt := 33) dX11_is_25 rfl (fun _ => ?_) (fun cq => absurd (vin (Nat.zero_le _) (by decide) (by decide)) cq)
  refine hz_iconst (pc := 33) C (v := nI 0) dX11_is_33 (by decide +kernel) ?_
  refine hz_istore (pc := 34) C (ls' := [some (.ref 146), some (.int (nI k)), some (.int (nI s)), some (.int (nI 0)), some (.int (nI 0)), none]) dX11_is_34 (Nat.le_of_ble_eq_true rfl) rfl ?_
  refine hz_iconst (pc := 36) C (v := nI 0) dX11_is_36 (by decide +kernel) ?_
  refine hz_istore (pc := 37) C (ls' := [some (.ref 146), some (.int (nI k)), some (.int (nI s)), some (.int (nI 0)), some (.int (nI 0)), some (.int (nI 0))]) dX11_is_37 (Nat.le_of_ble_eq_true rfl) rfl ?_
  refine lp_im0 C V U hk hs ?_ 6 0 (by omega)
  refine hz_iload (pc := 100) C dX11_is_100 rfl ?_
  exact hz_iret C Z rfl dX11_is_102 rfl rfl
set_option maxHeartbeats 4000000 in
set_option maxRecDepth 100000 in
theorem lp_is1 {X : hz_X} (C : hz_C X mX10_is) {I : Nat → Nat → Int32} {L : Nat → Nat → Int64} {q : Nat → Nat → Nat} {u : Nat → Nat} (V : HV 12 q I u) (U : WU u) {k s : Nat} (hk : k < u 64) (hs : s ≤ 9999)  (kk : hz_G X TT NN (I, L, PP q) 0 0 106 [some (.ref 1), some (.int (nI k)), some (.int (nI s)), some (.int (nI 1)), some (.int (nI (bsum (fun j => decide (hz_b (so_of j (nI s) (nI (u 92)) (nI (u (94 + k))) = true) = nI 1)) 6))), some (.int (nI 6))] []) : ∀ (n i : Nat) , i + n = 6 → hz_G X TT NN (I, L, PP q) 0 0 35 [some (.ref 1), some (.int (nI k)), some (.int (nI s)), some (.int (nI 1)), some (.int (nI (bsum (fun j => decide (hz_b (so_of j (nI s) (nI (u 92)) (nI (u (94 + k))) = true) = nI 1)) i))), some (.int (nI i))] [] := by
  intro n
  induction n with
  | zero =>
    intro i  hi 
    obtain rfl : i = 6 := by omega
    have hal := wu_al U
    have hco := wu_co U
    have hba := wu_ba U hk
    refine hz_iload (pc := 35) C dX10_is_35 rfl ?_
    refine hz_bipush (pc := 37) C (v := nI 6) dX10_is_37 (by decide +kernel) ?_
    refine hz_ic_ge (pc := 39) C (tgt := 106) dX10_is_39 rfl (fun _ => ?_) (fun cq => absurd (nI_le (by omega) (by omega)) cq)
    exact kk
  | succ n ih =>
    intro i  hi 
    have hal := wu_al U
    have hco := wu_co U
    have hba := wu_ba U hk
    refine hz_iload (pc := 35) C dX10_is_35 rfl ?_
    refine hz_bipush (pc := 37) C (v := nI 6) dX10_is_37 (by decide +kernel) ?_
    refine hz_ic_ge (pc := 39) C (tgt := 106) dX10_is_39 rfl (fun cq => absurd cq (nI_ge (by omega) (by omega))) (fun _ => ?_)
    refine hz_aload_n (pc := 42) C dX10_is_42 rfl ?_
    refine hz_getP (pc := 43) C (v := 12) ffX10_26 dX10_is_43 hT1 hA1 rfl (hP1_4 q) (by decide) ?_
    refine hz_getP (pc := 46) C (v := 22) ffX10_231 dX10_is_46 hT12 hA12 rfl (hP12_0 q) (by decide) ?_
    refine hz_iload (pc := 49) C dX10_is_49 rfl ?_
    refine hz_aald (pc := 51) C (v := 23 + i) (j := i) dX10_is_51 hT22 (Or.inr (Or.inr rfl)) hA22 rfl (by omega) (by decide) (hP22 q (by omega)) (by omega) ?_
    refine hz_iload_n (pc := 52) C dX10_is_52 rfl ?_
    refine hz_aload_n (pc := 53) C dX10_is_53 rfl ?_
    refine hz_getP (pc := 54) C (v := 12) ffX10_26 dX10_is_54 hT1 hA1 rfl (hP1_4 q) (by decide) ?_
    refine hz_getP (pc := 57) C (v := 19) ffX10_102 dX10_is_57 hT12 hA12 rfl (hP12_7 q) (by decide) ?_
    refine hz_getI (pc := 60) C (v := nI (u 92)) ffX10_137 dX10_is_60 hT19 hA19 rfl (hv_co V) ?_
    refine hz_aload_n (pc := 63) C dX10_is_63 rfl ?_
    refine hz_getP (pc := 64) C (v := 12) ffX10_26 dX10_is_64 hT1 hA1 rfl (hP1_4 q) (by decide) ?_
    refine hz_getP (pc := 67) C (v := 19) ffX10_102 dX10_is_67 hT12 hA12 rfl (hP12_7 q) (by decide) ?_
    refine hz_getP (pc := 70) C (v := 20) ffX10_134 dX10_is_70 hT19 hA19 rfl (hP19_0 q) (by decide) ?_
    refine hz_iload_n (pc := 73) C dX10_is_73 rfl ?_
    refine hz_iald (pc := 74) C (v := nI (u (94 + k))) (j := k) dX10_is_74 hT20 hA20 rfl (by omega) (by decide) (hv_ba V (by omega)) ?_
    refine kc_so (pc := 75) (k := i) (st := []) C fvX10_235_X6 fvX10_235_X4 fvX10_235_X9 fvX10_235_X0 fvX10_235_X5 fvX10_235_X1 (by omega) dX10_is_75 rfl (Nat.le_of_ble_eq_true rfl) (by decide) ?_
    refine hz_iload_n (pc := 78) C dX10_is_78 rfl ?_
    refine hz_iconst (pc := 79) C (v := nI 1) dX10_is_79 (by decide +kernel) ?_
    refine hz_ic_ne (pc := 80) C (tgt := 87) dX10_is_80 rfl (fun cq => absurd (by decide +kernel) cq) (fun _ => ?_)
    refine hz_iconst (pc := 83) C (v := nI 1) dX10_is_83 (by decide +kernel) ?_
    refine hz_goto (pc := 84) C (tgt := 88) dX10_is_84 rfl ?_
    refine hz_ic_ne (pc := 88) C (tgt := 100) dX10_is_88 rfl (fun c1 => ?_) (fun c1 => ?_)
    · refine hz_iinc (pc := 100) C (v := nI (i + 1)) (ls' := [some (.ref 1), some (.int (nI k)), some (.int (nI s)), some (.int (nI 1)), some (.int (nI (bsum (fun j => decide (hz_b (so_of j (nI s) (nI (u 92)) (nI (u (94 + k))) = true) = nI 1)) i))), some (.int (nI (i + 1)))]) dX10_is_100 rfl (nI_add _ 1) rfl ?_
      refine hz_goto (pc := 103) C (tgt := 35) dX10_is_103 rfl ?_
      have h9 := ih (i + 1) (by omega)
      rw [bsum_f (f := (fun j => decide (hz_b (so_of j (nI s) (nI (u 92)) (nI (u (94 + k))) = true) = nI 1))) (n := i) (by simp only [decide_eq_true_eq]; exact c1)] at h9
      exact h9
    · refine hz_iload (pc := 91) C dX10_is_91 rfl ?_
      refine hz_iconst (pc := 93) C (v := nI 1) dX10_is_93 (by decide +kernel) ?_
      refine hz_iload (pc := 94) C dX10_is_94 rfl ?_
      refine hz_ishl (pc := 96) C dX10_is_96 rfl ?_
      refine hz_ior (pc := 97) C dX10_is_97 rfl ?_
      refine hz_istore (pc := 98) C (ls' := [some (.ref 1), some (.int (nI k)), some (.int (nI s)), some (.int (nI 1)), some (.int ((nI (bsum (fun j => decide (hz_b (so_of j (nI s) (nI (u 92)) (nI (u (94 + k))) = true) = nI 1)) i)) ||| ((nI 1) <<< ((nI i) &&& 31)))), some (.int (nI i))]) dX10_is_98 (Nat.le_of_ble_eq_true rfl) rfl ?_
      refine hz_iinc (pc := 100) C (v := nI (i + 1)) (ls' := [some (.ref 1), some (.int (nI k)), some (.int (nI s)), some (.int (nI 1)), some (.int ((nI (bsum (fun j => decide (hz_b (so_of j (nI s) (nI (u 92)) (nI (u (94 + k))) = true) = nI 1)) i)) ||| ((nI 1) <<< ((nI i) &&& 31)))), some (.int (nI (i + 1)))]) dX10_is_100 rfl (nI_add _ 1) rfl ?_
      refine hz_goto (pc := 103) C (tgt := 35) dX10_is_103 rfl ?_
      rw [bor_add (by omega)]
      have h9 := ih (i + 1) (by omega)
      rw [bsum_t (f := (fun j => decide (hz_b (so_of j (nI s) (nI (u 92)) (nI (u (94 + k))) = true) = nI 1))) (n := i) (by simp only [decide_eq_true_eq]; exact c1)] at h9
      exact h9
set_option maxHeartbeats 4000000 in
set_option maxRecDepth 100000 in
theorem ev_is1 {I : Nat → Nat → Int32} {L : Nat → Nat → Int64} {q : Nat → Nat → Nat} {u : Nat → Nat} (V : HV 12 q I u) (U : WU u) {k s : Nat} (hk : k < u 64) (hs : s ≤ 9999)  : hz_Ev mX10_is TT NN (I, L, PP q) [.ref 1, .int (nI k), .int (nI s), .int (nI 1)] 0 0 (some (.int (nI (bsum (fun j => decide (hz_b (so_of j (nI s) (nI (u 92)) (nI (u (94 + k))) = true) = nI 1)) 6)))) TT NN (I, L, PP q) := by
  refine hz_Ev.intro (ls := [some (.ref 1), some (.int (nI k)), some (.int (nI s)), some (.int (nI 1)), none, none]) (by decide +kernel) rfl (Nat.le_of_ble_eq_true rfl) (fun X C Z _ => ?_)
  refine hz_aload_n (pc := 0) C dX10_is_0 rfl ?_
  refine hz_iload_n (pc := 1) C dX10_is_1 rfl ?_
  refine hz_callVs (pc := 2) C (as := [.int (nI k)]) (st := []) (ev_isAlarm V U (nI k)) (hz_new0 _ _) fyX10_isAlarm fvX10_123 rfl dX10_is_2 hT1 rfl rfl hA1 rfl rfl (Nat.le_of_ble_eq_true rfl) (by decide) (hz_cap0 _) ?_
  refine hz_ifb_eq (pc := 5) C (tgt := 24) dX10_is_5 rfl (fun cq => absurd (vk hk (wu_al U)) cq) (fun _ => ?_)
  refine hz_iload_n (pc := 8) C dX10_is_8 rfl ?_
  refine hz_callSs (pc := 9) C (as := [.int (nI s)]) (st := []) (ev_isSecond _ (nI s)) (hz_new0 _ _) fyX10_isSecond fsX10_161 rfl dX10_is_9 rfl rfl (Nat.le_of_ble_eq_true rfl) (by decide) (hz_cap0 _) ?_
  refine hz_ifb_eq (pc := 12) C (tgt := 24) dX10_is_12 rfl (fun cq => absurd (vs hs) cq) (fun _ => ?_)
  refine hz_iload_n (pc := 15) C dX10_is_15 rfl ?_
  refine hz_iconst (pc := 16) C (v := nI 0) dX10_is_16 (by decide +kernel) ?_
  refine hz_iconst (pc := 17) C (v := nI 1) dX10_is_17 (by decide +kernel) ?_
  refine hz_callSs (pc := 18) C (as := [.int (nI 1), .int (nI 0), .int (nI 1)]) (st := []) (ev_within _ (nI 1) (nI 0) (nI 1)) (hz_new0 _ _) fyX10_within fsX10_59 rfl dX10_is_18 rfl rfl (Nat.le_of_ble_eq_true rfl) (by decide) (hz_cap0 _) ?_
  refine hz_ifb_ne (pc := 21) C (tgt := 29) dX10_is_21 rfl (fun _ => ?_) (fun cq => absurd (vin (Nat.zero_le _) (by decide) (by decide)) cq)
  refine hz_iconst (pc := 29) C (v := nI 0) dX10_is_29 (by decide +kernel) ?_
  refine hz_istore (pc := 30) C (ls' := [some (.ref 1), some (.int (nI k)), some (.int (nI s)), some (.int (nI 1)), some (.int (nI 0)), none]) dX10_is_30 (Nat.le_of_ble_eq_true rfl) rfl ?_
  refine hz_iconst (pc := 32) C (v := nI 0) dX10_is_32 (by decide +kernel) ?_
  refine hz_istore (pc := 33) C (ls' := [some (.ref 1), some (.int (nI k)), some (.int (nI s)), some (.int (nI 1)), some (.int (nI 0)), some (.int (nI 0))]) dX10_is_33 (Nat.le_of_ble_eq_true rfl) rfl ?_
  refine lp_is1 C V U hk hs ?_ 6 0 (by omega)
  refine hz_iload (pc := 106) C dX10_is_106 rfl ?_
  exact hz_iret C Z rfl dX10_is_108 rfl rfl
set_option maxHeartbeats 4000000 in
set_option maxRecDepth 100000 in
theorem lp_im1 {X : hz_X} (C : hz_C X mX11_is) {I : Nat → Nat → Int32} {L : Nat → Nat → Int64} {q : Nat → Nat → Nat} {u : Nat → Nat} (V : MV I u) (U : WU u) {k s : Nat} (hk : k < u 64) (hs : s ≤ 9999)  (kk : hz_G X TT NN (I, L, PP q) 0 0 100 [some (.ref 146), some (.int (nI k)), some (.int (nI s)), some (.int (nI 1)), some (.int (nI (bsum (fun j => decide (hz_b (so_of j (nI s) (nI (u 92)) (nI (u (94 + k))) = true) = nI 1)) 6))), some (.int (nI 6))] []) : ∀ (n i : Nat) , i + n = 6 → hz_G X TT NN (I, L, PP q) 0 0 39 [some (.ref 146), some (.int (nI k)), some (.int (nI s)), some (.int (nI 1)), some (.int (nI (bsum (fun j => decide (hz_b (so_of j (nI s) (nI (u 92)) (nI (u (94 + k))) = true) = nI 1)) i))), some (.int (nI i))] [] := by
  intro n
  induction n with
  | zero =>
    intro i  hi 
    obtain rfl : i = 6 := by omega
    have hal := wu_al U
    have hco := wu_co U
    have hba := wu_ba U hk
    refine hz_iload (pc := 39) C dX11_is_39 rfl ?_
    refine hz_bipush (pc := 41) C (v := nI 6) dX11_is_41 (by decide +kernel) ?_
    refine hz_ic_ge (pc := 43) C (tgt := 100) dX11_is_43 rfl (fun _ => ?_) (fun cq => absurd (nI_le (by omega) (by omega)) cq)
    exact kk
  | succ n ih =>
    intro i  hi 
    have hal := wu_al U
    have hco := wu_co U
    have hba := wu_ba U hk
    refine hz_iload (pc := 39) C dX11_is_39 rfl ?_
    refine hz_bipush (pc := 41) C (v := nI 6) dX11_is_41 (by decide +kernel) ?_
    refine hz_ic_ge (pc := 43) C (tgt := 100) dX11_is_43 rfl (fun cq => absurd cq (nI_ge (by omega) (by omega))) (fun _ => ?_)
    refine hz_iload (pc := 46) C dX11_is_46 rfl ?_
    refine hz_iload (pc := 48) C dX11_is_48 rfl ?_
    refine hz_aload_n (pc := 50) C dX11_is_50 rfl ?_
    refine hz_getP (pc := 51) C (v := 147) ffX11_7 dX11_is_51 hT146 hA146 rfl (hP146_0 q) (by decide) ?_
    refine hz_bipush (pc := 54) C (v := nI 94) dX11_is_54 (by decide +kernel) ?_
    refine hz_iload_n (pc := 56) C dX11_is_56 rfl ?_
    refine hz_iadd (pc := 57) C (v := nI (94 + k)) dX11_is_57 (nI_add _ _) ?_
    refine hz_iald (pc := 58) C (v := nI (u (94 + k))) (j := 94 + k) dX11_is_58 hT147 hA147 rfl (by omega) (by decide) (mg V (by omega) (by omega)) ?_
    refine hz_iload_n (pc := 59) C dX11_is_59 rfl ?_
    refine hz_aload_n (pc := 60) C dX11_is_60 rfl ?_
    refine hz_getP (pc := 61) C (v := 147) ffX11_7 dX11_is_61 hT146 hA146 rfl (hP146_0 q) (by decide) ?_
    refine hz_bipush (pc := 64) C (v := nI 92) dX11_is_64 (by decide +kernel) ?_
    refine hz_iald (pc := 66) C (v := nI (u 92)) (j := 92) dX11_is_66 hT147 hA147 rfl (by decide) (by decide) (mg V (by omega) (by omega)) ?_
    refine hz_callSs (pc := 67) C (as := [.int (nI i), .int (nI (u (94 + k))), .int (nI s), .int (nI (u 92))]) (st := [.int (nI (bsum (fun j => decide (hz_b (so_of j (nI s) (nI (u 92)) (nI (u (94 + k))) = true) = nI 1)) i))]) (ev_beepsBy _ (k := i) (by omega) (b := u (94 + k)) (c := u 92) (by omega) (by omega) (nI s)) (hz_new0 _ _) fyX11_beepsBy fsX11_172 rfl dX11_is_67 rfl rfl (Nat.le_of_ble_eq_true rfl) (by decide) (hz_cap0 _) ?_
    refine hz_iload_n (pc := 70) C dX11_is_70 rfl ?_
    refine hz_iconst (pc := 71) C (v := nI 1) dX11_is_71 (by decide +kernel) ?_
    refine hz_ic_ne (pc := 72) C (tgt := 79) dX11_is_72 rfl (fun cq => absurd (by decide +kernel) cq) (fun _ => ?_)
    refine hz_iconst (pc := 75) C (v := nI 1) dX11_is_75 (by decide +kernel) ?_
    refine hz_goto (pc := 76) C (tgt := 80) dX11_is_76 rfl ?_
    refine hz_ic_ne (pc := 80) C (tgt := 90) dX11_is_80 rfl (fun c1 => ?_) (fun c1 => ?_)
    · refine hz_iconst (pc := 90) C (v := nI 0) dX11_is_90 (by decide +kernel) ?_
      refine hz_ior (pc := 91) C dX11_is_91 rfl ?_
      refine hz_istore (pc := 92) C (ls' := [some (.ref 146), some (.int (nI k)), some (.int (nI s)), some (.int (nI 1)), some (.int ((nI (bsum (fun j => decide (hz_b (so_of j (nI s) (nI (u 92)) (nI (u (94 + k))) = true) = nI 1)) i)) ||| (nI 0))), some (.int (nI i))]) dX11_is_92 (Nat.le_of_ble_eq_true rfl) rfl ?_
      refine hz_iinc (pc := 94) C (v := nI (i + 1)) (ls' := [some (.ref 146), some (.int (nI k)), some (.int (nI s)), some (.int (nI 1)), some (.int ((nI (bsum (fun j => decide (hz_b (so_of j (nI s) (nI (u 92)) (nI (u (94 + k))) = true) = nI 1)) i)) ||| (nI 0))), some (.int (nI (i + 1)))]) dX11_is_94 rfl (nI_add _ 1) rfl ?_
      refine hz_goto (pc := 97) C (tgt := 39) dX11_is_97 rfl ?_
      rw [bor_0 (by omega)]
      have h9 := ih (i + 1) (by omega)
      rw [bsum_f (f := (fun j => decide (hz_b (so_of j (nI s) (nI (u 92)) (nI (u (94 + k))) = true) = nI 1))) (n := i) (by simp only [decide_eq_true_eq]; exact c1)] at h9
      exact h9
    · refine hz_iconst (pc := 83) C (v := nI 1) dX11_is_83 (by decide +kernel) ?_
      refine hz_iload (pc := 84) C dX11_is_84 rfl ?_
      refine hz_ishl (pc := 86) C dX11_is_86 rfl ?_
      refine hz_goto (pc := 87) C (tgt := 91) dX11_is_87 rfl ?_
      refine hz_ior (pc := 91) C dX11_is_91 rfl ?_
      refine hz_istore (pc := 92) C (ls' := [some (.ref 146), some (.int (nI k)), some (.int (nI s)), some (.int (nI 1)), some (.int ((nI (bsum (fun j => decide (hz_b (so_of j (nI s) (nI (u 92)) (nI (u (94 + k))) = true) = nI 1)) i)) ||| ((nI 1) <<< ((nI i) &&& 31)))), some (.int (nI i))]) dX11_is_92 (Nat.le_of_ble_eq_true rfl) rfl ?_
      refine hz_iinc (pc := 94) C (v := nI (i + 1)) (ls' := [some (.ref 146), some (.int (nI k)), some (.int (nI s)), some (.int (nI 1)), some (.int ((nI (bsum (fun j => decide (hz_b (so_of j (nI s) (nI (u 92)) (nI (u (94 + k))) = true) = nI 1)) i)) ||| ((nI 1) <<< ((nI i) &&& 31)))), some (.int (nI (i + 1)))]) dX11_is_94 rfl (nI_add _ 1) rfl ?_
      refine hz_goto (pc := 97) C (tgt := 39) dX11_is_97 rfl ?_
      rw [bor_add (by omega)]
      have h9 := ih (i + 1) (by omega)
      rw [bsum_t (f := (fun j => decide (hz_b (so_of j (nI s) (nI (u 92)) (nI (u (94 + k))) = true) = nI 1))) (n := i) (by simp only [decide_eq_true_eq]; exact c1)] at h9
      exact h9
set_option maxHeartbeats 4000000 in
set_option maxRecDepth 100000 in
theorem ev_is1M {I : Nat → Nat → Int32} {L : Nat → Nat → Int64} {q : Nat → Nat → Nat} {u : Nat → Nat} (V : MV I u) (U : WU u) {k s : Nat} (hk : k < u 64) (hs : s ≤ 9999)  : hz_Ev mX11_is TT NN (I, L, PP q) [.ref 146, .int (nI k), .int (nI s), .int (nI 1)] 0 0 (some (.int (nI (bsum (fun j => decide (hz_b (so_of j (nI s) (nI (u 92)) (nI (u (94 + k))) = true) = nI 1)) 6)))) TT NN (I, L, PP q) := by
  refine hz_Ev.intro (ls := [some (.ref 146), some (.int (nI k)), some (.int (nI s)), some (.int (nI 1)), none, none]) (by decide +kernel) rfl (Nat.le_of_ble_eq_true rfl) (fun X C Z _ => ?_)
  refine hz_aload_n (pc := 0) C dX11_is_0 rfl ?_
  refine hz_iload_n (pc := 1) C dX11_is_1 rfl ?_
  refine hz_callVs (pc := 2) C (as := [.int (nI k)]) (st := []) (ev_isAlarmM V U (nI k)) (hz_new0 _ _) fyX11_isAlarm fvX11_160 rfl dX11_is_2 hT146 rfl rfl hA146 rfl rfl (Nat.le_of_ble_eq_true rfl) (by decide) (hz_cap0 _) ?_
  refine hz_ifb_eq (pc := 5) C (tgt := 28) dX11_is_5 rfl (fun cq => absurd (vk hk (wu_al U)) cq) (fun _ => ?_)
  refine hz_iload_n (pc := 8) C dX11_is_8 rfl ?_
  refine hz_iconst (pc := 9) C (v := nI 0) dX11_is_9 (by decide +kernel) ?_
  refine hz_sipush (pc := 10) C (v := nI 9999) dX11_is_10 (by decide +kernel) ?_
  refine hz_callSs (pc := 13) C (as := [.int (nI s), .int (nI 0), .int (nI 9999)]) (st := []) (ev_in _ (nI s) (nI 0) (nI 9999)) (hz_new0 _ _) fyX11_in fsX11_52 rfl dX11_is_13 rfl rfl (Nat.le_of_ble_eq_true rfl) (by decide) (hz_cap0 _) ?_
  refine hz_ifb_eq (pc := 16) C (tgt := 28) dX11_is_16 rfl (fun cq => absurd (vs hs) cq) (fun _ => ?_)
  refine hz_iload_n (pc := 19) C dX11_is_19 rfl ?_
  refine hz_iconst (pc := 20) C (v := nI 0) dX11_is_20 (by decide +kernel) ?_
  refine hz_iconst (pc := 21) C (v := nI 1) dX11_is_21 (by decide +kernel) ?_
  refine hz_callSs (pc := 22) C (as := [.int (nI 1), .int (nI 0), .int (nI 1)]) (st := []) (ev_in _ (nI 1) (nI 0) (nI 1)) (hz_new0 _ _) fyX11_in fsX11_52 rfl dX11_is_22 rfl rfl (Nat.le_of_ble_eq_true rfl) (by decide) (hz_cap0 _) ?_
  refine hz_ifb_ne (pc := 25) C (tgt := 33) dX11_is_25 rfl (fun _ => ?_) (fun cq => absurd (vin (Nat.zero_le _) (by decide) (by decide)) cq)
  refine hz_iconst (pc := 33) C (v := nI 0) dX11_is_33 (by decide +kernel) ?_
  refine hz_istore (pc := 34) C (ls' := [some (.ref 146), some (.int (nI k)), some (.int (nI s)), some (.int (nI 1)), some (.int (nI 0)), none]) dX11_is_34 (Nat.le_of_ble_eq_true rfl) rfl ?_
  refine hz_iconst (pc := 36) C (v := nI 0) dX11_is_36 (by decide +kernel) ?_
  refine hz_istore (pc := 37) C (ls' := [some (.ref 146), some (.int (nI k)), some (.int (nI s)), some (.int (nI 1)), some (.int (nI 0)), some (.int (nI 0))]) dX11_is_37 (Nat.le_of_ble_eq_true rfl) rfl ?_
  refine lp_im1 C V U hk hs ?_ 6 0 (by omega)
  refine hz_iload (pc := 100) C dX11_is_100 rfl ?_
  exact hz_iret C Z rfl dX11_is_102 rfl rfl

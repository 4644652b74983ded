abbrev mx (h v : Int64) : Int64 := ((31 : Int64) * h) + v
def lf (f : Nat → Int64 → Int64) : Nat → Nat → Int64 → Int64
  | 0, _, h => h
  | n + 1, i, h => lf f n (i + 1) (f i h)
def cnt (u : Nat → Nat) (t : Int32) : Nat → Int32
  | 0 => nI (u 64)
  | 1 => nI (u 90)
  | 2 => nI (u 91)
  | 3 => nI (u 92)
  | 4 => nI (csum (bt (u 93)) 6)
  | 5 => nI (u 77)
  | 6 => nI (u 100)
  | _ + 7 => t
def dgC (u : Nat → Nat) (t : Int32) (w : Nat) (h : Int64) : Int64 := mx h (cnt u t w).toInt64
def dgB (u : Nat → Nat) (a b : Nat) (h : Int64) : Int64 := mx h (dv (u (8 * a + b))).toInt64
def dgA (u : Nat → Nat) (a : Nat) (h : Int64) : Int64 := lf (dgB u a) (8 - (a + 1)) (a + 1) h
def dgK (u : Nat → Nat) (k : Nat) (h : Int64) : Int64 := mx (mx (mx (mx h (nI (u (65 + k))).toInt64) (nI (u (71 + k))).toInt64) (nI (u (94 + k))).toInt64) (((nI (u 93)) >>> ((nI k) &&& 31)) &&& (nI 1)).toInt64
def dgN (u : Nat → Nat) (i : Nat) (h : Int64) : Int64 := mx h (mv u (78 + i)).toInt64
def dgP (u : Nat → Nat) (i : Nat) (h : Int64) : Int64 := mx (mx h (mv u (78 + 2 * i)).toInt64) (mv u (78 + (2 * i + 1))).toInt64
theorem dg_pair (u : Nat → Nat) : ∀ (n i : Nat) (h : Int64), lf (dgP u) n i h = lf (dgN u) (2 * n) (2 * i) h := by
  intro n
  induction n with
  | zero => intro i h; rfl
  | succ n ih => intro i h; rw [show 2 * (n + 1) = 2 * n + 1 + 1 by omega]; exact ih (i + 1) _
def dgM (u : Nat → Nat) (h : Int64) : Int64 := lf (dgP u) (u 77) 0 (lf (dgK u) (u 64) 0 (lf (dgA u) 8 0 h))
def dgW (u : Nat → Nat) (t : Int32) (x y : Int64) : Int64 := mx (mx (dgM u (lf (dgC u t) 8 0 (1229 : Int64))) x) y
theorem mv_t2 {u : Nat → Nat} {i : Nat} (h : i < 6) : mv u (78 + (2 * i + 1)) = nI (u (79 + 2 * i)) - 1 := by
  rw [show 78 + (2 * i + 1) = 79 + 2 * i by omega]; exact mv_t h
theorem ev_howManyG {I : Nat → Nat → Int32} {L : Nat → Nat → Int64} {q : Nat → Nat → Nat} {u : Nat → Nat} (V : HV 12 q I u) (U : WU u) {w : Nat} (hw : w < 8) : hz_Ev mX10_howMany TT NN (I, L, PP q) [.ref 1, .int (nI w)] 0 0 (some (.int (cnt u (I 2 1) w))) TT NN (I, L, PP q) := by
  rcases (show w = 0 ∨ w = 1 ∨ w = 2 ∨ w = 3 ∨ w = 4 ∨ w = 5 ∨ w = 6 ∨ w = 7 by omega) with rfl | rfl | rfl | rfl | rfl | rfl | rfl | rfl
  · exact ev_howMany0 V U
  · exact ev_howMany1 V U
  · exact ev_howMany2 V U
  · exact ev_howMany3 V U
  · exact ev_howMany4 V U
  · exact ev_howMany5 V U
  · exact ev_howMany6 V U
  · exact ev_howMany7 V U
theorem ev_countedG {I : Nat → Nat → Int32} {L : Nat → Nat → Int64} {q : Nat → Nat → Nat} {u : Nat → Nat} (V : MV I u) (U : WU u) {w : Nat} (hw : w < 8) : hz_Ev mX11_counted TT NN (I, L, PP q) [.ref 146, .int (nI w)] 0 0 (some (.int (cnt u (I 146 7) w))) TT NN (I, L, PP q) := by
  rcases (show w = 0 ∨ w = 1 ∨ w = 2 ∨ w = 3 ∨ w = 4 ∨ w = 5 ∨ w = 6 ∨ w = 7 by omega) with rfl | rfl | rfl | rfl | rfl | rfl | rfl | rfl
  · exact ev_counted0 V U
  · exact ev_counted1 V U
  · exact ev_counted2 V U
  · exact ev_counted3 V U
  · exact ev_counted4 V U
  · exact ev_counted5 V U
  · exact ev_counted6 V U
  · exact ev_counted7 V U
set_option maxHeartbeats 4000000 in
set_option maxRecDepth 100000 in
theorem lp_mB {X : hz_X} (C : hz_C X mX2_mixAll) {I : Nat → Nat → Int32} {L : Nat → Nat → Int64} {q : Nat → Nat → Nat} {u : Nat → Nat} (V : HV 12 q I u) (U : WU u) {h0 : Int64} {a : Nat} (ha : a < 8) {H : Int64} (kk : hz_G X TT NN (I, L, PP q) 0 0 45 [some (.ref 12), some (.long h0), none, some (.long H), none, some (.int (nI a)), some (.int (nI 8))] []) : ∀ (n b : Nat) (h : Int64), b + n = 8 → H = lf (dgB u a) n b h → hz_G X TT NN (I, L, PP q) 0 0 18 [some (.ref 12), some (.long h0), none, some (.long h), none, some (.int (nI a)), some (.int (nI b))] [] := by
  intro n
  induction n with
  | zero =>
    intro b h hi hf
    obtain rfl : b = 8 := by omega
    have hal := wu_al U
    have hno := wu_nt U
    refine hz_iload (pc := 18) C dX2_mixAll_18 rfl ?_
    refine hz_bipush (pc := 20) C (v := nI 8) dX2_mixAll_20 (by decide +kernel) ?_
    refine hz_ic_ge (pc := 22) C (tgt := 45) dX2_mixAll_22 rfl (fun _ => ?_) (fun cq => absurd (nI_le (by omega) (by omega)) cq)
    obtain rfl : H = h := hf
    exact kk
  | succ n ih =>
    intro b h hi hf
    have hal := wu_al U
    have hno := wu_nt U
    refine hz_iload (pc := 18) C dX2_mixAll_18 rfl ?_
    refine hz_bipush (pc := 20) C (v := nI 8) dX2_mixAll_20 (by decide +kernel) ?_
    refine hz_ic_ge (pc := 22) C (tgt := 45) dX2_mixAll_22 rfl (fun cq => absurd cq (nI_ge (by omega) (by omega))) (fun _ => ?_)
    refine hz_lload_n (pc := 25) C dX2_mixAll_25 rfl ?_
    refine hz_aload_n (pc := 26) C dX2_mixAll_26 rfl ?_
    refine hz_iload (pc := 27) C dX2_mixAll_27 rfl ?_
    refine hz_iload (pc := 29) C dX2_mixAll_29 rfl ?_
    refine hz_callVs (pc := 31) C (as := [.int (nI a), .int (nI b)]) (st := [.long h]) (ev_door V U (a := a) (b := b) (by omega) (by omega)) (hz_new0 _ _) fyX2_doorBetween fvX2_150 rfl dX2_mixAll_31 hT12 rfl rfl hA12 rfl rfl (Nat.le_of_ble_eq_true rfl) (by decide) (hz_cap0 _) ?_
    refine hz_i2l (pc := 34) C dX2_mixAll_34 rfl ?_
    refine hz_callSNs (pc := 35) C (as := [.long h, .long ((dv (u (8 * a + b))).toInt64)]) (st := []) (ev_mix _ h ((dv (u (8 * a + b))).toInt64)) (hz_new0 _ _) fyX10_mix fsX2_159 rfl dX2_mixAll_35 rfl rfl (Nat.le_of_ble_eq_true rfl) (by decide) (hz_cap0 _) ?_
    refine hz_lstore_n (pc := 38) C (ls' := [some (.ref 12), some (.long h0), none, some (.long (mx h ((dv (u (8 * a + b))).toInt64))), none, some (.int (nI a)), some (.int (nI b))]) dX2_mixAll_38 (Nat.le_of_ble_eq_true rfl) rfl ?_
    refine hz_iinc (pc := 39) C (v := nI (b + 1)) (ls' := [some (.ref 12), some (.long h0), none, some (.long (mx h ((dv (u (8 * a + b))).toInt64))), none, some (.int (nI a)), some (.int (nI (b + 1)))]) dX2_mixAll_39 rfl (nI_add _ 1) rfl ?_
    refine hz_goto (pc := 42) C (tgt := 18) dX2_mixAll_42 rfl ?_
    exact ih (b + 1) _ (by omega) hf
set_option maxHeartbeats 4000000 in
set_option maxRecDepth 100000 in
theorem lp_mA {X : hz_X} (C : hz_C X mX2_mixAll) {I : Nat → Nat → Int32} {L : Nat → Nat → Int64} {q : Nat → Nat → Nat} {u : Nat → Nat} (V : HV 12 q I u) (U : WU u) {h0 : Int64} {H : Int64} (kk : ∀ (w6 : Option Value), hz_G X TT NN (I, L, PP q) 0 0 51 [some (.ref 12), some (.long h0), none, some (.long H), none, some (.int (nI 8)), w6] []) : ∀ (n a : Nat) (h : Int64) (w6 : Option Value), a + n = 8 → H = lf (dgA u) n a h → hz_G X TT NN (I, L, PP q) 0 0 5 [some (.ref 12), some (.long h0), none, some (.long h), none, some (.int (nI a)), w6] [] := by
  intro n
  induction n with
  | zero =>
    intro a h w6 hi hf
    obtain rfl : a = 8 := by omega
    have hal := wu_al U
    have hno := wu_nt U
    refine hz_iload (pc := 5) C dX2_mixAll_5 rfl ?_
    refine hz_bipush (pc := 7) C (v := nI 8) dX2_mixAll_7 (by decide +kernel) ?_
    refine hz_ic_ge (pc := 9) C (tgt := 51) dX2_mixAll_9 rfl (fun _ => ?_) (fun cq => absurd (nI_le (by omega) (by omega)) cq)
    obtain rfl : H = h := hf
    exact kk _
  | succ n ih =>
    intro a h w6 hi hf
    have hal := wu_al U
    have hno := wu_nt U
    refine hz_iload (pc := 5) C dX2_mixAll_5 rfl ?_
    refine hz_bipush (pc := 7) C (v := nI 8) dX2_mixAll_7 (by decide +kernel) ?_
    refine hz_ic_ge (pc := 9) C (tgt := 51) dX2_mixAll_9 rfl (fun cq => absurd cq (nI_ge (by omega) (by omega))) (fun _ => ?_)
    refine hz_iload (pc := 12) C dX2_mixAll_12 rfl ?_
    refine hz_iconst (pc := 14) C (v := nI 1) dX2_mixAll_14 (by decide +kernel) ?_
    refine hz_iadd (pc := 15) C (v := nI (a + 1)) dX2_mixAll_15 (nI_add _ _) ?_
    refine hz_istore (pc := 16) C (ls' := [some (.ref 12), some (.long h0), none, some (.long h), none, some (.int (nI a)), some (.int (nI (a + 1)))]) dX2_mixAll_16 (Nat.le_of_ble_eq_true rfl) rfl ?_
    refine lp_mB C V U (by omega) (H := dgA u a h) ?_ (8 - (a + 1)) (a + 1) h (by omega) rfl
    refine hz_iinc (pc := 45) C (v := nI (a + 1)) (ls' := [some (.ref 12), some (.long h0), none, some (.long (dgA u a h)), none, some (.int (nI (a + 1))), some (.int (nI 8))]) dX2_mixAll_45 rfl (nI_add _ 1) rfl ?_
    refine hz_goto (pc := 48) C (tgt := 5) dX2_mixAll_48 rfl ?_
    exact ih (a + 1) _ _ (by omega) hf
set_option maxHeartbeats 4000000 in
set_option maxRecDepth 100000 in
theorem lp_mK {X : hz_X} (C : hz_C X mX2_mixAll) {I : Nat → Nat → Int32} {L : Nat → Nat → Int64} {q : Nat → Nat → Nat} {u : Nat → Nat} (V : HV 12 q I u) (U : WU u) {h0 : Int64} {w6 : Option Value} {H : Int64} (kk : hz_G X TT NN (I, L, PP q) 0 0 125 [some (.ref 12), some (.long h0), none, some (.long H), none, some (.int (nI (u 64))), w6] []) : ∀ (n k : Nat) (h : Int64), k + n = u 64 → H = lf (dgK u) n k h → hz_G X TT NN (I, L, PP q) 0 0 54 [some (.ref 12), some (.long h0), none, some (.long h), none, some (.int (nI k)), w6] [] := by
  intro n
  induction n with
  | zero =>
    intro k h hi hf
    obtain rfl : k = u 64 := by omega
    have hal := wu_al U
    have hno := wu_nt U
    refine hz_iload (pc := 54) C dX2_mixAll_54 rfl ?_
    refine hz_aload_n (pc := 56) C dX2_mixAll_56 rfl ?_
    refine hz_getI (pc := 57) C (v := nI (u 64)) ffX2_70 dX2_mixAll_57 hT12 hA12 rfl (hv_al V) ?_
    refine hz_ic_ge (pc := 60) C (tgt := 125) dX2_mixAll_60 rfl (fun _ => ?_) (fun cq => absurd (nI_le (by omega) (by omega)) cq)
    obtain rfl : H = h := hf
    exact kk
  | succ n ih =>
    intro k h hi hf
    have hal := wu_al U
    have hno := wu_nt U
    refine hz_iload (pc := 54) C dX2_mixAll_54 rfl ?_
    refine hz_aload_n (pc := 56) C dX2_mixAll_56 rfl ?_
    refine hz_getI (pc := 57) C (v := nI (u 64)) ffX2_70 dX2_mixAll_57 hT12 hA12 rfl (hv_al V) ?_
    refine hz_ic_ge (pc := 60) C (tgt := 125) dX2_mixAll_60 rfl (fun cq => absurd cq (nI_ge (by omega) (by omega))) (fun _ => ?_)
    refine hz_lload_n (pc := 63) C dX2_mixAll_63 rfl ?_
    refine hz_aload_n (pc := 64) C dX2_mixAll_64 rfl ?_
    refine hz_getP (pc := 65) C (v := 15) ffX2_18 dX2_mixAll_65 hT12 hA12 rfl (hP12_3 q) (by decide) ?_
    refine hz_iload (pc := 68) C dX2_mixAll_68 rfl ?_
    refine hz_iald (pc := 70) C (v := nI (u (65 + k))) (j := k) dX2_mixAll_70 hT15 hA15 rfl (by omega) (by decide) (hv_kd V (by omega)) ?_
    refine hz_i2l (pc := 71) C dX2_mixAll_71 rfl ?_
    refine hz_callSNs (pc := 72) C (as := [.long h, .long ((nI (u (65 + k))).toInt64)]) (st := []) (ev_mix _ h ((nI (u (65 + k))).toInt64)) (hz_new0 _ _) fyX10_mix fsX2_159 rfl dX2_mixAll_72 rfl rfl (Nat.le_of_ble_eq_true rfl) (by decide) (hz_cap0 _) ?_
    refine hz_aload_n (pc := 75) C dX2_mixAll_75 rfl ?_
    refine hz_getP (pc := 76) C (v := 16) ffX2_21 dX2_mixAll_76 hT12 hA12 rfl (hP12_4 q) (by decide) ?_
    refine hz_iload (pc := 79) C dX2_mixAll_79 rfl ?_
    refine hz_iald (pc := 81) C (v := nI (u (71 + k))) (j := k) dX2_mixAll_81 hT16 hA16 rfl (by omega) (by decide) (hv_rm V (by omega)) ?_
    refine hz_i2l (pc := 82) C dX2_mixAll_82 rfl ?_
    refine hz_callSNs (pc := 83) C (as := [.long (mx h ((nI (u (65 + k))).toInt64)), .long ((nI (u (71 + k))).toInt64)]) (st := []) (ev_mix _ (mx h ((nI (u (65 + k))).toInt64)) ((nI (u (71 + k))).toInt64)) (hz_new0 _ _) fyX10_mix fsX2_159 rfl dX2_mixAll_83 rfl rfl (Nat.le_of_ble_eq_true rfl) (by decide) (hz_cap0 _) ?_
    refine hz_lstore_n (pc := 86) C (ls' := [some (.ref 12), some (.long h0), none, some (.long (mx (mx h ((nI (u (65 + k))).toInt64)) ((nI (u (71 + k))).toInt64))), none, some (.int (nI k)), w6]) dX2_mixAll_86 (Nat.le_of_ble_eq_true rfl) rfl ?_
    refine hz_lload_n (pc := 87) C dX2_mixAll_87 rfl ?_
    refine hz_aload_n (pc := 88) C dX2_mixAll_88 rfl ?_
    refine hz_getP (pc := 89) C (v := 19) ffX2_33 dX2_mixAll_89 hT12 hA12 rfl (hP12_7 q) (by decide) ?_
    refine hz_getP (pc := 92) C (v := 20) ffX2_102 dX2_mixAll_92 hT19 hA19 rfl (hP19_0 q) (by decide) ?_
    refine hz_iload (pc := 95) C dX2_mixAll_95 rfl ?_
    refine hz_iald (pc := 97) C (v := nI (u (94 + k))) (j := k) dX2_mixAll_97 hT20 hA20 rfl (by omega) (by decide) (hv_ba V (by omega)) ?_
    refine hz_i2l (pc := 98) C dX2_mixAll_98 rfl ?_
    refine hz_callSNs (pc := 99) C (as := [.long (mx (mx h ((nI (u (65 + k))).toInt64)) ((nI (u (71 + k))).toInt64)), .long ((nI (u (94 + k))).toInt64)]) (st := []) (ev_mix _ (mx (mx h ((nI (u (65 + k))).toInt64)) ((nI (u (71 + k))).toInt64)) ((nI (u (94 + k))).toInt64)) (hz_new0 _ _) fyX10_mix fsX2_159 rfl dX2_mixAll_99 rfl rfl (Nat.le_of_ble_eq_true rfl) (by decide) (hz_cap0 _) ?_
    refine hz_aload_n (pc := 102) C dX2_mixAll_102 rfl ?_
    refine hz_getP (pc := 103) C (v := 19) ffX2_33 dX2_mixAll_103 hT12 hA12 rfl (hP12_7 q) (by decide) ?_
    refine hz_getI (pc := 106) C (v := nI (u 93)) ffX2_89 dX2_mixAll_106 hT19 hA19 rfl (hv_dn V) ?_
    refine hz_iload (pc := 109) C dX2_mixAll_109 rfl ?_
    refine hz_ishr (pc := 111) C dX2_mixAll_111 rfl ?_
    refine hz_iconst (pc := 112) C (v := nI 1) dX2_mixAll_112 (by decide +kernel) ?_
    refine hz_iand (pc := 113) C dX2_mixAll_113 rfl ?_
    refine hz_i2l (pc := 114) C dX2_mixAll_114 rfl ?_
    refine hz_callSNs (pc := 115) C (as := [.long (mx (mx (mx h ((nI (u (65 + k))).toInt64)) ((nI (u (71 + k))).toInt64)) ((nI (u (94 + k))).toInt64)), .long ((((nI (u 93)) >>> ((nI k) &&& 31)) &&& (nI 1)).toInt64)]) (st := []) (ev_mix _ (mx (mx (mx h ((nI (u (65 + k))).toInt64)) ((nI (u (71 + k))).toInt64)) ((nI (u (94 + k))).toInt64)) ((((nI (u 93)) >>> ((nI k) &&& 31)) &&& (nI 1)).toInt64)) (hz_new0 _ _) fyX10_mix fsX2_159 rfl dX2_mixAll_115 rfl rfl (Nat.le_of_ble_eq_true rfl) (by decide) (hz_cap0 _) ?_
    refine hz_lstore_n (pc := 118) C (ls' := [some (.ref 12), some (.long h0), none, some (.long (mx (mx (mx (mx h ((nI (u (65 + k))).toInt64)) ((nI (u (71 + k))).toInt64)) ((nI (u (94 + k))).toInt64)) ((((nI (u 93)) >>> ((nI k) &&& 31)) &&& (nI 1)).toInt64))), none, some (.int (nI k)), w6]) dX2_mixAll_118 (Nat.le_of_ble_eq_true rfl) rfl ?_
    refine hz_iinc (pc := 119) C (v := nI (k + 1)) (ls' := [some (.ref 12), some (.long h0), none, some (.long (mx (mx (mx (mx h ((nI (u (65 + k))).toInt64)) ((nI (u (71 + k))).toInt64)) ((nI (u (94 + k))).toInt64)) ((((nI (u 93)) >>> ((nI k) &&& 31)) &&& (nI 1)).toInt64))), none, some (.int (nI (k + 1))), w6]) dX2_mixAll_119 rfl (nI_add _ 1) rfl ?_
    refine hz_goto (pc := 122) C (tgt := 54) dX2_mixAll_122 rfl ?_
    exact ih (k + 1) _ (by omega) hf
set_option maxHeartbeats 4000000 in
set_option maxRecDepth 100000 in
theorem lp_mN {X : hz_X} (C : hz_C X mX2_mixAll) {I : Nat → Nat → Int32} {L : Nat → Nat → Int64} {q : Nat → Nat → Nat} {u : Nat → Nat} (V : HV 12 q I u) (U : WU u) {h0 : Int64} {w6 : Option Value} {H : Int64} (kk : hz_G X TT NN (I, L, PP q) 0 0 167 [some (.ref 12), some (.long h0), none, some (.long H), none, some (.int (nI (u 77))), w6] []) : ∀ (n k : Nat) (h : Int64), k + n = u 77 → H = lf (dgP u) n k h → hz_G X TT NN (I, L, PP q) 0 0 128 [some (.ref 12), some (.long h0), none, some (.long h), none, some (.int (nI k)), w6] [] := by
  intro n
  induction n with
  | zero =>
    intro k h hi hf
    obtain rfl : k = u 77 := by omega
    have hal := wu_al U
    have hno := wu_nt U
    refine hz_iload (pc := 128) C dX2_mixAll_128 rfl ?_
    refine hz_aload_n (pc := 130) C dX2_mixAll_130 rfl ?_
    refine hz_getI (pc := 131) C (v := nI (u 77)) ffX2_74 dX2_mixAll_131 hT12 hA12 rfl (hv_nt V) ?_
    refine hz_ic_ge (pc := 134) C (tgt := 167) dX2_mixAll_134 rfl (fun _ => ?_) (fun cq => absurd (nI_le (by omega) (by omega)) cq)
    obtain rfl : H = h := hf
    exact kk
  | succ n ih =>
    intro k h hi hf
    have hal := wu_al U
    have hno := wu_nt U
    refine hz_iload (pc := 128) C dX2_mixAll_128 rfl ?_
    refine hz_aload_n (pc := 130) C dX2_mixAll_130 rfl ?_
    refine hz_getI (pc := 131) C (v := nI (u 77)) ffX2_74 dX2_mixAll_131 hT12 hA12 rfl (hv_nt V) ?_
    refine hz_ic_ge (pc := 134) C (tgt := 167) dX2_mixAll_134 rfl (fun cq => absurd cq (nI_ge (by omega) (by omega))) (fun _ => ?_)
    refine hz_lload_n (pc := 137) C dX2_mixAll_137 rfl ?_
    refine hz_aload_n (pc := 138) C dX2_mixAll_138 rfl ?_
    refine hz_getP (pc := 139) C (v := 17) ffX2_24 dX2_mixAll_139 hT12 hA12 rfl (hP12_5 q) (by decide) ?_
    refine hz_iload (pc := 142) C dX2_mixAll_142 rfl ?_
    refine hz_iald (pc := 144) C (v := mv u (78 + 2 * k)) (j := k) dX2_mixAll_144 hT17 hA17 rfl (by omega) (by decide) ((hv_nr V (by omega)).trans mv_r.symm) ?_
    refine hz_i2l (pc := 145) C dX2_mixAll_145 rfl ?_
    refine hz_callSNs (pc := 146) C (as := [.long h, .long ((mv u (78 + 2 * k)).toInt64)]) (st := []) (ev_mix _ h ((mv u (78 + 2 * k)).toInt64)) (hz_new0 _ _) fyX10_mix fsX2_159 rfl dX2_mixAll_146 rfl rfl (Nat.le_of_ble_eq_true rfl) (by decide) (hz_cap0 _) ?_
    refine hz_aload_n (pc := 149) C dX2_mixAll_149 rfl ?_
    refine hz_getP (pc := 150) C (v := 18) ffX2_27 dX2_mixAll_150 hT12 hA12 rfl (hP12_6 q) (by decide) ?_
    refine hz_iload (pc := 153) C dX2_mixAll_153 rfl ?_
    refine hz_iald (pc := 155) C (v := mv u (78 + (2 * k + 1))) (j := k) dX2_mixAll_155 hT18 hA18 rfl (by omega) (by decide) ((hv_nq V (by omega)).trans (mv_t2 (by omega)).symm) ?_
    refine hz_i2l (pc := 156) C dX2_mixAll_156 rfl ?_
    refine hz_callSNs (pc := 157) C (as := [.long (mx h ((mv u (78 + 2 * k)).toInt64)), .long ((mv u (78 + (2 * k + 1))).toInt64)]) (st := []) (ev_mix _ (mx h ((mv u (78 + 2 * k)).toInt64)) ((mv u (78 + (2 * k + 1))).toInt64)) (hz_new0 _ _) fyX10_mix fsX2_159 rfl dX2_mixAll_157 rfl rfl (Nat.le_of_ble_eq_true rfl) (by decide) (hz_cap0 _) ?_
    refine hz_lstore_n (pc := 160) C (ls' := [some (.ref 12), some (.long h0), none, some (.long (mx (mx h ((mv u (78 + 2 * k)).toInt64)) ((mv u (78 + (2 * k + 1))).toInt64))), none, some (.int (nI k)), w6]) dX2_mixAll_160 (Nat.le_of_ble_eq_true rfl) rfl ?_
    refine hz_iinc (pc := 161) C (v := nI (k + 1)) (ls' := [some (.ref 12), some (.long h0), none, some (.long (mx (mx h ((mv u (78 + 2 * k)).toInt64)) ((mv u (78 + (2 * k + 1))).toInt64))), none, some (.int (nI (k + 1))), w6]) dX2_mixAll_161 rfl (nI_add _ 1) rfl ?_
    refine hz_goto (pc := 164) C (tgt := 128) dX2_mixAll_164 rfl ?_
    exact ih (k + 1) _ (by omega) hf
set_option maxHeartbeats 4000000 in
set_option maxRecDepth 100000 in
theorem ev_mixAll {I : Nat → Nat → Int32} {L : Nat → Nat → Int64} {q : Nat → Nat → Nat} {u : Nat → Nat} (V : HV 12 q I u) (U : WU u) {h0 : Int64} : hz_Ev mX2_mixAll TT NN (I, L, PP q) [.ref 12, .long h0] 0 0 (some (.long (dgM u h0))) TT NN (I, L, PP q) := by
  refine hz_Ev.intro (ls := [some (.ref 12), some (.long h0), none, none, none, none, none]) (by decide +kernel) rfl (Nat.le_of_ble_eq_true rfl) (fun X C Z _ => ?_)
  refine hz_lload_n (pc := 0) C dX2_mixAll_0 rfl ?_
  refine hz_lstore_n (pc := 1) C (ls' := [some (.ref 12), some (.long h0), none, some (.long h0), none, none, none]) dX2_mixAll_1 (Nat.le_of_ble_eq_true rfl) rfl ?_
  refine hz_iconst (pc := 2) C (v := nI 0) dX2_mixAll_2 (by decide +kernel) ?_
  refine hz_istore (pc := 3) C (ls' := [some (.ref 12), some (.long h0), none, some (.long h0), none, some (.int (nI 0)), none]) dX2_mixAll_3 (Nat.le_of_ble_eq_true rfl) rfl ?_
  refine lp_mA C V U (H := lf (dgA u) 8 0 h0) (fun w6 => ?_) 8 0 h0 none (by omega) rfl
  refine hz_iconst (pc := 51) C (v := nI 0) dX2_mixAll_51 (by decide +kernel) ?_
  refine hz_istore (pc := 52) C (ls' := [some (.ref 12), some (.long h0), none, some (.long (lf (dgA u) 8 0 h0)), none, some (.int (nI 0)), w6]) dX2_mixAll_52 (Nat.le_of_ble_eq_true rfl) rfl ?_
  refine lp_mK C V U (H := lf (dgK u) (u 64) 0 (lf (dgA u) 8 0 h0)) ?_ (u 64) 0 _ (by omega) rfl
  refine hz_iconst (pc := 125) C (v := nI 0) dX2_mixAll_125 (by decide +kernel) ?_
  refine hz_istore (pc := 126) C (ls' := [some (.ref 12), some (.long h0), none, some (.long (lf (dgK u) (u 64) 0 (lf (dgA u) 8 0 h0))), none, some (.int (nI 0)), w6]) dX2_mixAll_126 (Nat.le_of_ble_eq_true rfl) rfl ?_
  refine lp_mN C V U (H := dgM u h0) ?_ (u 77) 0 _ (by omega) rfl
  refine hz_lload_n (pc := 167) C dX2_mixAll_167 rfl ?_
  exact hz_lret C Z rfl dX2_mixAll_168 rfl rfl
set_option maxHeartbeats 4000000 in
set_option maxRecDepth 100000 in
theorem lp_dC {X : hz_X} (C : hz_C X mX10_digest) {I : Nat → Nat → Int32} {L : Nat → Nat → Int64} {q : Nat → Nat → Nat} {u : Nat → Nat} (V : HV 12 q I u) (U : WU u) {H : Int64} (kk : hz_G X TT NN (I, L, PP q) 0 0 29 [some (.ref 1), some (.long H), none, some (.int (nI 8))] []) : ∀ (n k : Nat) (h : Int64), k + n = 8 → H = lf (dgC u (I 2 1)) n k h → hz_G X TT NN (I, L, PP q) 0 0 6 [some (.ref 1), some (.long h), none, some (.int (nI k))] [] := by
  intro n
  induction n with
  | zero =>
    intro k h hi hf
    obtain rfl : k = 8 := by omega
    have hal := wu_al U
    have hno := wu_nt U
    refine hz_iload_n (pc := 6) C dX10_digest_6 rfl ?_
    refine hz_bipush (pc := 7) C (v := nI 8) dX10_digest_7 (by decide +kernel) ?_
    refine hz_ic_ge (pc := 9) C (tgt := 29) dX10_digest_9 rfl (fun _ => ?_) (fun cq => absurd (nI_le (by omega) (by omega)) cq)
    obtain rfl : H = h := hf
    exact kk
  | succ n ih =>
    intro k h hi hf
    have hal := wu_al U
    have hno := wu_nt U
    refine hz_iload_n (pc := 6) C dX10_digest_6 rfl ?_
    refine hz_bipush (pc := 7) C (v := nI 8) dX10_digest_7 (by decide +kernel) ?_
    refine hz_ic_ge (pc := 9) C (tgt := 29) dX10_digest_9 rfl (fun cq => absurd cq (nI_ge (by omega) (by omega))) (fun _ => ?_)
    refine hz_lload_n (pc := 12) C dX10_digest_12 rfl ?_
    refine hz_aload_n (pc := 13) C dX10_digest_13 rfl ?_
    refine hz_iload_n (pc := 14) C dX10_digest_14 rfl ?_
    refine hz_callVs (pc := 15) C (as := [.int (nI k)]) (st := [.long h]) (ev_howManyG V U (w := k) (by omega)) (hz_new0 _ _) fyX10_howMany fvX10_273 rfl dX10_digest_15 hT1 rfl rfl hA1 rfl rfl (Nat.le_of_ble_eq_true rfl) (by decide) (hz_cap0 _) ?_
    refine hz_i2l (pc := 18) C dX10_digest_18 rfl ?_
    refine hz_callSs (pc := 19) C (as := [.long h, .long ((cnt u (I 2 1) k).toInt64)]) (st := []) (ev_mix _ h ((cnt u (I 2 1) k).toInt64)) (hz_new0 _ _) fyX10_mix fsX10_278 rfl dX10_digest_19 rfl rfl (Nat.le_of_ble_eq_true rfl) (by decide) (hz_cap0 _) ?_
    refine hz_lstore_n (pc := 22) C (ls' := [some (.ref 1), some (.long (mx h ((cnt u (I 2 1) k).toInt64))), none, some (.int (nI k))]) dX10_digest_22 (Nat.le_of_ble_eq_true rfl) rfl ?_
    refine hz_iinc (pc := 23) C (v := nI (k + 1)) (ls' := [some (.ref 1), some (.long (mx h ((cnt u (I 2 1) k).toInt64))), none, some (.int (nI (k + 1)))]) dX10_digest_23 rfl (nI_add _ 1) rfl ?_
    refine hz_goto (pc := 26) C (tgt := 6) dX10_digest_26 rfl ?_
    exact ih (k + 1) _ (by omega) hf
set_option maxHeartbeats 4000000 in
set_option maxRecDepth 100000 in
theorem ev_digest {I : Nat → Nat → Int32} {L : Nat → Nat → Int64} {q : Nat → Nat → Nat} {u : Nat → Nat} (V : HV 12 q I u) (U : WU u) : hz_Ev mX10_digest TT NN (I, L, PP q) [.ref 1] 0 0 (some (.long (dgW u (I 2 1) (L 1 6) (L 1 7)))) TT NN (I, L, PP q) := by
  refine hz_Ev.intro (ls := [some (.ref 1), none, none, none]) (by decide +kernel) rfl (Nat.le_of_ble_eq_true rfl) (fun X C Z _ => ?_)
  refine hz_ldc2 (pc := 0) C (v := 1229) dX10_digest_0 (hz_mp 875 (by decide +kernel)) ?_
  refine hz_lstore_n (pc := 3) C (ls' := [some (.ref 1), some (.long (1229 : Int64)), none, none]) dX10_digest_3 (Nat.le_of_ble_eq_true rfl) rfl ?_
  refine hz_iconst (pc := 4) C (v := nI 0) dX10_digest_4 (by decide +kernel) ?_
  refine hz_istore_n (pc := 5) C (ls' := [some (.ref 1), some (.long (1229 : Int64)), none, some (.int (nI 0))]) dX10_digest_5 (Nat.le_of_ble_eq_true rfl) rfl ?_
  refine lp_dC C V U (H := lf (dgC u (I 2 1)) 8 0 (1229 : Int64)) ?_ 8 0 _ (by omega) rfl
  refine hz_aload_n (pc := 29) C dX10_digest_29 rfl ?_
  refine hz_getP (pc := 30) C (v := 12) ffX10_26 dX10_digest_30 hT1 hA1 rfl (hP1_4 q) (by decide) ?_
  refine hz_lload_n (pc := 33) C dX10_digest_33 rfl ?_
  refine hz_callVs (pc := 34) C (as := [.long (lf (dgC u (I 2 1)) 8 0 (1229 : Int64))]) (st := []) (ev_mixAll V U) (hz_new0 _ _) fyX2_mixAll fvX10_282 rfl dX10_digest_34 hT12 rfl rfl hA12 rfl rfl (Nat.le_of_ble_eq_true rfl) (by decide) (hz_cap0 _) ?_
  refine hz_lstore_n (pc := 37) C (ls' := [some (.ref 1), some (.long (dgM u (lf (dgC u (I 2 1)) 8 0 (1229 : Int64)))), none, some (.int (nI 8))]) dX10_digest_37 (Nat.le_of_ble_eq_true rfl) rfl ?_
  refine hz_lload_n (pc := 38) C dX10_digest_38 rfl ?_
  refine hz_aload_n (pc := 39) C dX10_digest_39 rfl ?_
  refine hz_getL (pc := 40) C (v := L 1 6) ffX10_41 dX10_digest_40 hT1 hA1 rfl rfl ?_
  refine hz_callSs (pc := 43) C (as := [.long (dgM u (lf (dgC u (I 2 1)) 8 0 (1229 : Int64))), .long (L 1 6)]) (st := []) (ev_mix _ (dgM u (lf (dgC u (I 2 1)) 8 0 (1229 : Int64))) (L 1 6)) (hz_new0 _ _) fyX10_mix fsX10_278 rfl dX10_digest_43 rfl rfl (Nat.le_of_ble_eq_true rfl) (by decide) (hz_cap0 _) ?_
  refine hz_aload_n (pc := 46) C dX10_digest_46 rfl ?_
  refine hz_getL (pc := 47) C (v := L 1 7) ffX10_45 dX10_digest_47 hT1 hA1 rfl rfl ?_
  refine hz_callSs (pc := 50) C (as := [.long (mx (dgM u (lf (dgC u (I 2 1)) 8 0 (1229 : Int64))) (L 1 6)), .long (L 1 7)]) (st := []) (ev_mix _ (mx (dgM u (lf (dgC u (I 2 1)) 8 0 (1229 : Int64))) (L 1 6)) (L 1 7)) (hz_new0 _ _) fyX10_mix fsX10_278 rfl dX10_digest_50 rfl rfl (Nat.le_of_ble_eq_true rfl) (by decide) (hz_cap0 _) ?_
  exact hz_lret C Z rfl dX10_digest_53 rfl rfl
set_option maxHeartbeats 4000000 in
set_option maxRecDepth 100000 in
theorem lp_rC {X : hz_X} (C : hz_C X mX11_digest) {I : Nat → Nat → Int32} {L : Nat → Nat → Int64} {q : Nat → Nat → Nat} {u : Nat → Nat} (V : MV I u) (U : WU u) {w4 : Option Value} {H : Int64} (kk : hz_G X TT NN (I, L, PP q) 0 0 31 [some (.ref 146), some (.long H), none, some (.int (nI 8)), w4] []) : ∀ (n k : Nat) (h : Int64), k + n = 8 → H = lf (dgC u (I 146 7)) n k h → hz_G X TT NN (I, L, PP q) 0 0 6 [some (.ref 146), some (.long h), none, some (.int (nI k)), w4] [] := by
  intro n
  induction n with
  | zero =>
    intro k h hi hf
    obtain rfl : k = 8 := by omega
    have hal := wu_al U
    have hno := wu_nt U
    refine hz_iload_n (pc := 6) C dX11_digest_6 rfl ?_
    refine hz_bipush (pc := 7) C (v := nI 8) dX11_digest_7 (by decide +kernel) ?_
    refine hz_ic_ge (pc := 9) C (tgt := 31) dX11_digest_9 rfl (fun _ => ?_) (fun cq => absurd (nI_le (by omega) (by omega)) cq)
    obtain rfl : H = h := hf
    exact kk
  | succ n ih =>
    intro k h hi hf
    have hal := wu_al U
    have hno := wu_nt U
    refine hz_iload_n (pc := 6) C dX11_digest_6 rfl ?_
    refine hz_bipush (pc := 7) C (v := nI 8) dX11_digest_7 (by decide +kernel) ?_
    refine hz_ic_ge (pc := 9) C (tgt := 31) dX11_digest_9 rfl (fun cq => absurd cq (nI_ge (by omega) (by omega))) (fun _ => ?_)
    refine hz_ldc2 (pc := 12) C (v := 31) dX11_digest_12 (hz_mp 1261 (by decide +kernel)) ?_
    refine hz_lload_n (pc := 15) C dX11_digest_15 rfl ?_
    refine hz_lmul (pc := 16) C dX11_digest_16 rfl ?_
    refine hz_aload_n (pc := 17) C dX11_digest_17 rfl ?_
    refine hz_iload_n (pc := 18) C dX11_digest_18 rfl ?_
    refine hz_callVs (pc := 19) C (as := [.int (nI k)]) (st := [.long ((31 : Int64) * h)]) (ev_countedG V U (w := k) (by omega)) (hz_new0 _ _) fyX11_counted fvX11_230 rfl dX11_digest_19 hT146 rfl rfl hA146 rfl rfl (Nat.le_of_ble_eq_true rfl) (by decide) (hz_cap0 _) ?_
    refine hz_i2l (pc := 22) C dX11_digest_22 rfl ?_
    refine hz_ladd (pc := 23) C dX11_digest_23 rfl ?_
    refine hz_lstore_n (pc := 24) C (ls' := [some (.ref 146), some (.long (((31 : Int64) * h) + ((cnt u (I 146 7) k).toInt64))), none, some (.int (nI k)), w4]) dX11_digest_24 (Nat.le_of_ble_eq_true rfl) rfl ?_
    refine hz_iinc (pc := 25) C (v := nI (k + 1)) (ls' := [some (.ref 146), some (.long (((31 : Int64) * h) + ((cnt u (I 146 7) k).toInt64))), none, some (.int (nI (k + 1))), w4]) dX11_digest_25 rfl (nI_add _ 1) rfl ?_
    refine hz_goto (pc := 28) C (tgt := 6) dX11_digest_28 rfl ?_
    exact ih (k + 1) _ (by omega) hf
set_option maxHeartbeats 4000000 in
set_option maxRecDepth 100000 in
theorem lp_rB {X : hz_X} (C : hz_C X mX11_digest) {I : Nat → Nat → Int32} {L : Nat → Nat → Int64} {q : Nat → Nat → Nat} {u : Nat → Nat} (V : MV I u) (U : WU u) {a : Nat} (ha : a < 8) {H : Int64} (kk : hz_G X TT NN (I, L, PP q) 0 0 96 [some (.ref 146), some (.long H), none, some (.int (nI a)), some (.int (nI 8))] []) : ∀ (n b : Nat) (h : Int64), b + n = 8 → H = lf (dgB u a) n b h → hz_G X TT NN (I, L, PP q) 0 0 44 [some (.ref 146), some (.long h), none, some (.int (nI a)), some (.int (nI b))] [] := by
  intro n
  induction n with
  | zero =>
    intro b h hi hf
    obtain rfl : b = 8 := by omega
    have hal := wu_al U
    have hno := wu_nt U
    refine hz_iload (pc := 44) C dX11_digest_44 rfl ?_
    refine hz_bipush (pc := 46) C (v := nI 8) dX11_digest_46 (by decide +kernel) ?_
    refine hz_ic_ge (pc := 48) C (tgt := 96) dX11_digest_48 rfl (fun _ => ?_) (fun cq => absurd (nI_le (by omega) (by omega)) cq)
    obtain rfl : H = h := hf
    exact kk
  | succ n ih =>
    intro b h hi hf
    have hal := wu_al U
    have hno := wu_nt U
    have hdr : 8 * a + b < 64 → u (8 * a + b) ≤ 9 := fun z => wu_dr U z
    refine hz_iload (pc := 44) C dX11_digest_44 rfl ?_
    refine hz_bipush (pc := 46) C (v := nI 8) dX11_digest_46 (by decide +kernel) ?_
    refine hz_ic_ge (pc := 48) C (tgt := 96) dX11_digest_48 rfl (fun cq => absurd cq (nI_ge (by omega) (by omega))) (fun _ => ?_)
    refine hz_ldc2 (pc := 51) C (v := 31) dX11_digest_51 (hz_mp 1261 (by decide +kernel)) ?_
    refine hz_lload_n (pc := 54) C dX11_digest_54 rfl ?_
    refine hz_lmul (pc := 55) C dX11_digest_55 rfl ?_
    refine hz_aload_n (pc := 56) C dX11_digest_56 rfl ?_
    refine hz_getP (pc := 57) C (v := 147) ffX11_7 dX11_digest_57 hT146 hA146 rfl (hP146_0 q) (by decide) ?_
    refine hz_bipush (pc := 60) C (v := nI 8) dX11_digest_60 (by decide +kernel) ?_
    refine hz_iload_n (pc := 62) C dX11_digest_62 rfl ?_
    refine hz_imul (pc := 63) C (v := nI (8 * a)) dX11_digest_63 (pk_mul _ _) ?_
    refine hz_iload (pc := 64) C dX11_digest_64 rfl ?_
    refine hz_iadd (pc := 66) C (v := nI ((8 * a) + b)) dX11_digest_66 (nI_add _ _) ?_
    refine hz_iald (pc := 67) C (v := nI (u ((8 * a) + b))) (j := (8 * a) + b) dX11_digest_67 hT147 hA147 rfl (by omega) (by decide) (mg V (by omega) (by omega)) ?_
    refine hz_if_ne (pc := 68) C (tgt := 75) dX11_digest_68 rfl (fun c1 => ?_) (fun c1 => ?_)
    · refine hz_aload_n (pc := 75) C dX11_digest_75 rfl ?_
      refine hz_getP (pc := 76) C (v := 147) ffX11_7 dX11_digest_76 hT146 hA146 rfl (hP146_0 q) (by decide) ?_
      refine hz_bipush (pc := 79) C (v := nI 8) dX11_digest_79 (by decide +kernel) ?_
      refine hz_iload_n (pc := 81) C dX11_digest_81 rfl ?_
      refine hz_imul (pc := 82) C (v := nI (8 * a)) dX11_digest_82 (pk_mul _ _) ?_
      refine hz_iload (pc := 83) C dX11_digest_83 rfl ?_
      refine hz_iadd (pc := 85) C (v := nI ((8 * a) + b)) dX11_digest_85 (nI_add _ _) ?_
      refine hz_iald (pc := 86) C (v := nI (u ((8 * a) + b))) (j := (8 * a) + b) dX11_digest_86 hT147 hA147 rfl (by omega) (by decide) (mg V (by omega) (by omega)) ?_
      refine hz_i2l (pc := 87) C dX11_digest_87 rfl ?_
      refine hz_ladd (pc := 88) C dX11_digest_88 rfl ?_
      refine hz_lstore_n (pc := 89) C (ls' := [some (.ref 146), some (.long (((31 : Int64) * h) + ((nI (u ((8 * a) + b))).toInt64))), none, some (.int (nI a)), some (.int (nI b))]) dX11_digest_89 (Nat.le_of_ble_eq_true rfl) rfl ?_
      refine hz_iinc (pc := 90) C (v := nI (b + 1)) (ls' := [some (.ref 146), some (.long (((31 : Int64) * h) + ((nI (u ((8 * a) + b))).toInt64))), none, some (.int (nI a)), some (.int (nI (b + 1)))]) dX11_digest_90 rfl (nI_add _ 1) rfl ?_
      refine hz_goto (pc := 93) C (tgt := 44) dX11_digest_93 rfl ?_
      have h9 : dv (u (8 * a + b)) = nI (u (8 * a + b)) := dv_nz (fun z => c1 ((nI_z (by omega)).mpr z))
      have h8 := hf
      simp only [lf, dgB] at h8
      rw [h9] at h8
      exact ih (b + 1) _ (by omega) h8
    · refine hz_iconst (pc := 71) C (v := (-1 : Int32)) dX11_digest_71 (by decide +kernel) ?_
      refine hz_goto (pc := 72) C (tgt := 87) dX11_digest_72 rfl ?_
      refine hz_i2l (pc := 87) C dX11_digest_87 rfl ?_
      refine hz_ladd (pc := 88) C dX11_digest_88 rfl ?_
      refine hz_lstore_n (pc := 89) C (ls' := [some (.ref 146), some (.long (((31 : Int64) * h) + ((-1 : Int32).toInt64))), none, some (.int (nI a)), some (.int (nI b))]) dX11_digest_89 (Nat.le_of_ble_eq_true rfl) rfl ?_
      refine hz_iinc (pc := 90) C (v := nI (b + 1)) (ls' := [some (.ref 146), some (.long (((31 : Int64) * h) + ((-1 : Int32).toInt64))), none, some (.int (nI a)), some (.int (nI (b + 1)))]) dX11_digest_90 rfl (nI_add _ 1) rfl ?_
      refine hz_goto (pc := 93) C (tgt := 44) dX11_digest_93 rfl ?_
      have h9 : dv (u (8 * a + b)) = (-1 : Int32) := dv_no ((nI_z (by omega)).mp c1)
      have h8 := hf
      simp only [lf, dgB] at h8
      rw [h9] at h8
      exact ih (b + 1) _ (by omega) h8
set_option maxHeartbeats 4000000 in
set_option maxRecDepth 100000 in
theorem lp_rA {X : hz_X} (C : hz_C X mX11_digest) {I : Nat → Nat → Int32} {L : Nat → Nat → Int64} {q : Nat → Nat → Nat} {u : Nat → Nat} (V : MV I u) (U : WU u) {H : Int64} (kk : ∀ (w4 : Option Value), hz_G X TT NN (I, L, PP q) 0 0 102 [some (.ref 146), some (.long H), none, some (.int (nI 8)), w4] []) : ∀ (n a : Nat) (h : Int64) (w4 : Option Value), a + n = 8 → H = lf (dgA u) n a h → hz_G X TT NN (I, L, PP q) 0 0 33 [some (.ref 146), some (.long h), none, some (.int (nI a)), w4] [] := by
  intro n
  induction n with
  | zero =>
    intro a h w4 hi hf
    obtain rfl : a = 8 := by omega
    have hal := wu_al U
    have hno := wu_nt U
    refine hz_iload_n (pc := 33) C dX11_digest_33 rfl ?_
    refine hz_bipush (pc := 34) C (v := nI 8) dX11_digest_34 (by decide +kernel) ?_
    refine hz_ic_ge (pc := 36) C (tgt := 102) dX11_digest_36 rfl (fun _ => ?_) (fun cq => absurd (nI_le (by omega) (by omega)) cq)
    obtain rfl : H = h := hf
    exact kk _
  | succ n ih =>
    intro a h w4 hi hf
    have hal := wu_al U
    have hno := wu_nt U
    refine hz_iload_n (pc := 33) C dX11_digest_33 rfl ?_
    refine hz_bipush (pc := 34) C (v := nI 8) dX11_digest_34 (by decide +kernel) ?_
    refine hz_ic_ge (pc := 36) C (tgt := 102) dX11_digest_36 rfl (fun cq => absurd cq (nI_ge (by omega) (by omega))) (fun _ => ?_)
    refine hz_iload_n (pc := 39) C dX11_digest_39 rfl ?_
    refine hz_iconst (pc := 40) C (v := nI 1) dX11_digest_40 (by decide +kernel) ?_
    refine hz_iadd (pc := 41) C (v := nI (a + 1)) dX11_digest_41 (nI_add _ _) ?_
    refine hz_istore (pc := 42) C (ls' := [some (.ref 146), some (.long h), none, some (.int (nI a)), some (.int (nI (a + 1)))]) dX11_digest_42 (Nat.le_of_ble_eq_true rfl) rfl ?_
    refine lp_rB C V U (by omega) (H := dgA u a h) ?_ (8 - (a + 1)) (a + 1) h (by omega) rfl
    refine hz_iinc (pc := 96) C (v := nI (a + 1)) (ls' := [some (.ref 146), some (.long (dgA u a h)), none, some (.int (nI (a + 1))), some (.int (nI 8))]) dX11_digest_96 rfl (nI_add _ 1) rfl ?_
    refine hz_goto (pc := 99) C (tgt := 33) dX11_digest_99 rfl ?_
    exact ih (a + 1) _ _ (by omega) hf
set_option maxHeartbeats 4000000 in
set_option maxRecDepth 100000 in
theorem lp_rK {X : hz_X} (C : hz_C X mX11_digest) {I : Nat → Nat → Int32} {L : Nat → Nat → Int64} {q : Nat → Nat → Nat} {u : Nat → Nat} (V : MV I u) (U : WU u) {w4 : Option Value} {H : Int64} (kk : hz_G X TT NN (I, L, PP q) 0 0 191 [some (.ref 146), some (.long H), none, some (.int (nI (u 64))), w4] []) : ∀ (n k : Nat) (h : Int64), k + n = u 64 → H = lf (dgK u) n k h → hz_G X TT NN (I, L, PP q) 0 0 104 [some (.ref 146), some (.long h), none, some (.int (nI k)), w4] [] := by
  intro n
  induction n with
  | zero =>
    intro k h hi hf
    obtain rfl : k = u 64 := by omega
    have hal := wu_al U
    have hno := wu_nt U
    refine hz_iload_n (pc := 104) C dX11_digest_104 rfl ?_
    refine hz_aload_n (pc := 105) C dX11_digest_105 rfl ?_
    refine hz_getP (pc := 106) C (v := 147) ffX11_7 dX11_digest_106 hT146 hA146 rfl (hP146_0 q) (by decide) ?_
    refine hz_bipush (pc := 109) C (v := nI 64) dX11_digest_109 (by decide +kernel) ?_
    refine hz_iald (pc := 111) C (v := nI (u 64)) (j := 64) dX11_digest_111 hT147 hA147 rfl (by decide) (by decide) (mg V (by omega) (by omega)) ?_
    refine hz_ic_ge (pc := 112) C (tgt := 191) dX11_digest_112 rfl (fun _ => ?_) (fun cq => absurd (nI_le (by omega) (by omega)) cq)
    obtain rfl : H = h := hf
    exact kk
  | succ n ih =>
    intro k h hi hf
    have hal := wu_al U
    have hno := wu_nt U
    refine hz_iload_n (pc := 104) C dX11_digest_104 rfl ?_
    refine hz_aload_n (pc := 105) C dX11_digest_105 rfl ?_
    refine hz_getP (pc := 106) C (v := 147) ffX11_7 dX11_digest_106 hT146 hA146 rfl (hP146_0 q) (by decide) ?_
    refine hz_bipush (pc := 109) C (v := nI 64) dX11_digest_109 (by decide +kernel) ?_
    refine hz_iald (pc := 111) C (v := nI (u 64)) (j := 64) dX11_digest_111 hT147 hA147 rfl (by decide) (by decide) (mg V (by omega) (by omega)) ?_
    refine hz_ic_ge (pc := 112) C (tgt := 191) dX11_digest_112 rfl (fun cq => absurd cq (nI_ge (by omega) (by omega))) (fun _ => ?_)
    refine hz_ldc2 (pc := 115) C (v := 31) dX11_digest_115 (hz_mp 1261 (by decide +kernel)) ?_
    refine hz_lload_n (pc := 118) C dX11_digest_118 rfl ?_
    refine hz_lmul (pc := 119) C dX11_digest_119 rfl ?_
    refine hz_aload_n (pc := 120) C dX11_digest_120 rfl ?_
    refine hz_getP (pc := 121) C (v := 147) ffX11_7 dX11_digest_121 hT146 hA146 rfl (hP146_0 q) (by decide) ?_
    refine hz_bipush (pc := 124) C (v := nI 65) dX11_digest_124 (by decide +kernel) ?_
    refine hz_iload_n (pc := 126) C dX11_digest_126 rfl ?_
    refine hz_iadd (pc := 127) C (v := nI (65 + k)) dX11_digest_127 (nI_add _ _) ?_
    refine hz_iald (pc := 128) C (v := nI (u (65 + k))) (j := 65 + k) dX11_digest_128 hT147 hA147 rfl (by omega) (by decide) (mg V (by omega) (by omega)) ?_
    refine hz_i2l (pc := 129) C dX11_digest_129 rfl ?_
    refine hz_ladd (pc := 130) C dX11_digest_130 rfl ?_
    refine hz_lstore_n (pc := 131) C (ls' := [some (.ref 146), some (.long (((31 : Int64) * h) + ((nI (u (65 + k))).toInt64))), none, some (.int (nI k)), w4]) dX11_digest_131 (Nat.le_of_ble_eq_true rfl) rfl ?_
    refine hz_ldc2 (pc := 132) C (v := 31) dX11_digest_132 (hz_mp 1261 (by decide +kernel)) ?_
    refine hz_lload_n (pc := 135) C dX11_digest_135 rfl ?_
    refine hz_lmul (pc := 136) C dX11_digest_136 rfl ?_
    refine hz_aload_n (pc := 137) C dX11_digest_137 rfl ?_
    refine hz_getP (pc := 138) C (v := 147) ffX11_7 dX11_digest_138 hT146 hA146 rfl (hP146_0 q) (by decide) ?_
    refine hz_bipush (pc := 141) C (v := nI 71) dX11_digest_141 (by decide +kernel) ?_
    refine hz_iload_n (pc := 143) C dX11_digest_143 rfl ?_
    refine hz_iadd (pc := 144) C (v := nI (71 + k)) dX11_digest_144 (nI_add _ _) ?_
    refine hz_iald (pc := 145) C (v := nI (u (71 + k))) (j := 71 + k) dX11_digest_145 hT147 hA147 rfl (by omega) (by decide) (mg V (by omega) (by omega)) ?_
    refine hz_i2l (pc := 146) C dX11_digest_146 rfl ?_
    refine hz_ladd (pc := 147) C dX11_digest_147 rfl ?_
    refine hz_lstore_n (pc := 148) C (ls' := [some (.ref 146), some (.long (((31 : Int64) * (((31 : Int64) * h) + ((nI (u (65 + k))).toInt64))) + ((nI (u (71 + k))).toInt64))), none, some (.int (nI k)), w4]) dX11_digest_148 (Nat.le_of_ble_eq_true rfl) rfl ?_
    refine hz_ldc2 (pc := 149) C (v := 31) dX11_digest_149 (hz_mp 1261 (by decide +kernel)) ?_
    refine hz_lload_n (pc := 152) C dX11_digest_152 rfl ?_
    refine hz_lmul (pc := 153) C dX11_digest_153 rfl ?_
    refine hz_aload_n (pc := 154) C dX11_digest_154 rfl ?_
    refine hz_getP (pc := 155) C (v := 147) ffX11_7 dX11_digest_155 hT146 hA146 rfl (hP146_0 q) (by decide) ?_
    refine hz_bipush (pc := 158) C (v := nI 94) dX11_digest_158 (by decide +kernel) ?_
    refine hz_iload_n (pc := 160) C dX11_digest_160 rfl ?_
    refine hz_iadd (pc := 161) C (v := nI (94 + k)) dX11_digest_161 (nI_add _ _) ?_
    refine hz_iald (pc := 162) C (v := nI (u (94 + k))) (j := 94 + k) dX11_digest_162 hT147 hA147 rfl (by omega) (by decide) (mg V (by omega) (by omega)) ?_
    refine hz_i2l (pc := 163) C dX11_digest_163 rfl ?_
    refine hz_ladd (pc := 164) C dX11_digest_164 rfl ?_
    refine hz_lstore_n (pc := 165) C (ls' := [some (.ref 146), some (.long (((31 : Int64) * (((31 : Int64) * (((31 : Int64) * h) + ((nI (u (65 + k))).toInt64))) + ((nI (u (71 + k))).toInt64))) + ((nI (u (94 + k))).toInt64))), none, some (.int (nI k)), w4]) dX11_digest_165 (Nat.le_of_ble_eq_true rfl) rfl ?_
    refine hz_ldc2 (pc := 166) C (v := 31) dX11_digest_166 (hz_mp 1261 (by decide +kernel)) ?_
    refine hz_lload_n (pc := 169) C dX11_digest_169 rfl ?_
    refine hz_lmul (pc := 170) C dX11_digest_170 rfl ?_
    refine hz_aload_n (pc := 171) C dX11_digest_171 rfl ?_
    refine hz_getP (pc := 172) C (v := 147) ffX11_7 dX11_digest_172 hT146 hA146 rfl (hP146_0 q) (by decide) ?_
    refine hz_bipush (pc := 175) C (v := nI 93) dX11_digest_175 (by decide +kernel) ?_
    refine hz_iald (pc := 177) C (v := nI (u 93)) (j := 93) dX11_digest_177 hT147 hA147 rfl (by decide) (by decide) (mg V (by omega) (by omega)) ?_
    refine hz_iload_n (pc := 178) C dX11_digest_178 rfl ?_
    refine hz_ishr (pc := 179) C dX11_digest_179 rfl ?_
    refine hz_iconst (pc := 180) C (v := nI 1) dX11_digest_180 (by decide +kernel) ?_
    refine hz_iand (pc := 181) C dX11_digest_181 rfl ?_
    refine hz_i2l (pc := 182) C dX11_digest_182 rfl ?_
    refine hz_ladd (pc := 183) C dX11_digest_183 rfl ?_
    refine hz_lstore_n (pc := 184) C (ls' := [some (.ref 146), some (.long (((31 : Int64) * (((31 : Int64) * (((31 : Int64) * (((31 : Int64) * h) + ((nI (u (65 + k))).toInt64))) + ((nI (u (71 + k))).toInt64))) + ((nI (u (94 + k))).toInt64))) + ((((nI (u 93)) >>> ((nI k) &&& 31)) &&& (nI 1)).toInt64))), none, some (.int (nI k)), w4]) dX11_digest_184 (Nat.le_of_ble_eq_true rfl) rfl ?_
    refine hz_iinc (pc := 185) C (v := nI (k + 1)) (ls' := [some (.ref 146), some (.long (((31 : Int64) * (((31 : Int64) * (((31 : Int64) * (((31 : Int64) * h) + ((nI (u (65 + k))).toInt64))) + ((nI (u (71 + k))).toInt64))) + ((nI (u (94 + k))).toInt64))) + ((((nI (u 93)) >>> ((nI k) &&& 31)) &&& (nI 1)).toInt64))), none, some (.int (nI (k + 1))), w4]) dX11_digest_185 rfl (nI_add _ 1) rfl ?_
    refine hz_goto (pc := 188) C (tgt := 104) dX11_digest_188 rfl ?_
    exact ih (k + 1) _ (by omega) hf
set_option maxHeartbeats 4000000 in
set_option maxRecDepth 100000 in
theorem lp_rN {X : hz_X} (C : hz_C X mX11_digest) {I : Nat → Nat → Int32} {L : Nat → Nat → Int64} {q : Nat → Nat → Nat} {u : Nat → Nat} (V : MV I u) (U : WU u) {w4 : Option Value} {H : Int64} (kk : hz_G X TT NN (I, L, PP q) 0 0 229 [some (.ref 146), some (.long H), none, some (.int (nI (2 * u 77))), w4] []) : ∀ (n k : Nat) (h : Int64), k + n = 2 * u 77 → H = lf (dgN u) n k h → hz_G X TT NN (I, L, PP q) 0 0 193 [some (.ref 146), some (.long h), none, some (.int (nI k)), w4] [] := by
  intro n
  induction n with
  | zero =>
    intro k h hi hf
    obtain rfl : k = 2 * u 77 := by omega
    have hal := wu_al U
    have hno := wu_nt U
    refine hz_iload_n (pc := 193) C dX11_digest_193 rfl ?_
    refine hz_iconst (pc := 194) C (v := nI 2) dX11_digest_194 (by decide +kernel) ?_
    refine hz_aload_n (pc := 195) C dX11_digest_195 rfl ?_
    refine hz_getP (pc := 196) C (v := 147) ffX11_7 dX11_digest_196 hT146 hA146 rfl (hP146_0 q) (by decide) ?_
    refine hz_bipush (pc := 199) C (v := nI 77) dX11_digest_199 (by decide +kernel) ?_
    refine hz_iald (pc := 201) C (v := nI (u 77)) (j := 77) dX11_digest_201 hT147 hA147 rfl (by decide) (by decide) (mg V (by omega) (by omega)) ?_
    refine hz_imul (pc := 202) C (v := nI (2 * (u 77))) dX11_digest_202 (pk_mul _ _) ?_
    refine hz_ic_ge (pc := 203) C (tgt := 229) dX11_digest_203 rfl (fun _ => ?_) (fun cq => absurd (nI_le (by omega) (by omega)) cq)
    obtain rfl : H = h := hf
    exact kk
  | succ n ih =>
    intro k h hi hf
    have hal := wu_al U
    have hno := wu_nt U
    refine hz_iload_n (pc := 193) C dX11_digest_193 rfl ?_
    refine hz_iconst (pc := 194) C (v := nI 2) dX11_digest_194 (by decide +kernel) ?_
    refine hz_aload_n (pc := 195) C dX11_digest_195 rfl ?_
    refine hz_getP (pc := 196) C (v := 147) ffX11_7 dX11_digest_196 hT146 hA146 rfl (hP146_0 q) (by decide) ?_
    refine hz_bipush (pc := 199) C (v := nI 77) dX11_digest_199 (by decide +kernel) ?_
    refine hz_iald (pc := 201) C (v := nI (u 77)) (j := 77) dX11_digest_201 hT147 hA147 rfl (by decide) (by decide) (mg V (by omega) (by omega)) ?_
    refine hz_imul (pc := 202) C (v := nI (2 * (u 77))) dX11_digest_202 (pk_mul _ _) ?_
    refine hz_ic_ge (pc := 203) C (tgt := 229) dX11_digest_203 rfl (fun cq => absurd cq (nI_ge (by omega) (by omega))) (fun _ => ?_)
    refine hz_ldc2 (pc := 206) C (v := 31) dX11_digest_206 (hz_mp 1261 (by decide +kernel)) ?_
    refine hz_lload_n (pc := 209) C dX11_digest_209 rfl ?_
    refine hz_lmul (pc := 210) C dX11_digest_210 rfl ?_
    refine hz_aload_n (pc := 211) C dX11_digest_211 rfl ?_
    refine hz_getP (pc := 212) C (v := 147) ffX11_7 dX11_digest_212 hT146 hA146 rfl (hP146_0 q) (by decide) ?_
    refine hz_bipush (pc := 215) C (v := nI 78) dX11_digest_215 (by decide +kernel) ?_
    refine hz_iload_n (pc := 217) C dX11_digest_217 rfl ?_
    refine hz_iadd (pc := 218) C (v := nI (78 + k)) dX11_digest_218 (nI_add _ _) ?_
    refine hz_iald (pc := 219) C (v := mv u (78 + k)) (j := 78 + k) dX11_digest_219 hT147 hA147 rfl (by omega) (by decide) (V _ (by omega)) ?_
    refine hz_i2l (pc := 220) C dX11_digest_220 rfl ?_
    refine hz_ladd (pc := 221) C dX11_digest_221 rfl ?_
    refine hz_lstore_n (pc := 222) C (ls' := [some (.ref 146), some (.long (((31 : Int64) * h) + ((mv u (78 + k)).toInt64))), none, some (.int (nI k)), w4]) dX11_digest_222 (Nat.le_of_ble_eq_true rfl) rfl ?_
    refine hz_iinc (pc := 223) C (v := nI (k + 1)) (ls' := [some (.ref 146), some (.long (((31 : Int64) * h) + ((mv u (78 + k)).toInt64))), none, some (.int (nI (k + 1))), w4]) dX11_digest_223 rfl (nI_add _ 1) rfl ?_
    refine hz_goto (pc := 226) C (tgt := 193) dX11_digest_226 rfl ?_
    exact ih (k + 1) _ (by omega) hf
set_option maxHeartbeats 4000000 in
set_option maxRecDepth 100000 in
theorem ev_digestM {I : Nat → Nat → Int32} {L : Nat → Nat → Int64} {q : Nat → Nat → Nat} {u : Nat → Nat} (V : MV I u) (U : WU u) : hz_Ev mX11_digest TT NN (I, L, PP q) [.ref 146] 0 0 (some (.long (dgW u (I 146 7) (L 146 5) (L 146 6)))) TT NN (I, L, PP q) := by
  refine hz_Ev.intro (ls := [some (.ref 146), none, none, none, none]) (by decide +kernel) rfl (Nat.le_of_ble_eq_true rfl) (fun X C Z _ => ?_)
  refine hz_ldc2 (pc := 0) C (v := 1229) dX11_digest_0 (hz_mp 1260 (by decide +kernel)) ?_
  refine hz_lstore_n (pc := 3) C (ls' := [some (.ref 146), some (.long (1229 : Int64)), none, none, none]) dX11_digest_3 (Nat.le_of_ble_eq_true rfl) rfl ?_
  refine hz_iconst (pc := 4) C (v := nI 0) dX11_digest_4 (by decide +kernel) ?_
  refine hz_istore_n (pc := 5) C (ls' := [some (.ref 146), some (.long (1229 : Int64)), none, some (.int (nI 0)), none]) dX11_digest_5 (Nat.le_of_ble_eq_true rfl) rfl ?_
  refine lp_rC C V U (H := lf (dgC u (I 146 7)) 8 0 (1229 : Int64)) ?_ (8) 0 _ (by omega) rfl
  refine hz_iconst (pc := 31) C (v := nI 0) dX11_digest_31 (by decide +kernel) ?_
  refine hz_istore_n (pc := 32) C (ls' := [some (.ref 146), some (.long (lf (dgC u (I 146 7)) 8 0 (1229 : Int64))), none, some (.int (nI 0)), none]) dX11_digest_32 (Nat.le_of_ble_eq_true rfl) rfl ?_
  refine lp_rA C V U (H := lf (dgA u) 8 0 (lf (dgC u (I 146 7)) 8 0 (1229 : Int64))) (fun w4 => ?_) (8) 0 _ _ (by omega) rfl
  refine hz_iconst (pc := 102) C (v := nI 0) dX11_digest_102 (by decide +kernel) ?_
  refine hz_istore_n (pc := 103) C (ls' := [some (.ref 146), some (.long (lf (dgA u) 8 0 (lf (dgC u (I 146 7)) 8 0 (1229 : Int64)))), none, some (.int (nI 0)), w4]) dX11_digest_103 (Nat.le_of_ble_eq_true rfl) rfl ?_
  refine lp_rK C V U (H := lf (dgK u) (u 64) 0 (lf (dgA u) 8 0 (lf (dgC u (I 146 7)) 8 0 (1229 : Int64)))) ?_ (u 64) 0 _ (by omega) rfl
  refine hz_iconst (pc := 191) C (v := nI 0) dX11_digest_191 (by decide +kernel) ?_
  refine hz_istore_n (pc := 192) C (ls' := [some (.ref 146), some (.long (lf (dgK u) (u 64) 0 (lf (dgA u) 8 0 (lf (dgC u (I 146 7)) 8 0 (1229 : Int64))))), none, some (.int (nI 0)), w4]) dX11_digest_192 (Nat.le_of_ble_eq_true rfl) rfl ?_
  refine lp_rN C V U (H := lf (dgN u) (2 * u 77) 0 (lf (dgK u) (u 64) 0 (lf (dgA u) 8 0 (lf (dgC u (I 146 7)) 8 0 (1229 : Int64))))) ?_ (2 * u 77) 0 _ (by omega) rfl
  refine hz_ldc2 (pc := 229) C (v := 31) dX11_digest_229 (hz_mp 1261 (by decide +kernel)) ?_
  refine hz_ldc2 (pc := 232) C (v := 31) dX11_digest_232 (hz_mp 1261 (by decide +kernel)) ?_
  refine hz_lload_n (pc := 235) C dX11_digest_235 rfl ?_
  refine hz_lmul (pc := 236) C dX11_digest_236 rfl ?_
  refine hz_aload_n (pc := 237) C dX11_digest_237 rfl ?_
  refine hz_getL (pc := 238) C (v := L 146 5) ffX11_214 dX11_digest_238 hT146 hA146 rfl rfl ?_
  refine hz_ladd (pc := 241) C dX11_digest_241 rfl ?_
  refine hz_lmul (pc := 242) C dX11_digest_242 rfl ?_
  refine hz_aload_n (pc := 243) C dX11_digest_243 rfl ?_
  refine hz_getL (pc := 244) C (v := L 146 6) ffX11_26 dX11_digest_244 hT146 hA146 rfl rfl ?_
  refine hz_ladd (pc := 247) C dX11_digest_247 rfl ?_
  exact hz_lret C Z rfl dX11_digest_248 (by unfold dgW dgM; rw [dg_pair]) rfl

theorem vout {v : Int32} {b : Nat} (hb : b < 2 ^ 31) (h : ¬ (¬ v < nI 0 ∧ ¬ nI b < v)) : v.toInt < 0 ∨ (b : Int) < v.toInt := by
  by_cases h1 : v < nI 0
  · exact Or.inl (by rw [Int32.lt_iff_toInt_lt, nI_toInt (by decide)] at h1; exact h1)
  · refine Or.inr ?_
    have h2 : nI b < v := Classical.not_not.mp fun z => h ⟨h1, z⟩
    rw [Int32.lt_iff_toInt_lt, nI_toInt hb] at h2
    exact h2
theorem bt_int {d k : Nat} (hd : d < 64) (hk : k < 6) : (nI d >>> (nI k &&& 31)) &&& nI 1 = hz_b (bt d k = true) := by
  have h : ∀ k, k < 6 → ∀ d, d < 64 → (nI d >>> (nI k &&& 31)) &&& nI 1 = hz_b (bt d k = true) := by decide +kernel
  exact h k hk d hd
set_option maxHeartbeats 4000000 in
set_option maxRecDepth 100000 in
theorem ev_of0 {I : Nat → Nat → Int32} {L : Nat → Nat → Int64} {q : Nat → Nat → Nat} {u : Nat → Nat} (V : HV 12 q I u) (U : WU u) {k : Nat} (hk : k < u 64) : hz_Ev mX10_of TT NN (I, L, PP q) [.ref 1, .int (nI k), .int (nI 0)] 0 0 (some (.int (nI (u (65 + k))))) TT NN (I, L, PP q) := by
  have hal := wu_al U
  have hkd := wu_kd U hk
  have hrm := wu_rm U hk
  have hba := wu_ba U hk
  have hdn := wu_dn U
  refine hz_Ev.intro (ls := [some (.ref 1), some (.int (nI k)), some (.int (nI 0))]) (by decide +kernel) rfl (Nat.le_of_ble_eq_true rfl) (fun X C Z _ => ?_)
  refine hz_aload_n (pc := 0) C dX10_of_0 rfl ?_
  refine hz_iload_n (pc := 1) C dX10_of_1 rfl ?_
  refine hz_callVs (pc := 2) C (as := [.int (nI k)]) (st := []) (ev_isAlarm V U (nI k)) (hz_new0 _ _) fyX10_isAlarm fvX10_123 rfl dX10_of_2 hT1 rfl rfl hA1 rfl rfl (Nat.le_of_ble_eq_true rfl) (by decide) (hz_cap0 _) ?_
  refine hz_ifb_ne (pc := 5) C (tgt := 13) dX10_of_5 rfl (fun _ => ?_) (fun cq => absurd (vk hk (wu_al U)) cq)
  refine hz_iload_n (pc := 13) C dX10_of_13 rfl ?_
  refine hz_swIn (pc := 14) C (tgt := 48) dX10_of_14 (by decide +kernel) (by decide +kernel) (by rfl) (by decide +kernel) ?_
  refine hz_aload_n (pc := 48) C dX10_of_48 rfl ?_
  refine hz_getP (pc := 49) C (v := 12) ffX10_26 dX10_of_49 hT1 hA1 rfl (hP1_4 q) (by decide) ?_
  refine hz_getP (pc := 52) C (v := 15) ffX10_146 dX10_of_52 hT12 hA12 rfl (hP12_3 q) (by decide) ?_
  refine hz_iload_n (pc := 55) C dX10_of_55 rfl ?_
  refine hz_iald (pc := 56) C (v := nI (u (65 + k))) (j := k) dX10_of_56 hT15 hA15 rfl (by omega) (by decide) (hv_kd V (by omega)) ?_
  exact hz_iret C Z rfl dX10_of_57 rfl rfl
set_option maxHeartbeats 4000000 in
set_option maxRecDepth 100000 in
theorem ev_of0M {I : Nat → Nat → Int32} {L : Nat → Nat → Int64} {q : Nat → Nat → Nat} {u : Nat → Nat} (V : MV I u) (U : WU u) {k : Nat} (hk : k < u 64) : hz_Ev mX11_of TT NN (I, L, PP q) [.ref 146, .int (nI k), .int (nI 0)] 0 0 (some (.int (nI (u (65 + k))))) TT NN (I, L, PP q) := by
  have hal := wu_al U
  have hkd := wu_kd U hk
  have hrm := wu_rm U hk
  have hba := wu_ba U hk
  have hdn := wu_dn U
  refine hz_Ev.intro (ls := [some (.ref 146), some (.int (nI k)), some (.int (nI 0))]) (by decide +kernel) rfl (Nat.le_of_ble_eq_true rfl) (fun X C Z _ => ?_)
  refine hz_aload_n (pc := 0) C dX11_of_0 rfl ?_
  refine hz_iload_n (pc := 1) C dX11_of_1 rfl ?_
  refine hz_callVs (pc := 2) C (as := [.int (nI k)]) (st := []) (ev_isAlarmM V U (nI k)) (hz_new0 _ _) fyX11_isAlarm fvX11_160 rfl dX11_of_2 hT146 rfl rfl hA146 rfl rfl (Nat.le_of_ble_eq_true rfl) (by decide) (hz_cap0 _) ?_
  refine hz_ifb_ne (pc := 5) C (tgt := 13) dX11_of_5 rfl (fun _ => ?_) (fun cq => absurd (vk hk (wu_al U)) cq)
  refine hz_iload_n (pc := 13) C dX11_of_13 rfl ?_
  refine hz_swIn (pc := 14) C (tgt := 48) dX11_of_14 (by decide +kernel) (by decide +kernel) (by rfl) (by decide +kernel) ?_
  refine hz_aload_n (pc := 48) C dX11_of_48 rfl ?_
  refine hz_getP (pc := 49) C (v := 147) ffX11_7 dX11_of_49 hT146 hA146 rfl (hP146_0 q) (by decide) ?_
  refine hz_bipush (pc := 52) C (v := nI 65) dX11_of_52 (by decide +kernel) ?_
  refine hz_iload_n (pc := 54) C dX11_of_54 rfl ?_
  refine hz_iadd (pc := 55) C (v := nI (65 + k)) dX11_of_55 (nI_add _ _) ?_
  refine hz_iald (pc := 56) C (v := nI (u (65 + k))) (j := 65 + k) dX11_of_56 hT147 hA147 rfl (by omega) (by decide) (mg V (by omega) (by omega)) ?_
  exact hz_iret C Z rfl dX11_of_57 rfl rfl
set_option maxHeartbeats 4000000 in
set_option maxRecDepth 100000 in
theorem ev_of1 {I : Nat → Nat → Int32} {L : Nat → Nat → Int64} {q : Nat → Nat → Nat} {u : Nat → Nat} (V : HV 12 q I u) (U : WU u) {k : Nat} (hk : k < u 64) : hz_Ev mX10_of TT NN (I, L, PP q) [.ref 1, .int (nI k), .int (nI 1)] 0 0 (some (.int (nI (u (71 + k))))) TT NN (I, L, PP q) := by
  have hal := wu_al U
  have hkd := wu_kd U hk
  have hrm := wu_rm U hk
  have hba := wu_ba U hk
  have hdn := wu_dn U
  refine hz_Ev.intro (ls := [some (.ref 1), some (.int (nI k)), some (.int (nI 1))]) (by decide +kernel) rfl (Nat.le_of_ble_eq_true rfl) (fun X C Z _ => ?_)
  refine hz_aload_n (pc := 0) C dX10_of_0 rfl ?_
  refine hz_iload_n (pc := 1) C dX10_of_1 rfl ?_
  refine hz_callVs (pc := 2) C (as := [.int (nI k)]) (st := []) (ev_isAlarm V U (nI k)) (hz_new0 _ _) fyX10_isAlarm fvX10_123 rfl dX10_of_2 hT1 rfl rfl hA1 rfl rfl (Nat.le_of_ble_eq_true rfl) (by decide) (hz_cap0 _) ?_
  refine hz_ifb_ne (pc := 5) C (tgt := 13) dX10_of_5 rfl (fun _ => ?_) (fun cq => absurd (vk hk (wu_al U)) cq)
  refine hz_iload_n (pc := 13) C dX10_of_13 rfl ?_
  refine hz_swIn (pc := 14) C (tgt := 58) dX10_of_14 (by decide +kernel) (by decide +kernel) (by rfl) (by decide +kernel) ?_
  refine hz_aload_n (pc := 58) C dX10_of_58 rfl ?_
  refine hz_getP (pc := 59) C (v := 12) ffX10_26 dX10_of_59 hT1 hA1 rfl (hP1_4 q) (by decide) ?_
  refine hz_getP (pc := 62) C (v := 16) ffX10_126 dX10_of_62 hT12 hA12 rfl (hP12_4 q) (by decide) ?_
  refine hz_iload_n (pc := 65) C dX10_of_65 rfl ?_
  refine hz_iald (pc := 66) C (v := nI (u (71 + k))) (j := k) dX10_of_66 hT16 hA16 rfl (by omega) (by decide) (hv_rm V (by omega)) ?_
  exact hz_iret C Z rfl dX10_of_67 rfl rfl
set_option maxHeartbeats 4000000 in
set_option maxRecDepth 100000 in
theorem ev_of1M {I : Nat → Nat → Int32} {L : Nat → Nat → Int64} {q : Nat → Nat → Nat} {u : Nat → Nat} (V : MV I u) (U : WU u) {k : Nat} (hk : k < u 64) : hz_Ev mX11_of TT NN (I, L, PP q) [.ref 146, .int (nI k), .int (nI 1)] 0 0 (some (.int (nI (u (71 + k))))) TT NN (I, L, PP q) := by
  have hal := wu_al U
  have hkd := wu_kd U hk
  have hrm := wu_rm U hk
  have hba := wu_ba U hk
  have hdn := wu_dn U
  refine hz_Ev.intro (ls := [some (.ref 146), some (.int (nI k)), some (.int (nI 1))]) (by decide +kernel) rfl (Nat.le_of_ble_eq_true rfl) (fun X C Z _ => ?_)
  refine hz_aload_n (pc := 0) C dX11_of_0 rfl ?_
  refine hz_iload_n (pc := 1) C dX11_of_1 rfl ?_
  refine hz_callVs (pc := 2) C (as := [.int (nI k)]) (st := []) (ev_isAlarmM V U (nI k)) (hz_new0 _ _) fyX11_isAlarm fvX11_160 rfl dX11_of_2 hT146 rfl rfl hA146 rfl rfl (Nat.le_of_ble_eq_true rfl) (by decide) (hz_cap0 _) ?_
  refine hz_ifb_ne (pc := 5) C (tgt := 13) dX11_of_5 rfl (fun _ => ?_) (fun cq => absurd (vk hk (wu_al U)) cq)
  refine hz_iload_n (pc := 13) C dX11_of_13 rfl ?_
  refine hz_swIn (pc := 14) C (tgt := 58) dX11_of_14 (by decide +kernel) (by decide +kernel) (by rfl) (by decide +kernel) ?_
  refine hz_aload_n (pc := 58) C dX11_of_58 rfl ?_
  refine hz_getP (pc := 59) C (v := 147) ffX11_7 dX11_of_59 hT146 hA146 rfl (hP146_0 q) (by decide) ?_
  refine hz_bipush (pc := 62) C (v := nI 71) dX11_of_62 (by decide +kernel) ?_
  refine hz_iload_n (pc := 64) C dX11_of_64 rfl ?_
  refine hz_iadd (pc := 65) C (v := nI (71 + k)) dX11_of_65 (nI_add _ _) ?_
  refine hz_iald (pc := 66) C (v := nI (u (71 + k))) (j := 71 + k) dX11_of_66 hT147 hA147 rfl (by omega) (by decide) (mg V (by omega) (by omega)) ?_
  exact hz_iret C Z rfl dX11_of_67 rfl rfl
set_option maxHeartbeats 4000000 in
set_option maxRecDepth 100000 in
theorem ev_of2 {I : Nat → Nat → Int32} {L : Nat → Nat → Int64} {q : Nat → Nat → Nat} {u : Nat → Nat} (V : HV 12 q I u) (U : WU u) {k : Nat} (hk : k < u 64) : hz_Ev mX10_of TT NN (I, L, PP q) [.ref 1, .int (nI k), .int (nI 2)] 0 0 (some (.int (nI (u (94 + k))))) TT NN (I, L, PP q) := by
  have hal := wu_al U
  have hkd := wu_kd U hk
  have hrm := wu_rm U hk
  have hba := wu_ba U hk
  have hdn := wu_dn U
  refine hz_Ev.intro (ls := [some (.ref 1), some (.int (nI k)), some (.int (nI 2))]) (by decide +kernel) rfl (Nat.le_of_ble_eq_true rfl) (fun X C Z _ => ?_)
  refine hz_aload_n (pc := 0) C dX10_of_0 rfl ?_
  refine hz_iload_n (pc := 1) C dX10_of_1 rfl ?_
  refine hz_callVs (pc := 2) C (as := [.int (nI k)]) (st := []) (ev_isAlarm V U (nI k)) (hz_new0 _ _) fyX10_isAlarm fvX10_123 rfl dX10_of_2 hT1 rfl rfl hA1 rfl rfl (Nat.le_of_ble_eq_true rfl) (by decide) (hz_cap0 _) ?_
  refine hz_ifb_ne (pc := 5) C (tgt := 13) dX10_of_5 rfl (fun _ => ?_) (fun cq => absurd (vk hk (wu_al U)) cq)
  refine hz_iload_n (pc := 13) C dX10_of_13 rfl ?_
  refine hz_swIn (pc := 14) C (tgt := 68) dX10_of_14 (by decide +kernel) (by decide +kernel) (by rfl) (by decide +kernel) ?_
  refine hz_aload_n (pc := 68) C dX10_of_68 rfl ?_
  refine hz_getP (pc := 69) C (v := 12) ffX10_26 dX10_of_69 hT1 hA1 rfl (hP1_4 q) (by decide) ?_
  refine hz_getP (pc := 72) C (v := 19) ffX10_102 dX10_of_72 hT12 hA12 rfl (hP12_7 q) (by decide) ?_
  refine hz_getP (pc := 75) C (v := 20) ffX10_134 dX10_of_75 hT19 hA19 rfl (hP19_0 q) (by decide) ?_
  refine hz_iload_n (pc := 78) C dX10_of_78 rfl ?_
  refine hz_iald (pc := 79) C (v := nI (u (94 + k))) (j := k) dX10_of_79 hT20 hA20 rfl (by omega) (by decide) (hv_ba V (by omega)) ?_
  exact hz_iret C Z rfl dX10_of_80 rfl rfl
set_option maxHeartbeats 4000000 in
set_option maxRecDepth 100000 in
theorem ev_of2M {I : Nat → Nat → Int32} {L : Nat → Nat → Int64} {q : Nat → Nat → Nat} {u : Nat → Nat} (V : MV I u) (U : WU u) {k : Nat} (hk : k < u 64) : hz_Ev mX11_of TT NN (I, L, PP q) [.ref 146, .int (nI k), .int (nI 2)] 0 0 (some (.int (nI (u (94 + k))))) TT NN (I, L, PP q) := by
  have hal := wu_al U
  have hkd := wu_kd U hk
  have hrm := wu_rm U hk
  have hba := wu_ba U hk
  have hdn := wu_dn U
  refine hz_Ev.intro (ls := [some (.ref 146), some (.int (nI k)), some (.int (nI 2))]) (by decide +kernel) rfl (Nat.le_of_ble_eq_true rfl) (fun X C Z _ => ?_)
  refine hz_aload_n (pc := 0) C dX11_of_0 rfl ?_
  refine hz_iload_n (pc := 1) C dX11_of_1 rfl ?_
  refine hz_callVs (pc := 2) C (as := [.int (nI k)]) (st := []) (ev_isAlarmM V U (nI k)) (hz_new0 _ _) fyX11_isAlarm fvX11_160 rfl dX11_of_2 hT146 rfl rfl hA146 rfl rfl (Nat.le_of_ble_eq_true rfl) (by decide) (hz_cap0 _) ?_
  refine hz_ifb_ne (pc := 5) C (tgt := 13) dX11_of_5 rfl (fun _ => ?_) (fun cq => absurd (vk hk (wu_al U)) cq)
  refine hz_iload_n (pc := 13) C dX11_of_13 rfl ?_
  refine hz_swIn (pc := 14) C (tgt := 68) dX11_of_14 (by decide +kernel) (by decide +kernel) (by rfl) (by decide +kernel) ?_
  refine hz_aload_n (pc := 68) C dX11_of_68 rfl ?_
  refine hz_getP (pc := 69) C (v := 147) ffX11_7 dX11_of_69 hT146 hA146 rfl (hP146_0 q) (by decide) ?_
  refine hz_bipush (pc := 72) C (v := nI 94) dX11_of_72 (by decide +kernel) ?_
  refine hz_iload_n (pc := 74) C dX11_of_74 rfl ?_
  refine hz_iadd (pc := 75) C (v := nI (94 + k)) dX11_of_75 (nI_add _ _) ?_
  refine hz_iald (pc := 76) C (v := nI (u (94 + k))) (j := 94 + k) dX11_of_76 hT147 hA147 rfl (by omega) (by decide) (mg V (by omega) (by omega)) ?_
  exact hz_iret C Z rfl dX11_of_77 rfl rfl
set_option maxHeartbeats 4000000 in
set_option maxRecDepth 100000 in
theorem ev_of3 {I : Nat → Nat → Int32} {L : Nat → Nat → Int64} {q : Nat → Nat → Nat} {u : Nat → Nat} (V : HV 12 q I u) (U : WU u) {k : Nat} (hk : k < u 64) : hz_Ev mX10_of TT NN (I, L, PP q) [.ref 1, .int (nI k), .int (nI 3)] 0 0 (some (.int (hz_b (bt (u 93) k = true)))) TT NN (I, L, PP q) := by
  have hal := wu_al U
  have hkd := wu_kd U hk
  have hrm := wu_rm U hk
  have hba := wu_ba U hk
  have hdn := wu_dn U
  refine hz_Ev.intro (ls := [some (.ref 1), some (.int (nI k)), some (.int (nI 3))]) (by decide +kernel) rfl (Nat.le_of_ble_eq_true rfl) (fun X C Z _ => ?_)
  refine hz_aload_n (pc := 0) C dX10_of_0 rfl ?_
  refine hz_iload_n (pc := 1) C dX10_of_1 rfl ?_
  refine hz_callVs (pc := 2) C (as := [.int (nI k)]) (st := []) (ev_isAlarm V U (nI k)) (hz_new0 _ _) fyX10_isAlarm fvX10_123 rfl dX10_of_2 hT1 rfl rfl hA1 rfl rfl (Nat.le_of_ble_eq_true rfl) (by decide) (hz_cap0 _) ?_
  refine hz_ifb_ne (pc := 5) C (tgt := 13) dX10_of_5 rfl (fun _ => ?_) (fun cq => absurd (vk hk (wu_al U)) cq)
  refine hz_iload_n (pc := 13) C dX10_of_13 rfl ?_
  refine hz_swIn (pc := 14) C (tgt := 81) dX10_of_14 (by decide +kernel) (by decide +kernel) (by rfl) (by decide +kernel) ?_
  refine hz_aload_n (pc := 81) C dX10_of_81 rfl ?_
  refine hz_getP (pc := 82) C (v := 12) ffX10_26 dX10_of_82 hT1 hA1 rfl (hP1_4 q) (by decide) ?_
  refine hz_getP (pc := 85) C (v := 19) ffX10_102 dX10_of_85 hT12 hA12 rfl (hP12_7 q) (by decide) ?_
  refine hz_getI (pc := 88) C (v := nI (u 93)) ffX10_149 dX10_of_88 hT19 hA19 rfl (hv_dn V) ?_
  refine hz_iload_n (pc := 91) C dX10_of_91 rfl ?_
  refine hz_ishr (pc := 92) C dX10_of_92 rfl ?_
  refine hz_iconst (pc := 93) C (v := nI 1) dX10_of_93 (by decide +kernel) ?_
  refine hz_iand (pc := 94) C dX10_of_94 rfl ?_
  exact hz_iret C Z rfl dX10_of_95 (bt_int hdn (by omega)) rfl
set_option maxHeartbeats 4000000 in
set_option maxRecDepth 100000 in
theorem ev_of3M {I : Nat → Nat → Int32} {L : Nat → Nat → Int64} {q : Nat → Nat → Nat} {u : Nat → Nat} (V : MV I u) (U : WU u) {k : Nat} (hk : k < u 64) : hz_Ev mX11_of TT NN (I, L, PP q) [.ref 146, .int (nI k), .int (nI 3)] 0 0 (some (.int (hz_b (bt (u 93) k = true)))) TT NN (I, L, PP q) := by
  have hal := wu_al U
  have hkd := wu_kd U hk
  have hrm := wu_rm U hk
  have hba := wu_ba U hk
  have hdn := wu_dn U
  refine hz_Ev.intro (ls := [some (.ref 146), some (.int (nI k)), some (.int (nI 3))]) (by decide +kernel) rfl (Nat.le_of_ble_eq_true rfl) (fun X C Z _ => ?_)
  refine hz_aload_n (pc := 0) C dX11_of_0 rfl ?_
  refine hz_iload_n (pc := 1) C dX11_of_1 rfl ?_
  refine hz_callVs (pc := 2) C (as := [.int (nI k)]) (st := []) (ev_isAlarmM V U (nI k)) (hz_new0 _ _) fyX11_isAlarm fvX11_160 rfl dX11_of_2 hT146 rfl rfl hA146 rfl rfl (Nat.le_of_ble_eq_true rfl) (by decide) (hz_cap0 _) ?_
  refine hz_ifb_ne (pc := 5) C (tgt := 13) dX11_of_5 rfl (fun _ => ?_) (fun cq => absurd (vk hk (wu_al U)) cq)
  refine hz_iload_n (pc := 13) C dX11_of_13 rfl ?_
  refine hz_swIn (pc := 14) C (tgt := 78) dX11_of_14 (by decide +kernel) (by decide +kernel) (by rfl) (by decide +kernel) ?_
  refine hz_aload_n (pc := 78) C dX11_of_78 rfl ?_
  refine hz_getP (pc := 79) C (v := 147) ffX11_7 dX11_of_79 hT146 hA146 rfl (hP146_0 q) (by decide) ?_
  refine hz_bipush (pc := 82) C (v := nI 93) dX11_of_82 (by decide +kernel) ?_
  refine hz_iald (pc := 84) C (v := nI (u 93)) (j := 93) dX11_of_84 hT147 hA147 rfl (by decide) (by decide) (mg V (by omega) (by omega)) ?_
  refine hz_iload_n (pc := 85) C dX11_of_85 rfl ?_
  refine hz_ishr (pc := 86) C dX11_of_86 rfl ?_
  refine hz_iconst (pc := 87) C (v := nI 1) dX11_of_87 (by decide +kernel) ?_
  refine hz_iand (pc := 88) C dX11_of_88 rfl ?_
  exact hz_iret C Z rfl dX11_of_89 (bt_int hdn (by omega)) rfl
set_option maxHeartbeats 4000000 in
set_option maxRecDepth 100000 in
theorem ev_of4 {I : Nat → Nat → Int32} {L : Nat → Nat → Int64} {q : Nat → Nat → Nat} {u : Nat → Nat} (V : HV 12 q I u) (U : WU u) {k : Nat} (hk : k < u 64) : hz_Ev mX10_of TT NN (I, L, PP q) [.ref 1, .int (nI k), .int (nI 4)] 0 0 (some (.int (nI (lo_of (u (65 + k)))))) TT NN (I, L, PP q) := by
  have hal := wu_al U
  have hkd := wu_kd U hk
  have hrm := wu_rm U hk
  have hba := wu_ba U hk
  have hdn := wu_dn U
  refine hz_Ev.intro (ls := [some (.ref 1), some (.int (nI k)), some (.int (nI 4))]) (by decide +kernel) rfl (Nat.le_of_ble_eq_true rfl) (fun X C Z _ => ?_)
  refine hz_aload_n (pc := 0) C dX10_of_0 rfl ?_
  refine hz_iload_n (pc := 1) C dX10_of_1 rfl ?_
  refine hz_callVs (pc := 2) C (as := [.int (nI k)]) (st := []) (ev_isAlarm V U (nI k)) (hz_new0 _ _) fyX10_isAlarm fvX10_123 rfl dX10_of_2 hT1 rfl rfl hA1 rfl rfl (Nat.le_of_ble_eq_true rfl) (by decide) (hz_cap0 _) ?_
  refine hz_ifb_ne (pc := 5) C (tgt := 13) dX10_of_5 rfl (fun _ => ?_) (fun cq => absurd (vk hk (wu_al U)) cq)
  refine hz_iload_n (pc := 13) C dX10_of_13 rfl ?_
  refine hz_swIn (pc := 14) C (tgt := 96) dX10_of_14 (by decide +kernel) (by decide +kernel) (by rfl) (by decide +kernel) ?_
  refine hz_aload_n (pc := 96) C dX10_of_96 rfl ?_
  refine hz_getP (pc := 97) C (v := 12) ffX10_26 dX10_of_97 hT1 hA1 rfl (hP1_4 q) (by decide) ?_
  refine hz_iload_n (pc := 100) C dX10_of_100 rfl ?_
  refine hz_callVs (pc := 101) C (as := [.int (nI k)]) (st := []) (ev_kindOf V U (k := k) (by omega)) (hz_new0 _ _) fyX2_kindOf fvX10_152 rfl dX10_of_101 hT12 rfl rfl hA12 rfl rfl (Nat.le_of_ble_eq_true rfl) (by decide) (hz_cap0 _) ?_
  refine kc_lo (pc := 104) (k := u (65 + k)) (st := []) C fvX10_156_X6 fvX10_156_X4 fvX10_156_X9 fvX10_156_X0 fvX10_156_X5 fvX10_156_X1 (by omega) dX10_of_104 rfl (Nat.le_of_ble_eq_true rfl) (by decide) ?_
  exact hz_iret C Z rfl dX10_of_107 rfl rfl
set_option maxHeartbeats 4000000 in
set_option maxRecDepth 100000 in
theorem ev_of4M {I : Nat → Nat → Int32} {L : Nat → Nat → Int64} {q : Nat → Nat → Nat} {u : Nat → Nat} (V : MV I u) (U : WU u) {k : Nat} (hk : k < u 64) : hz_Ev mX11_of TT NN (I, L, PP q) [.ref 146, .int (nI k), .int (nI 4)] 0 0 (some (.int (nI (lo_of (u (65 + k)))))) TT NN (I, L, PP q) := by
  have hal := wu_al U
  have hkd := wu_kd U hk
  have hrm := wu_rm U hk
  have hba := wu_ba U hk
  have hdn := wu_dn U
  refine hz_Ev.intro (ls := [some (.ref 146), some (.int (nI k)), some (.int (nI 4))]) (by decide +kernel) rfl (Nat.le_of_ble_eq_true rfl) (fun X C Z _ => ?_)
  refine hz_aload_n (pc := 0) C dX11_of_0 rfl ?_
  refine hz_iload_n (pc := 1) C dX11_of_1 rfl ?_
  refine hz_callVs (pc := 2) C (as := [.int (nI k)]) (st := []) (ev_isAlarmM V U (nI k)) (hz_new0 _ _) fyX11_isAlarm fvX11_160 rfl dX11_of_2 hT146 rfl rfl hA146 rfl rfl (Nat.le_of_ble_eq_true rfl) (by decide) (hz_cap0 _) ?_
  refine hz_ifb_ne (pc := 5) C (tgt := 13) dX11_of_5 rfl (fun _ => ?_) (fun cq => absurd (vk hk (wu_al U)) cq)
  refine hz_iload_n (pc := 13) C dX11_of_13 rfl ?_
  refine hz_swIn (pc := 14) C (tgt := 90) dX11_of_14 (by decide +kernel) (by decide +kernel) (by rfl) (by decide +kernel) ?_
  refine hz_aload_n (pc := 90) C dX11_of_90 rfl ?_
  refine hz_getP (pc := 91) C (v := 147) ffX11_7 dX11_of_91 hT146 hA146 rfl (hP146_0 q) (by decide) ?_
  refine hz_bipush (pc := 94) C (v := nI 65) dX11_of_94 (by decide +kernel) ?_
  refine hz_iload_n (pc := 96) C dX11_of_96 rfl ?_
  refine hz_iadd (pc := 97) C (v := nI (65 + k)) dX11_of_97 (nI_add _ _) ?_
  refine hz_iald (pc := 98) C (v := nI (u (65 + k))) (j := 65 + k) dX11_of_98 hT147 hA147 rfl (by omega) (by decide) (mg V (by omega) (by omega)) ?_
  refine hz_callSs (pc := 99) C (as := [.int (nI (u (65 + k)))]) (st := []) (ev_loudM _ (k := u (65 + k)) (by omega)) (hz_new0 _ _) fyX11_loudOf fsX11_163 rfl dX11_of_99 rfl rfl (Nat.le_of_ble_eq_true rfl) (by decide) (hz_cap0 _) ?_
  exact hz_iret C Z rfl dX11_of_102 rfl rfl
set_option maxHeartbeats 4000000 in
set_option maxRecDepth 100000 in
theorem ev_ofY {I : Nat → Nat → Int32} {L : Nat → Nat → Int64} {q : Nat → Nat → Nat} {u : Nat → Nat} (V : HV 12 q I u) (U : WU u) {k : Nat} (hk : k < u 64) (v : Int32) (hv : ¬ (¬ v < nI 0 ∧ ¬ nI 4 < v)) : hz_Ev mX10_of TT NN (I, L, PP q) [.ref 1, .int (nI k), .int v] 0 0 (some (.int (-2 : Int32))) TT NN (hz_up I 1 8 ((I 1 8) + (nI 1)), L, PP q) := by
  refine hz_Ev.intro (ls := [some (.ref 1), some (.int (nI k)), some (.int v)]) (by decide +kernel) rfl (Nat.le_of_ble_eq_true rfl) (fun X C Z _ => ?_)
  refine hz_aload_n (pc := 0) C dX10_of_0 rfl ?_
  refine hz_iload_n (pc := 1) C dX10_of_1 rfl ?_
  refine hz_callVs (pc := 2) C (as := [.int (nI k)]) (st := []) (ev_isAlarm V U (nI k)) (hz_new0 _ _) fyX10_isAlarm fvX10_123 rfl dX10_of_2 hT1 rfl rfl hA1 rfl rfl (Nat.le_of_ble_eq_true rfl) (by decide) (hz_cap0 _) ?_
  refine hz_ifb_ne (pc := 5) C (tgt := 13) dX10_of_5 rfl (fun _ => ?_) (fun cq => absurd (vk hk (wu_al U)) cq)
  refine hz_iload_n (pc := 13) C dX10_of_13 rfl ?_
  refine hz_swOut (pc := 14) C (tgt := 108) dX10_of_14 (vout (by decide) hv) (by decide +kernel) ?_
  refine hz_aload_n (pc := 108) C dX10_of_108 rfl ?_
  refine hz_callVs (pc := 109) C (as := []) (st := []) ev_refBad (hz_new0 _ _) fyX10_refuseBad fvX10_74 rfl dX10_of_109 hT1 rfl rfl hA1 rfl rfl (Nat.le_of_ble_eq_true rfl) (by decide) (hz_cap0 _) ?_
  exact hz_iret C Z rfl dX10_of_112 rfl rfl
set_option maxHeartbeats 4000000 in
set_option maxRecDepth 100000 in
theorem ev_ofYM {I : Nat → Nat → Int32} {L : Nat → Nat → Int64} {q : Nat → Nat → Nat} {u : Nat → Nat} (V : MV I u) (U : WU u) {k : Nat} (hk : k < u 64) (v : Int32) (hv : ¬ (¬ v < nI 0 ∧ ¬ nI 4 < v)) : hz_Ev mX11_of TT NN (I, L, PP q) [.ref 146, .int (nI k), .int v] 0 0 (some (.int (-2 : Int32))) TT NN (hz_up I 151 0 ((I 151 0) + (nI 1)), L, PP q) := by
  refine hz_Ev.intro (ls := [some (.ref 146), some (.int (nI k)), some (.int v)]) (by decide +kernel) rfl (Nat.le_of_ble_eq_true rfl) (fun X C Z _ => ?_)
  refine hz_aload_n (pc := 0) C dX11_of_0 rfl ?_
  refine hz_iload_n (pc := 1) C dX11_of_1 rfl ?_
  refine hz_callVs (pc := 2) C (as := [.int (nI k)]) (st := []) (ev_isAlarmM V U (nI k)) (hz_new0 _ _) fyX11_isAlarm fvX11_160 rfl dX11_of_2 hT146 rfl rfl hA146 rfl rfl (Nat.le_of_ble_eq_true rfl) (by decide) (hz_cap0 _) ?_
  refine hz_ifb_ne (pc := 5) C (tgt := 13) dX11_of_5 rfl (fun _ => ?_) (fun cq => absurd (vk hk (wu_al U)) cq)
  refine hz_iload_n (pc := 13) C dX11_of_13 rfl ?_
  refine hz_swOut (pc := 14) C (tgt := 103) dX11_of_14 (vout (by decide) hv) (by decide +kernel) ?_
  refine hz_aload_n (pc := 103) C dX11_of_103 rfl ?_
  refine hz_callVs (pc := 104) C (as := []) (st := []) ev_bad (hz_new0 _ _) fyX11_bad fvX11_60 rfl dX11_of_104 hT146 rfl rfl hA146 rfl rfl (Nat.le_of_ble_eq_true rfl) (by decide) (hz_cap0 _) ?_
  exact hz_iret C Z rfl dX11_of_107 rfl rfl
set_option maxHeartbeats 4000000 in
set_option maxRecDepth 100000 in
theorem ev_ofX {I : Nat → Nat → Int32} {L : Nat → Nat → Int64} {q : Nat → Nat → Nat} {u : Nat → Nat} (V : HV 12 q I u) (U : WU u) (v1 v2 : Int32) (hb : ¬ ((¬ v1 < nI 0 ∧ ¬ nI (u 64) - nI 1 < v1))) : hz_Ev mX10_of TT NN (I, L, PP q) [.ref 1, .int v1, .int v2] 0 0 (some (.int (-2 : Int32))) TT NN (hz_up I 1 8 ((I 1 8) + (nI 1)), L, PP q) := by
  refine hz_Ev.intro (ls := [some (.ref 1), some (.int v1), some (.int v2)]) (by decide +kernel) rfl (Nat.le_of_ble_eq_true rfl) (fun X C Z _ => ?_)
  refine hz_aload_n (pc := 0) C dX10_of_0 rfl ?_
  refine hz_iload_n (pc := 1) C dX10_of_1 rfl ?_
  refine hz_callVs (pc := 2) C (as := [.int v1]) (st := []) (ev_isAlarm V U v1) (hz_new0 _ _) fyX10_isAlarm fvX10_123 rfl dX10_of_2 hT1 rfl rfl hA1 rfl rfl (Nat.le_of_ble_eq_true rfl) (by decide) (hz_cap0 _) ?_
  refine hz_ifb_ne (pc := 5) C (tgt := 13) dX10_of_5 rfl (fun c1 => ?_) (fun c1 => ?_)
  · exact absurd c1 hb
  · refine hz_aload_n (pc := 8) C dX10_of_8 rfl ?_
    refine hz_callVs (pc := 9) C (as := []) (st := []) ev_refBad (hz_new0 _ _) fyX10_refuseBad fvX10_74 rfl dX10_of_9 hT1 rfl rfl hA1 rfl rfl (Nat.le_of_ble_eq_true rfl) (by decide) (hz_cap0 _) ?_
    exact hz_iret C Z rfl dX10_of_12 rfl rfl
set_option maxHeartbeats 4000000 in
set_option maxRecDepth 100000 in
theorem ev_ofXM {I : Nat → Nat → Int32} {L : Nat → Nat → Int64} {q : Nat → Nat → Nat} {u : Nat → Nat} (V : MV I u) (U : WU u) (v1 v2 : Int32) (hb : ¬ ((¬ v1 < nI 0 ∧ ¬ nI (u 64) - nI 1 < v1))) : hz_Ev mX11_of TT NN (I, L, PP q) [.ref 146, .int v1, .int v2] 0 0 (some (.int (-2 : Int32))) TT NN (hz_up I 151 0 ((I 151 0) + (nI 1)), L, PP q) := by
  refine hz_Ev.intro (ls := [some (.ref 146), some (.int v1), some (.int v2)]) (by decide +kernel) rfl (Nat.le_of_ble_eq_true rfl) (fun X C Z _ => ?_)
  refine hz_aload_n (pc := 0) C dX11_of_0 rfl ?_
  refine hz_iload_n (pc := 1) C dX11_of_1 rfl ?_
  refine hz_callVs (pc := 2) C (as := [.int v1]) (st := []) (ev_isAlarmM V U v1) (hz_new0 _ _) fyX11_isAlarm fvX11_160 rfl dX11_of_2 hT146 rfl rfl hA146 rfl rfl (Nat.le_of_ble_eq_true rfl) (by decide) (hz_cap0 _) ?_
  refine hz_ifb_ne (pc := 5) C (tgt := 13) dX11_of_5 rfl (fun c1 => ?_) (fun c1 => ?_)
  · exact absurd c1 hb
  · refine hz_aload_n (pc := 8) C dX11_of_8 rfl ?_
    refine hz_callVs (pc := 9) C (as := []) (st := []) ev_bad (hz_new0 _ _) fyX11_bad fvX11_60 rfl dX11_of_9 hT146 rfl rfl hA146 rfl rfl (Nat.le_of_ble_eq_true rfl) (by decide) (hz_cap0 _) ?_
    exact hz_iret C Z rfl dX11_of_12 rfl rfl
set_option maxHeartbeats 4000000 in
set_option maxRecDepth 100000 in
theorem ev_isX {I : Nat → Nat → Int32} {L : Nat → Nat → Int64} {q : Nat → Nat → Nat} {u : Nat → Nat} (V : HV 12 q I u) (U : WU u) (v1 v2 v3 : Int32) (hb : ¬ ((¬ v1 < nI 0 ∧ ¬ nI (u 64) - nI 1 < v1) ∧ (¬ v2 < nI 0 ∧ ¬ nI 9999 < v2) ∧ (¬ v3 < nI 0 ∧ ¬ nI 1 < v3))) : hz_Ev mX10_is TT NN (I, L, PP q) [.ref 1, .int v1, .int v2, .int v3] 0 0 (some (.int (-2 : Int32))) TT NN (hz_up I 1 8 ((I 1 8) + (nI 1)), L, PP q) := by
  refine hz_Ev.intro (ls := [some (.ref 1), some (.int v1), some (.int v2), some (.int v3), none, none]) (by decide +kernel) rfl (Nat.le_of_ble_eq_true rfl) (fun X C Z _ => ?_)
  refine hz_aload_n (pc := 0) C dX10_is_0 rfl ?_
  refine hz_iload_n (pc := 1) C dX10_is_1 rfl ?_
  refine hz_callVs (pc := 2) C (as := [.int v1]) (st := []) (ev_isAlarm V U v1) (hz_new0 _ _) fyX10_isAlarm fvX10_123 rfl dX10_is_2 hT1 rfl rfl hA1 rfl rfl (Nat.le_of_ble_eq_true rfl) (by decide) (hz_cap0 _) ?_
  refine hz_ifb_eq (pc := 5) C (tgt := 24) dX10_is_5 rfl (fun c1 => ?_) (fun c1 => ?_)
  · refine hz_aload_n (pc := 24) C dX10_is_24 rfl ?_
    refine hz_callVs (pc := 25) C (as := []) (st := []) ev_refBad (hz_new0 _ _) fyX10_refuseBad fvX10_74 rfl dX10_is_25 hT1 rfl rfl hA1 rfl rfl (Nat.le_of_ble_eq_true rfl) (by decide) (hz_cap0 _) ?_
    exact hz_iret C Z rfl dX10_is_28 rfl rfl
  · refine hz_iload_n (pc := 8) C dX10_is_8 rfl ?_
    refine hz_callSs (pc := 9) C (as := [.int v2]) (st := []) (ev_isSecond _ v2) (hz_new0 _ _) fyX10_isSecond fsX10_161 rfl dX10_is_9 rfl rfl (Nat.le_of_ble_eq_true rfl) (by decide) (hz_cap0 _) ?_
    refine hz_ifb_eq (pc := 12) C (tgt := 24) dX10_is_12 rfl (fun c2 => ?_) (fun c2 => ?_)
    · refine hz_aload_n (pc := 24) C dX10_is_24 rfl ?_
      refine hz_callVs (pc := 25) C (as := []) (st := []) ev_refBad (hz_new0 _ _) fyX10_refuseBad fvX10_74 rfl dX10_is_25 hT1 rfl rfl hA1 rfl rfl (Nat.le_of_ble_eq_true rfl) (by decide) (hz_cap0 _) ?_
      exact hz_iret C Z rfl dX10_is_28 rfl rfl
    · refine hz_iload_n (pc := 15) C dX10_is_15 rfl ?_
      refine hz_iconst (pc := 16) C (v := nI 0) dX10_is_16 (by decide +kernel) ?_
      refine hz_iconst (pc := 17) C (v := nI 1) dX10_is_17 (by decide +kernel) ?_
      refine hz_callSs (pc := 18) C (as := [.int v3, .int (nI 0), .int (nI 1)]) (st := []) (ev_within _ v3 (nI 0) (nI 1)) (hz_new0 _ _) fyX10_within fsX10_59 rfl dX10_is_18 rfl rfl (Nat.le_of_ble_eq_true rfl) (by decide) (hz_cap0 _) ?_
      refine hz_ifb_ne (pc := 21) C (tgt := 29) dX10_is_21 rfl (fun c3 => ?_) (fun c3 => ?_)
      · exact absurd ⟨c1, c2, c3⟩ hb
      · refine hz_aload_n (pc := 24) C dX10_is_24 rfl ?_
        refine hz_callVs (pc := 25) C (as := []) (st := []) ev_refBad (hz_new0 _ _) fyX10_refuseBad fvX10_74 rfl dX10_is_25 hT1 rfl rfl hA1 rfl rfl (Nat.le_of_ble_eq_true rfl) (by decide) (hz_cap0 _) ?_
        exact hz_iret C Z rfl dX10_is_28 rfl rfl
set_option maxHeartbeats 4000000 in
set_option maxRecDepth 100000 in
theorem ev_isXM {I : Nat → Nat → Int32} {L : Nat → Nat → Int64} {q : Nat → Nat → Nat} {u : Nat → Nat} (V : MV I u) (U : WU u) (v1 v2 v3 : Int32) (hb : ¬ ((¬ v1 < nI 0 ∧ ¬ nI (u 64) - nI 1 < v1) ∧ (¬ v2 < nI 0 ∧ ¬ nI 9999 < v2) ∧ (¬ v3 < nI 0 ∧ ¬ nI 1 < v3))) : hz_Ev mX11_is TT NN (I, L, PP q) [.ref 146, .int v1, .int v2, .int v3] 0 0 (some (.int (-2 : Int32))) TT NN (hz_up I 151 0 ((I 151 0) + (nI 1)), L, PP q) := by
  refine hz_Ev.intro (ls := [some (.ref 146), some (.int v1), some (.int v2), some (.int v3), none, none]) (by decide +kernel) rfl (Nat.le_of_ble_eq_true rfl) (fun X C Z _ => ?_)
  refine hz_aload_n (pc := 0) C dX11_is_0 rfl ?_
  refine hz_iload_n (pc := 1) C dX11_is_1 rfl ?_
  refine hz_callVs (pc := 2) C (as := [.int v1]) (st := []) (ev_isAlarmM V U v1) (hz_new0 _ _) fyX11_isAlarm fvX11_160 rfl dX11_is_2 hT146 rfl rfl hA146 rfl rfl (Nat.le_of_ble_eq_true rfl) (by decide) (hz_cap0 _) ?_
  refine hz_ifb_eq (pc := 5) C (tgt := 28) dX11_is_5 rfl (fun c1 => ?_) (fun c1 => ?_)
  · refine hz_aload_n (pc := 28) C dX11_is_28 rfl ?_
    refine hz_callVs (pc := 29) C (as := []) (st := []) ev_bad (hz_new0 _ _) fyX11_bad fvX11_60 rfl dX11_is_29 hT146 rfl rfl hA146 rfl rfl (Nat.le_of_ble_eq_true rfl) (by decide) (hz_cap0 _) ?_
    exact hz_iret C Z rfl dX11_is_32 rfl rfl
  · refine hz_iload_n (pc := 8) C dX11_is_8 rfl ?_
    refine hz_iconst (pc := 9) C (v := nI 0) dX11_is_9 (by decide +kernel) ?_
    refine hz_sipush (pc := 10) C (v := nI 9999) dX11_is_10 (by decide +kernel) ?_
    refine hz_callSs (pc := 13) C (as := [.int v2, .int (nI 0), .int (nI 9999)]) (st := []) (ev_in _ v2 (nI 0) (nI 9999)) (hz_new0 _ _) fyX11_in fsX11_52 rfl dX11_is_13 rfl rfl (Nat.le_of_ble_eq_true rfl) (by decide) (hz_cap0 _) ?_
    refine hz_ifb_eq (pc := 16) C (tgt := 28) dX11_is_16 rfl (fun c2 => ?_) (fun c2 => ?_)
    · refine hz_aload_n (pc := 28) C dX11_is_28 rfl ?_
      refine hz_callVs (pc := 29) C (as := []) (st := []) ev_bad (hz_new0 _ _) fyX11_bad fvX11_60 rfl dX11_is_29 hT146 rfl rfl hA146 rfl rfl (Nat.le_of_ble_eq_true rfl) (by decide) (hz_cap0 _) ?_
      exact hz_iret C Z rfl dX11_is_32 rfl rfl
    · refine hz_iload_n (pc := 19) C dX11_is_19 rfl ?_
      refine hz_iconst (pc := 20) C (v := nI 0) dX11_is_20 (by decide +kernel) ?_
      refine hz_iconst (pc := 21) C (v := nI 1) dX11_is_21 (by decide +kernel) ?_
      refine hz_callSs (pc := 22) C (as := [.int v3, .int (nI 0), .int (nI 1)]) (st := []) (ev_in _ v3 (nI 0) (nI 1)) (hz_new0 _ _) fyX11_in fsX11_52 rfl dX11_is_22 rfl rfl (Nat.le_of_ble_eq_true rfl) (by decide) (hz_cap0 _) ?_
      refine hz_ifb_ne (pc := 25) C (tgt := 33) dX11_is_25 rfl (fun c3 => ?_) (fun c3 => ?_)
      · exact absurd ⟨c1, c2, c3⟩ hb
      · refine hz_aload_n (pc := 28) C dX11_is_28 rfl ?_
        refine hz_callVs (pc := 29) C (as := []) (st := []) ev_bad (hz_new0 _ _) fyX11_bad fvX11_60 rfl dX11_is_29 hT146 rfl rfl hA146 rfl rfl (Nat.le_of_ble_eq_true rfl) (by decide) (hz_cap0 _) ?_
        exact hz_iret C Z rfl dX11_is_32 rfl rfl
set_option maxHeartbeats 4000000 in
set_option maxRecDepth 100000 in
theorem ev_missedX {I : Nat → Nat → Int32} {L : Nat → Nat → Int64} {q : Nat → Nat → Nat} {u : Nat → Nat} (V : HV 12 q I u) (U : WU u) (v1 v2 v3 : Int32) (hb : ¬ ((¬ v1 < nI 0 ∧ ¬ nI 7 < v1) ∧ (¬ v2 < nI 0 ∧ ¬ nI 9999 < v2) ∧ (¬ v3 < nI 0 ∧ ¬ nI 10 < v3))) : hz_Ev mX10_missed TT NN (I, L, PP q) [.ref 1, .int v1, .int v2, .int v3] 0 0 (some (.int (-2 : Int32))) TT NN (hz_up I 1 8 ((I 1 8) + (nI 1)), L, PP q) := by
  refine hz_Ev.intro (ls := [some (.ref 1), some (.int v1), some (.int v2), some (.int v3)]) (by decide +kernel) rfl (Nat.le_of_ble_eq_true rfl) (fun X C Z _ => ?_)
  refine hz_iload_n (pc := 0) C dX10_missed_0 rfl ?_
  refine hz_callSs (pc := 1) C (as := [.int v1]) (st := []) (ev_isRoom _ v1) (hz_new0 _ _) fyX10_isRoom fsX10_55 rfl dX10_missed_1 rfl rfl (Nat.le_of_ble_eq_true rfl) (by decide) (hz_cap0 _) ?_
  refine hz_ifb_eq (pc := 4) C (tgt := 24) dX10_missed_4 rfl (fun c1 => ?_) (fun c1 => ?_)
  · refine hz_aload_n (pc := 24) C dX10_missed_24 rfl ?_
    refine hz_callVs (pc := 25) C (as := []) (st := []) ev_refBad (hz_new0 _ _) fyX10_refuseBad fvX10_74 rfl dX10_missed_25 hT1 rfl rfl hA1 rfl rfl (Nat.le_of_ble_eq_true rfl) (by decide) (hz_cap0 _) ?_
    exact hz_iret C Z rfl dX10_missed_28 rfl rfl
  · refine hz_iload_n (pc := 7) C dX10_missed_7 rfl ?_
    refine hz_callSs (pc := 8) C (as := [.int v2]) (st := []) (ev_isSecond _ v2) (hz_new0 _ _) fyX10_isSecond fsX10_161 rfl dX10_missed_8 rfl rfl (Nat.le_of_ble_eq_true rfl) (by decide) (hz_cap0 _) ?_
    refine hz_ifb_eq (pc := 11) C (tgt := 24) dX10_missed_11 rfl (fun c2 => ?_) (fun c2 => ?_)
    · refine hz_aload_n (pc := 24) C dX10_missed_24 rfl ?_
      refine hz_callVs (pc := 25) C (as := []) (st := []) ev_refBad (hz_new0 _ _) fyX10_refuseBad fvX10_74 rfl dX10_missed_25 hT1 rfl rfl hA1 rfl rfl (Nat.le_of_ble_eq_true rfl) (by decide) (hz_cap0 _) ?_
      exact hz_iret C Z rfl dX10_missed_28 rfl rfl
    · refine hz_iload_n (pc := 14) C dX10_missed_14 rfl ?_
      refine hz_iconst (pc := 15) C (v := nI 0) dX10_missed_15 (by decide +kernel) ?_
      refine hz_bipush (pc := 16) C (v := nI 10) dX10_missed_16 (by decide +kernel) ?_
      refine hz_callSs (pc := 18) C (as := [.int v3, .int (nI 0), .int (nI 10)]) (st := []) (ev_within _ v3 (nI 0) (nI 10)) (hz_new0 _ _) fyX10_within fsX10_59 rfl dX10_missed_18 rfl rfl (Nat.le_of_ble_eq_true rfl) (by decide) (hz_cap0 _) ?_
      refine hz_ifb_ne (pc := 21) C (tgt := 29) dX10_missed_21 rfl (fun c3 => ?_) (fun c3 => ?_)
      · exact absurd ⟨c1, c2, c3⟩ hb
      · refine hz_aload_n (pc := 24) C dX10_missed_24 rfl ?_
        refine hz_callVs (pc := 25) C (as := []) (st := []) ev_refBad (hz_new0 _ _) fyX10_refuseBad fvX10_74 rfl dX10_missed_25 hT1 rfl rfl hA1 rfl rfl (Nat.le_of_ble_eq_true rfl) (by decide) (hz_cap0 _) ?_
        exact hz_iret C Z rfl dX10_missed_28 rfl rfl
set_option maxHeartbeats 4000000 in
set_option maxRecDepth 100000 in
theorem ev_missedXM {I : Nat → Nat → Int32} {L : Nat → Nat → Int64} {q : Nat → Nat → Nat} {u : Nat → Nat} (V : MV I u) (U : WU u) (v1 v2 v3 : Int32) (hb : ¬ ((¬ v1 < nI 0 ∧ ¬ nI 7 < v1) ∧ (¬ v2 < nI 0 ∧ ¬ nI 9999 < v2) ∧ (¬ v3 < nI 0 ∧ ¬ nI 10 < v3))) : hz_Ev mX11_missed TT NN (I, L, PP q) [.ref 146, .int v1, .int v2, .int v3] 0 0 (some (.int (-2 : Int32))) TT NN (hz_up I 151 0 ((I 151 0) + (nI 1)), L, PP q) := by
  refine hz_Ev.intro (ls := [some (.ref 146), some (.int v1), some (.int v2), some (.int v3), none, none, none, none, none, none, none, none]) (by decide +kernel) rfl (Nat.le_of_ble_eq_true rfl) (fun X C Z _ => ?_)
  refine hz_iload_n (pc := 0) C dX11_missed_0 rfl ?_
  refine hz_callSs (pc := 1) C (as := [.int v1]) (st := []) (ev_isRoomM _ v1) (hz_new0 _ _) fyX11_isRoom fsX11_56 rfl dX11_missed_1 rfl rfl (Nat.le_of_ble_eq_true rfl) (by decide) (hz_cap0 _) ?_
  refine hz_ifb_eq (pc := 4) C (tgt := 28) dX11_missed_4 rfl (fun c1 => ?_) (fun c1 => ?_)
  · refine hz_aload_n (pc := 28) C dX11_missed_28 rfl ?_
    refine hz_callVs (pc := 29) C (as := []) (st := []) ev_bad (hz_new0 _ _) fyX11_bad fvX11_60 rfl dX11_missed_29 hT146 rfl rfl hA146 rfl rfl (Nat.le_of_ble_eq_true rfl) (by decide) (hz_cap0 _) ?_
    exact hz_iret C Z rfl dX11_missed_32 rfl rfl
  · refine hz_iload_n (pc := 7) C dX11_missed_7 rfl ?_
    refine hz_iconst (pc := 8) C (v := nI 0) dX11_missed_8 (by decide +kernel) ?_
    refine hz_sipush (pc := 9) C (v := nI 9999) dX11_missed_9 (by decide +kernel) ?_
    refine hz_callSs (pc := 12) C (as := [.int v2, .int (nI 0), .int (nI 9999)]) (st := []) (ev_in _ v2 (nI 0) (nI 9999)) (hz_new0 _ _) fyX11_in fsX11_52 rfl dX11_missed_12 rfl rfl (Nat.le_of_ble_eq_true rfl) (by decide) (hz_cap0 _) ?_
    refine hz_ifb_eq (pc := 15) C (tgt := 28) dX11_missed_15 rfl (fun c2 => ?_) (fun c2 => ?_)
    · refine hz_aload_n (pc := 28) C dX11_missed_28 rfl ?_
      refine hz_callVs (pc := 29) C (as := []) (st := []) ev_bad (hz_new0 _ _) fyX11_bad fvX11_60 rfl dX11_missed_29 hT146 rfl rfl hA146 rfl rfl (Nat.le_of_ble_eq_true rfl) (by decide) (hz_cap0 _) ?_
      exact hz_iret C Z rfl dX11_missed_32 rfl rfl
    · refine hz_iload_n (pc := 18) C dX11_missed_18 rfl ?_
      refine hz_iconst (pc := 19) C (v := nI 0) dX11_missed_19 (by decide +kernel) ?_
      refine hz_bipush (pc := 20) C (v := nI 10) dX11_missed_20 (by decide +kernel) ?_
      refine hz_callSs (pc := 22) C (as := [.int v3, .int (nI 0), .int (nI 10)]) (st := []) (ev_in _ v3 (nI 0) (nI 10)) (hz_new0 _ _) fyX11_in fsX11_52 rfl dX11_missed_22 rfl rfl (Nat.le_of_ble_eq_true rfl) (by decide) (hz_cap0 _) ?_
      refine hz_ifb_ne (pc := 25) C (tgt := 33) dX11_missed_25 rfl (fun c3 => ?_) (fun c3 => ?_)
      · exact absurd ⟨c1, c2, c3⟩ hb
      · refine hz_aload_n (pc := 28) C dX11_missed_28 rfl ?_
        refine hz_callVs (pc := 29) C (as := []) (st := []) ev_bad (hz_new0 _ _) fyX11_bad fvX11_60 rfl dX11_missed_29 hT146 rfl rfl hA146 rfl rfl (Nat.le_of_ble_eq_true rfl) (by decide) (hz_cap0 _) ?_
        exact hz_iret C Z rfl dX11_missed_32 rfl rfl
set_option maxHeartbeats 4000000 in
set_option maxRecDepth 100000 in
theorem ev_nightsX {I : Nat → Nat → Int32} {L : Nat → Nat → Int64} {q : Nat → Nat → Nat} {u : Nat → Nat} (V : HV 12 q I u) (U : WU u) (v1 v2 : Int32) (hb : ¬ ((¬ v1 < nI 0 ∧ ¬ nI 999999 < v1) ∧ (¬ v2 < nI 0 ∧ ¬ nI 60 < v2))) : hz_Ev mX10_nights TT NN (I, L, PP q) [.ref 1, .int v1, .int v2] 0 0 (some (.int (-2 : Int32))) TT NN (hz_up I 1 8 ((I 1 8) + (nI 1)), L, PP q) := by
  refine hz_Ev.intro (ls := [some (.ref 1), some (.int v1), some (.int v2), none, none, none, none, none, none]) (by decide +kernel) rfl (Nat.le_of_ble_eq_true rfl) (fun X C Z _ => ?_)
  refine hz_iload_n (pc := 0) C dX10_nights_0 rfl ?_
  refine hz_iconst (pc := 1) C (v := nI 0) dX10_nights_1 (by decide +kernel) ?_
  refine hz_ldc (pc := 2) C (v := nI 999999) dX10_nights_2 (hz_mp 829 (by decide +kernel)) ?_
  refine hz_callSs (pc := 4) C (as := [.int v1, .int (nI 0), .int (nI 999999)]) (st := []) (ev_within _ v1 (nI 0) (nI 999999)) (hz_new0 _ _) fyX10_within fsX10_59 rfl dX10_nights_4 rfl rfl (Nat.le_of_ble_eq_true rfl) (by decide) (hz_cap0 _) ?_
  refine hz_ifb_eq (pc := 7) C (tgt := 20) dX10_nights_7 rfl (fun c1 => ?_) (fun c1 => ?_)
  · refine hz_aload_n (pc := 20) C dX10_nights_20 rfl ?_
    refine hz_callVs (pc := 21) C (as := []) (st := []) ev_refBad (hz_new0 _ _) fyX10_refuseBad fvX10_74 rfl dX10_nights_21 hT1 rfl rfl hA1 rfl rfl (Nat.le_of_ble_eq_true rfl) (by decide) (hz_cap0 _) ?_
    exact hz_iret C Z rfl dX10_nights_24 rfl rfl
  · refine hz_iload_n (pc := 10) C dX10_nights_10 rfl ?_
    refine hz_iconst (pc := 11) C (v := nI 0) dX10_nights_11 (by decide +kernel) ?_
    refine hz_bipush (pc := 12) C (v := nI 60) dX10_nights_12 (by decide +kernel) ?_
    refine hz_callSs (pc := 14) C (as := [.int v2, .int (nI 0), .int (nI 60)]) (st := []) (ev_within _ v2 (nI 0) (nI 60)) (hz_new0 _ _) fyX10_within fsX10_59 rfl dX10_nights_14 rfl rfl (Nat.le_of_ble_eq_true rfl) (by decide) (hz_cap0 _) ?_
    refine hz_ifb_ne (pc := 17) C (tgt := 25) dX10_nights_17 rfl (fun c2 => ?_) (fun c2 => ?_)
    · exact absurd ⟨c1, c2⟩ hb
    · refine hz_aload_n (pc := 20) C dX10_nights_20 rfl ?_
      refine hz_callVs (pc := 21) C (as := []) (st := []) ev_refBad (hz_new0 _ _) fyX10_refuseBad fvX10_74 rfl dX10_nights_21 hT1 rfl rfl hA1 rfl rfl (Nat.le_of_ble_eq_true rfl) (by decide) (hz_cap0 _) ?_
      exact hz_iret C Z rfl dX10_nights_24 rfl rfl
set_option maxHeartbeats 4000000 in
set_option maxRecDepth 100000 in
theorem ev_nightsXM {I : Nat → Nat → Int32} {L : Nat → Nat → Int64} {q : Nat → Nat → Nat} {u : Nat → Nat} (V : MV I u) (U : WU u) (v1 v2 : Int32) (hb : ¬ ((¬ v1 < nI 0 ∧ ¬ nI 999999 < v1) ∧ (¬ v2 < nI 0 ∧ ¬ nI 60 < v2))) : hz_Ev mX11_nights TT NN (I, L, PP q) [.ref 146, .int v1, .int v2] 0 0 (some (.int (-2 : Int32))) TT NN (hz_up I 151 0 ((I 151 0) + (nI 1)), L, PP q) := by
  refine hz_Ev.intro (ls := [some (.ref 146), some (.int v1), some (.int v2), none, none, none, none, none, none, none, none]) (by decide +kernel) rfl (Nat.le_of_ble_eq_true rfl) (fun X C Z _ => ?_)
  refine hz_iload_n (pc := 0) C dX11_nights_0 rfl ?_
  refine hz_iconst (pc := 1) C (v := nI 0) dX11_nights_1 (by decide +kernel) ?_
  refine hz_ldc (pc := 2) C (v := nI 999999) dX11_nights_2 (hz_mp 1225 (by decide +kernel)) ?_
  refine hz_callSs (pc := 4) C (as := [.int v1, .int (nI 0), .int (nI 999999)]) (st := []) (ev_in _ v1 (nI 0) (nI 999999)) (hz_new0 _ _) fyX11_in fsX11_52 rfl dX11_nights_4 rfl rfl (Nat.le_of_ble_eq_true rfl) (by decide) (hz_cap0 _) ?_
  refine hz_ifb_eq (pc := 7) C (tgt := 20) dX11_nights_7 rfl (fun c1 => ?_) (fun c1 => ?_)
  · refine hz_aload_n (pc := 20) C dX11_nights_20 rfl ?_
    refine hz_callVs (pc := 21) C (as := []) (st := []) ev_bad (hz_new0 _ _) fyX11_bad fvX11_60 rfl dX11_nights_21 hT146 rfl rfl hA146 rfl rfl (Nat.le_of_ble_eq_true rfl) (by decide) (hz_cap0 _) ?_
    exact hz_iret C Z rfl dX11_nights_24 rfl rfl
  · refine hz_iload_n (pc := 10) C dX11_nights_10 rfl ?_
    refine hz_iconst (pc := 11) C (v := nI 0) dX11_nights_11 (by decide +kernel) ?_
    refine hz_bipush (pc := 12) C (v := nI 60) dX11_nights_12 (by decide +kernel) ?_
    refine hz_callSs (pc := 14) C (as := [.int v2, .int (nI 0), .int (nI 60)]) (st := []) (ev_in _ v2 (nI 0) (nI 60)) (hz_new0 _ _) fyX11_in fsX11_52 rfl dX11_nights_14 rfl rfl (Nat.le_of_ble_eq_true rfl) (by decide) (hz_cap0 _) ?_
    refine hz_ifb_ne (pc := 17) C (tgt := 25) dX11_nights_17 rfl (fun c2 => ?_) (fun c2 => ?_)
    · exact absurd ⟨c1, c2⟩ hb
    · refine hz_aload_n (pc := 20) C dX11_nights_20 rfl ?_
      refine hz_callVs (pc := 21) C (as := []) (st := []) ev_bad (hz_new0 _ _) fyX11_bad fvX11_60 rfl dX11_nights_21 hT146 rfl rfl hA146 rfl rfl (Nat.le_of_ble_eq_true rfl) (by decide) (hz_cap0 _) ?_
      exact hz_iret C Z rfl dX11_nights_24 rfl rfl
set_option maxHeartbeats 4000000 in
set_option maxRecDepth 100000 in
theorem ev_nextX {I : Nat → Nat → Int32} {L : Nat → Nat → Int64} {q : Nat → Nat → Nat} {u : Nat → Nat} (V : HV 12 q I u) (U : WU u) (v1 v2 : Int32) (hb : ¬ ((¬ v2 < nI 0 ∧ ¬ nI 1 < v2))) : hz_Ev mX10_next TT NN (I, L, PP q) [.ref 1, .int v1, .int v2] 0 0 (some (.int (-2 : Int32))) TT NN (hz_up I 1 8 ((I 1 8) + (nI 1)), L, PP q) := by
  refine hz_Ev.intro (ls := [some (.ref 1), some (.int v1), some (.int v2), none, none]) (by decide +kernel) rfl (Nat.le_of_ble_eq_true rfl) (fun X C Z _ => ?_)
  refine hz_iload_n (pc := 0) C dX10_next_0 rfl ?_
  refine hz_iconst (pc := 1) C (v := nI 0) dX10_next_1 (by decide +kernel) ?_
  refine hz_iconst (pc := 2) C (v := nI 1) dX10_next_2 (by decide +kernel) ?_
  refine hz_callSs (pc := 3) C (as := [.int v2, .int (nI 0), .int (nI 1)]) (st := []) (ev_within _ v2 (nI 0) (nI 1)) (hz_new0 _ _) fyX10_within fsX10_59 rfl dX10_next_3 rfl rfl (Nat.le_of_ble_eq_true rfl) (by decide) (hz_cap0 _) ?_
  refine hz_ifb_eq (pc := 6) C (tgt := 31) dX10_next_6 rfl (fun c1 => ?_) (fun c1 => ?_)
  · refine hz_aload_n (pc := 31) C dX10_next_31 rfl ?_
    refine hz_callVs (pc := 32) C (as := []) (st := []) ev_refBad (hz_new0 _ _) fyX10_refuseBad fvX10_74 rfl dX10_next_32 hT1 rfl rfl hA1 rfl rfl (Nat.le_of_ble_eq_true rfl) (by decide) (hz_cap0 _) ?_
    exact hz_iret C Z rfl dX10_next_35 rfl rfl
  · exact absurd c1 hb
set_option maxHeartbeats 4000000 in
set_option maxRecDepth 100000 in
theorem ev_nextXM {I : Nat → Nat → Int32} {L : Nat → Nat → Int64} {q : Nat → Nat → Nat} {u : Nat → Nat} (V : MV I u) (U : WU u) (v1 v2 : Int32) (hb : ¬ ((¬ v2 < nI 0 ∧ ¬ nI 1 < v2))) : hz_Ev mX11_next TT NN (I, L, PP q) [.ref 146, .int v1, .int v2] 0 0 (some (.int (-2 : Int32))) TT NN (hz_up I 151 0 ((I 151 0) + (nI 1)), L, PP q) := by
  refine hz_Ev.intro (ls := [some (.ref 146), some (.int v1), some (.int v2), none, none, none]) (by decide +kernel) rfl (Nat.le_of_ble_eq_true rfl) (fun X C Z _ => ?_)
  refine hz_iload_n (pc := 0) C dX11_next_0 rfl ?_
  refine hz_iconst (pc := 1) C (v := nI 0) dX11_next_1 (by decide +kernel) ?_
  refine hz_iconst (pc := 2) C (v := nI 1) dX11_next_2 (by decide +kernel) ?_
  refine hz_callSs (pc := 3) C (as := [.int v2, .int (nI 0), .int (nI 1)]) (st := []) (ev_in _ v2 (nI 0) (nI 1)) (hz_new0 _ _) fyX11_in fsX11_52 rfl dX11_next_3 rfl rfl (Nat.le_of_ble_eq_true rfl) (by decide) (hz_cap0 _) ?_
  refine hz_ifb_eq (pc := 6) C (tgt := 31) dX11_next_6 rfl (fun c1 => ?_) (fun c1 => ?_)
  · refine hz_aload_n (pc := 31) C dX11_next_31 rfl ?_
    refine hz_callVs (pc := 32) C (as := []) (st := []) ev_bad (hz_new0 _ _) fyX11_bad fvX11_60 rfl dX11_next_32 hT146 rfl rfl hA146 rfl rfl (Nat.le_of_ble_eq_true rfl) (by decide) (hz_cap0 _) ?_
    exact hz_iret C Z rfl dX11_next_35 rfl rfl
  · exact absurd c1 hb
set_option maxHeartbeats 4000000 in
set_option maxRecDepth 100000 in
theorem ev_nextX0 {I : Nat → Nat → Int32} {L : Nat → Nat → Int64} {q : Nat → Nat → Nat} {u : Nat → Nat} (V : HV 12 q I u) (U : WU u) (v1 : Int32) (hb : ¬ ((¬ v1 < nI 0 ∧ ¬ nI 7 < v1))) : hz_Ev mX10_next TT NN (I, L, PP q) [.ref 1, .int v1, .int (nI 0)] 0 0 (some (.int (-2 : Int32))) TT NN (hz_up I 1 8 ((I 1 8) + (nI 1)), L, PP q) := by
  refine hz_Ev.intro (ls := [some (.ref 1), some (.int v1), some (.int (nI 0)), none, none]) (by decide +kernel) rfl (Nat.le_of_ble_eq_true rfl) (fun X C Z _ => ?_)
  refine hz_iload_n (pc := 0) C dX10_next_0 rfl ?_
  refine hz_iconst (pc := 1) C (v := nI 0) dX10_next_1 (by decide +kernel) ?_
  refine hz_iconst (pc := 2) C (v := nI 1) dX10_next_2 (by decide +kernel) ?_
  refine hz_callSs (pc := 3) C (as := [.int (nI 0), .int (nI 0), .int (nI 1)]) (st := []) (ev_within _ (nI 0) (nI 0) (nI 1)) (hz_new0 _ _) fyX10_within fsX10_59 rfl dX10_next_3 rfl rfl (Nat.le_of_ble_eq_true rfl) (by decide) (hz_cap0 _) ?_
  refine hz_ifb_eq (pc := 6) C (tgt := 31) dX10_next_6 rfl (fun cq => absurd (vin (Nat.zero_le _) (by decide) (by decide)) cq) (fun _ => ?_)
  refine hz_iload_n (pc := 9) C dX10_next_9 rfl ?_
  refine hz_if_ne (pc := 10) C (tgt := 23) dX10_next_10 rfl (fun cq => absurd (by decide +kernel) cq) (fun _ => ?_)
  refine hz_iload_n (pc := 13) C dX10_next_13 rfl ?_
  refine hz_callSs (pc := 14) C (as := [.int v1]) (st := []) (ev_isRoom _ v1) (hz_new0 _ _) fyX10_isRoom fsX10_55 rfl dX10_next_14 rfl rfl (Nat.le_of_ble_eq_true rfl) (by decide) (hz_cap0 _) ?_
  refine hz_ifb_eq (pc := 17) C (tgt := 31) dX10_next_17 rfl (fun c1 => ?_) (fun c1 => ?_)
  · refine hz_aload_n (pc := 31) C dX10_next_31 rfl ?_
    refine hz_callVs (pc := 32) C (as := []) (st := []) ev_refBad (hz_new0 _ _) fyX10_refuseBad fvX10_74 rfl dX10_next_32 hT1 rfl rfl hA1 rfl rfl (Nat.le_of_ble_eq_true rfl) (by decide) (hz_cap0 _) ?_
    exact hz_iret C Z rfl dX10_next_35 rfl rfl
  · refine hz_goto (pc := 20) C (tgt := 36) dX10_next_20 rfl ?_
    exact absurd c1 hb
set_option maxHeartbeats 4000000 in
set_option maxRecDepth 100000 in
theorem ev_nextX0M {I : Nat → Nat → Int32} {L : Nat → Nat → Int64} {q : Nat → Nat → Nat} {u : Nat → Nat} (V : MV I u) (U : WU u) (v1 : Int32) (hb : ¬ ((¬ v1 < nI 0 ∧ ¬ nI 7 < v1))) : hz_Ev mX11_next TT NN (I, L, PP q) [.ref 146, .int v1, .int (nI 0)] 0 0 (some (.int (-2 : Int32))) TT NN (hz_up I 151 0 ((I 151 0) + (nI 1)), L, PP q) := by
  refine hz_Ev.intro (ls := [some (.ref 146), some (.int v1), some (.int (nI 0)), none, none, none]) (by decide +kernel) rfl (Nat.le_of_ble_eq_true rfl) (fun X C Z _ => ?_)
  refine hz_iload_n (pc := 0) C dX11_next_0 rfl ?_
  refine hz_iconst (pc := 1) C (v := nI 0) dX11_next_1 (by decide +kernel) ?_
  refine hz_iconst (pc := 2) C (v := nI 1) dX11_next_2 (by decide +kernel) ?_
  refine hz_callSs (pc := 3) C (as := [.int (nI 0), .int (nI 0), .int (nI 1)]) (st := []) (ev_in _ (nI 0) (nI 0) (nI 1)) (hz_new0 _ _) fyX11_in fsX11_52 rfl dX11_next_3 rfl rfl (Nat.le_of_ble_eq_true rfl) (by decide) (hz_cap0 _) ?_
  refine hz_ifb_eq (pc := 6) C (tgt := 31) dX11_next_6 rfl (fun cq => absurd (vin (Nat.zero_le _) (by decide) (by decide)) cq) (fun _ => ?_)
  refine hz_iload_n (pc := 9) C dX11_next_9 rfl ?_
  refine hz_if_ne (pc := 10) C (tgt := 23) dX11_next_10 rfl (fun cq => absurd (by decide +kernel) cq) (fun _ => ?_)
  refine hz_iload_n (pc := 13) C dX11_next_13 rfl ?_
  refine hz_callSs (pc := 14) C (as := [.int v1]) (st := []) (ev_isRoomM _ v1) (hz_new0 _ _) fyX11_isRoom fsX11_56 rfl dX11_next_14 rfl rfl (Nat.le_of_ble_eq_true rfl) (by decide) (hz_cap0 _) ?_
  refine hz_ifb_ne (pc := 17) C (tgt := 36) dX11_next_17 rfl (fun c1 => ?_) (fun c1 => ?_)
  · exact absurd c1 hb
  · refine hz_goto (pc := 20) C (tgt := 31) dX11_next_20 rfl ?_
    refine hz_aload_n (pc := 31) C dX11_next_31 rfl ?_
    refine hz_callVs (pc := 32) C (as := []) (st := []) ev_bad (hz_new0 _ _) fyX11_bad fvX11_60 rfl dX11_next_32 hT146 rfl rfl hA146 rfl rfl (Nat.le_of_ble_eq_true rfl) (by decide) (hz_cap0 _) ?_
    exact hz_iret C Z rfl dX11_next_35 rfl rfl
set_option maxHeartbeats 4000000 in
set_option maxRecDepth 100000 in
theorem ev_nextX1 {I : Nat → Nat → Int32} {L : Nat → Nat → Int64} {q : Nat → Nat → Nat} {u : Nat → Nat} (V : HV 12 q I u) (U : WU u) (v1 : Int32) (hb : ¬ ((¬ v1 < nI 0 ∧ ¬ nI (u 64) - nI 1 < v1))) : hz_Ev mX10_next TT NN (I, L, PP q) [.ref 1, .int v1, .int (nI 1)] 0 0 (some (.int (-2 : Int32))) TT NN (hz_up I 1 8 ((I 1 8) + (nI 1)), L, PP q) := by
  refine hz_Ev.intro (ls := [some (.ref 1), some (.int v1), some (.int (nI 1)), none, none]) (by decide +kernel) rfl (Nat.le_of_ble_eq_true rfl) (fun X C Z _ => ?_)
  refine hz_iload_n (pc := 0) C dX10_next_0 rfl ?_
  refine hz_iconst (pc := 1) C (v := nI 0) dX10_next_1 (by decide +kernel) ?_
  refine hz_iconst (pc := 2) C (v := nI 1) dX10_next_2 (by decide +kernel) ?_
  refine hz_callSs (pc := 3) C (as := [.int (nI 1), .int (nI 0), .int (nI 1)]) (st := []) (ev_within _ (nI 1) (nI 0) (nI 1)) (hz_new0 _ _) fyX10_within fsX10_59 rfl dX10_next_3 rfl rfl (Nat.le_of_ble_eq_true rfl) (by decide) (hz_cap0 _) ?_
  refine hz_ifb_eq (pc := 6) C (tgt := 31) dX10_next_6 rfl (fun cq => absurd (vin (Nat.zero_le _) (by decide) (by decide)) cq) (fun _ => ?_)
  refine hz_iload_n (pc := 9) C dX10_next_9 rfl ?_
  refine hz_if_ne (pc := 10) C (tgt := 23) dX10_next_10 rfl (fun _ => ?_) (fun cq => absurd cq (by decide +kernel))
  refine hz_aload_n (pc := 23) C dX10_next_23 rfl ?_
  refine hz_iload_n (pc := 24) C dX10_next_24 rfl ?_
  refine hz_callVs (pc := 25) C (as := [.int v1]) (st := []) (ev_isAlarm V U v1) (hz_new0 _ _) fyX10_isAlarm fvX10_123 rfl dX10_next_25 hT1 rfl rfl hA1 rfl rfl (Nat.le_of_ble_eq_true rfl) (by decide) (hz_cap0 _) ?_
  refine hz_ifb_ne (pc := 28) C (tgt := 36) dX10_next_28 rfl (fun c1 => ?_) (fun c1 => ?_)
  · exact absurd c1 hb
  · refine hz_aload_n (pc := 31) C dX10_next_31 rfl ?_
    refine hz_callVs (pc := 32) C (as := []) (st := []) ev_refBad (hz_new0 _ _) fyX10_refuseBad fvX10_74 rfl dX10_next_32 hT1 rfl rfl hA1 rfl rfl (Nat.le_of_ble_eq_true rfl) (by decide) (hz_cap0 _) ?_
    exact hz_iret C Z rfl dX10_next_35 rfl rfl
set_option maxHeartbeats 4000000 in
set_option maxRecDepth 100000 in
theorem ev_nextX1M {I : Nat → Nat → Int32} {L : Nat → Nat → Int64} {q : Nat → Nat → Nat} {u : Nat → Nat} (V : MV I u) (U : WU u) (v1 : Int32) (hb : ¬ ((¬ v1 < nI 0 ∧ ¬ nI (u 64) - nI 1 < v1))) : hz_Ev mX11_next TT NN (I, L, PP q) [.ref 146, .int v1, .int (nI 1)] 0 0 (some (.int (-2 : Int32))) TT NN (hz_up I 151 0 ((I 151 0) + (nI 1)), L, PP q) := by
  refine hz_Ev.intro (ls := [some (.ref 146), some (.int v1), some (.int (nI 1)), none, none, none]) (by decide +kernel) rfl (Nat.le_of_ble_eq_true rfl) (fun X C Z _ => ?_)
  refine hz_iload_n (pc := 0) C dX11_next_0 rfl ?_
  refine hz_iconst (pc := 1) C (v := nI 0) dX11_next_1 (by decide +kernel) ?_
  refine hz_iconst (pc := 2) C (v := nI 1) dX11_next_2 (by decide +kernel) ?_
  refine hz_callSs (pc := 3) C (as := [.int (nI 1), .int (nI 0), .int (nI 1)]) (st := []) (ev_in _ (nI 1) (nI 0) (nI 1)) (hz_new0 _ _) fyX11_in fsX11_52 rfl dX11_next_3 rfl rfl (Nat.le_of_ble_eq_true rfl) (by decide) (hz_cap0 _) ?_
  refine hz_ifb_eq (pc := 6) C (tgt := 31) dX11_next_6 rfl (fun cq => absurd (vin (Nat.zero_le _) (by decide) (by decide)) cq) (fun _ => ?_)
  refine hz_iload_n (pc := 9) C dX11_next_9 rfl ?_
  refine hz_if_ne (pc := 10) C (tgt := 23) dX11_next_10 rfl (fun _ => ?_) (fun cq => absurd cq (by decide +kernel))
  refine hz_aload_n (pc := 23) C dX11_next_23 rfl ?_
  refine hz_iload_n (pc := 24) C dX11_next_24 rfl ?_
  refine hz_callVs (pc := 25) C (as := [.int v1]) (st := []) (ev_isAlarmM V U v1) (hz_new0 _ _) fyX11_isAlarm fvX11_160 rfl dX11_next_25 hT146 rfl rfl hA146 rfl rfl (Nat.le_of_ble_eq_true rfl) (by decide) (hz_cap0 _) ?_
  refine hz_ifb_ne (pc := 28) C (tgt := 36) dX11_next_28 rfl (fun c1 => ?_) (fun c1 => ?_)
  · exact absurd c1 hb
  · refine hz_aload_n (pc := 31) C dX11_next_31 rfl ?_
    refine hz_callVs (pc := 32) C (as := []) (st := []) ev_bad (hz_new0 _ _) fyX11_bad fvX11_60 rfl dX11_next_32 hT146 rfl rfl hA146 rfl rfl (Nat.le_of_ble_eq_true rfl) (by decide) (hz_cap0 _) ?_
    exact hz_iret C Z rfl dX11_next_35 rfl rfl
set_option maxHeartbeats 4000000 in
set_option maxRecDepth 100000 in
theorem ev_howMany0 {I : Nat → Nat → Int32} {L : Nat → Nat → Int64} {q : Nat → Nat → Nat} {u : Nat → Nat} (V : HV 12 q I u) (U : WU u) : hz_Ev mX10_howMany TT NN (I, L, PP q) [.ref 1, .int (nI 0)] 0 0 (some (.int (nI (u 64)))) TT NN (I, L, PP q) := by
  refine hz_Ev.intro (ls := [some (.ref 1), some (.int (nI 0))]) (by decide +kernel) rfl (Nat.le_of_ble_eq_true rfl) (fun X C Z _ => ?_)
  refine hz_iload_n (pc := 0) C dX10_howMany_0 rfl ?_
  refine hz_swIn (pc := 1) C (tgt := 44) dX10_howMany_1 (by decide +kernel) (by decide +kernel) (by rfl) (by decide +kernel) ?_
  refine hz_aload_n (pc := 44) C dX10_howMany_44 rfl ?_
  refine hz_getP (pc := 45) C (v := 12) ffX10_26 dX10_howMany_45 hT1 hA1 rfl (hP1_4 q) (by decide) ?_
  refine hz_getI (pc := 48) C (v := nI (u 64)) ffX10_48 dX10_howMany_48 hT12 hA12 rfl (hv_al V) ?_
  exact hz_iret C Z rfl dX10_howMany_51 rfl rfl
set_option maxHeartbeats 4000000 in
set_option maxRecDepth 100000 in
theorem ev_counted0 {I : Nat → Nat → Int32} {L : Nat → Nat → Int64} {q : Nat → Nat → Nat} {u : Nat → Nat} (V : MV I u) (U : WU u) : hz_Ev mX11_counted TT NN (I, L, PP q) [.ref 146, .int (nI 0)] 0 0 (some (.int (nI (u 64)))) TT NN (I, L, PP q) := by
  refine hz_Ev.intro (ls := [some (.ref 146), some (.int (nI 0))]) (by decide +kernel) rfl (Nat.le_of_ble_eq_true rfl) (fun X C Z _ => ?_)
  refine hz_iload_n (pc := 0) C dX11_counted_0 rfl ?_
  refine hz_swIn (pc := 1) C (tgt := 44) dX11_counted_1 (by decide +kernel) (by decide +kernel) (by rfl) (by decide +kernel) ?_
  refine hz_aload_n (pc := 44) C dX11_counted_44 rfl ?_
  refine hz_getP (pc := 45) C (v := 147) ffX11_7 dX11_counted_45 hT146 hA146 rfl (hP146_0 q) (by decide) ?_
  refine hz_bipush (pc := 48) C (v := nI 64) dX11_counted_48 (by decide +kernel) ?_
  refine hz_iald (pc := 50) C (v := nI (u 64)) (j := 64) dX11_counted_50 hT147 hA147 rfl (by decide) (by decide) (mg V (by omega) (by omega)) ?_
  exact hz_iret C Z rfl dX11_counted_51 rfl rfl
set_option maxHeartbeats 4000000 in
set_option maxRecDepth 100000 in
theorem ev_count0 {I : Nat → Nat → Int32} {L : Nat → Nat → Int64} {q : Nat → Nat → Nat} {u : Nat → Nat} (V : HV 12 q I u) (U : WU u) : hz_Ev mX10_count TT NN (I, L, PP q) [.ref 1, .int (nI 0)] 0 0 (some (.int (nI (u 64)))) TT NN (I, L, PP q) := by
  refine hz_Ev.intro (ls := [some (.ref 1), some (.int (nI 0))]) (by decide +kernel) rfl (Nat.le_of_ble_eq_true rfl) (fun X C Z _ => ?_)
  refine hz_iload_n (pc := 0) C dX10_count_0 rfl ?_
  refine hz_iconst (pc := 1) C (v := nI 0) dX10_count_1 (by decide +kernel) ?_
  refine hz_bipush (pc := 2) C (v := nI 7) dX10_count_2 (by decide +kernel) ?_
  refine hz_callSs (pc := 4) C (as := [.int (nI 0), .int (nI 0), .int (nI 7)]) (st := []) (ev_within _ (nI 0) (nI 0) (nI 7)) (hz_new0 _ _) fyX10_within fsX10_59 rfl dX10_count_4 rfl rfl (Nat.le_of_ble_eq_true rfl) (by decide) (hz_cap0 _) ?_
  refine hz_ifb_eq (pc := 7) C (tgt := 18) dX10_count_7 rfl (fun cq => absurd (vin (Nat.zero_le _) (by decide) (by decide)) cq) (fun _ => ?_)
  refine hz_aload_n (pc := 10) C dX10_count_10 rfl ?_
  refine hz_iload_n (pc := 11) C dX10_count_11 rfl ?_
  refine hz_callVs (pc := 12) C (as := [.int (nI 0)]) (st := []) (ev_howMany0 V U) (hz_new0 _ _) fyX10_howMany fvX10_273 rfl dX10_count_12 hT1 rfl rfl hA1 rfl rfl (Nat.le_of_ble_eq_true rfl) (by decide) (hz_cap0 _) ?_
  refine hz_goto (pc := 15) C (tgt := 22) dX10_count_15 rfl ?_
  exact hz_iret C Z rfl dX10_count_22 rfl rfl
set_option maxHeartbeats 4000000 in
set_option maxRecDepth 100000 in
theorem ev_count0M {I : Nat → Nat → Int32} {L : Nat → Nat → Int64} {q : Nat → Nat → Nat} {u : Nat → Nat} (V : MV I u) (U : WU u) : hz_Ev mX11_count TT NN (I, L, PP q) [.ref 146, .int (nI 0)] 0 0 (some (.int (nI (u 64)))) TT NN (I, L, PP q) := by
  refine hz_Ev.intro (ls := [some (.ref 146), some (.int (nI 0))]) (by decide +kernel) rfl (Nat.le_of_ble_eq_true rfl) (fun X C Z _ => ?_)
  refine hz_iload_n (pc := 0) C dX11_count_0 rfl ?_
  refine hz_iconst (pc := 1) C (v := nI 0) dX11_count_1 (by decide +kernel) ?_
  refine hz_bipush (pc := 2) C (v := nI 7) dX11_count_2 (by decide +kernel) ?_
  refine hz_callSs (pc := 4) C (as := [.int (nI 0), .int (nI 0), .int (nI 7)]) (st := []) (ev_in _ (nI 0) (nI 0) (nI 7)) (hz_new0 _ _) fyX11_in fsX11_52 rfl dX11_count_4 rfl rfl (Nat.le_of_ble_eq_true rfl) (by decide) (hz_cap0 _) ?_
  refine hz_ifb_eq (pc := 7) C (tgt := 18) dX11_count_7 rfl (fun cq => absurd (vin (Nat.zero_le _) (by decide) (by decide)) cq) (fun _ => ?_)
  refine hz_aload_n (pc := 10) C dX11_count_10 rfl ?_
  refine hz_iload_n (pc := 11) C dX11_count_11 rfl ?_
  refine hz_callVs (pc := 12) C (as := [.int (nI 0)]) (st := []) (ev_counted0 V U) (hz_new0 _ _) fyX11_counted fvX11_230 rfl dX11_count_12 hT146 rfl rfl hA146 rfl rfl (Nat.le_of_ble_eq_true rfl) (by decide) (hz_cap0 _) ?_
  refine hz_goto (pc := 15) C (tgt := 22) dX11_count_15 rfl ?_
  exact hz_iret C Z rfl dX11_count_22 rfl rfl
set_option maxHeartbeats 4000000 in
set_option maxRecDepth 100000 in
theorem ev_howMany1 {I : Nat → Nat → Int32} {L : Nat → Nat → Int64} {q : Nat → Nat → Nat} {u : Nat → Nat} (V : HV 12 q I u) (U : WU u) : hz_Ev mX10_howMany TT NN (I, L, PP q) [.ref 1, .int (nI 1)] 0 0 (some (.int (nI (u 90)))) TT NN (I, L, PP q) := by
  refine hz_Ev.intro (ls := [some (.ref 1), some (.int (nI 1))]) (by decide +kernel) rfl (Nat.le_of_ble_eq_true rfl) (fun X C Z _ => ?_)
  refine hz_iload_n (pc := 0) C dX10_howMany_0 rfl ?_
  refine hz_swIn (pc := 1) C (tgt := 52) dX10_howMany_1 (by decide +kernel) (by decide +kernel) (by rfl) (by decide +kernel) ?_
  refine hz_aload_n (pc := 52) C dX10_howMany_52 rfl ?_
  refine hz_getP (pc := 53) C (v := 12) ffX10_26 dX10_howMany_53 hT1 hA1 rfl (hP1_4 q) (by decide) ?_
  refine hz_getP (pc := 56) C (v := 19) ffX10_102 dX10_howMany_56 hT12 hA12 rfl (hP12_7 q) (by decide) ?_
  refine hz_getI (pc := 59) C (v := nI (u 90)) ffX10_111 dX10_howMany_59 hT19 hA19 rfl (hv_se V) ?_
  exact hz_iret C Z rfl dX10_howMany_62 rfl rfl
set_option maxHeartbeats 4000000 in
set_option maxRecDepth 100000 in
theorem ev_counted1 {I : Nat → Nat → Int32} {L : Nat → Nat → Int64} {q : Nat → Nat → Nat} {u : Nat → Nat} (V : MV I u) (U : WU u) : hz_Ev mX11_counted TT NN (I, L, PP q) [.ref 146, .int (nI 1)] 0 0 (some (.int (nI (u 90)))) TT NN (I, L, PP q) := by
  refine hz_Ev.intro (ls := [some (.ref 146), some (.int (nI 1))]) (by decide +kernel) rfl (Nat.le_of_ble_eq_true rfl) (fun X C Z _ => ?_)
  refine hz_iload_n (pc := 0) C dX11_counted_0 rfl ?_
  refine hz_swIn (pc := 1) C (tgt := 52) dX11_counted_1 (by decide +kernel) (by decide +kernel) (by rfl) (by decide +kernel) ?_
  refine hz_aload_n (pc := 52) C dX11_counted_52 rfl ?_
  refine hz_getP (pc := 53) C (v := 147) ffX11_7 dX11_counted_53 hT146 hA146 rfl (hP146_0 q) (by decide) ?_
  refine hz_bipush (pc := 56) C (v := nI 90) dX11_counted_56 (by decide +kernel) ?_
  refine hz_iald (pc := 58) C (v := nI (u 90)) (j := 90) dX11_counted_58 hT147 hA147 rfl (by decide) (by decide) (mg V (by omega) (by omega)) ?_
  exact hz_iret C Z rfl dX11_counted_59 rfl rfl
set_option maxHeartbeats 4000000 in
set_option maxRecDepth 100000 in
theorem ev_count1 {I : Nat → Nat → Int32} {L : Nat → Nat → Int64} {q : Nat → Nat → Nat} {u : Nat → Nat} (V : HV 12 q I u) (U : WU u) : hz_Ev mX10_count TT NN (I, L, PP q) [.ref 1, .int (nI 1)] 0 0 (some (.int (nI (u 90)))) TT NN (I, L, PP q) := by
  refine hz_Ev.intro (ls := [some (.ref 1), some (.int (nI 1))]) (by decide +kernel) rfl (Nat.le_of_ble_eq_true rfl) (fun X C Z _ => ?_)
  refine hz_iload_n (pc := 0) C dX10_count_0 rfl ?_
  refine hz_iconst (pc := 1) C (v := nI 0) dX10_count_1 (by decide +kernel) ?_
  refine hz_bipush (pc := 2) C (v := nI 7) dX10_count_2 (by decide +kernel) ?_
  refine hz_callSs (pc := 4) C (as := [.int (nI 1), .int (nI 0), .int (nI 7)]) (st := []) (ev_within _ (nI 1) (nI 0) (nI 7)) (hz_new0 _ _) fyX10_within fsX10_59 rfl dX10_count_4 rfl rfl (Nat.le_of_ble_eq_true rfl) (by decide) (hz_cap0 _) ?_
  refine hz_ifb_eq (pc := 7) C (tgt := 18) dX10_count_7 rfl (fun cq => absurd (vin (Nat.zero_le _) (by decide) (by decide)) cq) (fun _ => ?_)
  refine hz_aload_n (pc := 10) C dX10_count_10 rfl ?_
  refine hz_iload_n (pc := 11) C dX10_count_11 rfl ?_
  refine hz_callVs (pc := 12) C (as := [.int (nI 1)]) (st := []) (ev_howMany1 V U) (hz_new0 _ _) fyX10_howMany fvX10_273 rfl dX10_count_12 hT1 rfl rfl hA1 rfl rfl (Nat.le_of_ble_eq_true rfl) (by decide) (hz_cap0 _) ?_
  refine hz_goto (pc := 15) C (tgt := 22) dX10_count_15 rfl ?_
  exact hz_iret C Z rfl dX10_count_22 rfl rfl
set_option maxHeartbeats 4000000 in
set_option maxRecDepth 100000 in
theorem ev_count1M {I : Nat → Nat → Int32} {L : Nat → Nat → Int64} {q : Nat → Nat → Nat} {u : Nat → Nat} (V : MV I u) (U : WU u) : hz_Ev mX11_count TT NN (I, L, PP q) [.ref 146, .int (nI 1)] 0 0 (some (.int (nI (u 90)))) TT NN (I, L, PP q) := by
  refine hz_Ev.intro (ls := [some (.ref 146), some (.int (nI 1))]) (by decide +kernel) rfl (Nat.le_of_ble_eq_true rfl) (fun X C Z _ => ?_)
  refine hz_iload_n (pc := 0) C dX11_count_0 rfl ?_
  refine hz_iconst (pc := 1) C (v := nI 0) dX11_count_1 (by decide +kernel) ?_
  refine hz_bipush (pc := 2) C (v := nI 7) dX11_count_2 (by decide +kernel) ?_
  refine hz_callSs (pc := 4) C (as := [.int (nI 1), .int (nI 0), .int (nI 7)]) (st := []) (ev_in _ (nI 1) (nI 0) (nI 7)) (hz_new0 _ _) fyX11_in fsX11_52 rfl dX11_count_4 rfl rfl (Nat.le_of_ble_eq_true rfl) (by decide) (hz_cap0 _) ?_
  refine hz_ifb_eq (pc := 7) C (tgt := 18) dX11_count_7 rfl (fun cq => absurd (vin (Nat.zero_le _) (by decide) (by decide)) cq) (fun _ => ?_)
  refine hz_aload_n (pc := 10) C dX11_count_10 rfl ?_
  refine hz_iload_n (pc := 11) C dX11_count_11 rfl ?_
  refine hz_callVs (pc := 12) C (as := [.int (nI 1)]) (st := []) (ev_counted1 V U) (hz_new0 _ _) fyX11_counted fvX11_230 rfl dX11_count_12 hT146 rfl rfl hA146 rfl rfl (Nat.le_of_ble_eq_true rfl) (by decide) (hz_cap0 _) ?_
  refine hz_goto (pc := 15) C (tgt := 22) dX11_count_15 rfl ?_
  exact hz_iret C Z rfl dX11_count_22 rfl rfl
set_option maxHeartbeats 4000000 in
set_option maxRecDepth 100000 in
theorem ev_howMany2 {I : Nat → Nat → Int32} {L : Nat → Nat → Int64} {q : Nat → Nat → Nat} {u : Nat → Nat} (V : HV 12 q I u) (U : WU u) : hz_Ev mX10_howMany TT NN (I, L, PP q) [.ref 1, .int (nI 2)] 0 0 (some (.int (nI (u 91)))) TT NN (I, L, PP q) := by
  refine hz_Ev.intro (ls := [some (.ref 1), some (.int (nI 2))]) (by decide +kernel) rfl (Nat.le_of_ble_eq_true rfl) (fun X C Z _ => ?_)
  refine hz_iload_n (pc := 0) C dX10_howMany_0 rfl ?_
  refine hz_swIn (pc := 1) C (tgt := 63) dX10_howMany_1 (by decide +kernel) (by decide +kernel) (by rfl) (by decide +kernel) ?_
  refine hz_aload_n (pc := 63) C dX10_howMany_63 rfl ?_
  refine hz_getP (pc := 64) C (v := 12) ffX10_26 dX10_howMany_64 hT1 hA1 rfl (hP1_4 q) (by decide) ?_
  refine hz_getP (pc := 67) C (v := 19) ffX10_102 dX10_howMany_67 hT12 hA12 rfl (hP12_7 q) (by decide) ?_
  refine hz_getI (pc := 70) C (v := nI (u 91)) ffX10_106 dX10_howMany_70 hT19 hA19 rfl (hv_pl V) ?_
  exact hz_iret C Z rfl dX10_howMany_73 rfl rfl
set_option maxHeartbeats 4000000 in
set_option maxRecDepth 100000 in
theorem ev_counted2 {I : Nat → Nat → Int32} {L : Nat → Nat → Int64} {q : Nat → Nat → Nat} {u : Nat → Nat} (V : MV I u) (U : WU u) : hz_Ev mX11_counted TT NN (I, L, PP q) [.ref 146, .int (nI 2)] 0 0 (some (.int (nI (u 91)))) TT NN (I, L, PP q) := by
  refine hz_Ev.intro (ls := [some (.ref 146), some (.int (nI 2))]) (by decide +kernel) rfl (Nat.le_of_ble_eq_true rfl) (fun X C Z _ => ?_)
  refine hz_iload_n (pc := 0) C dX11_counted_0 rfl ?_
  refine hz_swIn (pc := 1) C (tgt := 60) dX11_counted_1 (by decide +kernel) (by decide +kernel) (by rfl) (by decide +kernel) ?_
  refine hz_aload_n (pc := 60) C dX11_counted_60 rfl ?_
  refine hz_getP (pc := 61) C (v := 147) ffX11_7 dX11_counted_61 hT146 hA146 rfl (hP146_0 q) (by decide) ?_
  refine hz_bipush (pc := 64) C (v := nI 91) dX11_counted_64 (by decide +kernel) ?_
  refine hz_iald (pc := 66) C (v := nI (u 91)) (j := 91) dX11_counted_66 hT147 hA147 rfl (by decide) (by decide) (mg V (by omega) (by omega)) ?_
  exact hz_iret C Z rfl dX11_counted_67 rfl rfl
set_option maxHeartbeats 4000000 in
set_option maxRecDepth 100000 in
theorem ev_count2 {I : Nat → Nat → Int32} {L : Nat → Nat → Int64} {q : Nat → Nat → Nat} {u : Nat → Nat} (V : HV 12 q I u) (U : WU u) : hz_Ev mX10_count TT NN (I, L, PP q) [.ref 1, .int (nI 2)] 0 0 (some (.int (nI (u 91)))) TT NN (I, L, PP q) := by
  refine hz_Ev.intro (ls := [some (.ref 1), some (.int (nI 2))]) (by decide +kernel) rfl (Nat.le_of_ble_eq_true rfl) (fun X C Z _ => ?_)
  refine hz_iload_n (pc := 0) C dX10_count_0 rfl ?_
  refine hz_iconst (pc := 1) C (v := nI 0) dX10_count_1 (by decide +kernel) ?_
  refine hz_bipush (pc := 2) C (v := nI 7) dX10_count_2 (by decide +kernel) ?_
  refine hz_callSs (pc := 4) C (as := [.int (nI 2), .int (nI 0), .int (nI 7)]) (st := []) (ev_within _ (nI 2) (nI 0) (nI 7)) (hz_new0 _ _) fyX10_within fsX10_59 rfl dX10_count_4 rfl rfl (Nat.le_of_ble_eq_true rfl) (by decide) (hz_cap0 _) ?_
  refine hz_ifb_eq (pc := 7) C (tgt := 18) dX10_count_7 rfl (fun cq => absurd (vin (Nat.zero_le _) (by decide) (by decide)) cq) (fun _ => ?_)
  refine hz_aload_n (pc := 10) C dX10_count_10 rfl ?_
  refine hz_iload_n (pc := 11) C dX10_count_11 rfl ?_
  refine hz_callVs (pc := 12) C (as := [.int (nI 2)]) (st := []) (ev_howMany2 V U) (hz_new0 _ _) fyX10_howMany fvX10_273 rfl dX10_count_12 hT1 rfl rfl hA1 rfl rfl (Nat.le_of_ble_eq_true rfl) (by decide) (hz_cap0 _) ?_
  refine hz_goto (pc := 15) C (tgt := 22) dX10_count_15 rfl ?_
  exact hz_iret C Z rfl dX10_count_22 rfl rfl
set_option maxHeartbeats 4000000 in
set_option maxRecDepth 100000 in
theorem ev_count2M {I : Nat → Nat → Int32} {L : Nat → Nat → Int64} {q : Nat → Nat → Nat} {u : Nat → Nat} (V : MV I u) (U : WU u) : hz_Ev mX11_count TT NN (I, L, PP q) [.ref 146, .int (nI 2)] 0 0 (some (.int (nI (u 91)))) TT NN (I, L, PP q) := by
  refine hz_Ev.intro (ls := [some (.ref 146), some (.int (nI 2))]) (by decide +kernel) rfl (Nat.le_of_ble_eq_true rfl) (fun X C Z _ => ?_)
  refine hz_iload_n (pc := 0) C dX11_count_0 rfl ?_
  refine hz_iconst (pc := 1) C (v := nI 0) dX11_count_1 (by decide +kernel) ?_
  refine hz_bipush (pc := 2) C (v := nI 7) dX11_count_2 (by decide +kernel) ?_
  refine hz_callSs (pc := 4) C (as := [.int (nI 2), .int (nI 0), .int (nI 7)]) (st := []) (ev_in _ (nI 2) (nI 0) (nI 7)) (hz_new0 _ _) fyX11_in fsX11_52 rfl dX11_count_4 rfl rfl (Nat.le_of_ble_eq_true rfl) (by decide) (hz_cap0 _) ?_
  refine hz_ifb_eq (pc := 7) C (tgt := 18) dX11_count_7 rfl (fun cq => absurd (vin (Nat.zero_le _) (by decide) (by decide)) cq) (fun _ => ?_)
  refine hz_aload_n (pc := 10) C dX11_count_10 rfl ?_
  refine hz_iload_n (pc := 11) C dX11_count_11 rfl ?_
  refine hz_callVs (pc := 12) C (as := [.int (nI 2)]) (st := []) (ev_counted2 V U) (hz_new0 _ _) fyX11_counted fvX11_230 rfl dX11_count_12 hT146 rfl rfl hA146 rfl rfl (Nat.le_of_ble_eq_true rfl) (by decide) (hz_cap0 _) ?_
  refine hz_goto (pc := 15) C (tgt := 22) dX11_count_15 rfl ?_
  exact hz_iret C Z rfl dX11_count_22 rfl rfl
set_option maxHeartbeats 4000000 in
set_option maxRecDepth 100000 in
theorem ev_howMany3 {I : Nat → Nat → Int32} {L : Nat → Nat → Int64} {q : Nat → Nat → Nat} {u : Nat → Nat} (V : HV 12 q I u) (U : WU u) : hz_Ev mX10_howMany TT NN (I, L, PP q) [.ref 1, .int (nI 3)] 0 0 (some (.int (nI (u 92)))) TT NN (I, L, PP q) := by
  refine hz_Ev.intro (ls := [some (.ref 1), some (.int (nI 3))]) (by decide +kernel) rfl (Nat.le_of_ble_eq_true rfl) (fun X C Z _ => ?_)
  refine hz_iload_n (pc := 0) C dX10_howMany_0 rfl ?_
  refine hz_swIn (pc := 1) C (tgt := 74) dX10_howMany_1 (by decide +kernel) (by decide +kernel) (by rfl) (by decide +kernel) ?_
  refine hz_aload_n (pc := 74) C dX10_howMany_74 rfl ?_
  refine hz_getP (pc := 75) C (v := 12) ffX10_26 dX10_howMany_75 hT1 hA1 rfl (hP1_4 q) (by decide) ?_
  refine hz_getP (pc := 78) C (v := 19) ffX10_102 dX10_howMany_78 hT12 hA12 rfl (hP12_7 q) (by decide) ?_
  refine hz_getI (pc := 81) C (v := nI (u 92)) ffX10_137 dX10_howMany_81 hT19 hA19 rfl (hv_co V) ?_
  exact hz_iret C Z rfl dX10_howMany_84 rfl rfl
set_option maxHeartbeats 4000000 in
set_option maxRecDepth 100000 in
theorem ev_counted3 {I : Nat → Nat → Int32} {L : Nat → Nat → Int64} {q : Nat → Nat → Nat} {u : Nat → Nat} (V : MV I u) (U : WU u) : hz_Ev mX11_counted TT NN (I, L, PP q) [.ref 146, .int (nI 3)] 0 0 (some (.int (nI (u 92)))) TT NN (I, L, PP q) := by
  refine hz_Ev.intro (ls := [some (.ref 146), some (.int (nI 3))]) (by decide +kernel) rfl (Nat.le_of_ble_eq_true rfl) (fun X C Z _ => ?_)
  refine hz_iload_n (pc := 0) C dX11_counted_0 rfl ?_
  refine hz_swIn (pc := 1) C (tgt := 68) dX11_counted_1 (by decide +kernel) (by decide +kernel) (by rfl) (by decide +kernel) ?_
  refine hz_aload_n (pc := 68) C dX11_counted_68 rfl ?_
  refine hz_getP (pc := 69) C (v := 147) ffX11_7 dX11_counted_69 hT146 hA146 rfl (hP146_0 q) (by decide) ?_
  refine hz_bipush (pc := 72) C (v := nI 92) dX11_counted_72 (by decide +kernel) ?_
  refine hz_iald (pc := 74) C (v := nI (u 92)) (j := 92) dX11_counted_74 hT147 hA147 rfl (by decide) (by decide) (mg V (by omega) (by omega)) ?_
  exact hz_iret C Z rfl dX11_counted_75 rfl rfl
set_option maxHeartbeats 4000000 in
set_option maxRecDepth 100000 in
theorem ev_count3 {I : Nat → Nat → Int32} {L : Nat → Nat → Int64} {q : Nat → Nat → Nat} {u : Nat → Nat} (V : HV 12 q I u) (U : WU u) : hz_Ev mX10_count TT NN (I, L, PP q) [.ref 1, .int (nI 3)] 0 0 (some (.int (nI (u 92)))) TT NN (I, L, PP q) := by
  refine hz_Ev.intro (ls := [some (.ref 1), some (.int (nI 3))]) (by decide +kernel) rfl (Nat.le_of_ble_eq_true rfl) (fun X C Z _ => ?_)
  refine hz_iload_n (pc := 0) C dX10_count_0 rfl ?_
  refine hz_iconst (pc := 1) C (v := nI 0) dX10_count_1 (by decide +kernel) ?_
  refine hz_bipush (pc := 2) C (v := nI 7) dX10_count_2 (by decide +kernel) ?_
  refine hz_callSs (pc := 4) C (as := [.int (nI 3), .int (nI 0), .int (nI 7)]) (st := []) (ev_within _ (nI 3) (nI 0) (nI 7)) (hz_new0 _ _) fyX10_within fsX10_59 rfl dX10_count_4 rfl rfl (Nat.le_of_ble_eq_true rfl) (by decide) (hz_cap0 _) ?_
  refine hz_ifb_eq (pc := 7) C (tgt := 18) dX10_count_7 rfl (fun cq => absurd (vin (Nat.zero_le _) (by decide) (by decide)) cq) (fun _ => ?_)
  refine hz_aload_n (pc := 10) C dX10_count_10 rfl ?_
  refine hz_iload_n (pc := 11) C dX10_count_11 rfl ?_
  refine hz_callVs (pc := 12) C (as := [.int (nI 3)]) (st := []) (ev_howMany3 V U) (hz_new0 _ _) fyX10_howMany fvX10_273 rfl dX10_count_12 hT1 rfl rfl hA1 rfl rfl (Nat.le_of_ble_eq_true rfl) (by decide) (hz_cap0 _) ?_
  refine hz_goto (pc := 15) C (tgt := 22) dX10_count_15 rfl ?_
  exact hz_iret C Z rfl dX10_count_22 rfl rfl
set_option maxHeartbeats 4000000 in
set_option maxRecDepth 100000 in
theorem ev_count3M {I : Nat → Nat → Int32} {L : Nat → Nat → Int64} {q : Nat → Nat → Nat} {u : Nat → Nat} (V : MV I u) (U : WU u) : hz_Ev mX11_count TT NN (I, L, PP q) [.ref 146, .int (nI 3)] 0 0 (some (.int (nI (u 92)))) TT NN (I, L, PP q) := by
  refine hz_Ev.intro (ls := [some (.ref 146), some (.int (nI 3))]) (by decide +kernel) rfl (Nat.le_of_ble_eq_true rfl) (fun X C Z _ => ?_)
  refine hz_iload_n (pc := 0) C dX11_count_0 rfl ?_
  refine hz_iconst (pc := 1) C (v := nI 0) dX11_count_1 (by decide +kernel) ?_
  refine hz_bipush (pc := 2) C (v := nI 7) dX11_count_2 (by decide +kernel) ?_
  refine hz_callSs (pc := 4) C (as := [.int (nI 3), .int (nI 0), .int (nI 7)]) (st := []) (ev_in _ (nI 3) (nI 0) (nI 7)) (hz_new0 _ _) fyX11_in fsX11_52 rfl dX11_count_4 rfl rfl (Nat.le_of_ble_eq_true rfl) (by decide) (hz_cap0 _) ?_
  refine hz_ifb_eq (pc := 7) C (tgt := 18) dX11_count_7 rfl (fun cq => absurd (vin (Nat.zero_le _) (by decide) (by decide)) cq) (fun _ => ?_)
  refine hz_aload_n (pc := 10) C dX11_count_10 rfl ?_
  refine hz_iload_n (pc := 11) C dX11_count_11 rfl ?_
  refine hz_callVs (pc := 12) C (as := [.int (nI 3)]) (st := []) (ev_counted3 V U) (hz_new0 _ _) fyX11_counted fvX11_230 rfl dX11_count_12 hT146 rfl rfl hA146 rfl rfl (Nat.le_of_ble_eq_true rfl) (by decide) (hz_cap0 _) ?_
  refine hz_goto (pc := 15) C (tgt := 22) dX11_count_15 rfl ?_
  exact hz_iret C Z rfl dX11_count_22 rfl rfl
set_option maxHeartbeats 4000000 in
set_option maxRecDepth 100000 in
theorem ev_howMany4 {I : Nat → Nat → Int32} {L : Nat → Nat → Int64} {q : Nat → Nat → Nat} {u : Nat → Nat} (V : HV 12 q I u) (U : WU u) : hz_Ev mX10_howMany TT NN (I, L, PP q) [.ref 1, .int (nI 4)] 0 0 (some (.int (nI (csum (bt (u 93)) 6)))) TT NN (I, L, PP q) := by
  refine hz_Ev.intro (ls := [some (.ref 1), some (.int (nI 4))]) (by decide +kernel) rfl (Nat.le_of_ble_eq_true rfl) (fun X C Z _ => ?_)
  refine hz_iload_n (pc := 0) C dX10_howMany_0 rfl ?_
  refine hz_swIn (pc := 1) C (tgt := 85) dX10_howMany_1 (by decide +kernel) (by decide +kernel) (by rfl) (by decide +kernel) ?_
  refine hz_aload_n (pc := 85) C dX10_howMany_85 rfl ?_
  refine hz_getP (pc := 86) C (v := 12) ffX10_26 dX10_howMany_86 hT1 hA1 rfl (hP1_4 q) (by decide) ?_
  refine hz_getP (pc := 89) C (v := 19) ffX10_102 dX10_howMany_89 hT12 hA12 rfl (hP12_7 q) (by decide) ?_
  refine hz_getI (pc := 92) C (v := nI (u 93)) ffX10_149 dX10_howMany_92 hT19 hA19 rfl (hv_dn V) ?_
  refine hz_callSs (pc := 95) C (as := [.int (nI (u 93))]) (st := []) (by have h9 := ev_bitCount (T := TT) (n := NN) (I, L, PP q) (nI (u 93)); rw [bc_6 (wu_dn U)] at h9; exact h9) (hz_new0 _ _) fyJ6_bitCount_0f7a4 fsX10_238 rfl dX10_howMany_95 rfl rfl (Nat.le_of_ble_eq_true rfl) (by decide) (hz_cap0 _) ?_
  exact hz_iret C Z rfl dX10_howMany_98 rfl rfl
set_option maxHeartbeats 4000000 in
set_option maxRecDepth 100000 in
theorem ev_counted4 {I : Nat → Nat → Int32} {L : Nat → Nat → Int64} {q : Nat → Nat → Nat} {u : Nat → Nat} (V : MV I u) (U : WU u) : hz_Ev mX11_counted TT NN (I, L, PP q) [.ref 146, .int (nI 4)] 0 0 (some (.int (nI (csum (bt (u 93)) 6)))) TT NN (I, L, PP q) := by
  refine hz_Ev.intro (ls := [some (.ref 146), some (.int (nI 4))]) (by decide +kernel) rfl (Nat.le_of_ble_eq_true rfl) (fun X C Z _ => ?_)
  refine hz_iload_n (pc := 0) C dX11_counted_0 rfl ?_
  refine hz_swIn (pc := 1) C (tgt := 76) dX11_counted_1 (by decide +kernel) (by decide +kernel) (by rfl) (by decide +kernel) ?_
  refine hz_aload_n (pc := 76) C dX11_counted_76 rfl ?_
  refine hz_getP (pc := 77) C (v := 147) ffX11_7 dX11_counted_77 hT146 hA146 rfl (hP146_0 q) (by decide) ?_
  refine hz_bipush (pc := 80) C (v := nI 93) dX11_counted_80 (by decide +kernel) ?_
  refine hz_iald (pc := 82) C (v := nI (u 93)) (j := 93) dX11_counted_82 hT147 hA147 rfl (by decide) (by decide) (mg V (by omega) (by omega)) ?_
  refine hz_callSs (pc := 83) C (as := [.int (nI (u 93))]) (st := []) (ev_bitsM _ (d := u 93) (wu_dn U)) (hz_new0 _ _) fyX11_bits fsX11_188 rfl dX11_counted_83 rfl rfl (Nat.le_of_ble_eq_true rfl) (by decide) (hz_cap0 _) ?_
  exact hz_iret C Z rfl dX11_counted_86 rfl rfl
set_option maxHeartbeats 4000000 in
set_option maxRecDepth 100000 in
theorem ev_count4 {I : Nat → Nat → Int32} {L : Nat → Nat → Int64} {q : Nat → Nat → Nat} {u : Nat → Nat} (V : HV 12 q I u) (U : WU u) : hz_Ev mX10_count TT NN (I, L, PP q) [.ref 1, .int (nI 4)] 0 0 (some (.int (nI (csum (bt (u 93)) 6)))) TT NN (I, L, PP q) := by
  refine hz_Ev.intro (ls := [some (.ref 1), some (.int (nI 4))]) (by decide +kernel) rfl (Nat.le_of_ble_eq_true rfl) (fun X C Z _ => ?_)
  refine hz_iload_n (pc := 0) C dX10_count_0 rfl ?_
  refine hz_iconst (pc := 1) C (v := nI 0) dX10_count_1 (by decide +kernel) ?_
  refine hz_bipush (pc := 2) C (v := nI 7) dX10_count_2 (by decide +kernel) ?_
  refine hz_callSs (pc := 4) C (as := [.int (nI 4), .int (nI 0), .int (nI 7)]) (st := []) (ev_within _ (nI 4) (nI 0) (nI 7)) (hz_new0 _ _) fyX10_within fsX10_59 rfl dX10_count_4 rfl rfl (Nat.le_of_ble_eq_true rfl) (by decide) (hz_cap0 _) ?_
  refine hz_ifb_eq (pc := 7) C (tgt := 18) dX10_count_7 rfl (fun cq => absurd (vin (Nat.zero_le _) (by decide) (by decide)) cq) (fun _ => ?_)
  refine hz_aload_n (pc := 10) C dX10_count_10 rfl ?_
  refine hz_iload_n (pc := 11) C dX10_count_11 rfl ?_
  refine hz_callVs (pc := 12) C (as := [.int (nI 4)]) (st := []) (ev_howMany4 V U) (hz_new0 _ _) fyX10_howMany fvX10_273 rfl dX10_count_12 hT1 rfl rfl hA1 rfl rfl (Nat.le_of_ble_eq_true rfl) (by decide) (hz_cap0 _) ?_
  refine hz_goto (pc := 15) C (tgt := 22) dX10_count_15 rfl ?_
  exact hz_iret C Z rfl dX10_count_22 rfl rfl
set_option maxHeartbeats 4000000 in
set_option maxRecDepth 100000 in
theorem ev_count4M {I : Nat → Nat → Int32} {L : Nat → Nat → Int64} {q : Nat → Nat → Nat} {u : Nat → Nat} (V : MV I u) (U : WU u) : hz_Ev mX11_count TT NN (I, L, PP q) [.ref 146, .int (nI 4)] 0 0 (some (.int (nI (csum (bt (u 93)) 6)))) TT NN (I, L, PP q) := by
  refine hz_Ev.intro (ls := [some (.ref 146), some (.int (nI 4))]) (by decide +kernel) rfl (Nat.le_of_ble_eq_true rfl) (fun X C Z _ => ?_)
  refine hz_iload_n (pc := 0) C dX11_count_0 rfl ?_
  refine hz_iconst (pc := 1) C (v := nI 0) dX11_count_1 (by decide +kernel) ?_
  refine hz_bipush (pc := 2) C (v := nI 7) dX11_count_2 (by decide +kernel) ?_
  refine hz_callSs (pc := 4) C (as := [.int (nI 4), .int (nI 0), .int (nI 7)]) (st := []) (ev_in _ (nI 4) (nI 0) (nI 7)) (hz_new0 _ _) fyX11_in fsX11_52 rfl dX11_count_4 rfl rfl (Nat.le_of_ble_eq_true rfl) (by decide) (hz_cap0 _) ?_
  refine hz_ifb_eq (pc := 7) C (tgt := 18) dX11_count_7 rfl (fun cq => absurd (vin (Nat.zero_le _) (by decide) (by decide)) cq) (fun _ => ?_)
  refine hz_aload_n (pc := 10) C dX11_count_10 rfl ?_
  refine hz_iload_n (pc := 11) C dX11_count_11 rfl ?_
  refine hz_callVs (pc := 12) C (as := [.int (nI 4)]) (st := []) (ev_counted4 V U) (hz_new0 _ _) fyX11_counted fvX11_230 rfl dX11_count_12 hT146 rfl rfl hA146 rfl rfl (Nat.le_of_ble_eq_true rfl) (by decide) (hz_cap0 _) ?_
  refine hz_goto (pc := 15) C (tgt := 22) dX11_count_15 rfl ?_
  exact hz_iret C Z rfl dX11_count_22 rfl rfl
set_option maxHeartbeats 4000000 in
set_option maxRecDepth 100000 in
theorem ev_howMany5 {I : Nat → Nat → Int32} {L : Nat → Nat → Int64} {q : Nat → Nat → Nat} {u : Nat → Nat} (V : HV 12 q I u) (U : WU u) : hz_Ev mX10_howMany TT NN (I, L, PP q) [.ref 1, .int (nI 5)] 0 0 (some (.int (nI (u 77)))) TT NN (I, L, PP q) := by
  refine hz_Ev.intro (ls := [some (.ref 1), some (.int (nI 5))]) (by decide +kernel) rfl (Nat.le_of_ble_eq_true rfl) (fun X C Z _ => ?_)
  refine hz_iload_n (pc := 0) C dX10_howMany_0 rfl ?_
  refine hz_swIn (pc := 1) C (tgt := 99) dX10_howMany_1 (by decide +kernel) (by decide +kernel) (by rfl) (by decide +kernel) ?_
  refine hz_aload_n (pc := 99) C dX10_howMany_99 rfl ?_
  refine hz_getP (pc := 100) C (v := 12) ffX10_26 dX10_howMany_100 hT1 hA1 rfl (hP1_4 q) (by decide) ?_
  refine hz_getI (pc := 103) C (v := nI (u 77)) ffX10_219 dX10_howMany_103 hT12 hA12 rfl (hv_nt V) ?_
  exact hz_iret C Z rfl dX10_howMany_106 rfl rfl
set_option maxHeartbeats 4000000 in
set_option maxRecDepth 100000 in
theorem ev_counted5 {I : Nat → Nat → Int32} {L : Nat → Nat → Int64} {q : Nat → Nat → Nat} {u : Nat → Nat} (V : MV I u) (U : WU u) : hz_Ev mX11_counted TT NN (I, L, PP q) [.ref 146, .int (nI 5)] 0 0 (some (.int (nI (u 77)))) TT NN (I, L, PP q) := by
  refine hz_Ev.intro (ls := [some (.ref 146), some (.int (nI 5))]) (by decide +kernel) rfl (Nat.le_of_ble_eq_true rfl) (fun X C Z _ => ?_)
  refine hz_iload_n (pc := 0) C dX11_counted_0 rfl ?_
  refine hz_swIn (pc := 1) C (tgt := 87) dX11_counted_1 (by decide +kernel) (by decide +kernel) (by rfl) (by decide +kernel) ?_
  refine hz_aload_n (pc := 87) C dX11_counted_87 rfl ?_
  refine hz_getP (pc := 88) C (v := 147) ffX11_7 dX11_counted_88 hT146 hA146 rfl (hP146_0 q) (by decide) ?_
  refine hz_bipush (pc := 91) C (v := nI 77) dX11_counted_91 (by decide +kernel) ?_
  refine hz_iald (pc := 93) C (v := nI (u 77)) (j := 77) dX11_counted_93 hT147 hA147 rfl (by decide) (by decide) (mg V (by omega) (by omega)) ?_
  exact hz_iret C Z rfl dX11_counted_94 rfl rfl
set_option maxHeartbeats 4000000 in
set_option maxRecDepth 100000 in
theorem ev_count5 {I : Nat → Nat → Int32} {L : Nat → Nat → Int64} {q : Nat → Nat → Nat} {u : Nat → Nat} (V : HV 12 q I u) (U : WU u) : hz_Ev mX10_count TT NN (I, L, PP q) [.ref 1, .int (nI 5)] 0 0 (some (.int (nI (u 77)))) TT NN (I, L, PP q) := by
  refine hz_Ev.intro (ls := [some (.ref 1), some (.int (nI 5))]) (by decide +kernel) rfl (Nat.le_of_ble_eq_true rfl) (fun X C Z _ => ?_)
  refine hz_iload_n (pc := 0) C dX10_count_0 rfl ?_
  refine hz_iconst (pc := 1) C (v := nI 0) dX10_count_1 (by decide +kernel) ?_
  refine hz_bipush (pc := 2) C (v := nI 7) dX10_count_2 (by decide +kernel) ?_
  refine hz_callSs (pc := 4) C (as := [.int (nI 5), .int (nI 0), .int (nI 7)]) (st := []) (ev_within _ (nI 5) (nI 0) (nI 7)) (hz_new0 _ _) fyX10_within fsX10_59 rfl dX10_count_4 rfl rfl (Nat.le_of_ble_eq_true rfl) (by decide) (hz_cap0 _) ?_
  refine hz_ifb_eq (pc := 7) C (tgt := 18) dX10_count_7 rfl (fun cq => absurd (vin (Nat.zero_le _) (by decide) (by decide)) cq) (fun _ => ?_)
  refine hz_aload_n (pc := 10) C dX10_count_10 rfl ?_
  refine hz_iload_n (pc := 11) C dX10_count_11 rfl ?_
  refine hz_callVs (pc := 12) C (as := [.int (nI 5)]) (st := []) (ev_howMany5 V U) (hz_new0 _ _) fyX10_howMany fvX10_273 rfl dX10_count_12 hT1 rfl rfl hA1 rfl rfl (Nat.le_of_ble_eq_true rfl) (by decide) (hz_cap0 _) ?_
  refine hz_goto (pc := 15) C (tgt := 22) dX10_count_15 rfl ?_
  exact hz_iret C Z rfl dX10_count_22 rfl rfl
set_option maxHeartbeats 4000000 in
set_option maxRecDepth 100000 in
theorem ev_count5M {I : Nat → Nat → Int32} {L : Nat → Nat → Int64} {q : Nat → Nat → Nat} {u : Nat → Nat} (V : MV I u) (U : WU u) : hz_Ev mX11_count TT NN (I, L, PP q) [.ref 146, .int (nI 5)] 0 0 (some (.int (nI (u 77)))) TT NN (I, L, PP q) := by
  refine hz_Ev.intro (ls := [some (.ref 146), some (.int (nI 5))]) (by decide +kernel) rfl (Nat.le_of_ble_eq_true rfl) (fun X C Z _ => ?_)
  refine hz_iload_n (pc := 0) C dX11_count_0 rfl ?_
  refine hz_iconst (pc := 1) C (v := nI 0) dX11_count_1 (by decide +kernel) ?_
  refine hz_bipush (pc := 2) C (v := nI 7) dX11_count_2 (by decide +kernel) ?_
  refine hz_callSs (pc := 4) C (as := [.int (nI 5), .int (nI 0), .int (nI 7)]) (st := []) (ev_in _ (nI 5) (nI 0) (nI 7)) (hz_new0 _ _) fyX11_in fsX11_52 rfl dX11_count_4 rfl rfl (Nat.le_of_ble_eq_true rfl) (by decide) (hz_cap0 _) ?_
  refine hz_ifb_eq (pc := 7) C (tgt := 18) dX11_count_7 rfl (fun cq => absurd (vin (Nat.zero_le _) (by decide) (by decide)) cq) (fun _ => ?_)
  refine hz_aload_n (pc := 10) C dX11_count_10 rfl ?_
  refine hz_iload_n (pc := 11) C dX11_count_11 rfl ?_
  refine hz_callVs (pc := 12) C (as := [.int (nI 5)]) (st := []) (ev_counted5 V U) (hz_new0 _ _) fyX11_counted fvX11_230 rfl dX11_count_12 hT146 rfl rfl hA146 rfl rfl (Nat.le_of_ble_eq_true rfl) (by decide) (hz_cap0 _) ?_
  refine hz_goto (pc := 15) C (tgt := 22) dX11_count_15 rfl ?_
  exact hz_iret C Z rfl dX11_count_22 rfl rfl
set_option maxHeartbeats 4000000 in
set_option maxRecDepth 100000 in
theorem ev_howMany6 {I : Nat → Nat → Int32} {L : Nat → Nat → Int64} {q : Nat → Nat → Nat} {u : Nat → Nat} (V : HV 12 q I u) (U : WU u) : hz_Ev mX10_howMany TT NN (I, L, PP q) [.ref 1, .int (nI 6)] 0 0 (some (.int (nI (u 100)))) TT NN (I, L, PP q) := by
  refine hz_Ev.intro (ls := [some (.ref 1), some (.int (nI 6))]) (by decide +kernel) rfl (Nat.le_of_ble_eq_true rfl) (fun X C Z _ => ?_)
  refine hz_iload_n (pc := 0) C dX10_howMany_0 rfl ?_
  refine hz_swIn (pc := 1) C (tgt := 107) dX10_howMany_1 (by decide +kernel) (by decide +kernel) (by rfl) (by decide +kernel) ?_
  refine hz_aload_n (pc := 107) C dX10_howMany_107 rfl ?_
  refine hz_getP (pc := 108) C (v := 12) ffX10_26 dX10_howMany_108 hT1 hA1 rfl (hP1_4 q) (by decide) ?_
  refine hz_getI (pc := 111) C (v := nI (u 100)) ffX10_140 dX10_howMany_111 hT12 hA12 rfl (hv_un V) ?_
  exact hz_iret C Z rfl dX10_howMany_114 rfl rfl
set_option maxHeartbeats 4000000 in
set_option maxRecDepth 100000 in
theorem ev_counted6 {I : Nat → Nat → Int32} {L : Nat → Nat → Int64} {q : Nat → Nat → Nat} {u : Nat → Nat} (V : MV I u) (U : WU u) : hz_Ev mX11_counted TT NN (I, L, PP q) [.ref 146, .int (nI 6)] 0 0 (some (.int (nI (u 100)))) TT NN (I, L, PP q) := by
  refine hz_Ev.intro (ls := [some (.ref 146), some (.int (nI 6))]) (by decide +kernel) rfl (Nat.le_of_ble_eq_true rfl) (fun X C Z _ => ?_)
  refine hz_iload_n (pc := 0) C dX11_counted_0 rfl ?_
  refine hz_swIn (pc := 1) C (tgt := 95) dX11_counted_1 (by decide +kernel) (by decide +kernel) (by rfl) (by decide +kernel) ?_
  refine hz_aload_n (pc := 95) C dX11_counted_95 rfl ?_
  refine hz_getP (pc := 96) C (v := 147) ffX11_7 dX11_counted_96 hT146 hA146 rfl (hP146_0 q) (by decide) ?_
  refine hz_bipush (pc := 99) C (v := nI 100) dX11_counted_99 (by decide +kernel) ?_
  refine hz_iald (pc := 101) C (v := nI (u 100)) (j := 100) dX11_counted_101 hT147 hA147 rfl (by decide) (by decide) (mg V (by omega) (by omega)) ?_
  exact hz_iret C Z rfl dX11_counted_102 rfl rfl
set_option maxHeartbeats 4000000 in
set_option maxRecDepth 100000 in
theorem ev_count6 {I : Nat → Nat → Int32} {L : Nat → Nat → Int64} {q : Nat → Nat → Nat} {u : Nat → Nat} (V : HV 12 q I u) (U : WU u) : hz_Ev mX10_count TT NN (I, L, PP q) [.ref 1, .int (nI 6)] 0 0 (some (.int (nI (u 100)))) TT NN (I, L, PP q) := by
  refine hz_Ev.intro (ls := [some (.ref 1), some (.int (nI 6))]) (by decide +kernel) rfl (Nat.le_of_ble_eq_true rfl) (fun X C Z _ => ?_)
  refine hz_iload_n (pc := 0) C dX10_count_0 rfl ?_
  refine hz_iconst (pc := 1) C (v := nI 0) dX10_count_1 (by decide +kernel) ?_
  refine hz_bipush (pc := 2) C (v := nI 7) dX10_count_2 (by decide +kernel) ?_
  refine hz_callSs (pc := 4) C (as := [.int (nI 6), .int (nI 0), .int (nI 7)]) (st := []) (ev_within _ (nI 6) (nI 0) (nI 7)) (hz_new0 _ _) fyX10_within fsX10_59 rfl dX10_count_4 rfl rfl (Nat.le_of_ble_eq_true rfl) (by decide) (hz_cap0 _) ?_
  refine hz_ifb_eq (pc := 7) C (tgt := 18) dX10_count_7 rfl (fun cq => absurd (vin (Nat.zero_le _) (by decide) (by decide)) cq) (fun _ => ?_)
  refine hz_aload_n (pc := 10) C dX10_count_10 rfl ?_
  refine hz_iload_n (pc := 11) C dX10_count_11 rfl ?_
  refine hz_callVs (pc := 12) C (as := [.int (nI 6)]) (st := []) (ev_howMany6 V U) (hz_new0 _ _) fyX10_howMany fvX10_273 rfl dX10_count_12 hT1 rfl rfl hA1 rfl rfl (Nat.le_of_ble_eq_true rfl) (by decide) (hz_cap0 _) ?_
  refine hz_goto (pc := 15) C (tgt := 22) dX10_count_15 rfl ?_
  exact hz_iret C Z rfl dX10_count_22 rfl rfl
set_option maxHeartbeats 4000000 in
set_option maxRecDepth 100000 in
theorem ev_count6M {I : Nat → Nat → Int32} {L : Nat → Nat → Int64} {q : Nat → Nat → Nat} {u : Nat → Nat} (V : MV I u) (U : WU u) : hz_Ev mX11_count TT NN (I, L, PP q) [.ref 146, .int (nI 6)] 0 0 (some (.int (nI (u 100)))) TT NN (I, L, PP q) := by
  refine hz_Ev.intro (ls := [some (.ref 146), some (.int (nI 6))]) (by decide +kernel) rfl (Nat.le_of_ble_eq_true rfl) (fun X C Z _ => ?_)
  refine hz_iload_n (pc := 0) C dX11_count_0 rfl ?_
  refine hz_iconst (pc := 1) C (v := nI 0) dX11_count_1 (by decide +kernel) ?_
  refine hz_bipush (pc := 2) C (v := nI 7) dX11_count_2 (by decide +kernel) ?_
  refine hz_callSs (pc := 4) C (as := [.int (nI 6), .int (nI 0), .int (nI 7)]) (st := []) (ev_in _ (nI 6) (nI 0) (nI 7)) (hz_new0 _ _) fyX11_in fsX11_52 rfl dX11_count_4 rfl rfl (Nat.le_of_ble_eq_true rfl) (by decide) (hz_cap0 _) ?_
  refine hz_ifb_eq (pc := 7) C (tgt := 18) dX11_count_7 rfl (fun cq => absurd (vin (Nat.zero_le _) (by decide) (by decide)) cq) (fun _ => ?_)
  refine hz_aload_n (pc := 10) C dX11_count_10 rfl ?_
  refine hz_iload_n (pc := 11) C dX11_count_11 rfl ?_
  refine hz_callVs (pc := 12) C (as := [.int (nI 6)]) (st := []) (ev_counted6 V U) (hz_new0 _ _) fyX11_counted fvX11_230 rfl dX11_count_12 hT146 rfl rfl hA146 rfl rfl (Nat.le_of_ble_eq_true rfl) (by decide) (hz_cap0 _) ?_
  refine hz_goto (pc := 15) C (tgt := 22) dX11_count_15 rfl ?_
  exact hz_iret C Z rfl dX11_count_22 rfl rfl
set_option maxHeartbeats 4000000 in
set_option maxRecDepth 100000 in
theorem ev_howMany7 {I : Nat → Nat → Int32} {L : Nat → Nat → Int64} {q : Nat → Nat → Nat} {u : Nat → Nat} (V : HV 12 q I u) (U : WU u) : hz_Ev mX10_howMany TT NN (I, L, PP q) [.ref 1, .int (nI 7)] 0 0 (some (.int (I 2 1))) TT NN (I, L, PP q) := by
  refine hz_Ev.intro (ls := [some (.ref 1), some (.int (nI 7))]) (by decide +kernel) rfl (Nat.le_of_ble_eq_true rfl) (fun X C Z _ => ?_)
  refine hz_iload_n (pc := 0) C dX10_howMany_0 rfl ?_
  refine hz_swOut (pc := 1) C (tgt := 115) dX10_howMany_1 (by decide +kernel) (by decide +kernel) ?_
  refine hz_aload_n (pc := 115) C dX10_howMany_115 rfl ?_
  refine hz_getP (pc := 116) C (v := 2) ffX10_10 dX10_howMany_116 hT1 hA1 rfl (hP1_0 q) (by decide) ?_
  refine hz_getI (pc := 119) C (v := I 2 1) ffX10_84 dX10_howMany_119 hT2 hA2 rfl rfl ?_
  exact hz_iret C Z rfl dX10_howMany_122 rfl rfl
set_option maxHeartbeats 4000000 in
set_option maxRecDepth 100000 in
theorem ev_counted7 {I : Nat → Nat → Int32} {L : Nat → Nat → Int64} {q : Nat → Nat → Nat} {u : Nat → Nat} (V : MV I u) (U : WU u) : hz_Ev mX11_counted TT NN (I, L, PP q) [.ref 146, .int (nI 7)] 0 0 (some (.int (I 146 7))) TT NN (I, L, PP q) := by
  refine hz_Ev.intro (ls := [some (.ref 146), some (.int (nI 7))]) (by decide +kernel) rfl (Nat.le_of_ble_eq_true rfl) (fun X C Z _ => ?_)
  refine hz_iload_n (pc := 0) C dX11_counted_0 rfl ?_
  refine hz_swOut (pc := 1) C (tgt := 103) dX11_counted_1 (by decide +kernel) (by decide +kernel) ?_
  refine hz_aload_n (pc := 103) C dX11_counted_103 rfl ?_
  refine hz_getI (pc := 104) C (v := I 146 7) ffX11_71 dX11_counted_104 hT146 hA146 rfl rfl ?_
  exact hz_iret C Z rfl dX11_counted_107 rfl rfl
set_option maxHeartbeats 4000000 in
set_option maxRecDepth 100000 in
theorem ev_count7 {I : Nat → Nat → Int32} {L : Nat → Nat → Int64} {q : Nat → Nat → Nat} {u : Nat → Nat} (V : HV 12 q I u) (U : WU u) : hz_Ev mX10_count TT NN (I, L, PP q) [.ref 1, .int (nI 7)] 0 0 (some (.int (I 2 1))) TT NN (I, L, PP q) := by
  refine hz_Ev.intro (ls := [some (.ref 1), some (.int (nI 7))]) (by decide +kernel) rfl (Nat.le_of_ble_eq_true rfl) (fun X C Z _ => ?_)
  refine hz_iload_n (pc := 0) C dX10_count_0 rfl ?_
  refine hz_iconst (pc := 1) C (v := nI 0) dX10_count_1 (by decide +kernel) ?_
  refine hz_bipush (pc := 2) C (v := nI 7) dX10_count_2 (by decide +kernel) ?_
  refine hz_callSs (pc := 4) C (as := [.int (nI 7), .int (nI 0), .int (nI 7)]) (st := []) (ev_within _ (nI 7) (nI 0) (nI 7)) (hz_new0 _ _) fyX10_within fsX10_59 rfl dX10_count_4 rfl rfl (Nat.le_of_ble_eq_true rfl) (by decide) (hz_cap0 _) ?_
  refine hz_ifb_eq (pc := 7) C (tgt := 18) dX10_count_7 rfl (fun cq => absurd (vin (Nat.zero_le _) (by decide) (by decide)) cq) (fun _ => ?_)
  refine hz_aload_n (pc := 10) C dX10_count_10 rfl ?_
  refine hz_iload_n (pc := 11) C dX10_count_11 rfl ?_
  refine hz_callVs (pc := 12) C (as := [.int (nI 7)]) (st := []) (ev_howMany7 V U) (hz_new0 _ _) fyX10_howMany fvX10_273 rfl dX10_count_12 hT1 rfl rfl hA1 rfl rfl (Nat.le_of_ble_eq_true rfl) (by decide) (hz_cap0 _) ?_
  refine hz_goto (pc := 15) C (tgt := 22) dX10_count_15 rfl ?_
  exact hz_iret C Z rfl dX10_count_22 rfl rfl
set_option maxHeartbeats 4000000 in
set_option maxRecDepth 100000 in
theorem ev_count7M {I : Nat → Nat → Int32} {L : Nat → Nat → Int64} {q : Nat → Nat → Nat} {u : Nat → Nat} (V : MV I u) (U : WU u) : hz_Ev mX11_count TT NN (I, L, PP q) [.ref 146, .int (nI 7)] 0 0 (some (.int (I 146 7))) TT NN (I, L, PP q) := by
  refine hz_Ev.intro (ls := [some (.ref 146), some (.int (nI 7))]) (by decide +kernel) rfl (Nat.le_of_ble_eq_true rfl) (fun X C Z _ => ?_)
  refine hz_iload_n (pc := 0) C dX11_count_0 rfl ?_
  refine hz_iconst (pc := 1) C (v := nI 0) dX11_count_1 (by decide +kernel) ?_
  refine hz_bipush (pc := 2) C (v := nI 7) dX11_count_2 (by decide +kernel) ?_
  refine hz_callSs (pc := 4) C (as := [.int (nI 7), .int (nI 0), .int (nI 7)]) (st := []) (ev_in _ (nI 7) (nI 0) (nI 7)) (hz_new0 _ _) fyX11_in fsX11_52 rfl dX11_count_4 rfl rfl (Nat.le_of_ble_eq_true rfl) (by decide) (hz_cap0 _) ?_
  refine hz_ifb_eq (pc := 7) C (tgt := 18) dX11_count_7 rfl (fun cq => absurd (vin (Nat.zero_le _) (by decide) (by decide)) cq) (fun _ => ?_)
  refine hz_aload_n (pc := 10) C dX11_count_10 rfl ?_
  refine hz_iload_n (pc := 11) C dX11_count_11 rfl ?_
  refine hz_callVs (pc := 12) C (as := [.int (nI 7)]) (st := []) (ev_counted7 V U) (hz_new0 _ _) fyX11_counted fvX11_230 rfl dX11_count_12 hT146 rfl rfl hA146 rfl rfl (Nat.le_of_ble_eq_true rfl) (by decide) (hz_cap0 _) ?_
  refine hz_goto (pc := 15) C (tgt := 22) dX11_count_15 rfl ?_
  exact hz_iret C Z rfl dX11_count_22 rfl rfl
set_option maxHeartbeats 4000000 in
set_option maxRecDepth 100000 in
theorem ev_countX {I : Nat → Nat → Int32} {L : Nat → Nat → Int64} {q : Nat → Nat → Nat} {u : Nat → Nat} (V : HV 12 q I u) (U : WU u) (v1 : Int32) (hb : ¬ ((¬ v1 < nI 0 ∧ ¬ nI 7 < v1))) : hz_Ev mX10_count TT NN (I, L, PP q) [.ref 1, .int v1] 0 0 (some (.int (-2 : Int32))) TT NN (hz_up I 1 8 ((I 1 8) + (nI 1)), L, PP q) := by
  refine hz_Ev.intro (ls := [some (.ref 1), some (.int v1)]) (by decide +kernel) rfl (Nat.le_of_ble_eq_true rfl) (fun X C Z _ => ?_)
  refine hz_iload_n (pc := 0) C dX10_count_0 rfl ?_
  refine hz_iconst (pc := 1) C (v := nI 0) dX10_count_1 (by decide +kernel) ?_
  refine hz_bipush (pc := 2) C (v := nI 7) dX10_count_2 (by decide +kernel) ?_
  refine hz_callSs (pc := 4) C (as := [.int v1, .int (nI 0), .int (nI 7)]) (st := []) (ev_within _ v1 (nI 0) (nI 7)) (hz_new0 _ _) fyX10_within fsX10_59 rfl dX10_count_4 rfl rfl (Nat.le_of_ble_eq_true rfl) (by decide) (hz_cap0 _) ?_
  refine hz_ifb_eq (pc := 7) C (tgt := 18) dX10_count_7 rfl (fun c1 => ?_) (fun c1 => ?_)
  · refine hz_aload_n (pc := 18) C dX10_count_18 rfl ?_
    refine hz_callVs (pc := 19) C (as := []) (st := []) ev_refBad (hz_new0 _ _) fyX10_refuseBad fvX10_74 rfl dX10_count_19 hT1 rfl rfl hA1 rfl rfl (Nat.le_of_ble_eq_true rfl) (by decide) (hz_cap0 _) ?_
    exact hz_iret C Z rfl dX10_count_22 rfl rfl
  · exact absurd c1 hb
set_option maxHeartbeats 4000000 in
set_option maxRecDepth 100000 in
theorem ev_countXM {I : Nat → Nat → Int32} {L : Nat → Nat → Int64} {q : Nat → Nat → Nat} {u : Nat → Nat} (V : MV I u) (U : WU u) (v1 : Int32) (hb : ¬ ((¬ v1 < nI 0 ∧ ¬ nI 7 < v1))) : hz_Ev mX11_count TT NN (I, L, PP q) [.ref 146, .int v1] 0 0 (some (.int (-2 : Int32))) TT NN (hz_up I 151 0 ((I 151 0) + (nI 1)), L, PP q) := by
  refine hz_Ev.intro (ls := [some (.ref 146), some (.int v1)]) (by decide +kernel) rfl (Nat.le_of_ble_eq_true rfl) (fun X C Z _ => ?_)
  refine hz_iload_n (pc := 0) C dX11_count_0 rfl ?_
  refine hz_iconst (pc := 1) C (v := nI 0) dX11_count_1 (by decide +kernel) ?_
  refine hz_bipush (pc := 2) C (v := nI 7) dX11_count_2 (by decide +kernel) ?_
  refine hz_callSs (pc := 4) C (as := [.int v1, .int (nI 0), .int (nI 7)]) (st := []) (ev_in _ v1 (nI 0) (nI 7)) (hz_new0 _ _) fyX11_in fsX11_52 rfl dX11_count_4 rfl rfl (Nat.le_of_ble_eq_true rfl) (by decide) (hz_cap0 _) ?_
  refine hz_ifb_eq (pc := 7) C (tgt := 18) dX11_count_7 rfl (fun c1 => ?_) (fun c1 => ?_)
  · refine hz_aload_n (pc := 18) C dX11_count_18 rfl ?_
    refine hz_callVs (pc := 19) C (as := []) (st := []) ev_bad (hz_new0 _ _) fyX11_bad fvX11_60 rfl dX11_count_19 hT146 rfl rfl hA146 rfl rfl (Nat.le_of_ble_eq_true rfl) (by decide) (hz_cap0 _) ?_
    exact hz_iret C Z rfl dX11_count_22 rfl rfl
  · exact absurd c1 hb
set_option maxHeartbeats 4000000 in
set_option maxRecDepth 100000 in
theorem ev_status0 {I : Nat → Nat → Int32} {L : Nat → Nat → Int64} {q : Nat → Nat → Nat} : hz_Ev mX10_status TT NN (I, L, PP q) [.ref 1, .int (nI 0)] 0 0 (some (.int (I 1 8))) TT NN (I, L, PP q) := by
  refine hz_Ev.intro (ls := [some (.ref 1), some (.int (nI 0))]) (by decide +kernel) rfl (Nat.le_of_ble_eq_true rfl) (fun X C Z _ => ?_)
  refine hz_iload_n (pc := 0) C dX10_status_0 rfl ?_
  refine hz_swIn (pc := 1) C (tgt := 28) dX10_status_1 (by decide +kernel) (by decide +kernel) (by rfl) (by decide +kernel) ?_
  refine hz_aload_n (pc := 28) C dX10_status_28 rfl ?_
  refine hz_getI (pc := 29) C (v := I 1 8) ffX10_63 dX10_status_29 hT1 hA1 rfl rfl ?_
  exact hz_iret C Z rfl dX10_status_32 rfl rfl
set_option maxHeartbeats 4000000 in
set_option maxRecDepth 100000 in
theorem ev_status0M {I : Nat → Nat → Int32} {L : Nat → Nat → Int64} {q : Nat → Nat → Nat} : hz_Ev mX11_status TT NN (I, L, PP q) [.ref 146, .int (nI 0)] 0 0 (some (.int (I 151 0))) TT NN (I, L, PP q) := by
  refine hz_Ev.intro (ls := [some (.ref 146), some (.int (nI 0))]) (by decide +kernel) rfl (Nat.le_of_ble_eq_true rfl) (fun X C Z _ => ?_)
  refine hz_iload_n (pc := 0) C dX11_status_0 rfl ?_
  refine hz_iconst (pc := 1) C (v := nI 0) dX11_status_1 (by decide +kernel) ?_
  refine hz_iconst (pc := 2) C (v := nI 2) dX11_status_2 (by decide +kernel) ?_
  refine hz_callSs (pc := 3) C (as := [.int (nI 0), .int (nI 0), .int (nI 2)]) (st := []) (ev_in _ (nI 0) (nI 0) (nI 2)) (hz_new0 _ _) fyX11_in fsX11_52 rfl dX11_status_3 rfl rfl (Nat.le_of_ble_eq_true rfl) (by decide) (hz_cap0 _) ?_
  refine hz_ifb_ne (pc := 6) C (tgt := 21) dX11_status_6 rfl (fun _ => ?_) (fun cq => absurd (vin (Nat.zero_le _) (by decide) (by decide)) cq)
  refine hz_aload_n (pc := 21) C dX11_status_21 rfl ?_
  refine hz_getP (pc := 22) C (v := 151) ffX11_23 dX11_status_22 hT146 hA146 rfl (hP146_4 q) (by decide) ?_
  refine hz_iload_n (pc := 25) C dX11_status_25 rfl ?_
  refine hz_iald (pc := 26) C (v := I 151 0) (j := 0) dX11_status_26 hT151 hA151 rfl (by decide) (by decide) rfl ?_
  exact hz_iret C Z rfl dX11_status_27 rfl rfl
set_option maxHeartbeats 4000000 in
set_option maxRecDepth 100000 in
theorem ev_status1 {I : Nat → Nat → Int32} {L : Nat → Nat → Int64} {q : Nat → Nat → Nat} : hz_Ev mX10_status TT NN (I, L, PP q) [.ref 1, .int (nI 1)] 0 0 (some (.int (I 1 9))) TT NN (I, L, PP q) := by
  refine hz_Ev.intro (ls := [some (.ref 1), some (.int (nI 1))]) (by decide +kernel) rfl (Nat.le_of_ble_eq_true rfl) (fun X C Z _ => ?_)
  refine hz_iload_n (pc := 0) C dX10_status_0 rfl ?_
  refine hz_swIn (pc := 1) C (tgt := 33) dX10_status_1 (by decide +kernel) (by decide +kernel) (by rfl) (by decide +kernel) ?_
  refine hz_aload_n (pc := 33) C dX10_status_33 rfl ?_
  refine hz_getI (pc := 34) C (v := I 1 9) ffX10_267 dX10_status_34 hT1 hA1 rfl rfl ?_
  exact hz_iret C Z rfl dX10_status_37 rfl rfl
set_option maxHeartbeats 4000000 in
set_option maxRecDepth 100000 in
theorem ev_status1M {I : Nat → Nat → Int32} {L : Nat → Nat → Int64} {q : Nat → Nat → Nat} : hz_Ev mX11_status TT NN (I, L, PP q) [.ref 146, .int (nI 1)] 0 0 (some (.int (I 151 1))) TT NN (I, L, PP q) := by
  refine hz_Ev.intro (ls := [some (.ref 146), some (.int (nI 1))]) (by decide +kernel) rfl (Nat.le_of_ble_eq_true rfl) (fun X C Z _ => ?_)
  refine hz_iload_n (pc := 0) C dX11_status_0 rfl ?_
  refine hz_iconst (pc := 1) C (v := nI 0) dX11_status_1 (by decide +kernel) ?_
  refine hz_iconst (pc := 2) C (v := nI 2) dX11_status_2 (by decide +kernel) ?_
  refine hz_callSs (pc := 3) C (as := [.int (nI 1), .int (nI 0), .int (nI 2)]) (st := []) (ev_in _ (nI 1) (nI 0) (nI 2)) (hz_new0 _ _) fyX11_in fsX11_52 rfl dX11_status_3 rfl rfl (Nat.le_of_ble_eq_true rfl) (by decide) (hz_cap0 _) ?_
  refine hz_ifb_ne (pc := 6) C (tgt := 21) dX11_status_6 rfl (fun _ => ?_) (fun cq => absurd (vin (Nat.zero_le _) (by decide) (by decide)) cq)
  refine hz_aload_n (pc := 21) C dX11_status_21 rfl ?_
  refine hz_getP (pc := 22) C (v := 151) ffX11_23 dX11_status_22 hT146 hA146 rfl (hP146_4 q) (by decide) ?_
  refine hz_iload_n (pc := 25) C dX11_status_25 rfl ?_
  refine hz_iald (pc := 26) C (v := I 151 1) (j := 1) dX11_status_26 hT151 hA151 rfl (by decide) (by decide) rfl ?_
  exact hz_iret C Z rfl dX11_status_27 rfl rfl
set_option maxHeartbeats 4000000 in
set_option maxRecDepth 100000 in
theorem ev_status2 {I : Nat → Nat → Int32} {L : Nat → Nat → Int64} {q : Nat → Nat → Nat} : hz_Ev mX10_status TT NN (I, L, PP q) [.ref 1, .int (nI 2)] 0 0 (some (.int (I 1 10))) TT NN (I, L, PP q) := by
  refine hz_Ev.intro (ls := [some (.ref 1), some (.int (nI 2))]) (by decide +kernel) rfl (Nat.le_of_ble_eq_true rfl) (fun X C Z _ => ?_)
  refine hz_iload_n (pc := 0) C dX10_status_0 rfl ?_
  refine hz_swIn (pc := 1) C (tgt := 38) dX10_status_1 (by decide +kernel) (by decide +kernel) (by rfl) (by decide +kernel) ?_
  refine hz_aload_n (pc := 38) C dX10_status_38 rfl ?_
  refine hz_getI (pc := 39) C (v := I 1 10) ffX10_270 dX10_status_39 hT1 hA1 rfl rfl ?_
  exact hz_iret C Z rfl dX10_status_42 rfl rfl
set_option maxHeartbeats 4000000 in
set_option maxRecDepth 100000 in
theorem ev_status2M {I : Nat → Nat → Int32} {L : Nat → Nat → Int64} {q : Nat → Nat → Nat} : hz_Ev mX11_status TT NN (I, L, PP q) [.ref 146, .int (nI 2)] 0 0 (some (.int (I 151 2))) TT NN (I, L, PP q) := by
  refine hz_Ev.intro (ls := [some (.ref 146), some (.int (nI 2))]) (by decide +kernel) rfl (Nat.le_of_ble_eq_true rfl) (fun X C Z _ => ?_)
  refine hz_iload_n (pc := 0) C dX11_status_0 rfl ?_
  refine hz_iconst (pc := 1) C (v := nI 0) dX11_status_1 (by decide +kernel) ?_
  refine hz_iconst (pc := 2) C (v := nI 2) dX11_status_2 (by decide +kernel) ?_
  refine hz_callSs (pc := 3) C (as := [.int (nI 2), .int (nI 0), .int (nI 2)]) (st := []) (ev_in _ (nI 2) (nI 0) (nI 2)) (hz_new0 _ _) fyX11_in fsX11_52 rfl dX11_status_3 rfl rfl (Nat.le_of_ble_eq_true rfl) (by decide) (hz_cap0 _) ?_
  refine hz_ifb_ne (pc := 6) C (tgt := 21) dX11_status_6 rfl (fun _ => ?_) (fun cq => absurd (vin (Nat.zero_le _) (by decide) (by decide)) cq)
  refine hz_aload_n (pc := 21) C dX11_status_21 rfl ?_
  refine hz_getP (pc := 22) C (v := 151) ffX11_23 dX11_status_22 hT146 hA146 rfl (hP146_4 q) (by decide) ?_
  refine hz_iload_n (pc := 25) C dX11_status_25 rfl ?_
  refine hz_iald (pc := 26) C (v := I 151 2) (j := 2) dX11_status_26 hT151 hA151 rfl (by decide) (by decide) rfl ?_
  exact hz_iret C Z rfl dX11_status_27 rfl rfl
set_option maxHeartbeats 4000000 in
set_option maxRecDepth 100000 in
theorem ev_statusX {I : Nat → Nat → Int32} {L : Nat → Nat → Int64} {q : Nat → Nat → Nat} (v : Int32) (hv : ¬ (¬ v < nI 0 ∧ ¬ nI 2 < v)) : hz_Ev mX10_status TT NN (I, L, PP q) [.ref 1, .int v] 0 0 (some (.int (-1 : Int32))) TT NN (hz_up I 1 8 ((I 1 8) + (nI 1)), L, PP q) := by
  refine hz_Ev.intro (ls := [some (.ref 1), some (.int v)]) (by decide +kernel) rfl (Nat.le_of_ble_eq_true rfl) (fun X C Z _ => ?_)
  refine hz_iload_n (pc := 0) C dX10_status_0 rfl ?_
  refine hz_swOut (pc := 1) C (tgt := 43) dX10_status_1 (vout (by decide) hv) (by decide +kernel) ?_
  refine hz_aload_n (pc := 43) C dX10_status_43 rfl ?_
  refine hz_dup (pc := 44) C dX10_status_44 rfl ?_
  refine hz_getI (pc := 45) C (v := I 1 8) ffX10_63 dX10_status_45 hT1 hA1 rfl rfl ?_
  refine hz_iconst (pc := 48) C (v := nI 1) dX10_status_48 (by decide +kernel) ?_
  refine hz_iadd (pc := 49) C dX10_status_49 rfl ?_
  refine hz_putI (pc := 50) C (M' := (hz_up I 1 8 ((I 1 8) + (nI 1)), L, PP q)) ffX10_63 dX10_status_50 hT1 hA1 rfl rfl ⟨rfl, rfl⟩ rfl ?_
  refine hz_iconst (pc := 53) C (v := (-1 : Int32)) dX10_status_53 (by decide +kernel) ?_
  exact hz_iret C Z rfl dX10_status_54 rfl rfl
set_option maxHeartbeats 4000000 in
set_option maxRecDepth 100000 in
theorem ev_statusXM {I : Nat → Nat → Int32} {L : Nat → Nat → Int64} {q : Nat → Nat → Nat} (v : Int32) (hv : ¬ (¬ v < nI 0 ∧ ¬ nI 2 < v)) : hz_Ev mX11_status TT NN (I, L, PP q) [.ref 146, .int v] 0 0 (some (.int (-1 : Int32))) TT NN (hz_up I 151 0 ((I 151 0) + (nI 1)), L, PP q) := by
  refine hz_Ev.intro (ls := [some (.ref 146), some (.int v)]) (by decide +kernel) rfl (Nat.le_of_ble_eq_true rfl) (fun X C Z _ => ?_)
  refine hz_iload_n (pc := 0) C dX11_status_0 rfl ?_
  refine hz_iconst (pc := 1) C (v := nI 0) dX11_status_1 (by decide +kernel) ?_
  refine hz_iconst (pc := 2) C (v := nI 2) dX11_status_2 (by decide +kernel) ?_
  refine hz_callSs (pc := 3) C (as := [.int v, .int (nI 0), .int (nI 2)]) (st := []) (ev_in _ v (nI 0) (nI 2)) (hz_new0 _ _) fyX11_in fsX11_52 rfl dX11_status_3 rfl rfl (Nat.le_of_ble_eq_true rfl) (by decide) (hz_cap0 _) ?_
  refine hz_ifb_ne (pc := 6) C (tgt := 21) dX11_status_6 rfl (fun c1 => ?_) (fun c1 => ?_)
  · exact absurd c1 hv
  · refine hz_aload_n (pc := 9) C dX11_status_9 rfl ?_
    refine hz_getP (pc := 10) C (v := 151) ffX11_23 dX11_status_10 hT146 hA146 rfl (hP146_4 q) (by decide) ?_
    refine hz_iconst (pc := 13) C (v := nI 0) dX11_status_13 (by decide +kernel) ?_
    refine hz_dup2 (pc := 14) C dX11_status_14 rfl rfl ?_
    refine hz_iald (pc := 15) C (v := I 151 0) (j := 0) dX11_status_15 hT151 hA151 rfl (by decide) (by decide) rfl ?_
    refine hz_iconst (pc := 16) C (v := nI 1) dX11_status_16 (by decide +kernel) ?_
    refine hz_iadd (pc := 17) C dX11_status_17 rfl ?_
    refine hz_iast (pc := 18) C (v := (I 151 0) + (nI 1)) (j := 0) (M' := (hz_up I 151 0 ((I 151 0) + (nI 1)), L, PP q)) dX11_status_18 hT151 hA151 rfl (by decide) (by decide) rfl rfl ?_
    refine hz_iconst (pc := 19) C (v := (-1 : Int32)) dX11_status_19 (by decide +kernel) ?_
    exact hz_iret C Z rfl dX11_status_20 rfl rfl
set_option maxHeartbeats 4000000 in
set_option maxRecDepth 100000 in
theorem ev_part0 {I : Nat → Nat → Int32} {L : Nat → Nat → Int64} {q : Nat → Nat → Nat} : hz_Ev mX10_part TT NN (I, L, PP q) [.ref 1, .int (nI 0)] 0 0 (some (.long (L 1 6))) TT NN (I, L, PP q) := by
  refine hz_Ev.intro (ls := [some (.ref 1), some (.int (nI 0))]) (by decide +kernel) rfl (Nat.le_of_ble_eq_true rfl) (fun X C Z _ => ?_)
  refine hz_iload_n (pc := 0) C dX10_part_0 rfl ?_
  refine hz_iconst (pc := 1) C (v := nI 0) dX10_part_1 (by decide +kernel) ?_
  refine hz_iconst (pc := 2) C (v := nI 1) dX10_part_2 (by decide +kernel) ?_
  refine hz_callSs (pc := 3) C (as := [.int (nI 0), .int (nI 0), .int (nI 1)]) (st := []) (ev_within _ (nI 0) (nI 0) (nI 1)) (hz_new0 _ _) fyX10_within fsX10_59 rfl dX10_part_3 rfl rfl (Nat.le_of_ble_eq_true rfl) (by decide) (hz_cap0 _) ?_
  refine hz_ifb_ne (pc := 6) C (tgt := 15) dX10_part_6 rfl (fun _ => ?_) (fun cq => absurd (vin (Nat.zero_le _) (by decide) (by decide)) cq)
  refine hz_iload_n (pc := 15) C dX10_part_15 rfl ?_
  refine hz_if_ne (pc := 16) C (tgt := 26) dX10_part_16 rfl (fun cq => absurd (by decide +kernel) cq) (fun _ => ?_)
  refine hz_aload_n (pc := 19) C dX10_part_19 rfl ?_
  refine hz_getL (pc := 20) C (v := L 1 6) ffX10_41 dX10_part_20 hT1 hA1 rfl rfl ?_
  refine hz_goto (pc := 23) C (tgt := 30) dX10_part_23 rfl ?_
  exact hz_lret C Z rfl dX10_part_30 rfl rfl
set_option maxHeartbeats 4000000 in
set_option maxRecDepth 100000 in
theorem ev_part0M {I : Nat → Nat → Int32} {L : Nat → Nat → Int64} {q : Nat → Nat → Nat} : hz_Ev mX11_part TT NN (I, L, PP q) [.ref 146, .int (nI 0)] 0 0 (some (.long (L 146 5))) TT NN (I, L, PP q) := by
  refine hz_Ev.intro (ls := [some (.ref 146), some (.int (nI 0))]) (by decide +kernel) rfl (Nat.le_of_ble_eq_true rfl) (fun X C Z _ => ?_)
  refine hz_iload_n (pc := 0) C dX11_part_0 rfl ?_
  refine hz_if_ne (pc := 1) C (tgt := 11) dX11_part_1 rfl (fun cq => absurd (by decide +kernel) cq) (fun _ => ?_)
  refine hz_aload_n (pc := 4) C dX11_part_4 rfl ?_
  refine hz_getL (pc := 5) C (v := L 146 5) ffX11_214 dX11_part_5 hT146 hA146 rfl rfl ?_
  refine hz_goto (pc := 8) C (tgt := 28) dX11_part_8 rfl ?_
  exact hz_lret C Z rfl dX11_part_28 rfl rfl
set_option maxHeartbeats 4000000 in
set_option maxRecDepth 100000 in
theorem ev_part1 {I : Nat → Nat → Int32} {L : Nat → Nat → Int64} {q : Nat → Nat → Nat} : hz_Ev mX10_part TT NN (I, L, PP q) [.ref 1, .int (nI 1)] 0 0 (some (.long (L 1 7))) TT NN (I, L, PP q) := by
  refine hz_Ev.intro (ls := [some (.ref 1), some (.int (nI 1))]) (by decide +kernel) rfl (Nat.le_of_ble_eq_true rfl) (fun X C Z _ => ?_)
  refine hz_iload_n (pc := 0) C dX10_part_0 rfl ?_
  refine hz_iconst (pc := 1) C (v := nI 0) dX10_part_1 (by decide +kernel) ?_
  refine hz_iconst (pc := 2) C (v := nI 1) dX10_part_2 (by decide +kernel) ?_
  refine hz_callSs (pc := 3) C (as := [.int (nI 1), .int (nI 0), .int (nI 1)]) (st := []) (ev_within _ (nI 1) (nI 0) (nI 1)) (hz_new0 _ _) fyX10_within fsX10_59 rfl dX10_part_3 rfl rfl (Nat.le_of_ble_eq_true rfl) (by decide) (hz_cap0 _) ?_
  refine hz_ifb_ne (pc := 6) C (tgt := 15) dX10_part_6 rfl (fun _ => ?_) (fun cq => absurd (vin (Nat.zero_le _) (by decide) (by decide)) cq)
  refine hz_iload_n (pc := 15) C dX10_part_15 rfl ?_
  refine hz_if_ne (pc := 16) C (tgt := 26) dX10_part_16 rfl (fun _ => ?_) (fun cq => absurd cq (by decide +kernel))
  refine hz_aload_n (pc := 26) C dX10_part_26 rfl ?_
  refine hz_getL (pc := 27) C (v := L 1 7) ffX10_45 dX10_part_27 hT1 hA1 rfl rfl ?_
  exact hz_lret C Z rfl dX10_part_30 rfl rfl
set_option maxHeartbeats 4000000 in
set_option maxRecDepth 100000 in
theorem ev_part1M {I : Nat → Nat → Int32} {L : Nat → Nat → Int64} {q : Nat → Nat → Nat} : hz_Ev mX11_part TT NN (I, L, PP q) [.ref 146, .int (nI 1)] 0 0 (some (.long (L 146 6))) TT NN (I, L, PP q) := by
  refine hz_Ev.intro (ls := [some (.ref 146), some (.int (nI 1))]) (by decide +kernel) rfl (Nat.le_of_ble_eq_true rfl) (fun X C Z _ => ?_)
  refine hz_iload_n (pc := 0) C dX11_part_0 rfl ?_
  refine hz_if_ne (pc := 1) C (tgt := 11) dX11_part_1 rfl (fun _ => ?_) (fun cq => absurd cq (by decide +kernel))
  refine hz_iload_n (pc := 11) C dX11_part_11 rfl ?_
  refine hz_iconst (pc := 12) C (v := nI 1) dX11_part_12 (by decide +kernel) ?_
  refine hz_ic_ne (pc := 13) C (tgt := 23) dX11_part_13 rfl (fun cq => absurd (by decide +kernel) cq) (fun _ => ?_)
  refine hz_aload_n (pc := 16) C dX11_part_16 rfl ?_
  refine hz_getL (pc := 17) C (v := L 146 6) ffX11_26 dX11_part_17 hT146 hA146 rfl rfl ?_
  refine hz_goto (pc := 20) C (tgt := 28) dX11_part_20 rfl ?_
  exact hz_lret C Z rfl dX11_part_28 rfl rfl
set_option maxHeartbeats 4000000 in
set_option maxRecDepth 100000 in
theorem ev_partX {I : Nat → Nat → Int32} {L : Nat → Nat → Int64} {q : Nat → Nat → Nat} (v : Int32) (hv : ¬ (¬ v < nI 0 ∧ ¬ nI 1 < v)) : hz_Ev mX10_part TT NN (I, L, PP q) [.ref 1, .int v] 0 0 (some (.long ((-2 : Int32).toInt64))) TT NN (hz_up I 1 8 ((I 1 8) + (nI 1)), L, PP q) := by
  refine hz_Ev.intro (ls := [some (.ref 1), some (.int v)]) (by decide +kernel) rfl (Nat.le_of_ble_eq_true rfl) (fun X C Z _ => ?_)
  refine hz_iload_n (pc := 0) C dX10_part_0 rfl ?_
  refine hz_iconst (pc := 1) C (v := nI 0) dX10_part_1 (by decide +kernel) ?_
  refine hz_iconst (pc := 2) C (v := nI 1) dX10_part_2 (by decide +kernel) ?_
  refine hz_callSs (pc := 3) C (as := [.int v, .int (nI 0), .int (nI 1)]) (st := []) (ev_within _ v (nI 0) (nI 1)) (hz_new0 _ _) fyX10_within fsX10_59 rfl dX10_part_3 rfl rfl (Nat.le_of_ble_eq_true rfl) (by decide) (hz_cap0 _) ?_
  refine hz_ifb_ne (pc := 6) C (tgt := 15) dX10_part_6 rfl (fun c1 => ?_) (fun c1 => ?_)
  · exact absurd c1 hv
  · refine hz_aload_n (pc := 9) C dX10_part_9 rfl ?_
    refine hz_callVs (pc := 10) C (as := []) (st := []) ev_refBad (hz_new0 _ _) fyX10_refuseBad fvX10_74 rfl dX10_part_10 hT1 rfl rfl hA1 rfl rfl (Nat.le_of_ble_eq_true rfl) (by decide) (hz_cap0 _) ?_
    refine hz_i2l (pc := 13) C dX10_part_13 rfl ?_
    exact hz_lret C Z rfl dX10_part_14 rfl rfl
set_option maxHeartbeats 4000000 in
set_option maxRecDepth 100000 in
theorem ev_partXM {I : Nat → Nat → Int32} {L : Nat → Nat → Int64} {q : Nat → Nat → Nat} (v : Int32) (hv : ¬ (¬ v < nI 0 ∧ ¬ nI 1 < v)) : hz_Ev mX11_part TT NN (I, L, PP q) [.ref 146, .int v] 0 0 (some (.long ((-2 : Int32).toInt64))) TT NN (hz_up I 151 0 ((I 151 0) + (nI 1)), L, PP q) := by
  refine hz_Ev.intro (ls := [some (.ref 146), some (.int v)]) (by decide +kernel) rfl (Nat.le_of_ble_eq_true rfl) (fun X C Z _ => ?_)
  refine hz_iload_n (pc := 0) C dX11_part_0 rfl ?_
  refine hz_if_ne (pc := 1) C (tgt := 11) dX11_part_1 rfl (fun c1 => ?_) (fun c1 => ?_)
  · refine hz_iload_n (pc := 11) C dX11_part_11 rfl ?_
    refine hz_iconst (pc := 12) C (v := nI 1) dX11_part_12 (by decide +kernel) ?_
    refine hz_ic_ne (pc := 13) C (tgt := 23) dX11_part_13 rfl (fun c2 => ?_) (fun c2 => ?_)
    · refine hz_aload_n (pc := 23) C dX11_part_23 rfl ?_
      refine hz_callVs (pc := 24) C (as := []) (st := []) ev_bad (hz_new0 _ _) fyX11_bad fvX11_60 rfl dX11_part_24 hT146 rfl rfl hA146 rfl rfl (Nat.le_of_ble_eq_true rfl) (by decide) (hz_cap0 _) ?_
      refine hz_i2l (pc := 27) C dX11_part_27 rfl ?_
      exact hz_lret C Z rfl dX11_part_28 rfl rfl
    · exact absurd (show ¬ v < nI 0 ∧ ¬ nI 1 < v by subst c2; decide +kernel) hv
  · exact absurd (show ¬ v < nI 0 ∧ ¬ nI 1 < v by subst c1; decide +kernel) hv

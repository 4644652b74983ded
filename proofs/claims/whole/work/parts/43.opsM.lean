theorem MV.ext {K : Nat → Nat → Int32} {u u' : Nat → Nat} (V : MV K u) (h : u = u') : MV K u' := h ▸ V
theorem va_comm (f : Nat → Nat) {i j : Nat} (h : i ≠ j) (x y : Nat) : va_up (va_up f i x) j y = va_up (va_up f j y) i x := by
  funext k
  simp only [va_up]
  split <;> split <;> first | rfl | omega
theorem mv_upR {I : Nat → Nat → Int32} {u : Nat → Nat} (V : MV I u) {i x : Nat} : MV (hz_up I 147 (78 + 2 * i) (nI x)) (va_up u (78 + 2 * i) x) := by
  intro j hj
  by_cases e : j = 78 + 2 * i
  · subst e; rw [hz_up_self, mv_r, va_up_self]
  · rw [hz_up_nk _ _ _ _ e, V j hj, mv_c (va_up_ne u x e)]
theorem kbm {K : Nat → Nat → Int32} {u : Nat → Nat} (V : MV K (kb u)) {j : Nat} (h : j < 100) (h2 : j < 79 ∨ 89 < j) : K 147 j = nI (u j) := (mg V (by omega) h2).trans (congrArg nI (kb_lo u h))
theorem dv_t {x : Nat} (h : ¬ nI x = 0) : nI x = dv x := (dv_nz (fun z => h (by rw [z, nI_0]))).symm
theorem dv_f {x : Nat} (h : nI x = 0) (hx : x ≤ 9) : (-1 : Int32) = dv x := by
  have h9 : x = 0 := (nI_eq (by omega) (by omega)).mp (h.trans nI_0.symm)
  rw [h9]; rfl
theorem nm1 {d : Nat} (h : d < 2 ^ 31) : ¬ nI d = (-1 : Int32) := fun z => by
  have h1 := nI_pos h
  rw [z] at h1
  exact h1 (by decide)
set_option maxHeartbeats 4000000 in
set_option maxRecDepth 100000 in
theorem ex_houseM {I : Nat → Nat → Int32} {L : Nat → Nat → Int64} {q : Nat → Nat → Nat} {u : Nat → Nat} (V : MV I u) (U : WU u) : hz_Ex mX11_house TT NN (I, L, PP q) [.ref 146] (hz_PI L (PP q) (some (.int (nI (u 64)))) (fun K => MV K (u0) ∧ kpM I K)) := by
  refine hz_Ex.intro (ls := [some (.ref 146), none]) (by decide +kernel) rfl (Nat.le_of_ble_eq_true rfl) (fun X C Z => ?_)
  refine hz_aload_n (pc := 0) C dX11_house_0 rfl ?_
  refine hz_getP (pc := 1) C (v := 147) ffX11_7 dX11_house_1 hT146 hA146 rfl (hP146_0 q) (by decide) ?_
  refine hz_bipush (pc := 4) C (v := nI 64) dX11_house_4 (by decide +kernel) ?_
  refine hz_iald (pc := 6) C (v := nI (u 64)) (j := 64) dX11_house_6 hT147 hA147 rfl (by decide) (by decide) (mg V (j := 64) (by omega) (by omega)) ?_
  refine hz_istore_n (pc := 7) C (ls' := [some (.ref 146), some (.int (nI (u 64)))]) dX11_house_7 (Nat.le_of_ble_eq_true rfl) rfl ?_
  refine hz_aload_n (pc := 8) C dX11_house_8 rfl ?_
  refine hz_getP (pc := 9) C (v := 147) ffX11_7 dX11_house_9 hT146 hA146 rfl (hP146_0 q) (by decide) ?_
  refine hz_callSv (pc := 12) C (as := [.ref 147]) (st := []) ev_begin147 (hz_new0 _ _) fyX11_begin fsX11_48 rfl dX11_house_12 rfl rfl (Nat.le_of_ble_eq_true rfl) (by decide) (hz_cap0 _) ?_
  refine hz_iload_n (pc := 15) C dX11_house_15 rfl ?_
  exact hz_iretx C Z rfl dX11_house_16 ⟨_, rfl, rfl, mv_0 I, ⟨fun b hb => by simp (disch := omega) only [hz_up_ne, sa_ne], by simp (disch := omega) only [hz_up_ne, sa_ne]⟩⟩
set_option maxHeartbeats 4000000 in
set_option maxRecDepth 100000 in
theorem ex_doorM {I : Nat → Nat → Int32} {L : Nat → Nat → Int64} {q : Nat → Nat → Nat} {u : Nat → Nat} (V : MV I u) (U : WU u) {a b l : Nat} (ha : a < 8) (hb : b < 8) (hab : ¬ a = b) (hl1 : 1 ≤ l) (hl : l ≤ 9) : hz_Ex mX11_door TT NN (I, L, PP q) [.ref 146, .int (nI a), .int (nI b), .int (nI l)] (hz_PI L (PP q) (some (.int (dv (u (8 * a + b))))) (fun K => MV K (va_up (va_up u (8 * a + b) l) (8 * b + a) l) ∧ kpM I K)) := by
  have hdr := wu_dr U (j := 8 * a + b) (by omega)
  refine hz_Ex.intro (ls := [some (.ref 146), some (.int (nI a)), some (.int (nI b)), some (.int (nI l)), none]) (by decide +kernel) rfl (Nat.le_of_ble_eq_true rfl) (fun X C Z => ?_)
  refine hz_iload_n (pc := 0) C dX11_door_0 rfl ?_
  refine hz_callSs (pc := 1) C (as := [.int (nI a)]) (st := []) (ev_isRoomM _ (nI a)) (hz_new0 _ _) fyX11_isRoom fsX11_56 rfl dX11_door_1 rfl rfl (Nat.le_of_ble_eq_true rfl) (by decide) (hz_cap0 _) ?_
  refine hz_ifb_eq (pc := 4) C (tgt := 29) dX11_door_4 rfl (fun cq => absurd (vr ha) cq) (fun _ => ?_)
  refine hz_iload_n (pc := 7) C dX11_door_7 rfl ?_
  refine hz_callSs (pc := 8) C (as := [.int (nI b)]) (st := []) (ev_isRoomM _ (nI b)) (hz_new0 _ _) fyX11_isRoom fsX11_56 rfl dX11_door_8 rfl rfl (Nat.le_of_ble_eq_true rfl) (by decide) (hz_cap0 _) ?_
  refine hz_ifb_eq (pc := 11) C (tgt := 29) dX11_door_11 rfl (fun cq => absurd (vr hb) cq) (fun _ => ?_)
  refine hz_iload_n (pc := 14) C dX11_door_14 rfl ?_
  refine hz_iload_n (pc := 15) C dX11_door_15 rfl ?_
  refine hz_ic_eq (pc := 16) C (tgt := 29) dX11_door_16 rfl (fun cq => absurd ((nI_eq (by omega) (by omega)).mp cq) (by omega)) (fun _ => ?_)
  refine hz_iload_n (pc := 19) C dX11_door_19 rfl ?_
  refine hz_iconst (pc := 20) C (v := nI 1) dX11_door_20 (by decide +kernel) ?_
  refine hz_bipush (pc := 21) C (v := nI 9) dX11_door_21 (by decide +kernel) ?_
  refine hz_callSs (pc := 23) C (as := [.int (nI l), .int (nI 1), .int (nI 9)]) (st := []) (ev_in _ (nI l) (nI 1) (nI 9)) (hz_new0 _ _) fyX11_in fsX11_52 rfl dX11_door_23 rfl rfl (Nat.le_of_ble_eq_true rfl) (by decide) (hz_cap0 _) ?_
  refine hz_ifb_ne (pc := 26) C (tgt := 42) dX11_door_26 rfl (fun _ => ?_) (fun cq => absurd (vin hl1 hl (by decide)) cq)
  refine hz_aload_n (pc := 42) C dX11_door_42 rfl ?_
  refine hz_getP (pc := 43) C (v := 147) ffX11_7 dX11_door_43 hT146 hA146 rfl (hP146_0 q) (by decide) ?_
  refine hz_bipush (pc := 46) C (v := nI 8) dX11_door_46 (by decide +kernel) ?_
  refine hz_iload_n (pc := 48) C dX11_door_48 rfl ?_
  refine hz_imul (pc := 49) C (v := nI (8 * a)) dX11_door_49 (pk_mul _ _) ?_
  refine hz_iload_n (pc := 50) C dX11_door_50 rfl ?_
  refine hz_iadd (pc := 51) C (v := nI ((8 * a) + b)) dX11_door_51 (nI_add _ _) ?_
  refine hz_iald (pc := 52) C (v := nI (u ((8 * a) + b))) (j := (8 * a) + b) dX11_door_52 hT147 hA147 rfl (by omega) (by decide) (mg V (j := (8 * a) + b) (by omega) (by omega)) ?_
  refine hz_istore (pc := 53) C (ls' := [some (.ref 146), some (.int (nI a)), some (.int (nI b)), some (.int (nI l)), some (.int (nI (u ((8 * a) + b))))]) dX11_door_53 (Nat.le_of_ble_eq_true rfl) rfl ?_
  refine hz_aload_n (pc := 55) C dX11_door_55 rfl ?_
  refine hz_getP (pc := 56) C (v := 147) ffX11_7 dX11_door_56 hT146 hA146 rfl (hP146_0 q) (by decide) ?_
  refine hz_bipush (pc := 59) C (v := nI 8) dX11_door_59 (by decide +kernel) ?_
  refine hz_iload_n (pc := 61) C dX11_door_61 rfl ?_
  refine hz_imul (pc := 62) C (v := nI (8 * a)) dX11_door_62 (pk_mul _ _) ?_
  refine hz_iload_n (pc := 63) C dX11_door_63 rfl ?_
  refine hz_iadd (pc := 64) C (v := nI ((8 * a) + b)) dX11_door_64 (nI_add _ _) ?_
  refine hz_iload_n (pc := 65) C dX11_door_65 rfl ?_
  refine hz_iast (pc := 66) C (v := nI l) (j := (8 * a) + b) (M' := (hz_up I 147 ((8 * a) + b) (nI l), L, PP q)) dX11_door_66 hT147 hA147 rfl (by omega) (by decide) rfl rfl ?_
  refine hz_aload_n (pc := 67) C dX11_door_67 rfl ?_
  refine hz_getP (pc := 68) C (v := 147) ffX11_7 dX11_door_68 hT146 hA146 rfl (hP146_0 q) (by decide) ?_
  refine hz_bipush (pc := 71) C (v := nI 8) dX11_door_71 (by decide +kernel) ?_
  refine hz_iload_n (pc := 73) C dX11_door_73 rfl ?_
  refine hz_imul (pc := 74) C (v := nI (8 * b)) dX11_door_74 (pk_mul _ _) ?_
  refine hz_iload_n (pc := 75) C dX11_door_75 rfl ?_
  refine hz_iadd (pc := 76) C (v := nI ((8 * b) + a)) dX11_door_76 (nI_add _ _) ?_
  refine hz_iload_n (pc := 77) C dX11_door_77 rfl ?_
  refine hz_iast (pc := 78) C (v := nI l) (j := (8 * b) + a) (M' := (hz_up (hz_up I 147 ((8 * a) + b) (nI l)) 147 ((8 * b) + a) (nI l), L, PP q)) dX11_door_78 hT147 hA147 rfl (by omega) (by decide) rfl rfl ?_
  refine hz_iload (pc := 79) C dX11_door_79 rfl ?_
  refine hz_if_ne (pc := 81) C (tgt := 88) dX11_door_81 rfl (fun c1 => ?_) (fun c1 => ?_)
  · refine hz_iload (pc := 88) C dX11_door_88 rfl ?_
    exact hz_iretx C Z rfl dX11_door_90 ⟨_, (congrArg (fun z => some (Value.int z)) (dv_t c1)), rfl, mv_up (mv_up V (by omega)) (by omega), ⟨fun b hb => by simp (disch := omega) only [hz_up_ne, sa_ne], by simp (disch := omega) only [hz_up_ne, sa_ne]⟩⟩
  · refine hz_iconst (pc := 84) C (v := (-1 : Int32)) dX11_door_84 (by decide +kernel) ?_
    refine hz_goto (pc := 85) C (tgt := 90) dX11_door_85 rfl ?_
    exact hz_iretx C Z rfl dX11_door_90 ⟨_, (congrArg (fun z => some (Value.int z)) (dv_f c1 hdr)), rfl, mv_up (mv_up V (by omega)) (by omega), ⟨fun b hb => by simp (disch := omega) only [hz_up_ne, sa_ne], by simp (disch := omega) only [hz_up_ne, sa_ne]⟩⟩
set_option maxHeartbeats 4000000 in
set_option maxRecDepth 100000 in
theorem ex_alarmM {I : Nat → Nat → Int32} {L : Nat → Nat → Int64} {q : Nat → Nat → Nat} {u : Nat → Nat} (V : MV I u) (U : WU u) (h6 : u 64 < 6) {kd rm ba : Nat} (hkd : kd < 6) (hrm : rm < 8) (hba : ba ≤ 99) : hz_Ex mX11_alarm TT NN (I, L, PP q) [.ref 146, .int (nI kd), .int (nI rm), .int (nI ba)] (hz_PI L (PP q) (some (.int (nI (u 64)))) (fun K => MV K (va_up (va_up (va_up (va_up (va_up u (65 + u 64) kd) (71 + u 64) rm) (94 + u 64) ba) 64 (u 64 + 1)) 100 0) ∧ kpM I K)) := by
  refine hz_Ex.intro (ls := [some (.ref 146), some (.int (nI kd)), some (.int (nI rm)), some (.int (nI ba))]) (by decide +kernel) rfl (Nat.le_of_ble_eq_true rfl) (fun X C Z => ?_)
  refine hz_iload_n (pc := 0) C dX11_alarm_0 rfl ?_
  refine hz_iconst (pc := 1) C (v := nI 0) dX11_alarm_1 (by decide +kernel) ?_
  refine hz_iconst (pc := 2) C (v := nI 5) dX11_alarm_2 (by decide +kernel) ?_
  refine hz_callSs (pc := 3) C (as := [.int (nI kd), .int (nI 0), .int (nI 5)]) (st := []) (ev_in _ (nI kd) (nI 0) (nI 5)) (hz_new0 _ _) fyX11_in fsX11_52 rfl dX11_alarm_3 rfl rfl (Nat.le_of_ble_eq_true rfl) (by decide) (hz_cap0 _) ?_
  refine hz_ifb_eq (pc := 6) C (tgt := 26) dX11_alarm_6 rfl (fun cq => absurd (vin (Nat.zero_le _) (show kd ≤ 5 by omega) (by decide)) cq) (fun _ => ?_)
  refine hz_iload_n (pc := 9) C dX11_alarm_9 rfl ?_
  refine hz_callSs (pc := 10) C (as := [.int (nI rm)]) (st := []) (ev_isRoomM _ (nI rm)) (hz_new0 _ _) fyX11_isRoom fsX11_56 rfl dX11_alarm_10 rfl rfl (Nat.le_of_ble_eq_true rfl) (by decide) (hz_cap0 _) ?_
  refine hz_ifb_eq (pc := 13) C (tgt := 26) dX11_alarm_13 rfl (fun cq => absurd (vr hrm) cq) (fun _ => ?_)
  refine hz_iload_n (pc := 16) C dX11_alarm_16 rfl ?_
  refine hz_iconst (pc := 17) C (v := nI 0) dX11_alarm_17 (by decide +kernel) ?_
  refine hz_bipush (pc := 18) C (v := nI 99) dX11_alarm_18 (by decide +kernel) ?_
  refine hz_callSs (pc := 20) C (as := [.int (nI ba), .int (nI 0), .int (nI 99)]) (st := []) (ev_in _ (nI ba) (nI 0) (nI 99)) (hz_new0 _ _) fyX11_in fsX11_52 rfl dX11_alarm_20 rfl rfl (Nat.le_of_ble_eq_true rfl) (by decide) (hz_cap0 _) ?_
  refine hz_ifb_ne (pc := 23) C (tgt := 31) dX11_alarm_23 rfl (fun _ => ?_) (fun cq => absurd (vin (Nat.zero_le _) hba (by decide)) cq)
  refine hz_aload_n (pc := 31) C dX11_alarm_31 rfl ?_
  refine hz_getP (pc := 32) C (v := 147) ffX11_7 dX11_alarm_32 hT146 hA146 rfl (hP146_0 q) (by decide) ?_
  refine hz_bipush (pc := 35) C (v := nI 64) dX11_alarm_35 (by decide +kernel) ?_
  refine hz_iald (pc := 37) C (v := nI (u 64)) (j := 64) dX11_alarm_37 hT147 hA147 rfl (by decide) (by decide) (mg V (j := 64) (by omega) (by omega)) ?_
  refine hz_bipush (pc := 38) C (v := nI 6) dX11_alarm_38 (by decide +kernel) ?_
  refine hz_ic_ne (pc := 40) C (tgt := 48) dX11_alarm_40 rfl (fun _ => ?_) (fun cq => absurd ((nI_eq (by omega) (by omega)).mp cq) (by omega))
  refine hz_aload_n (pc := 48) C dX11_alarm_48 rfl ?_
  refine hz_getP (pc := 49) C (v := 147) ffX11_7 dX11_alarm_49 hT146 hA146 rfl (hP146_0 q) (by decide) ?_
  refine hz_bipush (pc := 52) C (v := nI 100) dX11_alarm_52 (by decide +kernel) ?_
  refine hz_iconst (pc := 54) C (v := nI 0) dX11_alarm_54 (by decide +kernel) ?_
  refine hz_iast (pc := 55) C (v := nI 0) (j := 100) (M' := (hz_up I 147 100 (nI 0), L, PP q)) dX11_alarm_55 hT147 hA147 rfl (by decide) (by decide) rfl rfl ?_
  refine hz_aload_n (pc := 56) C dX11_alarm_56 rfl ?_
  refine hz_getP (pc := 57) C (v := 147) ffX11_7 dX11_alarm_57 hT146 hA146 rfl (hP146_0 q) (by decide) ?_
  refine hz_iload_n (pc := 60) C dX11_alarm_60 rfl ?_
  refine hz_iload_n (pc := 61) C dX11_alarm_61 rfl ?_
  refine hz_iload_n (pc := 62) C dX11_alarm_62 rfl ?_
  refine hz_callSs (pc := 63) C (as := [.ref 147, .int (nI kd), .int (nI rm), .int (nI ba)]) (st := []) (ev_addAl147 ((hz_up_nk _ _ _ _ (by omega)).trans (mg V (by omega) (by omega))) h6 _ _ _) (hz_new0 _ _) fyX11_addAlarm fsX11_67 rfl dX11_alarm_63 rfl rfl (Nat.le_of_ble_eq_true rfl) (by decide) (hz_cap0 _) ?_
  exact hz_iretx C Z rfl dX11_alarm_66 ⟨_, rfl, rfl, MV.ext (mv_up (mv_up (mv_up (mv_up (mv_up V (by omega)) (by omega)) (by omega)) (by omega)) (by omega)) (by funext j; simp only [va_up]; (repeat' split) <;> first | rfl | omega), ⟨fun b hb => by simp (disch := omega) only [hz_up_ne, sa_ne], by simp (disch := omega) only [hz_up_ne, sa_ne]⟩⟩
set_option maxHeartbeats 4000000 in
set_option maxRecDepth 100000 in
theorem ex_batteryM {I : Nat → Nat → Int32} {L : Nat → Nat → Int64} {q : Nat → Nat → Nat} {u : Nat → Nat} (V : MV I u) (U : WU u) {k b : Nat} (hk : k < u 64) (hb : b ≤ 99) : hz_Ex mX11_battery TT NN (I, L, PP q) [.ref 146, .int (nI k), .int (nI b)] (hz_PI L (PP q) (some (.int (nI (u (94 + k))))) (fun K => MV K (va_up (kb u) (94 + k) b) ∧ kpM I K)) := by
  have hal := wu_al U
  refine hz_Ex.intro (ls := [some (.ref 146), some (.int (nI k)), some (.int (nI b)), none]) (by decide +kernel) rfl (Nat.le_of_ble_eq_true rfl) (fun X C Z => ?_)
  refine hz_aload_n (pc := 0) C dX11_battery_0 rfl ?_
  refine hz_iload_n (pc := 1) C dX11_battery_1 rfl ?_
  refine hz_callVs (pc := 2) C (as := [.int (nI k)]) (st := []) (ev_isAlarmM V U (nI k)) (hz_new0 _ _) fyX11_isAlarm fvX11_160 rfl dX11_battery_2 hT146 rfl rfl hA146 rfl rfl (Nat.le_of_ble_eq_true rfl) (by decide) (hz_cap0 _) ?_
  refine hz_ifb_eq (pc := 5) C (tgt := 18) dX11_battery_5 rfl (fun cq => absurd (vk hk (wu_al U)) cq) (fun _ => ?_)
  refine hz_iload_n (pc := 8) C dX11_battery_8 rfl ?_
  refine hz_iconst (pc := 9) C (v := nI 0) dX11_battery_9 (by decide +kernel) ?_
  refine hz_bipush (pc := 10) C (v := nI 99) dX11_battery_10 (by decide +kernel) ?_
  refine hz_callSs (pc := 12) C (as := [.int (nI b), .int (nI 0), .int (nI 99)]) (st := []) (ev_in _ (nI b) (nI 0) (nI 99)) (hz_new0 _ _) fyX11_in fsX11_52 rfl dX11_battery_12 rfl rfl (Nat.le_of_ble_eq_true rfl) (by decide) (hz_cap0 _) ?_
  refine hz_ifb_ne (pc := 15) C (tgt := 23) dX11_battery_15 rfl (fun _ => ?_) (fun cq => absurd (vin (Nat.zero_le _) hb (by decide)) cq)
  refine hz_aload_n (pc := 23) C dX11_battery_23 rfl ?_
  refine hz_callVxv (pc := 24) C (as := []) (st := []) (ex_kbM V U) fyX11_keepBack fvX11_139 rfl dX11_battery_24 hT146 rfl rfl hA146 rfl rfl (Nat.le_of_ble_eq_true rfl) (by decide) (hz_cap0 _) (fun K1 g1 => ?_)
  refine hz_aload_n (pc := 27) C dX11_battery_27 rfl ?_
  refine hz_getP (pc := 28) C (v := 147) ffX11_7 dX11_battery_28 hT146 hA146 rfl (hP146_0 q) (by decide) ?_
  refine hz_bipush (pc := 31) C (v := nI 94) dX11_battery_31 (by decide +kernel) ?_
  refine hz_iload_n (pc := 33) C dX11_battery_33 rfl ?_
  refine hz_iadd (pc := 34) C (v := nI (94 + k)) dX11_battery_34 (nI_add _ _) ?_
  refine hz_iald (pc := 35) C (v := nI (u (94 + k))) (j := 94 + k) dX11_battery_35 hT147 hA147 rfl (by omega) (by decide) (kbm g1.1 (by omega) (by omega)) ?_
  refine hz_istore_n (pc := 36) C (ls' := [some (.ref 146), some (.int (nI k)), some (.int (nI b)), some (.int (nI (u (94 + k))))]) dX11_battery_36 (Nat.le_of_ble_eq_true rfl) rfl ?_
  refine hz_aload_n (pc := 37) C dX11_battery_37 rfl ?_
  refine hz_getP (pc := 38) C (v := 147) ffX11_7 dX11_battery_38 hT146 hA146 rfl (hP146_0 q) (by decide) ?_
  refine hz_bipush (pc := 41) C (v := nI 94) dX11_battery_41 (by decide +kernel) ?_
  refine hz_iload_n (pc := 43) C dX11_battery_43 rfl ?_
  refine hz_iadd (pc := 44) C (v := nI (94 + k)) dX11_battery_44 (nI_add _ _) ?_
  refine hz_iload_n (pc := 45) C dX11_battery_45 rfl ?_
  refine hz_iast (pc := 46) C (v := nI b) (j := 94 + k) (M' := (hz_up K1 147 (94 + k) (nI b), L, PP q)) dX11_battery_46 hT147 hA147 rfl (by omega) (by decide) rfl rfl ?_
  refine hz_iload_n (pc := 47) C dX11_battery_47 rfl ?_
  exact hz_iretx C Z rfl dX11_battery_48 ⟨_, rfl, rfl, mv_up g1.1 (by omega), g1.2.tr ⟨fun b hb => by simp (disch := omega) only [hz_up_ne, sa_ne], by simp (disch := omega) only [hz_up_ne, sa_ne]⟩⟩
set_option maxHeartbeats 4000000 in
set_option maxRecDepth 100000 in
theorem ex_coldM {I : Nat → Nat → Int32} {L : Nat → Nat → Int64} {q : Nat → Nat → Nat} {u : Nat → Nat} (V : MV I u) (U : WU u) {c : Nat} (hc : c ≤ 9) : hz_Ex mX11_cold TT NN (I, L, PP q) [.ref 146, .int (nI c)] (hz_PI L (PP q) (some (.int (nI (u 92)))) (fun K => MV K (va_up (kb u) 92 c) ∧ kpM I K)) := by
  refine hz_Ex.intro (ls := [some (.ref 146), some (.int (nI c)), none]) (by decide +kernel) rfl (Nat.le_of_ble_eq_true rfl) (fun X C Z => ?_)
  refine hz_iload_n (pc := 0) C dX11_cold_0 rfl ?_
  refine hz_iconst (pc := 1) C (v := nI 0) dX11_cold_1 (by decide +kernel) ?_
  refine hz_bipush (pc := 2) C (v := nI 9) dX11_cold_2 (by decide +kernel) ?_
  refine hz_callSs (pc := 4) C (as := [.int (nI c), .int (nI 0), .int (nI 9)]) (st := []) (ev_in _ (nI c) (nI 0) (nI 9)) (hz_new0 _ _) fyX11_in fsX11_52 rfl dX11_cold_4 rfl rfl (Nat.le_of_ble_eq_true rfl) (by decide) (hz_cap0 _) ?_
  refine hz_ifb_ne (pc := 7) C (tgt := 15) dX11_cold_7 rfl (fun _ => ?_) (fun cq => absurd (vin (Nat.zero_le _) hc (by decide)) cq)
  refine hz_aload_n (pc := 15) C dX11_cold_15 rfl ?_
  refine hz_callVxv (pc := 16) C (as := []) (st := []) (ex_kbM V U) fyX11_keepBack fvX11_139 rfl dX11_cold_16 hT146 rfl rfl hA146 rfl rfl (Nat.le_of_ble_eq_true rfl) (by decide) (hz_cap0 _) (fun K1 g1 => ?_)
  refine hz_aload_n (pc := 19) C dX11_cold_19 rfl ?_
  refine hz_getP (pc := 20) C (v := 147) ffX11_7 dX11_cold_20 hT146 hA146 rfl (hP146_0 q) (by decide) ?_
  refine hz_bipush (pc := 23) C (v := nI 92) dX11_cold_23 (by decide +kernel) ?_
  refine hz_iald (pc := 25) C (v := nI (u 92)) (j := 92) dX11_cold_25 hT147 hA147 rfl (by decide) (by decide) (kbm g1.1 (by omega) (by omega)) ?_
  refine hz_istore_n (pc := 26) C (ls' := [some (.ref 146), some (.int (nI c)), some (.int (nI (u 92)))]) dX11_cold_26 (Nat.le_of_ble_eq_true rfl) rfl ?_
  refine hz_aload_n (pc := 27) C dX11_cold_27 rfl ?_
  refine hz_getP (pc := 28) C (v := 147) ffX11_7 dX11_cold_28 hT146 hA146 rfl (hP146_0 q) (by decide) ?_
  refine hz_bipush (pc := 31) C (v := nI 92) dX11_cold_31 (by decide +kernel) ?_
  refine hz_iload_n (pc := 33) C dX11_cold_33 rfl ?_
  refine hz_iast (pc := 34) C (v := nI c) (j := 92) (M' := (hz_up K1 147 92 (nI c), L, PP q)) dX11_cold_34 hT147 hA147 rfl (by decide) (by decide) rfl rfl ?_
  refine hz_iload_n (pc := 35) C dX11_cold_35 rfl ?_
  exact hz_iretx C Z rfl dX11_cold_36 ⟨_, rfl, rfl, mv_up g1.1 (by omega), g1.2.tr ⟨fun b hb => by simp (disch := omega) only [hz_up_ne, sa_ne], by simp (disch := omega) only [hz_up_ne, sa_ne]⟩⟩
set_option maxHeartbeats 4000000 in
set_option maxRecDepth 100000 in
theorem ex_takeM {I : Nat → Nat → Int32} {L : Nat → Nat → Int64} {q : Nat → Nat → Nat} {u : Nat → Nat} (V : MV I u) (U : WU u) {k x : Nat} (hk : k < u 64) (hx : x ≤ 1) (hp : u (71 + k) = u 91) : hz_Ex mX11_take TT NN (I, L, PP q) [.ref 146, .int (nI k), .int (nI x)] (hz_PI L (PP q) (some (.int (nI 1))) (fun K => MV K (va_up (kb u) 93 (dnb (u 93) k x)) ∧ kpM I K)) := by
  have hal := wu_al U
  have hrm := wu_rm U hk
  have hpl := wu_pl U
  refine hz_Ex.intro (ls := [some (.ref 146), some (.int (nI k)), some (.int (nI x))]) (by decide +kernel) rfl (Nat.le_of_ble_eq_true rfl) (fun X C Z => ?_)
  refine hz_aload_n (pc := 0) C dX11_take_0 rfl ?_
  refine hz_iload_n (pc := 1) C dX11_take_1 rfl ?_
  refine hz_callVs (pc := 2) C (as := [.int (nI k)]) (st := []) (ev_isAlarmM V U (nI k)) (hz_new0 _ _) fyX11_isAlarm fvX11_160 rfl dX11_take_2 hT146 rfl rfl hA146 rfl rfl (Nat.le_of_ble_eq_true rfl) (by decide) (hz_cap0 _) ?_
  refine hz_ifb_eq (pc := 5) C (tgt := 17) dX11_take_5 rfl (fun cq => absurd (vk hk (wu_al U)) cq) (fun _ => ?_)
  refine hz_iload_n (pc := 8) C dX11_take_8 rfl ?_
  refine hz_iconst (pc := 9) C (v := nI 0) dX11_take_9 (by decide +kernel) ?_
  refine hz_iconst (pc := 10) C (v := nI 1) dX11_take_10 (by decide +kernel) ?_
  refine hz_callSs (pc := 11) C (as := [.int (nI x), .int (nI 0), .int (nI 1)]) (st := []) (ev_in _ (nI x) (nI 0) (nI 1)) (hz_new0 _ _) fyX11_in fsX11_52 rfl dX11_take_11 rfl rfl (Nat.le_of_ble_eq_true rfl) (by decide) (hz_cap0 _) ?_
  refine hz_ifb_ne (pc := 14) C (tgt := 22) dX11_take_14 rfl (fun _ => ?_) (fun cq => absurd (vin (Nat.zero_le _) hx (by decide)) cq)
  refine hz_aload_n (pc := 22) C dX11_take_22 rfl ?_
  refine hz_getP (pc := 23) C (v := 147) ffX11_7 dX11_take_23 hT146 hA146 rfl (hP146_0 q) (by decide) ?_
  refine hz_bipush (pc := 26) C (v := nI 71) dX11_take_26 (by decide +kernel) ?_
  refine hz_iload_n (pc := 28) C dX11_take_28 rfl ?_
  refine hz_iadd (pc := 29) C (v := nI (71 + k)) dX11_take_29 (nI_add _ _) ?_
  refine hz_iald (pc := 30) C (v := nI (u (71 + k))) (j := 71 + k) dX11_take_30 hT147 hA147 rfl (by omega) (by decide) (mg V (j := 71 + k) (by omega) (by omega)) ?_
  refine hz_aload_n (pc := 31) C dX11_take_31 rfl ?_
  refine hz_getP (pc := 32) C (v := 147) ffX11_7 dX11_take_32 hT146 hA146 rfl (hP146_0 q) (by decide) ?_
  refine hz_bipush (pc := 35) C (v := nI 91) dX11_take_35 (by decide +kernel) ?_
  refine hz_iald (pc := 37) C (v := nI (u 91)) (j := 91) dX11_take_37 hT147 hA147 rfl (by decide) (by decide) (mg V (j := 91) (by omega) (by omega)) ?_
  refine hz_ic_eq (pc := 38) C (tgt := 46) dX11_take_38 rfl (fun _ => ?_) (fun cq => absurd ((nI_eq (by omega) (by omega)).mpr (by omega)) cq)
  refine hz_aload_n (pc := 46) C dX11_take_46 rfl ?_
  refine hz_callVxv (pc := 47) C (as := []) (st := []) (ex_kbM V U) fyX11_keepBack fvX11_139 rfl dX11_take_47 hT146 rfl rfl hA146 rfl rfl (Nat.le_of_ble_eq_true rfl) (by decide) (hz_cap0 _) (fun K1 g1 => ?_)
  refine hz_aload_n (pc := 50) C dX11_take_50 rfl ?_
  refine hz_getP (pc := 51) C (v := 147) ffX11_7 dX11_take_51 hT146 hA146 rfl (hP146_0 q) (by decide) ?_
  refine hz_bipush (pc := 54) C (v := nI 93) dX11_take_54 (by decide +kernel) ?_
  refine hz_aload_n (pc := 56) C dX11_take_56 rfl ?_
  refine hz_getP (pc := 57) C (v := 147) ffX11_7 dX11_take_57 hT146 hA146 rfl (hP146_0 q) (by decide) ?_
  refine hz_bipush (pc := 60) C (v := nI 93) dX11_take_60 (by decide +kernel) ?_
  refine hz_iald (pc := 62) C (v := nI (u 93)) (j := 93) dX11_take_62 hT147 hA147 rfl (by decide) (by decide) (kbm g1.1 (by omega) (by omega)) ?_
  refine hz_iconst (pc := 63) C (v := nI 1) dX11_take_63 (by decide +kernel) ?_
  refine hz_iload_n (pc := 64) C dX11_take_64 rfl ?_
  refine hz_ishl (pc := 65) C dX11_take_65 rfl ?_
  refine hz_iconst (pc := 66) C (v := (-1 : Int32)) dX11_take_66 (by decide +kernel) ?_
  refine hz_ixor (pc := 67) C dX11_take_67 rfl ?_
  refine hz_iand (pc := 68) C dX11_take_68 rfl ?_
  refine hz_iload_n (pc := 69) C dX11_take_69 rfl ?_
  refine hz_iload_n (pc := 70) C dX11_take_70 rfl ?_
  refine hz_ishl (pc := 71) C dX11_take_71 rfl ?_
  refine hz_ior (pc := 72) C dX11_take_72 rfl ?_
  refine hz_iast (pc := 73) C (v := nI (dnb (u 93) k x)) (j := 93) (M' := (hz_up K1 147 93 (nI (dnb (u 93) k x)), L, PP q)) dX11_take_73 hT147 hA147 rfl (by decide) (by decide) (down_v (wu_dn U) (by omega) (by omega)).1 rfl ?_
  refine hz_iconst (pc := 74) C (v := nI 1) dX11_take_74 (by decide +kernel) ?_
  exact hz_iretx C Z rfl dX11_take_75 ⟨_, rfl, rfl, mv_up g1.1 (by omega), g1.2.tr ⟨fun b hb => by simp (disch := omega) only [hz_up_ne, sa_ne], by simp (disch := omega) only [hz_up_ne, sa_ne]⟩⟩
set_option maxHeartbeats 4000000 in
set_option maxRecDepth 100000 in
theorem ex_undoM {I : Nat → Nat → Int32} {L : Nat → Nat → Int64} {q : Nat → Nat → Nat} {u : Nat → Nat} (V : MV I u) (U : WU u) {n : Nat} (hn : u 100 = n + 1) : hz_Ex mX11_undo TT NN (I, L, PP q) [.ref 146] (hz_PI L (PP q) (some (.int (nI (ub u n 90)))) (fun K => MV K (ub u n) ∧ kpM I K)) := by
  have hun := wu_un U
  refine hz_Ex.intro (ls := [some (.ref 146)]) (by decide +kernel) rfl (Nat.le_of_ble_eq_true rfl) (fun X C Z => ?_)
  refine hz_aload_n (pc := 0) C dX11_undo_0 rfl ?_
  refine hz_getP (pc := 1) C (v := 147) ffX11_7 dX11_undo_1 hT146 hA146 rfl (hP146_0 q) (by decide) ?_
  refine hz_bipush (pc := 4) C (v := nI 100) dX11_undo_4 (by decide +kernel) ?_
  refine hz_iald (pc := 6) C (v := nI (u 100)) (j := 100) dX11_undo_6 hT147 hA147 rfl (by decide) (by decide) (mg V (j := 100) (by omega) (by omega)) ?_
  refine hz_if_ne (pc := 7) C (tgt := 15) dX11_undo_7 rfl (fun _ => ?_) (fun cq => absurd cq (nI_ne0 (by omega) (by omega)))
  refine hz_aload_n (pc := 15) C dX11_undo_15 rfl ?_
  refine hz_getP (pc := 16) C (v := 147) ffX11_7 dX11_undo_16 hT146 hA146 rfl (hP146_0 q) (by decide) ?_
  refine hz_bipush (pc := 19) C (v := nI 100) dX11_undo_19 (by decide +kernel) ?_
  refine hz_dup2 (pc := 21) C dX11_undo_21 rfl rfl ?_
  refine hz_iald (pc := 22) C (v := nI (u 100)) (j := 100) dX11_undo_22 hT147 hA147 rfl (by decide) (by decide) (mg V (j := 100) (by omega) (by omega)) ?_
  refine hz_iconst (pc := 23) C (v := nI 1) dX11_undo_23 (by decide +kernel) ?_
  refine hz_isub (pc := 24) C dX11_undo_24 rfl ?_
  refine hz_iast (pc := 25) C (v := nI n) (j := 100) (M' := (hz_up I 147 100 (nI n), L, PP q)) dX11_undo_25 hT147 hA147 rfl (by decide) (by decide) (by rw [hn, pk_sub (by omega), Nat.add_sub_cancel]) rfl ?_
  refine hz_aload_n (pc := 26) C dX11_undo_26 rfl ?_
  refine hz_getP (pc := 27) C (v := 147) ffX11_7 dX11_undo_27 hT146 hA146 rfl (hP146_0 q) (by decide) ?_
  refine hz_bipush (pc := 30) C (v := nI 101) dX11_undo_30 (by decide +kernel) ?_
  refine hz_bipush (pc := 32) C (v := nI 10) dX11_undo_32 (by decide +kernel) ?_
  refine hz_aload_n (pc := 34) C dX11_undo_34 rfl ?_
  refine hz_getP (pc := 35) C (v := 147) ffX11_7 dX11_undo_35 hT146 hA146 rfl (hP146_0 q) (by decide) ?_
  refine hz_bipush (pc := 38) C (v := nI 100) dX11_undo_38 (by decide +kernel) ?_
  refine hz_iald (pc := 40) C (v := nI n) (j := 100) dX11_undo_40 hT147 hA147 rfl (by decide) (by decide) rfl ?_
  refine hz_imul (pc := 41) C (v := nI (10 * n)) dX11_undo_41 (pk_mul _ _) ?_
  refine hz_iadd (pc := 42) C (v := nI (101 + (10 * n))) dX11_undo_42 (nI_add _ _) ?_
  refine hz_aload_n (pc := 43) C dX11_undo_43 rfl ?_
  refine hz_getP (pc := 44) C (v := 147) ffX11_7 dX11_undo_44 hT146 hA146 rfl (hP146_0 q) (by decide) ?_
  refine hz_bipush (pc := 47) C (v := nI 90) dX11_undo_47 (by decide +kernel) ?_
  refine hz_bipush (pc := 49) C (v := nI 10) dX11_undo_49 (by decide +kernel) ?_
  refine hz_callSv (pc := 51) C (as := [.ref 147, .int (nI (101 + (10 * n))), .ref 147, .int (nI 90), .int (nI 10)]) (st := []) (ev_bring147_147 (by omega) (by omega) (by omega)) (hz_new0 _ _) fyX11_bring fsX11_135 rfl dX11_undo_51 rfl rfl (Nat.le_of_ble_eq_true rfl) (by decide) (hz_cap0 _) ?_
  refine hz_aload_n (pc := 54) C dX11_undo_54 rfl ?_
  refine hz_getP (pc := 55) C (v := 147) ffX11_7 dX11_undo_55 hT146 hA146 rfl (hP146_0 q) (by decide) ?_
  refine hz_bipush (pc := 58) C (v := nI 90) dX11_undo_58 (by decide +kernel) ?_
  refine hz_iald (pc := 60) C (v := nI ((ub u n) 90)) (j := 90) dX11_undo_60 hT147 hA147 rfl (by decide) (by decide) (mg (mv_undo V (n := n) (by omega)) (j := 90) (by omega) (by omega)) ?_
  exact hz_iretx C Z rfl dX11_undo_61 ⟨_, rfl, rfl, mv_undo V (by omega), ⟨fun b hb => by simp (disch := omega) only [hz_up_ne, sa_ne], by simp (disch := omega) only [hz_up_ne, sa_ne]⟩⟩
set_option maxHeartbeats 4000000 in
set_option maxRecDepth 100000 in
theorem ex_waitsM {I : Nat → Nat → Int32} {L : Nat → Nat → Int64} {q : Nat → Nat → Nat} {u : Nat → Nat} (V : MV I u) (U : WU u) {n : Nat} (hn1 : 1 ≤ n) (hn : n ≤ 99) {u2 : Nat → Nat} (hu2 : u2 = va_up (kb u) 90 (min 9999 (u 90 + n))) : hz_Ex mX11_waits TT NN (I, L, PP q) [.ref 146, .int (nI n)] (hz_PI L (PP q) (some (.int (nI (bsum (fun k => sin u2 k (nI (u2 90)) && rch u2 (u2 91) k) (u2 64))))) (fun K => MV K (u2) ∧ kpM I K)) := by
  refine hz_Ex.intro (ls := [some (.ref 146), some (.int (nI n))]) (by decide +kernel) rfl (Nat.le_of_ble_eq_true rfl) (fun X C Z => ?_)
  refine hz_iload_n (pc := 0) C dX11_waits_0 rfl ?_
  refine hz_iconst (pc := 1) C (v := nI 1) dX11_waits_1 (by decide +kernel) ?_
  refine hz_bipush (pc := 2) C (v := nI 99) dX11_waits_2 (by decide +kernel) ?_
  refine hz_callSs (pc := 4) C (as := [.int (nI n), .int (nI 1), .int (nI 99)]) (st := []) (ev_in _ (nI n) (nI 1) (nI 99)) (hz_new0 _ _) fyX11_in fsX11_52 rfl dX11_waits_4 rfl rfl (Nat.le_of_ble_eq_true rfl) (by decide) (hz_cap0 _) ?_
  refine hz_ifb_ne (pc := 7) C (tgt := 15) dX11_waits_7 rfl (fun _ => ?_) (fun cq => absurd (vin hn1 hn (by decide)) cq)
  refine hz_aload_n (pc := 15) C dX11_waits_15 rfl ?_
  refine hz_callVxv (pc := 16) C (as := []) (st := []) (ex_kbM V U) fyX11_keepBack fvX11_139 rfl dX11_waits_16 hT146 rfl rfl hA146 rfl rfl (Nat.le_of_ble_eq_true rfl) (by decide) (hz_cap0 _) (fun K1 g1 => ?_)
  have W2 : WU u2 := hu2 ▸ wu_sec (wu_keep U) (Nat.min_le_left _ _)
  have V2 : MV (hz_up K1 147 90 (nI (min 9999 (u 90 + n)))) u2 := hu2 ▸ mv_up g1.1 (by omega)
  refine hz_aload_n (pc := 19) C dX11_waits_19 rfl ?_
  refine hz_iload_n (pc := 20) C dX11_waits_20 rfl ?_
  refine hz_callVv (pc := 21) C (as := [.int (nI n)]) (st := []) (by have h9 := ev_passNM (L := L) (q := q) g1.1 (wu_keep U) (n := n) (by omega); rw [kb_lo u (by omega)] at h9; exact h9) (hz_new0 _ _) fyX11_pass fvX11_142 rfl dX11_waits_21 hT146 rfl rfl hA146 rfl rfl (Nat.le_of_ble_eq_true rfl) (by decide) (hz_cap0 _) ?_
  refine hz_aload_n (pc := 24) C dX11_waits_24 rfl ?_
  refine hz_callVv (pc := 25) C (as := []) (st := []) (ev_layFar V2 W2) (hz_new0 _ _) fyX11_layFar fvX11_146 rfl dX11_waits_25 hT146 rfl rfl hA146 rfl rfl (Nat.le_of_ble_eq_true rfl) (by decide) (hz_cap0 _) ?_
  refine hz_aload_n (pc := 28) C dX11_waits_28 rfl ?_
  refine hz_aload_n (pc := 29) C dX11_waits_29 rfl ?_
  refine hz_getP (pc := 30) C (v := 147) ffX11_7 dX11_waits_30 hT146 hA146 rfl (hP146_0 q) (by decide) ?_
  refine hz_bipush (pc := 33) C (v := nI 91) dX11_waits_33 (by decide +kernel) ?_
  refine hz_iald (pc := 35) C (v := nI (u2 91)) (j := 91) dX11_waits_35 hT147 hA147 rfl (by decide) (by decide) (mg (MV.lM V2) (j := 91) (by omega) (by omega)) ?_
  refine hz_aload_n (pc := 36) C dX11_waits_36 rfl ?_
  refine hz_getP (pc := 37) C (v := 147) ffX11_7 dX11_waits_37 hT146 hA146 rfl (hP146_0 q) (by decide) ?_
  refine hz_bipush (pc := 40) C (v := nI 90) dX11_waits_40 (by decide +kernel) ?_
  refine hz_iald (pc := 42) C (v := nI (u2 90)) (j := 90) dX11_waits_42 hT147 hA147 rfl (by decide) (by decide) (mg (MV.lM V2) (j := 90) (by omega) (by omega)) ?_
  refine hz_aload_n (pc := 43) C dX11_waits_43 rfl ?_
  refine hz_getP (pc := 44) C (v := 147) ffX11_7 dX11_waits_44 hT146 hA146 rfl (hP146_0 q) (by decide) ?_
  refine hz_bipush (pc := 47) C (v := nI 92) dX11_waits_47 (by decide +kernel) ?_
  refine hz_iald (pc := 49) C (v := nI (u2 92)) (j := 92) dX11_waits_49 hT147 hA147 rfl (by decide) (by decide) (mg (MV.lM V2) (j := 92) (by omega) (by omega)) ?_
  refine hz_callVs (pc := 50) C (as := [.int (nI (u2 91)), .int (nI (u2 90)), .int (nI (u2 92))]) (st := []) (ev_heardBy (mf_lm V2) W2 (wu_pl W2) _ (wu_co W2)) (hz_new0 _ _) fyX11_heardBy fvX11_149 rfl dX11_waits_50 hT146 rfl rfl hA146 rfl rfl (Nat.le_of_ble_eq_true rfl) (by decide) (hz_cap0 _) ?_
  exact hz_iretx C Z rfl dX11_waits_53 ⟨_, rfl, rfl, MV.lM V2, (g1.2.tr (kpM.up _ _ (by omega))).tr (kpM.lM _ _)⟩
set_option maxHeartbeats 4000000 in
set_option maxRecDepth 100000 in
theorem ex_walkM {I : Nat → Nat → Int32} {L : Nat → Nat → Int64} {q : Nat → Nat → Nat} {u : Nat → Nat} (V : MV I u) (U : WU u) {r : Nat} (hr : r < 8) (hd : ds u (u 91) r < 1000) {u1 : Nat → Nat} (hu1 : u1 = va_up (kb u) 90 (min 9999 (u 90 + ds u (u 91) r))) : hz_Ex mX11_walk TT NN (I, L, PP q) [.ref 146, .int (nI r)] (hz_PI L (PP q) (some (.int (nI (ds u (u 91) r)))) (fun K => MV K (va_up u1 91 r) ∧ kpM I K)) := by
  have hpl := wu_pl U
  have hdl := ds_le U hpl hr
  refine hz_Ex.intro (ls := [some (.ref 146), some (.int (nI r)), none]) (by decide +kernel) rfl (Nat.le_of_ble_eq_true rfl) (fun X C Z => ?_)
  refine hz_iload_n (pc := 0) C dX11_walk_0 rfl ?_
  refine hz_callSs (pc := 1) C (as := [.int (nI r)]) (st := []) (ev_isRoomM _ (nI r)) (hz_new0 _ _) fyX11_isRoom fsX11_56 rfl dX11_walk_1 rfl rfl (Nat.le_of_ble_eq_true rfl) (by decide) (hz_cap0 _) ?_
  refine hz_ifb_ne (pc := 4) C (tgt := 12) dX11_walk_4 rfl (fun _ => ?_) (fun cq => absurd (vr hr) cq)
  refine hz_aload_n (pc := 12) C dX11_walk_12 rfl ?_
  refine hz_callVv (pc := 13) C (as := []) (st := []) (ev_layFar V U) (hz_new0 _ _) fyX11_layFar fvX11_146 rfl dX11_walk_13 hT146 rfl rfl hA146 rfl rfl (Nat.le_of_ble_eq_true rfl) (by decide) (hz_cap0 _) ?_
  refine hz_aload_n (pc := 16) C dX11_walk_16 rfl ?_
  refine hz_aload_n (pc := 17) C dX11_walk_17 rfl ?_
  refine hz_getP (pc := 18) C (v := 147) ffX11_7 dX11_walk_18 hT146 hA146 rfl (hP146_0 q) (by decide) ?_
  refine hz_bipush (pc := 21) C (v := nI 91) dX11_walk_21 (by decide +kernel) ?_
  refine hz_iald (pc := 23) C (v := nI (u 91)) (j := 91) dX11_walk_23 hT147 hA147 rfl (by decide) (by decide) (mg (MV.lM V) (j := 91) (by omega) (by omega)) ?_
  refine hz_iload_n (pc := 24) C dX11_walk_24 rfl ?_
  refine hz_callVs (pc := 25) C (as := [.int (nI (u 91)), .int (nI r)]) (st := []) (by have h9 := ev_farX (L := L) (q := q) (a := u 91) (b := r) (by omega) (by omega) ((mf_lm V).2 _ _ (by omega) (by omega)); rw [fa_fin (by omega)] at h9; exact h9) (hz_new0 _ _) fyX11_farOf fvX11_153 rfl dX11_walk_25 hT146 rfl rfl hA146 rfl rfl (Nat.le_of_ble_eq_true rfl) (by decide) (hz_cap0 _) ?_
  refine hz_istore_n (pc := 28) C (ls' := [some (.ref 146), some (.int (nI r)), some (.int (nI (ds u (u 91) r)))]) dX11_walk_28 (Nat.le_of_ble_eq_true rfl) rfl ?_
  refine hz_iload_n (pc := 29) C dX11_walk_29 rfl ?_
  refine hz_iconst (pc := 30) C (v := (-1 : Int32)) dX11_walk_30 (by decide +kernel) ?_
  refine hz_ic_ne (pc := 31) C (tgt := 39) dX11_walk_31 rfl (fun _ => ?_) (fun cq => absurd cq (nm1 (by omega)))
  refine hz_aload_n (pc := 39) C dX11_walk_39 rfl ?_
  refine hz_callVxv (pc := 40) C (as := []) (st := []) (ex_kbM (MV.lM V) U) fyX11_keepBack fvX11_139 rfl dX11_walk_40 hT146 rfl rfl hA146 rfl rfl (Nat.le_of_ble_eq_true rfl) (by decide) (hz_cap0 _) (fun K1 g1 => ?_)
  have V3 : MV (hz_up (hz_up K1 147 91 (nI r)) 147 90 (nI (min 9999 (u 90 + ds u (u 91) r)))) (va_up u1 91 r) := MV.ext (mv_up (mv_up g1.1 (k := 91) (x := r) (by omega)) (k := 90) (x := min 9999 (u 90 + ds u (u 91) r)) (by omega)) (by rw [hu1]; exact va_comm _ (by omega) _ _)
  refine hz_aload_n (pc := 43) C dX11_walk_43 rfl ?_
  refine hz_getP (pc := 44) C (v := 147) ffX11_7 dX11_walk_44 hT146 hA146 rfl (hP146_0 q) (by decide) ?_
  refine hz_bipush (pc := 47) C (v := nI 91) dX11_walk_47 (by decide +kernel) ?_
  refine hz_iload_n (pc := 49) C dX11_walk_49 rfl ?_
  refine hz_iast (pc := 50) C (v := nI r) (j := 91) (M' := (hz_up K1 147 91 (nI r), L, PP q)) dX11_walk_50 hT147 hA147 rfl (by decide) (by decide) rfl rfl ?_
  refine hz_aload_n (pc := 51) C dX11_walk_51 rfl ?_
  refine hz_iload_n (pc := 52) C dX11_walk_52 rfl ?_
  refine hz_callVv (pc := 53) C (as := [.int (nI (ds u (u 91) r))]) (st := []) (by have h9 := ev_passNM (L := L) (q := q) (mv_up g1.1 (k := 91) (x := r) (by omega)) (wu_plc (wu_keep U) hr) (n := ds u (u 91) r) (by omega); rw [va_up_ne _ _ (by omega), kb_lo u (by omega)] at h9; exact h9) (hz_new0 _ _) fyX11_pass fvX11_142 rfl dX11_walk_53 hT146 rfl rfl hA146 rfl rfl (Nat.le_of_ble_eq_true rfl) (by decide) (hz_cap0 _) ?_
  refine hz_iload_n (pc := 56) C dX11_walk_56 rfl ?_
  exact hz_iretx C Z rfl dX11_walk_57 ⟨_, rfl, rfl, V3, ((kpM.lM u I).tr g1.2).tr ⟨fun b hb => by simp (disch := omega) only [hz_up_ne, sa_ne], by simp (disch := omega) only [hz_up_ne, sa_ne]⟩⟩
set_option maxHeartbeats 4000000 in
set_option maxRecDepth 100000 in
theorem ex_noteM {I : Nat → Nat → Int32} {L : Nat → Nat → Int64} {q : Nat → Nat → Nat} {u : Nat → Nat} (V : MV I u) (U : WU u) (h6 : u 77 < 6) {r t : Nat} (hr : r < 8) (ht : t ≤ 8) : hz_Ex mX11_note TT NN (I, L, PP q) [.ref 146, .int (nI r), .int (nI t - 1)] (hz_PI L (PP q) (some (.int (nI (u 77 + 1)))) (fun K => MV K (va_up (va_up (va_up u (78 + 2 * u 77) r) (79 + 2 * u 77) t) 77 (u 77 + 1)) ∧ kpM I K)) := by
  refine hz_Ex.intro (ls := [some (.ref 146), some (.int (nI r)), some (.int (nI t - 1))]) (by decide +kernel) rfl (Nat.le_of_ble_eq_true rfl) (fun X C Z => ?_)
  refine hz_iload_n (pc := 0) C dX11_note_0 rfl ?_
  refine hz_callSs (pc := 1) C (as := [.int (nI r)]) (st := []) (ev_isRoomM _ (nI r)) (hz_new0 _ _) fyX11_isRoom fsX11_56 rfl dX11_note_1 rfl rfl (Nat.le_of_ble_eq_true rfl) (by decide) (hz_cap0 _) ?_
  refine hz_ifb_eq (pc := 4) C (tgt := 17) dX11_note_4 rfl (fun cq => absurd (vr hr) cq) (fun _ => ?_)
  refine hz_iload_n (pc := 7) C dX11_note_7 rfl ?_
  refine hz_iconst (pc := 8) C (v := (-1 : Int32)) dX11_note_8 (by decide +kernel) ?_
  refine hz_bipush (pc := 9) C (v := nI 7) dX11_note_9 (by decide +kernel) ?_
  refine hz_callSs (pc := 11) C (as := [.int (nI t - 1), .int (-1 : Int32), .int (nI 7)]) (st := []) (ev_in _ (nI t - 1) (-1 : Int32) (nI 7)) (hz_new0 _ _) fyX11_in fsX11_52 rfl dX11_note_11 rfl rfl (Nat.le_of_ble_eq_true rfl) (by decide) (hz_cap0 _) ?_
  refine hz_ifb_ne (pc := 14) C (tgt := 22) dX11_note_14 rfl (fun _ => ?_) (fun cq => absurd (vt ht) cq)
  refine hz_aload_n (pc := 22) C dX11_note_22 rfl ?_
  refine hz_getP (pc := 23) C (v := 147) ffX11_7 dX11_note_23 hT146 hA146 rfl (hP146_0 q) (by decide) ?_
  refine hz_bipush (pc := 26) C (v := nI 77) dX11_note_26 (by decide +kernel) ?_
  refine hz_iald (pc := 28) C (v := nI (u 77)) (j := 77) dX11_note_28 hT147 hA147 rfl (by decide) (by decide) (mg V (by omega) (by omega)) ?_
  refine hz_bipush (pc := 29) C (v := nI 6) dX11_note_29 (by decide +kernel) ?_
  refine hz_ic_ne (pc := 31) C (tgt := 39) dX11_note_31 rfl (fun _ => ?_) (fun cq => absurd ((nI_eq (by omega) (by omega)).mp cq) (by omega))
  refine hz_aload_n (pc := 39) C dX11_note_39 rfl ?_
  refine hz_getP (pc := 40) C (v := 147) ffX11_7 dX11_note_40 hT146 hA146 rfl (hP146_0 q) (by decide) ?_
  refine hz_bipush (pc := 43) C (v := nI 78) dX11_note_43 (by decide +kernel) ?_
  refine hz_iconst (pc := 45) C (v := nI 2) dX11_note_45 (by decide +kernel) ?_
  refine hz_aload_n (pc := 46) C dX11_note_46 rfl ?_
  refine hz_getP (pc := 47) C (v := 147) ffX11_7 dX11_note_47 hT146 hA146 rfl (hP146_0 q) (by decide) ?_
  refine hz_bipush (pc := 50) C (v := nI 77) dX11_note_50 (by decide +kernel) ?_
  refine hz_iald (pc := 52) C (v := nI (u 77)) (j := 77) dX11_note_52 hT147 hA147 rfl (by decide) (by decide) (mg V (by omega) (by omega)) ?_
  refine hz_imul (pc := 53) C (v := nI (2 * (u 77))) dX11_note_53 (pk_mul _ _) ?_
  refine hz_iadd (pc := 54) C (v := nI (78 + (2 * (u 77)))) dX11_note_54 (nI_add _ _) ?_
  refine hz_iload_n (pc := 55) C dX11_note_55 rfl ?_
  refine hz_iast (pc := 56) C (v := nI r) (j := 78 + (2 * (u 77))) (M' := (hz_up I 147 (78 + (2 * (u 77))) (nI r), L, PP q)) dX11_note_56 hT147 hA147 rfl (by omega) (by decide) rfl rfl ?_
  refine hz_aload_n (pc := 57) C dX11_note_57 rfl ?_
  refine hz_getP (pc := 58) C (v := 147) ffX11_7 dX11_note_58 hT146 hA146 rfl (hP146_0 q) (by decide) ?_
  refine hz_bipush (pc := 61) C (v := nI 78) dX11_note_61 (by decide +kernel) ?_
  refine hz_iconst (pc := 63) C (v := nI 2) dX11_note_63 (by decide +kernel) ?_
  refine hz_aload_n (pc := 64) C dX11_note_64 rfl ?_
  refine hz_getP (pc := 65) C (v := 147) ffX11_7 dX11_note_65 hT146 hA146 rfl (hP146_0 q) (by decide) ?_
  refine hz_bipush (pc := 68) C (v := nI 77) dX11_note_68 (by decide +kernel) ?_
  refine hz_iald (pc := 70) C (v := nI (u 77)) (j := 77) dX11_note_70 hT147 hA147 rfl (by decide) (by decide) (by simp (disch := omega) only [hz_up_eq, va_up_ne]; exact mg V (by omega) (by omega)) ?_
  refine hz_imul (pc := 71) C (v := nI (2 * (u 77))) dX11_note_71 (pk_mul _ _) ?_
  refine hz_iadd (pc := 72) C (v := nI (78 + (2 * (u 77)))) dX11_note_72 (nI_add _ _) ?_
  refine hz_iconst (pc := 73) C (v := nI 1) dX11_note_73 (by decide +kernel) ?_
  refine hz_iadd (pc := 74) C (v := nI ((78 + (2 * (u 77))) + 1)) dX11_note_74 (nI_add _ _) ?_
  refine hz_iload_n (pc := 75) C dX11_note_75 rfl ?_
  refine hz_iast (pc := 76) C (v := nI t - 1) (j := (78 + (2 * (u 77))) + 1) (M' := (hz_up (hz_up I 147 (78 + (2 * (u 77))) (nI r)) 147 ((78 + (2 * (u 77))) + 1) (nI t - 1), L, PP q)) dX11_note_76 hT147 hA147 rfl (by omega) (by decide) rfl rfl ?_
  refine hz_aload_n (pc := 77) C dX11_note_77 rfl ?_
  refine hz_getP (pc := 78) C (v := 147) ffX11_7 dX11_note_78 hT146 hA146 rfl (hP146_0 q) (by decide) ?_
  refine hz_bipush (pc := 81) C (v := nI 77) dX11_note_81 (by decide +kernel) ?_
  refine hz_dup2 (pc := 83) C dX11_note_83 rfl rfl ?_
  refine hz_iald (pc := 84) C (v := nI (u 77)) (j := 77) dX11_note_84 hT147 hA147 rfl (by decide) (by decide) (by simp (disch := omega) only [hz_up_eq, va_up_ne]; exact mg V (by omega) (by omega)) ?_
  refine hz_iconst (pc := 85) C (v := nI 1) dX11_note_85 (by decide +kernel) ?_
  refine hz_iadd (pc := 86) C (v := nI ((u 77) + 1)) dX11_note_86 (nI_add _ _) ?_
  refine hz_iast (pc := 87) C (v := nI ((u 77) + 1)) (j := 77) (M' := (hz_up (hz_up (hz_up I 147 (78 + (2 * (u 77))) (nI r)) 147 ((78 + (2 * (u 77))) + 1) (nI t - 1)) 147 77 (nI ((u 77) + 1)), L, PP q)) dX11_note_87 hT147 hA147 rfl (by decide) (by decide) rfl rfl ?_
  refine hz_aload_n (pc := 88) C dX11_note_88 rfl ?_
  refine hz_getP (pc := 89) C (v := 147) ffX11_7 dX11_note_89 hT146 hA146 rfl (hP146_0 q) (by decide) ?_
  refine hz_bipush (pc := 92) C (v := nI 77) dX11_note_92 (by decide +kernel) ?_
  refine hz_iald (pc := 94) C (v := nI ((u 77) + 1)) (j := 77) dX11_note_94 hT147 hA147 rfl (by decide) (by decide) rfl ?_
  exact hz_iretx C Z rfl dX11_note_95 ⟨_, rfl, rfl, mv_up (by have h9 := mv_upT (mv_upR V (i := u 77) (x := r)) (i := u 77) (x := t) h6; rw [show 79 + 2 * u 77 = 78 + 2 * u 77 + 1 by omega] at h9 ⊢; exact h9) (by omega), ⟨fun b hb => by simp (disch := omega) only [hz_up_ne, sa_ne], by simp (disch := omega) only [hz_up_ne, sa_ne]⟩⟩
set_option maxHeartbeats 4000000 in
set_option maxRecDepth 100000 in
theorem ex_forgetM {I : Nat → Nat → Int32} {L : Nat → Nat → Int64} {q : Nat → Nat → Nat} {u : Nat → Nat} (V : MV I u) (U : WU u) : hz_Ex mX11_forget TT NN (I, L, PP q) [.ref 146] (hz_PI L (PP q) (some (.int (nI (u 77)))) (fun K => MV K (va_up u 77 0) ∧ kpM I K)) := by
  refine hz_Ex.intro (ls := [some (.ref 146), none]) (by decide +kernel) rfl (Nat.le_of_ble_eq_true rfl) (fun X C Z => ?_)
  refine hz_aload_n (pc := 0) C dX11_forget_0 rfl ?_
  refine hz_getP (pc := 1) C (v := 147) ffX11_7 dX11_forget_1 hT146 hA146 rfl (hP146_0 q) (by decide) ?_
  refine hz_bipush (pc := 4) C (v := nI 77) dX11_forget_4 (by decide +kernel) ?_
  refine hz_iald (pc := 6) C (v := nI (u 77)) (j := 77) dX11_forget_6 hT147 hA147 rfl (by decide) (by decide) (mg V (j := 77) (by omega) (by omega)) ?_
  refine hz_istore_n (pc := 7) C (ls' := [some (.ref 146), some (.int (nI (u 77)))]) dX11_forget_7 (Nat.le_of_ble_eq_true rfl) rfl ?_
  refine hz_aload_n (pc := 8) C dX11_forget_8 rfl ?_
  refine hz_getP (pc := 9) C (v := 147) ffX11_7 dX11_forget_9 hT146 hA146 rfl (hP146_0 q) (by decide) ?_
  refine hz_bipush (pc := 12) C (v := nI 77) dX11_forget_12 (by decide +kernel) ?_
  refine hz_iconst (pc := 14) C (v := nI 0) dX11_forget_14 (by decide +kernel) ?_
  refine hz_iast (pc := 15) C (v := nI 0) (j := 77) (M' := (hz_up I 147 77 (nI 0), L, PP q)) dX11_forget_15 hT147 hA147 rfl (by decide) (by decide) rfl rfl ?_
  refine hz_iload_n (pc := 16) C dX11_forget_16 rfl ?_
  exact hz_iretx C Z rfl dX11_forget_17 ⟨_, rfl, rfl, mv_up V (by omega), ⟨fun b hb => by simp (disch := omega) only [hz_up_ne, sa_ne], by simp (disch := omega) only [hz_up_ne, sa_ne]⟩⟩

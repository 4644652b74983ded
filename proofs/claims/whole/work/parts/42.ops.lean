section QWRAP
variable {X : hz_X} {y y0 : hz_Y} {T : hz_T} {n : Nat} {M : hz_M} {kc ks pc ix na : Nat} {ls : List (Option Value)} {st stk as : List Value} {v : Value} {L : Nat → Nat → Int64} {Fq : (Nat → Nat → Nat) → (Nat → Nat → Int32) → Prop}
theorem hz_callVqs (C : hz_C X y) {a c N : Nat} {rr : vw_C} (E : hz_Ex y0 T n M (.ref a :: as) (hz_PQ L (some v) Fq)) (Y : hz_FY y0 na) (F : hz_FV y.1.cls ix y0) (hna : as.length = na) (d : decode y.2.1 pc = .ok (.invokevirtual ix, 3)) (hT : T a = (c, N)) (hc : vwCl[c]? = some rr) (hcl : rr.1 = y0.1.cls) (ha : a ≠ 0 ∧ a ≤ n) (hst : stk = as.reverse ++ .ref a :: st) (hlen : ls.length = y.2.2.1) (hsum : (st.map Value.category).sum ≤ 8) (hd : y0.2.2.2.2 + 1 ≤ y.2.2.2.2) (hcap : hz_cap X kc ks) (kk : ∀ q J, Fq q J → hz_G X T n (J, L, PP q) kc ks (pc + 3) ls (v :: st)) : hz_G X T n M kc ks pc ls stk :=
  hz_callVx C E Y F hna d hT hc hcl ha hst hlen hsum hd hcap (fun r M' ⟨q, J, e1, e2, hJ⟩ => by subst e1; subst e2; exact kk q J hJ)
theorem hz_callVqv (C : hz_C X y) {a c N : Nat} {rr : vw_C} (E : hz_Ex y0 T n M (.ref a :: as) (hz_PQ L none Fq)) (Y : hz_FY y0 na) (F : hz_FV y.1.cls ix y0) (hna : as.length = na) (d : decode y.2.1 pc = .ok (.invokevirtual ix, 3)) (hT : T a = (c, N)) (hc : vwCl[c]? = some rr) (hcl : rr.1 = y0.1.cls) (ha : a ≠ 0 ∧ a ≤ n) (hst : stk = as.reverse ++ .ref a :: st) (hlen : ls.length = y.2.2.1) (hsum : (st.map Value.category).sum ≤ 8) (hd : y0.2.2.2.2 + 1 ≤ y.2.2.2.2) (hcap : hz_cap X kc ks) (kk : ∀ q J, Fq q J → hz_G X T n (J, L, PP q) kc ks (pc + 3) ls (st)) : hz_G X T n M kc ks pc ls stk :=
  hz_callVx C E Y F hna d hT hc hcl ha hst hlen hsum hd hcap (fun r M' ⟨q, J, e1, e2, hJ⟩ => by subst e1; subst e2; exact kk q J hJ)
theorem hz_callSNqs (C : hz_C X y) (E : hz_Ex y0 T n M as (hz_PQ L (some v) Fq)) (Y : hz_FY y0 na) {host : String} (F : hz_FSN y.1.cls ix y0 host) (hna : as.length = na) (d : decode y.2.1 pc = .ok (.invokestatic ix, 3)) (hst : stk = as.reverse ++ st) (hlen : ls.length = y.2.2.1) (hsum : (st.map Value.category).sum ≤ 8) (hd : y0.2.2.2.2 + 1 ≤ y.2.2.2.2) (hcap : hz_cap X kc ks) (kk : ∀ q J, Fq q J → hz_G X T n (J, L, PP q) kc ks (pc + 3) ls (v :: st)) : hz_G X T n M kc ks pc ls stk :=
  hz_callSNx C E Y F hna d hst hlen hsum hd hcap (fun r M' ⟨q, J, e1, e2, hJ⟩ => by subst e1; subst e2; exact kk q J hJ)
theorem hz_callSNqv (C : hz_C X y) (E : hz_Ex y0 T n M as (hz_PQ L none Fq)) (Y : hz_FY y0 na) {host : String} (F : hz_FSN y.1.cls ix y0 host) (hna : as.length = na) (d : decode y.2.1 pc = .ok (.invokestatic ix, 3)) (hst : stk = as.reverse ++ st) (hlen : ls.length = y.2.2.1) (hsum : (st.map Value.category).sum ≤ 8) (hd : y0.2.2.2.2 + 1 ≤ y.2.2.2.2) (hcap : hz_cap X kc ks) (kk : ∀ q J, Fq q J → hz_G X T n (J, L, PP q) kc ks (pc + 3) ls (st)) : hz_G X T n M kc ks pc ls stk :=
  hz_callSNx C E Y F hna d hst hlen hsum hd hcap (fun r M' ⟨q, J, e1, e2, hJ⟩ => by subst e1; subst e2; exact kk q J hJ)
end QWRAP
theorem kpC.mcp (I : Nat → Nat → Int32) {m o : Nat} (h1 : 12 ≤ m) (h2 : m + 1 ≤ 44) : kpC I (mcp I m o) := ⟨fun b hb => mcp_o (by omega) (by omega), fun i _ => by rw [mcp_o (by omega) (by omega)]⟩
theorem ex_rem {I : Nat → Nat → Int32} {L : Nat → Nat → Int64} {q : Nat → Nat → Nat} {u : Nat → Nat} (V : HV 12 q I u) (U : WU u) : hz_Ex mX2_remember TT NN (I, L, PP q) [.ref 12] (hz_PQ L none (fun q' J => HV 12 q' J (kb u) ∧ kpC I J ∧ kpQ q q')) := by
  have hp := V.2.2.2.2.2.2.2.2.2.1
  by_cases h8 : u 100 < 8
  · obtain ⟨-, h1, h2⟩ := mq_12 hp (i := u 100) h8
    exact (ev_remember hp (hv_un V) h8).x ⟨q, _, rfl, rfl, hv_keep V U h8, (kpC.mcp I (by omega) (by omega)).tr (kpC.up _ _ (by omega)), kpQ.rf q⟩
  · have h88 : u 100 = 8 := by have := wu_un U; omega
    obtain ⟨-, h1, h2⟩ := mq_12 hp (i := 0) (by omega)
    exact (ev_remember8 hp (by rw [hv_un V, h88])).x ⟨rt8 q, _, rfl, rfl, hv_keep8 V U h88, ((kpC.up I _ (by omega)).tr (kpC.mcp _ (by omega) (by omega))).tr (kpC.up _ _ (by omega)), fun a ha i => rt8_o q ha i⟩
theorem ex_kbM {I : Nat → Nat → Int32} {L : Nat → Nat → Int64} {q : Nat → Nat → Nat} {u : Nat → Nat} (V : MV I u) (U : WU u) : hz_Ex mX11_keepBack TT NN (I, L, PP q) [.ref 146] (hz_PI L (PP q) none (fun K => MV K (kb u) ∧ kpM I K)) := by
  by_cases h8 : u 100 < 8
  · exact (ev_keepBack (mg V (by omega) (by omega)) h8).x ⟨_, rfl, rfl, mv_keep V h8, kpM.sa _ _ (by omega)⟩
  · have h88 : u 100 = 8 := by have := wu_un U; omega
    exact (ev_keepBack8 (by rw [mg V (by omega) (by omega), h88])).x ⟨_, rfl, rfl, mv_keep8 V h88, (kpM.sa _ _ (by omega)).tr (kpM.sa _ _ (by omega))⟩
theorem pass_v {s n : Nat} (hs : s ≤ 9999) (hn : n ≤ 1000) : (if nI s + nI n < nI 9999 then nI s + nI n else nI 9999) = nI (min 9999 (s + n)) := by
  rw [nI_add]
  by_cases h : s + n < 9999
  · rw [if_pos (nI_lt h (by omega)), show min 9999 (s + n) = s + n by omega]
  · rw [if_neg (nI_nlt (by omega) (by omega)), show min 9999 (s + n) = 9999 by omega]
theorem pass_m {s n : Nat} (hs : s ≤ 9999) (hn : n ≤ 1000) : (if nI 9999 < nI s + nI n then nI 9999 else nI s + nI n) = nI (min 9999 (s + n)) := by
  rw [nI_add]
  by_cases h : 9999 < s + n
  · rw [if_pos (nI_lt h (by omega)), show min 9999 (s + n) = 9999 by omega]
  · rw [if_neg (nI_nlt (by omega) (by omega)), show min 9999 (s + n) = s + n by omega]
theorem ev_passN {I : Nat → Nat → Int32} {L : Nat → Nat → Int64} {q : Nat → Nat → Nat} {u : Nat → Nat} (V : HV 12 q I u) (U : WU u) {n : Nat} (hn : n ≤ 1000) : hz_Ev mX2_pass TT NN (I, L, PP q) [.ref 12, .int (nI n)] 0 0 none TT NN (hz_up I 19 1 (nI (min 9999 (u 90 + n))), L, PP q) := by
  have h := ev_pass (I := I) (L := L) (q := q) (nI n)
  rw [hv_se V, pass_v (wu_se U) hn] at h
  exact h
theorem ev_passNM {I : Nat → Nat → Int32} {L : Nat → Nat → Int64} {q : Nat → Nat → Nat} {u : Nat → Nat} (V : MV I u) (U : WU u) {n : Nat} (hn : n ≤ 1000) : hz_Ev mX11_pass TT NN (I, L, PP q) [.ref 146, .int (nI n)] 0 0 none TT NN (hz_up I 147 90 (nI (min 9999 (u 90 + n))), L, PP q) := by
  have h := ev_passM (I := I) (L := L) (q := q) (nI n)
  rw [mg V (by omega) (by omega), pass_m (wu_se U) hn] at h
  exact h
/-- bit k of d becomes x -/
def dnb (d k x : Nat) : Nat := if d / 2 ^ k % 2 = x then d else if x = 1 then d + 2 ^ k else d - 2 ^ k
theorem down_v {d k : Nat} (hd : d < 64) (hk : k < 6) {x : Nat} (hx : x < 2) : ((nI d &&& ((nI 1 <<< (nI k &&& 31)) ^^^ (-1 : Int32))) ||| (nI x <<< (nI k &&& 31))) = nI (dnb d k x) ∧ dnb d k x < 64 := by
  have h : ∀ d, d < 64 → ∀ k, k < 6 → ∀ x, x < 2 → ((nI d &&& ((nI 1 <<< (nI k &&& 31)) ^^^ (-1 : Int32))) ||| (nI x <<< (nI k &&& 31))) = nI (dnb d k x) ∧ dnb d k x < 64 := by decide +kernel
  exact h d hd k hk x hx
set_option maxHeartbeats 4000000 in
set_option maxRecDepth 100000 in
theorem ex_waits {I : Nat → Nat → Int32} {L : Nat → Nat → Int64} {q : Nat → Nat → Nat} {u : Nat → Nat} (V : HV 12 q I u) (U : WU u) {n : Nat} (hn1 : 1 ≤ n) (hn : n ≤ 99) {u2 : Nat → Nat} (hu2 : u2 = va_up (kb u) 90 (min 9999 (u 90 + n))) : hz_Ex mX10_waits TT NN (I, L, PP q) [.ref 1, .int (nI n)] (hz_PQ L (some (.int (nI (bsum (fun k => sin u2 k (nI (u2 90)) && rch u2 (u2 91) k) (u2 64))))) (fun q' J => HV 12 q' J (u2) ∧ kpC I J ∧ kpQ q q')) := by
  refine hz_Ex.intro (ls := [some (.ref 1), some (.int (nI n))]) (by decide +kernel) rfl (Nat.le_of_ble_eq_true rfl) (fun X C Z => ?_)
  refine hz_iload_n (pc := 0) C dX10_waits_0 rfl ?_
  refine hz_iconst (pc := 1) C (v := nI 1) dX10_waits_1 (by decide +kernel) ?_
  refine hz_bipush (pc := 2) C (v := nI 99) dX10_waits_2 (by decide +kernel) ?_
  refine hz_callSs (pc := 4) C (as := [.int (nI n), .int (nI 1), .int (nI 99)]) (st := []) (ev_within _ (nI n) (nI 1) (nI 99)) (hz_new0 _ _) fyX10_within fsX10_59 rfl dX10_waits_4 rfl rfl (Nat.le_of_ble_eq_true rfl) (by decide) (hz_cap0 _) ?_
  refine hz_ifb_ne (pc := 7) C (tgt := 15) dX10_waits_7 rfl (fun _ => ?_) (fun cq => absurd (vin hn1 hn (by decide)) cq)
  refine hz_aload_n (pc := 15) C dX10_waits_15 rfl ?_
  refine hz_getP (pc := 16) C (v := 12) ffX10_26 dX10_waits_16 hT1 hA1 rfl (hP1_4 q) (by decide) ?_
  refine hz_callVqv (pc := 19) C (as := []) (st := []) (ex_rem V U) fyX2_remember fvX10_95 rfl dX10_waits_19 hT12 rfl rfl hA12 rfl rfl (Nat.le_of_ble_eq_true rfl) (by decide) (hz_cap0 _) (fun q1 J1 h1 => ?_)
  have W2 : WU u2 := hu2 ▸ wu_sec (wu_keep U) (Nat.min_le_left _ _)
  have V2 : HV 12 q1 (hz_up J1 19 1 (nI (min 9999 (u 90 + n)))) u2 := hu2 ▸ hv_sec h1.1 (wu_keep U) _
  refine hz_aload_n (pc := 22) C dX10_waits_22 rfl ?_
  refine hz_getP (pc := 23) C (v := 12) ffX10_26 dX10_waits_23 hT1 hA1 rfl (hP1_4 q1) (by decide) ?_
  refine hz_iload_n (pc := 26) C dX10_waits_26 rfl ?_
  refine hz_callVv (pc := 27) C (as := [.int (nI n)]) (st := []) (by have h9 := ev_passN (L := L) h1.1 (wu_keep U) (n := n) (by omega); rw [kb_lo u (by omega)] at h9; exact h9) (hz_new0 _ _) fyX2_pass fvX10_98 rfl dX10_waits_27 hT12 rfl rfl hA12 rfl rfl (Nat.le_of_ble_eq_true rfl) (by decide) (hz_cap0 _) ?_
  refine hz_aload_n (pc := 30) C dX10_waits_30 rfl ?_
  refine hz_getP (pc := 31) C (v := 12) ffX10_26 dX10_waits_31 hT1 hA1 rfl (hP1_4 q1) (by decide) ?_
  refine hz_aload_n (pc := 34) C dX10_waits_34 rfl ?_
  refine hz_getP (pc := 35) C (v := 12) ffX10_26 dX10_waits_35 hT1 hA1 rfl (hP1_4 q1) (by decide) ?_
  refine hz_getP (pc := 38) C (v := 19) ffX10_102 dX10_waits_38 hT12 hA12 rfl (hP12_7 q1) (by decide) ?_
  refine hz_getI (pc := 41) C (v := nI (u2 91)) ffX10_106 dX10_waits_41 hT19 hA19 rfl (hv_pl V2) ?_
  refine hz_aload_n (pc := 44) C dX10_waits_44 rfl ?_
  refine hz_getP (pc := 45) C (v := 12) ffX10_26 dX10_waits_45 hT1 hA1 rfl (hP1_4 q1) (by decide) ?_
  refine hz_getP (pc := 48) C (v := 19) ffX10_102 dX10_waits_48 hT12 hA12 rfl (hP12_7 q1) (by decide) ?_
  refine hz_getI (pc := 51) C (v := nI (u2 90)) ffX10_111 dX10_waits_51 hT19 hA19 rfl (hv_se V2) ?_
  refine hz_callVs (pc := 54) C (as := [.int (nI (u2 91)), .int (nI (u2 90))]) (st := []) (ev_bitsHeard V2 W2 (wu_pl W2) _) (hz_new0 _ _) fyX2_bitsHeard fvX10_114 rfl dX10_waits_54 hT12 rfl rfl hA12 rfl rfl (Nat.le_of_ble_eq_true rfl) (by decide) (hz_cap0 _) ?_
  exact hz_iretx C Z rfl dX10_waits_57 ⟨_, _, rfl, rfl, hv_msb V2 W2 _, (h1.2.1.tr (kpC.up _ _ (by omega))).tr (kpC.msB _ _ _), h1.2.2⟩
set_option maxHeartbeats 4000000 in
set_option maxRecDepth 100000 in
theorem ex_house {I : Nat → Nat → Int32} {L : Nat → Nat → Int64} {q : Nat → Nat → Nat} {u : Nat → Nat} (V : HV 12 q I u) (U : WU u) : hz_Ex mX10_house TT NN (I, L, PP q) [.ref 1] (hz_PQ L (some (.int (nI (u 64)))) (fun q' J => HV 12 q' J (u0) ∧ kpC I J ∧ kpQ q q')) := by
  refine hz_Ex.intro (ls := [some (.ref 1), none]) (by decide +kernel) rfl (Nat.le_of_ble_eq_true rfl) (fun X C Z => ?_)
  refine hz_aload_n (pc := 0) C dX10_house_0 rfl ?_
  refine hz_getP (pc := 1) C (v := 12) ffX10_26 dX10_house_1 hT1 hA1 rfl (hP1_4 q) (by decide) ?_
  refine hz_getI (pc := 4) C (v := nI (u 64)) ffX10_48 dX10_house_4 hT12 hA12 rfl (hv_al V) ?_
  refine hz_istore_n (pc := 7) C (ls' := [some (.ref 1), some (.int (nI (u 64)))]) dX10_house_7 (Nat.le_of_ble_eq_true rfl) rfl ?_
  refine hz_aload_n (pc := 8) C dX10_house_8 rfl ?_
  refine hz_getP (pc := 9) C (v := 12) ffX10_26 dX10_house_9 hT1 hA1 rfl (hP1_4 q) (by decide) ?_
  refine hz_callVv (pc := 12) C (as := []) (st := []) ev_reset (hz_new0 _ _) fyX2_reset fvX10_52 rfl dX10_house_12 hT12 rfl rfl hA12 rfl rfl (Nat.le_of_ble_eq_true rfl) (by decide) (hz_cap0 _) ?_
  refine hz_iload_n (pc := 15) C dX10_house_15 rfl ?_
  exact hz_iretx C Z rfl dX10_house_16 ⟨q, _, rfl, rfl, hv_reset V U, ⟨fun b hb => by simp (disch := omega) only [hz_up_ne, sa_ne], fun i _ => by simp (disch := omega) only [hz_up_ne, sa_ne]⟩, kpQ.rf q⟩
set_option maxHeartbeats 4000000 in
set_option maxRecDepth 100000 in
theorem ex_door {I : Nat → Nat → Int32} {L : Nat → Nat → Int64} {q : Nat → Nat → Nat} {u : Nat → Nat} (V : HV 12 q I u) (U : WU u) {a b l : Nat} (ha : a < 8) (hb : b < 8) (hab : ¬ a = b) (hl1 : 1 ≤ l) (hl : l ≤ 9) : hz_Ex mX10_door TT NN (I, L, PP q) [.ref 1, .int (nI a), .int (nI b), .int (nI l)] (hz_PQ L (some (.int (dv (u (8 * a + b))))) (fun q' J => HV 12 q' J (va_up (va_up u (8 * a + b) l) (8 * b + a) l) ∧ kpC I J ∧ kpQ q q')) := by
  refine hz_Ex.intro (ls := [some (.ref 1), some (.int (nI a)), some (.int (nI b)), some (.int (nI l)), none]) (by decide +kernel) rfl (Nat.le_of_ble_eq_true rfl) (fun X C Z => ?_)
  refine hz_iload_n (pc := 0) C dX10_door_0 rfl ?_
  refine hz_callSs (pc := 1) C (as := [.int (nI a)]) (st := []) (ev_isRoom _ (nI a)) (hz_new0 _ _) fyX10_isRoom fsX10_55 rfl dX10_door_1 rfl rfl (Nat.le_of_ble_eq_true rfl) (by decide) (hz_cap0 _) ?_
  refine hz_ifb_eq (pc := 4) C (tgt := 29) dX10_door_4 rfl (fun cq => absurd (vr ha) cq) (fun _ => ?_)
  refine hz_iload_n (pc := 7) C dX10_door_7 rfl ?_
  refine hz_callSs (pc := 8) C (as := [.int (nI b)]) (st := []) (ev_isRoom _ (nI b)) (hz_new0 _ _) fyX10_isRoom fsX10_55 rfl dX10_door_8 rfl rfl (Nat.le_of_ble_eq_true rfl) (by decide) (hz_cap0 _) ?_
  refine hz_ifb_eq (pc := 11) C (tgt := 29) dX10_door_11 rfl (fun cq => absurd (vr hb) cq) (fun _ => ?_)
  refine hz_iload_n (pc := 14) C dX10_door_14 rfl ?_
  refine hz_iload_n (pc := 15) C dX10_door_15 rfl ?_
  refine hz_ic_eq (pc := 16) C (tgt := 29) dX10_door_16 rfl (fun cq => absurd ((nI_eq (by omega) (by omega)).mp cq) (by omega)) (fun _ => ?_)
  refine hz_iload_n (pc := 19) C dX10_door_19 rfl ?_
  refine hz_iconst (pc := 20) C (v := nI 1) dX10_door_20 (by decide +kernel) ?_
  refine hz_bipush (pc := 21) C (v := nI 9) dX10_door_21 (by decide +kernel) ?_
  refine hz_callSs (pc := 23) C (as := [.int (nI l), .int (nI 1), .int (nI 9)]) (st := []) (ev_within _ (nI l) (nI 1) (nI 9)) (hz_new0 _ _) fyX10_within fsX10_59 rfl dX10_door_23 rfl rfl (Nat.le_of_ble_eq_true rfl) (by decide) (hz_cap0 _) ?_
  refine hz_ifb_ne (pc := 26) C (tgt := 42) dX10_door_26 rfl (fun _ => ?_) (fun cq => absurd (vin hl1 hl (by decide)) cq)
  refine hz_aload_n (pc := 42) C dX10_door_42 rfl ?_
  refine hz_getP (pc := 43) C (v := 12) ffX10_26 dX10_door_43 hT1 hA1 rfl (hP1_4 q) (by decide) ?_
  refine hz_iload_n (pc := 46) C dX10_door_46 rfl ?_
  refine hz_iload_n (pc := 47) C dX10_door_47 rfl ?_
  refine hz_callVs (pc := 48) C (as := [.int (nI a), .int (nI b)]) (st := []) (ev_door V U (a := a) (b := b) (by omega) (by omega)) (hz_new0 _ _) fyX2_doorBetween fvX10_66 rfl dX10_door_48 hT12 rfl rfl hA12 rfl rfl (Nat.le_of_ble_eq_true rfl) (by decide) (hz_cap0 _) ?_
  refine hz_istore (pc := 51) C (ls' := [some (.ref 1), some (.int (nI a)), some (.int (nI b)), some (.int (nI l)), some (.int (dv (u (8 * a + b))))]) dX10_door_51 (Nat.le_of_ble_eq_true rfl) rfl ?_
  refine hz_aload_n (pc := 53) C dX10_door_53 rfl ?_
  refine hz_getP (pc := 54) C (v := 12) ffX10_26 dX10_door_54 hT1 hA1 rfl (hP1_4 q) (by decide) ?_
  refine hz_iload_n (pc := 57) C dX10_door_57 rfl ?_
  refine hz_iload_n (pc := 58) C dX10_door_58 rfl ?_
  refine hz_iload_n (pc := 59) C dX10_door_59 rfl ?_
  refine hz_callVv (pc := 60) C (as := [.int (nI a), .int (nI b), .int (nI l)]) (st := []) (ev_setDoor ha hb _) (hz_new0 _ _) fyX2_setDoor fvX10_70 rfl dX10_door_60 hT12 rfl rfl hA12 rfl rfl (Nat.le_of_ble_eq_true rfl) (by decide) (hz_cap0 _) ?_
  refine hz_iload (pc := 63) C dX10_door_63 rfl ?_
  exact hz_iretx C Z rfl dX10_door_65 ⟨q, _, rfl, rfl, hv_door V U ha hb (by omega), ⟨fun b hb => by simp (disch := omega) only [hz_up_ne, sa_ne], fun i _ => by simp (disch := omega) only [hz_up_ne, sa_ne]⟩, kpQ.rf q⟩
set_option maxHeartbeats 4000000 in
set_option maxRecDepth 100000 in
theorem ex_alarm {I : Nat → Nat → Int32} {L : Nat → Nat → Int64} {q : Nat → Nat → Nat} {u : Nat → Nat} (V : HV 12 q I u) (U : WU u) (h6 : u 64 < 6) {kd rm ba : Nat} (hkd : kd < 6) (hrm : rm < 8) (hba : ba ≤ 99) : hz_Ex mX10_alarm TT NN (I, L, PP q) [.ref 1, .int (nI kd), .int (nI rm), .int (nI ba)] (hz_PQ L (some (.int (nI (u 64)))) (fun q' J => HV 12 q' J (va_up (va_up (va_up (va_up (va_up u (65 + u 64) kd) (71 + u 64) rm) (94 + u 64) ba) 64 (u 64 + 1)) 100 0) ∧ kpC I J ∧ kpQ q q')) := by
  refine hz_Ex.intro (ls := [some (.ref 1), some (.int (nI kd)), some (.int (nI rm)), some (.int (nI ba))]) (by decide +kernel) rfl (Nat.le_of_ble_eq_true rfl) (fun X C Z => ?_)
  refine hz_iload_n (pc := 0) C dX10_alarm_0 rfl ?_
  refine hz_iconst (pc := 1) C (v := nI 0) dX10_alarm_1 (by decide +kernel) ?_
  refine hz_iconst (pc := 2) C (v := nI 5) dX10_alarm_2 (by decide +kernel) ?_
  refine hz_callSs (pc := 3) C (as := [.int (nI kd), .int (nI 0), .int (nI 5)]) (st := []) (ev_within _ (nI kd) (nI 0) (nI 5)) (hz_new0 _ _) fyX10_within fsX10_59 rfl dX10_alarm_3 rfl rfl (Nat.le_of_ble_eq_true rfl) (by decide) (hz_cap0 _) ?_
  refine hz_ifb_eq (pc := 6) C (tgt := 26) dX10_alarm_6 rfl (fun cq => absurd (vin (Nat.zero_le _) (show kd ≤ 5 by omega) (by decide)) cq) (fun _ => ?_)
  refine hz_iload_n (pc := 9) C dX10_alarm_9 rfl ?_
  refine hz_callSs (pc := 10) C (as := [.int (nI rm)]) (st := []) (ev_isRoom _ (nI rm)) (hz_new0 _ _) fyX10_isRoom fsX10_55 rfl dX10_alarm_10 rfl rfl (Nat.le_of_ble_eq_true rfl) (by decide) (hz_cap0 _) ?_
  refine hz_ifb_eq (pc := 13) C (tgt := 26) dX10_alarm_13 rfl (fun cq => absurd (vr hrm) cq) (fun _ => ?_)
  refine hz_iload_n (pc := 16) C dX10_alarm_16 rfl ?_
  refine hz_iconst (pc := 17) C (v := nI 0) dX10_alarm_17 (by decide +kernel) ?_
  refine hz_bipush (pc := 18) C (v := nI 99) dX10_alarm_18 (by decide +kernel) ?_
  refine hz_callSs (pc := 20) C (as := [.int (nI ba), .int (nI 0), .int (nI 99)]) (st := []) (ev_within _ (nI ba) (nI 0) (nI 99)) (hz_new0 _ _) fyX10_within fsX10_59 rfl dX10_alarm_20 rfl rfl (Nat.le_of_ble_eq_true rfl) (by decide) (hz_cap0 _) ?_
  refine hz_ifb_ne (pc := 23) C (tgt := 31) dX10_alarm_23 rfl (fun _ => ?_) (fun cq => absurd (vin (Nat.zero_le _) hba (by decide)) cq)
  refine hz_aload_n (pc := 31) C dX10_alarm_31 rfl ?_
  refine hz_getP (pc := 32) C (v := 12) ffX10_26 dX10_alarm_32 hT1 hA1 rfl (hP1_4 q) (by decide) ?_
  refine hz_getI (pc := 35) C (v := nI (u 64)) ffX10_48 dX10_alarm_35 hT12 hA12 rfl (hv_al V) ?_
  refine hz_bipush (pc := 38) C (v := nI 6) dX10_alarm_38 (by decide +kernel) ?_
  refine hz_ic_lt (pc := 40) C (tgt := 48) dX10_alarm_40 rfl (fun _ => ?_) (fun cq => absurd (nI_lt (by omega) (by omega)) cq)
  refine hz_aload_n (pc := 48) C dX10_alarm_48 rfl ?_
  refine hz_getP (pc := 49) C (v := 12) ffX10_26 dX10_alarm_49 hT1 hA1 rfl (hP1_4 q) (by decide) ?_
  refine hz_iload_n (pc := 52) C dX10_alarm_52 rfl ?_
  refine hz_iload_n (pc := 53) C dX10_alarm_53 rfl ?_
  refine hz_iload_n (pc := 54) C dX10_alarm_54 rfl ?_
  refine hz_callVv (pc := 55) C (as := [.int (nI kd), .int (nI rm), .int (nI ba)]) (st := []) (ev_addAlarm (hv_al V) h6 _ _ _) (hz_new0 _ _) fyX2_addAlarm fvX10_81 rfl dX10_alarm_55 hT12 rfl rfl hA12 rfl rfl (Nat.le_of_ble_eq_true rfl) (by decide) (hz_cap0 _) ?_
  refine hz_aload_n (pc := 58) C dX10_alarm_58 rfl ?_
  refine hz_getP (pc := 59) C (v := 12) ffX10_26 dX10_alarm_59 hT1 hA1 rfl (hP1_4 q) (by decide) ?_
  refine hz_getI (pc := 62) C (v := nI (u 64 + 1)) ffX10_48 dX10_alarm_62 hT12 hA12 rfl rfl ?_
  refine hz_iconst (pc := 65) C (v := nI 1) dX10_alarm_65 (by decide +kernel) ?_
  refine hz_isub (pc := 66) C dX10_alarm_66 rfl ?_
  exact hz_iretx C Z rfl dX10_alarm_67 ⟨q, _, (congrArg (fun z => some (Value.int z)) (pk_sub (by omega))), rfl, hv_alarm V U h6 kd rm ba, ⟨fun b hb => by simp (disch := omega) only [hz_up_ne, sa_ne], fun i _ => by simp (disch := omega) only [hz_up_ne, sa_ne]⟩, kpQ.rf q⟩
set_option maxHeartbeats 4000000 in
set_option maxRecDepth 100000 in
theorem ex_battery {I : Nat → Nat → Int32} {L : Nat → Nat → Int64} {q : Nat → Nat → Nat} {u : Nat → Nat} (V : HV 12 q I u) (U : WU u) {k b : Nat} (hk : k < u 64) (hb : b ≤ 99) : hz_Ex mX10_battery TT NN (I, L, PP q) [.ref 1, .int (nI k), .int (nI b)] (hz_PQ L (some (.int (nI (u (94 + k))))) (fun q' J => HV 12 q' J (va_up (kb u) (94 + k) b) ∧ kpC I J ∧ kpQ q q')) := by
  have hal := wu_al U
  refine hz_Ex.intro (ls := [some (.ref 1), some (.int (nI k)), some (.int (nI b)), none]) (by decide +kernel) rfl (Nat.le_of_ble_eq_true rfl) (fun X C Z => ?_)
  refine hz_aload_n (pc := 0) C dX10_battery_0 rfl ?_
  refine hz_iload_n (pc := 1) C dX10_battery_1 rfl ?_
  refine hz_callVs (pc := 2) C (as := [.int (nI k)]) (st := []) (ev_isAlarm V U (nI k)) (hz_new0 _ _) fyX10_isAlarm fvX10_123 rfl dX10_battery_2 hT1 rfl rfl hA1 rfl rfl (Nat.le_of_ble_eq_true rfl) (by decide) (hz_cap0 _) ?_
  refine hz_ifb_eq (pc := 5) C (tgt := 18) dX10_battery_5 rfl (fun cq => absurd (vk hk (wu_al U)) cq) (fun _ => ?_)
  refine hz_iload_n (pc := 8) C dX10_battery_8 rfl ?_
  refine hz_iconst (pc := 9) C (v := nI 0) dX10_battery_9 (by decide +kernel) ?_
  refine hz_bipush (pc := 10) C (v := nI 99) dX10_battery_10 (by decide +kernel) ?_
  refine hz_callSs (pc := 12) C (as := [.int (nI b), .int (nI 0), .int (nI 99)]) (st := []) (ev_within _ (nI b) (nI 0) (nI 99)) (hz_new0 _ _) fyX10_within fsX10_59 rfl dX10_battery_12 rfl rfl (Nat.le_of_ble_eq_true rfl) (by decide) (hz_cap0 _) ?_
  refine hz_ifb_ne (pc := 15) C (tgt := 23) dX10_battery_15 rfl (fun _ => ?_) (fun cq => absurd (vin (Nat.zero_le _) hb (by decide)) cq)
  refine hz_aload_n (pc := 23) C dX10_battery_23 rfl ?_
  refine hz_getP (pc := 24) C (v := 12) ffX10_26 dX10_battery_24 hT1 hA1 rfl (hP1_4 q) (by decide) ?_
  refine hz_getP (pc := 27) C (v := 19) ffX10_102 dX10_battery_27 hT12 hA12 rfl (hP12_7 q) (by decide) ?_
  refine hz_getP (pc := 30) C (v := 20) ffX10_134 dX10_battery_30 hT19 hA19 rfl (hP19_0 q) (by decide) ?_
  refine hz_iload_n (pc := 33) C dX10_battery_33 rfl ?_
  refine hz_iald (pc := 34) C (v := nI (u (94 + k))) (j := k) dX10_battery_34 hT20 hA20 rfl (by omega) (by decide) (hv_ba V (by omega)) ?_
  refine hz_istore_n (pc := 35) C (ls' := [some (.ref 1), some (.int (nI k)), some (.int (nI b)), some (.int (nI (u (94 + k))))]) dX10_battery_35 (Nat.le_of_ble_eq_true rfl) rfl ?_
  refine hz_aload_n (pc := 36) C dX10_battery_36 rfl ?_
  refine hz_getP (pc := 37) C (v := 12) ffX10_26 dX10_battery_37 hT1 hA1 rfl (hP1_4 q) (by decide) ?_
  refine hz_callVqv (pc := 40) C (as := []) (st := []) (ex_rem V U) fyX2_remember fvX10_95 rfl dX10_battery_40 hT12 rfl rfl hA12 rfl rfl (Nat.le_of_ble_eq_true rfl) (by decide) (hz_cap0 _) (fun q1 J1 h1 => ?_)
  refine hz_aload_n (pc := 43) C dX10_battery_43 rfl ?_
  refine hz_getP (pc := 44) C (v := 12) ffX10_26 dX10_battery_44 hT1 hA1 rfl (hP1_4 q1) (by decide) ?_
  refine hz_getP (pc := 47) C (v := 19) ffX10_102 dX10_battery_47 hT12 hA12 rfl (hP12_7 q1) (by decide) ?_
  refine hz_getP (pc := 50) C (v := 20) ffX10_134 dX10_battery_50 hT19 hA19 rfl (hP19_0 q1) (by decide) ?_
  refine hz_iload_n (pc := 53) C dX10_battery_53 rfl ?_
  refine hz_iload_n (pc := 54) C dX10_battery_54 rfl ?_
  refine hz_iast (pc := 55) C (v := nI b) (j := k) (M' := (hz_up J1 20 k (nI b), L, PP q1)) dX10_battery_55 hT20 hA20 rfl (by omega) (by decide) rfl rfl ?_
  refine hz_iload_n (pc := 56) C dX10_battery_56 rfl ?_
  exact hz_iretx C Z rfl dX10_battery_57 ⟨q1, _, rfl, rfl, hv_bat h1.1 (wu_keep U) (by rw [kb_lo u (by omega)]; exact hk) b, h1.2.1.tr ⟨fun b hb => by simp (disch := omega) only [hz_up_ne, sa_ne], fun i _ => by simp (disch := omega) only [hz_up_ne, sa_ne]⟩, h1.2.2⟩
set_option maxHeartbeats 4000000 in
set_option maxRecDepth 100000 in
theorem ex_cold {I : Nat → Nat → Int32} {L : Nat → Nat → Int64} {q : Nat → Nat → Nat} {u : Nat → Nat} (V : HV 12 q I u) (U : WU u) {c : Nat} (hc : c ≤ 9) : hz_Ex mX10_cold TT NN (I, L, PP q) [.ref 1, .int (nI c)] (hz_PQ L (some (.int (nI (u 92)))) (fun q' J => HV 12 q' J (va_up (kb u) 92 c) ∧ kpC I J ∧ kpQ q q')) := by
  refine hz_Ex.intro (ls := [some (.ref 1), some (.int (nI c)), none]) (by decide +kernel) rfl (Nat.le_of_ble_eq_true rfl) (fun X C Z => ?_)
  refine hz_iload_n (pc := 0) C dX10_cold_0 rfl ?_
  refine hz_iconst (pc := 1) C (v := nI 0) dX10_cold_1 (by decide +kernel) ?_
  refine hz_bipush (pc := 2) C (v := nI 9) dX10_cold_2 (by decide +kernel) ?_
  refine hz_callSs (pc := 4) C (as := [.int (nI c), .int (nI 0), .int (nI 9)]) (st := []) (ev_within _ (nI c) (nI 0) (nI 9)) (hz_new0 _ _) fyX10_within fsX10_59 rfl dX10_cold_4 rfl rfl (Nat.le_of_ble_eq_true rfl) (by decide) (hz_cap0 _) ?_
  refine hz_ifb_ne (pc := 7) C (tgt := 15) dX10_cold_7 rfl (fun _ => ?_) (fun cq => absurd (vin (Nat.zero_le _) hc (by decide)) cq)
  refine hz_aload_n (pc := 15) C dX10_cold_15 rfl ?_
  refine hz_getP (pc := 16) C (v := 12) ffX10_26 dX10_cold_16 hT1 hA1 rfl (hP1_4 q) (by decide) ?_
  refine hz_getP (pc := 19) C (v := 19) ffX10_102 dX10_cold_19 hT12 hA12 rfl (hP12_7 q) (by decide) ?_
  refine hz_getI (pc := 22) C (v := nI (u 92)) ffX10_137 dX10_cold_22 hT19 hA19 rfl (hv_co V) ?_
  refine hz_istore_n (pc := 25) C (ls' := [some (.ref 1), some (.int (nI c)), some (.int (nI (u 92)))]) dX10_cold_25 (Nat.le_of_ble_eq_true rfl) rfl ?_
  refine hz_aload_n (pc := 26) C dX10_cold_26 rfl ?_
  refine hz_getP (pc := 27) C (v := 12) ffX10_26 dX10_cold_27 hT1 hA1 rfl (hP1_4 q) (by decide) ?_
  refine hz_callVqv (pc := 30) C (as := []) (st := []) (ex_rem V U) fyX2_remember fvX10_95 rfl dX10_cold_30 hT12 rfl rfl hA12 rfl rfl (Nat.le_of_ble_eq_true rfl) (by decide) (hz_cap0 _) (fun q1 J1 h1 => ?_)
  refine hz_aload_n (pc := 33) C dX10_cold_33 rfl ?_
  refine hz_getP (pc := 34) C (v := 12) ffX10_26 dX10_cold_34 hT1 hA1 rfl (hP1_4 q1) (by decide) ?_
  refine hz_getP (pc := 37) C (v := 19) ffX10_102 dX10_cold_37 hT12 hA12 rfl (hP12_7 q1) (by decide) ?_
  refine hz_iload_n (pc := 40) C dX10_cold_40 rfl ?_
  refine hz_putI (pc := 41) C (M' := (hz_up J1 19 3 (nI c), L, PP q1)) ffX10_137 dX10_cold_41 hT19 hA19 rfl rfl ⟨rfl, rfl⟩ rfl ?_
  refine hz_iload_n (pc := 44) C dX10_cold_44 rfl ?_
  exact hz_iretx C Z rfl dX10_cold_45 ⟨q1, _, rfl, rfl, hv_cold h1.1 (wu_keep U) c, h1.2.1.tr ⟨fun b hb => by simp (disch := omega) only [hz_up_ne, sa_ne], fun i _ => by simp (disch := omega) only [hz_up_ne, sa_ne]⟩, h1.2.2⟩
theorem ev_setDownN {I : Nat → Nat → Int32} {L : Nat → Nat → Int64} {q : Nat → Nat → Nat} {u : Nat → Nat} (V : HV 12 q I u) (U : WU u) {k x : Nat} (hk : k < 6) (hx : x < 2) : hz_Ev mX3_setDown TT NN (I, L, PP q) [.ref 19, .int (nI k), .int (nI x)] 0 0 none TT NN (hz_up I 19 4 (nI (dnb (u 93) k x)), L, PP q) := by
  have h := ev_setDown (m := 19) (I := I) (L := L) (q := q) hT19 hA19 (nI k) (nI x)
  rw [hv_dn V, (down_v (wu_dn U) hk hx).1] at h
  exact h
set_option maxHeartbeats 4000000 in
set_option maxRecDepth 100000 in
theorem ex_take {I : Nat → Nat → Int32} {L : Nat → Nat → Int64} {q : Nat → Nat → Nat} {u : Nat → Nat} (V : HV 12 q I u) (U : WU u) {k x : Nat} (hk : k < u 64) (hx : x ≤ 1) (hp : u (71 + k) = u 91) : hz_Ex mX10_take TT NN (I, L, PP q) [.ref 1, .int (nI k), .int (nI x)] (hz_PQ L (some (.int (nI 1))) (fun q' J => HV 12 q' J (va_up (kb u) 93 (dnb (u 93) k x)) ∧ kpC I J ∧ kpQ q q')) := by
  have hal := wu_al U
  have hrm := wu_rm U hk
  have hpl := wu_pl U
  refine hz_Ex.intro (ls := [some (.ref 1), some (.int (nI k)), some (.int (nI x))]) (by decide +kernel) rfl (Nat.le_of_ble_eq_true rfl) (fun X C Z => ?_)
  refine hz_aload_n (pc := 0) C dX10_take_0 rfl ?_
  refine hz_iload_n (pc := 1) C dX10_take_1 rfl ?_
  refine hz_callVs (pc := 2) C (as := [.int (nI k)]) (st := []) (ev_isAlarm V U (nI k)) (hz_new0 _ _) fyX10_isAlarm fvX10_123 rfl dX10_take_2 hT1 rfl rfl hA1 rfl rfl (Nat.le_of_ble_eq_true rfl) (by decide) (hz_cap0 _) ?_
  refine hz_ifb_eq (pc := 5) C (tgt := 17) dX10_take_5 rfl (fun cq => absurd (vk hk (wu_al U)) cq) (fun _ => ?_)
  refine hz_iload_n (pc := 8) C dX10_take_8 rfl ?_
  refine hz_iconst (pc := 9) C (v := nI 0) dX10_take_9 (by decide +kernel) ?_
  refine hz_iconst (pc := 10) C (v := nI 1) dX10_take_10 (by decide +kernel) ?_
  refine hz_callSs (pc := 11) C (as := [.int (nI x), .int (nI 0), .int (nI 1)]) (st := []) (ev_within _ (nI x) (nI 0) (nI 1)) (hz_new0 _ _) fyX10_within fsX10_59 rfl dX10_take_11 rfl rfl (Nat.le_of_ble_eq_true rfl) (by decide) (hz_cap0 _) ?_
  refine hz_ifb_ne (pc := 14) C (tgt := 22) dX10_take_14 rfl (fun _ => ?_) (fun cq => absurd (vin (Nat.zero_le _) hx (by decide)) cq)
  refine hz_aload_n (pc := 22) C dX10_take_22 rfl ?_
  refine hz_getP (pc := 23) C (v := 12) ffX10_26 dX10_take_23 hT1 hA1 rfl (hP1_4 q) (by decide) ?_
  refine hz_getP (pc := 26) C (v := 16) ffX10_126 dX10_take_26 hT12 hA12 rfl (hP12_4 q) (by decide) ?_
  refine hz_iload_n (pc := 29) C dX10_take_29 rfl ?_
  refine hz_iald (pc := 30) C (v := nI (u (71 + k))) (j := k) dX10_take_30 hT16 hA16 rfl (by omega) (by decide) (hv_rm V (by omega)) ?_
  refine hz_aload_n (pc := 31) C dX10_take_31 rfl ?_
  refine hz_getP (pc := 32) C (v := 12) ffX10_26 dX10_take_32 hT1 hA1 rfl (hP1_4 q) (by decide) ?_
  refine hz_getP (pc := 35) C (v := 19) ffX10_102 dX10_take_35 hT12 hA12 rfl (hP12_7 q) (by decide) ?_
  refine hz_getI (pc := 38) C (v := nI (u 91)) ffX10_106 dX10_take_38 hT19 hA19 rfl (hv_pl V) ?_
  refine hz_ic_eq (pc := 41) C (tgt := 49) dX10_take_41 rfl (fun _ => ?_) (fun cq => absurd ((nI_eq (by omega) (by omega)).mpr (by omega)) cq)
  refine hz_aload_n (pc := 49) C dX10_take_49 rfl ?_
  refine hz_getP (pc := 50) C (v := 12) ffX10_26 dX10_take_50 hT1 hA1 rfl (hP1_4 q) (by decide) ?_
  refine hz_callVqv (pc := 53) C (as := []) (st := []) (ex_rem V U) fyX2_remember fvX10_95 rfl dX10_take_53 hT12 rfl rfl hA12 rfl rfl (Nat.le_of_ble_eq_true rfl) (by decide) (hz_cap0 _) (fun q1 J1 h1 => ?_)
  refine hz_aload_n (pc := 56) C dX10_take_56 rfl ?_
  refine hz_getP (pc := 57) C (v := 12) ffX10_26 dX10_take_57 hT1 hA1 rfl (hP1_4 q1) (by decide) ?_
  refine hz_getP (pc := 60) C (v := 19) ffX10_102 dX10_take_60 hT12 hA12 rfl (hP12_7 q1) (by decide) ?_
  refine hz_iload_n (pc := 63) C dX10_take_63 rfl ?_
  refine hz_iload_n (pc := 64) C dX10_take_64 rfl ?_
  refine hz_callVv (pc := 65) C (as := [.int (nI k), .int (nI x)]) (st := []) (by have h9 := ev_setDownN (L := L) h1.1 (wu_keep U) (k := k) (x := x) (by omega) (by omega); rw [kb_lo u (by omega)] at h9; exact h9) (hz_new0 _ _) fyX3_setDown fvX10_130 rfl dX10_take_65 hT19 rfl rfl hA19 rfl rfl (Nat.le_of_ble_eq_true rfl) (by decide) (hz_cap0 _) ?_
  refine hz_iconst (pc := 68) C (v := nI 1) dX10_take_68 (by decide +kernel) ?_
  exact hz_iretx C Z rfl dX10_take_69 ⟨q1, _, rfl, rfl, hv_down h1.1 (wu_keep U) _, h1.2.1.tr ⟨fun b hb => by simp (disch := omega) only [hz_up_ne, sa_ne], fun i _ => by simp (disch := omega) only [hz_up_ne, sa_ne]⟩, h1.2.2⟩
theorem ev_goBackN {I : Nat → Nat → Int32} {L : Nat → Nat → Int64} {q : Nat → Nat → Nat} {u : Nat → Nat} (V : HV 12 q I u) (U : WU u) {n : Nat} (hn : u 100 = n + 1) : hz_Ev mX2_goBack TT NN (I, L, PP q) [.ref 12] 0 0 none TT NN (mcp (hz_up I 12 12 (nI n)) 19 (q 21 n), L, PP q) := by
  have h9 := ev_goBack (I := I) (L := L) (n := n) V.2.2.2.2.2.2.2.2.2.1 (by rw [hv_un V, hn]) (by have := wu_un U; omega)
  rw [pk_sub (by omega), Nat.add_sub_cancel] at h9
  exact h9
theorem nI_gt0 {n : Nat} (h : 0 < n) (h2 : n < 2 ^ 31) : 0 < nI n := by
  have h9 := nI_lt h h2
  rwa [nI_0] at h9
set_option maxHeartbeats 4000000 in
set_option maxRecDepth 100000 in
theorem ex_undo {I : Nat → Nat → Int32} {L : Nat → Nat → Int64} {q : Nat → Nat → Nat} {u : Nat → Nat} (V : HV 12 q I u) (U : WU u) {n : Nat} (hn : u 100 = n + 1) : hz_Ex mX10_undo TT NN (I, L, PP q) [.ref 1] (hz_PQ L (some (.int (nI (ub u n 90)))) (fun q' J => HV 12 q' J (ub u n) ∧ kpC I J ∧ kpQ q q')) := by
  have hun := wu_un U
  refine hz_Ex.intro (ls := [some (.ref 1)]) (by decide +kernel) rfl (Nat.le_of_ble_eq_true rfl) (fun X C Z => ?_)
  refine hz_aload_n (pc := 0) C dX10_undo_0 rfl ?_
  refine hz_getP (pc := 1) C (v := 12) ffX10_26 dX10_undo_1 hT1 hA1 rfl (hP1_4 q) (by decide) ?_
  refine hz_getI (pc := 4) C (v := nI (u 100)) ffX10_140 dX10_undo_4 hT12 hA12 rfl (hv_un V) ?_
  refine hz_if_gt (pc := 7) C (tgt := 15) dX10_undo_7 rfl (fun _ => ?_) (fun cq => absurd (nI_gt0 (by omega) (by omega)) cq)
  refine hz_aload_n (pc := 15) C dX10_undo_15 rfl ?_
  refine hz_getP (pc := 16) C (v := 12) ffX10_26 dX10_undo_16 hT1 hA1 rfl (hP1_4 q) (by decide) ?_
  refine hz_callVv (pc := 19) C (as := []) (st := []) (ev_goBackN V U hn) (hz_new0 _ _) fyX2_goBack fvX10_143 rfl dX10_undo_19 hT12 rfl rfl hA12 rfl rfl (Nat.le_of_ble_eq_true rfl) (by decide) (hz_cap0 _) ?_
  refine hz_aload_n (pc := 22) C dX10_undo_22 rfl ?_
  refine hz_getP (pc := 23) C (v := 12) ffX10_26 dX10_undo_23 hT1 hA1 rfl (hP1_4 q) (by decide) ?_
  refine hz_getP (pc := 26) C (v := 19) ffX10_102 dX10_undo_26 hT12 hA12 rfl (hP12_7 q) (by decide) ?_
  refine hz_getI (pc := 29) C (v := nI ((ub u n) 90)) ffX10_111 dX10_undo_29 hT19 hA19 rfl (hv_se (hv_undo V U hn)) ?_
  exact hz_iretx C Z rfl dX10_undo_32 ⟨q, _, rfl, rfl, hv_undo V U hn, (kpC.up I _ (by omega)).tr (kpC.mcp _ (by omega) (by omega)), kpQ.rf q⟩
set_option maxHeartbeats 4000000 in
set_option maxRecDepth 100000 in
theorem ex_walk {I : Nat → Nat → Int32} {L : Nat → Nat → Int64} {q : Nat → Nat → Nat} {u : Nat → Nat} (V : HV 12 q I u) (U : WU u) {r : Nat} (hr : r < 8) (hd : ds u (u 91) r < 1000) {u1 : Nat → Nat} (hu1 : u1 = va_up (kb u) 90 (min 9999 (u 90 + ds u (u 91) r))) : hz_Ex mX10_walk TT NN (I, L, PP q) [.ref 1, .int (nI r)] (hz_PQ L (some (.int (nI (ds u (u 91) r)))) (fun q' J => HV 12 q' J (va_up u1 91 r) ∧ kpC I J ∧ kpQ q q')) := by
  have hpl := wu_pl U
  have hdl := ds_le U hpl hr
  refine hz_Ex.intro (ls := [some (.ref 1), some (.int (nI r)), none]) (by decide +kernel) rfl (Nat.le_of_ble_eq_true rfl) (fun X C Z => ?_)
  refine hz_iload_n (pc := 0) C dX10_walk_0 rfl ?_
  refine hz_callSs (pc := 1) C (as := [.int (nI r)]) (st := []) (ev_isRoom _ (nI r)) (hz_new0 _ _) fyX10_isRoom fsX10_55 rfl dX10_walk_1 rfl rfl (Nat.le_of_ble_eq_true rfl) (by decide) (hz_cap0 _) ?_
  refine hz_ifb_ne (pc := 4) C (tgt := 12) dX10_walk_4 rfl (fun _ => ?_) (fun cq => absurd (vr hr) cq)
  refine hz_aload_n (pc := 12) C dX10_walk_12 rfl ?_
  refine hz_getP (pc := 13) C (v := 12) ffX10_26 dX10_walk_13 hT1 hA1 rfl (hP1_4 q) (by decide) ?_
  refine hz_aload_n (pc := 16) C dX10_walk_16 rfl ?_
  refine hz_getP (pc := 17) C (v := 12) ffX10_26 dX10_walk_17 hT1 hA1 rfl (hP1_4 q) (by decide) ?_
  refine hz_getP (pc := 20) C (v := 19) ffX10_102 dX10_walk_20 hT12 hA12 rfl (hP12_7 q) (by decide) ?_
  refine hz_getI (pc := 23) C (v := nI (u 91)) ffX10_106 dX10_walk_23 hT19 hA19 rfl (hv_pl V) ?_
  refine hz_iload_n (pc := 26) C dX10_walk_26 rfl ?_
  refine hz_callVs (pc := 27) C (as := [.int (nI (u 91)), .int (nI r)]) (st := []) (ev_dist (L := L) V U (a := u 91) (b := r) (by omega) (by omega)) (hz_new0 _ _) fyX2_distanceBetween fvX10_117 rfl dX10_walk_27 hT12 rfl rfl hA12 rfl rfl (Nat.le_of_ble_eq_true rfl) (by decide) (hz_cap0 _) ?_
  refine hz_istore_n (pc := 30) C (ls' := [some (.ref 1), some (.int (nI r)), some (.int (nI (ds u (u 91) r)))]) dX10_walk_30 (Nat.le_of_ble_eq_true rfl) rfl ?_
  refine hz_iload_n (pc := 31) C dX10_walk_31 rfl ?_
  refine hz_sipush (pc := 32) C (v := nI 1000) dX10_walk_32 (by decide +kernel) ?_
  refine hz_ic_lt (pc := 35) C (tgt := 43) dX10_walk_35 rfl (fun _ => ?_) (fun cq => absurd (nI_lt (by omega) (by omega)) cq)
  refine hz_aload_n (pc := 43) C dX10_walk_43 rfl ?_
  refine hz_getP (pc := 44) C (v := 12) ffX10_26 dX10_walk_44 hT1 hA1 rfl (hP1_4 q) (by decide) ?_
  refine hz_callVqv (pc := 47) C (as := []) (st := []) (ex_rem (hv_ms V U) U) fyX2_remember fvX10_95 rfl dX10_walk_47 hT12 rfl rfl hA12 rfl rfl (Nat.le_of_ble_eq_true rfl) (by decide) (hz_cap0 _) (fun q1 J1 h1 => ?_)
  have W2 : WU u1 := hu1 ▸ wu_sec (wu_keep U) (Nat.min_le_left _ _)
  have V2 : HV 12 q1 (hz_up J1 19 1 (nI (min 9999 (u 90 + ds u (u 91) r)))) u1 := hu1 ▸ hv_sec h1.1 (wu_keep U) _
  refine hz_aload_n (pc := 50) C dX10_walk_50 rfl ?_
  refine hz_getP (pc := 51) C (v := 12) ffX10_26 dX10_walk_51 hT1 hA1 rfl (hP1_4 q1) (by decide) ?_
  refine hz_iload_n (pc := 54) C dX10_walk_54 rfl ?_
  refine hz_callVv (pc := 55) C (as := [.int (nI (ds u (u 91) r))]) (st := []) (by have h9 := ev_passN (L := L) h1.1 (wu_keep U) (n := ds u (u 91) r) (by omega); rw [kb_lo u (by omega)] at h9; exact h9) (hz_new0 _ _) fyX2_pass fvX10_98 rfl dX10_walk_55 hT12 rfl rfl hA12 rfl rfl (Nat.le_of_ble_eq_true rfl) (by decide) (hz_cap0 _) ?_
  refine hz_aload_n (pc := 58) C dX10_walk_58 rfl ?_
  refine hz_getP (pc := 59) C (v := 12) ffX10_26 dX10_walk_59 hT1 hA1 rfl (hP1_4 q1) (by decide) ?_
  refine hz_getP (pc := 62) C (v := 19) ffX10_102 dX10_walk_62 hT12 hA12 rfl (hP12_7 q1) (by decide) ?_
  refine hz_iload_n (pc := 65) C dX10_walk_65 rfl ?_
  refine hz_putI (pc := 66) C (M' := (hz_up (hz_up J1 19 1 (nI (min 9999 (u 90 + (ds u (u 91) r))))) 19 2 (nI r), L, PP q1)) ffX10_106 dX10_walk_66 hT19 hA19 rfl rfl ⟨rfl, rfl⟩ rfl ?_
  refine hz_iload_n (pc := 69) C dX10_walk_69 rfl ?_
  exact hz_iretx C Z rfl dX10_walk_70 ⟨q1, _, rfl, rfl, hv_plc V2 W2 r, ((kpC.mS u I).tr h1.2.1).tr ⟨fun b hb => by simp (disch := omega) only [hz_up_ne, sa_ne], fun i _ => by simp (disch := omega) only [hz_up_ne, sa_ne]⟩, h1.2.2⟩
theorem vt {t : Nat} (h : t ≤ 8) : ¬ nI t - 1 < (-1 : Int32) ∧ ¬ nI 7 < nI t - 1 := by
  have h9 : ∀ t, t < 9 → ¬ nI t - 1 < (-1 : Int32) ∧ ¬ nI 7 < nI t - 1 := by decide +kernel
  exact h9 t (by omega)
theorem vt_ex {v : Int32} (h : ¬ v < (-1 : Int32) ∧ ¬ nI 7 < v) : ∃ t, t ≤ 8 ∧ v = nI t - 1 := by
  by_cases e : v = -1
  · exact ⟨0, by omega, by rw [e]; decide +kernel⟩
  · have h1 : ¬ v < nI 0 := by
      rw [nI_0]
      intro z
      have z1 := Int32.lt_iff_toInt_lt.mp z
      have z2 : ¬ v.toInt < (-1 : Int32).toInt := fun y => h.1 (Int32.lt_iff_toInt_lt.mpr y)
      rw [show (-1 : Int32).toInt = -1 by decide +kernel] at z2
      rw [show (0 : Int32).toInt = 0 by decide +kernel] at z1
      exact e (Int32.toInt_inj.mp (by rw [show (-1 : Int32).toInt = -1 by decide +kernel]; omega))
    obtain ⟨x, hx, rfl⟩ := vin_ex (b := 7) (by decide) ⟨h1, h.2⟩
    exact ⟨x + 1, by omega, (en_m1 x).symm⟩
set_option maxHeartbeats 4000000 in
set_option maxRecDepth 100000 in
theorem ex_note {I : Nat → Nat → Int32} {L : Nat → Nat → Int64} {q : Nat → Nat → Nat} {u : Nat → Nat} (V : HV 12 q I u) (U : WU u) (h6 : u 77 < 6) {r t : Nat} (hr : r < 8) (ht : t ≤ 8) : hz_Ex mX10_note TT NN (I, L, PP q) [.ref 1, .int (nI r), .int (nI t - 1)] (hz_PQ L (some (.int (nI (u 77 + 1)))) (fun q' J => HV 12 q' J (va_up (va_up (va_up u (78 + 2 * u 77) r) (79 + 2 * u 77) t) 77 (u 77 + 1)) ∧ kpC I J ∧ kpQ q q')) := by
  refine hz_Ex.intro (ls := [some (.ref 1), some (.int (nI r)), some (.int (nI t - 1))]) (by decide +kernel) rfl (Nat.le_of_ble_eq_true rfl) (fun X C Z => ?_)
  refine hz_iload_n (pc := 0) C dX10_note_0 rfl ?_
  refine hz_callSs (pc := 1) C (as := [.int (nI r)]) (st := []) (ev_isRoom _ (nI r)) (hz_new0 _ _) fyX10_isRoom fsX10_55 rfl dX10_note_1 rfl rfl (Nat.le_of_ble_eq_true rfl) (by decide) (hz_cap0 _) ?_
  refine hz_ifb_eq (pc := 4) C (tgt := 17) dX10_note_4 rfl (fun cq => absurd (vr hr) cq) (fun _ => ?_)
  refine hz_iload_n (pc := 7) C dX10_note_7 rfl ?_
  refine hz_iconst (pc := 8) C (v := (-1 : Int32)) dX10_note_8 (by decide +kernel) ?_
  refine hz_bipush (pc := 9) C (v := nI 7) dX10_note_9 (by decide +kernel) ?_
  refine hz_callSs (pc := 11) C (as := [.int (nI t - 1), .int (-1 : Int32), .int (nI 7)]) (st := []) (ev_within _ (nI t - 1) (-1 : Int32) (nI 7)) (hz_new0 _ _) fyX10_within fsX10_59 rfl dX10_note_11 rfl rfl (Nat.le_of_ble_eq_true rfl) (by decide) (hz_cap0 _) ?_
  refine hz_ifb_ne (pc := 14) C (tgt := 22) dX10_note_14 rfl (fun _ => ?_) (fun cq => absurd (vt ht) cq)
  refine hz_aload_n (pc := 22) C dX10_note_22 rfl ?_
  refine hz_getP (pc := 23) C (v := 12) ffX10_26 dX10_note_23 hT1 hA1 rfl (hP1_4 q) (by decide) ?_
  refine hz_getI (pc := 26) C (v := nI (u 77)) ffX10_219 dX10_note_26 hT12 hA12 rfl (hv_nt V) ?_
  refine hz_bipush (pc := 29) C (v := nI 6) dX10_note_29 (by decide +kernel) ?_
  refine hz_ic_lt (pc := 31) C (tgt := 39) dX10_note_31 rfl (fun _ => ?_) (fun cq => absurd (nI_lt (by omega) (by omega)) cq)
  refine hz_aload_n (pc := 39) C dX10_note_39 rfl ?_
  refine hz_getP (pc := 40) C (v := 12) ffX10_26 dX10_note_40 hT1 hA1 rfl (hP1_4 q) (by decide) ?_
  refine hz_iload_n (pc := 43) C dX10_note_43 rfl ?_
  refine hz_iload_n (pc := 44) C dX10_note_44 rfl ?_
  refine hz_callVv (pc := 45) C (as := [.int (nI r), .int (nI t - 1)]) (st := []) (ev_addNote (hv_nt V) h6 _ _) (hz_new0 _ _) fyX2_addNote fvX10_222 rfl dX10_note_45 hT12 rfl rfl hA12 rfl rfl (Nat.le_of_ble_eq_true rfl) (by decide) (hz_cap0 _) ?_
  refine hz_aload_n (pc := 48) C dX10_note_48 rfl ?_
  refine hz_getP (pc := 49) C (v := 12) ffX10_26 dX10_note_49 hT1 hA1 rfl (hP1_4 q) (by decide) ?_
  refine hz_getI (pc := 52) C (v := nI (u 77 + 1)) ffX10_219 dX10_note_52 hT12 hA12 rfl rfl ?_
  exact hz_iretx C Z rfl dX10_note_55 ⟨q, _, rfl, rfl, hv_note V U h6 r t, ⟨fun b hb => by simp (disch := omega) only [hz_up_ne, sa_ne], fun i _ => by simp (disch := omega) only [hz_up_ne, sa_ne]⟩, kpQ.rf q⟩
set_option maxHeartbeats 4000000 in
set_option maxRecDepth 100000 in
theorem ex_forget {I : Nat → Nat → Int32} {L : Nat → Nat → Int64} {q : Nat → Nat → Nat} {u : Nat → Nat} (V : HV 12 q I u) (U : WU u) : hz_Ex mX10_forget TT NN (I, L, PP q) [.ref 1] (hz_PQ L (some (.int (nI (u 77)))) (fun q' J => HV 12 q' J (va_up u 77 0) ∧ kpC I J ∧ kpQ q q')) := by
  refine hz_Ex.intro (ls := [some (.ref 1), none]) (by decide +kernel) rfl (Nat.le_of_ble_eq_true rfl) (fun X C Z => ?_)
  refine hz_aload_n (pc := 0) C dX10_forget_0 rfl ?_
  refine hz_getP (pc := 1) C (v := 12) ffX10_26 dX10_forget_1 hT1 hA1 rfl (hP1_4 q) (by decide) ?_
  refine hz_getI (pc := 4) C (v := nI (u 77)) ffX10_219 dX10_forget_4 hT12 hA12 rfl (hv_nt V) ?_
  refine hz_istore_n (pc := 7) C (ls' := [some (.ref 1), some (.int (nI (u 77)))]) dX10_forget_7 (Nat.le_of_ble_eq_true rfl) rfl ?_
  refine hz_aload_n (pc := 8) C dX10_forget_8 rfl ?_
  refine hz_getP (pc := 9) C (v := 12) ffX10_26 dX10_forget_9 hT1 hA1 rfl (hP1_4 q) (by decide) ?_
  refine hz_iconst (pc := 12) C (v := nI 0) dX10_forget_12 (by decide +kernel) ?_
  refine hz_putI (pc := 13) C (M' := (hz_up I 12 11 (nI 0), L, PP q)) ffX10_219 dX10_forget_13 hT12 hA12 rfl rfl ⟨rfl, rfl⟩ rfl ?_
  refine hz_iload_n (pc := 16) C dX10_forget_16 rfl ?_
  exact hz_iretx C Z rfl dX10_forget_17 ⟨q, _, rfl, rfl, hv_forget V U, ⟨fun b hb => by simp (disch := omega) only [hz_up_ne, sa_ne], fun i _ => by simp (disch := omega) only [hz_up_ne, sa_ne]⟩, kpQ.rf q⟩

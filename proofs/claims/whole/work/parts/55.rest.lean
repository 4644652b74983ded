def RX (u : Nat → Nat) (X a : Nat) : Nat := RF (di u) (csum (bt X) 6) X a
theorem RX_0 (u : Nat → Nat) (a : Nat) : RX u 0 a = 0 := by
  unfold RX
  rw [show csum (bt 0) 6 = 0 by decide, RF_z]
theorem RX_s {u : Nat → Nat} (U : WU u) {X : Nat} (hX : X < 2 ^ mm u) (h0 : 0 < X) (a : Nat) : RX u X a = mnf (fun i => di u a i + RX u (X - 2 ^ i) i) (bt X) (mm u) := by
  have h64 := m64 U hX
  have hc := cs0 h64 h0
  have hh := mnf_hi (f := fun i => di u a i + RX u (X - 2 ^ i) i) (p := bt X) (m := mm u) (fun k hk => bt_no hX hk) (6 - mm u)
  rw [show mm u + (6 - mm u) = 6 by have := mm_le U; omega] at hh
  rw [← hh]
  obtain ⟨n, hn⟩ : ∃ n, csum (bt X) 6 = n + 1 := ⟨csum (bt X) 6 - 1, by omega⟩
  have e : RX u X a = RF (di u) (n + 1) X a := by unfold RX; rw [hn]
  rw [e, RF_s]
  refine mnf_cong fun i hi hb => ?_
  have h9 := (sub_s h64 hi hb).2.1
  unfold RX
  rw [show csum (bt (X - 2 ^ i)) 6 = n by omega]
theorem RX_bd {u : Nat → Nat} (U : WU u) (F : fin6 (di u) (2 ^ mm u - 1)) {X a : Nat} (hX : X < 2 ^ mm u) (ha : a = 6 ∨ a < mm u) : RX u X a ≤ 378 := by
  have hc := csum_le (bt X) 6
  have h9 : ∀ m, m < 7 → ∀ i, i < m → bt (2 ^ m - 1) i = true := by decide +kernel
  have hm := mm_le U
  have h := R_bd F (csum (bt X) 6) X a hc (m64 U hX) (sub_top U hX) rfl (by
    rcases ha with ha | ha
    · exact Or.inl ha
    · exact Or.inr ⟨by omega, h9 (mm u) (by omega) a ha⟩)
  show RF _ _ _ _ ≤ _
  omega
def TR (u : Nat → Nat) (J : Nat → Nat → Int32) (X : Nat) : Prop := ∀ Y i, Y < X → i < mm u → ¬ bt Y i = true → J 11 (Y * 6 + i) = nI (RX u Y i)
theorem clr {X i : Nat} (hX : X < 64) (hi : i < 6) (hb : bt X i = true) : nI X &&& ((nI 1 <<< (nI i &&& 31)) ^^^ (-1 : Int32)) = nI (X - 2 ^ i) := by
  have h : ∀ X, X < 64 → ∀ i, i < 6 → bt X i = true → nI X &&& ((nI 1 <<< (nI i &&& 31)) ^^^ (-1 : Int32)) = nI (X - 2 ^ i) := by decide +kernel
  exact h X hX i hi hb
theorem pos_b {X i : Nat} (hb : bt X i = true) : 2 ^ i ≤ X ∧ 0 < 2 ^ i := ⟨Nat.le_of_not_lt fun z => absurd (bt_lt z hb) (by omega), Nat.two_pow_pos i⟩
theorem TR.at {u : Nat → Nat} (U : WU u) {J : Nat → Nat → Int32} {X i : Nat} (h : TR u J X) (hX : X < 2 ^ mm u) (hi : i < mm u) (hb : bt X i = true) : J 11 ((X - 2 ^ i) * 6 + i) = nI (RX u (X - 2 ^ i) i) := by
  have hp := pos_b hb
  refine h _ i (by omega) hi (fun z => ?_)
  have hm := mm_le U
  have h9 := (sub_s (m64 U hX) (show i < 6 by omega) hb).2.2.2 i (by omega)
  exact (h9.mp z).2 rfl
theorem mn_n {a b : Nat} (ha : a < 2 ^ 31) (hb : b < 2 ^ 31) : (if nI b < nI a then nI b else nI a) = nI (min a b) := by
  by_cases h : b < a
  · rw [if_pos (nI_lt h ha), Nat.min_eq_right (by omega)]
  · rw [if_neg (nI_nlt (by omega) hb), Nat.min_eq_left (by omega)]
theorem m1_e (n : Nat) : nI n + (-1 : Int32) = nI n - 1 := by
  have h : ∀ x : Int32, x + (-1) = x - 1 := fun x => (Int32.sub_eq_add_neg x 1).symm
  exact h (nI n)
set_option maxHeartbeats 4000000 in
set_option maxRecDepth 100000 in
theorem ev_leastBy {J : Nat → Nat → Int32} {L : Nat → Nat → Int64} {q : Nat → Nat → Nat} {u : Nat → Nat} (U : WU u) (h7 : J 4 7 = nI (mm u)) (h10 : ∀ a i, (a = 6 ∨ a < mm u) → i < mm u → J 10 (a * 6 + i) = nI (di u a i)) {x : Nat} (hx : x < 2 ^ mm u) (hR : TR u J x) {a : Nat} (ha : a = 6 ∨ a < mm u) {i : Nat} (hi : i < mm u) (hb : bt x i = true) : hz_Ev mX7_leastBy TT NN (J, L, PP q) [.ref 4, .int (nI x), .int (nI a), .int (nI i)] 0 0 (some (.int (nI (di u a i + RX u (x - 2 ^ i) i)))) TT NN (J, L, PP q) := by
  have hm := mm_le U
  have h64 := m64 U hx
  have ha6 : a ≤ 6 := by omega
  have hpb := pos_b hb
  refine hz_Ev.intro (ls := [some (.ref 4), some (.int (nI x)), some (.int (nI a)), some (.int (nI i))]) (by decide +kernel) rfl (Nat.le_of_ble_eq_true rfl) (fun X C Z _ => ?_)
  refine hz_aload_n (pc := 0) C dX7_leastBy_0 rfl ?_
  refine hz_getP (pc := 1) C (v := 10) ffX7_27 dX7_leastBy_1 hT4 hA4 rfl (hP4_5 q) (by decide) ?_
  refine hz_iload_n (pc := 4) C dX7_leastBy_4 rfl ?_
  refine hz_bipush (pc := 5) C (v := nI 6) dX7_leastBy_5 (by decide +kernel) ?_
  refine hz_imul (pc := 7) C (v := nI (a * 6)) dX7_leastBy_7 (pk_mul _ _) ?_
  refine hz_iload_n (pc := 8) C dX7_leastBy_8 rfl ?_
  refine hz_iadd (pc := 9) C (v := nI ((a * 6) + i)) dX7_leastBy_9 (nI_add _ _) ?_
  refine hz_iald (pc := 10) C (v := nI (di u a i)) (j := (a * 6) + i) dX7_leastBy_10 hT10 hA10 rfl (by omega) (by decide) (h10 a i ha hi) ?_
  refine hz_aload_n (pc := 11) C dX7_leastBy_11 rfl ?_
  refine hz_getP (pc := 12) C (v := 11) ffX7_30 dX7_leastBy_12 hT4 hA4 rfl (hP4_6 q) (by decide) ?_
  refine hz_iload_n (pc := 15) C dX7_leastBy_15 rfl ?_
  refine hz_iconst (pc := 16) C (v := nI 1) dX7_leastBy_16 (by decide +kernel) ?_
  refine hz_iload_n (pc := 17) C dX7_leastBy_17 rfl ?_
  refine hz_ishl (pc := 18) C dX7_leastBy_18 rfl ?_
  refine hz_iconst (pc := 19) C (v := (-1 : Int32)) dX7_leastBy_19 (by decide +kernel) ?_
  refine hz_ixor (pc := 20) C dX7_leastBy_20 rfl ?_
  refine hz_iand (pc := 21) C (v := nI (x - 2 ^ i)) dX7_leastBy_21 (clr (by omega) (by omega) hb) ?_
  refine hz_bipush (pc := 22) C (v := nI 6) dX7_leastBy_22 (by decide +kernel) ?_
  refine hz_imul (pc := 24) C (v := nI ((x - 2 ^ i) * 6)) dX7_leastBy_24 (pk_mul _ _) ?_
  refine hz_iload_n (pc := 25) C dX7_leastBy_25 rfl ?_
  refine hz_iadd (pc := 26) C (v := nI (((x - 2 ^ i) * 6) + i)) dX7_leastBy_26 (nI_add _ _) ?_
  refine hz_iald (pc := 27) C (v := nI (RX u (x - 2 ^ i) i)) (j := ((x - 2 ^ i) * 6) + i) dX7_leastBy_27 hT11 hA11 rfl (by omega) (by decide) (hR.at U hx hi hb) ?_
  refine hz_iadd (pc := 28) C (v := nI ((di u a i) + (RX u (x - 2 ^ i) i))) dX7_leastBy_28 (nI_add _ _) ?_
  exact hz_iret C Z rfl dX7_leastBy_29 rfl rfl
theorem di_le {u : Nat → Nat} (U : WU u) {a i : Nat} (ha : a = 6 ∨ a < mm u) (hi : i < mm u) : di u a i ≤ 1000 := by
  have h1 := wu_rm U (tgx_lt hi)
  rcases ha with ha | ha
  · subst ha; rw [di_6]; exact ds_le U (wu_pl U) h1
  · rw [di_i U ha]; exact ds_le U (wu_rm U (tgx_lt ha)) h1
set_option maxHeartbeats 4000000 in
set_option maxRecDepth 100000 in
theorem lp_lf {X : hz_X} (C : hz_C X mX7_leastFrom) {J : Nat → Nat → Int32} {L : Nat → Nat → Int64} {q : Nat → Nat → Nat} {u : Nat → Nat} (U : WU u) (h7 : J 4 7 = nI (mm u)) (h10 : ∀ a i, (a = 6 ∨ a < mm u) → i < mm u → J 10 (a * 6 + i) = nI (di u a i)) {x : Nat} (hx : x < 2 ^ mm u) (hR : TR u J x) {a : Nat} (ha : a = 6 ∨ a < mm u) (F : fin6 (di u) (2 ^ mm u - 1)) (h0 : 0 < x) (kk : hz_G X TT NN (J, L, PP q) 0 0 52 [some (.ref 4), some (.int (nI x)), some (.int (nI a)), some (.int (nI (mnf (fun i => di u a i + RX u (x - 2 ^ i) i) (bt x) (mm u)))), some (.int (nI (mm u)))] []) : ∀ (n i : Nat) , i + n = mm u → hz_G X TT NN (J, L, PP q) 0 0 15 [some (.ref 4), some (.int (nI x)), some (.int (nI a)), some (.int (nI (mnf (fun i => di u a i + RX u (x - 2 ^ i) i) (bt x) i))), some (.int (nI i))] [] := by
  intro n
  induction n with
  | zero =>
    intro i  hi 
    obtain rfl : mm u = i := by omega
    have hm := mm_le U
    have h64 := m64 U hx
    have ha6 : a ≤ 6 := by omega
    refine hz_iload (pc := 15) C dX7_leastFrom_15 rfl ?_
    refine hz_aload_n (pc := 17) C dX7_leastFrom_17 rfl ?_
    refine hz_getI (pc := 18) C (v := nI (mm u)) ffX7_68 dX7_leastFrom_18 hT4 hA4 rfl h7 ?_
    refine hz_ic_ge (pc := 21) C (tgt := 52) dX7_leastFrom_21 rfl (fun _ => ?_) (fun cq => absurd (nI_le (by omega) (by omega)) cq)
    exact kk
  | succ n ih =>
    intro i  hi 
    have hm := mm_le U
    have h64 := m64 U hx
    have ha6 : a ≤ 6 := by omega
    refine hz_iload (pc := 15) C dX7_leastFrom_15 rfl ?_
    refine hz_aload_n (pc := 17) C dX7_leastFrom_17 rfl ?_
    refine hz_getI (pc := 18) C (v := nI (mm u)) ffX7_68 dX7_leastFrom_18 hT4 hA4 rfl h7 ?_
    refine hz_ic_ge (pc := 21) C (tgt := 52) dX7_leastFrom_21 rfl (fun cq => absurd cq (nI_ge (by omega) (by omega))) (fun _ => ?_)
    refine hz_iload_n (pc := 24) C dX7_leastFrom_24 rfl ?_
    refine hz_iload (pc := 25) C dX7_leastFrom_25 rfl ?_
    refine hz_callSNs (pc := 27) C (as := [.int (nI x), .int (nI i)]) (st := []) (ev_hasN _ (m64 U hx) (by omega)) (hz_new0 _ _) fyX10_has fsX7_56 rfl dX7_leastFrom_27 rfl rfl (Nat.le_of_ble_eq_true rfl) (by decide) (hz_cap0 _) ?_
    refine hz_ifb_eq (pc := 30) C (tgt := 46) dX7_leastFrom_30 rfl (fun zzc1 => ?_) (fun zzc1 => ?_)
    · refine hz_iinc (pc := 46) C (v := nI (i + 1)) (ls' := [some (.ref 4), some (.int (nI x)), some (.int (nI a)), some (.int (nI (mnf (fun i => di u a i + RX u (x - 2 ^ i) i) (bt x) i))), some (.int (nI (i + 1)))]) dX7_leastFrom_46 rfl (nI_add _ 1) rfl ?_
      refine hz_goto (pc := 49) C (tgt := 15) dX7_leastFrom_49 rfl ?_
      have h9 := ih (i + 1) (by omega)
      rw [show mnf (fun i => di u a i + RX u (x - 2 ^ i) i) (bt x) (i + 1) = mnf (fun i => di u a i + RX u (x - 2 ^ i) i) (bt x) i from if_neg zzc1] at h9
      exact h9
    · refine hz_iload_n (pc := 33) C dX7_leastFrom_33 rfl ?_
      refine hz_aload_n (pc := 34) C dX7_leastFrom_34 rfl ?_
      refine hz_iload_n (pc := 35) C dX7_leastFrom_35 rfl ?_
      refine hz_iload_n (pc := 36) C dX7_leastFrom_36 rfl ?_
      refine hz_iload (pc := 37) C dX7_leastFrom_37 rfl ?_
      refine hz_callVs (pc := 39) C (as := [.int (nI x), .int (nI a), .int (nI i)]) (st := [.int (nI (mnf (fun i => di u a i + RX u (x - 2 ^ i) i) (bt x) i))]) (ev_leastBy U h7 h10 hx hR ha (i := i) (by omega) zzc1) (hz_new0 _ _) fyX7_leastBy fvX7_111 rfl dX7_leastFrom_39 hT4 rfl rfl hA4 rfl rfl (Nat.le_of_ble_eq_true rfl) (by decide) (hz_cap0 _) ?_
      refine hz_mmin (pc := 42) C fsX7_115 rfl dX7_leastFrom_42 (Nat.le_of_ble_eq_true rfl) (by decide) (And.intro (Nat.zero_le _) (Nat.zero_le _)) ?_
      refine hz_istore_n (pc := 45) C (ls' := [some (.ref 4), some (.int (nI x)), some (.int (nI a)), some (.int (if nI (di u a i + RX u (x - 2 ^ i) i) < nI (mnf (fun i => di u a i + RX u (x - 2 ^ i) i) (bt x) i) then nI (di u a i + RX u (x - 2 ^ i) i) else nI (mnf (fun i => di u a i + RX u (x - 2 ^ i) i) (bt x) i))), some (.int (nI i))]) dX7_leastFrom_45 (Nat.le_of_ble_eq_true rfl) rfl ?_
      refine hz_iinc (pc := 46) C (v := nI (i + 1)) (ls' := [some (.ref 4), some (.int (nI x)), some (.int (nI a)), some (.int (if nI (di u a i + RX u (x - 2 ^ i) i) < nI (mnf (fun i => di u a i + RX u (x - 2 ^ i) i) (bt x) i) then nI (di u a i + RX u (x - 2 ^ i) i) else nI (mnf (fun i => di u a i + RX u (x - 2 ^ i) i) (bt x) i))), some (.int (nI (i + 1)))]) dX7_leastFrom_46 rfl (nI_add _ 1) rfl ?_
      refine hz_goto (pc := 49) C (tgt := 15) dX7_leastFrom_49 rfl ?_
      have h9 := ih (i + 1) (by omega)
      have hb1 := RX_bd U F (X := x - 2 ^ i) (a := i) (Nat.lt_of_le_of_lt (Nat.sub_le _ _) hx) (Or.inr (by omega))
      have hb2 := mnf_top (fun i => di u a i + RX u (x - 2 ^ i) i) (bt x) i
      have hb3 : di u a i ≤ 1000 := di_le U ha (by omega)
      rw [mn_n (by omega) (by omega)]
      rw [show mnf (fun i => di u a i + RX u (x - 2 ^ i) i) (bt x) (i + 1) = min (mnf (fun i => di u a i + RX u (x - 2 ^ i) i) (bt x) i) (di u a i + RX u (x - 2 ^ i) i) from if_pos zzc1] at h9
      exact h9
set_option maxHeartbeats 4000000 in
set_option maxRecDepth 100000 in
theorem ev_leastFrom {J : Nat → Nat → Int32} {L : Nat → Nat → Int64} {q : Nat → Nat → Nat} {u : Nat → Nat} (U : WU u) (h7 : J 4 7 = nI (mm u)) (h10 : ∀ a i, (a = 6 ∨ a < mm u) → i < mm u → J 10 (a * 6 + i) = nI (di u a i)) {x : Nat} (hx : x < 2 ^ mm u) (hR : TR u J x) {a : Nat} (ha : a = 6 ∨ a < mm u) (F : fin6 (di u) (2 ^ mm u - 1)) (h0 : 0 < x) : hz_Ev mX7_leastFrom TT NN (J, L, PP q) [.ref 4, .int (nI x), .int (nI a)] 0 0 (some (.int (nI (RX u x a)))) TT NN (J, L, PP q) := by
  have hm := mm_le U
  have h64 := m64 U hx
  have ha6 : a ≤ 6 := by omega
  refine hz_Ev.intro (ls := [some (.ref 4), some (.int (nI x)), some (.int (nI a)), none, none]) (by decide +kernel) rfl (Nat.le_of_ble_eq_true rfl) (fun X C Z _ => ?_)
  refine hz_iload_n (pc := 0) C dX7_leastFrom_0 rfl ?_
  refine hz_if_ne (pc := 1) C (tgt := 8) dX7_leastFrom_1 rfl (fun _ => ?_) (fun cq => absurd cq (nI_ne0 (by omega) (by omega)))
  refine hz_sipush (pc := 8) C (v := nI 1000) dX7_leastFrom_8 (by decide +kernel) ?_
  refine hz_istore_n (pc := 11) C (ls' := [some (.ref 4), some (.int (nI x)), some (.int (nI a)), some (.int (nI 1000)), none]) dX7_leastFrom_11 (Nat.le_of_ble_eq_true rfl) rfl ?_
  refine hz_iconst (pc := 12) C (v := nI 0) dX7_leastFrom_12 (by decide +kernel) ?_
  refine hz_istore (pc := 13) C (ls' := [some (.ref 4), some (.int (nI x)), some (.int (nI a)), some (.int (nI 1000)), some (.int (nI 0))]) dX7_leastFrom_13 (Nat.le_of_ble_eq_true rfl) rfl ?_
  refine lp_lf C U h7 h10 hx hR ha F h0 ?_ (mm u) 0 (by omega)
  refine hz_iload_n (pc := 52) C dX7_leastFrom_52 rfl ?_
  exact hz_iret C Z rfl dX7_leastFrom_53 (congrArg nI (RX_s U hx h0 a).symm) rfl
set_option maxHeartbeats 4000000 in
set_option maxRecDepth 100000 in
theorem ev_leastFrom0 {J : Nat → Nat → Int32} {L : Nat → Nat → Int64} {q : Nat → Nat → Nat} {u : Nat → Nat} (U : WU u) (h7 : J 4 7 = nI (mm u)) (h10 : ∀ a i, (a = 6 ∨ a < mm u) → i < mm u → J 10 (a * 6 + i) = nI (di u a i)) (hm0 : mm u = 0) : hz_Ev mX7_leastFrom TT NN (J, L, PP q) [.ref 4, .int (nI 0), .int (nI 6)] 0 0 (some (.int (nI 0))) TT NN (J, L, PP q) := by
  refine hz_Ev.intro (ls := [some (.ref 4), some (.int (nI 0)), some (.int (nI 6)), none, none]) (by decide +kernel) rfl (Nat.le_of_ble_eq_true rfl) (fun X C Z _ => ?_)
  refine hz_iload_n (pc := 0) C dX7_leastFrom_0 rfl ?_
  refine hz_if_ne (pc := 1) C (tgt := 8) dX7_leastFrom_1 rfl (fun cq => absurd (by decide +kernel) cq) (fun _ => ?_)
  refine hz_iconst (pc := 4) C (v := nI 0) dX7_leastFrom_4 (by decide +kernel) ?_
  refine hz_goto (pc := 5) C (tgt := 11) dX7_leastFrom_5 rfl ?_
  refine hz_istore_n (pc := 11) C (ls' := [some (.ref 4), some (.int (nI 0)), some (.int (nI 6)), some (.int (nI 0)), none]) dX7_leastFrom_11 (Nat.le_of_ble_eq_true rfl) rfl ?_
  refine hz_iconst (pc := 12) C (v := nI 0) dX7_leastFrom_12 (by decide +kernel) ?_
  refine hz_istore (pc := 13) C (ls' := [some (.ref 4), some (.int (nI 0)), some (.int (nI 6)), some (.int (nI 0)), some (.int (nI 0))]) dX7_leastFrom_13 (Nat.le_of_ble_eq_true rfl) rfl ?_
  refine hz_iload (pc := 15) C dX7_leastFrom_15 rfl ?_
  refine hz_aload_n (pc := 17) C dX7_leastFrom_17 rfl ?_
  refine hz_getI (pc := 18) C (v := nI (mm u)) ffX7_68 dX7_leastFrom_18 hT4 hA4 rfl h7 ?_
  refine hz_ic_ge (pc := 21) C (tgt := 52) dX7_leastFrom_21 rfl (fun _ => ?_) (fun cq => absurd (nI_le (by omega) (by omega)) cq)
  refine hz_iload_n (pc := 52) C dX7_leastFrom_52 rfl ?_
  exact hz_iret C Z rfl dX7_leastFrom_53 rfl rfl
def fR (u : Nat → Nat) (I J : Nat → Nat → Int32) (x : Nat) : Prop := (∀ b, b ≠ 11 → J b = I b) ∧ TR u J x ∧ ∀ i, i < 6 → J 11 i = I 11 i
def fRi (u : Nat → Nat) (I J : Nat → Nat → Int32) (x a : Nat) : Prop := fR u I J x ∧ ∀ i, i < a → ¬ bt x i = true → J 11 (x * 6 + i) = nI (RX u x i)
theorem fRi.up {u : Nat → Nat} (U : WU u) {I J : Nat → Nat → Int32} {x a : Nat} (h : fRi u I J x a) (ha : a < mm u) (h0 : 0 < x) : fRi u I (hz_up J 11 ((x * 6) + a) (nI (RX u x a))) x (a + 1) := by
  have hm := mm_le U
  refine ⟨⟨fun b hb => by rw [hz_up_ne _ _ _ _ hb]; exact h.1.1 b hb, fun Y i hY hi hb => by rw [hz_up_nk _ _ _ _ (by omega)]; exact h.1.2.1 Y i hY hi hb, fun i hi => by rw [hz_up_nk _ _ _ _ (by omega)]; exact h.1.2.2 i hi⟩, fun i hi hb => ?_⟩
  by_cases hz : i = a
  · subst hz; exact hz_up_self _ _ _ _
  · rw [hz_up_nk _ _ _ _ (by omega)]; exact h.2 i (by omega) hb
theorem fRi.no {u : Nat → Nat} {I J : Nat → Nat → Int32} {x a : Nat} (h : fRi u I J x a) (hb : bt x a = true) : fRi u I J x (a + 1) := by
  refine ⟨h.1, fun i hi hb2 => ?_⟩
  by_cases hz : i = a
  · subst hz; exact absurd hb hb2
  · exact h.2 i (by omega) hb2
theorem fRi.fin {u : Nat → Nat} {I J : Nat → Nat → Int32} {x : Nat} (h : fRi u I J x (mm u)) : fR u I J (x + 1) := by
  refine ⟨h.1.1, fun Y i hY hi hb => ?_, h.1.2.2⟩
  by_cases hz : Y = x
  · subst hz; exact h.2 i hi hb
  · exact h.1.2.1 Y i (by omega) hi hb
set_option maxHeartbeats 4000000 in
set_option maxRecDepth 100000 in
theorem lp_fi {X : hz_X} (C : hz_C X mX7_fillRest) {I : Nat → Nat → Int32} {L : Nat → Nat → Int64} {q : Nat → Nat → Nat} {u : Nat → Nat} (U : WU u) (h7 : I 4 7 = nI (mm u)) (h10 : ∀ a i, (a = 6 ∨ a < mm u) → i < mm u → I 10 (a * 6 + i) = nI (di u a i)) (F : fin6 (di u) (2 ^ mm u - 1)) {x : Nat} (hx : x < 2 ^ mm u) (h0 : 0 < x) (kk : ∀ J, fR u I J (x + 1) → hz_G X TT NN (J, L, PP q) 0 0 53 [some (.ref 4), some (.int (nI x)), some (.int (nI (mm u)))] []) : ∀ (n a : Nat) (J : Nat → Nat → Int32), a + n = mm u → fRi u I J x a → hz_G X TT NN (J, L, PP q) 0 0 14 [some (.ref 4), some (.int (nI x)), some (.int (nI a))] [] := by
  intro n
  induction n with
  | zero =>
    intro a J hi hJ
    obtain rfl : mm u = a := by omega
    have hm := mm_le U
    refine hz_iload_n (pc := 14) C dX7_fillRest_14 rfl ?_
    refine hz_aload_n (pc := 15) C dX7_fillRest_15 rfl ?_
    refine hz_getI (pc := 16) C (v := nI (mm u)) ffX7_68 dX7_fillRest_16 hT4 hA4 rfl ((congrFun (hJ.1.1 4 (by omega)) 7).trans h7) ?_
    refine hz_ic_ge (pc := 19) C (tgt := 53) dX7_fillRest_19 rfl (fun _ => ?_) (fun cq => absurd (nI_le (by omega) (by omega)) cq)
    exact kk J hJ.fin
  | succ n ih =>
    intro a J hi hJ
    have hm := mm_le U
    have h64 := m64 U hx
    refine hz_iload_n (pc := 14) C dX7_fillRest_14 rfl ?_
    refine hz_aload_n (pc := 15) C dX7_fillRest_15 rfl ?_
    refine hz_getI (pc := 16) C (v := nI (mm u)) ffX7_68 dX7_fillRest_16 hT4 hA4 rfl ((congrFun (hJ.1.1 4 (by omega)) 7).trans h7) ?_
    refine hz_ic_ge (pc := 19) C (tgt := 53) dX7_fillRest_19 rfl (fun cq => absurd cq (nI_ge (by omega) (by omega))) (fun _ => ?_)
    refine hz_iload_n (pc := 22) C dX7_fillRest_22 rfl ?_
    refine hz_iload_n (pc := 23) C dX7_fillRest_23 rfl ?_
    refine hz_callSNs (pc := 24) C (as := [.int (nI x), .int (nI a)]) (st := []) (ev_hasN _ (m64 U hx) (by omega)) (hz_new0 _ _) fyX10_has fsX7_56 rfl dX7_fillRest_24 rfl rfl (Nat.le_of_ble_eq_true rfl) (by decide) (hz_cap0 _) ?_
    refine hz_ifb_ne (pc := 27) C (tgt := 47) dX7_fillRest_27 rfl (fun zzc1 => ?_) (fun zzc1 => ?_)
    · refine hz_iinc (pc := 47) C (v := nI (a + 1)) (ls' := [some (.ref 4), some (.int (nI x)), some (.int (nI (a + 1)))]) dX7_fillRest_47 rfl (nI_add _ 1) rfl ?_
      refine hz_goto (pc := 50) C (tgt := 14) dX7_fillRest_50 rfl ?_
      exact ih (a + 1) J (by omega) (hJ.no zzc1)
    · refine hz_aload_n (pc := 30) C dX7_fillRest_30 rfl ?_
      refine hz_getP (pc := 31) C (v := 11) ffX7_30 dX7_fillRest_31 hT4 hA4 rfl (hP4_6 q) (by decide) ?_
      refine hz_iload_n (pc := 34) C dX7_fillRest_34 rfl ?_
      refine hz_bipush (pc := 35) C (v := nI 6) dX7_fillRest_35 (by decide +kernel) ?_
      refine hz_imul (pc := 37) C (v := nI (x * 6)) dX7_fillRest_37 (pk_mul _ _) ?_
      refine hz_iload_n (pc := 38) C dX7_fillRest_38 rfl ?_
      refine hz_iadd (pc := 39) C (v := nI ((x * 6) + a)) dX7_fillRest_39 (nI_add _ _) ?_
      refine hz_aload_n (pc := 40) C dX7_fillRest_40 rfl ?_
      refine hz_iload_n (pc := 41) C dX7_fillRest_41 rfl ?_
      refine hz_iload_n (pc := 42) C dX7_fillRest_42 rfl ?_
      refine hz_callVs (pc := 43) C (as := [.int (nI x), .int (nI a)]) (st := [.int (nI ((x * 6) + a)), .ref 11]) (ev_leastFrom U ((congrFun (hJ.1.1 4 (by omega)) 7).trans h7) (fun a i ha hi => (congrFun (hJ.1.1 10 (by omega)) _).trans (h10 a i ha hi)) hx hJ.1.2.1 (Or.inr (by omega)) F h0) (hz_new0 _ _) fyX7_leastFrom fvX7_108 rfl dX7_fillRest_43 hT4 rfl rfl hA4 rfl rfl (Nat.le_of_ble_eq_true rfl) (by decide) (hz_cap0 _) ?_
      refine hz_iast (pc := 46) C (v := nI (RX u x a)) (j := (x * 6) + a) (M' := (hz_up J 11 ((x * 6) + a) (nI (RX u x a)), L, PP q)) dX7_fillRest_46 hT11 hA11 rfl (by omega) (by decide) rfl rfl ?_
      refine hz_iinc (pc := 47) C (v := nI (a + 1)) (ls' := [some (.ref 4), some (.int (nI x)), some (.int (nI (a + 1)))]) dX7_fillRest_47 rfl (nI_add _ 1) rfl ?_
      refine hz_goto (pc := 50) C (tgt := 14) dX7_fillRest_50 rfl ?_
      exact ih (a + 1) _ (by omega) (hJ.up U (by omega) h0)
set_option maxHeartbeats 4000000 in
set_option maxRecDepth 100000 in
theorem lp_fo {X : hz_X} (C : hz_C X mX7_fillRest) {I : Nat → Nat → Int32} {L : Nat → Nat → Int64} {q : Nat → Nat → Nat} {u : Nat → Nat} (U : WU u) (h7 : I 4 7 = nI (mm u)) (h10 : ∀ a i, (a = 6 ∨ a < mm u) → i < mm u → I 10 (a * 6 + i) = nI (di u a i)) (F : fin6 (di u) (2 ^ mm u - 1)) (kk : ∀ J (zzw2 : Option Value), fR u I J (2 ^ mm u) → hz_G X TT NN (J, L, PP q) 0 0 59 [some (.ref 4), some (.int (nI (2 ^ mm u))), zzw2] []) : ∀ (n x : Nat) (J : Nat → Nat → Int32) (zzw2 : Option Value), x + n = 2 ^ mm u → 0 < x → fR u I J x → hz_G X TT NN (J, L, PP q) 0 0 2 [some (.ref 4), some (.int (nI x)), zzw2] [] := by
  intro n
  induction n with
  | zero =>
    intro x J zzw2 hi h1x hJ
    obtain rfl : 2 ^ mm u = x := by omega
    have h2p : 2 ^ mm u ≤ 64 := Nat.pow_le_pow_right (n := 2) (i := mm u) (j := 6) (by decide) (mm_le U)
    refine hz_iload_n (pc := 2) C dX7_fillRest_2 rfl ?_
    refine hz_iconst (pc := 3) C (v := nI 1) dX7_fillRest_3 (by decide +kernel) ?_
    refine hz_aload_n (pc := 4) C dX7_fillRest_4 rfl ?_
    refine hz_getI (pc := 5) C (v := nI (mm u)) ffX7_68 dX7_fillRest_5 hT4 hA4 rfl ((congrFun (hJ.1 4 (by omega)) 7).trans h7) ?_
    refine hz_ishl (pc := 8) C (v := nI (2 ^ mm u)) dX7_fillRest_8 (bsh7 (mm_le U)) ?_
    refine hz_ic_ge (pc := 9) C (tgt := 59) dX7_fillRest_9 rfl (fun _ => ?_) (fun cq => absurd (nI_le (by omega) (by omega)) cq)
    exact kk J zzw2 hJ
  | succ n ih =>
    intro x J zzw2 hi h1x hJ
    have hm := mm_le U
    have h2p : 2 ^ mm u ≤ 64 := Nat.pow_le_pow_right (n := 2) (i := mm u) (j := 6) (by decide) (mm_le U)
    refine hz_iload_n (pc := 2) C dX7_fillRest_2 rfl ?_
    refine hz_iconst (pc := 3) C (v := nI 1) dX7_fillRest_3 (by decide +kernel) ?_
    refine hz_aload_n (pc := 4) C dX7_fillRest_4 rfl ?_
    refine hz_getI (pc := 5) C (v := nI (mm u)) ffX7_68 dX7_fillRest_5 hT4 hA4 rfl ((congrFun (hJ.1 4 (by omega)) 7).trans h7) ?_
    refine hz_ishl (pc := 8) C (v := nI (2 ^ mm u)) dX7_fillRest_8 (bsh7 (mm_le U)) ?_
    refine hz_ic_ge (pc := 9) C (tgt := 59) dX7_fillRest_9 rfl (fun cq => absurd cq (nI_ge (by omega) (by omega))) (fun _ => ?_)
    refine hz_iconst (pc := 12) C (v := nI 0) dX7_fillRest_12 (by decide +kernel) ?_
    refine hz_istore_n (pc := 13) C (ls' := [some (.ref 4), some (.int (nI x)), some (.int (nI 0))]) dX7_fillRest_13 (Nat.le_of_ble_eq_true rfl) rfl ?_
    refine lp_fi C U h7 h10 F (by omega) h1x (fun J hJ => ?_) (mm u) 0 J (by omega) ⟨hJ, fun i hi => absurd hi (Nat.not_lt_zero _)⟩
    refine hz_iinc (pc := 53) C (v := nI (x + 1)) (ls' := [some (.ref 4), some (.int (nI (x + 1))), some (.int (nI (mm u)))]) dX7_fillRest_53 rfl (nI_add _ 1) rfl ?_
    refine hz_goto (pc := 56) C (tgt := 2) dX7_fillRest_56 rfl ?_
    exact ih (x + 1) J (some (.int (nI (mm u)))) (by omega) (by omega) hJ
set_option maxHeartbeats 4000000 in
set_option maxRecDepth 100000 in
theorem ex_fillRest {I : Nat → Nat → Int32} {L : Nat → Nat → Int64} {q : Nat → Nat → Nat} {u : Nat → Nat} (U : WU u) (h7 : I 4 7 = nI (mm u)) (h10 : ∀ a i, (a = 6 ∨ a < mm u) → i < mm u → I 10 (a * 6 + i) = nI (di u a i)) (F : fin6 (di u) (2 ^ mm u - 1)) (h11 : ∀ i, i < 6 → I 11 i = 0) : hz_Ex mX7_fillRest TT NN (I, L, PP q) [.ref 4] (hz_PI L (PP q) none (fun J => fR u I J (2 ^ mm u))) := by
  refine hz_Ex.intro (ls := [some (.ref 4), none, none]) (by decide +kernel) rfl (Nat.le_of_ble_eq_true rfl) (fun X C Z => ?_)
  refine hz_iconst (pc := 0) C (v := nI 1) dX7_fillRest_0 (by decide +kernel) ?_
  refine hz_istore_n (pc := 1) C (ls' := [some (.ref 4), some (.int (nI 1)), none]) dX7_fillRest_1 (Nat.le_of_ble_eq_true rfl) rfl ?_
  have hp0 := Nat.two_pow_pos (mm u)
  refine lp_fo C U h7 h10 F (fun J zzw2 hJ => ?_) (2 ^ mm u - 1) 1 I _ (by omega) (by omega) ⟨fun _ _ => rfl, fun Y i hY hi hb => ?_, fun _ _ => rfl⟩
  · exact hz_vretx C Z rfl dX7_fillRest_59 ⟨J, rfl, rfl, hJ⟩
  · obtain rfl : Y = 0 := by omega
    rw [RX_0, Nat.zero_mul, Nat.zero_add, h11 i (by have := mm_le U; omega)]; exact nI_0.symm
set_option maxHeartbeats 4000000 in
set_option maxRecDepth 100000 in
theorem lp_fl {X : hz_X} (C : hz_C X mX7_firstOfLeast) {J : Nat → Nat → Int32} {L : Nat → Nat → Int64} {q : Nat → Nat → Nat} {u : Nat → Nat} (U : WU u) (h7 : J 4 7 = nI (mm u)) (h10 : ∀ a i, (a = 6 ∨ a < mm u) → i < mm u → J 10 (a * 6 + i) = nI (di u a i)) {x : Nat} (hx : x < 2 ^ mm u) (hR : TR u J x) {a : Nat} (ha : a = 6 ∨ a < mm u) (F : fin6 (di u) (2 ^ mm u - 1)) (h0 : 0 < x) (kk : ∀ (c : Int32), c = nI (fi (fun i => bt x i && decide (di u a i + RX u (x - 2 ^ i) i = RX u x a)) (mm u) 0) → hz_G X TT NN (J, L, PP q) 0 0 54 [some (.ref 4), some (.int (nI x)), some (.int (nI a)), some (.int (nI (RX u x a))), some (.int c), some (.int (nI 0 - 1))] []) : ∀ (t : Nat) (c : Int32), t ≤ mm u → c = nI (fi (fun i => bt x i && decide (di u a i + RX u (x - 2 ^ i) i = RX u x a)) (mm u - t) t) → hz_G X TT NN (J, L, PP q) 0 0 18 [some (.ref 4), some (.int (nI x)), some (.int (nI a)), some (.int (nI (RX u x a))), some (.int c), some (.int (nI t - 1))] [] := by
  intro t
  induction t with
  | zero =>
    intro c htm hc
    refine hz_iload (pc := 18) C dX7_firstOfLeast_18 rfl ?_
    refine hz_if_lt (pc := 20) C (tgt := 54) dX7_firstOfLeast_20 rfl (fun _ => ?_) (fun cq => absurd (by decide +kernel) cq)
    exact kk c (by rw [hc, Nat.sub_zero])
  | succ t ih =>
    intro c htm hc
    have hm := mm_le U
    have h64 := m64 U hx
    have ha6 : a ≤ 6 := by omega
    have hb1 := RX_bd U F (X := x - 2 ^ t) (a := t) (Nat.lt_of_le_of_lt (Nat.sub_le _ _) hx) (Or.inr (by omega))
    have hb3 : di u a t ≤ 1000 := di_le U ha (by omega)
    have hb4 := RX_bd U F hx ha
    rw [en_m1]
    refine hz_iload (pc := 18) C dX7_firstOfLeast_18 rfl ?_
    refine hz_if_lt (pc := 20) C (tgt := 54) dX7_firstOfLeast_20 rfl (fun cq => absurd cq (nI_pos (by omega))) (fun _ => ?_)
    refine hz_iload_n (pc := 23) C dX7_firstOfLeast_23 rfl ?_
    refine hz_iload (pc := 24) C dX7_firstOfLeast_24 rfl ?_
    refine hz_callSNs (pc := 26) C (as := [.int (nI x), .int (nI t)]) (st := []) (ev_hasN _ (m64 U hx) (by omega)) (hz_new0 _ _) fyX10_has fsX7_56 rfl dX7_firstOfLeast_26 rfl rfl (Nat.le_of_ble_eq_true rfl) (by decide) (hz_cap0 _) ?_
    refine hz_ifb_eq (pc := 29) C (tgt := 48) dX7_firstOfLeast_29 rfl (fun zzc1 => ?_) (fun zzc1 => ?_)
    · refine hz_iinc (pc := 48) C (v := (nI t) + (-1)) (ls' := [some (.ref 4), some (.int (nI x)), some (.int (nI a)), some (.int (nI (RX u x a))), some (.int c), some (.int ((nI t) + (-1)))]) dX7_firstOfLeast_48 rfl (rfl) rfl ?_
      refine hz_goto (pc := 51) C (tgt := 18) dX7_firstOfLeast_51 rfl ?_
      rw [m1_e]
      refine ih c (by omega) ?_
      rw [show mm u - t = mm u - (t + 1) + 1 by omega, hc]
      exact congrArg nI (if_neg (fun z => by simp only [Bool.and_eq_true, decide_eq_true_eq] at z; exact zzc1 z.1)).symm
    · refine hz_aload_n (pc := 32) C dX7_firstOfLeast_32 rfl ?_
      refine hz_iload_n (pc := 33) C dX7_firstOfLeast_33 rfl ?_
      refine hz_iload_n (pc := 34) C dX7_firstOfLeast_34 rfl ?_
      refine hz_iload (pc := 35) C dX7_firstOfLeast_35 rfl ?_
      refine hz_callVs (pc := 37) C (as := [.int (nI x), .int (nI a), .int (nI t)]) (st := []) (ev_leastBy U h7 h10 hx hR ha (i := t) (by omega) zzc1) (hz_new0 _ _) fyX7_leastBy fvX7_111 rfl dX7_firstOfLeast_37 hT4 rfl rfl hA4 rfl rfl (Nat.le_of_ble_eq_true rfl) (by decide) (hz_cap0 _) ?_
      refine hz_iload_n (pc := 40) C dX7_firstOfLeast_40 rfl ?_
      refine hz_ic_ne (pc := 41) C (tgt := 48) dX7_firstOfLeast_41 rfl (fun zzc2 => ?_) (fun zzc2 => ?_)
      · refine hz_iinc (pc := 48) C (v := (nI t) + (-1)) (ls' := [some (.ref 4), some (.int (nI x)), some (.int (nI a)), some (.int (nI (RX u x a))), some (.int c), some (.int ((nI t) + (-1)))]) dX7_firstOfLeast_48 rfl (rfl) rfl ?_
        refine hz_goto (pc := 51) C (tgt := 18) dX7_firstOfLeast_51 rfl ?_
        rw [m1_e]
        refine ih c (by omega) ?_
        rw [show mm u - t = mm u - (t + 1) + 1 by omega, hc]
        exact congrArg nI (if_neg (fun z => by simp only [Bool.and_eq_true, decide_eq_true_eq] at z; exact zzc2 ((nI_eq (by omega) (by omega)).mpr z.2))).symm
      · refine hz_iload (pc := 44) C dX7_firstOfLeast_44 rfl ?_
        refine hz_istore (pc := 46) C (ls' := [some (.ref 4), some (.int (nI x)), some (.int (nI a)), some (.int (nI (RX u x a))), some (.int (nI t)), some (.int (nI t))]) dX7_firstOfLeast_46 (Nat.le_of_ble_eq_true rfl) rfl ?_
        refine hz_iinc (pc := 48) C (v := (nI t) + (-1)) (ls' := [some (.ref 4), some (.int (nI x)), some (.int (nI a)), some (.int (nI (RX u x a))), some (.int (nI t)), some (.int ((nI t) + (-1)))]) dX7_firstOfLeast_48 rfl (rfl) rfl ?_
        refine hz_goto (pc := 51) C (tgt := 18) dX7_firstOfLeast_51 rfl ?_
        rw [m1_e]
        refine ih (nI t) (by omega) ?_
        rw [show mm u - t = mm u - (t + 1) + 1 by omega]
        exact congrArg nI (if_pos (by simp only [Bool.and_eq_true, decide_eq_true_eq]; exact ⟨zzc1, (nI_eq (by omega) (by omega)).mp zzc2⟩)).symm
theorem nI_1' : (nI 1 : Int32) = 1 := by decide +kernel
set_option maxHeartbeats 4000000 in
set_option maxRecDepth 100000 in
theorem ev_firstL {J : Nat → Nat → Int32} {L : Nat → Nat → Int64} {q : Nat → Nat → Nat} {u : Nat → Nat} (U : WU u) (h7 : J 4 7 = nI (mm u)) (h10 : ∀ a i, (a = 6 ∨ a < mm u) → i < mm u → J 10 (a * 6 + i) = nI (di u a i)) {x : Nat} (hx : x < 2 ^ mm u) (hR : TR u J x) {a : Nat} (ha : a = 6 ∨ a < mm u) (F : fin6 (di u) (2 ^ mm u - 1)) (h0 : 0 < x) : hz_Ev mX7_firstOfLeast TT NN (J, L, PP q) [.ref 4, .int (nI x), .int (nI a)] 0 0 (some (.int (nI (fi (fun i => bt x i && decide (di u a i + RX u (x - 2 ^ i) i = RX u x a)) (mm u) 0)))) TT NN (J, L, PP q) := by
  have hm := mm_le U
  have h64 := m64 U hx
  have ha6 : a ≤ 6 := by omega
  refine hz_Ev.intro (ls := [some (.ref 4), some (.int (nI x)), some (.int (nI a)), none, none, none]) (by decide +kernel) rfl (Nat.le_of_ble_eq_true rfl) (fun X C Z _ => ?_)
  refine hz_aload_n (pc := 0) C dX7_firstOfLeast_0 rfl ?_
  refine hz_iload_n (pc := 1) C dX7_firstOfLeast_1 rfl ?_
  refine hz_iload_n (pc := 2) C dX7_firstOfLeast_2 rfl ?_
  refine hz_callVs (pc := 3) C (as := [.int (nI x), .int (nI a)]) (st := []) (ev_leastFrom U h7 h10 hx hR ha F h0) (hz_new0 _ _) fyX7_leastFrom fvX7_108 rfl dX7_firstOfLeast_3 hT4 rfl rfl hA4 rfl rfl (Nat.le_of_ble_eq_true rfl) (by decide) (hz_cap0 _) ?_
  refine hz_istore_n (pc := 6) C (ls' := [some (.ref 4), some (.int (nI x)), some (.int (nI a)), some (.int (nI (RX u x a))), none, none]) dX7_firstOfLeast_6 (Nat.le_of_ble_eq_true rfl) rfl ?_
  refine hz_iconst (pc := 7) C (v := nI 0) dX7_firstOfLeast_7 (by decide +kernel) ?_
  refine hz_istore (pc := 8) C (ls' := [some (.ref 4), some (.int (nI x)), some (.int (nI a)), some (.int (nI (RX u x a))), some (.int (nI 0)), none]) dX7_firstOfLeast_8 (Nat.le_of_ble_eq_true rfl) rfl ?_
  refine hz_aload_n (pc := 10) C dX7_firstOfLeast_10 rfl ?_
  refine hz_getI (pc := 11) C (v := nI (mm u)) ffX7_68 dX7_firstOfLeast_11 hT4 hA4 rfl h7 ?_
  refine hz_iconst (pc := 14) C (v := nI 1) dX7_firstOfLeast_14 (by decide +kernel) ?_
  refine hz_isub (pc := 15) C (v := nI (mm u) - 1) dX7_firstOfLeast_15 (by rw [nI_1']) ?_
  refine hz_istore (pc := 16) C (ls' := [some (.ref 4), some (.int (nI x)), some (.int (nI a)), some (.int (nI (RX u x a))), some (.int (nI 0)), some (.int (nI (mm u) - 1))]) dX7_firstOfLeast_16 (Nat.le_of_ble_eq_true rfl) rfl ?_
  refine lp_fl C U h7 h10 hx hR ha F h0 (fun c hc => ?_) (mm u) _ (Nat.le_refl _) (by rw [Nat.sub_self]; rfl)
  refine hz_iload (pc := 54) C dX7_firstOfLeast_54 rfl ?_
  exact hz_iret C Z rfl dX7_firstOfLeast_56 hc rfl

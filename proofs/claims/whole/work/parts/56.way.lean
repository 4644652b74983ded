theorem fi_cong {f g : Nat → Bool} (h : ∀ i, f i = g i) : ∀ (n lo : Nat), fi f n lo = fi g n lo := by
  intro n
  induction n with
  | zero => intro lo; rfl
  | succ n ih => intro lo; simp only [fi]; rw [h lo, ih]
theorem haX {u : Nat → Nat} (U : WU u) {a : Nat} (ha : a = 6 ∨ a < mm u) : a = 6 ∨ (a < 6 ∧ bt (2 ^ mm u - 1) a = true) := by
  rcases ha with ha | ha
  · exact Or.inl ha
  · have h9 : ∀ m, m < 7 → ∀ i, i < m → bt (2 ^ m - 1) i = true := by decide +kernel
    have hm := mm_le U
    exact Or.inr ⟨by omega, h9 (mm u) (by omega) a ha⟩
theorem fo_eq {u : Nat → Nat} (U : WU u) (F : fin6 (di u) (2 ^ mm u - 1)) {x a n : Nat} (hx : x < 2 ^ mm u) (hc : csum (bt x) 6 = n + 1) (ha : a = 6 ∨ a < mm u) : fi (fun i => bt x i && decide (di u a i + RX u (x - 2 ^ i) i = RX u x a)) (mm u) 0 = gb (di u) n x a := by
  have h64 := m64 U hx
  have hm := mm_le U
  have hcl := csum_le (bt x) 6
  have e : ∀ i, (bt x i && decide (di u a i + RX u (x - 2 ^ i) i = RX u x a)) = gc (di u) n x a i := fun i => by
    unfold gc
    by_cases hb : bt x i = true
    · have hi := bt_lt hx hb
      have h9 := (sub_s h64 (show i < 6 by omega) hb).2.1
      unfold RX
      rw [show csum (bt (x - 2 ^ i)) 6 = n by omega, hc]
    · rw [Bool.eq_false_iff.mpr hb, Bool.false_and, Bool.false_and]
  rw [fi_cong e]
  obtain ⟨zzg1, zzg2, zzg3, zzg4⟩ := gb_ok F (show n + 1 ≤ 6 by omega) h64 (sub_top U hx) hc (haX U ha)
  have hb0 := bt_lt hx zzg2
  have hg : gc (di u) n x a (gb (di u) n x a) = true := by
    unfold gc
    rw [zzg2, decide_eq_true zzg3]; rfl
  obtain ⟨q1, q2, q3, q4⟩ := fi_ok (f := gc (di u) n x a) (n := mm u) (lo := 0) (Nat.zero_le (gb (di u) n x a)) (by omega) hg
  unfold gc at q1
  simp only [Bool.and_eq_true, decide_eq_true_eq] at q1
  exact Nat.le_antisymm q2 (zzg4 _ (by omega) q1.1 q1.2)
def wL (u : Nat → Nat) : List Nat := gl (di u) (mm u) (2 ^ mm u - 1) 6
/-- where the choosing stands behind n steps -/
def wS (u : Nat → Nat) (n x a : Nat) : Prop := x < 2 ^ mm u ∧ csum (bt x) 6 = mm u - n ∧ (a = 6 ∨ a < mm u) ∧ gl (di u) (mm u - n) x a = (wL u).drop n ∧ (0 < n → a = (wL u).getD (n - 1) 0 ∧ a < mm u)
theorem wS.ini {u : Nat → Nat} (U : WU u) : wS u 0 (2 ^ mm u - 1) 6 := ⟨by have := Nat.two_pow_pos (mm u); omega, cs_top U, Or.inl rfl, rfl, fun z => absurd z (Nat.lt_irrefl 0)⟩
theorem wS.nxt {u : Nat → Nat} (U : WU u) (F : fin6 (di u) (2 ^ mm u - 1)) {n k x a : Nat} (h : wS u n x a) (hk : mm u - n = k + 1) : bt x (gb (di u) k x a) = true ∧ gb (di u) k x a < mm u ∧ wS u (n + 1) (x - 2 ^ gb (di u) k x a) (gb (di u) k x a) := by
  obtain ⟨h1, h2, h3, h4, -⟩ := h
  have h64 := m64 U h1
  have hcl := csum_le (bt x) 6
  rw [hk] at h2 h4
  obtain ⟨zzg1, zzg2, zzg3, zzg4⟩ := gb_ok F (show k + 1 ≤ 6 by omega) h64 (sub_top U h1) h2 (haX U h3)
  have hb0 := bt_lt h1 zzg2
  have h9 := (sub_s h64 zzg1 zzg2).2.1
  rw [gl_s] at h4
  have hd : (wL u).drop (n + 1) = gl (di u) k (x - 2 ^ gb (di u) k x a) (gb (di u) k x a) := by
    rw [← List.drop_drop, ← h4]; rfl
  have hg : (wL u).getD n 0 = gb (di u) k x a := by
    have h8 : ((wL u).drop n).getD 0 0 = gb (di u) k x a := by rw [← h4]; rfl
    rw [List.getD_eq_getElem?_getD, List.getElem?_drop, Nat.add_zero] at h8
    rw [List.getD_eq_getElem?_getD]; exact h8
  refine ⟨zzg2, hb0, Nat.lt_of_le_of_lt (Nat.sub_le _ _) h1, by omega, Or.inr hb0, ?_, fun _ => ⟨?_, hb0⟩⟩
  · rw [show mm u - (n + 1) = k by omega, hd]
  · rw [show n + 1 - 1 = n by omega, hg]
set_option maxHeartbeats 4000000 in
set_option maxRecDepth 100000 in
theorem lp_ta {X : hz_X} (C : hz_C X mX7_targetAt) {J : Nat → Nat → Int32} {L : Nat → Nat → Int64} {q : Nat → Nat → Nat} {u : Nat → Nat} (U : WU u) (h7 : J 4 7 = nI (mm u)) (h10 : ∀ a i, (a = 6 ∨ a < mm u) → i < mm u → J 10 (a * 6 + i) = nI (di u a i)) (hR : TR u J (2 ^ mm u)) (h9 : ∀ i, i < mm u → J 9 i = nI (tgx u i)) (F : fin6 (di u) (2 ^ mm u - 1)) {p : Nat} (hp : p < mm u) (kk : ∀ (x a : Nat), a = (wL u).getD (p + 1 - 1) 0 ∧ a < mm u → hz_G X TT NN (J, L, PP q) 0 0 46 [some (.ref 4), some (.int (nI p)), some (.int (nI x)), some (.int (nI a)), some (.int (nI (p + 1)))] []) : ∀ (n j : Nat) (x a : Nat), j + n = p + 1 → wS u j x a → hz_G X TT NN (J, L, PP q) 0 0 15 [some (.ref 4), some (.int (nI p)), some (.int (nI x)), some (.int (nI a)), some (.int (nI j))] [] := by
  intro n
  induction n with
  | zero =>
    intro j x a hi hS
    obtain rfl : p + 1 = j := by omega
    have hm := mm_le U
    refine hz_iload (pc := 15) C dX7_targetAt_15 rfl ?_
    refine hz_iload_n (pc := 17) C dX7_targetAt_17 rfl ?_
    refine hz_ic_gt (pc := 18) C (tgt := 46) dX7_targetAt_18 rfl (fun _ => ?_) (fun cq => absurd (nI_lt (by omega) (by omega)) cq)
    exact kk x a (hS.2.2.2.2 (by omega))
  | succ n ih =>
    intro j x a hi hS
    have hm := mm_le U
    have h64 := m64 U hS.1
    have hx0 : 0 < x := Nat.pos_of_ne_zero fun z => by
      have h8 := hS.2.1
      rw [z, show csum (bt 0) 6 = 0 by decide] at h8
      omega
    obtain ⟨zzn1, zzn2, n3⟩ := hS.nxt U F (k := mm u - j - 1) (by omega)
    refine hz_iload (pc := 15) C dX7_targetAt_15 rfl ?_
    refine hz_iload_n (pc := 17) C dX7_targetAt_17 rfl ?_
    refine hz_ic_gt (pc := 18) C (tgt := 46) dX7_targetAt_18 rfl (fun cq => absurd cq (nI_nlt (by omega) (by omega))) (fun _ => ?_)
    refine hz_iload_n (pc := 21) C dX7_targetAt_21 rfl ?_
    refine hz_if_eq (pc := 22) C (tgt := 46) dX7_targetAt_22 rfl (fun cq => absurd cq (nI_ne0 (by omega) (by omega))) (fun _ => ?_)
    refine hz_aload_n (pc := 25) C dX7_targetAt_25 rfl ?_
    refine hz_iload_n (pc := 26) C dX7_targetAt_26 rfl ?_
    refine hz_iload_n (pc := 27) C dX7_targetAt_27 rfl ?_
    refine hz_callVs (pc := 28) C (as := [.int (nI x), .int (nI a)]) (st := []) (by have hz9 := ev_firstL (L := L) (q := q) U h7 h10 hS.1 (fun Y i hY => hR Y i (by have := hS.1; omega)) hS.2.2.1 F hx0; rw [fo_eq U F hS.1 (n := mm u - j - 1) (by rw [hS.2.1]; omega) hS.2.2.1] at hz9; exact hz9) (hz_new0 _ _) fyX7_firstOfLeast fvX7_118 rfl dX7_targetAt_28 hT4 rfl rfl hA4 rfl rfl (Nat.le_of_ble_eq_true rfl) (by decide) (hz_cap0 _) ?_
    refine hz_istore_n (pc := 31) C (ls' := [some (.ref 4), some (.int (nI p)), some (.int (nI x)), some (.int (nI (gb (di u) (mm u - j - 1) x a))), some (.int (nI j))]) dX7_targetAt_31 (Nat.le_of_ble_eq_true rfl) rfl ?_
    refine hz_iload_n (pc := 32) C dX7_targetAt_32 rfl ?_
    refine hz_iconst (pc := 33) C (v := nI 1) dX7_targetAt_33 (by decide +kernel) ?_
    refine hz_iload_n (pc := 34) C dX7_targetAt_34 rfl ?_
    refine hz_ishl (pc := 35) C dX7_targetAt_35 rfl ?_
    refine hz_iconst (pc := 36) C (v := (-1 : Int32)) dX7_targetAt_36 (by decide +kernel) ?_
    refine hz_ixor (pc := 37) C dX7_targetAt_37 rfl ?_
    refine hz_iand (pc := 38) C (v := nI (x - 2 ^ gb (di u) (mm u - j - 1) x a)) dX7_targetAt_38 (clr (by omega) (by omega) zzn1) ?_
    refine hz_istore_n (pc := 39) C (ls' := [some (.ref 4), some (.int (nI p)), some (.int (nI (x - 2 ^ gb (di u) (mm u - j - 1) x a))), some (.int (nI (gb (di u) (mm u - j - 1) x a))), some (.int (nI j))]) dX7_targetAt_39 (Nat.le_of_ble_eq_true rfl) rfl ?_
    refine hz_iinc (pc := 40) C (v := nI (j + 1)) (ls' := [some (.ref 4), some (.int (nI p)), some (.int (nI (x - 2 ^ gb (di u) (mm u - j - 1) x a))), some (.int (nI (gb (di u) (mm u - j - 1) x a))), some (.int (nI (j + 1)))]) dX7_targetAt_40 rfl (nI_add _ 1) rfl ?_
    refine hz_goto (pc := 43) C (tgt := 15) dX7_targetAt_43 rfl ?_
    exact ih (j + 1) _ _ (by omega) n3
set_option maxHeartbeats 4000000 in
set_option maxRecDepth 100000 in
theorem ev_targetAt {J : Nat → Nat → Int32} {L : Nat → Nat → Int64} {q : Nat → Nat → Nat} {u : Nat → Nat} (U : WU u) (h7 : J 4 7 = nI (mm u)) (h10 : ∀ a i, (a = 6 ∨ a < mm u) → i < mm u → J 10 (a * 6 + i) = nI (di u a i)) (hR : TR u J (2 ^ mm u)) (h9 : ∀ i, i < mm u → J 9 i = nI (tgx u i)) (F : fin6 (di u) (2 ^ mm u - 1)) {p : Nat} (hp : p < mm u) : hz_Ev mX7_targetAt TT NN (J, L, PP q) [.ref 4, .int (nI p)] 0 0 (some (.int (nI (tgx u ((wL u).getD p 0))))) TT NN (J, L, PP q) := by
  have hm := mm_le U
  refine hz_Ev.intro (ls := [some (.ref 4), some (.int (nI p)), none, none, none]) (by decide +kernel) rfl (Nat.le_of_ble_eq_true rfl) (fun X C Z _ => ?_)
  refine hz_iconst (pc := 0) C (v := nI 1) dX7_targetAt_0 (by decide +kernel) ?_
  refine hz_aload_n (pc := 1) C dX7_targetAt_1 rfl ?_
  refine hz_getI (pc := 2) C (v := nI (mm u)) ffX7_68 dX7_targetAt_2 hT4 hA4 rfl h7 ?_
  refine hz_ishl (pc := 5) C (v := nI (2 ^ mm u)) dX7_targetAt_5 (bsh7 (mm_le U)) ?_
  refine hz_iconst (pc := 6) C (v := nI 1) dX7_targetAt_6 (by decide +kernel) ?_
  refine hz_isub (pc := 7) C (v := nI (2 ^ mm u - 1)) dX7_targetAt_7 (pk_sub (Nat.two_pow_pos _)) ?_
  refine hz_istore_n (pc := 8) C (ls' := [some (.ref 4), some (.int (nI p)), some (.int (nI (2 ^ mm u - 1))), none, none]) dX7_targetAt_8 (Nat.le_of_ble_eq_true rfl) rfl ?_
  refine hz_bipush (pc := 9) C (v := nI 6) dX7_targetAt_9 (by decide +kernel) ?_
  refine hz_istore_n (pc := 11) C (ls' := [some (.ref 4), some (.int (nI p)), some (.int (nI (2 ^ mm u - 1))), some (.int (nI 6)), none]) dX7_targetAt_11 (Nat.le_of_ble_eq_true rfl) rfl ?_
  refine hz_iconst (pc := 12) C (v := nI 0) dX7_targetAt_12 (by decide +kernel) ?_
  refine hz_istore (pc := 13) C (ls' := [some (.ref 4), some (.int (nI p)), some (.int (nI (2 ^ mm u - 1))), some (.int (nI 6)), some (.int (nI 0))]) dX7_targetAt_13 (Nat.le_of_ble_eq_true rfl) rfl ?_
  refine lp_ta C U h7 h10 hR h9 F hp (fun x a ha => ?_) (p + 1) 0 _ _ (by omega) (wS.ini U)
  refine hz_iload_n (pc := 46) C dX7_targetAt_46 rfl ?_
  refine hz_aload_n (pc := 47) C dX7_targetAt_47 rfl ?_
  refine hz_getI (pc := 48) C (v := nI (mm u)) ffX7_68 dX7_targetAt_48 hT4 hA4 rfl h7 ?_
  refine hz_ic_ge (pc := 51) C (tgt := 63) dX7_targetAt_51 rfl (fun cq => absurd cq (nI_ge (by omega) (by omega))) (fun _ => ?_)
  refine hz_aload_n (pc := 54) C dX7_targetAt_54 rfl ?_
  refine hz_getP (pc := 55) C (v := 9) ffX7_24 dX7_targetAt_55 hT4 hA4 rfl (hP4_4 q) (by decide) ?_
  refine hz_iload_n (pc := 58) C dX7_targetAt_58 rfl ?_
  refine hz_iald (pc := 59) C (v := nI (tgx u a)) (j := a) dX7_targetAt_59 hT9 hA9 rfl (by omega) (by decide) (h9 a ha.2) ?_
  refine hz_goto (pc := 60) C (tgt := 64) dX7_targetAt_60 rfl ?_
  exact hz_iret C Z rfl dX7_targetAt_64 (by rw [ha.1, Nat.add_sub_cancel]) rfl
theorem ev_leastAll {J : Nat → Nat → Int32} {L : Nat → Nat → Int64} {q : Nat → Nat → Nat} {u : Nat → Nat} (U : WU u) (h7 : J 4 7 = nI (mm u)) (h10 : ∀ a i, (a = 6 ∨ a < mm u) → i < mm u → J 10 (a * 6 + i) = nI (di u a i)) (hR : TR u J (2 ^ mm u)) (F : fin6 (di u) (2 ^ mm u - 1)) : hz_Ev mX7_leastFrom TT NN (J, L, PP q) [.ref 4, .int (nI (2 ^ mm u - 1)), .int (nI 6)] 0 0 (some (.int (nI (RF (di u) (mm u) (2 ^ mm u - 1) 6)))) TT NN (J, L, PP q) := by
  by_cases hm0 : mm u = 0
  · have h := ev_leastFrom0 (L := L) (q := q) U h7 h10 hm0
    rw [hm0, RF_z]
    exact h
  · have h2 := Nat.two_pow_pos (mm u)
    have h3 : 2 ^ 1 ≤ 2 ^ mm u := Nat.pow_le_pow_right (by decide) (by omega)
    have h := ev_leastFrom (L := L) (q := q) U h7 h10 (x := 2 ^ mm u - 1) (by omega) (fun Y i hY => hR Y i (by omega)) (a := 6) (Or.inl rfl) F (by omega)
    unfold RX at h
    rw [cs_top U] at h
    exact h
set_option maxHeartbeats 4000000 in
set_option maxRecDepth 100000 in
theorem ev_wholeWay {J : Nat → Nat → Int32} {L : Nat → Nat → Int64} {q : Nat → Nat → Nat} {u : Nat → Nat} (U : WU u) (h7 : J 4 7 = nI (mm u)) (h10 : ∀ a i, (a = 6 ∨ a < mm u) → i < mm u → J 10 (a * 6 + i) = nI (di u a i)) (hR : TR u J (2 ^ mm u)) (F : fin6 (di u) (2 ^ mm u - 1)) : hz_Ev mX7_wholeWay TT NN (J, L, PP q) [.ref 4] 0 0 (some (.int (nI (RF (di u) (mm u) (2 ^ mm u - 1) 6)))) TT NN (J, L, PP q) := by
  refine hz_Ev.intro (ls := [some (.ref 4)]) (by decide +kernel) rfl (Nat.le_of_ble_eq_true rfl) (fun X C Z _ => ?_)
  refine hz_aload_n (pc := 0) C dX7_wholeWay_0 rfl ?_
  refine hz_iconst (pc := 1) C (v := nI 1) dX7_wholeWay_1 (by decide +kernel) ?_
  refine hz_aload_n (pc := 2) C dX7_wholeWay_2 rfl ?_
  refine hz_getI (pc := 3) C (v := nI (mm u)) ffX7_68 dX7_wholeWay_3 hT4 hA4 rfl h7 ?_
  refine hz_ishl (pc := 6) C (v := nI (2 ^ mm u)) dX7_wholeWay_6 (bsh7 (mm_le U)) ?_
  refine hz_iconst (pc := 7) C (v := nI 1) dX7_wholeWay_7 (by decide +kernel) ?_
  refine hz_isub (pc := 8) C (v := nI (2 ^ mm u - 1)) dX7_wholeWay_8 (pk_sub (Nat.two_pow_pos _)) ?_
  refine hz_bipush (pc := 9) C (v := nI 6) dX7_wholeWay_9 (by decide +kernel) ?_
  refine hz_callVs (pc := 11) C (as := [.int (nI (2 ^ mm u - 1)), .int (nI 6)]) (st := []) (ev_leastAll U h7 h10 hR F) (hz_new0 _ _) fyX7_leastFrom fvX7_108 rfl dX7_wholeWay_11 hT4 rfl rfl hA4 rfl rfl (Nat.le_of_ble_eq_true rfl) (by decide) (hz_cap0 _) ?_
  exact hz_iret C Z rfl dX7_wholeWay_14 rfl rfl
theorem m1_le {p : Nat} (h : p < 2 ^ 31) : (-1 : Int32) ≤ nI p := by
  rw [Int32.le_iff_toInt_le, nI_toInt h, show (-1 : Int32).toInt = -1 by decide +kernel]
  omega
theorem hA_i {u : Nat → Nat} (U : WU u) (A : ∀ k, k < u 64 → lo1 u k = true → ds u (u 91) (u (71 + k)) < 1000) : ∀ i, i < mm u → di u 6 i < 1000 := fun i hi => by
  rw [di_6]; exact A _ (tgx_lt hi) (tgx_lo hi)
set_option maxHeartbeats 4000000 in
set_option maxRecDepth 100000 in
theorem ex_wayAll {I : Nat → Nat → Int32} {L : Nat → Nat → Int64} {q : Nat → Nat → Nat} {u : Nat → Nat} (V : HV 12 q I u) (U : WU u) (A : ∀ k, k < u 64 → lo1 u k = true → ds u (u 91) (u (71 + k)) < 1000) (h11 : ∀ i, i < 6 → I 11 i = 0) : hz_Ex mX10_way TT NN (I, L, PP q) [.ref 1, .int (-1 : Int32)] (hz_PQ L (some (.int (nI (RF (di u) (mm u) (2 ^ mm u - 1) 6)))) (fun q' J => HV 12 q' J (u) ∧ kpC I J ∧ kpQ q q')) := by
  have hm := mm_le U
  have F := fin_i U (fin_d U A)
  refine hz_Ex.intro (ls := [some (.ref 1), some (.int (-1 : Int32))]) (by decide +kernel) rfl (Nat.le_of_ble_eq_true rfl) (fun X C Z => ?_)
  refine hz_iload_n (pc := 0) C dX10_way_0 rfl ?_
  refine hz_iconst (pc := 1) C (v := (-1 : Int32)) dX10_way_1 (by decide +kernel) ?_
  refine hz_ic_ge (pc := 2) C (tgt := 18) dX10_way_2 rfl (fun _ => ?_) (fun cq => absurd (by decide) cq)
  refine hz_aload_n (pc := 18) C dX10_way_18 rfl ?_
  refine hz_getP (pc := 19) C (v := 4) ffX10_19 dX10_way_19 hT1 hA1 rfl (hP1_1 q) (by decide) ?_
  refine hz_aload_n (pc := 22) C dX10_way_22 rfl ?_
  refine hz_getP (pc := 23) C (v := 12) ffX10_26 dX10_way_23 hT1 hA1 rfl (hP1_4 q) (by decide) ?_
  refine hz_callVxv (pc := 26) C (as := [.ref 12]) (st := []) (ex_findT V U) fyX7_findTargets fvX10_190 rfl dX10_way_26 hT4 rfl rfl hA4 rfl rfl (Nat.le_of_ble_eq_true rfl) (by decide) (hz_cap0 _) (fun J1 h1 => ?_)
  have V1 : HV 12 q J1 u := V.cong U (fun a ha1 ha2 => h1.1 a (by omega) (by omega)) (fun _ => rfl)
  refine hz_aload_n (pc := 29) C dX10_way_29 rfl ?_
  refine hz_getP (pc := 30) C (v := 4) ffX10_19 dX10_way_30 hT1 hA1 rfl (hP1_1 q) (by decide) ?_
  refine hz_aload_n (pc := 33) C dX10_way_33 rfl ?_
  refine hz_getP (pc := 34) C (v := 12) ffX10_26 dX10_way_34 hT1 hA1 rfl (hP1_4 q) (by decide) ?_
  refine hz_callVxv (pc := 37) C (as := [.ref 12]) (st := []) (ex_legs U h1.2.1 h1.2.2 V1) fyX7_measureLegs fvX10_193 rfl dX10_way_37 hT4 rfl rfl hA4 rfl rfl (Nat.le_of_ble_eq_true rfl) (by decide) (hz_cap0 _) (fun J2 h2 => ?_)
  have zzk7 : J2 4 7 = nI (mm u) := (congrFun (h2.1 4 (by omega) (by omega) (by omega)) 7).trans h1.2.1
  have zzk10 : ∀ a i, (a = 6 ∨ a < mm u) → i < mm u → J2 10 (a * 6 + i) = nI (di u a i) := fun a i ha hi => by
    rcases ha with ha | ha
    · subst ha; exact (h2.2.2 i hi).1
    · exact (h2.2.2 i hi).2 a ha
  have kC : kpC I J2 := ⟨fun b hb => (h2.1 b (by omega) (by omega) (by omega)).trans (h1.1 b (by omega) (by omega)), fun i _ => by rw [h2.1 11 (by omega) (by omega) (by omega), h1.1 11 (by omega) (by omega)]⟩
  refine hz_aload_n (pc := 40) C dX10_way_40 rfl ?_
  refine hz_getP (pc := 41) C (v := 4) ffX10_19 dX10_way_41 hT1 hA1 rfl (hP1_1 q) (by decide) ?_
  refine hz_callVs (pc := 44) C (as := []) (st := []) (ev_joined U zzk7 zzk10 (hA_i U A)) (hz_new0 _ _) fyX7_allJoined fvX10_196 rfl dX10_way_44 hT4 rfl rfl hA4 rfl rfl (Nat.le_of_ble_eq_true rfl) (by decide) (hz_cap0 _) ?_
  refine hz_if_ne (pc := 47) C (tgt := 52) dX10_way_47 rfl (fun _ => ?_) (fun cq => absurd cq (by decide +kernel))
  refine hz_aload_n (pc := 52) C dX10_way_52 rfl ?_
  refine hz_getP (pc := 53) C (v := 4) ffX10_19 dX10_way_53 hT1 hA1 rfl (hP1_1 q) (by decide) ?_
  refine hz_callVxv (pc := 56) C (as := []) (st := []) (ex_fillRest U zzk7 zzk10 F (fun i hi => (kC.2 i hi).trans (h11 i hi))) fyX7_fillRest fvX10_200 rfl dX10_way_56 hT4 rfl rfl hA4 rfl rfl (Nat.le_of_ble_eq_true rfl) (by decide) (hz_cap0 _) (fun J3 h3 => ?_)
  have zzm7 : J3 4 7 = nI (mm u) := (congrFun (h3.1 4 (by omega)) 7).trans zzk7
  have zzm10 : ∀ a i, (a = 6 ∨ a < mm u) → i < mm u → J3 10 (a * 6 + i) = nI (di u a i) := fun a i ha hi => (congrFun (h3.1 10 (by omega)) _).trans (zzk10 a i ha hi)
  have zzm9 : ∀ i, i < mm u → J3 9 i = nI (tgx u i) := fun i hi => (congrFun (h3.1 9 (by omega)) _).trans ((congrFun (h2.1 9 (by omega) (by omega) (by omega)) _).trans (h1.2.2 i hi))
  have mC : kpC I J3 := kC.tr ⟨fun b hb => h3.1 b (by omega), fun i hi => h3.2.2 i hi⟩
  refine hz_iload_n (pc := 59) C dX10_way_59 rfl ?_
  refine hz_iconst (pc := 60) C (v := (-1 : Int32)) dX10_way_60 (by decide +kernel) ?_
  refine hz_ic_ne (pc := 61) C (tgt := 72) dX10_way_61 rfl (fun cq => absurd rfl cq) (fun _ => ?_)
  refine hz_aload_n (pc := 64) C dX10_way_64 rfl ?_
  refine hz_getP (pc := 65) C (v := 4) ffX10_19 dX10_way_65 hT1 hA1 rfl (hP1_1 q) (by decide) ?_
  refine hz_callVs (pc := 68) C (as := []) (st := []) (ev_wholeWay U zzm7 zzm10 h3.2.1 F) (hz_new0 _ _) fyX7_wholeWay fvX10_203 rfl dX10_way_68 hT4 rfl rfl hA4 rfl rfl (Nat.le_of_ble_eq_true rfl) (by decide) (hz_cap0 _) ?_
  exact hz_iretx C Z rfl dX10_way_71 ⟨q, J3, rfl, rfl, h2.2.1.cong U (fun b hb1 hb2 => h3.1 b (by omega)) (fun _ => rfl), mC, kpQ.rf q⟩
set_option maxHeartbeats 4000000 in
set_option maxRecDepth 100000 in
theorem ex_wayAt {I : Nat → Nat → Int32} {L : Nat → Nat → Int64} {q : Nat → Nat → Nat} {u : Nat → Nat} (V : HV 12 q I u) (U : WU u) (A : ∀ k, k < u 64 → lo1 u k = true → ds u (u 91) (u (71 + k)) < 1000) (h11 : ∀ i, i < 6 → I 11 i = 0) {p : Nat} (hp : p < mm u) : hz_Ex mX10_way TT NN (I, L, PP q) [.ref 1, .int (nI p)] (hz_PQ L (some (.int (nI (tgx u ((wL u).getD p 0))))) (fun q' J => HV 12 q' J (u) ∧ kpC I J ∧ kpQ q q')) := by
  have hm := mm_le U
  have F := fin_i U (fin_d U A)
  have hp31 : p < 2 ^ 31 := by omega
  refine hz_Ex.intro (ls := [some (.ref 1), some (.int (nI p))]) (by decide +kernel) rfl (Nat.le_of_ble_eq_true rfl) (fun X C Z => ?_)
  refine hz_iload_n (pc := 0) C dX10_way_0 rfl ?_
  refine hz_iconst (pc := 1) C (v := (-1 : Int32)) dX10_way_1 (by decide +kernel) ?_
  refine hz_ic_ge (pc := 2) C (tgt := 18) dX10_way_2 rfl (fun _ => ?_) (fun cq => absurd (m1_le hp31) cq)
  refine hz_aload_n (pc := 18) C dX10_way_18 rfl ?_
  refine hz_getP (pc := 19) C (v := 4) ffX10_19 dX10_way_19 hT1 hA1 rfl (hP1_1 q) (by decide) ?_
  refine hz_aload_n (pc := 22) C dX10_way_22 rfl ?_
  refine hz_getP (pc := 23) C (v := 12) ffX10_26 dX10_way_23 hT1 hA1 rfl (hP1_4 q) (by decide) ?_
  refine hz_callVxv (pc := 26) C (as := [.ref 12]) (st := []) (ex_findT V U) fyX7_findTargets fvX10_190 rfl dX10_way_26 hT4 rfl rfl hA4 rfl rfl (Nat.le_of_ble_eq_true rfl) (by decide) (hz_cap0 _) (fun J1 h1 => ?_)
  have V1 : HV 12 q J1 u := V.cong U (fun a ha1 ha2 => h1.1 a (by omega) (by omega)) (fun _ => rfl)
  refine hz_aload_n (pc := 29) C dX10_way_29 rfl ?_
  refine hz_getP (pc := 30) C (v := 4) ffX10_19 dX10_way_30 hT1 hA1 rfl (hP1_1 q) (by decide) ?_
  refine hz_aload_n (pc := 33) C dX10_way_33 rfl ?_
  refine hz_getP (pc := 34) C (v := 12) ffX10_26 dX10_way_34 hT1 hA1 rfl (hP1_4 q) (by decide) ?_
  refine hz_callVxv (pc := 37) C (as := [.ref 12]) (st := []) (ex_legs U h1.2.1 h1.2.2 V1) fyX7_measureLegs fvX10_193 rfl dX10_way_37 hT4 rfl rfl hA4 rfl rfl (Nat.le_of_ble_eq_true rfl) (by decide) (hz_cap0 _) (fun J2 h2 => ?_)
  have zzk7 : J2 4 7 = nI (mm u) := (congrFun (h2.1 4 (by omega) (by omega) (by omega)) 7).trans h1.2.1
  have zzk10 : ∀ a i, (a = 6 ∨ a < mm u) → i < mm u → J2 10 (a * 6 + i) = nI (di u a i) := fun a i ha hi => by
    rcases ha with ha | ha
    · subst ha; exact (h2.2.2 i hi).1
    · exact (h2.2.2 i hi).2 a ha
  have kC : kpC I J2 := ⟨fun b hb => (h2.1 b (by omega) (by omega) (by omega)).trans (h1.1 b (by omega) (by omega)), fun i _ => by rw [h2.1 11 (by omega) (by omega) (by omega), h1.1 11 (by omega) (by omega)]⟩
  refine hz_aload_n (pc := 40) C dX10_way_40 rfl ?_
  refine hz_getP (pc := 41) C (v := 4) ffX10_19 dX10_way_41 hT1 hA1 rfl (hP1_1 q) (by decide) ?_
  refine hz_callVs (pc := 44) C (as := []) (st := []) (ev_joined U zzk7 zzk10 (hA_i U A)) (hz_new0 _ _) fyX7_allJoined fvX10_196 rfl dX10_way_44 hT4 rfl rfl hA4 rfl rfl (Nat.le_of_ble_eq_true rfl) (by decide) (hz_cap0 _) ?_
  refine hz_if_ne (pc := 47) C (tgt := 52) dX10_way_47 rfl (fun _ => ?_) (fun cq => absurd cq (by decide +kernel))
  refine hz_aload_n (pc := 52) C dX10_way_52 rfl ?_
  refine hz_getP (pc := 53) C (v := 4) ffX10_19 dX10_way_53 hT1 hA1 rfl (hP1_1 q) (by decide) ?_
  refine hz_callVxv (pc := 56) C (as := []) (st := []) (ex_fillRest U zzk7 zzk10 F (fun i hi => (kC.2 i hi).trans (h11 i hi))) fyX7_fillRest fvX10_200 rfl dX10_way_56 hT4 rfl rfl hA4 rfl rfl (Nat.le_of_ble_eq_true rfl) (by decide) (hz_cap0 _) (fun J3 h3 => ?_)
  have zzm7 : J3 4 7 = nI (mm u) := (congrFun (h3.1 4 (by omega)) 7).trans zzk7
  have zzm10 : ∀ a i, (a = 6 ∨ a < mm u) → i < mm u → J3 10 (a * 6 + i) = nI (di u a i) := fun a i ha hi => (congrFun (h3.1 10 (by omega)) _).trans (zzk10 a i ha hi)
  have zzm9 : ∀ i, i < mm u → J3 9 i = nI (tgx u i) := fun i hi => (congrFun (h3.1 9 (by omega)) _).trans ((congrFun (h2.1 9 (by omega) (by omega) (by omega)) _).trans (h1.2.2 i hi))
  have mC : kpC I J3 := kC.tr ⟨fun b hb => h3.1 b (by omega), fun i hi => h3.2.2 i hi⟩
  refine hz_iload_n (pc := 59) C dX10_way_59 rfl ?_
  refine hz_iconst (pc := 60) C (v := (-1 : Int32)) dX10_way_60 (by decide +kernel) ?_
  refine hz_ic_ne (pc := 61) C (tgt := 72) dX10_way_61 rfl (fun _ => ?_) (fun cq => absurd cq (nm1 hp31))
  refine hz_iload_n (pc := 72) C dX10_way_72 rfl ?_
  refine hz_aload_n (pc := 73) C dX10_way_73 rfl ?_
  refine hz_getP (pc := 74) C (v := 4) ffX10_19 dX10_way_74 hT1 hA1 rfl (hP1_1 q) (by decide) ?_
  refine hz_getI (pc := 77) C (v := nI (mm u)) ffX10_206 dX10_way_77 hT4 hA4 rfl zzm7 ?_
  refine hz_ic_lt (pc := 80) C (tgt := 88) dX10_way_80 rfl (fun _ => ?_) (fun cq => absurd (nI_lt (by omega) (by omega)) cq)
  refine hz_aload_n (pc := 88) C dX10_way_88 rfl ?_
  refine hz_getP (pc := 89) C (v := 4) ffX10_19 dX10_way_89 hT1 hA1 rfl (hP1_1 q) (by decide) ?_
  refine hz_iload_n (pc := 92) C dX10_way_92 rfl ?_
  refine hz_callVs (pc := 93) C (as := [.int (nI p)]) (st := []) (ev_targetAt U zzm7 zzm10 h3.2.1 zzm9 F hp) (hz_new0 _ _) fyX7_targetAt fvX10_209 rfl dX10_way_93 hT4 rfl rfl hA4 rfl rfl (Nat.le_of_ble_eq_true rfl) (by decide) (hz_cap0 _) ?_
  exact hz_iretx C Z rfl dX10_way_96 ⟨q, J3, rfl, rfl, h2.2.1.cong U (fun b hb1 hb2 => h3.1 b (by omega)) (fun _ => rfl), mC, kpQ.rf q⟩
set_option maxHeartbeats 4000000 in
set_option maxRecDepth 100000 in
theorem ex_wayOff {I : Nat → Nat → Int32} {L : Nat → Nat → Int64} {q : Nat → Nat → Nat} {u : Nat → Nat} (V : HV 12 q I u) (U : WU u) (A : ∀ k, k < u 64 → lo1 u k = true → ds u (u 91) (u (71 + k)) < 1000) (h11 : ∀ i, i < 6 → I 11 i = 0) {p : Nat} (hp31 : p < 2 ^ 31) (hp : mm u ≤ p) : hz_Ex mX10_way TT NN (I, L, PP q) [.ref 1, .int (nI p)] (hz_PQ L (some (.int (-5 : Int32))) (fun q' J => HV 12 q' J (u) ∧ kpC I J ∧ kpQ q q')) := by
  have hm := mm_le U
  have F := fin_i U (fin_d U A)
  refine hz_Ex.intro (ls := [some (.ref 1), some (.int (nI p))]) (by decide +kernel) rfl (Nat.le_of_ble_eq_true rfl) (fun X C Z => ?_)
  refine hz_iload_n (pc := 0) C dX10_way_0 rfl ?_
  refine hz_iconst (pc := 1) C (v := (-1 : Int32)) dX10_way_1 (by decide +kernel) ?_
  refine hz_ic_ge (pc := 2) C (tgt := 18) dX10_way_2 rfl (fun _ => ?_) (fun cq => absurd (m1_le hp31) cq)
  refine hz_aload_n (pc := 18) C dX10_way_18 rfl ?_
  refine hz_getP (pc := 19) C (v := 4) ffX10_19 dX10_way_19 hT1 hA1 rfl (hP1_1 q) (by decide) ?_
  refine hz_aload_n (pc := 22) C dX10_way_22 rfl ?_
  refine hz_getP (pc := 23) C (v := 12) ffX10_26 dX10_way_23 hT1 hA1 rfl (hP1_4 q) (by decide) ?_
  refine hz_callVxv (pc := 26) C (as := [.ref 12]) (st := []) (ex_findT V U) fyX7_findTargets fvX10_190 rfl dX10_way_26 hT4 rfl rfl hA4 rfl rfl (Nat.le_of_ble_eq_true rfl) (by decide) (hz_cap0 _) (fun J1 h1 => ?_)
  have V1 : HV 12 q J1 u := V.cong U (fun a ha1 ha2 => h1.1 a (by omega) (by omega)) (fun _ => rfl)
  refine hz_aload_n (pc := 29) C dX10_way_29 rfl ?_
  refine hz_getP (pc := 30) C (v := 4) ffX10_19 dX10_way_30 hT1 hA1 rfl (hP1_1 q) (by decide) ?_
  refine hz_aload_n (pc := 33) C dX10_way_33 rfl ?_
  refine hz_getP (pc := 34) C (v := 12) ffX10_26 dX10_way_34 hT1 hA1 rfl (hP1_4 q) (by decide) ?_
  refine hz_callVxv (pc := 37) C (as := [.ref 12]) (st := []) (ex_legs U h1.2.1 h1.2.2 V1) fyX7_measureLegs fvX10_193 rfl dX10_way_37 hT4 rfl rfl hA4 rfl rfl (Nat.le_of_ble_eq_true rfl) (by decide) (hz_cap0 _) (fun J2 h2 => ?_)
  have zzk7 : J2 4 7 = nI (mm u) := (congrFun (h2.1 4 (by omega) (by omega) (by omega)) 7).trans h1.2.1
  have zzk10 : ∀ a i, (a = 6 ∨ a < mm u) → i < mm u → J2 10 (a * 6 + i) = nI (di u a i) := fun a i ha hi => by
    rcases ha with ha | ha
    · subst ha; exact (h2.2.2 i hi).1
    · exact (h2.2.2 i hi).2 a ha
  have kC : kpC I J2 := ⟨fun b hb => (h2.1 b (by omega) (by omega) (by omega)).trans (h1.1 b (by omega) (by omega)), fun i _ => by rw [h2.1 11 (by omega) (by omega) (by omega), h1.1 11 (by omega) (by omega)]⟩
  refine hz_aload_n (pc := 40) C dX10_way_40 rfl ?_
  refine hz_getP (pc := 41) C (v := 4) ffX10_19 dX10_way_41 hT1 hA1 rfl (hP1_1 q) (by decide) ?_
  refine hz_callVs (pc := 44) C (as := []) (st := []) (ev_joined U zzk7 zzk10 (hA_i U A)) (hz_new0 _ _) fyX7_allJoined fvX10_196 rfl dX10_way_44 hT4 rfl rfl hA4 rfl rfl (Nat.le_of_ble_eq_true rfl) (by decide) (hz_cap0 _) ?_
  refine hz_if_ne (pc := 47) C (tgt := 52) dX10_way_47 rfl (fun _ => ?_) (fun cq => absurd cq (by decide +kernel))
  refine hz_aload_n (pc := 52) C dX10_way_52 rfl ?_
  refine hz_getP (pc := 53) C (v := 4) ffX10_19 dX10_way_53 hT1 hA1 rfl (hP1_1 q) (by decide) ?_
  refine hz_callVxv (pc := 56) C (as := []) (st := []) (ex_fillRest U zzk7 zzk10 F (fun i hi => (kC.2 i hi).trans (h11 i hi))) fyX7_fillRest fvX10_200 rfl dX10_way_56 hT4 rfl rfl hA4 rfl rfl (Nat.le_of_ble_eq_true rfl) (by decide) (hz_cap0 _) (fun J3 h3 => ?_)
  have zzm7 : J3 4 7 = nI (mm u) := (congrFun (h3.1 4 (by omega)) 7).trans zzk7
  have zzm10 : ∀ a i, (a = 6 ∨ a < mm u) → i < mm u → J3 10 (a * 6 + i) = nI (di u a i) := fun a i ha hi => (congrFun (h3.1 10 (by omega)) _).trans (zzk10 a i ha hi)
  have zzm9 : ∀ i, i < mm u → J3 9 i = nI (tgx u i) := fun i hi => (congrFun (h3.1 9 (by omega)) _).trans ((congrFun (h2.1 9 (by omega) (by omega) (by omega)) _).trans (h1.2.2 i hi))
  have mC : kpC I J3 := kC.tr ⟨fun b hb => h3.1 b (by omega), fun i hi => h3.2.2 i hi⟩
  refine hz_iload_n (pc := 59) C dX10_way_59 rfl ?_
  refine hz_iconst (pc := 60) C (v := (-1 : Int32)) dX10_way_60 (by decide +kernel) ?_
  refine hz_ic_ne (pc := 61) C (tgt := 72) dX10_way_61 rfl (fun _ => ?_) (fun cq => absurd cq (nm1 hp31))
  refine hz_iload_n (pc := 72) C dX10_way_72 rfl ?_
  refine hz_aload_n (pc := 73) C dX10_way_73 rfl ?_
  refine hz_getP (pc := 74) C (v := 4) ffX10_19 dX10_way_74 hT1 hA1 rfl (hP1_1 q) (by decide) ?_
  refine hz_getI (pc := 77) C (v := nI (mm u)) ffX10_206 dX10_way_77 hT4 hA4 rfl zzm7 ?_
  refine hz_ic_lt (pc := 80) C (tgt := 88) dX10_way_80 rfl (fun cq => absurd cq (nI_nlt (by omega) (by omega))) (fun _ => ?_)
  refine hz_bipush (pc := 83) C (v := (-5 : Int32)) dX10_way_83 (by decide +kernel) ?_
  refine hz_goto (pc := 85) C (tgt := 96) dX10_way_85 rfl ?_
  exact hz_iretx C Z rfl dX10_way_96 ⟨q, J3, rfl, rfl, h2.2.1.cong U (fun b hb1 hb2 => h3.1 b (by omega)) (fun _ => rfl), mC, kpQ.rf q⟩
set_option maxHeartbeats 4000000 in
set_option maxRecDepth 100000 in
theorem ex_wayNone {I : Nat → Nat → Int32} {L : Nat → Nat → Int64} {q : Nat → Nat → Nat} {u : Nat → Nat} (V : HV 12 q I u) (U : WU u) {zzi0 : Nat} (hi0 : zzi0 < mm u) (hB : 1000 ≤ di u 6 zzi0) {v : Int32} (hv : ¬ v < (-1 : Int32)) : hz_Ex mX10_way TT NN (I, L, PP q) [.ref 1, .int v] (hz_PQ L (some (.int (-1 : Int32))) (fun q' J => HV 12 q' J (u) ∧ kpC I J ∧ kpQ q q')) := by
  have hm := mm_le U
  refine hz_Ex.intro (ls := [some (.ref 1), some (.int v)]) (by decide +kernel) rfl (Nat.le_of_ble_eq_true rfl) (fun X C Z => ?_)
  refine hz_iload_n (pc := 0) C dX10_way_0 rfl ?_
  refine hz_iconst (pc := 1) C (v := (-1 : Int32)) dX10_way_1 (by decide +kernel) ?_
  refine hz_ic_ge (pc := 2) C (tgt := 18) dX10_way_2 rfl (fun _ => ?_) (fun cq => absurd (Int32.not_lt.mp hv) cq)
  refine hz_aload_n (pc := 18) C dX10_way_18 rfl ?_
  refine hz_getP (pc := 19) C (v := 4) ffX10_19 dX10_way_19 hT1 hA1 rfl (hP1_1 q) (by decide) ?_
  refine hz_aload_n (pc := 22) C dX10_way_22 rfl ?_
  refine hz_getP (pc := 23) C (v := 12) ffX10_26 dX10_way_23 hT1 hA1 rfl (hP1_4 q) (by decide) ?_
  refine hz_callVxv (pc := 26) C (as := [.ref 12]) (st := []) (ex_findT V U) fyX7_findTargets fvX10_190 rfl dX10_way_26 hT4 rfl rfl hA4 rfl rfl (Nat.le_of_ble_eq_true rfl) (by decide) (hz_cap0 _) (fun J1 h1 => ?_)
  have V1 : HV 12 q J1 u := V.cong U (fun a ha1 ha2 => h1.1 a (by omega) (by omega)) (fun _ => rfl)
  refine hz_aload_n (pc := 29) C dX10_way_29 rfl ?_
  refine hz_getP (pc := 30) C (v := 4) ffX10_19 dX10_way_30 hT1 hA1 rfl (hP1_1 q) (by decide) ?_
  refine hz_aload_n (pc := 33) C dX10_way_33 rfl ?_
  refine hz_getP (pc := 34) C (v := 12) ffX10_26 dX10_way_34 hT1 hA1 rfl (hP1_4 q) (by decide) ?_
  refine hz_callVxv (pc := 37) C (as := [.ref 12]) (st := []) (ex_legs U h1.2.1 h1.2.2 V1) fyX7_measureLegs fvX10_193 rfl dX10_way_37 hT4 rfl rfl hA4 rfl rfl (Nat.le_of_ble_eq_true rfl) (by decide) (hz_cap0 _) (fun J2 h2 => ?_)
  have zzk7 : J2 4 7 = nI (mm u) := (congrFun (h2.1 4 (by omega) (by omega) (by omega)) 7).trans h1.2.1
  have zzk10 : ∀ a i, (a = 6 ∨ a < mm u) → i < mm u → J2 10 (a * 6 + i) = nI (di u a i) := fun a i ha hi => by
    rcases ha with ha | ha
    · subst ha; exact (h2.2.2 i hi).1
    · exact (h2.2.2 i hi).2 a ha
  have kC : kpC I J2 := ⟨fun b hb => (h2.1 b (by omega) (by omega) (by omega)).trans (h1.1 b (by omega) (by omega)), fun i _ => by rw [h2.1 11 (by omega) (by omega) (by omega), h1.1 11 (by omega) (by omega)]⟩
  refine hz_aload_n (pc := 40) C dX10_way_40 rfl ?_
  refine hz_getP (pc := 41) C (v := 4) ffX10_19 dX10_way_41 hT1 hA1 rfl (hP1_1 q) (by decide) ?_
  refine hz_callVs (pc := 44) C (as := []) (st := []) (ev_joinedN U zzk7 zzk10 hi0 hB) (hz_new0 _ _) fyX7_allJoined fvX10_196 rfl dX10_way_44 hT4 rfl rfl hA4 rfl rfl (Nat.le_of_ble_eq_true rfl) (by decide) (hz_cap0 _) ?_
  refine hz_if_ne (pc := 47) C (tgt := 52) dX10_way_47 rfl (fun cq => absurd (by decide +kernel) cq) (fun _ => ?_)
  refine hz_iconst (pc := 50) C (v := (-1 : Int32)) dX10_way_50 (by decide +kernel) ?_
  exact hz_iretx C Z rfl dX10_way_51 ⟨q, J2, rfl, rfl, h2.2.1, kC, kpQ.rf q⟩
set_option maxHeartbeats 4000000 in
set_option maxRecDepth 100000 in
theorem ev_wayX {I : Nat → Nat → Int32} {L : Nat → Nat → Int64} {q : Nat → Nat → Nat} {u : Nat → Nat} (V : HV 12 q I u) (U : WU u) {v : Int32} (hv : v < (-1 : Int32)) : hz_Ev mX10_way TT NN (I, L, PP q) [.ref 1, .int v] 0 0 (some (.int (-10 : Int32))) TT NN (hz_up I 1 8 ((I 1 8) + (nI 1)), L, PP q) := by
  refine hz_Ev.intro (ls := [some (.ref 1), some (.int v)]) (by decide +kernel) rfl (Nat.le_of_ble_eq_true rfl) (fun X C Z _ => ?_)
  refine hz_iload_n (pc := 0) C dX10_way_0 rfl ?_
  refine hz_iconst (pc := 1) C (v := (-1 : Int32)) dX10_way_1 (by decide +kernel) ?_
  refine hz_ic_ge (pc := 2) C (tgt := 18) dX10_way_2 rfl (fun cq => absurd hv (Int32.not_lt.mpr cq)) (fun _ => ?_)
  refine hz_aload_n (pc := 5) C dX10_way_5 rfl ?_
  refine hz_dup (pc := 6) C dX10_way_6 rfl ?_
  refine hz_getI (pc := 7) C (v := I 1 8) ffX10_63 dX10_way_7 hT1 hA1 rfl rfl ?_
  refine hz_iconst (pc := 10) C (v := nI 1) dX10_way_10 (by decide +kernel) ?_
  refine hz_iadd (pc := 11) C dX10_way_11 rfl ?_
  refine hz_putI (pc := 12) C (M' := (hz_up I 1 8 ((I 1 8) + (nI 1)), L, PP q)) ffX10_63 dX10_way_12 hT1 hA1 rfl rfl ⟨rfl, rfl⟩ rfl ?_
  refine hz_bipush (pc := 15) C (v := (-10 : Int32)) dX10_way_15 (by decide +kernel) ?_
  exact hz_iret C Z rfl dX10_way_17 rfl rfl
set_option maxHeartbeats 4000000 in
set_option maxRecDepth 100000 in
theorem ev_wayXM {I : Nat → Nat → Int32} {L : Nat → Nat → Int64} {q : Nat → Nat → Nat} {u : Nat → Nat} (V : MV I u) (U : WU u) {v : Int32} (hv : v < (-1 : Int32)) : hz_Ev mX11_way TT NN (I, L, PP q) [.ref 146, .int v] 0 0 (some (.int (-10 : Int32))) TT NN (hz_up I 151 0 ((I 151 0) + (nI 1)), L, PP q) := by
  refine hz_Ev.intro (ls := [some (.ref 146), some (.int v), none]) (by decide +kernel) rfl (Nat.le_of_ble_eq_true rfl) (fun X C Z _ => ?_)
  refine hz_iload_n (pc := 0) C dX11_way_0 rfl ?_
  refine hz_iconst (pc := 1) C (v := (-1 : Int32)) dX11_way_1 (by decide +kernel) ?_
  refine hz_ic_ge (pc := 2) C (tgt := 18) dX11_way_2 rfl (fun cq => absurd hv (Int32.not_lt.mpr cq)) (fun _ => ?_)
  refine hz_aload_n (pc := 5) C dX11_way_5 rfl ?_
  refine hz_getP (pc := 6) C (v := 151) ffX11_23 dX11_way_6 hT146 hA146 rfl (hP146_4 q) (by decide) ?_
  refine hz_iconst (pc := 9) C (v := nI 0) dX11_way_9 (by decide +kernel) ?_
  refine hz_dup2 (pc := 10) C dX11_way_10 rfl rfl ?_
  refine hz_iald (pc := 11) C (v := I 151 0) (j := 0) dX11_way_11 hT151 hA151 rfl (by decide) (by decide) rfl ?_
  refine hz_iconst (pc := 12) C (v := nI 1) dX11_way_12 (by decide +kernel) ?_
  refine hz_iadd (pc := 13) C dX11_way_13 rfl ?_
  refine hz_iast (pc := 14) C (v := (I 151 0) + (nI 1)) (j := 0) (M' := (hz_up I 151 0 ((I 151 0) + (nI 1)), L, PP q)) dX11_way_14 hT151 hA151 rfl (by decide) (by decide) rfl rfl ?_
  refine hz_bipush (pc := 15) C (v := (-10 : Int32)) dX11_way_15 (by decide +kernel) ?_
  exact hz_iret C Z rfl dX11_way_17 rfl rfl

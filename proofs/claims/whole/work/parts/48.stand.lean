theorem bt_i (d k : Nat) : bt d k = true ↔ d / 2 ^ k % 2 = 1 := by unfold bt; exact decide_eq_true_iff
theorem bt_bsum {f : Nat → Bool} : ∀ {n o : Nat}, o < n → bt (bsum f n) o = f o := by
  intro n
  induction n with
  | zero => intro o h; omega
  | succ n ih =>
    intro o h
    have hl := bsum_lt f n
    refine Bool.eq_iff_iff.mpr ((bt_i _ _).trans ?_)
    by_cases hf : f n = true
    · rw [bsum_t hf]
      by_cases ho : o = n
      · subst ho
        rw [Nat.add_div_right _ (Nat.two_pow_pos o), Nat.div_eq_of_lt hl]
        exact ⟨fun _ => hf, fun _ => rfl⟩
      · have h2 : 2 ^ n = (2 * 2 ^ (n - o - 1)) * 2 ^ o := by
          rw [Nat.mul_comm 2, ← Nat.pow_succ, ← Nat.pow_add, show (n - o - 1).succ + o = n by omega]
        rw [h2, Nat.add_mul_div_right _ _ (Nat.two_pow_pos o), Nat.add_mul_mod_self_left, ← bt_i, ih (by omega)]
    · rw [bsum_f hf]
      by_cases ho : o = n
      · subst ho
        rw [Nat.div_eq_of_lt hl]
        exact ⟨fun h3 => absurd h3 (by decide), fun h3 => absurd h3 hf⟩
      · rw [← bt_i, ih (by omega)]
theorem bt_lt {d n k : Nat} (hd : d < 2 ^ n) (h : bt d k = true) : k < n := Nat.lt_of_not_le fun z => by
  unfold bt at h
  rw [Nat.div_eq_of_lt (Nat.lt_of_lt_of_le hd (Nat.pow_le_pow_right (by decide) z))] at h
  exact absurd h (by decide)
theorem bsum_cong {f g : Nat → Bool} : ∀ {n : Nat}, (∀ o, o < n → f o = g o) → bsum f n = bsum g n := by
  intro n
  induction n with
  | zero => intro _; rfl
  | succ n ih => intro h; simp only [bsum]; rw [ih (fun o ho => h o (by omega)), h n (by omega)]
theorem and_b {d n : Nat} (hn : n ≤ 6) (hd : d < 2 ^ n) (f : Nat → Bool) : nI d &&& nI (bsum f n) = nI (bsum (fun o => bt d o && f o) n) := by
  have h : ∀ n, n < 7 → ∀ d, d < 2 ^ n → ∀ e, e < 2 ^ n → nI d &&& nI e = nI (bsum (fun o => bt d o && bt e o) n) := by decide +kernel
  rw [h n (by omega) d hd _ (bsum_lt f n)]
  exact congrArg nI (bsum_cong fun o ho => by rw [bt_bsum ho])
/-- of the alarms d, those that come into room r as k does -/
def pa (u : Nat → Nat) (d r k : Nat) : Nat := bsum (fun o => bt d o && sm u r k o) (u 64)
def gk (u : Nat → Nat) (d r k : Nat) : Nat := if bt d k = true then csum (bt (pa u d r k)) 6 else 0
def mxf (f : Nat → Nat) : Nat → Nat
  | 0 => 0
  | n + 1 => max (mxf f n) (f n)
theorem mxf_le {f : Nat → Nat} {b : Nat} (h : ∀ k, f k ≤ b) : ∀ n, mxf f n ≤ b := by
  intro n
  induction n with
  | zero => exact Nat.zero_le _
  | succ n ih => exact Nat.max_le.mpr ⟨ih, h n⟩
theorem mxf_hi {f : Nat → Nat} {m : Nat} (h : ∀ k, m ≤ k → f k = 0) : ∀ n, mxf f (m + n) = mxf f m := by
  intro n
  induction n with
  | zero => rfl
  | succ n ih =>
    show max (mxf f (m + n)) (f (m + n)) = _
    rw [h (m + n) (by omega), ih]; omega
theorem gk_le (u : Nat → Nat) (d r k : Nat) : gk u d r k ≤ 6 := by
  unfold gk
  split
  · exact csum_le _ 6
  · omega
theorem mx_n {a b : Nat} (ha : a < 2 ^ 31) (hb : b < 2 ^ 31) : (if nI a < nI b then nI b else nI a) = nI (max a b) := by
  by_cases h : a < b
  · rw [if_pos (nI_lt h hb), Nat.max_eq_right (by omega)]
  · rw [if_neg (nI_nlt (by omega) ha), Nat.max_eq_left (by omega)]
theorem pw64 {u : Nat → Nat} (U : WU u) {d : Nat} (hd : d < 2 ^ u 64) : d < 64 := Nat.lt_of_lt_of_le hd (Nat.pow_le_pow_right (n := 2) (i := u 64) (j := 6) (by decide) (wu_al U))
theorem pa_lt {u : Nat → Nat} (U : WU u) (d r k : Nat) : pa u d r k < 64 := pw64 U (bsum_lt _ _)
/-- the first room with the least -/
def stn (g : Nat → Nat) : Nat → Nat × Nat
  | 0 => (0, 99)
  | n + 1 => if g n < (stn g n).2 then (n, g n) else stn g n
theorem stn_1 {g : Nat → Nat} (h : g 0 ≤ 6) : stn g 1 = (0, g 0) := if_pos (show g 0 < 99 by omega)
theorem stn_le {g : Nat → Nat} : ∀ n, (stn g n).2 ≤ 99 := by
  intro n
  induction n with
  | zero => exact Nat.le_refl _
  | succ n ih =>
    simp only [stn]
    split
    · show g n ≤ 99; omega
    · exact ih
def gg (u : Nat → Nat) (d r : Nat) : Nat := mxf (gk u d r) 6
theorem gg_le (u : Nat → Nat) (d r : Nat) : gg u d r ≤ 6 := mxf_le (gk_le u d r) 6
theorem gg_n {u : Nat → Nat} (U : WU u) {d : Nat} (hd : d < 2 ^ u 64) (r : Nat) : mxf (gk u d r) (u 64) = gg u d r := by
  have h := mxf_hi (f := gk u d r) (m := u 64) (fun k hk => by
    unfold gk
    rw [if_neg (fun z => absurd (bt_lt hd z) (by omega))]) (6 - u 64)
  rw [show u 64 + (6 - u 64) = 6 by have := wu_al U; omega] at h
  exact h.symm
theorem k58.c {I J : Nat → Nat → Int32} (h : k58 I J) : kpC I J := ⟨fun a ha => h a (by omega) (by omega) (by omega) (by omega), fun i _ => by rw [h 11 (by omega) (by omega) (by omega) (by omega)]⟩
set_option maxHeartbeats 4000000 in
set_option maxRecDepth 100000 in
theorem lp_gg {X : hz_X} (C : hz_C X mX7_greatestGroup) {I J : Nat → Nat → Int32} {L : Nat → Nat → Int64} {q : Nat → Nat → Nat} {u : Nat → Nat} (U : WU u) (hJ : lOA q I u 8 J) {d : Nat} (hd : d < 2 ^ u 64) {r : Nat} (hr : r < 8) (kk : hz_G X TT NN (J, L, PP q) 0 0 49 [some (.ref 4), some (.int (nI d)), some (.int (nI r)), some (.int (nI (mxf (gk u d r) 6))), some (.int (nI 6))] []) : ∀ (n k : Nat) , k + n = 6 → hz_G X TT NN (J, L, PP q) 0 0 5 [some (.ref 4), some (.int (nI d)), some (.int (nI r)), some (.int (nI (mxf (gk u d r) k))), some (.int (nI k))] [] := by
  intro n
  induction n with
  | zero =>
    intro k  hi 
    obtain rfl : 6 = k := by omega
    refine hz_iload (pc := 5) C dX7_greatestGroup_5 rfl ?_
    refine hz_bipush (pc := 7) C (v := nI 6) dX7_greatestGroup_7 (by decide +kernel) ?_
    refine hz_ic_ge (pc := 9) C (tgt := 49) dX7_greatestGroup_9 rfl (fun _ => ?_) (fun cq => absurd (nI_le (by omega) (by omega)) cq)
    exact kk
  | succ n ih =>
    intro k  hi 
    have hal := wu_al U
    refine hz_iload (pc := 5) C dX7_greatestGroup_5 rfl ?_
    refine hz_bipush (pc := 7) C (v := nI 6) dX7_greatestGroup_7 (by decide +kernel) ?_
    refine hz_ic_ge (pc := 9) C (tgt := 49) dX7_greatestGroup_9 rfl (fun cq => absurd cq (nI_ge (by omega) (by omega))) (fun _ => ?_)
    refine hz_iload_n (pc := 12) C dX7_greatestGroup_12 rfl ?_
    refine hz_iload (pc := 13) C dX7_greatestGroup_13 rfl ?_
    refine hz_callSNs (pc := 15) C (as := [.int (nI d), .int (nI k)]) (st := []) (ev_hasN _ (pw64 U hd) (by omega)) (hz_new0 _ _) fyX10_has fsX7_56 rfl dX7_greatestGroup_15 rfl rfl (Nat.le_of_ble_eq_true rfl) (by decide) (hz_cap0 _) ?_
    refine hz_ifb_eq (pc := 18) C (tgt := 43) dX7_greatestGroup_18 rfl (fun zzc1 => ?_) (fun zzc1 => ?_)
    · refine hz_iinc (pc := 43) C (v := nI (k + 1)) (ls' := [some (.ref 4), some (.int (nI d)), some (.int (nI r)), some (.int (nI (mxf (gk u d r) k))), some (.int (nI (k + 1)))]) dX7_greatestGroup_43 rfl (nI_add _ 1) rfl ?_
      refine hz_goto (pc := 46) C (tgt := 5) dX7_greatestGroup_46 rfl ?_
      have h9 := ih (k + 1) (by omega)
      rw [show mxf (gk u d r) (k + 1) = mxf (gk u d r) k by show max _ (gk u d r k) = _; rw [show gk u d r k = 0 from if_neg zzc1]; omega] at h9
      exact h9
    · refine hz_iload_n (pc := 21) C dX7_greatestGroup_21 rfl ?_
      refine hz_iload_n (pc := 22) C dX7_greatestGroup_22 rfl ?_
      refine hz_aload_n (pc := 23) C dX7_greatestGroup_23 rfl ?_
      refine hz_getP (pc := 24) C (v := 5) ffX7_9 dX7_greatestGroup_24 hT4 hA4 rfl (hP4_0 q) (by decide) ?_
      refine hz_iload_n (pc := 27) C dX7_greatestGroup_27 rfl ?_
      refine hz_bipush (pc := 28) C (v := nI 6) dX7_greatestGroup_28 (by decide +kernel) ?_
      refine hz_imul (pc := 30) C (v := nI (r * 6)) dX7_greatestGroup_30 (pk_mul _ _) ?_
      refine hz_iload (pc := 31) C dX7_greatestGroup_31 rfl ?_
      refine hz_iadd (pc := 33) C (v := nI ((r * 6) + k)) dX7_greatestGroup_33 (nI_add _ _) ?_
      refine hz_iald (pc := 34) C (v := nI (al u r k)) (j := (r * 6) + k) dX7_greatestGroup_34 hT5 hA5 rfl (by omega) (by decide) (hJ.2.2 r hr k (bt_lt hd zzc1)) ?_
      refine hz_iand (pc := 35) C (v := nI (pa u d r k)) dX7_greatestGroup_35 (and_b (wu_al U) hd _) ?_
      refine hz_callSs (pc := 36) C (as := [.int (nI (pa u d r k))]) (st := [.int (nI (mxf (gk u d r) k))]) (by have h9 := ev_bitCount (T := TT) (n := NN) (J, L, PP q) (nI (pa u d r k)); rw [bc_6 (pa_lt U d r k)] at h9; exact h9) (hz_new0 _ _) fyJ6_bitCount_0f7a4 fsX7_47 rfl dX7_greatestGroup_36 rfl rfl (Nat.le_of_ble_eq_true rfl) (by decide) (hz_cap0 _) ?_
      refine hz_mmax (pc := 39) C fsX7_60 rfl dX7_greatestGroup_39 (Nat.le_of_ble_eq_true rfl) (by decide) (And.intro (Nat.zero_le _) (Nat.zero_le _)) ?_
      refine hz_istore_n (pc := 42) C (ls' := [some (.ref 4), some (.int (nI d)), some (.int (nI r)), some (.int (if nI (mxf (gk u d r) k) < nI (csum (bt (pa u d r k)) 6) then nI (csum (bt (pa u d r k)) 6) else nI (mxf (gk u d r) k))), some (.int (nI k))]) dX7_greatestGroup_42 (Nat.le_of_ble_eq_true rfl) rfl ?_
      refine hz_iinc (pc := 43) C (v := nI (k + 1)) (ls' := [some (.ref 4), some (.int (nI d)), some (.int (nI r)), some (.int (if nI (mxf (gk u d r) k) < nI (csum (bt (pa u d r k)) 6) then nI (csum (bt (pa u d r k)) 6) else nI (mxf (gk u d r) k))), some (.int (nI (k + 1)))]) dX7_greatestGroup_43 rfl (nI_add _ 1) rfl ?_
      refine hz_goto (pc := 46) C (tgt := 5) dX7_greatestGroup_46 rfl ?_
      have h9 := ih (k + 1) (by omega)
      have hm := mxf_le (gk_le u d r) k
      have hc := csum_le (bt (pa u d r k)) 6
      rw [mx_n (by omega) (by omega)]
      rw [show mxf (gk u d r) (k + 1) = max (mxf (gk u d r) k) (csum (bt (pa u d r k)) 6) by show max _ (gk u d r k) = _; rw [show gk u d r k = csum (bt (pa u d r k)) 6 from if_pos zzc1]] at h9
      exact h9
set_option maxHeartbeats 4000000 in
set_option maxRecDepth 100000 in
theorem ev_ggroup {I J : Nat → Nat → Int32} {L : Nat → Nat → Int64} {q : Nat → Nat → Nat} {u : Nat → Nat} (U : WU u) (hJ : lOA q I u 8 J) {d : Nat} (hd : d < 2 ^ u 64) {r : Nat} (hr : r < 8) : hz_Ev mX7_greatestGroup TT NN (J, L, PP q) [.ref 4, .int (nI d), .int (nI r)] 0 0 (some (.int (nI (gg u d r)))) TT NN (J, L, PP q) := by
  refine hz_Ev.intro (ls := [some (.ref 4), some (.int (nI d)), some (.int (nI r)), none, none]) (by decide +kernel) rfl (Nat.le_of_ble_eq_true rfl) (fun X C Z _ => ?_)
  refine hz_iconst (pc := 0) C (v := nI 0) dX7_greatestGroup_0 (by decide +kernel) ?_
  refine hz_istore_n (pc := 1) C (ls' := [some (.ref 4), some (.int (nI d)), some (.int (nI r)), some (.int (nI 0)), none]) dX7_greatestGroup_1 (Nat.le_of_ble_eq_true rfl) rfl ?_
  refine hz_iconst (pc := 2) C (v := nI 0) dX7_greatestGroup_2 (by decide +kernel) ?_
  refine hz_istore (pc := 3) C (ls' := [some (.ref 4), some (.int (nI d)), some (.int (nI r)), some (.int (nI 0)), some (.int (nI 0))]) dX7_greatestGroup_3 (Nat.le_of_ble_eq_true rfl) rfl ?_
  refine lp_gg C U hJ hd hr ?_ 6 0 (by omega)
  refine hz_iload_n (pc := 49) C dX7_greatestGroup_49 rfl ?_
  exact hz_iret C Z rfl dX7_greatestGroup_50 rfl rfl
set_option maxHeartbeats 4000000 in
set_option maxRecDepth 100000 in
theorem lp_rsg {X : hz_X} (C : hz_C X mX7_roomOfSmallestGroups) {I J : Nat → Nat → Int32} {L : Nat → Nat → Int64} {q : Nat → Nat → Nat} {u : Nat → Nat} (U : WU u) (hJ : lOA q I u 8 J) {d : Nat} (hd : d < 2 ^ u 64) (kk : ∀ zzw5, hz_G X TT NN (J, L, PP q) 0 0 46 [some (.ref 4), some (.int (nI d)), some (.int (nI ((stn (gg u d) 8).1))), some (.int (nI ((stn (gg u d) 8).2))), some (.int (nI 8)), zzw5] []) : ∀ (n r : Nat) (zzw5 : Option Value), r + n = 8 → 1 ≤ r → hz_G X TT NN (J, L, PP q) 0 0 12 [some (.ref 4), some (.int (nI d)), some (.int (nI ((stn (gg u d) r).1))), some (.int (nI ((stn (gg u d) r).2))), some (.int (nI r)), zzw5] [] := by
  intro n
  induction n with
  | zero =>
    intro r zzw5 hi hr1
    obtain rfl : 8 = r := by omega
    refine hz_iload (pc := 12) C dX7_roomOfSmallestGroups_12 rfl ?_
    refine hz_bipush (pc := 14) C (v := nI 8) dX7_roomOfSmallestGroups_14 (by decide +kernel) ?_
    refine hz_ic_ge (pc := 16) C (tgt := 46) dX7_roomOfSmallestGroups_16 rfl (fun _ => ?_) (fun cq => absurd (nI_le (by omega) (by omega)) cq)
    exact kk zzw5
  | succ n ih =>
    intro r zzw5 hi hr1
    have hgg := gg_le u d r
    have hsl := stn_le (g := gg u d) r
    refine hz_iload (pc := 12) C dX7_roomOfSmallestGroups_12 rfl ?_
    refine hz_bipush (pc := 14) C (v := nI 8) dX7_roomOfSmallestGroups_14 (by decide +kernel) ?_
    refine hz_ic_ge (pc := 16) C (tgt := 46) dX7_roomOfSmallestGroups_16 rfl (fun cq => absurd cq (nI_ge (by omega) (by omega))) (fun _ => ?_)
    refine hz_aload_n (pc := 19) C dX7_roomOfSmallestGroups_19 rfl ?_
    refine hz_iload_n (pc := 20) C dX7_roomOfSmallestGroups_20 rfl ?_
    refine hz_iload (pc := 21) C dX7_roomOfSmallestGroups_21 rfl ?_
    refine hz_callVs (pc := 23) C (as := [.int (nI d), .int (nI r)]) (st := []) (ev_ggroup U hJ hd (r := r) (by omega)) (hz_new0 _ _) fyX7_greatestGroup fvX7_65 rfl dX7_roomOfSmallestGroups_23 hT4 rfl rfl hA4 rfl rfl (Nat.le_of_ble_eq_true rfl) (by decide) (hz_cap0 _) ?_
    refine hz_istore (pc := 26) C (ls' := [some (.ref 4), some (.int (nI d)), some (.int (nI ((stn (gg u d) r).1))), some (.int (nI ((stn (gg u d) r).2))), some (.int (nI r)), some (.int (nI (gg u d r)))]) dX7_roomOfSmallestGroups_26 (Nat.le_of_ble_eq_true rfl) rfl ?_
    refine hz_iload (pc := 28) C dX7_roomOfSmallestGroups_28 rfl ?_
    refine hz_iload_n (pc := 30) C dX7_roomOfSmallestGroups_30 rfl ?_
    refine hz_ic_ge (pc := 31) C (tgt := 40) dX7_roomOfSmallestGroups_31 rfl (fun zzc1 => ?_) (fun zzc1 => ?_)
    · refine hz_iinc (pc := 40) C (v := nI (r + 1)) (ls' := [some (.ref 4), some (.int (nI d)), some (.int (nI ((stn (gg u d) r).1))), some (.int (nI ((stn (gg u d) r).2))), some (.int (nI (r + 1))), some (.int (nI (gg u d r)))]) dX7_roomOfSmallestGroups_40 rfl (nI_add _ 1) rfl ?_
      refine hz_goto (pc := 43) C (tgt := 12) dX7_roomOfSmallestGroups_43 rfl ?_
      have h9 := ih (r + 1) (some (.int (nI (gg u d r)))) (by omega) (by omega)
      rw [show stn (gg u d) (r + 1) = stn (gg u d) r from if_neg (fun z => nI_ge z (by omega) zzc1)] at h9
      exact h9
    · refine hz_iload (pc := 34) C dX7_roomOfSmallestGroups_34 rfl ?_
      refine hz_istore_n (pc := 36) C (ls' := [some (.ref 4), some (.int (nI d)), some (.int (nI r)), some (.int (nI ((stn (gg u d) r).2))), some (.int (nI r)), some (.int (nI (gg u d r)))]) dX7_roomOfSmallestGroups_36 (Nat.le_of_ble_eq_true rfl) rfl ?_
      refine hz_iload (pc := 37) C dX7_roomOfSmallestGroups_37 rfl ?_
      refine hz_istore_n (pc := 39) C (ls' := [some (.ref 4), some (.int (nI d)), some (.int (nI r)), some (.int (nI (gg u d r))), some (.int (nI r)), some (.int (nI (gg u d r)))]) dX7_roomOfSmallestGroups_39 (Nat.le_of_ble_eq_true rfl) rfl ?_
      refine hz_iinc (pc := 40) C (v := nI (r + 1)) (ls' := [some (.ref 4), some (.int (nI d)), some (.int (nI r)), some (.int (nI (gg u d r))), some (.int (nI (r + 1))), some (.int (nI (gg u d r)))]) dX7_roomOfSmallestGroups_40 rfl (nI_add _ 1) rfl ?_
      refine hz_goto (pc := 43) C (tgt := 12) dX7_roomOfSmallestGroups_43 rfl ?_
      have h9 := ih (r + 1) (some (.int (nI (gg u d r)))) (by omega) (by omega)
      rw [show stn (gg u d) (r + 1) = (r, gg u d r) from if_pos (Nat.lt_of_not_le fun z => zzc1 (nI_le z (by omega)))] at h9
      exact h9
set_option maxHeartbeats 4000000 in
set_option maxRecDepth 100000 in
theorem ev_rsmall {I J : Nat → Nat → Int32} {L : Nat → Nat → Int64} {q : Nat → Nat → Nat} {u : Nat → Nat} (U : WU u) (hJ : lOA q I u 8 J) {d : Nat} (hd : d < 2 ^ u 64) : hz_Ev mX7_roomOfSmallestGroups TT NN (J, L, PP q) [.ref 4, .int (nI d)] 0 0 (some (.int (nI ((stn (gg u d) 8).1)))) TT NN (J, L, PP q) := by
  refine hz_Ev.intro (ls := [some (.ref 4), some (.int (nI d)), none, none, none, none]) (by decide +kernel) rfl (Nat.le_of_ble_eq_true rfl) (fun X C Z _ => ?_)
  refine hz_iconst (pc := 0) C (v := nI 0) dX7_roomOfSmallestGroups_0 (by decide +kernel) ?_
  refine hz_istore_n (pc := 1) C (ls' := [some (.ref 4), some (.int (nI d)), some (.int (nI 0)), none, none, none]) dX7_roomOfSmallestGroups_1 (Nat.le_of_ble_eq_true rfl) rfl ?_
  refine hz_aload_n (pc := 2) C dX7_roomOfSmallestGroups_2 rfl ?_
  refine hz_iload_n (pc := 3) C dX7_roomOfSmallestGroups_3 rfl ?_
  refine hz_iconst (pc := 4) C (v := nI 0) dX7_roomOfSmallestGroups_4 (by decide +kernel) ?_
  refine hz_callVs (pc := 5) C (as := [.int (nI d), .int (nI 0)]) (st := []) (ev_ggroup U hJ hd (r := 0) (by omega)) (hz_new0 _ _) fyX7_greatestGroup fvX7_65 rfl dX7_roomOfSmallestGroups_5 hT4 rfl rfl hA4 rfl rfl (Nat.le_of_ble_eq_true rfl) (by decide) (hz_cap0 _) ?_
  refine hz_istore_n (pc := 8) C (ls' := [some (.ref 4), some (.int (nI d)), some (.int (nI 0)), some (.int (nI (gg u d 0))), none, none]) dX7_roomOfSmallestGroups_8 (Nat.le_of_ble_eq_true rfl) rfl ?_
  refine hz_iconst (pc := 9) C (v := nI 1) dX7_roomOfSmallestGroups_9 (by decide +kernel) ?_
  refine hz_istore (pc := 10) C (ls' := [some (.ref 4), some (.int (nI d)), some (.int (nI 0)), some (.int (nI (gg u d 0))), some (.int (nI 1)), none]) dX7_roomOfSmallestGroups_10 (Nat.le_of_ble_eq_true rfl) rfl ?_
  have zze1 : stn (gg u d) 1 = (0, gg u d 0) := stn_1 (gg_le u d 0)
  refine Eq.mp (by rw [zze1]) (?_ : hz_G X TT NN (J, L, PP q) 0 0 12 [some (.ref 4), some (.int (nI d)), some (.int (nI ((stn (gg u d) 1).1))), some (.int (nI ((stn (gg u d) 1).2))), some (.int (nI 1)), none] [])
  refine lp_rsg C U hJ hd (fun zzw5 => ?_) 7 1 _ (by omega) (by omega)
  refine hz_iload_n (pc := 46) C dX7_roomOfSmallestGroups_46 rfl ?_
  exact hz_iret C Z rfl dX7_roomOfSmallestGroups_47 rfl rfl
set_option maxHeartbeats 4000000 in
set_option maxRecDepth 100000 in
theorem ex_stand {I : Nat → Nat → Int32} {L : Nat → Nat → Int64} {q : Nat → Nat → Nat} {u : Nat → Nat} (V : HV 12 q I u) (U : WU u) (h0 : ¬ bsum (fit u) (u 64) = 0) : hz_Ex mX10_stand TT NN (I, L, PP q) [.ref 1] (hz_PQ L (some (.int (nI ((stn (gg u (bsum (fit u) (u 64))) 8).1)))) (fun q' J => HV 12 q' J (u) ∧ kpC I J ∧ kpQ q q')) := by
  have hft := pw64 U (bsum_lt (fit u) (u 64))
  refine hz_Ex.intro (ls := [some (.ref 1), none]) (by decide +kernel) rfl (Nat.le_of_ble_eq_true rfl) (fun X C Z => ?_)
  refine hz_aload_n (pc := 0) C dX10_stand_0 rfl ?_
  refine hz_getP (pc := 1) C (v := 12) ffX10_26 dX10_stand_1 hT1 hA1 rfl (hP1_4 q) (by decide) ?_
  refine hz_callVs (pc := 4) C (as := []) (st := []) (ev_bitsFitting (L := L) V U) (hz_new0 _ _) fyX2_bitsFitting fvX10_225 rfl dX10_stand_4 hT12 rfl rfl hA12 rfl rfl (Nat.le_of_ble_eq_true rfl) (by decide) (hz_cap0 _) ?_
  refine hz_istore_n (pc := 7) C (ls' := [some (.ref 1), some (.int (nI (bsum (fit u) (u 64))))]) dX10_stand_7 (Nat.le_of_ble_eq_true rfl) rfl ?_
  refine hz_iload_n (pc := 8) C dX10_stand_8 rfl ?_
  refine hz_if_ne (pc := 9) C (tgt := 14) dX10_stand_9 rfl (fun _ => ?_) (fun cq => absurd cq (nI_ne0 (by omega) (by omega)))
  refine hz_aload_n (pc := 14) C dX10_stand_14 rfl ?_
  refine hz_getP (pc := 15) C (v := 4) ffX10_19 dX10_stand_15 hT1 hA1 rfl (hP1_1 q) (by decide) ?_
  refine hz_aload_n (pc := 18) C dX10_stand_18 rfl ?_
  refine hz_getP (pc := 19) C (v := 12) ffX10_26 dX10_stand_19 hT1 hA1 rfl (hP1_4 q) (by decide) ?_
  refine hz_callVxv (pc := 22) C (as := [.ref 12]) (st := []) (ex_learn (hv_msb V U _) U) fyX7_learnAlike fvX10_177 rfl dX10_stand_22 hT4 rfl rfl hA4 rfl rfl (Nat.le_of_ble_eq_true rfl) (by decide) (hz_cap0 _) (fun J1 h1 => ?_)
  refine hz_aload_n (pc := 25) C dX10_stand_25 rfl ?_
  refine hz_getP (pc := 26) C (v := 4) ffX10_19 dX10_stand_26 hT1 hA1 rfl (hP1_1 q) (by decide) ?_
  refine hz_iload_n (pc := 29) C dX10_stand_29 rfl ?_
  refine hz_callVs (pc := 30) C (as := [.int (nI (bsum (fit u) (u 64)))]) (st := []) (ev_rsmall U h1 (bsum_lt _ _)) (hz_new0 _ _) fyX7_roomOfSmallestGroups fvX10_228 rfl dX10_stand_30 hT4 rfl rfl hA4 rfl rfl (Nat.le_of_ble_eq_true rfl) (by decide) (hz_cap0 _) ?_
  exact hz_iretx C Z rfl dX10_stand_33 ⟨q, J1, rfl, rfl, h1.2.1, (kpC.msB _ u I).tr h1.1.c, kpQ.rf q⟩
set_option maxHeartbeats 4000000 in
set_option maxRecDepth 100000 in
theorem ex_stand0 {I : Nat → Nat → Int32} {L : Nat → Nat → Int64} {q : Nat → Nat → Nat} {u : Nat → Nat} (V : HV 12 q I u) (U : WU u) (h0 : bsum (fit u) (u 64) = 0) : hz_Ex mX10_stand TT NN (I, L, PP q) [.ref 1] (hz_PQ L (some (.int (-1 : Int32))) (fun q' J => HV 12 q' J (u) ∧ kpC I J ∧ kpQ q q')) := by
  have hft := pw64 U (bsum_lt (fit u) (u 64))
  refine hz_Ex.intro (ls := [some (.ref 1), none]) (by decide +kernel) rfl (Nat.le_of_ble_eq_true rfl) (fun X C Z => ?_)
  refine hz_aload_n (pc := 0) C dX10_stand_0 rfl ?_
  refine hz_getP (pc := 1) C (v := 12) ffX10_26 dX10_stand_1 hT1 hA1 rfl (hP1_4 q) (by decide) ?_
  refine hz_callVs (pc := 4) C (as := []) (st := []) (ev_bitsFitting (L := L) V U) (hz_new0 _ _) fyX2_bitsFitting fvX10_225 rfl dX10_stand_4 hT12 rfl rfl hA12 rfl rfl (Nat.le_of_ble_eq_true rfl) (by decide) (hz_cap0 _) ?_
  refine hz_istore_n (pc := 7) C (ls' := [some (.ref 1), some (.int (nI (bsum (fit u) (u 64))))]) dX10_stand_7 (Nat.le_of_ble_eq_true rfl) rfl ?_
  refine hz_iload_n (pc := 8) C dX10_stand_8 rfl ?_
  refine hz_if_ne (pc := 9) C (tgt := 14) dX10_stand_9 rfl (fun cq => absurd (show nI (bsum (fit u) (u 64)) = 0 by rw [show bsum (fit u) (u 64) = 0 by omega]; exact nI_0) cq) (fun _ => ?_)
  refine hz_iconst (pc := 12) C (v := (-1 : Int32)) dX10_stand_12 (by decide +kernel) ?_
  exact hz_iretx C Z rfl dX10_stand_13 ⟨q, _, rfl, rfl, hv_msb V U _, kpC.msB _ u I, kpQ.rf q⟩
set_option maxHeartbeats 4000000 in
set_option maxRecDepth 100000 in
theorem lp_sgM {X : hz_X} (C : hz_C X mX11_stand) {I : Nat → Nat → Int32} {L : Nat → Nat → Int64} {q : Nat → Nat → Nat} {u : Nat → Nat} (V : MF I u) (U : WU u) {d : Nat} (hd : d < 2 ^ u 64) {r : Nat} (hr : r < 8) {b f : Int32} (kk : ∀ zzw7, hz_G X TT NN (I, L, PP q) 0 0 95 [some (.ref 146), some (.int (nI d)), some (.int b), some (.int f), some (.int (nI r)), some (.int (nI (mxf (gk u d r) (u 64)))), some (.int (nI (u 64))), zzw7] []) : ∀ (n k : Nat) (zzw7 : Option Value), k + n = u 64 → hz_G X TT NN (I, L, PP q) 0 0 34 [some (.ref 146), some (.int (nI d)), some (.int b), some (.int f), some (.int (nI r)), some (.int (nI (mxf (gk u d r) k))), some (.int (nI k)), zzw7] [] := by
  intro n
  induction n with
  | zero =>
    intro k zzw7 hi 
    obtain rfl : u 64 = k := by omega
    have hal := wu_al U
    refine hz_iload (pc := 34) C dX11_stand_34 rfl ?_
    refine hz_aload_n (pc := 36) C dX11_stand_36 rfl ?_
    refine hz_getP (pc := 37) C (v := 147) ffX11_7 dX11_stand_37 hT146 hA146 rfl (hP146_0 q) (by decide) ?_
    refine hz_bipush (pc := 40) C (v := nI 64) dX11_stand_40 (by decide +kernel) ?_
    refine hz_iald (pc := 42) C (v := nI (u 64)) (j := 64) dX11_stand_42 hT147 hA147 rfl (by decide) (by decide) (mg V.1 (by omega) (by omega)) ?_
    refine hz_ic_ge (pc := 43) C (tgt := 95) dX11_stand_43 rfl (fun _ => ?_) (fun cq => absurd (nI_le (by omega) (by omega)) cq)
    exact kk zzw7
  | succ n ih =>
    intro k zzw7 hi 
    have hal := wu_al U
    have hm0 := mxf_le (gk_le u d r) k
    refine hz_iload (pc := 34) C dX11_stand_34 rfl ?_
    refine hz_aload_n (pc := 36) C dX11_stand_36 rfl ?_
    refine hz_getP (pc := 37) C (v := 147) ffX11_7 dX11_stand_37 hT146 hA146 rfl (hP146_0 q) (by decide) ?_
    refine hz_bipush (pc := 40) C (v := nI 64) dX11_stand_40 (by decide +kernel) ?_
    refine hz_iald (pc := 42) C (v := nI (u 64)) (j := 64) dX11_stand_42 hT147 hA147 rfl (by decide) (by decide) (mg V.1 (by omega) (by omega)) ?_
    refine hz_ic_ge (pc := 43) C (tgt := 95) dX11_stand_43 rfl (fun cq => absurd cq (nI_ge (by omega) (by omega))) (fun _ => ?_)
    refine hz_iload_n (pc := 46) C dX11_stand_46 rfl ?_
    refine hz_iload (pc := 47) C dX11_stand_47 rfl ?_
    refine hz_callSs (pc := 49) C (as := [.int (nI d), .int (nI k)]) (st := []) (ev_hasM _ (pw64 U hd) (by omega)) (hz_new0 _ _) fyX11_has fsX11_166 rfl dX11_stand_49 rfl rfl (Nat.le_of_ble_eq_true rfl) (by decide) (hz_cap0 _) ?_
    refine hz_ifb_eq (pc := 52) C (tgt := 70) dX11_stand_52 rfl (fun zzc1 => ?_) (fun zzc1 => ?_)
    · refine hz_iconst (pc := 70) C (v := nI 0) dX11_stand_70 (by decide +kernel) ?_
      refine hz_istore (pc := 71) C (ls' := [some (.ref 146), some (.int (nI d)), some (.int b), some (.int f), some (.int (nI r)), some (.int (nI (mxf (gk u d r) k))), some (.int (nI k)), some (.int (nI 0))]) dX11_stand_71 (Nat.le_of_ble_eq_true rfl) rfl ?_
      refine hz_iload (pc := 73) C dX11_stand_73 rfl ?_
      refine hz_iload (pc := 75) C dX11_stand_75 rfl ?_
      refine hz_ic_le (pc := 77) C (tgt := 85) dX11_stand_77 rfl (fun zzc2 => ?_) (fun zzc2 => ?_)
      · refine hz_iload (pc := 85) C dX11_stand_85 rfl ?_
        refine hz_istore (pc := 87) C (ls' := [some (.ref 146), some (.int (nI d)), some (.int b), some (.int f), some (.int (nI r)), some (.int (nI (mxf (gk u d r) k))), some (.int (nI k)), some (.int (nI 0))]) dX11_stand_87 (Nat.le_of_ble_eq_true rfl) rfl ?_
        refine hz_iinc (pc := 89) C (v := nI (k + 1)) (ls' := [some (.ref 146), some (.int (nI d)), some (.int b), some (.int f), some (.int (nI r)), some (.int (nI (mxf (gk u d r) k))), some (.int (nI (k + 1))), some (.int (nI 0))]) dX11_stand_89 rfl (nI_add _ 1) rfl ?_
        refine hz_goto (pc := 92) C (tgt := 34) dX11_stand_92 rfl ?_
        have h9 := ih (k + 1) (some (.int (nI 0))) (by omega)
        have hm := mxf_le (gk_le u d r) k
        have hc := csum_le (bt (pa u d r k)) 6
        have hle : 0 ≤ mxf (gk u d r) k := Nat.le_of_not_lt fun z => nI_ge z (by omega) zzc2
        rw [show mxf (gk u d r) (k + 1) = mxf (gk u d r) k by show max _ (gk u d r k) = _; rw [show gk u d r k = 0 from if_neg zzc1]; exact Nat.max_eq_left hle] at h9
        exact h9
      · refine hz_iload (pc := 80) C dX11_stand_80 rfl ?_
        refine hz_goto (pc := 82) C (tgt := 87) dX11_stand_82 rfl ?_
        refine hz_istore (pc := 87) C (ls' := [some (.ref 146), some (.int (nI d)), some (.int b), some (.int f), some (.int (nI r)), some (.int (nI 0)), some (.int (nI k)), some (.int (nI 0))]) dX11_stand_87 (Nat.le_of_ble_eq_true rfl) rfl ?_
        refine hz_iinc (pc := 89) C (v := nI (k + 1)) (ls' := [some (.ref 146), some (.int (nI d)), some (.int b), some (.int f), some (.int (nI r)), some (.int (nI 0)), some (.int (nI (k + 1))), some (.int (nI 0))]) dX11_stand_89 rfl (nI_add _ 1) rfl ?_
        refine hz_goto (pc := 92) C (tgt := 34) dX11_stand_92 rfl ?_
        have h9 := ih (k + 1) (some (.int (nI 0))) (by omega)
        have hm := mxf_le (gk_le u d r) k
        have hc := csum_le (bt (pa u d r k)) 6
        have hlt : mxf (gk u d r) k < 0 := Nat.lt_of_not_le fun z => zzc2 (nI_le z (by omega))
        rw [show mxf (gk u d r) (k + 1) = 0 by show max _ (gk u d r k) = _; rw [show gk u d r k = 0 from if_neg zzc1]; exact Nat.max_eq_right (by omega)] at h9
        exact h9
    · refine hz_aload_n (pc := 55) C dX11_stand_55 rfl ?_
      refine hz_iload (pc := 56) C dX11_stand_56 rfl ?_
      refine hz_iload_n (pc := 58) C dX11_stand_58 rfl ?_
      refine hz_iload (pc := 59) C dX11_stand_59 rfl ?_
      refine hz_callVs (pc := 61) C (as := [.int (nI r), .int (nI d), .int (nI k)]) (st := []) (ev_alikeBy V U (r := r) (d := d) (k := k) hr (pw64 U hd) (by omega)) (hz_new0 _ _) fyX11_alikeBy fvX11_191 rfl dX11_stand_61 hT146 rfl rfl hA146 rfl rfl (Nat.le_of_ble_eq_true rfl) (by decide) (hz_cap0 _) ?_
      refine hz_callSs (pc := 64) C (as := [.int (nI (pa u d r k))]) (st := []) (ev_bitsM _ (pa_lt U d r k)) (hz_new0 _ _) fyX11_bits fsX11_188 rfl dX11_stand_64 rfl rfl (Nat.le_of_ble_eq_true rfl) (by decide) (hz_cap0 _) ?_
      refine hz_goto (pc := 67) C (tgt := 71) dX11_stand_67 rfl ?_
      refine hz_istore (pc := 71) C (ls' := [some (.ref 146), some (.int (nI d)), some (.int b), some (.int f), some (.int (nI r)), some (.int (nI (mxf (gk u d r) k))), some (.int (nI k)), some (.int (nI (csum (bt (pa u d r k)) 6)))]) dX11_stand_71 (Nat.le_of_ble_eq_true rfl) rfl ?_
      refine hz_iload (pc := 73) C dX11_stand_73 rfl ?_
      refine hz_iload (pc := 75) C dX11_stand_75 rfl ?_
      refine hz_ic_le (pc := 77) C (tgt := 85) dX11_stand_77 rfl (fun zzc3 => ?_) (fun zzc3 => ?_)
      · refine hz_iload (pc := 85) C dX11_stand_85 rfl ?_
        refine hz_istore (pc := 87) C (ls' := [some (.ref 146), some (.int (nI d)), some (.int b), some (.int f), some (.int (nI r)), some (.int (nI (mxf (gk u d r) k))), some (.int (nI k)), some (.int (nI (csum (bt (pa u d r k)) 6)))]) dX11_stand_87 (Nat.le_of_ble_eq_true rfl) rfl ?_
        refine hz_iinc (pc := 89) C (v := nI (k + 1)) (ls' := [some (.ref 146), some (.int (nI d)), some (.int b), some (.int f), some (.int (nI r)), some (.int (nI (mxf (gk u d r) k))), some (.int (nI (k + 1))), some (.int (nI (csum (bt (pa u d r k)) 6)))]) dX11_stand_89 rfl (nI_add _ 1) rfl ?_
        refine hz_goto (pc := 92) C (tgt := 34) dX11_stand_92 rfl ?_
        have h9 := ih (k + 1) (some (.int (nI (csum (bt (pa u d r k)) 6)))) (by omega)
        have hm := mxf_le (gk_le u d r) k
        have hc := csum_le (bt (pa u d r k)) 6
        have hle : csum (bt (pa u d r k)) 6 ≤ mxf (gk u d r) k := Nat.le_of_not_lt fun z => nI_ge z (by omega) zzc3
        rw [show mxf (gk u d r) (k + 1) = mxf (gk u d r) k by show max _ (gk u d r k) = _; rw [show gk u d r k = csum (bt (pa u d r k)) 6 from if_pos zzc1]; exact Nat.max_eq_left hle] at h9
        exact h9
      · refine hz_iload (pc := 80) C dX11_stand_80 rfl ?_
        refine hz_goto (pc := 82) C (tgt := 87) dX11_stand_82 rfl ?_
        refine hz_istore (pc := 87) C (ls' := [some (.ref 146), some (.int (nI d)), some (.int b), some (.int f), some (.int (nI r)), some (.int (nI (csum (bt (pa u d r k)) 6))), some (.int (nI k)), some (.int (nI (csum (bt (pa u d r k)) 6)))]) dX11_stand_87 (Nat.le_of_ble_eq_true rfl) rfl ?_
        refine hz_iinc (pc := 89) C (v := nI (k + 1)) (ls' := [some (.ref 146), some (.int (nI d)), some (.int b), some (.int f), some (.int (nI r)), some (.int (nI (csum (bt (pa u d r k)) 6))), some (.int (nI (k + 1))), some (.int (nI (csum (bt (pa u d r k)) 6)))]) dX11_stand_89 rfl (nI_add _ 1) rfl ?_
        refine hz_goto (pc := 92) C (tgt := 34) dX11_stand_92 rfl ?_
        have h9 := ih (k + 1) (some (.int (nI (csum (bt (pa u d r k)) 6)))) (by omega)
        have hm := mxf_le (gk_le u d r) k
        have hc := csum_le (bt (pa u d r k)) 6
        have hlt : mxf (gk u d r) k < csum (bt (pa u d r k)) 6 := Nat.lt_of_not_le fun z => zzc3 (nI_le z (by omega))
        rw [show mxf (gk u d r) (k + 1) = csum (bt (pa u d r k)) 6 by show max _ (gk u d r k) = _; rw [show gk u d r k = csum (bt (pa u d r k)) 6 from if_pos zzc1]; exact Nat.max_eq_right (by omega)] at h9
        exact h9
set_option maxHeartbeats 4000000 in
set_option maxRecDepth 100000 in
theorem lp_stM {X : hz_X} (C : hz_C X mX11_stand) {I : Nat → Nat → Int32} {L : Nat → Nat → Int64} {q : Nat → Nat → Nat} {u : Nat → Nat} (V : MF I u) (U : WU u) {d : Nat} (hd : d < 2 ^ u 64) (h0 : 0 < d) (kk : ∀ (b : Int32) (zzw5 zzw6 zzw7 : Option Value), b = nI (stn (gg u d) 8).1 → hz_G X TT NN (I, L, PP q) 0 0 127 [some (.ref 146), some (.int (nI d)), some (.int b), some (.int (nI ((stn (gg u d) 8).2))), some (.int (nI 8)), zzw5, zzw6, zzw7] []) : ∀ (n r : Nat) (b : Int32) (zzw5 zzw6 zzw7 : Option Value), r + n = 8 → (r = 0 ∨ b = nI (stn (gg u d) r).1) → hz_G X TT NN (I, L, PP q) 0 0 17 [some (.ref 146), some (.int (nI d)), some (.int b), some (.int (nI ((stn (gg u d) r).2))), some (.int (nI r)), zzw5, zzw6, zzw7] [] := by
  intro n
  induction n with
  | zero =>
    intro r b zzw5 zzw6 zzw7 hi hb
    obtain rfl : 8 = r := by omega
    refine hz_iload (pc := 17) C dX11_stand_17 rfl ?_
    refine hz_bipush (pc := 19) C (v := nI 8) dX11_stand_19 (by decide +kernel) ?_
    refine hz_ic_ge (pc := 21) C (tgt := 127) dX11_stand_21 rfl (fun _ => ?_) (fun cq => absurd (nI_le (by omega) (by omega)) cq)
    exact kk b zzw5 zzw6 zzw7 (hb.resolve_left (by omega))
  | succ n ih =>
    intro r b zzw5 zzw6 zzw7 hi hb
    have hal := wu_al U
    have hgg := gg_le u d r
    have hsl := stn_le (g := gg u d) r
    have h64 := pw64 U hd
    refine hz_iload (pc := 17) C dX11_stand_17 rfl ?_
    refine hz_bipush (pc := 19) C (v := nI 8) dX11_stand_19 (by decide +kernel) ?_
    refine hz_ic_ge (pc := 21) C (tgt := 127) dX11_stand_21 rfl (fun cq => absurd cq (nI_ge (by omega) (by omega))) (fun _ => ?_)
    refine hz_iload_n (pc := 24) C dX11_stand_24 rfl ?_
    refine hz_if_eq (pc := 25) C (tgt := 127) dX11_stand_25 rfl (fun cq => absurd cq (nI_ne0 (by omega) (by omega))) (fun _ => ?_)
    refine hz_iconst (pc := 28) C (v := nI 0) dX11_stand_28 (by decide +kernel) ?_
    refine hz_istore (pc := 29) C (ls' := [some (.ref 146), some (.int (nI d)), some (.int b), some (.int (nI ((stn (gg u d) r).2))), some (.int (nI r)), some (.int (nI 0)), zzw6, zzw7]) dX11_stand_29 (Nat.le_of_ble_eq_true rfl) rfl ?_
    refine hz_iconst (pc := 31) C (v := nI 0) dX11_stand_31 (by decide +kernel) ?_
    refine hz_istore (pc := 32) C (ls' := [some (.ref 146), some (.int (nI d)), some (.int b), some (.int (nI ((stn (gg u d) r).2))), some (.int (nI r)), some (.int (nI 0)), some (.int (nI 0)), zzw7]) dX11_stand_32 (Nat.le_of_ble_eq_true rfl) rfl ?_
    refine lp_sgM C V U hd (r := r) (by omega) (fun zzw7 => ?_) (u 64) 0 _ (by omega)
    rw [gg_n U hd r]
    refine hz_iload (pc := 95) C dX11_stand_95 rfl ?_
    refine hz_iload_n (pc := 97) C dX11_stand_97 rfl ?_
    refine hz_ic_ge (pc := 98) C (tgt := 106) dX11_stand_98 rfl (fun zzc1 => ?_) (fun zzc1 => ?_)
    · refine hz_iload_n (pc := 106) C dX11_stand_106 rfl ?_
      refine hz_istore_n (pc := 107) C (ls' := [some (.ref 146), some (.int (nI d)), some (.int b), some (.int (nI ((stn (gg u d) r).2))), some (.int (nI r)), some (.int (nI (gg u d r))), some (.int (nI (u 64))), zzw7]) dX11_stand_107 (Nat.le_of_ble_eq_true rfl) rfl ?_
      refine hz_iload (pc := 108) C dX11_stand_108 rfl ?_
      refine hz_iload_n (pc := 110) C dX11_stand_110 rfl ?_
      refine hz_ic_ge (pc := 111) C (tgt := 119) dX11_stand_111 rfl (fun zzc2 => ?_) (fun zzc2 => ?_)
      · refine hz_iload_n (pc := 119) C dX11_stand_119 rfl ?_
        refine hz_istore_n (pc := 120) C (ls' := [some (.ref 146), some (.int (nI d)), some (.int b), some (.int (nI ((stn (gg u d) r).2))), some (.int (nI r)), some (.int (nI (gg u d r))), some (.int (nI (u 64))), zzw7]) dX11_stand_120 (Nat.le_of_ble_eq_true rfl) rfl ?_
        refine hz_iinc (pc := 121) C (v := nI (r + 1)) (ls' := [some (.ref 146), some (.int (nI d)), some (.int b), some (.int (nI ((stn (gg u d) r).2))), some (.int (nI (r + 1))), some (.int (nI (gg u d r))), some (.int (nI (u 64))), zzw7]) dX11_stand_121 rfl (nI_add _ 1) rfl ?_
        refine hz_goto (pc := 124) C (tgt := 17) dX11_stand_124 rfl ?_
        have hs : stn (gg u d) (r + 1) = stn (gg u d) r := if_neg (fun z => nI_ge z (by omega) zzc1)
        have h9 := ih (r + 1) b (some (.int (nI (gg u d r)))) (some (.int (nI (u 64)))) zzw7 (by omega) (Or.inr (by
          rcases hb with hb | hb
          · subst hb; exact absurd zzc1 (nI_ge (show gg u d 0 < 99 by omega) (by omega))
          · rw [hb, hs]))
        rw [hs] at h9
        exact h9
      · refine hz_iload (pc := 114) C dX11_stand_114 rfl ?_
        refine hz_goto (pc := 116) C (tgt := 120) dX11_stand_116 rfl ?_
        refine hz_istore_n (pc := 120) C (ls' := [some (.ref 146), some (.int (nI d)), some (.int b), some (.int (nI (gg u d r))), some (.int (nI r)), some (.int (nI (gg u d r))), some (.int (nI (u 64))), zzw7]) dX11_stand_120 (Nat.le_of_ble_eq_true rfl) rfl ?_
        refine hz_iinc (pc := 121) C (v := nI (r + 1)) (ls' := [some (.ref 146), some (.int (nI d)), some (.int b), some (.int (nI (gg u d r))), some (.int (nI (r + 1))), some (.int (nI (gg u d r))), some (.int (nI (u 64))), zzw7]) dX11_stand_121 rfl (nI_add _ 1) rfl ?_
        refine hz_goto (pc := 124) C (tgt := 17) dX11_stand_124 rfl ?_
        exact absurd zzc1 zzc2
    · refine hz_iload (pc := 101) C dX11_stand_101 rfl ?_
      refine hz_goto (pc := 103) C (tgt := 107) dX11_stand_103 rfl ?_
      refine hz_istore_n (pc := 107) C (ls' := [some (.ref 146), some (.int (nI d)), some (.int (nI r)), some (.int (nI ((stn (gg u d) r).2))), some (.int (nI r)), some (.int (nI (gg u d r))), some (.int (nI (u 64))), zzw7]) dX11_stand_107 (Nat.le_of_ble_eq_true rfl) rfl ?_
      refine hz_iload (pc := 108) C dX11_stand_108 rfl ?_
      refine hz_iload_n (pc := 110) C dX11_stand_110 rfl ?_
      refine hz_ic_ge (pc := 111) C (tgt := 119) dX11_stand_111 rfl (fun zzc3 => ?_) (fun zzc3 => ?_)
      · refine hz_iload_n (pc := 119) C dX11_stand_119 rfl ?_
        refine hz_istore_n (pc := 120) C (ls' := [some (.ref 146), some (.int (nI d)), some (.int (nI r)), some (.int (nI ((stn (gg u d) r).2))), some (.int (nI r)), some (.int (nI (gg u d r))), some (.int (nI (u 64))), zzw7]) dX11_stand_120 (Nat.le_of_ble_eq_true rfl) rfl ?_
        refine hz_iinc (pc := 121) C (v := nI (r + 1)) (ls' := [some (.ref 146), some (.int (nI d)), some (.int (nI r)), some (.int (nI ((stn (gg u d) r).2))), some (.int (nI (r + 1))), some (.int (nI (gg u d r))), some (.int (nI (u 64))), zzw7]) dX11_stand_121 rfl (nI_add _ 1) rfl ?_
        refine hz_goto (pc := 124) C (tgt := 17) dX11_stand_124 rfl ?_
        exact absurd zzc3 zzc1
      · refine hz_iload (pc := 114) C dX11_stand_114 rfl ?_
        refine hz_goto (pc := 116) C (tgt := 120) dX11_stand_116 rfl ?_
        refine hz_istore_n (pc := 120) C (ls' := [some (.ref 146), some (.int (nI d)), some (.int (nI r)), some (.int (nI (gg u d r))), some (.int (nI r)), some (.int (nI (gg u d r))), some (.int (nI (u 64))), zzw7]) dX11_stand_120 (Nat.le_of_ble_eq_true rfl) rfl ?_
        refine hz_iinc (pc := 121) C (v := nI (r + 1)) (ls' := [some (.ref 146), some (.int (nI d)), some (.int (nI r)), some (.int (nI (gg u d r))), some (.int (nI (r + 1))), some (.int (nI (gg u d r))), some (.int (nI (u 64))), zzw7]) dX11_stand_121 rfl (nI_add _ 1) rfl ?_
        refine hz_goto (pc := 124) C (tgt := 17) dX11_stand_124 rfl ?_
        have hs : stn (gg u d) (r + 1) = (r, gg u d r) := if_pos (Nat.lt_of_not_le fun z => zzc1 (nI_le z (by omega)))
        have h9 := ih (r + 1) (nI r) (some (.int (nI (gg u d r)))) (some (.int (nI (u 64)))) zzw7 (by omega) (Or.inr (by rw [hs]))
        rw [hs] at h9
        exact h9
set_option maxHeartbeats 4000000 in
set_option maxRecDepth 100000 in
theorem ev_standM {I : Nat → Nat → Int32} {L : Nat → Nat → Int64} {q : Nat → Nat → Nat} {u : Nat → Nat} (V : MV I u) (U : WU u) (h0 : ¬ bsum (fit u) (u 64) = 0) : hz_Ev mX11_stand TT NN (I, L, PP q) [.ref 146] 0 0 (some (.int (nI ((stn (gg u (bsum (fit u) (u 64))) 8).1)))) TT NN (lm u I, L, PP q) := by
  refine hz_Ev.intro (ls := [some (.ref 146), none, none, none, none, none, none, none]) (by decide +kernel) rfl (Nat.le_of_ble_eq_true rfl) (fun X C Z _ => ?_)
  refine hz_aload_n (pc := 0) C dX11_stand_0 rfl ?_
  refine hz_callVv (pc := 1) C (as := []) (st := []) (ev_layFar V U) (hz_new0 _ _) fyX11_layFar fvX11_146 rfl dX11_stand_1 hT146 rfl rfl hA146 rfl rfl (Nat.le_of_ble_eq_true rfl) (by decide) (hz_cap0 _) ?_
  refine hz_aload_n (pc := 4) C dX11_stand_4 rfl ?_
  refine hz_callVs (pc := 5) C (as := []) (st := []) (ev_whichOnes (mf_lm V) U) (hz_new0 _ _) fyX11_whichOnes fvX11_209 rfl dX11_stand_5 hT146 rfl rfl hA146 rfl rfl (Nat.le_of_ble_eq_true rfl) (by decide) (hz_cap0 _) ?_
  refine hz_istore_n (pc := 8) C (ls' := [some (.ref 146), some (.int (nI (bsum (fit u) (u 64)))), none, none, none, none, none, none]) dX11_stand_8 (Nat.le_of_ble_eq_true rfl) rfl ?_
  refine hz_iconst (pc := 9) C (v := (-1 : Int32)) dX11_stand_9 (by decide +kernel) ?_
  refine hz_istore_n (pc := 10) C (ls' := [some (.ref 146), some (.int (nI (bsum (fit u) (u 64)))), some (.int (-1 : Int32)), none, none, none, none, none]) dX11_stand_10 (Nat.le_of_ble_eq_true rfl) rfl ?_
  refine hz_bipush (pc := 11) C (v := nI 99) dX11_stand_11 (by decide +kernel) ?_
  refine hz_istore_n (pc := 13) C (ls' := [some (.ref 146), some (.int (nI (bsum (fit u) (u 64)))), some (.int (-1 : Int32)), some (.int (nI 99)), none, none, none, none]) dX11_stand_13 (Nat.le_of_ble_eq_true rfl) rfl ?_
  refine hz_iconst (pc := 14) C (v := nI 0) dX11_stand_14 (by decide +kernel) ?_
  refine hz_istore (pc := 15) C (ls' := [some (.ref 146), some (.int (nI (bsum (fit u) (u 64)))), some (.int (-1 : Int32)), some (.int (nI 99)), some (.int (nI 0)), none, none, none]) dX11_stand_15 (Nat.le_of_ble_eq_true rfl) rfl ?_
  refine lp_stM C (mf_lm V) U (bsum_lt _ _) (Nat.pos_of_ne_zero h0) (fun b zzw5 zzw6 zzw7 hb => ?_) 8 0 _ _ _ _ (by omega) (Or.inl rfl)
  refine hz_iload_n (pc := 127) C dX11_stand_127 rfl ?_
  exact hz_iret C Z rfl dX11_stand_128 hb rfl
set_option maxHeartbeats 4000000 in
set_option maxRecDepth 100000 in
theorem ev_stand0M {I : Nat → Nat → Int32} {L : Nat → Nat → Int64} {q : Nat → Nat → Nat} {u : Nat → Nat} (V : MV I u) (U : WU u) (h0 : bsum (fit u) (u 64) = 0) : hz_Ev mX11_stand TT NN (I, L, PP q) [.ref 146] 0 0 (some (.int (-1 : Int32))) TT NN (lm u I, L, PP q) := by
  refine hz_Ev.intro (ls := [some (.ref 146), none, none, none, none, none, none, none]) (by decide +kernel) rfl (Nat.le_of_ble_eq_true rfl) (fun X C Z _ => ?_)
  refine hz_aload_n (pc := 0) C dX11_stand_0 rfl ?_
  refine hz_callVv (pc := 1) C (as := []) (st := []) (ev_layFar V U) (hz_new0 _ _) fyX11_layFar fvX11_146 rfl dX11_stand_1 hT146 rfl rfl hA146 rfl rfl (Nat.le_of_ble_eq_true rfl) (by decide) (hz_cap0 _) ?_
  refine hz_aload_n (pc := 4) C dX11_stand_4 rfl ?_
  refine hz_callVs (pc := 5) C (as := []) (st := []) (ev_whichOnes (mf_lm V) U) (hz_new0 _ _) fyX11_whichOnes fvX11_209 rfl dX11_stand_5 hT146 rfl rfl hA146 rfl rfl (Nat.le_of_ble_eq_true rfl) (by decide) (hz_cap0 _) ?_
  refine hz_istore_n (pc := 8) C (ls' := [some (.ref 146), some (.int (nI (bsum (fit u) (u 64)))), none, none, none, none, none, none]) dX11_stand_8 (Nat.le_of_ble_eq_true rfl) rfl ?_
  refine hz_iconst (pc := 9) C (v := (-1 : Int32)) dX11_stand_9 (by decide +kernel) ?_
  refine hz_istore_n (pc := 10) C (ls' := [some (.ref 146), some (.int (nI (bsum (fit u) (u 64)))), some (.int (-1 : Int32)), none, none, none, none, none]) dX11_stand_10 (Nat.le_of_ble_eq_true rfl) rfl ?_
  refine hz_bipush (pc := 11) C (v := nI 99) dX11_stand_11 (by decide +kernel) ?_
  refine hz_istore_n (pc := 13) C (ls' := [some (.ref 146), some (.int (nI (bsum (fit u) (u 64)))), some (.int (-1 : Int32)), some (.int (nI 99)), none, none, none, none]) dX11_stand_13 (Nat.le_of_ble_eq_true rfl) rfl ?_
  refine hz_iconst (pc := 14) C (v := nI 0) dX11_stand_14 (by decide +kernel) ?_
  refine hz_istore (pc := 15) C (ls' := [some (.ref 146), some (.int (nI (bsum (fit u) (u 64)))), some (.int (-1 : Int32)), some (.int (nI 99)), some (.int (nI 0)), none, none, none]) dX11_stand_15 (Nat.le_of_ble_eq_true rfl) rfl ?_
  refine hz_iload (pc := 17) C dX11_stand_17 rfl ?_
  refine hz_bipush (pc := 19) C (v := nI 8) dX11_stand_19 (by decide +kernel) ?_
  refine hz_ic_ge (pc := 21) C (tgt := 127) dX11_stand_21 rfl (fun cq => absurd cq (by decide +kernel)) (fun _ => ?_)
  refine hz_iload_n (pc := 24) C dX11_stand_24 rfl ?_
  refine hz_if_eq (pc := 25) C (tgt := 127) dX11_stand_25 rfl (fun _ => ?_) (fun cq => absurd (show nI (bsum (fit u) (u 64)) = 0 by rw [show bsum (fit u) (u 64) = 0 by omega]; exact nI_0) cq)
  refine hz_iload_n (pc := 127) C dX11_stand_127 rfl ?_
  exact hz_iret C Z rfl dX11_stand_128 rfl rfl
theorem sp_stand {q : Nat → Nat → Nat} {I : Nat → Nat → Int32} {L : Nat → Nat → Int64} {u : Nat → Nat} (V : INV q I L u) : ST mX10_stand mX11_stand (I, L, PP q) [] := by
  by_cases h0 : bsum (fit u) (u 64) = 0
  · exact st_of V V.2.1 (ex_stand0 V.1 V.2.1 h0) (fun q' J hJ => (ev_stand0M hJ V.2.1 h0).x ⟨_, rfl, rfl, hJ.lM, kpM.lM _ _⟩)
  · exact st_of V V.2.1 (ex_stand V.1 V.2.1 h0) (fun q' J hJ => (ev_standM hJ V.2.1 h0).x ⟨_, rfl, rfl, hJ.lM, kpM.lM _ _⟩)

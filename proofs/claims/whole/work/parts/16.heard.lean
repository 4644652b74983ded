set_option maxHeartbeats 4000000 in
set_option maxRecDepth 100000 in
theorem ev_everS (M : hz_M) {k : Nat} (hk : k < 6) (c b : Int32) : hz_Ev mX6_everSounds TT NN M [.ref (23 + k), .int c, .int b] 0 0 (some (.int (hz_b (so_ev k c b = true)))) TT NN M := by
  refine hz_Ev.intro (ls := [some (.ref (23 + k)), some (.int c), some (.int b), none]) (by decide +kernel) rfl (Nat.le_of_ble_eq_true rfl) (fun X C Z _ => ?_)
  refine hz_iconst (pc := 0) C (v := nI 0) dX6_everSounds_0 (by decide +kernel) ?_
  refine hz_istore_n (pc := 1) C (ls' := [some (.ref (23 + k)), some (.int c), some (.int b), some (.int (nI 0))]) dX6_everSounds_1 (Nat.le_of_ble_eq_true rfl) rfl ?_
  refine hz_iload_n (pc := 2) C dX6_everSounds_2 rfl ?_
  refine hz_tget (pc := 3) C (hz_mn 675 (by decide +kernel)) dX6_everSounds_3 ?_
  refine hz_tlen (pc := 6) C dX6_everSounds_6 ?_
  refine hz_ic_ge (pc := 7) C (tgt := 32) dX6_everSounds_7 rfl (fun cq => absurd cq (by decide +kernel)) (fun _ => ?_)
  refine hz_aload_n (pc := 10) C dX6_everSounds_10 rfl ?_
  refine hz_tget (pc := 11) C (hz_mn 675 (by decide +kernel)) dX6_everSounds_11 ?_
  refine hz_iload_n (pc := 14) C dX6_everSounds_14 rfl ?_
  refine hz_tld (pc := 15) C (j := 0) (v := nI 0) (by decide) rfl dX6_everSounds_15 ?_
  refine hz_iload_n (pc := 16) C dX6_everSounds_16 rfl ?_
  refine hz_iload_n (pc := 17) C dX6_everSounds_17 rfl ?_
  refine kc_so (pc := 18) (k := k) (st := []) C fvX6_13_X6 fvX6_13_X4 fvX6_13_X9 fvX6_13_X0 fvX6_13_X5 fvX6_13_X1 (by omega) dX6_everSounds_18 rfl (Nat.le_of_ble_eq_true rfl) (by decide) ?_
  refine hz_ifb_eq (pc := 21) C (tgt := 26) dX6_everSounds_21 rfl (fun c1 => ?_) (fun c1 => ?_)
  · refine hz_iinc (pc := 26) C (v := nI 1) (ls' := [some (.ref (23 + k)), some (.int c), some (.int b), some (.int (nI 1))]) dX6_everSounds_26 rfl (nI_add _ 1) rfl ?_
    refine hz_goto (pc := 29) C (tgt := 2) dX6_everSounds_29 rfl ?_
    refine hz_iload_n (pc := 2) C dX6_everSounds_2 rfl ?_
    refine hz_tget (pc := 3) C (hz_mn 675 (by decide +kernel)) dX6_everSounds_3 ?_
    refine hz_tlen (pc := 6) C dX6_everSounds_6 ?_
    refine hz_ic_ge (pc := 7) C (tgt := 32) dX6_everSounds_7 rfl (fun cq => absurd cq (by decide +kernel)) (fun _ => ?_)
    refine hz_aload_n (pc := 10) C dX6_everSounds_10 rfl ?_
    refine hz_tget (pc := 11) C (hz_mn 675 (by decide +kernel)) dX6_everSounds_11 ?_
    refine hz_iload_n (pc := 14) C dX6_everSounds_14 rfl ?_
    refine hz_tld (pc := 15) C (j := 1) (v := nI 7) (by decide) rfl dX6_everSounds_15 ?_
    refine hz_iload_n (pc := 16) C dX6_everSounds_16 rfl ?_
    refine hz_iload_n (pc := 17) C dX6_everSounds_17 rfl ?_
    refine kc_so (pc := 18) (k := k) (st := []) C fvX6_13_X6 fvX6_13_X4 fvX6_13_X9 fvX6_13_X0 fvX6_13_X5 fvX6_13_X1 (by omega) dX6_everSounds_18 rfl (Nat.le_of_ble_eq_true rfl) (by decide) ?_
    refine hz_ifb_eq (pc := 21) C (tgt := 26) dX6_everSounds_21 rfl (fun c2 => ?_) (fun c2 => ?_)
    · refine hz_iinc (pc := 26) C (v := nI 2) (ls' := [some (.ref (23 + k)), some (.int c), some (.int b), some (.int (nI 2))]) dX6_everSounds_26 rfl (nI_add _ 1) rfl ?_
      refine hz_goto (pc := 29) C (tgt := 2) dX6_everSounds_29 rfl ?_
      refine hz_iload_n (pc := 2) C dX6_everSounds_2 rfl ?_
      refine hz_tget (pc := 3) C (hz_mn 675 (by decide +kernel)) dX6_everSounds_3 ?_
      refine hz_tlen (pc := 6) C dX6_everSounds_6 ?_
      refine hz_ic_ge (pc := 7) C (tgt := 32) dX6_everSounds_7 rfl (fun cq => absurd cq (by decide +kernel)) (fun _ => ?_)
      refine hz_aload_n (pc := 10) C dX6_everSounds_10 rfl ?_
      refine hz_tget (pc := 11) C (hz_mn 675 (by decide +kernel)) dX6_everSounds_11 ?_
      refine hz_iload_n (pc := 14) C dX6_everSounds_14 rfl ?_
      refine hz_tld (pc := 15) C (j := 2) (v := nI 20) (by decide) rfl dX6_everSounds_15 ?_
      refine hz_iload_n (pc := 16) C dX6_everSounds_16 rfl ?_
      refine hz_iload_n (pc := 17) C dX6_everSounds_17 rfl ?_
      refine kc_so (pc := 18) (k := k) (st := []) C fvX6_13_X6 fvX6_13_X4 fvX6_13_X9 fvX6_13_X0 fvX6_13_X5 fvX6_13_X1 (by omega) dX6_everSounds_18 rfl (Nat.le_of_ble_eq_true rfl) (by decide) ?_
      refine hz_ifb_eq (pc := 21) C (tgt := 26) dX6_everSounds_21 rfl (fun c3 => ?_) (fun c3 => ?_)
      · refine hz_iinc (pc := 26) C (v := nI 3) (ls' := [some (.ref (23 + k)), some (.int c), some (.int b), some (.int (nI 3))]) dX6_everSounds_26 rfl (nI_add _ 1) rfl ?_
        refine hz_goto (pc := 29) C (tgt := 2) dX6_everSounds_29 rfl ?_
        refine hz_iload_n (pc := 2) C dX6_everSounds_2 rfl ?_
        refine hz_tget (pc := 3) C (hz_mn 675 (by decide +kernel)) dX6_everSounds_3 ?_
        refine hz_tlen (pc := 6) C dX6_everSounds_6 ?_
        refine hz_ic_ge (pc := 7) C (tgt := 32) dX6_everSounds_7 rfl (fun _ => ?_) (fun cq => absurd (by decide +kernel) cq)
        refine hz_iconst (pc := 32) C (v := nI 0) dX6_everSounds_32 (by decide +kernel) ?_
        exact hz_zret C Z rfl (by decide +kernel) dX6_everSounds_33 (hz_b0 (by simp [so_ev, c1, c2, c3])).symm rfl
      · refine hz_iconst (pc := 24) C (v := nI 1) dX6_everSounds_24 (by decide +kernel) ?_
        exact hz_zret C Z rfl (by decide +kernel) dX6_everSounds_25 (hz_b1 (by simp [so_ev, c1, c2, c3])).symm rfl
    · refine hz_iconst (pc := 24) C (v := nI 1) dX6_everSounds_24 (by decide +kernel) ?_
      exact hz_zret C Z rfl (by decide +kernel) dX6_everSounds_25 (hz_b1 (by simp [so_ev, c1, c2])).symm rfl
  · refine hz_iconst (pc := 24) C (v := nI 1) dX6_everSounds_24 (by decide +kernel) ?_
    exact hz_zret C Z rfl (by decide +kernel) dX6_everSounds_25 (hz_b1 (by simp [so_ev, c1])).symm rfl
set_option maxHeartbeats 4000000 in
set_option maxRecDepth 100000 in
theorem kc_ev {X : hz_X} {y : hz_Y} {M : hz_M} {pc ix k : Nat} {ls : List (Option Value)} {st : List Value} {c b : Int32} (C : hz_C X y) (F0 : hz_FV y.1.cls ix mX6_everSounds) (F1 : hz_FU y.1.cls ix RX4 RX6 yX6_everSounds mX6_everSounds) (F2 : hz_FU y.1.cls ix RX9 RX6 yX6_everSounds mX6_everSounds) (F3 : hz_FU y.1.cls ix RX0 RX6 yX6_everSounds mX6_everSounds) (F4 : hz_FU y.1.cls ix RX5 RX6 yX6_everSounds mX6_everSounds) (F5 : hz_FU y.1.cls ix RX1 RX6 yX6_everSounds mX6_everSounds) (hk : k < 6) (d : decode y.2.1 pc = .ok (.invokevirtual ix, 3)) (hlen : ls.length = y.2.2.1) (hsum : (st.map Value.category).sum ≤ 8) (hd : 4 ≤ y.2.2.2.2) (kk : hz_G X TT NN M 0 0 (pc + 3) ls (.int (hz_b (so_ev k c b = true)) :: st)) : hz_G X TT NN M 0 0 pc ls (.int b :: .int c :: .ref (23 + k) :: st) := by
  rcases (show k = 0 ∨ k = 1 ∨ k = 2 ∨ k = 3 ∨ k = 4 ∨ k = 5 by omega) with rfl | rfl | rfl | rfl | rfl | rfl
  · exact hz_callV C (as := [.int c, .int b]) (st := st) (ev_everS M (k := 0) hk c b) (hz_new0 _ _) fyX6_everSounds F0 rfl d hT23 rfl rfl hA23 rfl hlen hsum (Nat.le_trans (by decide) hd) (hz_cap0 _) kk
  · exact hz_callU C (as := [.int c, .int b]) (st := st) (ev_everS M (k := 1) hk c b) (hz_new0 _ _) fyX6_everSounds F1 rfl d hT24 rfl hA24 rfl hlen hsum (Nat.le_trans (by decide) hd) (hz_cap0 _) kk
  · exact hz_callU C (as := [.int c, .int b]) (st := st) (ev_everS M (k := 2) hk c b) (hz_new0 _ _) fyX6_everSounds F2 rfl d hT25 rfl hA25 rfl hlen hsum (Nat.le_trans (by decide) hd) (hz_cap0 _) kk
  · exact hz_callU C (as := [.int c, .int b]) (st := st) (ev_everS M (k := 3) hk c b) (hz_new0 _ _) fyX6_everSounds F3 rfl d hT26 rfl hA26 rfl hlen hsum (Nat.le_trans (by decide) hd) (hz_cap0 _) kk
  · exact hz_callU C (as := [.int c, .int b]) (st := st) (ev_everS M (k := 4) hk c b) (hz_new0 _ _) fyX6_everSounds F4 rfl d hT27 rfl hA27 rfl hlen hsum (Nat.le_trans (by decide) hd) (hz_cap0 _) kk
  · exact hz_callU C (as := [.int c, .int b]) (st := st) (ev_everS M (k := 5) hk c b) (hz_new0 _ _) fyX6_everSounds F5 rfl d hT28 rfl hA28 rfl hlen hsum (Nat.le_trans (by decide) hd) (hz_cap0 _) kk
def bsum (f : Nat → Bool) : Nat → Nat
  | 0 => 0
  | n + 1 => bsum f n + (if f n = true then 2 ^ n else 0)
def anyb (f : Nat → Bool) : Nat → Bool
  | 0 => false
  | n + 1 => anyb f n || f n
def csum (f : Nat → Bool) : Nat → Nat
  | 0 => 0
  | n + 1 => csum f n + (if f n = true then 1 else 0)
theorem csum_le (f : Nat → Bool) : ∀ n, csum f n ≤ n := by
  intro n
  induction n with
  | zero => exact Nat.le_refl _
  | succ n ih => simp only [csum]; split <;> omega
theorem bsum_lt (f : Nat → Bool) : ∀ n, bsum f n < 2 ^ n := by
  intro n
  induction n with
  | zero => exact Nat.one_pos
  | succ n ih => simp only [bsum, Nat.pow_succ]; split <;> omega
theorem bor_add {k : Nat} (hk : k < 6) (f : Nat → Bool) : nI (bsum f k) ||| (nI 1 <<< (nI k &&& 31)) = nI (bsum f k + 2 ^ k) := by
  have h : ∀ k, k < 6 → ∀ d, d < 2 ^ k → nI d ||| (nI 1 <<< (nI k &&& 31)) = nI (d + 2 ^ k) := by decide +kernel
  exact h k hk _ (bsum_lt f k)
theorem bor_0 {k : Nat} (hk : k < 6) (f : Nat → Bool) : nI (bsum f k) ||| nI 0 = nI (bsum f k) := by
  have h : ∀ d, d < 32 → nI d ||| nI 0 = nI d := by decide +kernel
  exact h _ (Nat.lt_of_lt_of_le (bsum_lt f k) (show 2 ^ k ≤ 32 from Nat.pow_le_pow_right (n := 2) (i := k) (j := 5) (by decide) (by omega)))
theorem bsum_t {f : Nat → Bool} {n : Nat} (h : f n = true) : bsum f (n + 1) = bsum f n + 2 ^ n := by simp [bsum, h]
theorem bsum_f {f : Nat → Bool} {n : Nat} (h : ¬ f n = true) : bsum f (n + 1) = bsum f n := by simp [bsum, h]
theorem csum_t {f : Nat → Bool} {n : Nat} (h : f n = true) : csum f (n + 1) = csum f n + 1 := by simp [csum, h]
theorem csum_f {f : Nat → Bool} {n : Nat} (h : ¬ f n = true) : csum f (n + 1) = csum f n := by simp [csum, h]
theorem anyb_t {f : Nat → Bool} {n : Nat} (h : f n = true) : anyb f (n + 1) = true := by simp [anyb, h]
theorem anyb_f {f : Nat → Bool} {n : Nat} (h : ¬ f n = true) : anyb f (n + 1) = anyb f n := by simp [anyb, h]
theorem ms_ms (u : Nat → Nat) (I : Nat → Nat → Int32) : ms u (ms u I) = ms u I := ms_id (ms_129 u I) (fun _ _ ha hb => ms_14 u I ha hb)
theorem ms_msb (b : Bool) (u : Nat → Nat) (I : Nat → Nat → Int32) : ms u (msb b u I) = ms u I := by
  unfold msb
  split
  · exact ms_ms u I
  · rfl
theorem hv_msb {q : Nat → Nat → Nat} {I : Nat → Nat → Int32} {u : Nat → Nat} (V : HV 12 q I u) (U : WU u) (b : Bool) : HV 12 q (msb b u I) u := by
  unfold msb
  split
  · exact hv_ms V U
  · exact V
theorem msb_t {b : Bool} (h : b = true) (u : Nat → Nat) (I : Nat → Nat → Int32) : msb b u I = ms u I := if_pos h
def anyp (f : Nat → Bool) (n : Nat) : Bool := anyb f n
set_option maxHeartbeats 4000000 in
set_option maxRecDepth 100000 in
theorem lp_bh {X : hz_X} (C : hz_C X mX2_bitsHeard) {I : Nat → Nat → Int32} {L : Nat → Nat → Int64} {q : Nat → Nat → Nat} {u : Nat → Nat} (V : HV 12 q I u) (U : WU u) {r : Nat} (hr : r < 8) (s : Int32) (kk : hz_G X TT NN (msb (anyb (fun k => sin u k s) (u 64)) u I, L, PP q) 0 0 47 [some (.ref 12), some (.int (nI r)), some (.int s), some (.int (nI (bsum (fun k => sin u k s && rch u r k) (u 64)))), some (.int (nI (u 64)))] []) : ∀ (n i : Nat) , i + n = u 64 → hz_G X TT NN (msb (anyb (fun k => sin u k s) i) u I, L, PP q) 0 0 5 [some (.ref 12), some (.int (nI r)), some (.int s), some (.int (nI (bsum (fun k => sin u k s && rch u r k) i))), some (.int (nI i))] [] := by
  intro n
  induction n with
  | zero =>
    intro i  hi 
    obtain rfl : i = u 64 := by omega
    have hal := wu_al U
    have VB := hv_msb V U (anyb (fun k => sin u k s) (u 64))
    refine hz_iload (pc := 5) C dX2_bitsHeard_5 rfl ?_
    refine hz_aload_n (pc := 7) C dX2_bitsHeard_7 rfl ?_
    refine hz_getI (pc := 8) C (v := nI (u 64)) ffX2_70 dX2_bitsHeard_8 hT12 hA12 rfl (hv_al VB) ?_
    refine hz_ic_ge (pc := 11) C (tgt := 47) dX2_bitsHeard_11 rfl (fun _ => ?_) (fun cq => absurd (nI_le (by omega) (by omega)) cq)
    exact kk
  | succ n ih =>
    intro i  hi 
    have hal := wu_al U
    have VB := hv_msb V U (anyb (fun k => sin u k s) i)
    refine hz_iload (pc := 5) C dX2_bitsHeard_5 rfl ?_
    refine hz_aload_n (pc := 7) C dX2_bitsHeard_7 rfl ?_
    refine hz_getI (pc := 8) C (v := nI (u 64)) ffX2_70 dX2_bitsHeard_8 hT12 hA12 rfl (hv_al VB) ?_
    refine hz_ic_ge (pc := 11) C (tgt := 47) dX2_bitsHeard_11 rfl (fun cq => absurd cq (nI_ge (by omega) (by omega))) (fun _ => ?_)
    refine hz_aload_n (pc := 14) C dX2_bitsHeard_14 rfl ?_
    refine hz_iload (pc := 15) C dX2_bitsHeard_15 rfl ?_
    refine hz_iload_n (pc := 17) C dX2_bitsHeard_17 rfl ?_
    refine hz_callVs (pc := 18) C (as := [.int (nI i), .int s]) (st := []) (ev_soundsIn VB U (k := i) (by omega) s) (hz_new0 _ _) fyX2_soundsIn fvX2_141 rfl dX2_bitsHeard_18 hT12 rfl rfl hA12 rfl rfl (Nat.le_of_ble_eq_true rfl) (by decide) (hz_cap0 _) ?_
    refine hz_ifb_eq (pc := 21) C (tgt := 41) dX2_bitsHeard_21 rfl (fun c1 => ?_) (fun c1 => ?_)
    · refine hz_iinc (pc := 41) C (v := nI (i + 1)) (ls' := [some (.ref 12), some (.int (nI r)), some (.int s), some (.int (nI (bsum (fun k => sin u k s && rch u r k) i))), some (.int (nI (i + 1)))]) dX2_bitsHeard_41 rfl (nI_add _ 1) rfl ?_
      refine hz_goto (pc := 44) C (tgt := 5) dX2_bitsHeard_44 rfl ?_
      have h9 := ih (i + 1) (by omega)
      rw [bsum_f (f := (fun k => sin u k s && rch u r k)) (n := i) (by simp [c1]), anyb_f (f := (fun k => sin u k s)) (n := i) c1] at h9
      exact h9
    · refine hz_aload_n (pc := 24) C dX2_bitsHeard_24 rfl ?_
      refine hz_iload_n (pc := 25) C dX2_bitsHeard_25 rfl ?_
      refine hz_iload (pc := 26) C dX2_bitsHeard_26 rfl ?_
      refine hz_callVs (pc := 28) C (as := [.int (nI r), .int (nI i)]) (st := []) (ev_reaches VB U (k := i) (by omega) (r := r) (by omega)) (hz_new0 _ _) fyX2_reaches fvX2_144 rfl dX2_bitsHeard_28 hT12 rfl rfl hA12 rfl rfl (Nat.le_of_ble_eq_true rfl) (by decide) (hz_cap0 _) ?_
      refine hz_ifb_eq (pc := 31) C (tgt := 41) dX2_bitsHeard_31 rfl (fun c2 => ?_) (fun c2 => ?_)
      · refine hz_iinc (pc := 41) C (v := nI (i + 1)) (ls' := [some (.ref 12), some (.int (nI r)), some (.int s), some (.int (nI (bsum (fun k => sin u k s && rch u r k) i))), some (.int (nI (i + 1)))]) dX2_bitsHeard_41 rfl (nI_add _ 1) rfl ?_
        refine hz_goto (pc := 44) C (tgt := 5) dX2_bitsHeard_44 rfl ?_
        rw [ms_msb]
        have h9 := ih (i + 1) (by omega)
        rw [bsum_f (f := (fun k => sin u k s && rch u r k)) (n := i) (by simp [c2]), anyb_t (f := (fun k => sin u k s)) (n := i) c1, msb_t rfl] at h9
        exact h9
      · refine hz_iload_n (pc := 34) C dX2_bitsHeard_34 rfl ?_
        refine hz_iconst (pc := 35) C (v := nI 1) dX2_bitsHeard_35 (by decide +kernel) ?_
        refine hz_iload (pc := 36) C dX2_bitsHeard_36 rfl ?_
        refine hz_ishl (pc := 38) C dX2_bitsHeard_38 rfl ?_
        refine hz_ior (pc := 39) C dX2_bitsHeard_39 rfl ?_
        refine hz_istore_n (pc := 40) C (ls' := [some (.ref 12), some (.int (nI r)), some (.int s), some (.int ((nI (bsum (fun k => sin u k s && rch u r k) i)) ||| ((nI 1) <<< ((nI i) &&& 31)))), some (.int (nI i))]) dX2_bitsHeard_40 (Nat.le_of_ble_eq_true rfl) rfl ?_
        refine hz_iinc (pc := 41) C (v := nI (i + 1)) (ls' := [some (.ref 12), some (.int (nI r)), some (.int s), some (.int ((nI (bsum (fun k => sin u k s && rch u r k) i)) ||| ((nI 1) <<< ((nI i) &&& 31)))), some (.int (nI (i + 1)))]) dX2_bitsHeard_41 rfl (nI_add _ 1) rfl ?_
        refine hz_goto (pc := 44) C (tgt := 5) dX2_bitsHeard_44 rfl ?_
        rw [ms_msb, bor_add (by omega)]
        have h9 := ih (i + 1) (by omega)
        rw [bsum_t (f := (fun k => sin u k s && rch u r k)) (n := i) (by simp [c1, c2]), anyb_t (f := (fun k => sin u k s)) (n := i) c1, msb_t rfl] at h9
        exact h9
set_option maxHeartbeats 4000000 in
set_option maxRecDepth 100000 in
theorem ev_bitsHeard {I : Nat → Nat → Int32} {L : Nat → Nat → Int64} {q : Nat → Nat → Nat} {u : Nat → Nat} (V : HV 12 q I u) (U : WU u) {r : Nat} (hr : r < 8) (s : Int32) : hz_Ev mX2_bitsHeard TT NN (I, L, PP q) [.ref 12, .int (nI r), .int s] 0 0 (some (.int (nI (bsum (fun k => sin u k s && rch u r k) (u 64))))) TT NN (msb (anyb (fun k => sin u k s) (u 64)) u I, L, PP q) := by
  refine hz_Ev.intro (ls := [some (.ref 12), some (.int (nI r)), some (.int s), none, none]) (by decide +kernel) rfl (Nat.le_of_ble_eq_true rfl) (fun X C Z _ => ?_)
  refine hz_iconst (pc := 0) C (v := nI 0) dX2_bitsHeard_0 (by decide +kernel) ?_
  refine hz_istore_n (pc := 1) C (ls' := [some (.ref 12), some (.int (nI r)), some (.int s), some (.int (nI 0)), none]) dX2_bitsHeard_1 (Nat.le_of_ble_eq_true rfl) rfl ?_
  refine hz_iconst (pc := 2) C (v := nI 0) dX2_bitsHeard_2 (by decide +kernel) ?_
  refine hz_istore (pc := 3) C (ls' := [some (.ref 12), some (.int (nI r)), some (.int s), some (.int (nI 0)), some (.int (nI 0))]) dX2_bitsHeard_3 (Nat.le_of_ble_eq_true rfl) rfl ?_
  refine lp_bh C V U hr s ?_ (u 64) 0 (by omega)
  refine hz_iload_n (pc := 47) C dX2_bitsHeard_47 rfl ?_
  exact hz_iret C Z rfl dX2_bitsHeard_48 rfl rfl
set_option maxHeartbeats 4000000 in
set_option maxRecDepth 100000 in
theorem lp_hm {X : hz_X} (C : hz_C X mX2_howManyReach) {I : Nat → Nat → Int32} {L : Nat → Nat → Int64} {q : Nat → Nat → Nat} {u : Nat → Nat} (V : HV 12 q I u) (U : WU u) {r : Nat} (hr : r < 8) (kk : hz_G X TT NN (msb (decide (0 < (u 64))) u I, L, PP q) 0 0 30 [some (.ref 12), some (.int (nI r)), some (.int (nI (csum (fun k => rch u r k) (u 64)))), some (.int (nI (u 64)))] []) : ∀ (n i : Nat) , i + n = u 64 → hz_G X TT NN (msb (decide (0 < i)) u I, L, PP q) 0 0 4 [some (.ref 12), some (.int (nI r)), some (.int (nI (csum (fun k => rch u r k) i))), some (.int (nI i))] [] := by
  intro n
  induction n with
  | zero =>
    intro i  hi 
    obtain rfl : i = u 64 := by omega
    have hal := wu_al U
    have VB := hv_msb V U (decide (0 < u 64))
    refine hz_iload_n (pc := 4) C dX2_howManyReach_4 rfl ?_
    refine hz_aload_n (pc := 5) C dX2_howManyReach_5 rfl ?_
    refine hz_getI (pc := 6) C (v := nI (u 64)) ffX2_70 dX2_howManyReach_6 hT12 hA12 rfl (hv_al VB) ?_
    refine hz_ic_ge (pc := 9) C (tgt := 30) dX2_howManyReach_9 rfl (fun _ => ?_) (fun cq => absurd (nI_le (by omega) (by omega)) cq)
    exact kk
  | succ n ih =>
    intro i  hi 
    have hal := wu_al U
    have VB := hv_msb V U (decide (0 < i))
    refine hz_iload_n (pc := 4) C dX2_howManyReach_4 rfl ?_
    refine hz_aload_n (pc := 5) C dX2_howManyReach_5 rfl ?_
    refine hz_getI (pc := 6) C (v := nI (u 64)) ffX2_70 dX2_howManyReach_6 hT12 hA12 rfl (hv_al VB) ?_
    refine hz_ic_ge (pc := 9) C (tgt := 30) dX2_howManyReach_9 rfl (fun cq => absurd cq (nI_ge (by omega) (by omega))) (fun _ => ?_)
    refine hz_aload_n (pc := 12) C dX2_howManyReach_12 rfl ?_
    refine hz_iload_n (pc := 13) C dX2_howManyReach_13 rfl ?_
    refine hz_iload_n (pc := 14) C dX2_howManyReach_14 rfl ?_
    refine hz_callVs (pc := 15) C (as := [.int (nI r), .int (nI i)]) (st := []) (ev_reaches VB U (k := i) (by omega) (r := r) (by omega)) (hz_new0 _ _) fyX2_reaches fvX2_144 rfl dX2_howManyReach_15 hT12 rfl rfl hA12 rfl rfl (Nat.le_of_ble_eq_true rfl) (by decide) (hz_cap0 _) ?_
    refine hz_ifb_eq (pc := 18) C (tgt := 24) dX2_howManyReach_18 rfl (fun c1 => ?_) (fun c1 => ?_)
    · refine hz_iinc (pc := 24) C (v := nI (i + 1)) (ls' := [some (.ref 12), some (.int (nI r)), some (.int (nI (csum (fun k => rch u r k) i))), some (.int (nI (i + 1)))]) dX2_howManyReach_24 rfl (nI_add _ 1) rfl ?_
      refine hz_goto (pc := 27) C (tgt := 4) dX2_howManyReach_27 rfl ?_
      rw [ms_msb]
      have h9 := ih (i + 1) (by omega)
      rw [csum_f (f := (fun k => rch u r k)) (n := i) c1, msb_t (by simp)] at h9
      exact h9
    · refine hz_iinc (pc := 21) C (v := nI (csum (fun k => rch u r k) i + 1)) (ls' := [some (.ref 12), some (.int (nI r)), some (.int (nI (csum (fun k => rch u r k) i + 1))), some (.int (nI i))]) dX2_howManyReach_21 rfl (nI_add _ 1) rfl ?_
      refine hz_iinc (pc := 24) C (v := nI (i + 1)) (ls' := [some (.ref 12), some (.int (nI r)), some (.int (nI (csum (fun k => rch u r k) i + 1))), some (.int (nI (i + 1)))]) dX2_howManyReach_24 rfl (nI_add _ 1) rfl ?_
      refine hz_goto (pc := 27) C (tgt := 4) dX2_howManyReach_27 rfl ?_
      rw [ms_msb]
      have h9 := ih (i + 1) (by omega)
      rw [csum_t (f := (fun k => rch u r k)) (n := i) c1, msb_t (by simp)] at h9
      exact h9
set_option maxHeartbeats 4000000 in
set_option maxRecDepth 100000 in
theorem ev_howMany {I : Nat → Nat → Int32} {L : Nat → Nat → Int64} {q : Nat → Nat → Nat} {u : Nat → Nat} (V : HV 12 q I u) (U : WU u) {r : Nat} (hr : r < 8) : hz_Ev mX2_howManyReach TT NN (I, L, PP q) [.ref 12, .int (nI r)] 0 0 (some (.int (nI (csum (fun k => rch u r k) (u 64))))) TT NN (msb (decide (0 < u 64)) u I, L, PP q) := by
  refine hz_Ev.intro (ls := [some (.ref 12), some (.int (nI r)), none, none]) (by decide +kernel) rfl (Nat.le_of_ble_eq_true rfl) (fun X C Z _ => ?_)
  refine hz_iconst (pc := 0) C (v := nI 0) dX2_howManyReach_0 (by decide +kernel) ?_
  refine hz_istore_n (pc := 1) C (ls' := [some (.ref 12), some (.int (nI r)), some (.int (nI 0)), none]) dX2_howManyReach_1 (Nat.le_of_ble_eq_true rfl) rfl ?_
  refine hz_iconst (pc := 2) C (v := nI 0) dX2_howManyReach_2 (by decide +kernel) ?_
  refine hz_istore_n (pc := 3) C (ls' := [some (.ref 12), some (.int (nI r)), some (.int (nI 0)), some (.int (nI 0))]) dX2_howManyReach_3 (Nat.le_of_ble_eq_true rfl) rfl ?_
  refine lp_hm C V U hr ?_ (u 64) 0 (by omega)
  refine hz_iload_n (pc := 30) C dX2_howManyReach_30 rfl ?_
  exact hz_iret C Z rfl dX2_howManyReach_31 rfl rfl
theorem anyb_of {f : Nat → Bool} : ∀ {n k : Nat}, k < n → f k = true → anyb f n = true := by
  intro n
  induction n with
  | zero => intro k h; omega
  | succ n ih =>
    intro k h hf
    by_cases e : k = n
    · subst e; exact anyb_t hf
    · simp [anyb, ih (show k < n by omega) hf]

theorem cpy_s (f g : Nat → Int32) (i j k : Nat) : va_up (va_cpy f g i j k) (j + k) (f (i + k)) = va_cpy f g i j (k + 1) := by
  funext t
  unfold va_up va_cpy
  by_cases e : t = j + k
  · subst e
    rw [if_pos rfl, if_pos (by omega), show i + (j + k - j) = i + k by omega]
  · rw [if_neg e]
    by_cases e2 : j ≤ t ∧ t < j + k
    · rw [if_pos e2, if_pos (by omega)]
    · rw [if_neg e2, if_neg (by omega)]
theorem cpy_0 (f g : Nat → Int32) (i j : Nat) : va_cpy f g i j 0 = g := by
  funext t
  unfold va_cpy
  rw [if_neg (by omega)]
theorem cpy_o {f g : Nat → Int32} {i j k t : Nat} (h : t < j ∨ j + k ≤ t) : va_cpy f g i j k t = g t := by
  unfold va_cpy
  rw [if_neg (by omega)]
def bg (f : Nat → Int32) : Nat → Int32 := fun j => if j < 181 then (if j = 92 then nI 3 else nI 0) else f j
set_option maxHeartbeats 4000000 in
set_option maxRecDepth 100000 in
theorem lp_br148_147 {X : hz_X} (C : hz_C X mX11_bring) {I : Nat → Nat → Int32} {L : Nat → Nat → Int64} {q : Nat → Nat → Nat} {i j m : Nat} (h1 : i + m ≤ 181) (h2 : j + m ≤ 181) (kk : hz_G X TT NN (hz_sa I 147 (va_cpy (I 148) (I 147) i j m), L, PP q) 0 0 28 [some (.ref 148), some (.int (nI i)), some (.ref 147), some (.int (nI j)), some (.int (nI m)), some (.int (nI m))] []) : ∀ (n k : Nat) , k + n = m → hz_G X TT NN (hz_sa I 147 (va_cpy (I 148) (I 147) i j k), L, PP q) 0 0 3 [some (.ref 148), some (.int (nI i)), some (.ref 147), some (.int (nI j)), some (.int (nI m)), some (.int (nI k))] [] := by
  intro n
  induction n with
  | zero =>
    intro k  hi 
    obtain rfl : k = m := by omega
    refine hz_iload (pc := 3) C dX11_bring_3 rfl ?_
    refine hz_iload (pc := 5) C dX11_bring_5 rfl ?_
    refine hz_ic_ge (pc := 7) C (tgt := 28) dX11_bring_7 rfl (fun _ => ?_) (fun cq => absurd (nI_le (by omega) (by omega)) cq)
    exact kk
  | succ n ih =>
    intro k  hi 
    refine hz_iload (pc := 3) C dX11_bring_3 rfl ?_
    refine hz_iload (pc := 5) C dX11_bring_5 rfl ?_
    refine hz_ic_ge (pc := 7) C (tgt := 28) dX11_bring_7 rfl (fun cq => absurd cq (nI_ge (by omega) (by omega))) (fun _ => ?_)
    refine hz_aload_n (pc := 10) C dX11_bring_10 rfl ?_
    refine hz_iload_n (pc := 11) C dX11_bring_11 rfl ?_
    refine hz_iload (pc := 12) C dX11_bring_12 rfl ?_
    refine hz_iadd (pc := 14) C (v := nI (j + k)) dX11_bring_14 (nI_add _ _) ?_
    refine hz_aload_n (pc := 15) C dX11_bring_15 rfl ?_
    refine hz_iload_n (pc := 16) C dX11_bring_16 rfl ?_
    refine hz_iload (pc := 17) C dX11_bring_17 rfl ?_
    refine hz_iadd (pc := 19) C (v := nI (i + k)) dX11_bring_19 (nI_add _ _) ?_
    refine hz_iald (pc := 20) C (v := I 148 (i + k)) (j := i + k) dX11_bring_20 hT148 hA148 rfl (by omega) (by decide) rfl ?_
    refine hz_iast (pc := 21) C (v := I 148 (i + k)) (j := j + k) (M' := (hz_sa I 147 (va_up (va_cpy (I 148) (I 147) i j k) (j + k) (I 148 (i + k))), L, PP q)) dX11_bring_21 hT147 hA147 rfl (by omega) (by decide) rfl (hz_sau _ _ _ _ _ _) ?_
    refine hz_iinc (pc := 22) C (v := nI (k + 1)) (ls' := [some (.ref 148), some (.int (nI i)), some (.ref 147), some (.int (nI j)), some (.int (nI m)), some (.int (nI (k + 1)))]) dX11_bring_22 rfl (nI_add _ 1) rfl ?_
    refine hz_goto (pc := 25) C (tgt := 3) dX11_bring_25 rfl ?_
    have h9 := ih (k + 1) (by omega)
    rw [← cpy_s] at h9
    exact h9
set_option maxHeartbeats 4000000 in
set_option maxRecDepth 100000 in
theorem ev_bring148_147 {I : Nat → Nat → Int32} {L : Nat → Nat → Int64} {q : Nat → Nat → Nat} {i j m : Nat} (h1 : i + m ≤ 181) (h2 : j + m ≤ 181) : hz_Ev mX11_bring TT NN (I, L, PP q) [.ref 148, .int (nI i), .ref 147, .int (nI j), .int (nI m)] 0 0 none TT NN (hz_sa I 147 (va_cpy (I 148) (I 147) i j m), L, PP q) := by
  refine hz_Ev.intro (ls := [some (.ref 148), some (.int (nI i)), some (.ref 147), some (.int (nI j)), some (.int (nI m)), none]) (by decide +kernel) rfl (Nat.le_of_ble_eq_true rfl) (fun X C Z _ => ?_)
  refine hz_iconst (pc := 0) C (v := nI 0) dX11_bring_0 (by decide +kernel) ?_
  refine hz_istore (pc := 1) C (ls' := [some (.ref 148), some (.int (nI i)), some (.ref 147), some (.int (nI j)), some (.int (nI m)), some (.int (nI 0))]) dX11_bring_1 (Nat.le_of_ble_eq_true rfl) rfl ?_
  refine Eq.mp (by rw [cpy_0, hz_sa_id]) (?_ : hz_G X TT NN (hz_sa I 147 (va_cpy (I 148) (I 147) i j 0), L, PP q) 0 0 3 [some (.ref 148), some (.int (nI i)), some (.ref 147), some (.int (nI j)), some (.int (nI m)), some (.int (nI 0))] [])
  refine lp_br148_147 C h1 h2 ?_ m 0 (by omega)
  exact hz_vret C Z rfl dX11_bring_28 rfl
set_option maxHeartbeats 4000000 in
set_option maxRecDepth 100000 in
theorem lp_br147_149 {X : hz_X} (C : hz_C X mX11_bring) {I : Nat → Nat → Int32} {L : Nat → Nat → Int64} {q : Nat → Nat → Nat} {i j m : Nat} (h1 : i + m ≤ 181) (h2 : j + m ≤ 362) (kk : hz_G X TT NN (hz_sa I 149 (va_cpy (I 147) (I 149) i j m), L, PP q) 0 0 28 [some (.ref 147), some (.int (nI i)), some (.ref 149), some (.int (nI j)), some (.int (nI m)), some (.int (nI m))] []) : ∀ (n k : Nat) , k + n = m → hz_G X TT NN (hz_sa I 149 (va_cpy (I 147) (I 149) i j k), L, PP q) 0 0 3 [some (.ref 147), some (.int (nI i)), some (.ref 149), some (.int (nI j)), some (.int (nI m)), some (.int (nI k))] [] := by
  intro n
  induction n with
  | zero =>
    intro k  hi 
    obtain rfl : k = m := by omega
    refine hz_iload (pc := 3) C dX11_bring_3 rfl ?_
    refine hz_iload (pc := 5) C dX11_bring_5 rfl ?_
    refine hz_ic_ge (pc := 7) C (tgt := 28) dX11_bring_7 rfl (fun _ => ?_) (fun cq => absurd (nI_le (by omega) (by omega)) cq)
    exact kk
  | succ n ih =>
    intro k  hi 
    refine hz_iload (pc := 3) C dX11_bring_3 rfl ?_
    refine hz_iload (pc := 5) C dX11_bring_5 rfl ?_
    refine hz_ic_ge (pc := 7) C (tgt := 28) dX11_bring_7 rfl (fun cq => absurd cq (nI_ge (by omega) (by omega))) (fun _ => ?_)
    refine hz_aload_n (pc := 10) C dX11_bring_10 rfl ?_
    refine hz_iload_n (pc := 11) C dX11_bring_11 rfl ?_
    refine hz_iload (pc := 12) C dX11_bring_12 rfl ?_
    refine hz_iadd (pc := 14) C (v := nI (j + k)) dX11_bring_14 (nI_add _ _) ?_
    refine hz_aload_n (pc := 15) C dX11_bring_15 rfl ?_
    refine hz_iload_n (pc := 16) C dX11_bring_16 rfl ?_
    refine hz_iload (pc := 17) C dX11_bring_17 rfl ?_
    refine hz_iadd (pc := 19) C (v := nI (i + k)) dX11_bring_19 (nI_add _ _) ?_
    refine hz_iald (pc := 20) C (v := I 147 (i + k)) (j := i + k) dX11_bring_20 hT147 hA147 rfl (by omega) (by decide) rfl ?_
    refine hz_iast (pc := 21) C (v := I 147 (i + k)) (j := j + k) (M' := (hz_sa I 149 (va_up (va_cpy (I 147) (I 149) i j k) (j + k) (I 147 (i + k))), L, PP q)) dX11_bring_21 hT149 hA149 rfl (by omega) (by decide) rfl (hz_sau _ _ _ _ _ _) ?_
    refine hz_iinc (pc := 22) C (v := nI (k + 1)) (ls' := [some (.ref 147), some (.int (nI i)), some (.ref 149), some (.int (nI j)), some (.int (nI m)), some (.int (nI (k + 1)))]) dX11_bring_22 rfl (nI_add _ 1) rfl ?_
    refine hz_goto (pc := 25) C (tgt := 3) dX11_bring_25 rfl ?_
    have h9 := ih (k + 1) (by omega)
    rw [← cpy_s] at h9
    exact h9
set_option maxHeartbeats 4000000 in
set_option maxRecDepth 100000 in
theorem ev_bring147_149 {I : Nat → Nat → Int32} {L : Nat → Nat → Int64} {q : Nat → Nat → Nat} {i j m : Nat} (h1 : i + m ≤ 181) (h2 : j + m ≤ 362) : hz_Ev mX11_bring TT NN (I, L, PP q) [.ref 147, .int (nI i), .ref 149, .int (nI j), .int (nI m)] 0 0 none TT NN (hz_sa I 149 (va_cpy (I 147) (I 149) i j m), L, PP q) := by
  refine hz_Ev.intro (ls := [some (.ref 147), some (.int (nI i)), some (.ref 149), some (.int (nI j)), some (.int (nI m)), none]) (by decide +kernel) rfl (Nat.le_of_ble_eq_true rfl) (fun X C Z _ => ?_)
  refine hz_iconst (pc := 0) C (v := nI 0) dX11_bring_0 (by decide +kernel) ?_
  refine hz_istore (pc := 1) C (ls' := [some (.ref 147), some (.int (nI i)), some (.ref 149), some (.int (nI j)), some (.int (nI m)), some (.int (nI 0))]) dX11_bring_1 (Nat.le_of_ble_eq_true rfl) rfl ?_
  refine Eq.mp (by rw [cpy_0, hz_sa_id]) (?_ : hz_G X TT NN (hz_sa I 149 (va_cpy (I 147) (I 149) i j 0), L, PP q) 0 0 3 [some (.ref 147), some (.int (nI i)), some (.ref 149), some (.int (nI j)), some (.int (nI m)), some (.int (nI 0))] [])
  refine lp_br147_149 C h1 h2 ?_ m 0 (by omega)
  exact hz_vret C Z rfl dX11_bring_28 rfl
set_option maxHeartbeats 4000000 in
set_option maxRecDepth 100000 in
theorem lp_br149_147 {X : hz_X} (C : hz_C X mX11_bring) {I : Nat → Nat → Int32} {L : Nat → Nat → Int64} {q : Nat → Nat → Nat} {i j m : Nat} (h1 : i + m ≤ 362) (h2 : j + m ≤ 181) (kk : hz_G X TT NN (hz_sa I 147 (va_cpy (I 149) (I 147) i j m), L, PP q) 0 0 28 [some (.ref 149), some (.int (nI i)), some (.ref 147), some (.int (nI j)), some (.int (nI m)), some (.int (nI m))] []) : ∀ (n k : Nat) , k + n = m → hz_G X TT NN (hz_sa I 147 (va_cpy (I 149) (I 147) i j k), L, PP q) 0 0 3 [some (.ref 149), some (.int (nI i)), some (.ref 147), some (.int (nI j)), some (.int (nI m)), some (.int (nI k))] [] := by
  intro n
  induction n with
  | zero =>
    intro k  hi 
    obtain rfl : k = m := by omega
    refine hz_iload (pc := 3) C dX11_bring_3 rfl ?_
    refine hz_iload (pc := 5) C dX11_bring_5 rfl ?_
    refine hz_ic_ge (pc := 7) C (tgt := 28) dX11_bring_7 rfl (fun _ => ?_) (fun cq => absurd (nI_le (by omega) (by omega)) cq)
    exact kk
  | succ n ih =>
    intro k  hi 
    refine hz_iload (pc := 3) C dX11_bring_3 rfl ?_
    refine hz_iload (pc := 5) C dX11_bring_5 rfl ?_
    refine hz_ic_ge (pc := 7) C (tgt := 28) dX11_bring_7 rfl (fun cq => absurd cq (nI_ge (by omega) (by omega))) (fun _ => ?_)
    refine hz_aload_n (pc := 10) C dX11_bring_10 rfl ?_
    refine hz_iload_n (pc := 11) C dX11_bring_11 rfl ?_
    refine hz_iload (pc := 12) C dX11_bring_12 rfl ?_
    refine hz_iadd (pc := 14) C (v := nI (j + k)) dX11_bring_14 (nI_add _ _) ?_
    refine hz_aload_n (pc := 15) C dX11_bring_15 rfl ?_
    refine hz_iload_n (pc := 16) C dX11_bring_16 rfl ?_
    refine hz_iload (pc := 17) C dX11_bring_17 rfl ?_
    refine hz_iadd (pc := 19) C (v := nI (i + k)) dX11_bring_19 (nI_add _ _) ?_
    refine hz_iald (pc := 20) C (v := I 149 (i + k)) (j := i + k) dX11_bring_20 hT149 hA149 rfl (by omega) (by decide) rfl ?_
    refine hz_iast (pc := 21) C (v := I 149 (i + k)) (j := j + k) (M' := (hz_sa I 147 (va_up (va_cpy (I 149) (I 147) i j k) (j + k) (I 149 (i + k))), L, PP q)) dX11_bring_21 hT147 hA147 rfl (by omega) (by decide) rfl (hz_sau _ _ _ _ _ _) ?_
    refine hz_iinc (pc := 22) C (v := nI (k + 1)) (ls' := [some (.ref 149), some (.int (nI i)), some (.ref 147), some (.int (nI j)), some (.int (nI m)), some (.int (nI (k + 1)))]) dX11_bring_22 rfl (nI_add _ 1) rfl ?_
    refine hz_goto (pc := 25) C (tgt := 3) dX11_bring_25 rfl ?_
    have h9 := ih (k + 1) (by omega)
    rw [← cpy_s] at h9
    exact h9
set_option maxHeartbeats 4000000 in
set_option maxRecDepth 100000 in
theorem ev_bring149_147 {I : Nat → Nat → Int32} {L : Nat → Nat → Int64} {q : Nat → Nat → Nat} {i j m : Nat} (h1 : i + m ≤ 362) (h2 : j + m ≤ 181) : hz_Ev mX11_bring TT NN (I, L, PP q) [.ref 149, .int (nI i), .ref 147, .int (nI j), .int (nI m)] 0 0 none TT NN (hz_sa I 147 (va_cpy (I 149) (I 147) i j m), L, PP q) := by
  refine hz_Ev.intro (ls := [some (.ref 149), some (.int (nI i)), some (.ref 147), some (.int (nI j)), some (.int (nI m)), none]) (by decide +kernel) rfl (Nat.le_of_ble_eq_true rfl) (fun X C Z _ => ?_)
  refine hz_iconst (pc := 0) C (v := nI 0) dX11_bring_0 (by decide +kernel) ?_
  refine hz_istore (pc := 1) C (ls' := [some (.ref 149), some (.int (nI i)), some (.ref 147), some (.int (nI j)), some (.int (nI m)), some (.int (nI 0))]) dX11_bring_1 (Nat.le_of_ble_eq_true rfl) rfl ?_
  refine Eq.mp (by rw [cpy_0, hz_sa_id]) (?_ : hz_G X TT NN (hz_sa I 147 (va_cpy (I 149) (I 147) i j 0), L, PP q) 0 0 3 [some (.ref 149), some (.int (nI i)), some (.ref 147), some (.int (nI j)), some (.int (nI m)), some (.int (nI 0))] [])
  refine lp_br149_147 C h1 h2 ?_ m 0 (by omega)
  exact hz_vret C Z rfl dX11_bring_28 rfl
set_option maxHeartbeats 4000000 in
set_option maxRecDepth 100000 in
theorem lp_br156_157 {X : hz_X} (C : hz_C X mX11_bring) {I : Nat → Nat → Int32} {L : Nat → Nat → Int64} {q : Nat → Nat → Nat} {i j m : Nat} (h1 : i + m ≤ 6) (h2 : j + m ≤ 6) (kk : hz_G X TT NN (hz_sa I 157 (va_cpy (I 156) (I 157) i j m), L, PP q) 0 0 28 [some (.ref 156), some (.int (nI i)), some (.ref 157), some (.int (nI j)), some (.int (nI m)), some (.int (nI m))] []) : ∀ (n k : Nat) , k + n = m → hz_G X TT NN (hz_sa I 157 (va_cpy (I 156) (I 157) i j k), L, PP q) 0 0 3 [some (.ref 156), some (.int (nI i)), some (.ref 157), some (.int (nI j)), some (.int (nI m)), some (.int (nI k))] [] := by
  intro n
  induction n with
  | zero =>
    intro k  hi 
    obtain rfl : k = m := by omega
    refine hz_iload (pc := 3) C dX11_bring_3 rfl ?_
    refine hz_iload (pc := 5) C dX11_bring_5 rfl ?_
    refine hz_ic_ge (pc := 7) C (tgt := 28) dX11_bring_7 rfl (fun _ => ?_) (fun cq => absurd (nI_le (by omega) (by omega)) cq)
    exact kk
  | succ n ih =>
    intro k  hi 
    refine hz_iload (pc := 3) C dX11_bring_3 rfl ?_
    refine hz_iload (pc := 5) C dX11_bring_5 rfl ?_
    refine hz_ic_ge (pc := 7) C (tgt := 28) dX11_bring_7 rfl (fun cq => absurd cq (nI_ge (by omega) (by omega))) (fun _ => ?_)
    refine hz_aload_n (pc := 10) C dX11_bring_10 rfl ?_
    refine hz_iload_n (pc := 11) C dX11_bring_11 rfl ?_
    refine hz_iload (pc := 12) C dX11_bring_12 rfl ?_
    refine hz_iadd (pc := 14) C (v := nI (j + k)) dX11_bring_14 (nI_add _ _) ?_
    refine hz_aload_n (pc := 15) C dX11_bring_15 rfl ?_
    refine hz_iload_n (pc := 16) C dX11_bring_16 rfl ?_
    refine hz_iload (pc := 17) C dX11_bring_17 rfl ?_
    refine hz_iadd (pc := 19) C (v := nI (i + k)) dX11_bring_19 (nI_add _ _) ?_
    refine hz_iald (pc := 20) C (v := I 156 (i + k)) (j := i + k) dX11_bring_20 hT156 hA156 rfl (by omega) (by decide) rfl ?_
    refine hz_iast (pc := 21) C (v := I 156 (i + k)) (j := j + k) (M' := (hz_sa I 157 (va_up (va_cpy (I 156) (I 157) i j k) (j + k) (I 156 (i + k))), L, PP q)) dX11_bring_21 hT157 hA157 rfl (by omega) (by decide) rfl (hz_sau _ _ _ _ _ _) ?_
    refine hz_iinc (pc := 22) C (v := nI (k + 1)) (ls' := [some (.ref 156), some (.int (nI i)), some (.ref 157), some (.int (nI j)), some (.int (nI m)), some (.int (nI (k + 1)))]) dX11_bring_22 rfl (nI_add _ 1) rfl ?_
    refine hz_goto (pc := 25) C (tgt := 3) dX11_bring_25 rfl ?_
    have h9 := ih (k + 1) (by omega)
    rw [← cpy_s] at h9
    exact h9
set_option maxHeartbeats 4000000 in
set_option maxRecDepth 100000 in
theorem ev_bring156_157 {I : Nat → Nat → Int32} {L : Nat → Nat → Int64} {q : Nat → Nat → Nat} {i j m : Nat} (h1 : i + m ≤ 6) (h2 : j + m ≤ 6) : hz_Ev mX11_bring TT NN (I, L, PP q) [.ref 156, .int (nI i), .ref 157, .int (nI j), .int (nI m)] 0 0 none TT NN (hz_sa I 157 (va_cpy (I 156) (I 157) i j m), L, PP q) := by
  refine hz_Ev.intro (ls := [some (.ref 156), some (.int (nI i)), some (.ref 157), some (.int (nI j)), some (.int (nI m)), none]) (by decide +kernel) rfl (Nat.le_of_ble_eq_true rfl) (fun X C Z _ => ?_)
  refine hz_iconst (pc := 0) C (v := nI 0) dX11_bring_0 (by decide +kernel) ?_
  refine hz_istore (pc := 1) C (ls' := [some (.ref 156), some (.int (nI i)), some (.ref 157), some (.int (nI j)), some (.int (nI m)), some (.int (nI 0))]) dX11_bring_1 (Nat.le_of_ble_eq_true rfl) rfl ?_
  refine Eq.mp (by rw [cpy_0, hz_sa_id]) (?_ : hz_G X TT NN (hz_sa I 157 (va_cpy (I 156) (I 157) i j 0), L, PP q) 0 0 3 [some (.ref 156), some (.int (nI i)), some (.ref 157), some (.int (nI j)), some (.int (nI m)), some (.int (nI 0))] [])
  refine lp_br156_157 C h1 h2 ?_ m 0 (by omega)
  exact hz_vret C Z rfl dX11_bring_28 rfl
set_option maxHeartbeats 4000000 in
set_option maxRecDepth 100000 in
theorem lp_br147_147 {X : hz_X} (C : hz_C X mX11_bring) {I : Nat → Nat → Int32} {L : Nat → Nat → Int64} {q : Nat → Nat → Nat} {i j m : Nat} (h1 : i + m ≤ 181) (h2 : j + m ≤ 181) (hd : i + m ≤ j ∨ j + m ≤ i) (kk : hz_G X TT NN (hz_sa I 147 (va_cpy (I 147) (I 147) i j m), L, PP q) 0 0 28 [some (.ref 147), some (.int (nI i)), some (.ref 147), some (.int (nI j)), some (.int (nI m)), some (.int (nI m))] []) : ∀ (n k : Nat) , k + n = m → hz_G X TT NN (hz_sa I 147 (va_cpy (I 147) (I 147) i j k), L, PP q) 0 0 3 [some (.ref 147), some (.int (nI i)), some (.ref 147), some (.int (nI j)), some (.int (nI m)), some (.int (nI k))] [] := by
  intro n
  induction n with
  | zero =>
    intro k  hi 
    obtain rfl : k = m := by omega
    refine hz_iload (pc := 3) C dX11_bring_3 rfl ?_
    refine hz_iload (pc := 5) C dX11_bring_5 rfl ?_
    refine hz_ic_ge (pc := 7) C (tgt := 28) dX11_bring_7 rfl (fun _ => ?_) (fun cq => absurd (nI_le (by omega) (by omega)) cq)
    exact kk
  | succ n ih =>
    intro k  hi 
    refine hz_iload (pc := 3) C dX11_bring_3 rfl ?_
    refine hz_iload (pc := 5) C dX11_bring_5 rfl ?_
    refine hz_ic_ge (pc := 7) C (tgt := 28) dX11_bring_7 rfl (fun cq => absurd cq (nI_ge (by omega) (by omega))) (fun _ => ?_)
    refine hz_aload_n (pc := 10) C dX11_bring_10 rfl ?_
    refine hz_iload_n (pc := 11) C dX11_bring_11 rfl ?_
    refine hz_iload (pc := 12) C dX11_bring_12 rfl ?_
    refine hz_iadd (pc := 14) C (v := nI (j + k)) dX11_bring_14 (nI_add _ _) ?_
    refine hz_aload_n (pc := 15) C dX11_bring_15 rfl ?_
    refine hz_iload_n (pc := 16) C dX11_bring_16 rfl ?_
    refine hz_iload (pc := 17) C dX11_bring_17 rfl ?_
    refine hz_iadd (pc := 19) C (v := nI (i + k)) dX11_bring_19 (nI_add _ _) ?_
    refine hz_iald (pc := 20) C (v := I 147 (i + k)) (j := i + k) dX11_bring_20 hT147 hA147 rfl (by omega) (by decide) (show va_cpy (I 147) (I 147) i j k (i + k) = I 147 (i + k) from cpy_o (by omega)) ?_
    refine hz_iast (pc := 21) C (v := I 147 (i + k)) (j := j + k) (M' := (hz_sa I 147 (va_up (va_cpy (I 147) (I 147) i j k) (j + k) (I 147 (i + k))), L, PP q)) dX11_bring_21 hT147 hA147 rfl (by omega) (by decide) rfl (hz_sau _ _ _ _ _ _) ?_
    refine hz_iinc (pc := 22) C (v := nI (k + 1)) (ls' := [some (.ref 147), some (.int (nI i)), some (.ref 147), some (.int (nI j)), some (.int (nI m)), some (.int (nI (k + 1)))]) dX11_bring_22 rfl (nI_add _ 1) rfl ?_
    refine hz_goto (pc := 25) C (tgt := 3) dX11_bring_25 rfl ?_
    have h9 := ih (k + 1) (by omega)
    rw [← cpy_s] at h9
    exact h9
set_option maxHeartbeats 4000000 in
set_option maxRecDepth 100000 in
theorem ev_bring147_147 {I : Nat → Nat → Int32} {L : Nat → Nat → Int64} {q : Nat → Nat → Nat} {i j m : Nat} (h1 : i + m ≤ 181) (h2 : j + m ≤ 181) (hd : i + m ≤ j ∨ j + m ≤ i) : hz_Ev mX11_bring TT NN (I, L, PP q) [.ref 147, .int (nI i), .ref 147, .int (nI j), .int (nI m)] 0 0 none TT NN (hz_sa I 147 (va_cpy (I 147) (I 147) i j m), L, PP q) := by
  refine hz_Ev.intro (ls := [some (.ref 147), some (.int (nI i)), some (.ref 147), some (.int (nI j)), some (.int (nI m)), none]) (by decide +kernel) rfl (Nat.le_of_ble_eq_true rfl) (fun X C Z _ => ?_)
  refine hz_iconst (pc := 0) C (v := nI 0) dX11_bring_0 (by decide +kernel) ?_
  refine hz_istore (pc := 1) C (ls' := [some (.ref 147), some (.int (nI i)), some (.ref 147), some (.int (nI j)), some (.int (nI m)), some (.int (nI 0))]) dX11_bring_1 (Nat.le_of_ble_eq_true rfl) rfl ?_
  refine Eq.mp (by rw [cpy_0, hz_sa_id]) (?_ : hz_G X TT NN (hz_sa I 147 (va_cpy (I 147) (I 147) i j 0), L, PP q) 0 0 3 [some (.ref 147), some (.int (nI i)), some (.ref 147), some (.int (nI j)), some (.int (nI m)), some (.int (nI 0))] [])
  refine lp_br147_147 C h1 h2 hd ?_ m 0 (by omega)
  exact hz_vret C Z rfl dX11_bring_28 rfl
set_option maxHeartbeats 4000000 in
set_option maxRecDepth 100000 in
theorem lp_bg147 {X : hz_X} (C : hz_C X mX11_begin) {I : Nat → Nat → Int32} {L : Nat → Nat → Int64} {q : Nat → Nat → Nat} (kk : ∀ f : Nat → Int32, (∀ j, j < 181 → f j = nI 0) → hz_G X TT NN (hz_sa I 147 f, L, PP q) 0 0 19 [some (.ref 147), some (.int (nI 181))] []) : ∀ (n i : Nat) (f : Nat → Int32), i + n = 181 → (∀ j, j < i → f j = nI 0) → hz_G X TT NN (hz_sa I 147 f, L, PP q) 0 0 2 [some (.ref 147), some (.int (nI i))] [] := by
  intro n
  induction n with
  | zero =>
    intro i f hi hf
    obtain rfl : i = 181 := by omega
    refine hz_iload_n (pc := 2) C dX11_begin_2 rfl ?_
    refine hz_sipush (pc := 3) C (v := nI 181) dX11_begin_3 (by decide +kernel) ?_
    refine hz_ic_ge (pc := 6) C (tgt := 19) dX11_begin_6 rfl (fun _ => ?_) (fun cq => absurd (nI_le (by omega) (by omega)) cq)
    exact kk f hf
  | succ n ih =>
    intro i f hi hf
    refine hz_iload_n (pc := 2) C dX11_begin_2 rfl ?_
    refine hz_sipush (pc := 3) C (v := nI 181) dX11_begin_3 (by decide +kernel) ?_
    refine hz_ic_ge (pc := 6) C (tgt := 19) dX11_begin_6 rfl (fun cq => absurd cq (nI_ge (by omega) (by omega))) (fun _ => ?_)
    refine hz_aload_n (pc := 9) C dX11_begin_9 rfl ?_
    refine hz_iload_n (pc := 10) C dX11_begin_10 rfl ?_
    refine hz_iconst (pc := 11) C (v := nI 0) dX11_begin_11 (by decide +kernel) ?_
    refine hz_iast (pc := 12) C (v := nI 0) (j := i) (M' := (hz_sa I 147 (va_up f i (nI 0)), L, PP q)) dX11_begin_12 hT147 hA147 rfl (by omega) (by decide) rfl (hz_sau _ _ _ _ _ _) ?_
    refine hz_iinc (pc := 13) C (v := nI (i + 1)) (ls' := [some (.ref 147), some (.int (nI (i + 1)))]) dX11_begin_13 rfl (nI_add _ 1) rfl ?_
    refine hz_goto (pc := 16) C (tgt := 2) dX11_begin_16 rfl ?_
    exact ih (i + 1) _ (by omega) (hz_upl (fun j y => y = nI 0) hf rfl)
set_option maxHeartbeats 4000000 in
set_option maxRecDepth 100000 in
theorem ev_begin147 {I : Nat → Nat → Int32} {L : Nat → Nat → Int64} {q : Nat → Nat → Nat} : hz_Ev mX11_begin TT NN (I, L, PP q) [.ref 147] 0 0 none TT NN (hz_sa I 147 (bg (I 147)), L, PP q) := by
  refine hz_Ev.intro (ls := [some (.ref 147), none]) (by decide +kernel) rfl (Nat.le_of_ble_eq_true rfl) (fun X C Z _ => ?_)
  refine hz_iconst (pc := 0) C (v := nI 0) dX11_begin_0 (by decide +kernel) ?_
  refine hz_istore_n (pc := 1) C (ls' := [some (.ref 147), some (.int (nI 0))]) dX11_begin_1 (Nat.le_of_ble_eq_true rfl) rfl ?_
  refine Eq.mpr (by rw [hz_sa_id]) (?_ : hz_G X TT NN (hz_sa I 147 (I 147), L, PP q) 0 0 2 [some (.ref 147), some (.int (nI 0))] [])
  refine lp_bg147 C (fun f hf => ?_) 181 0 (I 147) (by omega) (fun j h => absurd h (Nat.not_lt_zero _))
  refine hz_aload_n (pc := 19) C dX11_begin_19 rfl ?_
  refine hz_bipush (pc := 20) C (v := nI 92) dX11_begin_20 (by decide +kernel) ?_
  refine hz_iconst (pc := 22) C (v := nI 3) dX11_begin_22 (by decide +kernel) ?_
  refine hz_iast (pc := 23) C (v := nI 3) (j := 92) (M' := (hz_sa I 147 (va_up f 92 (nI 3)), L, PP q)) dX11_begin_23 hT147 hA147 rfl (by decide) (by decide) rfl (hz_sau _ _ _ _ _ _) ?_
  refine hz_cong (hz_sm_sa hT147 (by decide) (by decide) (fun j hj => ?_)) (hz_vret C Z rfl dX11_begin_24 rfl)
  unfold bg va_up
  rw [if_pos hj]
  by_cases e : j = 92
  · rw [if_pos e, if_pos e]
  · rw [if_neg e, if_neg e]
    exact hf j hj
set_option maxHeartbeats 4000000 in
set_option maxRecDepth 100000 in
theorem lp_bg148 {X : hz_X} (C : hz_C X mX11_begin) {I : Nat → Nat → Int32} {L : Nat → Nat → Int64} {q : Nat → Nat → Nat} (kk : ∀ f : Nat → Int32, (∀ j, j < 181 → f j = nI 0) → hz_G X TT NN (hz_sa I 148 f, L, PP q) 0 0 19 [some (.ref 148), some (.int (nI 181))] []) : ∀ (n i : Nat) (f : Nat → Int32), i + n = 181 → (∀ j, j < i → f j = nI 0) → hz_G X TT NN (hz_sa I 148 f, L, PP q) 0 0 2 [some (.ref 148), some (.int (nI i))] [] := by
  intro n
  induction n with
  | zero =>
    intro i f hi hf
    obtain rfl : i = 181 := by omega
    refine hz_iload_n (pc := 2) C dX11_begin_2 rfl ?_
    refine hz_sipush (pc := 3) C (v := nI 181) dX11_begin_3 (by decide +kernel) ?_
    refine hz_ic_ge (pc := 6) C (tgt := 19) dX11_begin_6 rfl (fun _ => ?_) (fun cq => absurd (nI_le (by omega) (by omega)) cq)
    exact kk f hf
  | succ n ih =>
    intro i f hi hf
    refine hz_iload_n (pc := 2) C dX11_begin_2 rfl ?_
    refine hz_sipush (pc := 3) C (v := nI 181) dX11_begin_3 (by decide +kernel) ?_
    refine hz_ic_ge (pc := 6) C (tgt := 19) dX11_begin_6 rfl (fun cq => absurd cq (nI_ge (by omega) (by omega))) (fun _ => ?_)
    refine hz_aload_n (pc := 9) C dX11_begin_9 rfl ?_
    refine hz_iload_n (pc := 10) C dX11_begin_10 rfl ?_
    refine hz_iconst (pc := 11) C (v := nI 0) dX11_begin_11 (by decide +kernel) ?_
    refine hz_iast (pc := 12) C (v := nI 0) (j := i) (M' := (hz_sa I 148 (va_up f i (nI 0)), L, PP q)) dX11_begin_12 hT148 hA148 rfl (by omega) (by decide) rfl (hz_sau _ _ _ _ _ _) ?_
    refine hz_iinc (pc := 13) C (v := nI (i + 1)) (ls' := [some (.ref 148), some (.int (nI (i + 1)))]) dX11_begin_13 rfl (nI_add _ 1) rfl ?_
    refine hz_goto (pc := 16) C (tgt := 2) dX11_begin_16 rfl ?_
    exact ih (i + 1) _ (by omega) (hz_upl (fun j y => y = nI 0) hf rfl)
set_option maxHeartbeats 4000000 in
set_option maxRecDepth 100000 in
theorem ev_begin148 {I : Nat → Nat → Int32} {L : Nat → Nat → Int64} {q : Nat → Nat → Nat} : hz_Ev mX11_begin TT NN (I, L, PP q) [.ref 148] 0 0 none TT NN (hz_sa I 148 (bg (I 148)), L, PP q) := by
  refine hz_Ev.intro (ls := [some (.ref 148), none]) (by decide +kernel) rfl (Nat.le_of_ble_eq_true rfl) (fun X C Z _ => ?_)
  refine hz_iconst (pc := 0) C (v := nI 0) dX11_begin_0 (by decide +kernel) ?_
  refine hz_istore_n (pc := 1) C (ls' := [some (.ref 148), some (.int (nI 0))]) dX11_begin_1 (Nat.le_of_ble_eq_true rfl) rfl ?_
  refine Eq.mpr (by rw [hz_sa_id]) (?_ : hz_G X TT NN (hz_sa I 148 (I 148), L, PP q) 0 0 2 [some (.ref 148), some (.int (nI 0))] [])
  refine lp_bg148 C (fun f hf => ?_) 181 0 (I 148) (by omega) (fun j h => absurd h (Nat.not_lt_zero _))
  refine hz_aload_n (pc := 19) C dX11_begin_19 rfl ?_
  refine hz_bipush (pc := 20) C (v := nI 92) dX11_begin_20 (by decide +kernel) ?_
  refine hz_iconst (pc := 22) C (v := nI 3) dX11_begin_22 (by decide +kernel) ?_
  refine hz_iast (pc := 23) C (v := nI 3) (j := 92) (M' := (hz_sa I 148 (va_up f 92 (nI 3)), L, PP q)) dX11_begin_23 hT148 hA148 rfl (by decide) (by decide) rfl (hz_sau _ _ _ _ _ _) ?_
  refine hz_cong (hz_sm_sa hT148 (by decide) (by decide) (fun j hj => ?_)) (hz_vret C Z rfl dX11_begin_24 rfl)
  unfold bg va_up
  rw [if_pos hj]
  by_cases e : j = 92
  · rw [if_pos e, if_pos e]
  · rw [if_neg e, if_neg e]
    exact hf j hj
set_option maxHeartbeats 4000000 in
set_option maxRecDepth 100000 in
theorem ev_addAl147 {I : Nat → Nat → Int32} {L : Nat → Nat → Int64} {q : Nat → Nat → Nat} {al : Nat} (hal : I 147 64 = nI al) (hal6 : al < 6) (kd rm ba : Int32) : hz_Ev mX11_addAlarm TT NN (I, L, PP q) [.ref 147, .int kd, .int rm, .int ba] 0 0 (some (.int (nI al))) TT NN (hz_up (hz_up (hz_up (hz_up I 147 (65 + al) kd) 147 (71 + al) rm) 147 (94 + al) ba) 147 64 (nI (al + 1)), L, PP q) := by
  refine hz_Ev.intro (ls := [some (.ref 147), some (.int kd), some (.int rm), some (.int ba), none]) (by decide +kernel) rfl (Nat.le_of_ble_eq_true rfl) (fun X C Z _ => ?_)
  refine hz_aload_n (pc := 0) C dX11_addAlarm_0 rfl ?_
  refine hz_bipush (pc := 1) C (v := nI 64) dX11_addAlarm_1 (by decide +kernel) ?_
  refine hz_iald (pc := 3) C (v := nI al) (j := 64) dX11_addAlarm_3 hT147 hA147 rfl (by decide) (by decide) hal ?_
  refine hz_istore (pc := 4) C (ls' := [some (.ref 147), some (.int kd), some (.int rm), some (.int ba), some (.int (nI al))]) dX11_addAlarm_4 (Nat.le_of_ble_eq_true rfl) rfl ?_
  refine hz_aload_n (pc := 6) C dX11_addAlarm_6 rfl ?_
  refine hz_bipush (pc := 7) C (v := nI 65) dX11_addAlarm_7 (by decide +kernel) ?_
  refine hz_iload (pc := 9) C dX11_addAlarm_9 rfl ?_
  refine hz_iadd (pc := 11) C (v := nI (65 + al)) dX11_addAlarm_11 (nI_add _ _) ?_
  refine hz_iload_n (pc := 12) C dX11_addAlarm_12 rfl ?_
  refine hz_iast (pc := 13) C (v := kd) (j := 65 + al) (M' := (hz_up I 147 (65 + al) kd, L, PP q)) dX11_addAlarm_13 hT147 hA147 rfl (by omega) (by decide) rfl rfl ?_
  refine hz_aload_n (pc := 14) C dX11_addAlarm_14 rfl ?_
  refine hz_bipush (pc := 15) C (v := nI 71) dX11_addAlarm_15 (by decide +kernel) ?_
  refine hz_iload (pc := 17) C dX11_addAlarm_17 rfl ?_
  refine hz_iadd (pc := 19) C (v := nI (71 + al)) dX11_addAlarm_19 (nI_add _ _) ?_
  refine hz_iload_n (pc := 20) C dX11_addAlarm_20 rfl ?_
  refine hz_iast (pc := 21) C (v := rm) (j := 71 + al) (M' := (hz_up (hz_up I 147 (65 + al) kd) 147 (71 + al) rm, L, PP q)) dX11_addAlarm_21 hT147 hA147 rfl (by omega) (by decide) rfl rfl ?_
  refine hz_aload_n (pc := 22) C dX11_addAlarm_22 rfl ?_
  refine hz_bipush (pc := 23) C (v := nI 94) dX11_addAlarm_23 (by decide +kernel) ?_
  refine hz_iload (pc := 25) C dX11_addAlarm_25 rfl ?_
  refine hz_iadd (pc := 27) C (v := nI (94 + al)) dX11_addAlarm_27 (nI_add _ _) ?_
  refine hz_iload_n (pc := 28) C dX11_addAlarm_28 rfl ?_
  refine hz_iast (pc := 29) C (v := ba) (j := 94 + al) (M' := (hz_up (hz_up (hz_up I 147 (65 + al) kd) 147 (71 + al) rm) 147 (94 + al) ba, L, PP q)) dX11_addAlarm_29 hT147 hA147 rfl (by omega) (by decide) rfl rfl ?_
  refine hz_aload_n (pc := 30) C dX11_addAlarm_30 rfl ?_
  refine hz_bipush (pc := 31) C (v := nI 64) dX11_addAlarm_31 (by decide +kernel) ?_
  refine hz_dup2 (pc := 33) C dX11_addAlarm_33 rfl rfl ?_
  refine hz_iald (pc := 34) C (v := nI al) (j := 64) dX11_addAlarm_34 hT147 hA147 rfl (by decide) (by decide) (by simp only [hz_up, va_up, if_pos]; rw [if_neg (by omega), if_neg (by omega), if_neg (by omega)]; exact hal) ?_
  refine hz_iconst (pc := 35) C (v := nI 1) dX11_addAlarm_35 (by decide +kernel) ?_
  refine hz_iadd (pc := 36) C (v := nI (al + 1)) dX11_addAlarm_36 (nI_add _ _) ?_
  refine hz_iast (pc := 37) C (v := nI (al + 1)) (j := 64) (M' := (hz_up (hz_up (hz_up (hz_up I 147 (65 + al) kd) 147 (71 + al) rm) 147 (94 + al) ba) 147 64 (nI (al + 1)), L, PP q)) dX11_addAlarm_37 hT147 hA147 rfl (by decide) (by decide) rfl rfl ?_
  refine hz_iload (pc := 38) C dX11_addAlarm_38 rfl ?_
  exact hz_iret C Z rfl dX11_addAlarm_40 rfl rfl
set_option maxHeartbeats 4000000 in
set_option maxRecDepth 100000 in
theorem ev_addAl148 {I : Nat → Nat → Int32} {L : Nat → Nat → Int64} {q : Nat → Nat → Nat} {al : Nat} (hal : I 148 64 = nI al) (hal6 : al < 6) (kd rm ba : Int32) : hz_Ev mX11_addAlarm TT NN (I, L, PP q) [.ref 148, .int kd, .int rm, .int ba] 0 0 (some (.int (nI al))) TT NN (hz_up (hz_up (hz_up (hz_up I 148 (65 + al) kd) 148 (71 + al) rm) 148 (94 + al) ba) 148 64 (nI (al + 1)), L, PP q) := by
  refine hz_Ev.intro (ls := [some (.ref 148), some (.int kd), some (.int rm), some (.int ba), none]) (by decide +kernel) rfl (Nat.le_of_ble_eq_true rfl) (fun X C Z _ => ?_)
  refine hz_aload_n (pc := 0) C dX11_addAlarm_0 rfl ?_
  refine hz_bipush (pc := 1) C (v := nI 64) dX11_addAlarm_1 (by decide +kernel) ?_
  refine hz_iald (pc := 3) C (v := nI al) (j := 64) dX11_addAlarm_3 hT148 hA148 rfl (by decide) (by decide) hal ?_
  refine hz_istore (pc := 4) C (ls' := [some (.ref 148), some (.int kd), some (.int rm), some (.int ba), some (.int (nI al))]) dX11_addAlarm_4 (Nat.le_of_ble_eq_true rfl) rfl ?_
  refine hz_aload_n (pc := 6) C dX11_addAlarm_6 rfl ?_
  refine hz_bipush (pc := 7) C (v := nI 65) dX11_addAlarm_7 (by decide +kernel) ?_
  refine hz_iload (pc := 9) C dX11_addAlarm_9 rfl ?_
  refine hz_iadd (pc := 11) C (v := nI (65 + al)) dX11_addAlarm_11 (nI_add _ _) ?_
  refine hz_iload_n (pc := 12) C dX11_addAlarm_12 rfl ?_
  refine hz_iast (pc := 13) C (v := kd) (j := 65 + al) (M' := (hz_up I 148 (65 + al) kd, L, PP q)) dX11_addAlarm_13 hT148 hA148 rfl (by omega) (by decide) rfl rfl ?_
  refine hz_aload_n (pc := 14) C dX11_addAlarm_14 rfl ?_
  refine hz_bipush (pc := 15) C (v := nI 71) dX11_addAlarm_15 (by decide +kernel) ?_
  refine hz_iload (pc := 17) C dX11_addAlarm_17 rfl ?_
  refine hz_iadd (pc := 19) C (v := nI (71 + al)) dX11_addAlarm_19 (nI_add _ _) ?_
  refine hz_iload_n (pc := 20) C dX11_addAlarm_20 rfl ?_
  refine hz_iast (pc := 21) C (v := rm) (j := 71 + al) (M' := (hz_up (hz_up I 148 (65 + al) kd) 148 (71 + al) rm, L, PP q)) dX11_addAlarm_21 hT148 hA148 rfl (by omega) (by decide) rfl rfl ?_
  refine hz_aload_n (pc := 22) C dX11_addAlarm_22 rfl ?_
  refine hz_bipush (pc := 23) C (v := nI 94) dX11_addAlarm_23 (by decide +kernel) ?_
  refine hz_iload (pc := 25) C dX11_addAlarm_25 rfl ?_
  refine hz_iadd (pc := 27) C (v := nI (94 + al)) dX11_addAlarm_27 (nI_add _ _) ?_
  refine hz_iload_n (pc := 28) C dX11_addAlarm_28 rfl ?_
  refine hz_iast (pc := 29) C (v := ba) (j := 94 + al) (M' := (hz_up (hz_up (hz_up I 148 (65 + al) kd) 148 (71 + al) rm) 148 (94 + al) ba, L, PP q)) dX11_addAlarm_29 hT148 hA148 rfl (by omega) (by decide) rfl rfl ?_
  refine hz_aload_n (pc := 30) C dX11_addAlarm_30 rfl ?_
  refine hz_bipush (pc := 31) C (v := nI 64) dX11_addAlarm_31 (by decide +kernel) ?_
  refine hz_dup2 (pc := 33) C dX11_addAlarm_33 rfl rfl ?_
  refine hz_iald (pc := 34) C (v := nI al) (j := 64) dX11_addAlarm_34 hT148 hA148 rfl (by decide) (by decide) (by simp only [hz_up, va_up, if_pos]; rw [if_neg (by omega), if_neg (by omega), if_neg (by omega)]; exact hal) ?_
  refine hz_iconst (pc := 35) C (v := nI 1) dX11_addAlarm_35 (by decide +kernel) ?_
  refine hz_iadd (pc := 36) C (v := nI (al + 1)) dX11_addAlarm_36 (nI_add _ _) ?_
  refine hz_iast (pc := 37) C (v := nI (al + 1)) (j := 64) (M' := (hz_up (hz_up (hz_up (hz_up I 148 (65 + al) kd) 148 (71 + al) rm) 148 (94 + al) ba) 148 64 (nI (al + 1)), L, PP q)) dX11_addAlarm_37 hT148 hA148 rfl (by decide) (by decide) rfl rfl ?_
  refine hz_iload (pc := 38) C dX11_addAlarm_38 rfl ?_
  exact hz_iret C Z rfl dX11_addAlarm_40 rfl rfl
set_option maxHeartbeats 4000000 in
set_option maxRecDepth 100000 in
theorem ev_passM {I : Nat → Nat → Int32} {L : Nat → Nat → Int64} {q : Nat → Nat → Nat} (n : Int32) : hz_Ev mX11_pass TT NN (I, L, PP q) [.ref 146, .int n] 0 0 none TT NN (hz_up I 147 90 (if nI 9999 < (I 147 90) + n then nI 9999 else (I 147 90) + n), L, PP q) := by
  refine hz_Ev.intro (ls := [some (.ref 146), some (.int n), none]) (by decide +kernel) rfl (Nat.le_of_ble_eq_true rfl) (fun X C Z _ => ?_)
  refine hz_aload_n (pc := 0) C dX11_pass_0 rfl ?_
  refine hz_getP (pc := 1) C (v := 147) ffX11_7 dX11_pass_1 hT146 hA146 rfl (hP146_0 q) (by decide) ?_
  refine hz_bipush (pc := 4) C (v := nI 90) dX11_pass_4 (by decide +kernel) ?_
  refine hz_iald (pc := 6) C (v := I 147 90) (j := 90) dX11_pass_6 hT147 hA147 rfl (by decide) (by decide) rfl ?_
  refine hz_iload_n (pc := 7) C dX11_pass_7 rfl ?_
  refine hz_iadd (pc := 8) C dX11_pass_8 rfl ?_
  refine hz_istore_n (pc := 9) C (ls' := [some (.ref 146), some (.int n), some (.int ((I 147 90) + n))]) dX11_pass_9 (Nat.le_of_ble_eq_true rfl) rfl ?_
  refine hz_aload_n (pc := 10) C dX11_pass_10 rfl ?_
  refine hz_getP (pc := 11) C (v := 147) ffX11_7 dX11_pass_11 hT146 hA146 rfl (hP146_0 q) (by decide) ?_
  refine hz_bipush (pc := 14) C (v := nI 90) dX11_pass_14 (by decide +kernel) ?_
  refine hz_iload_n (pc := 16) C dX11_pass_16 rfl ?_
  refine hz_sipush (pc := 17) C (v := nI 9999) dX11_pass_17 (by decide +kernel) ?_
  refine hz_ic_le (pc := 20) C (tgt := 29) dX11_pass_20 rfl (fun c1 => ?_) (fun c1 => ?_)
  · refine hz_iload_n (pc := 29) C dX11_pass_29 rfl ?_
    refine hz_iast (pc := 30) C (v := (I 147 90) + n) (j := 90) (M' := (hz_up I 147 90 ((I 147 90) + n), L, PP q)) dX11_pass_30 hT147 hA147 rfl (by decide) (by decide) rfl rfl ?_
    exact hz_vret C Z rfl dX11_pass_31 (by first | rw [if_pos c1] | rw [if_neg c1] | rw [if_neg (Int32.not_lt.mpr c1)] | rw [if_pos (Int32.not_le.mp c1)])
  · refine hz_sipush (pc := 23) C (v := nI 9999) dX11_pass_23 (by decide +kernel) ?_
    refine hz_goto (pc := 26) C (tgt := 30) dX11_pass_26 rfl ?_
    refine hz_iast (pc := 30) C (v := nI 9999) (j := 90) (M' := (hz_up I 147 90 (nI 9999), L, PP q)) dX11_pass_30 hT147 hA147 rfl (by decide) (by decide) rfl rfl ?_
    exact hz_vret C Z rfl dX11_pass_31 (by first | rw [if_pos c1] | rw [if_neg c1] | rw [if_neg (Int32.not_lt.mpr c1)] | rw [if_pos (Int32.not_le.mp c1)])

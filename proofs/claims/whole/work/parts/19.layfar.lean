/-! THE REFERENCE: its row of numbers is u, its row of ways is that of ds -/
def isT (j : Nat) : Bool := decide (j = 79) || decide (j = 81) || decide (j = 83) || decide (j = 85) || decide (j = 87) || decide (j = 89)
def mv (u : Nat → Nat) (j : Nat) : Int32 := if isT j = true then nI (u j) - 1 else nI (u j)
def MV (I : Nat → Nat → Int32) (u : Nat → Nat) : Prop := ∀ j, j < 181 → I 147 j = mv u j
theorem mv_n {u : Nat → Nat} {j : Nat} (h : j < 79 ∨ 89 < j) : mv u j = nI (u j) := by
  unfold mv
  rw [if_neg (by simp only [isT, Bool.or_eq_true, decide_eq_true_eq]; omega)]
theorem mv_r {u : Nat → Nat} {i : Nat} : mv u (78 + 2 * i) = nI (u (78 + 2 * i)) := by
  unfold mv
  rw [if_neg (by simp only [isT, Bool.or_eq_true, decide_eq_true_eq]; omega)]
theorem mv_t {u : Nat → Nat} {i : Nat} (h : i < 6) : mv u (79 + 2 * i) = nI (u (79 + 2 * i)) - 1 := by
  unfold mv
  rw [if_pos (by simp only [isT, Bool.or_eq_true, decide_eq_true_eq]; omega)]
theorem mg {I : Nat → Nat → Int32} {u : Nat → Nat} (V : MV I u) {j : Nat} (hj : j < 181) (h : j < 79 ∨ 89 < j) : I 147 j = nI (u j) := (V j hj).trans (mv_n h)
def fa (x : Nat) : Int32 := if 1000 ≤ x then -1 else nI x
theorem fa_neg {x : Nat} (hx : x ≤ 1000) : fa x < 0 ↔ 1000 ≤ x := by
  unfold fa
  by_cases h : 1000 ≤ x
  · rw [if_pos h]; exact ⟨fun _ => h, fun _ => by decide⟩
  · rw [if_neg h]; exact ⟨fun z => absurd z (nI_pos (by omega)), fun z => absurd z h⟩
theorem fa_fin {x : Nat} (h : ¬ 1000 ≤ x) : fa x = nI x := if_neg h
theorem fa_inf {x : Nat} (h : 1000 ≤ x) : fa x = -1 := if_pos h
def lf_F (u : Nat → Nat) (v a b : Nat) (f : Nat → Int32) : Prop := ∀ a' b', a' < 8 → b' < 8 → f (8 * a' + b') = fa (if a' < a ∨ (a' = a ∧ b' < b) then fwk u (v + 1) a' b' else fwk u v a' b')
def lf_0 (u : Nat → Nat) (a b : Nat) (f : Nat → Int32) : Prop := ∀ a' b', a' < 8 → b' < 8 → (a' < a ∨ (a' = a ∧ b' < b)) → f (8 * a' + b') = fa (fw0 u a' b')
theorem hz_up3 {f : Nat → Int32} {x : Int32} {a b a' b' : Nat} (hb : b < 8) (hb' : b' < 8) : va_up f (8 * a + b) x (8 * a' + b') = if a' = a ∧ b' = b then x else f (8 * a' + b') := by
  unfold va_up
  by_cases e : a' = a ∧ b' = b
  · rw [if_pos e, if_pos (by obtain ⟨rfl, rfl⟩ := e; rfl)]
  · rw [if_neg e, if_neg (by omega)]
/-- one step of the reference's rows of ways -/
def lf_s (x p r : Int32) : Int32 := if (¬ (if p < 0 ∨ ¬ 0 ≤ r then (-1 : Int32) else p + r) < 0) ∧ (x < 0 ∨ ¬ x ≤ (if p < 0 ∨ ¬ 0 ≤ r then (-1 : Int32) else p + r)) then (if p < 0 ∨ ¬ 0 ≤ r then (-1 : Int32) else p + r) else x
theorem fa_ge {x : Nat} (hx : x ≤ 1000) : 0 ≤ fa x ↔ ¬ 1000 ≤ x := by
  unfold fa
  by_cases h : 1000 ≤ x
  · rw [if_pos h]; exact ⟨fun z => absurd z (by decide), fun z => absurd h z⟩
  · rw [if_neg h]; exact ⟨fun _ => h, fun _ => nI_pos' (by omega)⟩
theorem lf_step {x p r : Nat} (hx : x ≤ 1000) (hp : p ≤ 1000) (hr : r ≤ 1000) (hp2 : p < 1000 → p ≤ 63) (hr2 : r < 1000 → r ≤ 63) : lf_s (fa x) (fa p) (fa r) = fa (min x (p + r)) := by
  unfold lf_s
  by_cases h : 1000 ≤ p ∨ 1000 ≤ r
  · have e : (if fa p < 0 ∨ ¬ 0 ≤ fa r then (-1 : Int32) else fa p + fa r) = -1 := if_pos (by rw [fa_neg hp, fa_ge hr]; omega)
    rw [e, if_neg (by intro z; exact z.1 (by decide)), Nat.min_eq_left (by omega)]
  · have e : (if fa p < 0 ∨ ¬ 0 ≤ fa r then (-1 : Int32) else fa p + fa r) = nI (p + r) := by
      rw [if_neg (by rw [fa_neg hp, fa_ge hr]; omega), fa_fin (by omega), fa_fin (by omega), nI_add]
    rw [e]
    by_cases h2 : 1000 ≤ x
    · rw [if_pos ⟨nI_pos (by omega), Or.inl ((fa_neg hx).mpr h2)⟩, Nat.min_eq_right (by omega), fa_fin (by omega)]
    · rw [fa_fin h2]
      by_cases h3 : p + r < x
      · rw [if_pos ⟨nI_pos (by omega), Or.inr (nI_ge h3 (by omega))⟩, Nat.min_eq_right (by omega), fa_fin (by omega)]
      · rw [if_neg, Nat.min_eq_left (by omega), fa_fin h2]
        intro z
        rcases z.2 with z2 | z2
        · exact nI_pos (by omega) z2
        · exact z2 (nI_le (by omega) (by omega))
set_option maxHeartbeats 4000000 in
set_option maxRecDepth 100000 in
theorem ev_farOf {I : Nat → Nat → Int32} {L : Nat → Nat → Int64} {q : Nat → Nat → Nat} {a b : Nat} (ha : a < 8) (hb : b < 8) : hz_Ev mX11_farOf TT NN (I, L, PP q) [.ref 146, .int (nI a), .int (nI b)] 0 0 (some (.int (I 153 (8 * a + b)))) TT NN (I, L, PP q) := by
  refine hz_Ev.intro (ls := [some (.ref 146), some (.int (nI a)), some (.int (nI b))]) (by decide +kernel) rfl (Nat.le_of_ble_eq_true rfl) (fun X C Z _ => ?_)
  refine hz_aload_n (pc := 0) C dX11_farOf_0 rfl ?_
  refine hz_getP (pc := 1) C (v := 153) ffX11_33 dX11_farOf_1 hT146 hA146 rfl (hP146_15 q) (by decide) ?_
  refine hz_bipush (pc := 4) C (v := nI 8) dX11_farOf_4 (by decide +kernel) ?_
  refine hz_iload_n (pc := 6) C dX11_farOf_6 rfl ?_
  refine hz_imul (pc := 7) C (v := nI (8 * a)) dX11_farOf_7 (pk_mul _ _) ?_
  refine hz_iload_n (pc := 8) C dX11_farOf_8 rfl ?_
  refine hz_iadd (pc := 9) C (v := nI ((8 * a) + b)) dX11_farOf_9 (nI_add _ _) ?_
  refine hz_iald (pc := 10) C (v := I 153 ((8 * a) + b)) (j := (8 * a) + b) dX11_farOf_10 hT153 hA153 rfl (by omega) (by decide) rfl ?_
  exact hz_iret C Z rfl dX11_farOf_11 rfl rfl
theorem ev_farX {I : Nat → Nat → Int32} {L : Nat → Nat → Int64} {q : Nat → Nat → Nat} {a b : Nat} (ha : a < 8) (hb : b < 8) {x : Int32} (hx : I 153 (8 * a + b) = x) : hz_Ev mX11_farOf TT NN (I, L, PP q) [.ref 146, .int (nI a), .int (nI b)] 0 0 (some (.int x)) TT NN (I, L, PP q) := by
  subst hx
  exact ev_farOf ha hb
set_option maxHeartbeats 4000000 in
set_option maxRecDepth 100000 in
theorem lp_lf2 {X : hz_X} (C : hz_C X mX11_layFar) {I : Nat → Nat → Int32} {L : Nat → Nat → Int64} {q : Nat → Nat → Nat} {u : Nat → Nat} (V : MV I u) (U : WU u) {a : Nat} (ha : a < 8) (kk : ∀ (f : Nat → Int32) (w3 : Option Value), lf_0 u a 8 f → hz_G X TT NN (hz_sa I 153 f, L, PP q) 0 0 63 [some (.ref 146), some (.int (nI a)), some (.int (nI 8)), w3, none, none] []) : ∀ (n b : Nat) (f : Nat → Int32) (w3 : Option Value), b + n = 8 → lf_0 u a b f → hz_G X TT NN (hz_sa I 153 f, L, PP q) 0 0 10 [some (.ref 146), some (.int (nI a)), some (.int (nI b)), w3, none, none] [] := by
  intro n
  induction n with
  | zero =>
    intro b f w3 hi hf
    obtain rfl : b = 8 := by omega
    skip
    refine hz_iload_n (pc := 10) C dX11_layFar_10 rfl ?_
    refine hz_bipush (pc := 11) C (v := nI 8) dX11_layFar_11 (by decide +kernel) ?_
    refine hz_ic_ge (pc := 13) C (tgt := 63) dX11_layFar_13 rfl (fun _ => ?_) (fun cq => absurd (nI_le (by omega) (by omega)) cq)
    exact kk f _ hf
  | succ n ih =>
    intro b f w3 hi hf
    have hu := wu_dr U (j := 8 * a + b) (by omega)
    refine hz_iload_n (pc := 10) C dX11_layFar_10 rfl ?_
    refine hz_bipush (pc := 11) C (v := nI 8) dX11_layFar_11 (by decide +kernel) ?_
    refine hz_ic_ge (pc := 13) C (tgt := 63) dX11_layFar_13 rfl (fun cq => absurd cq (nI_ge (by omega) (by omega))) (fun _ => ?_)
    refine hz_aload_n (pc := 16) C dX11_layFar_16 rfl ?_
    refine hz_getP (pc := 17) C (v := 147) ffX11_7 dX11_layFar_17 hT146 hA146 rfl (hP146_0 q) (by decide) ?_
    refine hz_bipush (pc := 20) C (v := nI 8) dX11_layFar_20 (by decide +kernel) ?_
    refine hz_iload_n (pc := 22) C dX11_layFar_22 rfl ?_
    refine hz_imul (pc := 23) C (v := nI (8 * a)) dX11_layFar_23 (pk_mul _ _) ?_
    refine hz_iload_n (pc := 24) C dX11_layFar_24 rfl ?_
    refine hz_iadd (pc := 25) C (v := nI ((8 * a) + b)) dX11_layFar_25 (nI_add _ _) ?_
    refine hz_iald (pc := 26) C (v := nI (u ((8 * a) + b))) (j := (8 * a) + b) dX11_layFar_26 hT147 hA147 rfl (by omega) (by decide) (mg V (by omega) (by omega)) ?_
    refine hz_istore_n (pc := 27) C (ls' := [some (.ref 146), some (.int (nI a)), some (.int (nI b)), some (.int (nI (u ((8 * a) + b)))), none, none]) dX11_layFar_27 (Nat.le_of_ble_eq_true rfl) rfl ?_
    refine hz_aload_n (pc := 28) C dX11_layFar_28 rfl ?_
    refine hz_getP (pc := 29) C (v := 153) ffX11_33 dX11_layFar_29 hT146 hA146 rfl (hP146_15 q) (by decide) ?_
    refine hz_bipush (pc := 32) C (v := nI 8) dX11_layFar_32 (by decide +kernel) ?_
    refine hz_iload_n (pc := 34) C dX11_layFar_34 rfl ?_
    refine hz_imul (pc := 35) C (v := nI (8 * a)) dX11_layFar_35 (pk_mul _ _) ?_
    refine hz_iload_n (pc := 36) C dX11_layFar_36 rfl ?_
    refine hz_iadd (pc := 37) C (v := nI ((8 * a) + b)) dX11_layFar_37 (nI_add _ _) ?_
    refine hz_iload_n (pc := 38) C dX11_layFar_38 rfl ?_
    refine hz_iload_n (pc := 39) C dX11_layFar_39 rfl ?_
    refine hz_ic_ne (pc := 40) C (tgt := 47) dX11_layFar_40 rfl (fun c1 => ?_) (fun c1 => ?_)
    · refine hz_iload_n (pc := 47) C dX11_layFar_47 rfl ?_
      refine hz_if_ne (pc := 48) C (tgt := 55) dX11_layFar_48 rfl (fun c2 => ?_) (fun c2 => ?_)
      · refine hz_iload_n (pc := 55) C dX11_layFar_55 rfl ?_
        refine hz_iast (pc := 56) C (v := nI (u ((8 * a) + b))) (j := (8 * a) + b) (M' := (hz_sa I 153 (va_up f ((8 * a) + b) (nI (u ((8 * a) + b)))), L, PP q)) dX11_layFar_56 hT153 hA153 rfl (by omega) (by decide) rfl (hz_sau _ _ _ _ _ _) ?_
        refine hz_iinc (pc := 57) C (v := nI (b + 1)) (ls' := [some (.ref 146), some (.int (nI a)), some (.int (nI (b + 1))), some (.int (nI (u ((8 * a) + b)))), none, none]) dX11_layFar_57 rfl (nI_add _ 1) rfl ?_
        refine hz_goto (pc := 60) C (tgt := 10) dX11_layFar_60 rfl ?_
        exact ih (b + 1) _ _ (by omega) (fun a' b' ha' hb' hd => by
          rw [hz_up3 (by omega) hb']
          by_cases e : a' = a ∧ b' = b
          · obtain ⟨rfl, rfl⟩ := e
            rw [if_pos ⟨rfl, rfl⟩]
            have e9 : ¬ a' = b' := fun z => c1 ((nI_eq (by omega) (by omega)).mpr z)
            rw [show fw0 u a' b' = u (8 * a' + b') from (if_neg e9).trans (if_neg (fun z => c2 (by rw [z]; rfl))), fa_fin (by omega)]
          · rw [if_neg e]
            exact hf a' b' ha' hb' (by omega))
      · refine hz_iconst (pc := 51) C (v := (-1 : Int32)) dX11_layFar_51 (by decide +kernel) ?_
        refine hz_goto (pc := 52) C (tgt := 56) dX11_layFar_52 rfl ?_
        refine hz_iast (pc := 56) C (v := (-1 : Int32)) (j := (8 * a) + b) (M' := (hz_sa I 153 (va_up f ((8 * a) + b) (-1 : Int32)), L, PP q)) dX11_layFar_56 hT153 hA153 rfl (by omega) (by decide) rfl (hz_sau _ _ _ _ _ _) ?_
        refine hz_iinc (pc := 57) C (v := nI (b + 1)) (ls' := [some (.ref 146), some (.int (nI a)), some (.int (nI (b + 1))), some (.int (nI (u ((8 * a) + b)))), none, none]) dX11_layFar_57 rfl (nI_add _ 1) rfl ?_
        refine hz_goto (pc := 60) C (tgt := 10) dX11_layFar_60 rfl ?_
        exact ih (b + 1) _ _ (by omega) (fun a' b' ha' hb' hd => by
          rw [hz_up3 (by omega) hb']
          by_cases e : a' = a ∧ b' = b
          · obtain ⟨rfl, rfl⟩ := e
            rw [if_pos ⟨rfl, rfl⟩]
            have e9 : ¬ a' = b' := fun z => c1 ((nI_eq (by omega) (by omega)).mpr z)
            have e8 : u (8 * a' + b') = 0 := Decidable.byContradiction fun z => nI_ne0 (by omega) (by omega) c2
            rw [show fw0 u a' b' = 1000 from (if_neg e9).trans (if_pos e8)]
            rfl
          · rw [if_neg e]
            exact hf a' b' ha' hb' (by omega))
    · refine hz_iconst (pc := 43) C (v := nI 0) dX11_layFar_43 (by decide +kernel) ?_
      refine hz_goto (pc := 44) C (tgt := 56) dX11_layFar_44 rfl ?_
      refine hz_iast (pc := 56) C (v := nI 0) (j := (8 * a) + b) (M' := (hz_sa I 153 (va_up f ((8 * a) + b) (nI 0)), L, PP q)) dX11_layFar_56 hT153 hA153 rfl (by omega) (by decide) rfl (hz_sau _ _ _ _ _ _) ?_
      refine hz_iinc (pc := 57) C (v := nI (b + 1)) (ls' := [some (.ref 146), some (.int (nI a)), some (.int (nI (b + 1))), some (.int (nI (u ((8 * a) + b)))), none, none]) dX11_layFar_57 rfl (nI_add _ 1) rfl ?_
      refine hz_goto (pc := 60) C (tgt := 10) dX11_layFar_60 rfl ?_
      exact ih (b + 1) _ _ (by omega) (fun a' b' ha' hb' hd => by
        rw [hz_up3 (by omega) hb']
        by_cases e : a' = a ∧ b' = b
        · obtain ⟨rfl, rfl⟩ := e
          rw [if_pos ⟨rfl, rfl⟩]
          have e9 := (nI_eq (by omega) (by omega)).mp c1
          rw [show fw0 u a' b' = 0 from if_pos e9]
          rfl
        · rw [if_neg e]
          exact hf a' b' ha' hb' (by omega))
set_option maxHeartbeats 4000000 in
set_option maxRecDepth 100000 in
theorem lp_lf1 {X : hz_X} (C : hz_C X mX11_layFar) {I : Nat → Nat → Int32} {L : Nat → Nat → Int64} {q : Nat → Nat → Nat} {u : Nat → Nat} (V : MV I u) (U : WU u) (kk : ∀ (f : Nat → Int32) (w2 w3 : Option Value), (∀ a b, a < 8 → b < 8 → f (8 * a + b) = fa (fw0 u a b)) → hz_G X TT NN (hz_sa I 153 f, L, PP q) 0 0 69 [some (.ref 146), some (.int (nI 8)), w2, w3, none, none] []) : ∀ (n a : Nat) (f : Nat → Int32) (w2 w3 : Option Value), a + n = 8 → lf_0 u a 0 f → hz_G X TT NN (hz_sa I 153 f, L, PP q) 0 0 2 [some (.ref 146), some (.int (nI a)), w2, w3, none, none] [] := by
  intro n
  induction n with
  | zero =>
    intro a f w2 w3 hi hf
    obtain rfl : a = 8 := by omega
    refine hz_iload_n (pc := 2) C dX11_layFar_2 rfl ?_
    refine hz_bipush (pc := 3) C (v := nI 8) dX11_layFar_3 (by decide +kernel) ?_
    refine hz_ic_ge (pc := 5) C (tgt := 69) dX11_layFar_5 rfl (fun _ => ?_) (fun cq => absurd (nI_le (by omega) (by omega)) cq)
    exact kk f _ _ (fun a b ha hb => hf a b ha hb (by omega))
  | succ n ih =>
    intro a f w2 w3 hi hf
    refine hz_iload_n (pc := 2) C dX11_layFar_2 rfl ?_
    refine hz_bipush (pc := 3) C (v := nI 8) dX11_layFar_3 (by decide +kernel) ?_
    refine hz_ic_ge (pc := 5) C (tgt := 69) dX11_layFar_5 rfl (fun cq => absurd cq (nI_ge (by omega) (by omega))) (fun _ => ?_)
    refine hz_iconst (pc := 8) C (v := nI 0) dX11_layFar_8 (by decide +kernel) ?_
    refine hz_istore_n (pc := 9) C (ls' := [some (.ref 146), some (.int (nI a)), some (.int (nI 0)), w3, none, none]) dX11_layFar_9 (Nat.le_of_ble_eq_true rfl) rfl ?_
    refine lp_lf2 C V U (by omega) (fun f w3 hf => ?_) 8 0 f _ (by omega) (fun a' b' ha' hb' hd => hf a' b' ha' hb' (by omega))
    refine hz_iinc (pc := 63) C (v := nI (a + 1)) (ls' := [some (.ref 146), some (.int (nI (a + 1))), some (.int (nI 8)), w3, none, none]) dX11_layFar_63 rfl (nI_add _ 1) rfl ?_
    refine hz_goto (pc := 66) C (tgt := 2) dX11_layFar_66 rfl ?_
    exact ih (a + 1) f _ _ (by omega) (fun a' b' ha' hb' hd => hf a' b' ha' hb' (by omega))
set_option maxHeartbeats 4000000 in
set_option maxRecDepth 100000 in
theorem lp_lf5 {X : hz_X} (C : hz_C X mX11_layFar) {I : Nat → Nat → Int32} {L : Nat → Nat → Int64} {q : Nat → Nat → Nat} {u : Nat → Nat} (V : MV I u) (U : WU u) {v a : Nat} (hv : v < 8) (ha : a < 8) (kk : ∀ (f : Nat → Int32) (w4 w5 : Option Value), lf_F u v (a + 1) 0 f → hz_G X TT NN (hz_sa I 153 f, L, PP q) 0 0 195 [some (.ref 146), some (.int (nI v)), some (.int (nI a)), some (.int (nI 8)), w4, w5] []) : ∀ (n b : Nat) (f : Nat → Int32) (w4 w5 : Option Value), b + n = 8 → lf_F u v a b f → hz_G X TT NN (hz_sa I 153 f, L, PP q) 0 0 87 [some (.ref 146), some (.int (nI v)), some (.int (nI a)), some (.int (nI b)), w4, w5] [] := by
  intro n
  induction n with
  | zero =>
    intro b f w4 w5 hi hf
    obtain rfl : b = 8 := by omega
    skip
    refine hz_iload_n (pc := 87) C dX11_layFar_87 rfl ?_
    refine hz_bipush (pc := 88) C (v := nI 8) dX11_layFar_88 (by decide +kernel) ?_
    refine hz_ic_ge (pc := 90) C (tgt := 195) dX11_layFar_90 rfl (fun _ => ?_) (fun cq => absurd (nI_le (by omega) (by omega)) cq)
    exact kk f _ _ (fun a' b' ha' hb' => by rw [hf a' b' ha' hb']; by_cases e : a' < a + 1; rw [if_pos (by omega), if_pos (by omega)]; rw [if_neg (by omega), if_neg (by omega)])
  | succ n ih =>
    intro b f w4 w5 hi hf
    have hl := fw_le u U.2.1
    have ex : f (8 * a + b) = fa (fwk u v a b) := by rw [hf a b ha (by omega), if_neg (by omega)]
    have ep : f (8 * a + v) = fa (fwk u v a v) := by
      rw [hf a v ha hv]
      by_cases e : a < a ∨ (a = a ∧ v < b)
      · rw [if_pos e, fw_col]
      · rw [if_neg e]
    have er : f (8 * v + b) = fa (fwk u v v b) := by
      rw [hf v b hv (by omega)]
      by_cases e : v < a ∨ (v = a ∧ b < b)
      · rw [if_pos e, fw_row]
      · rw [if_neg e]
    have hst : lf_s (f (8 * a + b)) (f (8 * a + v)) (f (8 * v + b)) = fa (min (fwk u v a b) (fwk u v a v + fwk u v v b)) := by
      rw [ex, ep, er]
      exact lf_step (hl v a b ha (by omega)) (hl v a v ha hv) (hl v v b hv (by omega)) (fw_fin u U.2.1 (by omega) ha hv) (fw_fin u U.2.1 (by omega) hv (by omega))
    refine hz_iload_n (pc := 87) C dX11_layFar_87 rfl ?_
    refine hz_bipush (pc := 88) C (v := nI 8) dX11_layFar_88 (by decide +kernel) ?_
    refine hz_ic_ge (pc := 90) C (tgt := 195) dX11_layFar_90 rfl (fun cq => absurd cq (nI_ge (by omega) (by omega))) (fun _ => ?_)
    refine hz_aload_n (pc := 93) C dX11_layFar_93 rfl ?_
    refine hz_iload_n (pc := 94) C dX11_layFar_94 rfl ?_
    refine hz_iload_n (pc := 95) C dX11_layFar_95 rfl ?_
    refine hz_callVs (pc := 96) C (as := [.int (nI a), .int (nI v)]) (st := []) (ev_farX (I := hz_sa I 153 f) (a := a) (b := v) (by omega) (by omega) (x := f (8 * a + v)) rfl) (hz_new0 _ _) fyX11_farOf fvX11_153 rfl dX11_layFar_96 hT146 rfl rfl hA146 rfl rfl (Nat.le_of_ble_eq_true rfl) (by decide) (hz_cap0 _) ?_
    refine hz_if_lt (pc := 99) C (tgt := 111) dX11_layFar_99 rfl (fun c1 => ?_) (fun c1 => ?_)
    · refine hz_iconst (pc := 111) C (v := (-1 : Int32)) dX11_layFar_111 (by decide +kernel) ?_
      refine hz_goto (pc := 112) C (tgt := 128) dX11_layFar_112 rfl ?_
      refine hz_istore (pc := 128) C (ls' := [some (.ref 146), some (.int (nI v)), some (.int (nI a)), some (.int (nI b)), some (.int (-1 : Int32)), w5]) dX11_layFar_128 (Nat.le_of_ble_eq_true rfl) rfl ?_
      refine hz_iload (pc := 130) C dX11_layFar_130 rfl ?_
      refine hz_if_lt (pc := 132) C (tgt := 159) dX11_layFar_132 rfl (fun _ => ?_) (fun cq => absurd (by decide) cq)
      refine hz_iconst (pc := 159) C (v := nI 0) dX11_layFar_159 (by decide +kernel) ?_
      refine hz_istore (pc := 160) C (ls' := [some (.ref 146), some (.int (nI v)), some (.int (nI a)), some (.int (nI b)), some (.int (-1 : Int32)), some (.int (nI 0))]) dX11_layFar_160 (Nat.le_of_ble_eq_true rfl) rfl ?_
      refine hz_aload_n (pc := 162) C dX11_layFar_162 rfl ?_
      refine hz_getP (pc := 163) C (v := 153) ffX11_33 dX11_layFar_163 hT146 hA146 rfl (hP146_15 q) (by decide) ?_
      refine hz_bipush (pc := 166) C (v := nI 8) dX11_layFar_166 (by decide +kernel) ?_
      refine hz_iload_n (pc := 168) C dX11_layFar_168 rfl ?_
      refine hz_imul (pc := 169) C (v := nI (8 * a)) dX11_layFar_169 (pk_mul _ _) ?_
      refine hz_iload_n (pc := 170) C dX11_layFar_170 rfl ?_
      refine hz_iadd (pc := 171) C (v := nI ((8 * a) + b)) dX11_layFar_171 (nI_add _ _) ?_
      refine hz_iload (pc := 172) C dX11_layFar_172 rfl ?_
      refine hz_if_eq (pc := 174) C (tgt := 182) dX11_layFar_174 rfl (fun _ => ?_) (fun cq => absurd (by decide +kernel) cq)
      refine hz_aload_n (pc := 182) C dX11_layFar_182 rfl ?_
      refine hz_iload_n (pc := 183) C dX11_layFar_183 rfl ?_
      refine hz_iload_n (pc := 184) C dX11_layFar_184 rfl ?_
      refine hz_callVs (pc := 185) C (as := [.int (nI a), .int (nI b)]) (st := [.int (nI ((8 * a) + b)), .ref 153]) (ev_farX (I := hz_sa I 153 f) (a := a) (b := b) (by omega) (by omega) (x := f (8 * a + b)) rfl) (hz_new0 _ _) fyX11_farOf fvX11_153 rfl dX11_layFar_185 hT146 rfl rfl hA146 rfl rfl (Nat.le_of_ble_eq_true rfl) (by decide) (hz_cap0 _) ?_
      refine hz_iast (pc := 188) C (v := f (8 * a + b)) (j := (8 * a) + b) (M' := (hz_sa I 153 (va_up f ((8 * a) + b) (f (8 * a + b))), L, PP q)) dX11_layFar_188 hT153 hA153 rfl (by omega) (by decide) rfl (hz_sau _ _ _ _ _ _) ?_
      refine hz_iinc (pc := 189) C (v := nI (b + 1)) (ls' := [some (.ref 146), some (.int (nI v)), some (.int (nI a)), some (.int (nI (b + 1))), some (.int (-1 : Int32)), some (.int (nI 0))]) dX11_layFar_189 rfl (nI_add _ 1) rfl ?_
      refine hz_goto (pc := 192) C (tgt := 87) dX11_layFar_192 rfl ?_
      exact ih (b + 1) _ _ _ (by omega) (fun a' b' ha' hb' => by
        rw [hz_up3 (by omega) hb']
        by_cases e : a' = a ∧ b' = b
        · obtain ⟨rfl, rfl⟩ := e
          rw [if_pos ⟨rfl, rfl⟩, show (if a' < a' ∨ (a' = a' ∧ b' < b' + 1) then fwk u (v + 1) a' b' else fwk u v a' b') = fwk u (v + 1) a' b' from if_pos (by omega), fw_s, ← hst]
          simp [lf_s, c1]
        · rw [if_neg e, hf a' b' ha' hb']
          by_cases e2 : a' < a ∨ (a' = a ∧ b' < b)
          · rw [if_pos e2, if_pos (by omega)]
          · rw [if_neg e2, if_neg (by omega)])
    · refine hz_aload_n (pc := 102) C dX11_layFar_102 rfl ?_
      refine hz_iload_n (pc := 103) C dX11_layFar_103 rfl ?_
      refine hz_iload_n (pc := 104) C dX11_layFar_104 rfl ?_
      refine hz_callVs (pc := 105) C (as := [.int (nI v), .int (nI b)]) (st := []) (ev_farX (I := hz_sa I 153 f) (a := v) (b := b) (by omega) (by omega) (x := f (8 * v + b)) rfl) (hz_new0 _ _) fyX11_farOf fvX11_153 rfl dX11_layFar_105 hT146 rfl rfl hA146 rfl rfl (Nat.le_of_ble_eq_true rfl) (by decide) (hz_cap0 _) ?_
      refine hz_if_ge (pc := 108) C (tgt := 115) dX11_layFar_108 rfl (fun c2 => ?_) (fun c2 => ?_)
      · refine hz_aload_n (pc := 115) C dX11_layFar_115 rfl ?_
        refine hz_iload_n (pc := 116) C dX11_layFar_116 rfl ?_
        refine hz_iload_n (pc := 117) C dX11_layFar_117 rfl ?_
        refine hz_callVs (pc := 118) C (as := [.int (nI a), .int (nI v)]) (st := []) (ev_farX (I := hz_sa I 153 f) (a := a) (b := v) (by omega) (by omega) (x := f (8 * a + v)) rfl) (hz_new0 _ _) fyX11_farOf fvX11_153 rfl dX11_layFar_118 hT146 rfl rfl hA146 rfl rfl (Nat.le_of_ble_eq_true rfl) (by decide) (hz_cap0 _) ?_
        refine hz_aload_n (pc := 121) C dX11_layFar_121 rfl ?_
        refine hz_iload_n (pc := 122) C dX11_layFar_122 rfl ?_
        refine hz_iload_n (pc := 123) C dX11_layFar_123 rfl ?_
        refine hz_callVs (pc := 124) C (as := [.int (nI v), .int (nI b)]) (st := [.int (f (8 * a + v))]) (ev_farX (I := hz_sa I 153 f) (a := v) (b := b) (by omega) (by omega) (x := f (8 * v + b)) rfl) (hz_new0 _ _) fyX11_farOf fvX11_153 rfl dX11_layFar_124 hT146 rfl rfl hA146 rfl rfl (Nat.le_of_ble_eq_true rfl) (by decide) (hz_cap0 _) ?_
        refine hz_iadd (pc := 127) C dX11_layFar_127 rfl ?_
        refine hz_istore (pc := 128) C (ls' := [some (.ref 146), some (.int (nI v)), some (.int (nI a)), some (.int (nI b)), some (.int ((f (8 * a + v)) + (f (8 * v + b)))), w5]) dX11_layFar_128 (Nat.le_of_ble_eq_true rfl) rfl ?_
        refine hz_iload (pc := 130) C dX11_layFar_130 rfl ?_
        refine hz_if_lt (pc := 132) C (tgt := 159) dX11_layFar_132 rfl (fun c3 => ?_) (fun c3 => ?_)
        · refine hz_iconst (pc := 159) C (v := nI 0) dX11_layFar_159 (by decide +kernel) ?_
          refine hz_istore (pc := 160) C (ls' := [some (.ref 146), some (.int (nI v)), some (.int (nI a)), some (.int (nI b)), some (.int ((f (8 * a + v)) + (f (8 * v + b)))), some (.int (nI 0))]) dX11_layFar_160 (Nat.le_of_ble_eq_true rfl) rfl ?_
          refine hz_aload_n (pc := 162) C dX11_layFar_162 rfl ?_
          refine hz_getP (pc := 163) C (v := 153) ffX11_33 dX11_layFar_163 hT146 hA146 rfl (hP146_15 q) (by decide) ?_
          refine hz_bipush (pc := 166) C (v := nI 8) dX11_layFar_166 (by decide +kernel) ?_
          refine hz_iload_n (pc := 168) C dX11_layFar_168 rfl ?_
          refine hz_imul (pc := 169) C (v := nI (8 * a)) dX11_layFar_169 (pk_mul _ _) ?_
          refine hz_iload_n (pc := 170) C dX11_layFar_170 rfl ?_
          refine hz_iadd (pc := 171) C (v := nI ((8 * a) + b)) dX11_layFar_171 (nI_add _ _) ?_
          refine hz_iload (pc := 172) C dX11_layFar_172 rfl ?_
          refine hz_if_eq (pc := 174) C (tgt := 182) dX11_layFar_174 rfl (fun _ => ?_) (fun cq => absurd (by decide +kernel) cq)
          refine hz_aload_n (pc := 182) C dX11_layFar_182 rfl ?_
          refine hz_iload_n (pc := 183) C dX11_layFar_183 rfl ?_
          refine hz_iload_n (pc := 184) C dX11_layFar_184 rfl ?_
          refine hz_callVs (pc := 185) C (as := [.int (nI a), .int (nI b)]) (st := [.int (nI ((8 * a) + b)), .ref 153]) (ev_farX (I := hz_sa I 153 f) (a := a) (b := b) (by omega) (by omega) (x := f (8 * a + b)) rfl) (hz_new0 _ _) fyX11_farOf fvX11_153 rfl dX11_layFar_185 hT146 rfl rfl hA146 rfl rfl (Nat.le_of_ble_eq_true rfl) (by decide) (hz_cap0 _) ?_
          refine hz_iast (pc := 188) C (v := f (8 * a + b)) (j := (8 * a) + b) (M' := (hz_sa I 153 (va_up f ((8 * a) + b) (f (8 * a + b))), L, PP q)) dX11_layFar_188 hT153 hA153 rfl (by omega) (by decide) rfl (hz_sau _ _ _ _ _ _) ?_
          refine hz_iinc (pc := 189) C (v := nI (b + 1)) (ls' := [some (.ref 146), some (.int (nI v)), some (.int (nI a)), some (.int (nI (b + 1))), some (.int ((f (8 * a + v)) + (f (8 * v + b)))), some (.int (nI 0))]) dX11_layFar_189 rfl (nI_add _ 1) rfl ?_
          refine hz_goto (pc := 192) C (tgt := 87) dX11_layFar_192 rfl ?_
          exact ih (b + 1) _ _ _ (by omega) (fun a' b' ha' hb' => by
            rw [hz_up3 (by omega) hb']
            by_cases e : a' = a ∧ b' = b
            · obtain ⟨rfl, rfl⟩ := e
              rw [if_pos ⟨rfl, rfl⟩, show (if a' < a' ∨ (a' = a' ∧ b' < b' + 1) then fwk u (v + 1) a' b' else fwk u v a' b') = fwk u (v + 1) a' b' from if_pos (by omega), fw_s, ← hst]
              simp [lf_s, c1, c2, c3]
            · rw [if_neg e, hf a' b' ha' hb']
              by_cases e2 : a' < a ∨ (a' = a ∧ b' < b)
              · rw [if_pos e2, if_pos (by omega)]
              · rw [if_neg e2, if_neg (by omega)])
        · refine hz_aload_n (pc := 135) C dX11_layFar_135 rfl ?_
          refine hz_iload_n (pc := 136) C dX11_layFar_136 rfl ?_
          refine hz_iload_n (pc := 137) C dX11_layFar_137 rfl ?_
          refine hz_callVs (pc := 138) C (as := [.int (nI a), .int (nI b)]) (st := []) (ev_farX (I := hz_sa I 153 f) (a := a) (b := b) (by omega) (by omega) (x := f (8 * a + b)) rfl) (hz_new0 _ _) fyX11_farOf fvX11_153 rfl dX11_layFar_138 hT146 rfl rfl hA146 rfl rfl (Nat.le_of_ble_eq_true rfl) (by decide) (hz_cap0 _) ?_
          refine hz_if_lt (pc := 141) C (tgt := 155) dX11_layFar_141 rfl (fun c4 => ?_) (fun c4 => ?_)
          · refine hz_iconst (pc := 155) C (v := nI 1) dX11_layFar_155 (by decide +kernel) ?_
            refine hz_goto (pc := 156) C (tgt := 160) dX11_layFar_156 rfl ?_
            refine hz_istore (pc := 160) C (ls' := [some (.ref 146), some (.int (nI v)), some (.int (nI a)), some (.int (nI b)), some (.int ((f (8 * a + v)) + (f (8 * v + b)))), some (.int (nI 1))]) dX11_layFar_160 (Nat.le_of_ble_eq_true rfl) rfl ?_
            refine hz_aload_n (pc := 162) C dX11_layFar_162 rfl ?_
            refine hz_getP (pc := 163) C (v := 153) ffX11_33 dX11_layFar_163 hT146 hA146 rfl (hP146_15 q) (by decide) ?_
            refine hz_bipush (pc := 166) C (v := nI 8) dX11_layFar_166 (by decide +kernel) ?_
            refine hz_iload_n (pc := 168) C dX11_layFar_168 rfl ?_
            refine hz_imul (pc := 169) C (v := nI (8 * a)) dX11_layFar_169 (pk_mul _ _) ?_
            refine hz_iload_n (pc := 170) C dX11_layFar_170 rfl ?_
            refine hz_iadd (pc := 171) C (v := nI ((8 * a) + b)) dX11_layFar_171 (nI_add _ _) ?_
            refine hz_iload (pc := 172) C dX11_layFar_172 rfl ?_
            refine hz_if_eq (pc := 174) C (tgt := 182) dX11_layFar_174 rfl (fun cq => absurd cq (by decide +kernel)) (fun _ => ?_)
            refine hz_iload (pc := 177) C dX11_layFar_177 rfl ?_
            refine hz_goto (pc := 179) C (tgt := 188) dX11_layFar_179 rfl ?_
            refine hz_iast (pc := 188) C (v := (f (8 * a + v)) + (f (8 * v + b))) (j := (8 * a) + b) (M' := (hz_sa I 153 (va_up f ((8 * a) + b) ((f (8 * a + v)) + (f (8 * v + b)))), L, PP q)) dX11_layFar_188 hT153 hA153 rfl (by omega) (by decide) rfl (hz_sau _ _ _ _ _ _) ?_
            refine hz_iinc (pc := 189) C (v := nI (b + 1)) (ls' := [some (.ref 146), some (.int (nI v)), some (.int (nI a)), some (.int (nI (b + 1))), some (.int ((f (8 * a + v)) + (f (8 * v + b)))), some (.int (nI 1))]) dX11_layFar_189 rfl (nI_add _ 1) rfl ?_
            refine hz_goto (pc := 192) C (tgt := 87) dX11_layFar_192 rfl ?_
            exact ih (b + 1) _ _ _ (by omega) (fun a' b' ha' hb' => by
              rw [hz_up3 (by omega) hb']
              by_cases e : a' = a ∧ b' = b
              · obtain ⟨rfl, rfl⟩ := e
                rw [if_pos ⟨rfl, rfl⟩, show (if a' < a' ∨ (a' = a' ∧ b' < b' + 1) then fwk u (v + 1) a' b' else fwk u v a' b') = fwk u (v + 1) a' b' from if_pos (by omega), fw_s, ← hst]
                simp [lf_s, c1, c2, c3, c4]
              · rw [if_neg e, hf a' b' ha' hb']
                by_cases e2 : a' < a ∨ (a' = a ∧ b' < b)
                · rw [if_pos e2, if_pos (by omega)]
                · rw [if_neg e2, if_neg (by omega)])
          · refine hz_iload (pc := 144) C dX11_layFar_144 rfl ?_
            refine hz_aload_n (pc := 146) C dX11_layFar_146 rfl ?_
            refine hz_iload_n (pc := 147) C dX11_layFar_147 rfl ?_
            refine hz_iload_n (pc := 148) C dX11_layFar_148 rfl ?_
            refine hz_callVs (pc := 149) C (as := [.int (nI a), .int (nI b)]) (st := [.int ((f (8 * a + v)) + (f (8 * v + b)))]) (ev_farX (I := hz_sa I 153 f) (a := a) (b := b) (by omega) (by omega) (x := f (8 * a + b)) rfl) (hz_new0 _ _) fyX11_farOf fvX11_153 rfl dX11_layFar_149 hT146 rfl rfl hA146 rfl rfl (Nat.le_of_ble_eq_true rfl) (by decide) (hz_cap0 _) ?_
            refine hz_ic_ge (pc := 152) C (tgt := 159) dX11_layFar_152 rfl (fun c5 => ?_) (fun c5 => ?_)
            · refine hz_iconst (pc := 159) C (v := nI 0) dX11_layFar_159 (by decide +kernel) ?_
              refine hz_istore (pc := 160) C (ls' := [some (.ref 146), some (.int (nI v)), some (.int (nI a)), some (.int (nI b)), some (.int ((f (8 * a + v)) + (f (8 * v + b)))), some (.int (nI 0))]) dX11_layFar_160 (Nat.le_of_ble_eq_true rfl) rfl ?_
              refine hz_aload_n (pc := 162) C dX11_layFar_162 rfl ?_
              refine hz_getP (pc := 163) C (v := 153) ffX11_33 dX11_layFar_163 hT146 hA146 rfl (hP146_15 q) (by decide) ?_
              refine hz_bipush (pc := 166) C (v := nI 8) dX11_layFar_166 (by decide +kernel) ?_
              refine hz_iload_n (pc := 168) C dX11_layFar_168 rfl ?_
              refine hz_imul (pc := 169) C (v := nI (8 * a)) dX11_layFar_169 (pk_mul _ _) ?_
              refine hz_iload_n (pc := 170) C dX11_layFar_170 rfl ?_
              refine hz_iadd (pc := 171) C (v := nI ((8 * a) + b)) dX11_layFar_171 (nI_add _ _) ?_
              refine hz_iload (pc := 172) C dX11_layFar_172 rfl ?_
              refine hz_if_eq (pc := 174) C (tgt := 182) dX11_layFar_174 rfl (fun _ => ?_) (fun cq => absurd (by decide +kernel) cq)
              refine hz_aload_n (pc := 182) C dX11_layFar_182 rfl ?_
              refine hz_iload_n (pc := 183) C dX11_layFar_183 rfl ?_
              refine hz_iload_n (pc := 184) C dX11_layFar_184 rfl ?_
              refine hz_callVs (pc := 185) C (as := [.int (nI a), .int (nI b)]) (st := [.int (nI ((8 * a) + b)), .ref 153]) (ev_farX (I := hz_sa I 153 f) (a := a) (b := b) (by omega) (by omega) (x := f (8 * a + b)) rfl) (hz_new0 _ _) fyX11_farOf fvX11_153 rfl dX11_layFar_185 hT146 rfl rfl hA146 rfl rfl (Nat.le_of_ble_eq_true rfl) (by decide) (hz_cap0 _) ?_
              refine hz_iast (pc := 188) C (v := f (8 * a + b)) (j := (8 * a) + b) (M' := (hz_sa I 153 (va_up f ((8 * a) + b) (f (8 * a + b))), L, PP q)) dX11_layFar_188 hT153 hA153 rfl (by omega) (by decide) rfl (hz_sau _ _ _ _ _ _) ?_
              refine hz_iinc (pc := 189) C (v := nI (b + 1)) (ls' := [some (.ref 146), some (.int (nI v)), some (.int (nI a)), some (.int (nI (b + 1))), some (.int ((f (8 * a + v)) + (f (8 * v + b)))), some (.int (nI 0))]) dX11_layFar_189 rfl (nI_add _ 1) rfl ?_
              refine hz_goto (pc := 192) C (tgt := 87) dX11_layFar_192 rfl ?_
              exact ih (b + 1) _ _ _ (by omega) (fun a' b' ha' hb' => by
                rw [hz_up3 (by omega) hb']
                by_cases e : a' = a ∧ b' = b
                · obtain ⟨rfl, rfl⟩ := e
                  rw [if_pos ⟨rfl, rfl⟩, show (if a' < a' ∨ (a' = a' ∧ b' < b' + 1) then fwk u (v + 1) a' b' else fwk u v a' b') = fwk u (v + 1) a' b' from if_pos (by omega), fw_s, ← hst]
                  simp [lf_s, c1, c2, c3, c4, c5]
                · rw [if_neg e, hf a' b' ha' hb']
                  by_cases e2 : a' < a ∨ (a' = a ∧ b' < b)
                  · rw [if_pos e2, if_pos (by omega)]
                  · rw [if_neg e2, if_neg (by omega)])
            · refine hz_iconst (pc := 155) C (v := nI 1) dX11_layFar_155 (by decide +kernel) ?_
              refine hz_goto (pc := 156) C (tgt := 160) dX11_layFar_156 rfl ?_
              refine hz_istore (pc := 160) C (ls' := [some (.ref 146), some (.int (nI v)), some (.int (nI a)), some (.int (nI b)), some (.int ((f (8 * a + v)) + (f (8 * v + b)))), some (.int (nI 1))]) dX11_layFar_160 (Nat.le_of_ble_eq_true rfl) rfl ?_
              refine hz_aload_n (pc := 162) C dX11_layFar_162 rfl ?_
              refine hz_getP (pc := 163) C (v := 153) ffX11_33 dX11_layFar_163 hT146 hA146 rfl (hP146_15 q) (by decide) ?_
              refine hz_bipush (pc := 166) C (v := nI 8) dX11_layFar_166 (by decide +kernel) ?_
              refine hz_iload_n (pc := 168) C dX11_layFar_168 rfl ?_
              refine hz_imul (pc := 169) C (v := nI (8 * a)) dX11_layFar_169 (pk_mul _ _) ?_
              refine hz_iload_n (pc := 170) C dX11_layFar_170 rfl ?_
              refine hz_iadd (pc := 171) C (v := nI ((8 * a) + b)) dX11_layFar_171 (nI_add _ _) ?_
              refine hz_iload (pc := 172) C dX11_layFar_172 rfl ?_
              refine hz_if_eq (pc := 174) C (tgt := 182) dX11_layFar_174 rfl (fun cq => absurd cq (by decide +kernel)) (fun _ => ?_)
              refine hz_iload (pc := 177) C dX11_layFar_177 rfl ?_
              refine hz_goto (pc := 179) C (tgt := 188) dX11_layFar_179 rfl ?_
              refine hz_iast (pc := 188) C (v := (f (8 * a + v)) + (f (8 * v + b))) (j := (8 * a) + b) (M' := (hz_sa I 153 (va_up f ((8 * a) + b) ((f (8 * a + v)) + (f (8 * v + b)))), L, PP q)) dX11_layFar_188 hT153 hA153 rfl (by omega) (by decide) rfl (hz_sau _ _ _ _ _ _) ?_
              refine hz_iinc (pc := 189) C (v := nI (b + 1)) (ls' := [some (.ref 146), some (.int (nI v)), some (.int (nI a)), some (.int (nI (b + 1))), some (.int ((f (8 * a + v)) + (f (8 * v + b)))), some (.int (nI 1))]) dX11_layFar_189 rfl (nI_add _ 1) rfl ?_
              refine hz_goto (pc := 192) C (tgt := 87) dX11_layFar_192 rfl ?_
              exact ih (b + 1) _ _ _ (by omega) (fun a' b' ha' hb' => by
                rw [hz_up3 (by omega) hb']
                by_cases e : a' = a ∧ b' = b
                · obtain ⟨rfl, rfl⟩ := e
                  rw [if_pos ⟨rfl, rfl⟩, show (if a' < a' ∨ (a' = a' ∧ b' < b' + 1) then fwk u (v + 1) a' b' else fwk u v a' b') = fwk u (v + 1) a' b' from if_pos (by omega), fw_s, ← hst]
                  simp [lf_s, c1, c2, c3, c4, c5]
                · rw [if_neg e, hf a' b' ha' hb']
                  by_cases e2 : a' < a ∨ (a' = a ∧ b' < b)
                  · rw [if_pos e2, if_pos (by omega)]
                  · rw [if_neg e2, if_neg (by omega)])
      · refine hz_iconst (pc := 111) C (v := (-1 : Int32)) dX11_layFar_111 (by decide +kernel) ?_
        refine hz_goto (pc := 112) C (tgt := 128) dX11_layFar_112 rfl ?_
        refine hz_istore (pc := 128) C (ls' := [some (.ref 146), some (.int (nI v)), some (.int (nI a)), some (.int (nI b)), some (.int (-1 : Int32)), w5]) dX11_layFar_128 (Nat.le_of_ble_eq_true rfl) rfl ?_
        refine hz_iload (pc := 130) C dX11_layFar_130 rfl ?_
        refine hz_if_lt (pc := 132) C (tgt := 159) dX11_layFar_132 rfl (fun _ => ?_) (fun cq => absurd (by decide) cq)
        refine hz_iconst (pc := 159) C (v := nI 0) dX11_layFar_159 (by decide +kernel) ?_
        refine hz_istore (pc := 160) C (ls' := [some (.ref 146), some (.int (nI v)), some (.int (nI a)), some (.int (nI b)), some (.int (-1 : Int32)), some (.int (nI 0))]) dX11_layFar_160 (Nat.le_of_ble_eq_true rfl) rfl ?_
        refine hz_aload_n (pc := 162) C dX11_layFar_162 rfl ?_
        refine hz_getP (pc := 163) C (v := 153) ffX11_33 dX11_layFar_163 hT146 hA146 rfl (hP146_15 q) (by decide) ?_
        refine hz_bipush (pc := 166) C (v := nI 8) dX11_layFar_166 (by decide +kernel) ?_
        refine hz_iload_n (pc := 168) C dX11_layFar_168 rfl ?_
        refine hz_imul (pc := 169) C (v := nI (8 * a)) dX11_layFar_169 (pk_mul _ _) ?_
        refine hz_iload_n (pc := 170) C dX11_layFar_170 rfl ?_
        refine hz_iadd (pc := 171) C (v := nI ((8 * a) + b)) dX11_layFar_171 (nI_add _ _) ?_
        refine hz_iload (pc := 172) C dX11_layFar_172 rfl ?_
        refine hz_if_eq (pc := 174) C (tgt := 182) dX11_layFar_174 rfl (fun _ => ?_) (fun cq => absurd (by decide +kernel) cq)
        refine hz_aload_n (pc := 182) C dX11_layFar_182 rfl ?_
        refine hz_iload_n (pc := 183) C dX11_layFar_183 rfl ?_
        refine hz_iload_n (pc := 184) C dX11_layFar_184 rfl ?_
        refine hz_callVs (pc := 185) C (as := [.int (nI a), .int (nI b)]) (st := [.int (nI ((8 * a) + b)), .ref 153]) (ev_farX (I := hz_sa I 153 f) (a := a) (b := b) (by omega) (by omega) (x := f (8 * a + b)) rfl) (hz_new0 _ _) fyX11_farOf fvX11_153 rfl dX11_layFar_185 hT146 rfl rfl hA146 rfl rfl (Nat.le_of_ble_eq_true rfl) (by decide) (hz_cap0 _) ?_
        refine hz_iast (pc := 188) C (v := f (8 * a + b)) (j := (8 * a) + b) (M' := (hz_sa I 153 (va_up f ((8 * a) + b) (f (8 * a + b))), L, PP q)) dX11_layFar_188 hT153 hA153 rfl (by omega) (by decide) rfl (hz_sau _ _ _ _ _ _) ?_
        refine hz_iinc (pc := 189) C (v := nI (b + 1)) (ls' := [some (.ref 146), some (.int (nI v)), some (.int (nI a)), some (.int (nI (b + 1))), some (.int (-1 : Int32)), some (.int (nI 0))]) dX11_layFar_189 rfl (nI_add _ 1) rfl ?_
        refine hz_goto (pc := 192) C (tgt := 87) dX11_layFar_192 rfl ?_
        exact ih (b + 1) _ _ _ (by omega) (fun a' b' ha' hb' => by
          rw [hz_up3 (by omega) hb']
          by_cases e : a' = a ∧ b' = b
          · obtain ⟨rfl, rfl⟩ := e
            rw [if_pos ⟨rfl, rfl⟩, show (if a' < a' ∨ (a' = a' ∧ b' < b' + 1) then fwk u (v + 1) a' b' else fwk u v a' b') = fwk u (v + 1) a' b' from if_pos (by omega), fw_s, ← hst]
            simp [lf_s, c1, c2]
          · rw [if_neg e, hf a' b' ha' hb']
            by_cases e2 : a' < a ∨ (a' = a ∧ b' < b)
            · rw [if_pos e2, if_pos (by omega)]
            · rw [if_neg e2, if_neg (by omega)])
set_option maxHeartbeats 4000000 in
set_option maxRecDepth 100000 in
theorem lp_lf4 {X : hz_X} (C : hz_C X mX11_layFar) {I : Nat → Nat → Int32} {L : Nat → Nat → Int64} {q : Nat → Nat → Nat} {u : Nat → Nat} (V : MV I u) (U : WU u) {v : Nat} (hv : v < 8) (kk : ∀ (f : Nat → Int32) (w3 w4 w5 : Option Value), lf_F u (v + 1) 0 0 f → hz_G X TT NN (hz_sa I 153 f, L, PP q) 0 0 201 [some (.ref 146), some (.int (nI v)), some (.int (nI 8)), w3, w4, w5] []) : ∀ (n a : Nat) (f : Nat → Int32) (w3 w4 w5 : Option Value), a + n = 8 → lf_F u v a 0 f → hz_G X TT NN (hz_sa I 153 f, L, PP q) 0 0 79 [some (.ref 146), some (.int (nI v)), some (.int (nI a)), w3, w4, w5] [] := by
  intro n
  induction n with
  | zero =>
    intro a f w3 w4 w5 hi hf
    obtain rfl : a = 8 := by omega
    skip
    refine hz_iload_n (pc := 79) C dX11_layFar_79 rfl ?_
    refine hz_bipush (pc := 80) C (v := nI 8) dX11_layFar_80 (by decide +kernel) ?_
    refine hz_ic_ge (pc := 82) C (tgt := 201) dX11_layFar_82 rfl (fun _ => ?_) (fun cq => absurd (nI_le (by omega) (by omega)) cq)
    exact kk f _ _ _ (fun a' b' ha' hb' => by rw [hf a' b' ha' hb', if_pos (by omega), if_neg (by omega)])
  | succ n ih =>
    intro a f w3 w4 w5 hi hf
    refine hz_iload_n (pc := 79) C dX11_layFar_79 rfl ?_
    refine hz_bipush (pc := 80) C (v := nI 8) dX11_layFar_80 (by decide +kernel) ?_
    refine hz_ic_ge (pc := 82) C (tgt := 201) dX11_layFar_82 rfl (fun cq => absurd cq (nI_ge (by omega) (by omega))) (fun _ => ?_)
    refine hz_iconst (pc := 85) C (v := nI 0) dX11_layFar_85 (by decide +kernel) ?_
    refine hz_istore_n (pc := 86) C (ls' := [some (.ref 146), some (.int (nI v)), some (.int (nI a)), some (.int (nI 0)), w4, w5]) dX11_layFar_86 (Nat.le_of_ble_eq_true rfl) rfl ?_
    refine lp_lf5 C V U hv (by omega) (fun f w4 w5 hf => ?_) 8 0 f _ _ (by omega) hf
    refine hz_iinc (pc := 195) C (v := nI (a + 1)) (ls' := [some (.ref 146), some (.int (nI v)), some (.int (nI (a + 1))), some (.int (nI 8)), w4, w5]) dX11_layFar_195 rfl (nI_add _ 1) rfl ?_
    refine hz_goto (pc := 198) C (tgt := 79) dX11_layFar_198 rfl ?_
    exact ih (a + 1) f _ _ _ (by omega) hf
set_option maxHeartbeats 4000000 in
set_option maxRecDepth 100000 in
theorem lp_lf3 {X : hz_X} (C : hz_C X mX11_layFar) {I : Nat → Nat → Int32} {L : Nat → Nat → Int64} {q : Nat → Nat → Nat} {u : Nat → Nat} (V : MV I u) (U : WU u) (kk : ∀ (f : Nat → Int32) (ls : List (Option Value)), lf_F u 8 0 0 f → hz_G X TT NN (hz_sa I 153 f, L, PP q) 0 0 207 ls []) : ∀ (n v : Nat) (f : Nat → Int32) (w2 w3 w4 w5 : Option Value), v + n = 8 → lf_F u v 0 0 f → hz_G X TT NN (hz_sa I 153 f, L, PP q) 0 0 71 [some (.ref 146), some (.int (nI v)), w2, w3, w4, w5] [] := by
  intro n
  induction n with
  | zero =>
    intro v f w2 w3 w4 w5 hi hf
    obtain rfl : v = 8 := by omega
    skip
    refine hz_iload_n (pc := 71) C dX11_layFar_71 rfl ?_
    refine hz_bipush (pc := 72) C (v := nI 8) dX11_layFar_72 (by decide +kernel) ?_
    refine hz_ic_ge (pc := 74) C (tgt := 207) dX11_layFar_74 rfl (fun _ => ?_) (fun cq => absurd (nI_le (by omega) (by omega)) cq)
    exact kk f _ hf
  | succ n ih =>
    intro v f w2 w3 w4 w5 hi hf
    refine hz_iload_n (pc := 71) C dX11_layFar_71 rfl ?_
    refine hz_bipush (pc := 72) C (v := nI 8) dX11_layFar_72 (by decide +kernel) ?_
    refine hz_ic_ge (pc := 74) C (tgt := 207) dX11_layFar_74 rfl (fun cq => absurd cq (nI_ge (by omega) (by omega))) (fun _ => ?_)
    refine hz_iconst (pc := 77) C (v := nI 0) dX11_layFar_77 (by decide +kernel) ?_
    refine hz_istore_n (pc := 78) C (ls' := [some (.ref 146), some (.int (nI v)), some (.int (nI 0)), w3, w4, w5]) dX11_layFar_78 (Nat.le_of_ble_eq_true rfl) rfl ?_
    refine lp_lf4 C V U (by omega) (fun f w3 w4 w5 hf => ?_) 8 0 f _ _ _ (by omega) hf
    refine hz_iinc (pc := 201) C (v := nI (v + 1)) (ls' := [some (.ref 146), some (.int (nI (v + 1))), some (.int (nI 8)), w3, w4, w5]) dX11_layFar_201 rfl (nI_add _ 1) rfl ?_
    refine hz_goto (pc := 204) C (tgt := 71) dX11_layFar_204 rfl ?_
    exact ih (v + 1) f _ _ _ _ (by omega) hf
def lf_A (u : Nat → Nat) (f : Nat → Int32) : Nat → Int32 := fun j => if j < 64 then fa (ds u (j / 8) (j % 8)) else f j
theorem lf_A_at (u : Nat → Nat) (f : Nat → Int32) {a b : Nat} (ha : a < 8) (hb : b < 8) : lf_A u f (8 * a + b) = fa (ds u a b) := by
  unfold lf_A
  rw [if_pos (by omega), show (8 * a + b) / 8 = a by omega, show (8 * a + b) % 8 = b by omega]
def lm (u : Nat → Nat) (I : Nat → Nat → Int32) : Nat → Nat → Int32 := hz_sa I 153 (lf_A u (I 153))
set_option maxHeartbeats 4000000 in
set_option maxRecDepth 100000 in
theorem ev_layFar {I : Nat → Nat → Int32} {L : Nat → Nat → Int64} {q : Nat → Nat → Nat} {u : Nat → Nat} (V : MV I u) (U : WU u) : hz_Ev mX11_layFar TT NN (I, L, PP q) [.ref 146] 0 0 none TT NN (lm u I, L, PP q) := by
  refine hz_Ev.intro (ls := [some (.ref 146), none, none, none, none, none]) (by decide +kernel) rfl (Nat.le_of_ble_eq_true rfl) (fun X C Z _ => ?_)
  refine Eq.mpr (by rw [hz_sa_id]) (?_ : hz_G X TT NN (hz_sa I 153 (I 153), L, PP q) 0 0 0 [some (.ref 146), none, none, none, none, none] [])
  refine hz_iconst (pc := 0) C (v := nI 0) dX11_layFar_0 (by decide +kernel) ?_
  refine hz_istore_n (pc := 1) C (ls' := [some (.ref 146), some (.int (nI 0)), none, none, none, none]) dX11_layFar_1 (Nat.le_of_ble_eq_true rfl) rfl ?_
  refine lp_lf1 C V U (fun f w2 w3 hf => ?_) 8 0 (I 153) _ _ (by omega) (fun a b ha hb hd => absurd hd (by omega))
  refine hz_iconst (pc := 69) C (v := nI 0) dX11_layFar_69 (by decide +kernel) ?_
  refine hz_istore_n (pc := 70) C (ls' := [some (.ref 146), some (.int (nI 0)), w2, w3, none, none]) dX11_layFar_70 (Nat.le_of_ble_eq_true rfl) rfl ?_
  refine lp_lf3 C V U (fun f3 ls3 hf3 => ?_) 8 0 f _ _ _ _ (by omega) (fun a b ha hb => by rw [hf a b ha hb, if_neg (by omega)]; rfl)
  refine hz_cong (hz_sm_sa hT153 (by decide) (by decide) (fun j hj => ?_)) (hz_vret C Z rfl dX11_layFar_207 rfl)
  have h9 := hf3 (j / 8) (j % 8) (by omega) (by omega)
  rw [show 8 * (j / 8) + j % 8 = j by omega, if_neg (by omega)] at h9
  rw [h9]
  unfold lf_A
  rw [if_pos hj]
  rfl

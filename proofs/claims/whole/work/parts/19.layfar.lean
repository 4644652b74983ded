/-! THE REFERENCE: its row of numbers is u, its row of ways is that of ds -/
def isT (j : Nat) : Bool := decide (j = 79) || decide (j = 81) || decide (j = 83) || decide (j = 85) || decide (j = 87) || decide (j = 89)
def mv (u : Nat → Nat) (j : Nat) : Int32 := if isT j = true then nI (u j) - 1 else nI (u j)
def MV (I : Nat → Nat → Int32) (u : Nat → Nat) : Prop := ∀ j, j < 181 → I 147 j = mv u j
theorem mv_n {u : Nat → Nat} {j : Nat} (h : j < 79 ∨ 89 < j) : mv u j = nI (u j) := by
  unfold mv
  rw [if_neg (by simp only [isT, Bool.or_eq_true, decide_eq_true_eq]; omega)]
theorem mv_r {u : Nat → Nat} {i : Nat} : mv u (78 + 2 * i) = nI (u (78 + 2 * i)) := by
  unfold mv
  rw [if_neg (by simp only [isT, Bool.or_eq_true, decide_eq_true_eq]; omega)]
theorem mv_t {u : Nat → Nat} {i : Nat} (h : i < 6) : mv u (79 + 2 * i) = nI (u (79 + 2 * i)) - 1 := by
  unfold mv
  rw [if_pos (by simp only [isT, Bool.or_eq_true, decide_eq_true_eq]; omega)]
theorem mg {I : Nat → Nat → Int32} {u : Nat → Nat} (V : MV I u) {j : Nat} (hj : j < 181) (h : j < 79 ∨ 89 < j) : I 147 j = nI (u j) := (V j hj).trans (mv_n h)
def fa (x : Nat) : Int32 := if 1000 ≤ x then -1 else nI x
theorem fa_neg {x : Nat} (hx : x ≤ 1000) : fa x < 0 ↔ 1000 ≤ x := by
  unfold fa
  by_cases h : 1000 ≤ x
  · rw [if_pos h]; exact ⟨fun _ => h, fun _ => by decide⟩
  · rw [if_neg h]; exact ⟨fun z => absurd z (nI_pos (by omega)), fun z => absurd z h⟩
theorem fa_fin {x : Nat} (h : ¬ 1000 ≤ x) : fa x = nI x := if_neg h
theorem fa_inf {x : Nat} (h : 1000 ≤ x) : fa x = -1 := if_pos h
def lf_F (u : Nat → Nat) (v a b : Nat) (f : Nat → Int32) : Prop := ∀ a' b', a' < 8 → b' < 8 → f (8 * a' + b') = fa (if a' < a ∨ (a' = a ∧ b' < b) then fwk u (v + 1) a' b' else fwk u v a' b')
def lf_0 (u : Nat → Nat) (a b : Nat) (f : Nat → Int32) : Prop := ∀ a' b', a' < 8 → b' < 8 → (a' < a ∨ (a' = a ∧ b' < b)) → f (8 * a' + b') = fa (fw0 u a' b')
theorem hz_up3 {f : Nat → Int32} {x : Int32} {a b a' b' : Nat} (hb : b < 8) (hb' : b' < 8) : va_up f (8 * a + b) x (8 * a' + b') = if a' = a ∧ b' = b then x else f (8 * a' + b') := by
  unfold va_up
  by_cases e : a' = a ∧ b' = b
  · rw [if_pos e, if_pos (by obtain ⟨rfl, rfl⟩ := e; rfl)]
  · rw [if_neg e, if_neg (by omega)]
/-- one step of the reference's rows of ways -/
def lf_s (x p r : Int32) : Int32 := if (¬ (if p < 0 ∨ ¬ 0 ≤ r then (-1 : Int32) else p + r) < 0) ∧ (x < 0 ∨ ¬ x ≤ (if p < 0 ∨ ¬ 0 ≤ r then (-1 : Int32) else p + r)) then (if p < 0 ∨ ¬ 0 ≤ r then (-1 : Int32) else p + r) else x
theorem fa_ge {x : Nat} (hx : x ≤ 1000) : 0 ≤ fa x ↔ ¬ 1000 ≤ x := by
  unfold fa
  by_cases h : 1000 ≤ x
  · rw [if_pos h]; exact ⟨fun z => absurd z (by decide), fun z => absurd h z⟩
  · rw [if_neg h]; exact ⟨fun _ => h, fun _ => nI_pos' (by omega)⟩
theorem lf_step {x p r : Nat} (hx : x ≤ 1000) (hp : p ≤ 1000) (hr : r ≤ 1000) (hp2 : p < 1000 → p ≤ 63) (hr2 : r < 1000 → r ≤ 63) : lf_s (fa x) (fa p) (fa r) = fa (min x (p + r)) := by
  unfold lf_s
  by_cases h : 1000 ≤ p ∨ 1000 ≤ r
  · have e : (if fa p < 0 ∨ ¬ 0 ≤ fa r then (-1 : Int32) else fa p + fa r) = -1 := if_pos (by rw [fa_neg hp, fa_ge hr]; omega)
    rw [e, if_neg (by intro z; exact z.1 (by decide)), Nat.min_eq_left (by omega)]
  · have e : (if fa p < 0 ∨ ¬ 0 ≤ fa r then (-1 : Int32) else fa p + fa r) = nI (p + r) := by
      rw [if_neg (by rw [fa_neg hp, fa_ge hr]; omega), fa_fin (by omega), fa_fin (by omega), nI_add]
    rw [e]
    by_cases h2 : 1000 ≤ x
    · rw [if_pos ⟨nI_pos (by omega), Or.inl ((fa_neg hx).mpr h2)⟩, Nat.min_eq_right (by omega), fa_fin (by omega)]
    · rw [fa_fin h2]
      by_cases h3 : p + r < x
      · rw [if_pos ⟨nI_pos (by omega), Or.inr (nI_ge h3 (by omega))⟩, Nat.min_eq_right (by omega), fa_fin (by omega)]
      · rw [if_neg, Nat.min_eq_left (by omega), fa_fin h2]
        intro z
        rcases z.2 with z2 | z2
        · exact nI_pos (by omega) z2
        · exact z2 (nI_le (by omega) (by omega))
set_option maxHeartbeats 4000000 in
set_option maxRecDepth 100000 in
theorem ev_farOf {I : Nat → Nat → Int32} {L : Nat → Nat → Int64} {q : Nat → Nat → Nat} {a b : Nat} (ha : a < 8) (hb : b < 8) : hz_Ev mX11_farOf TT NN (I, L, PP q) [.ref 146, .int (nI a), .int (nI b)] 0 0 (some (.int (I 153 (8 * a + b)))) TT NN (I, L, PP q) := by
  refine hz_Ev.intro (ls := [some (.ref 146), some (.int (nI a)), some (.int (nI b))]) (by decide +kernel) rfl (Nat.le_of_ble_eq_true rfl) (fun X C Z _ => ?_)
  refine hz_aload_n (pc := 0) C dX11_farOf_0 rfl ?_
  refine hz_getP (pc := 1) C (v := 153) ffX11_33 dX11_farOf_1 hT146 hA146 rfl (hP146_15 q) (by decide) ?_
  refine hz_bipush (pc := 4) C (v := nI 8) dX11_farOf_4 (by decide +kernel) ?_
  refine hz_iload_n (pc := 6) C dX11_farOf_6 rfl ?_
  refine hz_imul (pc := 7) C (v := nI (8 * a)) dX11_farOf_7 (pk_mul _ _) ?_
  refine hz_iload_n (pc := 8) C dX11_farOf_8 rfl ?_
  refine hz_iadd (pc := 9) C (v := nI ((8 * a) + b)) dX11_farOf_9 (nI_add _ _) ?_
  refine hz_iald (pc := 10) C (v := I 153 ((8 * a) + b)) (j := (8 * a) + b) dX11_farOf_10 hT153 hA153 rfl (by omega) (by decide) rfl ?_
  exact hz_iret C Z rfl dX11_farOf_11 rfl rfl
set_option maxHeartbeats 4000000 in
set_option maxRecDepth 100000 in
theorem lp_lf2 {X : hz_X} (C : hz_C X mX11_layFar) {I : Nat → Nat → Int32} {L : Nat → Nat → Int64} {q : Nat → Nat → Nat} {u : Nat → Nat} (V : MV I u) (U : WU u) {a : Nat} (ha : a < 8) (kk : ∀ (f : Nat → Int32) (w3 : Option Value), lf_0 u a 8 f → hz_G X TT NN (hz_sa I 153 f, L, PP q) 0 0 63 [some (.ref 146), some (.int (nI a)), some (.int (nI 8)), w3, none, none] []) : ∀ (n b : Nat) (f : Nat → Int32) (w3 : Option Value), b + n = 8 → lf_0 u a b f → hz_G X TT NN (hz_sa I 153 f, L, PP q) 0 0 10 [some (.ref 146), some (.int (nI a)), some (.int (nI b)), w3, none, none] [] := by
  intro n
  induction n with
  | zero =>
    intro b f w3 hi hf
    obtain rfl : b = 8 := by omega
    skip
    refine hz_iload_n (pc := 10) C dX11_layFar_10 rfl ?_
    refine hz_bipush (pc := 11) C (v := nI 8) dX11_layFar_11 (by decide +kernel) ?_
    refine hz_ic_ge (pc := 13) C (tgt := 63) dX11_layFar_13 rfl (fun _ => ?_) (fun cq => absurd (nI_le (by omega) (by omega)) cq)
    exact kk f _ hf
  | succ n ih =>
    intro b f w3 hi hf
    have hu := wu_dr U (j := 8 * a + b) (by omega)
    refine hz_iload_n (pc := 10) C dX11_layFar_10 rfl ?_
    refine hz_bipush (pc := 11) C (v := nI 8) dX11_layFar_11 (by decide +kernel) ?_
    refine hz_ic_ge (pc := 13) C (tgt := 63) dX11_layFar_13 rfl (fun cq => absurd cq (nI_ge (by omega) (by omega))) (fun _ => ?_)
    refine hz_aload_n (pc := 16) C dX11_layFar_16 rfl ?_
    refine hz_getP (pc := 17) C (v := 147) ffX11_7 dX11_layFar_17 hT146 hA146 rfl (hP146_0 q) (by decide) ?_
    refine hz_bipush (pc := 20) C (v := nI 8) dX11_layFar_20 (by decide +kernel) ?_
    refine hz_iload_n (pc := 22) C dX11_layFar_22 rfl ?_
    refine hz_imul (pc := 23) C (v := nI (8 * a)) dX11_layFar_23 (pk_mul _ _) ?_
    refine hz_iload_n (pc := 24) C dX11_layFar_24 rfl ?_
    refine hz_iadd (pc := 25) C (v := nI ((8 * a) + b)) dX11_layFar_25 (nI_add _ _) ?_
    refine hz_iald (pc := 26) C (v := nI (u ((8 * a) + b))) (j := (8 * a) + b) dX11_layFar_26 hT147 hA147 rfl (by omega) (by decide) (mg V (by omega) (by omega)) ?_
    refine hz_istore_n (pc := 27) C (ls' := [some (.ref 146), some (.int (nI a)), some (.int (nI b)), some (.int (nI (u ((8 * a) + b)))), none, none]) dX11_layFar_27 (Nat.le_of_ble_eq_true rfl) rfl ?_
    refine hz_aload_n (pc := 28) C dX11_layFar_28 rfl ?_
    refine hz_getP (pc := 29) C (v := 153) ffX11_33 dX11_layFar_29 hT146 hA146 rfl (hP146_15 q) (by decide) ?_
    refine hz_bipush (pc := 32) C (v := nI 8) dX11_layFar_32 (by decide +kernel) ?_
    refine hz_iload_n (pc := 34) C dX11_layFar_34 rfl ?_
    refine hz_imul (pc := 35) C (v := nI (8 * a)) dX11_layFar_35 (pk_mul _ _) ?_
    refine hz_iload_n (pc := 36) C dX11_layFar_36 rfl ?_
    refine hz_iadd (pc := 37) C (v := nI ((8 * a) + b)) dX11_layFar_37 (nI_add _ _) ?_
    refine hz_iload_n (pc := 38) C dX11_layFar_38 rfl ?_
    refine hz_iload_n (pc := 39) C dX11_layFar_39 rfl ?_
    refine hz_ic_ne (pc := 40) C (tgt := 47) dX11_layFar_40 rfl (fun c1 => ?_) (fun c1 => ?_)
    · refine hz_iload_n (pc := 47) C dX11_layFar_47 rfl ?_
      refine hz_if_ne (pc := 48) C (tgt := 55) dX11_layFar_48 rfl (fun c2 => ?_) (fun c2 => ?_)
      · refine hz_iload_n (pc := 55) C dX11_layFar_55 rfl ?_
        refine hz_iast (pc := 56) C (v := nI (u ((8 * a) + b))) (j := (8 * a) + b) (M' := (hz_sa I 153 (va_up f ((8 * a) + b) (nI (u ((8 * a) + b)))), L, PP q)) dX11_layFar_56 hT153 hA153 rfl (by omega) (by decide) rfl (hz_sau _ _ _ _ _ _) ?_
        refine hz_iinc (pc := 57) C (v := nI (b + 1)) (ls' := [some (.ref 146), some (.int (nI a)), some (.int (nI (b + 1))), some (.int (nI (u ((8 * a) + b)))), none, none]) dX11_layFar_57 rfl (nI_add _ 1) rfl ?_
        refine hz_goto (pc := 60) C (tgt := 10) dX11_layFar_60 rfl ?_
        exact ih (b + 1) _ _ (by omega) (fun a' b' ha' hb' hd => by
          rw [hz_up3 (by omega) hb']
          by_cases e : a' = a ∧ b' = b
          · obtain ⟨rfl, rfl⟩ := e
            rw [if_pos ⟨rfl, rfl⟩]
            have e9 : ¬ a' = b' := fun z => c1 ((nI_eq (by omega) (by omega)).mpr z)
            rw [show fw0 u a' b' = u (8 * a' + b') from (if_neg e9).trans (if_neg (fun z => c2 (by rw [z]; rfl))), fa_fin (by omega)]
          · rw [if_neg e]
            exact hf a' b' ha' hb' (by omega))
      · refine hz_iconst (pc := 51) C (v := (-1 : Int32)) dX11_layFar_51 (by decide +kernel) ?_
        refine hz_goto (pc := 52) C (tgt := 56) dX11_layFar_52 rfl ?_
        refine hz_iast (pc := 56) C (v := (-1 : Int32)) (j := (8 * a) + b) (M' := (hz_sa I 153 (va_up f ((8 * a) + b) (-1 : Int32)), L, PP q)) dX11_layFar_56 hT153 hA153 rfl (by omega) (by decide) rfl (hz_sau _ _ _ _ _ _) ?_
        refine hz_iinc (pc := 57) C (v := nI (b + 1)) (ls' := [some (.ref 146), some (.int (nI a)), some (.int (nI (b + 1))), some (.int (nI (u ((8 * a) + b)))), none, none]) dX11_layFar_57 rfl (nI_add _ 1) rfl ?_
        refine hz_goto (pc := 60) C (tgt := 10) dX11_layFar_60 rfl ?_
        exact ih (b + 1) _ _ (by omega) (fun a' b' ha' hb' hd => by
          rw [hz_up3 (by omega) hb']
          by_cases e : a' = a ∧ b' = b
          · obtain ⟨rfl, rfl⟩ := e
            rw [if_pos ⟨rfl, rfl⟩]
            have e9 : ¬ a' = b' := fun z => c1 ((nI_eq (by omega) (by omega)).mpr z)
            have e8 : u (8 * a' + b') = 0 := Decidable.byContradiction fun z => nI_ne0 (by omega) (by omega) c2
            rw [show fw0 u a' b' = 1000 from (if_neg e9).trans (if_pos e8)]
            rfl
          · rw [if_neg e]
            exact hf a' b' ha' hb' (by omega))
    · refine hz_iconst (pc := 43) C (v := nI 0) dX11_layFar_43 (by decide +kernel) ?_
      refine hz_goto (pc := 44) C (tgt := 56) dX11_layFar_44 rfl ?_
      refine hz_iast (pc := 56) C (v := nI 0) (j := (8 * a) + b) (M' := (hz_sa I 153 (va_up f ((8 * a) + b) (nI 0)), L, PP q)) dX11_layFar_56 hT153 hA153 rfl (by omega) (by decide) rfl (hz_sau _ _ _ _ _ _) ?_
      refine hz_iinc (pc := 57) C (v := nI (b + 1)) (ls' := [some (.ref 146), some (.int (nI a)), some (.int (nI (b + 1))), some (.int (nI (u ((8 * a) + b)))), none, none]) dX11_layFar_57 rfl (nI_add _ 1) rfl ?_
      refine hz_goto (pc := 60) C (tgt := 10) dX11_layFar_60 rfl ?_
      exact ih (b + 1) _ _ (by omega) (fun a' b' ha' hb' hd => by
        rw [hz_up3 (by omega) hb']
        by_cases e : a' = a ∧ b' = b
        · obtain ⟨rfl, rfl⟩ := e
          rw [if_pos ⟨rfl, rfl⟩]
          have e9 := (nI_eq (by omega) (by omega)).mp c1
          rw [show fw0 u a' b' = 0 from if_pos e9]
          rfl
        · rw [if_neg e]
          exact hf a' b' ha' hb' (by omega))
set_option maxHeartbeats 4000000 in
set_option maxRecDepth 100000 in
theorem lp_lf1 {X : hz_X} (C : hz_C X mX11_layFar) {I : Nat → Nat → Int32} {L : Nat → Nat → Int64} {q : Nat → Nat → Nat} {u : Nat → Nat} (V : MV I u) (U : WU u) (kk : ∀ (f : Nat → Int32) (w2 w3 : Option Value), (∀ a b, a < 8 → b < 8 → f (8 * a + b) = fa (fw0 u a b)) → hz_G X TT NN (hz_sa I 153 f, L, PP q) 0 0 69 [some (.ref 146), some (.int (nI 8)), w2, w3, none, none] []) : ∀ (n a : Nat) (f : Nat → Int32) (w2 w3 : Option Value), a + n = 8 → lf_0 u a 0 f → hz_G X TT NN (hz_sa I 153 f, L, PP q) 0 0 2 [some (.ref 146), some (.int (nI a)), w2, w3, none, none] [] := by
  intro n
  induction n with
  | zero =>
    intro a f w2 w3 hi hf
    obtain rfl : a = 8 := by omega
    refine hz_iload_n (pc := 2) C dX11_layFar_2 rfl ?_
    refine hz_bipush (pc := 3) C (v := nI 8) dX11_layFar_3 (by decide +kernel) ?_
    refine hz_ic_ge (pc := 5) C (tgt := 69) dX11_layFar_5 rfl (fun _ => ?_) (fun cq => absurd (nI_le (by omega) (by omega)) cq)
    exact kk f _ _ (fun a b ha hb => hf a b ha hb (by omega))
  | succ n ih =>
    intro a f w2 w3 hi hf
    refine hz_iload_n (pc := 2) C dX11_layFar_2 rfl ?_
    refine hz_bipush (pc := 3) C (v := nI 8) dX11_layFar_3 (by decide +kernel) ?_
    refine hz_ic_ge (pc := 5) C (tgt := 69) dX11_layFar_5 rfl (fun cq => absurd cq (nI_ge (by omega) (by omega))) (fun _ => ?_)
    refine hz_iconst (pc := 8) C (v := nI 0) dX11_layFar_8 (by decide +kernel) ?_
    refine hz_istore_n (pc := 9) C (ls' := [some (.ref 146), some (.int (nI a)), some (.int (nI 0)), w3, none, none]) dX11_layFar_9 (Nat.le_of_ble_eq_true rfl) rfl ?_
    refine lp_lf2 C V U (by omega) (fun f w3 hf => ?_) 8 0 f _ (by omega) (fun a' b' ha' hb' hd => hf a' b' ha' hb' (by omega))
    refine hz_iinc (pc := 63) C (v := nI (a + 1)) (ls' := [some (.ref 146), some (.int (nI (a + 1))), some (.int (nI 8)), w3, none, none]) dX11_layFar_63 rfl (nI_add _ 1) rfl ?_
    refine hz_goto (pc := 66) C (tgt := 2) dX11_layFar_66 rfl ?_
    exact ih (a + 1) f _ _ (by omega) (fun a' b' ha' hb' hd => hf a' b' ha' hb' (by omega))

theorem orb_i {M d : Nat} (hM : M < 64) (hd : d < 6) : nI M ||| (nI 1 <<< (nI d &&& 31)) = nI (orb M d) := by
  have h : ∀ M, M < 64 → ∀ d, d < 6 → nI M ||| (nI 1 <<< (nI d &&& 31)) = nI (orb M d) := by decide +kernel
  exact h M hM d hd
theorem p6 {m : Nat} (h : m ≤ 6) : 6 ^ m ≤ 46656 := Nat.pow_le_pow_right (n := 6) (i := m) (j := 6) (by decide) h
theorem dl_s (m c : Nat) : dl (m + 1) c = c / 6 ^ m % 6 :: dl m c := rfl
theorem met_s (b : Nat) (l : List Nat) : met (b :: l) = orb (met l) b := rfl
def oD (K0 K : Nat → Nat → Int32) (m c t : Nat) : Prop := (∀ a, a ≠ 156 → K a = K0 a) ∧ ∀ j, t ≤ j → j < m → K 156 j = nI (c / 6 ^ (m - 1 - j) % 6)
theorem oD.nxt {K0 K : Nat → Nat → Int32} {m c t : Nat} (h : oD K0 K m c (t + 1)) (ht : t < m) : oD K0 (hz_up K 156 t (nI (c / 6 ^ (m - (t + 1)) % 6))) m c t := by
  refine ⟨fun a ha => by rw [hz_up_ne _ _ _ _ ha]; exact h.1 a ha, fun j hj1 hj2 => ?_⟩
  by_cases hz : j = t
  · subst hz; rw [hz_up_self, show m - 1 - j = m - (j + 1) by omega]
  · rw [hz_up_nk _ _ _ _ hz]; exact h.2 j (by omega) hj2
set_option maxHeartbeats 4000000 in
set_option maxRecDepth 100000 in
theorem lp_dg {X : hz_X} (C : hz_C X mX11_layWay) {K0 : Nat → Nat → Int32} {L : Nat → Nat → Int64} {q : Nat → Nat → Nat} {m c : Nat} (hm : m ≤ 6) (hc : c < 6 ^ m) {s r b : Int32} (kk : ∀ K, (∀ a, a ≠ 156 → K a = K0 a) ∧ (∀ j, j < m → K 156 j = nI ((dl m c).getD j 0)) → hz_G X TT NN (K, L, PP q) 0 0 105 [some (.ref 146), some (.int s), some (.int (nI m)), some (.int r), some (.int b), some (.int (nI c)), some (.int (nI (c / 6 ^ (m - 0)))), some (.int (nI (met (dl (m - 0) c)))), some (.int (nI 0 - 1))] []) : ∀ (t : Nat) (K : Nat → Nat → Int32), t ≤ m → oD K0 K m c t → hz_G X TT NN (K, L, PP q) 0 0 61 [some (.ref 146), some (.int s), some (.int (nI m)), some (.int r), some (.int b), some (.int (nI c)), some (.int (nI (c / 6 ^ (m - t)))), some (.int (nI (met (dl (m - t) c)))), some (.int (nI t - 1))] [] := by
  intro t
  induction t with
  | zero =>
    intro K htm hK
    refine hz_iload (pc := 61) C dX11_layWay_61 rfl ?_
    refine hz_if_lt (pc := 63) C (tgt := 105) dX11_layWay_63 rfl (fun _ => ?_) (fun cq => absurd (by decide +kernel) cq)
    exact kk K ⟨hK.1, fun j hj => by rw [hK.2 j (Nat.zero_le _) hj, dl_get m c j hj]⟩
  | succ t ih =>
    intro K htm hK
    have hp6 := p6 hm
    have hleft : c / 6 ^ (m - (t + 1)) < 2 ^ 31 := Nat.lt_of_le_of_lt (Nat.div_le_self _ _) (by omega)
    have hmet := (met_ok (dl_lt (m - (t + 1)) c)).1
    rw [en_m1]
    refine hz_iload (pc := 61) C dX11_layWay_61 rfl ?_
    refine hz_if_lt (pc := 63) C (tgt := 105) dX11_layWay_63 rfl (fun cq => absurd cq (nI_pos (by omega))) (fun _ => ?_)
    refine hz_aload_n (pc := 66) C dX11_layWay_66 rfl ?_
    refine hz_getP (pc := 67) C (v := 156) ffX11_42 dX11_layWay_67 hT146 hA146 rfl (hP146_18 q) (by decide) ?_
    refine hz_iload (pc := 70) C dX11_layWay_70 rfl ?_
    refine hz_iload (pc := 72) C dX11_layWay_72 rfl ?_
    refine hz_bipush (pc := 74) C (v := nI 6) dX11_layWay_74 (by decide +kernel) ?_
    refine hz_irem (pc := 76) C (v := nI (c / 6 ^ (m - (t + 1)) % 6)) dX11_layWay_76 (by decide +kernel) (pk_rem hleft (by decide) (by decide)) ?_
    refine hz_iast (pc := 77) C (v := nI (c / 6 ^ (m - (t + 1)) % 6)) (j := t) (M' := (hz_up K 156 t (nI (c / 6 ^ (m - (t + 1)) % 6)), L, PP q)) dX11_layWay_77 hT156 hA156 rfl (by omega) (by decide) rfl rfl ?_
    refine hz_iload (pc := 78) C dX11_layWay_78 rfl ?_
    refine hz_bipush (pc := 80) C (v := nI 6) dX11_layWay_80 (by decide +kernel) ?_
    refine hz_idiv (pc := 82) C (v := nI (c / 6 ^ (m - (t + 1)) / 6)) dX11_layWay_82 (by decide +kernel) (pk_div hleft (by decide) (by decide)) ?_
    refine hz_istore (pc := 83) C (ls' := [some (.ref 146), some (.int s), some (.int (nI m)), some (.int r), some (.int b), some (.int (nI c)), some (.int (nI (c / 6 ^ (m - (t + 1)) / 6))), some (.int (nI (met (dl (m - (t + 1)) c)))), some (.int (nI t))]) dX11_layWay_83 (Nat.le_of_ble_eq_true rfl) rfl ?_
    refine hz_iload (pc := 85) C dX11_layWay_85 rfl ?_
    refine hz_iconst (pc := 87) C (v := nI 1) dX11_layWay_87 (by decide +kernel) ?_
    refine hz_aload_n (pc := 88) C dX11_layWay_88 rfl ?_
    refine hz_getP (pc := 89) C (v := 156) ffX11_42 dX11_layWay_89 hT146 hA146 rfl (hP146_18 q) (by decide) ?_
    refine hz_iload (pc := 92) C dX11_layWay_92 rfl ?_
    refine hz_iald (pc := 94) C (v := nI (c / 6 ^ (m - (t + 1)) % 6)) (j := t) dX11_layWay_94 hT156 hA156 rfl (by omega) (by decide) (by simp only [hz_up_eq, va_up_self]) ?_
    refine hz_ishl (pc := 95) C dX11_layWay_95 rfl ?_
    refine hz_ior (pc := 96) C (v := nI (orb (met (dl (m - (t + 1)) c)) (c / 6 ^ (m - (t + 1)) % 6))) dX11_layWay_96 (orb_i hmet (Nat.mod_lt _ (by decide))) ?_
    refine hz_istore (pc := 97) C (ls' := [some (.ref 146), some (.int s), some (.int (nI m)), some (.int r), some (.int b), some (.int (nI c)), some (.int (nI (c / 6 ^ (m - (t + 1)) / 6))), some (.int (nI (orb (met (dl (m - (t + 1)) c)) (c / 6 ^ (m - (t + 1)) % 6)))), some (.int (nI t))]) dX11_layWay_97 (Nat.le_of_ble_eq_true rfl) rfl ?_
    refine hz_iinc (pc := 99) C (v := (nI t) + (-1)) (ls' := [some (.ref 146), some (.int s), some (.int (nI m)), some (.int r), some (.int b), some (.int (nI c)), some (.int (nI (c / 6 ^ (m - (t + 1)) / 6))), some (.int (nI (orb (met (dl (m - (t + 1)) c)) (c / 6 ^ (m - (t + 1)) % 6)))), some (.int ((nI t) + (-1)))]) dX11_layWay_99 rfl (rfl) rfl ?_
    refine hz_goto (pc := 102) C (tgt := 61) dX11_layWay_102 rfl ?_
    rw [m1_e]
    have h9 := ih _ (by omega) (hK.nxt (by omega))
    have zze1 : m - t = m - (t + 1) + 1 := by omega
    rw [zze1, dl_s, met_s, Nat.pow_succ, ← Nat.div_div_eq_div_mul] at h9
    exact h9
set_option maxHeartbeats 4000000 in
set_option maxRecDepth 100000 in
theorem lp_rw {X : hz_X} (C : hz_C X mX11_layWay) {I : Nat → Nat → Int32} {L : Nat → Nat → Int64} {q : Nat → Nat → Nat} {m : Nat} (hm : m ≤ 6) {s : Int32} (kk : hz_G X TT NN (I, L, PP q) 0 0 32 [some (.ref 146), some (.int s), some (.int (nI m)), some (.int (nI (6 ^ m))), some (.int (nI m)), none, none, none, none] []) : ∀ (n i : Nat) , i + n = m → hz_G X TT NN (I, L, PP q) 0 0 15 [some (.ref 146), some (.int s), some (.int (nI m)), some (.int (nI (6 ^ i))), some (.int (nI i)), none, none, none, none] [] := by
  intro n
  induction n with
  | zero =>
    intro i  hi 
    obtain rfl : m = i := by omega
    refine hz_iload (pc := 15) C dX11_layWay_15 rfl ?_
    refine hz_iload_n (pc := 17) C dX11_layWay_17 rfl ?_
    refine hz_ic_ge (pc := 18) C (tgt := 32) dX11_layWay_18 rfl (fun _ => ?_) (fun cq => absurd (nI_le (by omega) (by omega)) cq)
    exact kk
  | succ n ih =>
    intro i  hi 
    refine hz_iload (pc := 15) C dX11_layWay_15 rfl ?_
    refine hz_iload_n (pc := 17) C dX11_layWay_17 rfl ?_
    refine hz_ic_ge (pc := 18) C (tgt := 32) dX11_layWay_18 rfl (fun cq => absurd cq (nI_ge (by omega) (by omega))) (fun _ => ?_)
    refine hz_iload_n (pc := 21) C dX11_layWay_21 rfl ?_
    refine hz_bipush (pc := 22) C (v := nI 6) dX11_layWay_22 (by decide +kernel) ?_
    refine hz_imul (pc := 24) C (v := nI ((6 ^ i) * 6)) dX11_layWay_24 (pk_mul _ _) ?_
    refine hz_istore_n (pc := 25) C (ls' := [some (.ref 146), some (.int s), some (.int (nI m)), some (.int (nI ((6 ^ i) * 6))), some (.int (nI i)), none, none, none, none]) dX11_layWay_25 (Nat.le_of_ble_eq_true rfl) rfl ?_
    refine hz_iinc (pc := 26) C (v := nI (i + 1)) (ls' := [some (.ref 146), some (.int s), some (.int (nI m)), some (.int (nI ((6 ^ i) * 6))), some (.int (nI (i + 1))), none, none, none, none]) dX11_layWay_26 rfl (nI_add _ 1) rfl ?_
    refine hz_goto (pc := 29) C (tgt := 15) dX11_layWay_29 rfl ?_
    have h9 := ih (i + 1) (by omega)
    rw [Nat.pow_succ] at h9
    exact h9
def fW (I K : Nat → Nat → Int32) : Prop := ∀ a, a ≠ 156 → a ≠ 157 → K a = I a
def lWA (u : Nat → Nat) (K : Nat → Nat → Int32) (c : Nat) (b : Int32) : Prop := (b = -1 ∧ ∀ y, y < c → ¬ VL (dl (mm u) y) (loS u)) ∨ ∃ x, x < c ∧ VL (dl (mm u) x) (loS u) ∧ b = nI (cst (dd u) 6 (dl (mm u) x)) ∧ (∀ y, y < c → VL (dl (mm u) y) (loS u) → cst (dd u) 6 (dl (mm u) x) ≤ cst (dd u) 6 (dl (mm u) y) ∧ (y < x → cst (dd u) 6 (dl (mm u) x) < cst (dd u) 6 (dl (mm u) y))) ∧ ∀ i, i < mm u → K 157 i = nI ((dl (mm u) x).getD i 0)
theorem lWA.no {u : Nat → Nat} {K K' : Nat → Nat → Int32} {c : Nat} {b : Int32} (h : lWA u K c b) (hv : ¬ VL (dl (mm u) c) (loS u)) (e : K' 157 = K 157) : lWA u K' (c + 1) b := by
  rcases h with ⟨h1, h2⟩ | ⟨x, h1, h2, h3, h4, h5⟩
  · refine Or.inl ⟨h1, fun y hy => ?_⟩
    by_cases hz : y = c
    · subst hz; exact hv
    · exact h2 y (by omega)
  · refine Or.inr ⟨x, by omega, h2, h3, fun y hy hvy => ?_, by rw [e]; exact h5⟩
    by_cases hz : y = c
    · subst hz; exact absurd hvy hv
    · exact h4 y (by omega) hvy
theorem lWA.first {u : Nat → Nat} {K : Nat → Nat → Int32} {c : Nat} (h2 : ∀ y, y < c → ¬ VL (dl (mm u) y) (loS u)) (hv : VL (dl (mm u) c) (loS u)) (h5 : ∀ i, i < mm u → K 157 i = nI ((dl (mm u) c).getD i 0)) : lWA u K (c + 1) (nI (cst (dd u) 6 (dl (mm u) c))) := by
  refine Or.inr ⟨c, by omega, hv, rfl, fun y hy hvy => ?_, h5⟩
  by_cases hz : y = c
  · subst hz; exact ⟨Nat.le_refl _, fun z => absurd z (Nat.lt_irrefl _)⟩
  · exact absurd hvy (h2 y (by omega))
theorem lWA.better {u : Nat → Nat} {K : Nat → Nat → Int32} {c x : Nat} (h4 : ∀ y, y < c → VL (dl (mm u) y) (loS u) → cst (dd u) 6 (dl (mm u) x) ≤ cst (dd u) 6 (dl (mm u) y) ∧ (y < x → cst (dd u) 6 (dl (mm u) x) < cst (dd u) 6 (dl (mm u) y))) (hv : VL (dl (mm u) c) (loS u)) (hlt : cst (dd u) 6 (dl (mm u) c) < cst (dd u) 6 (dl (mm u) x)) (h5 : ∀ i, i < mm u → K 157 i = nI ((dl (mm u) c).getD i 0)) : lWA u K (c + 1) (nI (cst (dd u) 6 (dl (mm u) c))) := by
  refine Or.inr ⟨c, by omega, hv, rfl, fun y hy hvy => ?_, h5⟩
  by_cases hz : y = c
  · subst hz; exact ⟨Nat.le_refl _, fun z => absurd z (Nat.lt_irrefl _)⟩
  · have h9 := (h4 y (by omega) hvy).1
    exact ⟨by omega, fun _ => by omega⟩
theorem lWA.worse {u : Nat → Nat} {K : Nat → Nat → Int32} {c x : Nat} (hx : x < c) (hvx : VL (dl (mm u) x) (loS u)) (h4 : ∀ y, y < c → VL (dl (mm u) y) (loS u) → cst (dd u) 6 (dl (mm u) x) ≤ cst (dd u) 6 (dl (mm u) y) ∧ (y < x → cst (dd u) 6 (dl (mm u) x) < cst (dd u) 6 (dl (mm u) y))) (hle : cst (dd u) 6 (dl (mm u) x) ≤ cst (dd u) 6 (dl (mm u) c)) (h5 : ∀ i, i < mm u → K 157 i = nI ((dl (mm u) x).getD i 0)) : lWA u K (c + 1) (nI (cst (dd u) 6 (dl (mm u) x))) := by
  refine Or.inr ⟨x, by omega, hvx, rfl, fun y hy hvy => ?_, h5⟩
  by_cases hz : y = c
  · subst hz; exact ⟨hle, fun z => by omega⟩
  · exact h4 y (by omega) hvy
theorem VL.of {u : Nat → Nat} (U : WU u) {c : Nat} (h : met (dl (mm u) c) = loS u) : VL (dl (mm u) c) (loS u) := ⟨h, by rw [cs_loS U, dl_len], dl_lt _ _⟩
theorem VL.bd {u : Nat → Nat} (U : WU u) (F : fin6 (dd u) (loS u)) {c : Nat} (h : VL (dl (mm u) c) (loS u)) : cst (dd u) 6 (dl (mm u) c) ≤ 378 := by
  have h1 := cst_bd F (l := dl (mm u) c) (a := 6) (fun b hb => ⟨dl_lt _ _ b hb, h.sub (loS_lt U) b hb⟩) (Or.inl rfl)
  rw [dl_len] at h1
  have := mm_le U
  omega
set_option maxHeartbeats 4000000 in
set_option maxRecDepth 100000 in
theorem lp_cA {X : hz_X} (C : hz_C X mX11_layWay) {I : Nat → Nat → Int32} {L : Nat → Nat → Int64} {q : Nat → Nat → Nat} {u : Nat → Nat} (V : MF I u) (U : WU u) (F : fin6 (dd u) (loS u)) (kk : ∀ (K : Nat → Nat → Int32) (b : Int32) (zzw6 zzw7 zzw8 : Option Value), fW I K → lWA u K (6 ^ mm u) b → hz_G X TT NN (K, L, PP q) 0 0 166 [some (.ref 146), some (.int (nI (loS u))), some (.int (nI (mm u))), some (.int (nI (6 ^ mm u))), some (.int b), some (.int (nI (6 ^ mm u))), zzw6, zzw7, zzw8] []) : ∀ (n c : Nat) (K : Nat → Nat → Int32) (b : Int32) (zzw6 zzw7 zzw8 : Option Value), c + n = 6 ^ mm u → fW I K → lWA u K c b → hz_G X TT NN (K, L, PP q) 0 0 43 [some (.ref 146), some (.int (nI (loS u))), some (.int (nI (mm u))), some (.int (nI (6 ^ mm u))), some (.int b), some (.int (nI c)), zzw6, zzw7, zzw8] [] := by
  intro n
  induction n with
  | zero =>
    intro c K b zzw6 zzw7 zzw8 hi hF hW
    obtain rfl : 6 ^ mm u = c := by omega
    have hm := mm_le U
    have hp6 := p6 hm
    refine hz_iload (pc := 43) C dX11_layWay_43 rfl ?_
    refine hz_iload_n (pc := 45) C dX11_layWay_45 rfl ?_
    refine hz_ic_ge (pc := 46) C (tgt := 166) dX11_layWay_46 rfl (fun _ => ?_) (fun cq => absurd (nI_le (by omega) (by omega)) cq)
    exact kk K b zzw6 zzw7 zzw8 hF hW
  | succ n ih =>
    intro c K b zzw6 zzw7 zzw8 hi hF hW
    have hm := mm_le U
    have hp6 := p6 hm
    have hSl := loS_lt U
    have hmet := (met_ok (dl_lt (mm u) c)).1
    refine hz_iload (pc := 43) C dX11_layWay_43 rfl ?_
    refine hz_iload_n (pc := 45) C dX11_layWay_45 rfl ?_
    refine hz_ic_ge (pc := 46) C (tgt := 166) dX11_layWay_46 rfl (fun cq => absurd cq (nI_ge (by omega) (by omega))) (fun _ => ?_)
    refine hz_iload (pc := 49) C dX11_layWay_49 rfl ?_
    refine hz_istore (pc := 51) C (ls' := [some (.ref 146), some (.int (nI (loS u))), some (.int (nI (mm u))), some (.int (nI (6 ^ mm u))), some (.int b), some (.int (nI c)), some (.int (nI c)), zzw7, zzw8]) dX11_layWay_51 (Nat.le_of_ble_eq_true rfl) rfl ?_
    refine hz_iconst (pc := 53) C (v := nI 0) dX11_layWay_53 (by decide +kernel) ?_
    refine hz_istore (pc := 54) C (ls' := [some (.ref 146), some (.int (nI (loS u))), some (.int (nI (mm u))), some (.int (nI (6 ^ mm u))), some (.int b), some (.int (nI c)), some (.int (nI c)), some (.int (nI 0)), zzw8]) dX11_layWay_54 (Nat.le_of_ble_eq_true rfl) rfl ?_
    refine hz_iload_n (pc := 56) C dX11_layWay_56 rfl ?_
    refine hz_iconst (pc := 57) C (v := nI 1) dX11_layWay_57 (by decide +kernel) ?_
    refine hz_isub (pc := 58) C (v := nI (mm u) - 1) dX11_layWay_58 (by rw [nI_1']) ?_
    refine hz_istore (pc := 59) C (ls' := [some (.ref 146), some (.int (nI (loS u))), some (.int (nI (mm u))), some (.int (nI (6 ^ mm u))), some (.int b), some (.int (nI c)), some (.int (nI c)), some (.int (nI 0)), some (.int (nI (mm u) - 1))]) dX11_layWay_59 (Nat.le_of_ble_eq_true rfl) rfl ?_
    refine Eq.mpr (by rw [Nat.sub_self, show c / 6 ^ 0 = c by rw [Nat.pow_zero, Nat.div_one]]; rfl) (?_ : hz_G X TT NN (K, L, PP q) 0 0 61 [some (.ref 146), some (.int (nI (loS u))), some (.int (nI (mm u))), some (.int (nI (6 ^ mm u))), some (.int b), some (.int (nI c)), some (.int (nI (c / 6 ^ (mm u - mm u)))), some (.int (nI (met (dl (mm u - mm u) c)))), some (.int (nI (mm u) - 1))] [])
    refine lp_dg (K0 := K) C hm (by omega) (fun K1 hO => ?_) (mm u) K (Nat.le_refl _) ⟨fun _ _ => rfl, fun j hj1 hj2 => absurd hj1 (by omega)⟩
    have V1 : MF K1 u := V.cong ((hO.1 147 (by omega)).trans (hF 147 (by omega) (by omega))) ((hO.1 153 (by omega)).trans (hF 153 (by omega) (by omega)))
    have hF1 : fW I K1 := fun a h1 h2 => (hO.1 a h1).trans (hF a h1 h2)
    refine hz_iload (pc := 105) C dX11_layWay_105 rfl ?_
    refine hz_iload_n (pc := 107) C dX11_layWay_107 rfl ?_
    refine hz_ic_ne (pc := 108) C (tgt := 119) dX11_layWay_108 rfl (fun zzc1 => ?_) (fun zzc1 => ?_)
    · refine hz_iconst (pc := 119) C (v := (-1 : Int32)) dX11_layWay_119 (by decide +kernel) ?_
      refine hz_istore (pc := 120) C (ls' := [some (.ref 146), some (.int (nI (loS u))), some (.int (nI (mm u))), some (.int (nI (6 ^ mm u))), some (.int b), some (.int (nI c)), some (.int (nI (c / 6 ^ (mm u - 0)))), some (.int (nI (met (dl (mm u - 0) c)))), some (.int (-1 : Int32))]) dX11_layWay_120 (Nat.le_of_ble_eq_true rfl) rfl ?_
      refine hz_iload (pc := 122) C dX11_layWay_122 rfl ?_
      refine hz_iconst (pc := 124) C (v := (-1 : Int32)) dX11_layWay_124 (by decide +kernel) ?_
      refine hz_ic_eq (pc := 125) C (tgt := 160) dX11_layWay_125 rfl (fun _ => ?_) (fun cq => absurd rfl cq)
      refine hz_iinc (pc := 160) C (v := nI (c + 1)) (ls' := [some (.ref 146), some (.int (nI (loS u))), some (.int (nI (mm u))), some (.int (nI (6 ^ mm u))), some (.int b), some (.int (nI (c + 1))), some (.int (nI (c / 6 ^ (mm u - 0)))), some (.int (nI (met (dl (mm u - 0) c)))), some (.int (-1 : Int32))]) dX11_layWay_160 rfl (nI_add _ 1) rfl ?_
      refine hz_goto (pc := 163) C (tgt := 43) dX11_layWay_163 rfl ?_
      exact ih (c + 1) K1 b (some (.int (nI (c / 6 ^ (mm u - 0))))) (some (.int (nI (met (dl (mm u - 0) c))))) (some (.int (-1 : Int32))) (by omega) hF1 (hW.no (fun z => zzc1 (congrArg nI z.1)) (hO.1 157 (by omega)))
    · have hv : VL (dl (mm u) c) (loS u) := VL.of U ((nI_eq (by omega) (by omega)).mp zzc1)
      have hcb := VL.bd U F hv
      refine hz_aload_n (pc := 111) C dX11_layWay_111 rfl ?_
      refine hz_iload_n (pc := 112) C dX11_layWay_112 rfl ?_
      refine hz_callVs (pc := 113) C (as := [.int (nI (mm u))]) (st := []) (by have h9 := ev_wayBy (L := L) (q := q) V1 U (l := dl (mm u) c) (by rw [dl_len]; omega) (by rw [dl_len]; exact hO.2) (fun b hb => ⟨dl_lt _ _ b hb, hv.sub (loS_lt U) b hb⟩) F; rw [dl_len] at h9; exact h9) (hz_new0 _ _) fyX11_wayBy fvX11_203 rfl dX11_layWay_113 hT146 rfl rfl hA146 rfl rfl (Nat.le_of_ble_eq_true rfl) (by decide) (hz_cap0 _) ?_
      refine hz_goto (pc := 116) C (tgt := 120) dX11_layWay_116 rfl ?_
      refine hz_istore (pc := 120) C (ls' := [some (.ref 146), some (.int (nI (loS u))), some (.int (nI (mm u))), some (.int (nI (6 ^ mm u))), some (.int b), some (.int (nI c)), some (.int (nI (c / 6 ^ (mm u - 0)))), some (.int (nI (met (dl (mm u - 0) c)))), some (.int (nI (cst (dd u) 6 (dl (mm u) c))))]) dX11_layWay_120 (Nat.le_of_ble_eq_true rfl) rfl ?_
      refine hz_iload (pc := 122) C dX11_layWay_122 rfl ?_
      refine hz_iconst (pc := 124) C (v := (-1 : Int32)) dX11_layWay_124 (by decide +kernel) ?_
      refine hz_ic_eq (pc := 125) C (tgt := 160) dX11_layWay_125 rfl (fun cq => absurd cq (nm1 (by omega))) (fun _ => ?_)
      rcases hW with ⟨hW1, hW2⟩ | ⟨x, hW1, hW2, hW3, hW4, hW5⟩
      · subst hW1
        refine hz_iload (pc := 128) C dX11_layWay_128 rfl ?_
        refine hz_iconst (pc := 130) C (v := (-1 : Int32)) dX11_layWay_130 (by decide +kernel) ?_
        refine hz_ic_eq (pc := 131) C (tgt := 141) dX11_layWay_131 rfl (fun _ => ?_) (fun cq => absurd rfl cq)
        refine hz_iload (pc := 141) C dX11_layWay_141 rfl ?_
        refine hz_istore (pc := 143) C (ls' := [some (.ref 146), some (.int (nI (loS u))), some (.int (nI (mm u))), some (.int (nI (6 ^ mm u))), some (.int (nI (cst (dd u) 6 (dl (mm u) c)))), some (.int (nI c)), some (.int (nI (c / 6 ^ (mm u - 0)))), some (.int (nI (met (dl (mm u - 0) c)))), some (.int (nI (cst (dd u) 6 (dl (mm u) c))))]) dX11_layWay_143 (Nat.le_of_ble_eq_true rfl) rfl ?_
        refine hz_aload_n (pc := 145) C dX11_layWay_145 rfl ?_
        refine hz_getP (pc := 146) C (v := 156) ffX11_42 dX11_layWay_146 hT146 hA146 rfl (hP146_18 q) (by decide) ?_
        refine hz_iconst (pc := 149) C (v := nI 0) dX11_layWay_149 (by decide +kernel) ?_
        refine hz_aload_n (pc := 150) C dX11_layWay_150 rfl ?_
        refine hz_getP (pc := 151) C (v := 157) ffX11_45 dX11_layWay_151 hT146 hA146 rfl (hP146_19 q) (by decide) ?_
        refine hz_iconst (pc := 154) C (v := nI 0) dX11_layWay_154 (by decide +kernel) ?_
        refine hz_bipush (pc := 155) C (v := nI 6) dX11_layWay_155 (by decide +kernel) ?_
        refine hz_callSv (pc := 157) C (as := [.ref 156, .int (nI 0), .ref 157, .int (nI 0), .int (nI 6)]) (st := []) (ev_bring156_157 (by decide) (by decide)) (hz_new0 _ _) fyX11_bring fsX11_135 rfl dX11_layWay_157 rfl rfl (Nat.le_of_ble_eq_true rfl) (by decide) (hz_cap0 _) ?_
        refine hz_iinc (pc := 160) C (v := nI (c + 1)) (ls' := [some (.ref 146), some (.int (nI (loS u))), some (.int (nI (mm u))), some (.int (nI (6 ^ mm u))), some (.int (nI (cst (dd u) 6 (dl (mm u) c)))), some (.int (nI (c + 1))), some (.int (nI (c / 6 ^ (mm u - 0)))), some (.int (nI (met (dl (mm u - 0) c)))), some (.int (nI (cst (dd u) 6 (dl (mm u) c))))]) dX11_layWay_160 rfl (nI_add _ 1) rfl ?_
        refine hz_goto (pc := 163) C (tgt := 43) dX11_layWay_163 rfl ?_
        exact ih (c + 1) _ _ (some (.int (nI (c / 6 ^ (mm u - 0))))) (some (.int (nI (met (dl (mm u - 0) c))))) (some (.int (nI (cst (dd u) 6 (dl (mm u) c))))) (by omega) (fun a h1 h2 => (sa_ne _ _ _ h2).trans (hF1 a h1 h2)) (lWA.first hW2 hv (fun i hi => by rw [sa_eq]; unfold va_cpy; rw [if_pos (by omega), show 0 + (i - 0) = i by omega]; exact hO.2 i hi))
      · subst hW3
        have hxb := VL.bd U F hW2
        refine hz_iload (pc := 128) C dX11_layWay_128 rfl ?_
        refine hz_iconst (pc := 130) C (v := (-1 : Int32)) dX11_layWay_130 (by decide +kernel) ?_
        refine hz_ic_eq (pc := 131) C (tgt := 141) dX11_layWay_131 rfl (fun cq => absurd cq (nm1 (by omega))) (fun _ => ?_)
        refine hz_iload (pc := 134) C dX11_layWay_134 rfl ?_
        refine hz_iload (pc := 136) C dX11_layWay_136 rfl ?_
        refine hz_ic_ge (pc := 138) C (tgt := 160) dX11_layWay_138 rfl (fun zzc2 => ?_) (fun zzc2 => ?_)
        · refine hz_iinc (pc := 160) C (v := nI (c + 1)) (ls' := [some (.ref 146), some (.int (nI (loS u))), some (.int (nI (mm u))), some (.int (nI (6 ^ mm u))), some (.int (nI (cst (dd u) 6 (dl (mm u) x)))), some (.int (nI (c + 1))), some (.int (nI (c / 6 ^ (mm u - 0)))), some (.int (nI (met (dl (mm u - 0) c)))), some (.int (nI (cst (dd u) 6 (dl (mm u) c))))]) dX11_layWay_160 rfl (nI_add _ 1) rfl ?_
          refine hz_goto (pc := 163) C (tgt := 43) dX11_layWay_163 rfl ?_
          exact ih (c + 1) K1 _ (some (.int (nI (c / 6 ^ (mm u - 0))))) (some (.int (nI (met (dl (mm u - 0) c))))) (some (.int (nI (cst (dd u) 6 (dl (mm u) c))))) (by omega) hF1 (lWA.worse hW1 hW2 hW4 (Nat.le_of_not_lt fun z => nI_ge z (by omega) zzc2) (by rw [hO.1 157 (by omega)]; exact hW5))
        · refine hz_iload (pc := 141) C dX11_layWay_141 rfl ?_
          refine hz_istore (pc := 143) C (ls' := [some (.ref 146), some (.int (nI (loS u))), some (.int (nI (mm u))), some (.int (nI (6 ^ mm u))), some (.int (nI (cst (dd u) 6 (dl (mm u) c)))), some (.int (nI c)), some (.int (nI (c / 6 ^ (mm u - 0)))), some (.int (nI (met (dl (mm u - 0) c)))), some (.int (nI (cst (dd u) 6 (dl (mm u) c))))]) dX11_layWay_143 (Nat.le_of_ble_eq_true rfl) rfl ?_
          refine hz_aload_n (pc := 145) C dX11_layWay_145 rfl ?_
          refine hz_getP (pc := 146) C (v := 156) ffX11_42 dX11_layWay_146 hT146 hA146 rfl (hP146_18 q) (by decide) ?_
          refine hz_iconst (pc := 149) C (v := nI 0) dX11_layWay_149 (by decide +kernel) ?_
          refine hz_aload_n (pc := 150) C dX11_layWay_150 rfl ?_
          refine hz_getP (pc := 151) C (v := 157) ffX11_45 dX11_layWay_151 hT146 hA146 rfl (hP146_19 q) (by decide) ?_
          refine hz_iconst (pc := 154) C (v := nI 0) dX11_layWay_154 (by decide +kernel) ?_
          refine hz_bipush (pc := 155) C (v := nI 6) dX11_layWay_155 (by decide +kernel) ?_
          refine hz_callSv (pc := 157) C (as := [.ref 156, .int (nI 0), .ref 157, .int (nI 0), .int (nI 6)]) (st := []) (ev_bring156_157 (by decide) (by decide)) (hz_new0 _ _) fyX11_bring fsX11_135 rfl dX11_layWay_157 rfl rfl (Nat.le_of_ble_eq_true rfl) (by decide) (hz_cap0 _) ?_
          refine hz_iinc (pc := 160) C (v := nI (c + 1)) (ls' := [some (.ref 146), some (.int (nI (loS u))), some (.int (nI (mm u))), some (.int (nI (6 ^ mm u))), some (.int (nI (cst (dd u) 6 (dl (mm u) c)))), some (.int (nI (c + 1))), some (.int (nI (c / 6 ^ (mm u - 0)))), some (.int (nI (met (dl (mm u - 0) c)))), some (.int (nI (cst (dd u) 6 (dl (mm u) c))))]) dX11_layWay_160 rfl (nI_add _ 1) rfl ?_
          refine hz_goto (pc := 163) C (tgt := 43) dX11_layWay_163 rfl ?_
          exact ih (c + 1) _ _ (some (.int (nI (c / 6 ^ (mm u - 0))))) (some (.int (nI (met (dl (mm u - 0) c))))) (some (.int (nI (cst (dd u) 6 (dl (mm u) c))))) (by omega) (fun a h1 h2 => (sa_ne _ _ _ h2).trans (hF1 a h1 h2)) (lWA.better hW4 hv (Nat.lt_of_not_le fun z => zzc2 (nI_le z (by omega))) (fun i hi => by rw [sa_eq]; unfold va_cpy; rw [if_pos (by omega), show 0 + (i - 0) = i by omega]; exact hO.2 i hi))
set_option maxHeartbeats 4000000 in
set_option maxRecDepth 100000 in
theorem lp_cB {X : hz_X} (C : hz_C X mX11_layWay) {I : Nat → Nat → Int32} {L : Nat → Nat → Int64} {q : Nat → Nat → Nat} {u : Nat → Nat} (V : MF I u) (U : WU u) {zzk0 : Nat} (hk06 : zzk0 < 6) (hk0 : bt (loS u) zzk0 = true) (hB : 1000 ≤ ds u (u 91) (u (71 + zzk0))) (kk : ∀ (K : Nat → Nat → Int32) (zzw6 zzw7 zzw8 : Option Value), fW I K → hz_G X TT NN (K, L, PP q) 0 0 166 [some (.ref 146), some (.int (nI (loS u))), some (.int (nI (mm u))), some (.int (nI (6 ^ mm u))), some (.int (-1 : Int32)), some (.int (nI (6 ^ mm u))), zzw6, zzw7, zzw8] []) : ∀ (n c : Nat) (K : Nat → Nat → Int32) (zzw6 zzw7 zzw8 : Option Value), c + n = 6 ^ mm u → fW I K → hz_G X TT NN (K, L, PP q) 0 0 43 [some (.ref 146), some (.int (nI (loS u))), some (.int (nI (mm u))), some (.int (nI (6 ^ mm u))), some (.int (-1 : Int32)), some (.int (nI c)), zzw6, zzw7, zzw8] [] := by
  intro n
  induction n with
  | zero =>
    intro c K zzw6 zzw7 zzw8 hi hF
    obtain rfl : 6 ^ mm u = c := by omega
    have hm := mm_le U
    have hp6 := p6 hm
    refine hz_iload (pc := 43) C dX11_layWay_43 rfl ?_
    refine hz_iload_n (pc := 45) C dX11_layWay_45 rfl ?_
    refine hz_ic_ge (pc := 46) C (tgt := 166) dX11_layWay_46 rfl (fun _ => ?_) (fun cq => absurd (nI_le (by omega) (by omega)) cq)
    exact kk K zzw6 zzw7 zzw8 hF
  | succ n ih =>
    intro c K zzw6 zzw7 zzw8 hi hF
    have hm := mm_le U
    have hp6 := p6 hm
    have hSl := loS_lt U
    have hmet := (met_ok (dl_lt (mm u) c)).1
    refine hz_iload (pc := 43) C dX11_layWay_43 rfl ?_
    refine hz_iload_n (pc := 45) C dX11_layWay_45 rfl ?_
    refine hz_ic_ge (pc := 46) C (tgt := 166) dX11_layWay_46 rfl (fun cq => absurd cq (nI_ge (by omega) (by omega))) (fun _ => ?_)
    refine hz_iload (pc := 49) C dX11_layWay_49 rfl ?_
    refine hz_istore (pc := 51) C (ls' := [some (.ref 146), some (.int (nI (loS u))), some (.int (nI (mm u))), some (.int (nI (6 ^ mm u))), some (.int (-1 : Int32)), some (.int (nI c)), some (.int (nI c)), zzw7, zzw8]) dX11_layWay_51 (Nat.le_of_ble_eq_true rfl) rfl ?_
    refine hz_iconst (pc := 53) C (v := nI 0) dX11_layWay_53 (by decide +kernel) ?_
    refine hz_istore (pc := 54) C (ls' := [some (.ref 146), some (.int (nI (loS u))), some (.int (nI (mm u))), some (.int (nI (6 ^ mm u))), some (.int (-1 : Int32)), some (.int (nI c)), some (.int (nI c)), some (.int (nI 0)), zzw8]) dX11_layWay_54 (Nat.le_of_ble_eq_true rfl) rfl ?_
    refine hz_iload_n (pc := 56) C dX11_layWay_56 rfl ?_
    refine hz_iconst (pc := 57) C (v := nI 1) dX11_layWay_57 (by decide +kernel) ?_
    refine hz_isub (pc := 58) C (v := nI (mm u) - 1) dX11_layWay_58 (by rw [nI_1']) ?_
    refine hz_istore (pc := 59) C (ls' := [some (.ref 146), some (.int (nI (loS u))), some (.int (nI (mm u))), some (.int (nI (6 ^ mm u))), some (.int (-1 : Int32)), some (.int (nI c)), some (.int (nI c)), some (.int (nI 0)), some (.int (nI (mm u) - 1))]) dX11_layWay_59 (Nat.le_of_ble_eq_true rfl) rfl ?_
    refine Eq.mpr (by rw [Nat.sub_self, show c / 6 ^ 0 = c by rw [Nat.pow_zero, Nat.div_one]]; rfl) (?_ : hz_G X TT NN (K, L, PP q) 0 0 61 [some (.ref 146), some (.int (nI (loS u))), some (.int (nI (mm u))), some (.int (nI (6 ^ mm u))), some (.int (-1 : Int32)), some (.int (nI c)), some (.int (nI (c / 6 ^ (mm u - mm u)))), some (.int (nI (met (dl (mm u - mm u) c)))), some (.int (nI (mm u) - 1))] [])
    refine lp_dg (K0 := K) C hm (by omega) (fun K1 hO => ?_) (mm u) K (Nat.le_refl _) ⟨fun _ _ => rfl, fun j hj1 hj2 => absurd hj1 (by omega)⟩
    have V1 : MF K1 u := V.cong ((hO.1 147 (by omega)).trans (hF 147 (by omega) (by omega))) ((hO.1 153 (by omega)).trans (hF 153 (by omega) (by omega)))
    have hF1 : fW I K1 := fun a h1 h2 => (hO.1 a h1).trans (hF a h1 h2)
    refine hz_iload (pc := 105) C dX11_layWay_105 rfl ?_
    refine hz_iload_n (pc := 107) C dX11_layWay_107 rfl ?_
    refine hz_ic_ne (pc := 108) C (tgt := 119) dX11_layWay_108 rfl (fun zzc1 => ?_) (fun zzc1 => ?_)
    · refine hz_iconst (pc := 119) C (v := (-1 : Int32)) dX11_layWay_119 (by decide +kernel) ?_
      refine hz_istore (pc := 120) C (ls' := [some (.ref 146), some (.int (nI (loS u))), some (.int (nI (mm u))), some (.int (nI (6 ^ mm u))), some (.int (-1 : Int32)), some (.int (nI c)), some (.int (nI (c / 6 ^ (mm u - 0)))), some (.int (nI (met (dl (mm u - 0) c)))), some (.int (-1 : Int32))]) dX11_layWay_120 (Nat.le_of_ble_eq_true rfl) rfl ?_
      refine hz_iload (pc := 122) C dX11_layWay_122 rfl ?_
      refine hz_iconst (pc := 124) C (v := (-1 : Int32)) dX11_layWay_124 (by decide +kernel) ?_
      refine hz_ic_eq (pc := 125) C (tgt := 160) dX11_layWay_125 rfl (fun _ => ?_) (fun cq => absurd rfl cq)
      refine hz_iinc (pc := 160) C (v := nI (c + 1)) (ls' := [some (.ref 146), some (.int (nI (loS u))), some (.int (nI (mm u))), some (.int (nI (6 ^ mm u))), some (.int (-1 : Int32)), some (.int (nI (c + 1))), some (.int (nI (c / 6 ^ (mm u - 0)))), some (.int (nI (met (dl (mm u - 0) c)))), some (.int (-1 : Int32))]) dX11_layWay_160 rfl (nI_add _ 1) rfl ?_
      refine hz_goto (pc := 163) C (tgt := 43) dX11_layWay_163 rfl ?_
      exact ih (c + 1) K1 (some (.int (nI (c / 6 ^ (mm u - 0))))) (some (.int (nI (met (dl (mm u - 0) c))))) (some (.int (-1 : Int32))) (by omega) hF1
    · have hv : VL (dl (mm u) c) (loS u) := VL.of U ((nI_eq (by omega) (by omega)).mp zzc1)
      refine hz_aload_n (pc := 111) C dX11_layWay_111 rfl ?_
      refine hz_iload_n (pc := 112) C dX11_layWay_112 rfl ?_
      refine hz_callVs (pc := 113) C (as := [.int (nI (mm u))]) (st := []) (by have h9 := ev_wayByN (L := L) (q := q) V1 U (l := dl (mm u) c) (by rw [dl_len]; omega) (by rw [dl_len]; exact hO.2) (fun b hb => ⟨dl_lt _ _ b hb, hv.sub (loS_lt U) b hb⟩) (hv.mem (loS_lt U) zzk0 (by omega) hk0) hB; rw [dl_len] at h9; exact h9) (hz_new0 _ _) fyX11_wayBy fvX11_203 rfl dX11_layWay_113 hT146 rfl rfl hA146 rfl rfl (Nat.le_of_ble_eq_true rfl) (by decide) (hz_cap0 _) ?_
      refine hz_goto (pc := 116) C (tgt := 120) dX11_layWay_116 rfl ?_
      refine hz_istore (pc := 120) C (ls' := [some (.ref 146), some (.int (nI (loS u))), some (.int (nI (mm u))), some (.int (nI (6 ^ mm u))), some (.int (-1 : Int32)), some (.int (nI c)), some (.int (nI (c / 6 ^ (mm u - 0)))), some (.int (nI (met (dl (mm u - 0) c)))), some (.int (-1 : Int32))]) dX11_layWay_120 (Nat.le_of_ble_eq_true rfl) rfl ?_
      refine hz_iload (pc := 122) C dX11_layWay_122 rfl ?_
      refine hz_iconst (pc := 124) C (v := (-1 : Int32)) dX11_layWay_124 (by decide +kernel) ?_
      refine hz_ic_eq (pc := 125) C (tgt := 160) dX11_layWay_125 rfl (fun _ => ?_) (fun cq => absurd rfl cq)
      refine hz_iinc (pc := 160) C (v := nI (c + 1)) (ls' := [some (.ref 146), some (.int (nI (loS u))), some (.int (nI (mm u))), some (.int (nI (6 ^ mm u))), some (.int (-1 : Int32)), some (.int (nI (c + 1))), some (.int (nI (c / 6 ^ (mm u - 0)))), some (.int (nI (met (dl (mm u - 0) c)))), some (.int (-1 : Int32))]) dX11_layWay_160 rfl (nI_add _ 1) rfl ?_
      refine hz_goto (pc := 163) C (tgt := 43) dX11_layWay_163 rfl ?_
      exact ih (c + 1) K1 (some (.int (nI (c / 6 ^ (mm u - 0))))) (some (.int (nI (met (dl (mm u - 0) c))))) (some (.int (-1 : Int32))) (by omega) hF1
set_option maxHeartbeats 4000000 in
set_option maxRecDepth 100000 in
theorem ex_layWay {I : Nat → Nat → Int32} {L : Nat → Nat → Int64} {q : Nat → Nat → Nat} {u : Nat → Nat} (V : MF I u) (U : WU u) (F : fin6 (dd u) (loS u)) : hz_Ex mX11_layWay TT NN (I, L, PP q) [.ref 146] (hz_PI L (PP q) (some (.int (nI (RF (dd u) (mm u) (loS u) 6)))) (fun K => ((∀ a, a ≠ 146 → a ≠ 156 → a ≠ 157 → K a = I a) ∧ (∀ j, j ≠ 20 → K 146 j = I 146 j) ∧ K 146 20 = nI (mm u)) ∧ ∀ i, i < mm u → K 157 i = nI ((gl (dd u) (mm u) (loS u) 6).getD i 0))) := by
  refine hz_Ex.intro (ls := [some (.ref 146), none, none, none, none, none, none, none, none]) (by decide +kernel) rfl (Nat.le_of_ble_eq_true rfl) (fun X C Z => ?_)
  refine hz_aload_n (pc := 0) C dX11_layWay_0 rfl ?_
  refine hz_callVs (pc := 1) C (as := []) (st := []) (ev_loudOnes V.1 U) (hz_new0 _ _) fyX11_loudOnes fvX11_197 rfl dX11_layWay_1 hT146 rfl rfl hA146 rfl rfl (Nat.le_of_ble_eq_true rfl) (by decide) (hz_cap0 _) ?_
  refine hz_istore_n (pc := 4) C (ls' := [some (.ref 146), some (.int (nI (loS u))), none, none, none, none, none, none, none]) dX11_layWay_4 (Nat.le_of_ble_eq_true rfl) rfl ?_
  refine hz_iload_n (pc := 5) C dX11_layWay_5 rfl ?_
  refine hz_callSs (pc := 6) C (as := [.int (nI (loS u))]) (st := []) (by have h9 := ev_bitsM (I, L, PP q) (loS_lt U); rw [cs_loS U] at h9; exact h9) (hz_new0 _ _) fyX11_bits fsX11_188 rfl dX11_layWay_6 rfl rfl (Nat.le_of_ble_eq_true rfl) (by decide) (hz_cap0 _) ?_
  refine hz_istore_n (pc := 9) C (ls' := [some (.ref 146), some (.int (nI (loS u))), some (.int (nI (mm u))), none, none, none, none, none, none]) dX11_layWay_9 (Nat.le_of_ble_eq_true rfl) rfl ?_
  refine hz_iconst (pc := 10) C (v := nI 1) dX11_layWay_10 (by decide +kernel) ?_
  refine hz_istore_n (pc := 11) C (ls' := [some (.ref 146), some (.int (nI (loS u))), some (.int (nI (mm u))), some (.int (nI 1)), none, none, none, none, none]) dX11_layWay_11 (Nat.le_of_ble_eq_true rfl) rfl ?_
  refine hz_iconst (pc := 12) C (v := nI 0) dX11_layWay_12 (by decide +kernel) ?_
  refine hz_istore (pc := 13) C (ls' := [some (.ref 146), some (.int (nI (loS u))), some (.int (nI (mm u))), some (.int (nI 1)), some (.int (nI 0)), none, none, none, none]) dX11_layWay_13 (Nat.le_of_ble_eq_true rfl) rfl ?_
  refine lp_rw C (mm_le U) ?_ (mm u) 0 (by omega)
  refine hz_iconst (pc := 32) C (v := (-1 : Int32)) dX11_layWay_32 (by decide +kernel) ?_
  refine hz_istore (pc := 33) C (ls' := [some (.ref 146), some (.int (nI (loS u))), some (.int (nI (mm u))), some (.int (nI (6 ^ mm u))), some (.int (-1 : Int32)), none, none, none, none]) dX11_layWay_33 (Nat.le_of_ble_eq_true rfl) rfl ?_
  refine hz_aload_n (pc := 35) C dX11_layWay_35 rfl ?_
  refine hz_iload_n (pc := 36) C dX11_layWay_36 rfl ?_
  refine hz_putI (pc := 37) C (M' := (hz_up I 146 20 (nI (mm u)), L, PP q)) ffX11_200 dX11_layWay_37 hT146 hA146 rfl rfl ⟨rfl, rfl⟩ rfl ?_
  refine hz_iconst (pc := 40) C (v := nI 0) dX11_layWay_40 (by decide +kernel) ?_
  refine hz_istore (pc := 41) C (ls' := [some (.ref 146), some (.int (nI (loS u))), some (.int (nI (mm u))), some (.int (nI (6 ^ mm u))), some (.int (-1 : Int32)), some (.int (nI 0)), none, none, none]) dX11_layWay_41 (Nat.le_of_ble_eq_true rfl) rfl ?_
  have V0 : MF (hz_up I 146 20 (nI (mm u))) u := V.cong (hz_up_ne _ _ _ _ (by omega)) (hz_up_ne _ _ _ _ (by omega))
  refine lp_cA C V0 U F (fun K b zzw6 zzw7 zzw8 hF hW => ?_) (6 ^ mm u) 0 _ _ _ _ _ (by omega) (fun _ _ _ => rfl) (Or.inl ⟨rfl, fun y hy => absurd hy (Nat.not_lt_zero _)⟩)
  rcases hW with ⟨hW1, hW2⟩ | ⟨x, hW1, hW2, hW3, hW4, hW5⟩
  · obtain ⟨x, hx1, hx2⟩ := way_some F (mm_le U) (loS_lt U) (cs_loS U)
    exact absurd hx2 (hW2 x hx1)
  obtain ⟨he1, he2⟩ := way_end F (mm_le U) (loS_lt U) (cs_loS U) hW1 hW2 hW4
  refine hz_iload (pc := 166) C dX11_layWay_166 rfl ?_
  exact hz_iretx C Z rfl dX11_layWay_168 ⟨K, by rw [hW3, he1], rfl, ⟨fun a h1 h2 h3 => (hF a h2 h3).trans (hz_up_ne _ _ _ _ h1), fun j hj => by rw [hF 146 (by omega) (by omega), hz_up_nk _ _ _ _ hj], by rw [hF 146 (by omega) (by omega), hz_up_self]⟩, fun i hi => by rw [← he2]; exact hW5 i hi⟩
set_option maxHeartbeats 4000000 in
set_option maxRecDepth 100000 in
theorem ex_layWayN {I : Nat → Nat → Int32} {L : Nat → Nat → Int64} {q : Nat → Nat → Nat} {u : Nat → Nat} (V : MF I u) (U : WU u) {zzk0 : Nat} (hk06 : zzk0 < 6) (hk0 : bt (loS u) zzk0 = true) (hB : 1000 ≤ ds u (u 91) (u (71 + zzk0))) : hz_Ex mX11_layWay TT NN (I, L, PP q) [.ref 146] (hz_PI L (PP q) (some (.int (-1 : Int32))) (fun K => (∀ a, a ≠ 146 → a ≠ 156 → a ≠ 157 → K a = I a) ∧ (∀ j, j ≠ 20 → K 146 j = I 146 j) ∧ K 146 20 = nI (mm u))) := by
  refine hz_Ex.intro (ls := [some (.ref 146), none, none, none, none, none, none, none, none]) (by decide +kernel) rfl (Nat.le_of_ble_eq_true rfl) (fun X C Z => ?_)
  refine hz_aload_n (pc := 0) C dX11_layWay_0 rfl ?_
  refine hz_callVs (pc := 1) C (as := []) (st := []) (ev_loudOnes V.1 U) (hz_new0 _ _) fyX11_loudOnes fvX11_197 rfl dX11_layWay_1 hT146 rfl rfl hA146 rfl rfl (Nat.le_of_ble_eq_true rfl) (by decide) (hz_cap0 _) ?_
  refine hz_istore_n (pc := 4) C (ls' := [some (.ref 146), some (.int (nI (loS u))), none, none, none, none, none, none, none]) dX11_layWay_4 (Nat.le_of_ble_eq_true rfl) rfl ?_
  refine hz_iload_n (pc := 5) C dX11_layWay_5 rfl ?_
  refine hz_callSs (pc := 6) C (as := [.int (nI (loS u))]) (st := []) (by have h9 := ev_bitsM (I, L, PP q) (loS_lt U); rw [cs_loS U] at h9; exact h9) (hz_new0 _ _) fyX11_bits fsX11_188 rfl dX11_layWay_6 rfl rfl (Nat.le_of_ble_eq_true rfl) (by decide) (hz_cap0 _) ?_
  refine hz_istore_n (pc := 9) C (ls' := [some (.ref 146), some (.int (nI (loS u))), some (.int (nI (mm u))), none, none, none, none, none, none]) dX11_layWay_9 (Nat.le_of_ble_eq_true rfl) rfl ?_
  refine hz_iconst (pc := 10) C (v := nI 1) dX11_layWay_10 (by decide +kernel) ?_
  refine hz_istore_n (pc := 11) C (ls' := [some (.ref 146), some (.int (nI (loS u))), some (.int (nI (mm u))), some (.int (nI 1)), none, none, none, none, none]) dX11_layWay_11 (Nat.le_of_ble_eq_true rfl) rfl ?_
  refine hz_iconst (pc := 12) C (v := nI 0) dX11_layWay_12 (by decide +kernel) ?_
  refine hz_istore (pc := 13) C (ls' := [some (.ref 146), some (.int (nI (loS u))), some (.int (nI (mm u))), some (.int (nI 1)), some (.int (nI 0)), none, none, none, none]) dX11_layWay_13 (Nat.le_of_ble_eq_true rfl) rfl ?_
  refine lp_rw C (mm_le U) ?_ (mm u) 0 (by omega)
  refine hz_iconst (pc := 32) C (v := (-1 : Int32)) dX11_layWay_32 (by decide +kernel) ?_
  refine hz_istore (pc := 33) C (ls' := [some (.ref 146), some (.int (nI (loS u))), some (.int (nI (mm u))), some (.int (nI (6 ^ mm u))), some (.int (-1 : Int32)), none, none, none, none]) dX11_layWay_33 (Nat.le_of_ble_eq_true rfl) rfl ?_
  refine hz_aload_n (pc := 35) C dX11_layWay_35 rfl ?_
  refine hz_iload_n (pc := 36) C dX11_layWay_36 rfl ?_
  refine hz_putI (pc := 37) C (M' := (hz_up I 146 20 (nI (mm u)), L, PP q)) ffX11_200 dX11_layWay_37 hT146 hA146 rfl rfl ⟨rfl, rfl⟩ rfl ?_
  refine hz_iconst (pc := 40) C (v := nI 0) dX11_layWay_40 (by decide +kernel) ?_
  refine hz_istore (pc := 41) C (ls' := [some (.ref 146), some (.int (nI (loS u))), some (.int (nI (mm u))), some (.int (nI (6 ^ mm u))), some (.int (-1 : Int32)), some (.int (nI 0)), none, none, none]) dX11_layWay_41 (Nat.le_of_ble_eq_true rfl) rfl ?_
  have V0 : MF (hz_up I 146 20 (nI (mm u))) u := V.cong (hz_up_ne _ _ _ _ (by omega)) (hz_up_ne _ _ _ _ (by omega))
  refine lp_cB C V0 U hk06 hk0 hB (fun K zzw6 zzw7 zzw8 hF => ?_) (6 ^ mm u) 0 _ _ _ _ (by omega) (fun _ _ _ => rfl)
  refine hz_iload (pc := 166) C dX11_layWay_166 rfl ?_
  exact hz_iretx C Z rfl dX11_layWay_168 ⟨K, rfl, rfl, fun a h1 h2 h3 => (hF a h2 h3).trans (hz_up_ne _ _ _ _ h1), fun j hj => by rw [hF 146 (by omega) (by omega), hz_up_nk _ _ _ _ hj], by rw [hF 146 (by omega) (by omega), hz_up_self]⟩
set_option maxHeartbeats 4000000 in
set_option maxRecDepth 100000 in
theorem ex_wayAllM {I : Nat → Nat → Int32} {L : Nat → Nat → Int64} {q : Nat → Nat → Nat} {u : Nat → Nat} (V : MV I u) (U : WU u) (F : fin6 (dd u) (loS u)) : hz_Ex mX11_way TT NN (I, L, PP q) [.ref 146, .int (-1 : Int32)] (hz_PI L (PP q) (some (.int (nI (RF (dd u) (mm u) (loS u) 6)))) (fun K => MV K (u) ∧ kpM I K)) := by
  have hm := mm_le U
  have hrb := R_bd F (mm u) (loS u) 6 hm (loS_lt U) (fun _ _ h => h) (cs_loS U) (Or.inl rfl)
  refine hz_Ex.intro (ls := [some (.ref 146), some (.int (-1 : Int32)), none]) (by decide +kernel) rfl (Nat.le_of_ble_eq_true rfl) (fun X C Z => ?_)
  refine hz_iload_n (pc := 0) C dX11_way_0 rfl ?_
  refine hz_iconst (pc := 1) C (v := (-1 : Int32)) dX11_way_1 (by decide +kernel) ?_
  refine hz_ic_ge (pc := 2) C (tgt := 18) dX11_way_2 rfl (fun _ => ?_) (fun cq => absurd (by decide) cq)
  refine hz_aload_n (pc := 18) C dX11_way_18 rfl ?_
  refine hz_callVv (pc := 19) C (as := []) (st := []) (ev_layFar V U) (hz_new0 _ _) fyX11_layFar fvX11_146 rfl dX11_way_19 hT146 rfl rfl hA146 rfl rfl (Nat.le_of_ble_eq_true rfl) (by decide) (hz_cap0 _) ?_
  refine hz_aload_n (pc := 22) C dX11_way_22 rfl ?_
  refine hz_callVxs (pc := 23) C (as := []) (st := []) (ex_layWay (mf_lm V) U F) fyX11_layWay fvX11_206 rfl dX11_way_23 hT146 rfl rfl hA146 rfl rfl (Nat.le_of_ble_eq_true rfl) (by decide) (hz_cap0 _) (fun K1 h1 => ?_)
  obtain ⟨h1, hg⟩ := h1
  refine hz_istore_n (pc := 26) C (ls' := [some (.ref 146), some (.int (-1 : Int32)), some (.int (nI (RF (dd u) (mm u) (loS u) 6)))]) dX11_way_26 (Nat.le_of_ble_eq_true rfl) rfl ?_
  refine hz_iload_n (pc := 27) C dX11_way_27 rfl ?_
  refine hz_iconst (pc := 28) C (v := (-1 : Int32)) dX11_way_28 (by decide +kernel) ?_
  refine hz_ic_eq (pc := 29) C (tgt := 37) dX11_way_29 rfl (fun cq => absurd cq (nm1 (by omega))) (fun _ => ?_)
  refine hz_iload_n (pc := 32) C dX11_way_32 rfl ?_
  refine hz_iconst (pc := 33) C (v := (-1 : Int32)) dX11_way_33 (by decide +kernel) ?_
  refine hz_ic_ne (pc := 34) C (tgt := 39) dX11_way_34 rfl (fun cq => absurd rfl cq) (fun _ => ?_)
  refine hz_iload_n (pc := 37) C dX11_way_37 rfl ?_
  exact hz_iretx C Z rfl dX11_way_38 ⟨K1, rfl, rfl, V.cong ((h1.1 147 (by omega) (by omega) (by omega)).trans (by rw [lm, sa_ne _ _ _ (by omega)])), (kpM.lM u I).tr ⟨fun b hb => h1.1 b (by omega) (by omega) (by omega), h1.2.1 7 (by omega)⟩⟩
set_option maxHeartbeats 4000000 in
set_option maxRecDepth 100000 in
theorem ex_wayAtM {I : Nat → Nat → Int32} {L : Nat → Nat → Int64} {q : Nat → Nat → Nat} {u : Nat → Nat} (V : MV I u) (U : WU u) (F : fin6 (dd u) (loS u)) {p : Nat} (hp : p < mm u) : hz_Ex mX11_way TT NN (I, L, PP q) [.ref 146, .int (nI p)] (hz_PI L (PP q) (some (.int (nI ((gl (dd u) (mm u) (loS u) 6).getD p 0)))) (fun K => MV K (u) ∧ kpM I K)) := by
  have hm := mm_le U
  have hrb := R_bd F (mm u) (loS u) 6 hm (loS_lt U) (fun _ _ h => h) (cs_loS U) (Or.inl rfl)
  have hp31 : p < 2 ^ 31 := by omega
  refine hz_Ex.intro (ls := [some (.ref 146), some (.int (nI p)), none]) (by decide +kernel) rfl (Nat.le_of_ble_eq_true rfl) (fun X C Z => ?_)
  refine hz_iload_n (pc := 0) C dX11_way_0 rfl ?_
  refine hz_iconst (pc := 1) C (v := (-1 : Int32)) dX11_way_1 (by decide +kernel) ?_
  refine hz_ic_ge (pc := 2) C (tgt := 18) dX11_way_2 rfl (fun _ => ?_) (fun cq => absurd (m1_le hp31) cq)
  refine hz_aload_n (pc := 18) C dX11_way_18 rfl ?_
  refine hz_callVv (pc := 19) C (as := []) (st := []) (ev_layFar V U) (hz_new0 _ _) fyX11_layFar fvX11_146 rfl dX11_way_19 hT146 rfl rfl hA146 rfl rfl (Nat.le_of_ble_eq_true rfl) (by decide) (hz_cap0 _) ?_
  refine hz_aload_n (pc := 22) C dX11_way_22 rfl ?_
  refine hz_callVxs (pc := 23) C (as := []) (st := []) (ex_layWay (mf_lm V) U F) fyX11_layWay fvX11_206 rfl dX11_way_23 hT146 rfl rfl hA146 rfl rfl (Nat.le_of_ble_eq_true rfl) (by decide) (hz_cap0 _) (fun K1 h1 => ?_)
  obtain ⟨h1, hg⟩ := h1
  refine hz_istore_n (pc := 26) C (ls' := [some (.ref 146), some (.int (nI p)), some (.int (nI (RF (dd u) (mm u) (loS u) 6)))]) dX11_way_26 (Nat.le_of_ble_eq_true rfl) rfl ?_
  refine hz_iload_n (pc := 27) C dX11_way_27 rfl ?_
  refine hz_iconst (pc := 28) C (v := (-1 : Int32)) dX11_way_28 (by decide +kernel) ?_
  refine hz_ic_eq (pc := 29) C (tgt := 37) dX11_way_29 rfl (fun cq => absurd cq (nm1 (by omega))) (fun _ => ?_)
  refine hz_iload_n (pc := 32) C dX11_way_32 rfl ?_
  refine hz_iconst (pc := 33) C (v := (-1 : Int32)) dX11_way_33 (by decide +kernel) ?_
  refine hz_ic_ne (pc := 34) C (tgt := 39) dX11_way_34 rfl (fun _ => ?_) (fun cq => absurd cq (nm1 hp31))
  refine hz_iload_n (pc := 39) C dX11_way_39 rfl ?_
  refine hz_aload_n (pc := 40) C dX11_way_40 rfl ?_
  refine hz_getI (pc := 41) C (v := nI (mm u)) ffX11_200 dX11_way_41 hT146 hA146 rfl h1.2.2 ?_
  refine hz_ic_ge (pc := 44) C (tgt := 56) dX11_way_44 rfl (fun cq => absurd cq (nI_ge (by omega) (by omega))) (fun _ => ?_)
  refine hz_aload_n (pc := 47) C dX11_way_47 rfl ?_
  refine hz_getP (pc := 48) C (v := 157) ffX11_45 dX11_way_48 hT146 hA146 rfl (hP146_19 q) (by decide) ?_
  refine hz_iload_n (pc := 51) C dX11_way_51 rfl ?_
  refine hz_iald (pc := 52) C (v := nI ((gl (dd u) (mm u) (loS u) 6).getD p 0)) (j := p) dX11_way_52 hT157 hA157 rfl (by omega) (by decide) (hg p hp) ?_
  refine hz_goto (pc := 53) C (tgt := 58) dX11_way_53 rfl ?_
  exact hz_iretx C Z rfl dX11_way_58 ⟨K1, rfl, rfl, V.cong ((h1.1 147 (by omega) (by omega) (by omega)).trans (by rw [lm, sa_ne _ _ _ (by omega)])), (kpM.lM u I).tr ⟨fun b hb => h1.1 b (by omega) (by omega) (by omega), h1.2.1 7 (by omega)⟩⟩
set_option maxHeartbeats 4000000 in
set_option maxRecDepth 100000 in
theorem ex_wayOffM {I : Nat → Nat → Int32} {L : Nat → Nat → Int64} {q : Nat → Nat → Nat} {u : Nat → Nat} (V : MV I u) (U : WU u) (F : fin6 (dd u) (loS u)) {p : Nat} (hp31 : p < 2 ^ 31) (hp : mm u ≤ p) : hz_Ex mX11_way TT NN (I, L, PP q) [.ref 146, .int (nI p)] (hz_PI L (PP q) (some (.int (-5 : Int32))) (fun K => MV K (u) ∧ kpM I K)) := by
  have hm := mm_le U
  have hrb := R_bd F (mm u) (loS u) 6 hm (loS_lt U) (fun _ _ h => h) (cs_loS U) (Or.inl rfl)
  refine hz_Ex.intro (ls := [some (.ref 146), some (.int (nI p)), none]) (by decide +kernel) rfl (Nat.le_of_ble_eq_true rfl) (fun X C Z => ?_)
  refine hz_iload_n (pc := 0) C dX11_way_0 rfl ?_
  refine hz_iconst (pc := 1) C (v := (-1 : Int32)) dX11_way_1 (by decide +kernel) ?_
  refine hz_ic_ge (pc := 2) C (tgt := 18) dX11_way_2 rfl (fun _ => ?_) (fun cq => absurd (m1_le hp31) cq)
  refine hz_aload_n (pc := 18) C dX11_way_18 rfl ?_
  refine hz_callVv (pc := 19) C (as := []) (st := []) (ev_layFar V U) (hz_new0 _ _) fyX11_layFar fvX11_146 rfl dX11_way_19 hT146 rfl rfl hA146 rfl rfl (Nat.le_of_ble_eq_true rfl) (by decide) (hz_cap0 _) ?_
  refine hz_aload_n (pc := 22) C dX11_way_22 rfl ?_
  refine hz_callVxs (pc := 23) C (as := []) (st := []) (ex_layWay (mf_lm V) U F) fyX11_layWay fvX11_206 rfl dX11_way_23 hT146 rfl rfl hA146 rfl rfl (Nat.le_of_ble_eq_true rfl) (by decide) (hz_cap0 _) (fun K1 h1 => ?_)
  obtain ⟨h1, hg⟩ := h1
  refine hz_istore_n (pc := 26) C (ls' := [some (.ref 146), some (.int (nI p)), some (.int (nI (RF (dd u) (mm u) (loS u) 6)))]) dX11_way_26 (Nat.le_of_ble_eq_true rfl) rfl ?_
  refine hz_iload_n (pc := 27) C dX11_way_27 rfl ?_
  refine hz_iconst (pc := 28) C (v := (-1 : Int32)) dX11_way_28 (by decide +kernel) ?_
  refine hz_ic_eq (pc := 29) C (tgt := 37) dX11_way_29 rfl (fun cq => absurd cq (nm1 (by omega))) (fun _ => ?_)
  refine hz_iload_n (pc := 32) C dX11_way_32 rfl ?_
  refine hz_iconst (pc := 33) C (v := (-1 : Int32)) dX11_way_33 (by decide +kernel) ?_
  refine hz_ic_ne (pc := 34) C (tgt := 39) dX11_way_34 rfl (fun _ => ?_) (fun cq => absurd cq (nm1 hp31))
  refine hz_iload_n (pc := 39) C dX11_way_39 rfl ?_
  refine hz_aload_n (pc := 40) C dX11_way_40 rfl ?_
  refine hz_getI (pc := 41) C (v := nI (mm u)) ffX11_200 dX11_way_41 hT146 hA146 rfl h1.2.2 ?_
  refine hz_ic_ge (pc := 44) C (tgt := 56) dX11_way_44 rfl (fun _ => ?_) (fun cq => absurd (nI_le (by omega) (by omega)) cq)
  refine hz_bipush (pc := 56) C (v := (-5 : Int32)) dX11_way_56 (by decide +kernel) ?_
  exact hz_iretx C Z rfl dX11_way_58 ⟨K1, rfl, rfl, V.cong ((h1.1 147 (by omega) (by omega) (by omega)).trans (by rw [lm, sa_ne _ _ _ (by omega)])), (kpM.lM u I).tr ⟨fun b hb => h1.1 b (by omega) (by omega) (by omega), h1.2.1 7 (by omega)⟩⟩
set_option maxHeartbeats 4000000 in
set_option maxRecDepth 100000 in
theorem ex_wayNoneM {I : Nat → Nat → Int32} {L : Nat → Nat → Int64} {q : Nat → Nat → Nat} {u : Nat → Nat} (V : MV I u) (U : WU u) {zzk0 : Nat} (hk06 : zzk0 < 6) (hk0 : bt (loS u) zzk0 = true) (hB : 1000 ≤ ds u (u 91) (u (71 + zzk0))) {v : Int32} (hv : ¬ v < (-1 : Int32)) : hz_Ex mX11_way TT NN (I, L, PP q) [.ref 146, .int v] (hz_PI L (PP q) (some (.int (-1 : Int32))) (fun K => MV K (u) ∧ kpM I K)) := by
  refine hz_Ex.intro (ls := [some (.ref 146), some (.int v), none]) (by decide +kernel) rfl (Nat.le_of_ble_eq_true rfl) (fun X C Z => ?_)
  refine hz_iload_n (pc := 0) C dX11_way_0 rfl ?_
  refine hz_iconst (pc := 1) C (v := (-1 : Int32)) dX11_way_1 (by decide +kernel) ?_
  refine hz_ic_ge (pc := 2) C (tgt := 18) dX11_way_2 rfl (fun _ => ?_) (fun cq => absurd (Int32.not_lt.mp hv) cq)
  refine hz_aload_n (pc := 18) C dX11_way_18 rfl ?_
  refine hz_callVv (pc := 19) C (as := []) (st := []) (ev_layFar V U) (hz_new0 _ _) fyX11_layFar fvX11_146 rfl dX11_way_19 hT146 rfl rfl hA146 rfl rfl (Nat.le_of_ble_eq_true rfl) (by decide) (hz_cap0 _) ?_
  refine hz_aload_n (pc := 22) C dX11_way_22 rfl ?_
  refine hz_callVxs (pc := 23) C (as := []) (st := []) (ex_layWayN (mf_lm V) U hk06 hk0 hB) fyX11_layWay fvX11_206 rfl dX11_way_23 hT146 rfl rfl hA146 rfl rfl (Nat.le_of_ble_eq_true rfl) (by decide) (hz_cap0 _) (fun K1 h1 => ?_)
  refine hz_istore_n (pc := 26) C (ls' := [some (.ref 146), some (.int v), some (.int (-1 : Int32))]) dX11_way_26 (Nat.le_of_ble_eq_true rfl) rfl ?_
  refine hz_iload_n (pc := 27) C dX11_way_27 rfl ?_
  refine hz_iconst (pc := 28) C (v := (-1 : Int32)) dX11_way_28 (by decide +kernel) ?_
  refine hz_ic_eq (pc := 29) C (tgt := 37) dX11_way_29 rfl (fun _ => ?_) (fun cq => absurd rfl cq)
  refine hz_iload_n (pc := 37) C dX11_way_37 rfl ?_
  exact hz_iretx C Z rfl dX11_way_38 ⟨K1, rfl, rfl, V.cong ((h1.1 147 (by omega) (by omega) (by omega)).trans (by rw [lm, sa_ne _ _ _ (by omega)])), (kpM.lM u I).tr ⟨fun b hb => h1.1 b (by omega) (by omega) (by omega), h1.2.1 7 (by omega)⟩⟩
theorem sp_way {q : Nat → Nat → Nat} {I : Nat → Nat → Int32} {L : Nat → Nat → Int64} {u : Nat → Nat} (V : INV q I L u) (v : Int32) : ST mX10_way mX11_way (I, L, PP q) [.int v] := by
  by_cases hv : v < (-1 : Int32)
  · exact st_ref (k := 0) (by omega) V (ev_wayX V.1 V.2.1 hv) (fun J hJ => ev_wayXM hJ V.2.1 hv)
  · have U := V.2.1
    have h11 := V.2.2.2.2.2.2.2.2.2
    have hm := mm_le U
    by_cases A : ∀ k, k < u 64 → lo1 u k = true → ds u (u 91) (u (71 + k)) < 1000
    · have F := fin_d U A
      obtain ⟨zze1, zze2⟩ := way_map U F
      by_cases hm1 : v = -1
      · subst hm1
        refine st_of V U (ex_wayAll V.1 U A h11) (fun q' J hJ => ?_)
        have h9 := ex_wayAllM (L := L) (q := q') hJ U F
        rw [zze1] at h9
        exact h9
      · obtain ⟨t, ht⟩ : ∃ t, t < 2 ^ 31 ∧ v = nI t := by
          refine nI_of fun z => ?_
          have zzz1 := Int32.lt_iff_toInt_lt.mp z
          have zzz2 : ¬ v.toInt < (-1 : Int32).toInt := fun y => hv (Int32.lt_iff_toInt_lt.mpr y)
          rw [show (-1 : Int32).toInt = -1 by decide +kernel] at zzz2
          rw [show (0 : Int32).toInt = 0 by decide +kernel] at zzz1
          exact hm1 (Int32.toInt_inj.mp (by rw [show (-1 : Int32).toInt = -1 by decide +kernel]; omega))
        obtain ⟨ht1, rfl⟩ := ht
        by_cases hp : t < mm u
        · refine st_of V U (ex_wayAt V.1 U A h11 hp) (fun q' J hJ => ?_)
          have h9 := ex_wayAtM (L := L) (q := q') hJ U F hp
          have hlen : (gl (di u) (mm u) (2 ^ mm u - 1) 6).length = mm u := (gl_ok (fin_i U F) (mm u) (2 ^ mm u - 1) 6 hm (m64 U (by have := Nat.two_pow_pos (mm u); omega)) (fun _ _ h => h) (cs_top U) (Or.inl rfl)).2.1
          rw [zze2, map_getD (by rw [hlen]; exact hp)] at h9
          exact h9
        · exact st_of V U (ex_wayOff V.1 U A h11 ht1 (by omega)) (fun q' J hJ => ex_wayOffM hJ U F ht1 (by omega))
    · obtain ⟨k, hk⟩ := Classical.not_forall.mp A
      have hk1 : k < u 64 := Classical.byContradiction fun z => hk (fun y => absurd y z)
      have hk2 : lo1 u k = true := Classical.byContradiction fun z => hk (fun _ y => absurd y z)
      have hk3 : 1000 ≤ ds u (u 91) (u (71 + k)) := Nat.le_of_not_lt fun z => hk (fun _ _ => z)
      obtain ⟨i, hi, hi2⟩ := tgx_sur hk1 hk2
      have hal := wu_al U
      exact st_of V U (ex_wayNone V.1 U (zzi0 := i) hi (by rw [di_6, hi2]; exact hk3) hv) (fun q' J hJ => ex_wayNoneM hJ U (zzk0 := k) (by omega) ((loS_bt U).mpr ⟨hk1, hk2⟩) hk3 hv)

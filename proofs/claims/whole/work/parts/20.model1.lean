def MF (I : Nat → Nat → Int32) (u : Nat → Nat) : Prop := MV I u ∧ ∀ a b, a < 8 → b < 8 → I 153 (8 * a + b) = fa (ds u a b)
theorem mf_lm {I : Nat → Nat → Int32} {u : Nat → Nat} (V : MV I u) : MF (lm u I) u := by
  refine ⟨fun j hj => ?_, fun a b ha hb => ?_⟩
  · rw [show lm u I 147 = I 147 by simp [lm, hz_sa]]; exact V j hj
  · rw [← lf_A_at u (I 153) ha hb]; simp [lm, hz_sa]
theorem sg30 {b c : Nat} (hb : b ≤ 99) (hc : c ≤ 9) : (nI b - nI 10 - nI c < nI 20) ↔ nI b - nI c < nI 30 := by
  have h : ∀ b, b < 100 → ∀ c, c < 10 → ((nI b - nI 10 - nI c < nI 20) ↔ nI b - nI c < nI 30) := by decide +kernel
  exact h b (by omega) c (by omega)
set_option maxHeartbeats 4000000 in
set_option maxRecDepth 100000 in
theorem ev_loudM {T : hz_T} {n : Nat} (M : hz_M) {k : Nat} (hk : k < 6)  : hz_Ev mX11_loudOf T n M [.int (nI k)] 0 0 (some (.int (nI (lo_of k)))) T n M := by
  refine hz_Ev.intro (ls := [some (.int (nI k))]) (by decide +kernel) rfl (Nat.le_of_ble_eq_true rfl) (fun X C Z _ => ?_)
  rcases (show k = 0 ∨ k = 1 ∨ k = 2 ∨ k = 3 ∨ k = 4 ∨ k = 5 by omega) with rfl | rfl | rfl | rfl | rfl | rfl
  · refine hz_iload_n (pc := 0) C dX11_loudOf_0 rfl ?_
    refine hz_iconst (pc := 1) C (v := nI 2) dX11_loudOf_1 (by decide +kernel) ?_
    refine hz_ic_ne (pc := 2) C (tgt := 10) dX11_loudOf_2 rfl (fun _ => ?_) (fun cq => absurd cq (by decide +kernel))
    refine hz_iload_n (pc := 10) C dX11_loudOf_10 rfl ?_
    refine hz_iconst (pc := 11) C (v := nI 3) dX11_loudOf_11 (by decide +kernel) ?_
    refine hz_ic_ne (pc := 12) C (tgt := 20) dX11_loudOf_12 rfl (fun _ => ?_) (fun cq => absurd cq (by decide +kernel))
    refine hz_iload_n (pc := 20) C dX11_loudOf_20 rfl ?_
    refine hz_iconst (pc := 21) C (v := nI 4) dX11_loudOf_21 (by decide +kernel) ?_
    refine hz_ic_ne (pc := 22) C (tgt := 30) dX11_loudOf_22 rfl (fun _ => ?_) (fun cq => absurd cq (by decide +kernel))
    refine hz_bipush (pc := 30) C (v := nI 20) dX11_loudOf_30 (by decide +kernel) ?_
    exact hz_iret C Z rfl dX11_loudOf_32 rfl rfl
  · refine hz_iload_n (pc := 0) C dX11_loudOf_0 rfl ?_
    refine hz_iconst (pc := 1) C (v := nI 2) dX11_loudOf_1 (by decide +kernel) ?_
    refine hz_ic_ne (pc := 2) C (tgt := 10) dX11_loudOf_2 rfl (fun _ => ?_) (fun cq => absurd cq (by decide +kernel))
    refine hz_iload_n (pc := 10) C dX11_loudOf_10 rfl ?_
    refine hz_iconst (pc := 11) C (v := nI 3) dX11_loudOf_11 (by decide +kernel) ?_
    refine hz_ic_ne (pc := 12) C (tgt := 20) dX11_loudOf_12 rfl (fun _ => ?_) (fun cq => absurd cq (by decide +kernel))
    refine hz_iload_n (pc := 20) C dX11_loudOf_20 rfl ?_
    refine hz_iconst (pc := 21) C (v := nI 4) dX11_loudOf_21 (by decide +kernel) ?_
    refine hz_ic_ne (pc := 22) C (tgt := 30) dX11_loudOf_22 rfl (fun _ => ?_) (fun cq => absurd cq (by decide +kernel))
    refine hz_bipush (pc := 30) C (v := nI 20) dX11_loudOf_30 (by decide +kernel) ?_
    exact hz_iret C Z rfl dX11_loudOf_32 rfl rfl
  · refine hz_iload_n (pc := 0) C dX11_loudOf_0 rfl ?_
    refine hz_iconst (pc := 1) C (v := nI 2) dX11_loudOf_1 (by decide +kernel) ?_
    refine hz_ic_ne (pc := 2) C (tgt := 10) dX11_loudOf_2 rfl (fun cq => absurd (by decide +kernel) cq) (fun _ => ?_)
    refine hz_bipush (pc := 5) C (v := nI 40) dX11_loudOf_5 (by decide +kernel) ?_
    refine hz_goto (pc := 7) C (tgt := 32) dX11_loudOf_7 rfl ?_
    exact hz_iret C Z rfl dX11_loudOf_32 rfl rfl
  · refine hz_iload_n (pc := 0) C dX11_loudOf_0 rfl ?_
    refine hz_iconst (pc := 1) C (v := nI 2) dX11_loudOf_1 (by decide +kernel) ?_
    refine hz_ic_ne (pc := 2) C (tgt := 10) dX11_loudOf_2 rfl (fun _ => ?_) (fun cq => absurd cq (by decide +kernel))
    refine hz_iload_n (pc := 10) C dX11_loudOf_10 rfl ?_
    refine hz_iconst (pc := 11) C (v := nI 3) dX11_loudOf_11 (by decide +kernel) ?_
    refine hz_ic_ne (pc := 12) C (tgt := 20) dX11_loudOf_12 rfl (fun cq => absurd (by decide +kernel) cq) (fun _ => ?_)
    refine hz_bipush (pc := 15) C (v := nI 8) dX11_loudOf_15 (by decide +kernel) ?_
    refine hz_goto (pc := 17) C (tgt := 32) dX11_loudOf_17 rfl ?_
    exact hz_iret C Z rfl dX11_loudOf_32 rfl rfl
  · refine hz_iload_n (pc := 0) C dX11_loudOf_0 rfl ?_
    refine hz_iconst (pc := 1) C (v := nI 2) dX11_loudOf_1 (by decide +kernel) ?_
    refine hz_ic_ne (pc := 2) C (tgt := 10) dX11_loudOf_2 rfl (fun _ => ?_) (fun cq => absurd cq (by decide +kernel))
    refine hz_iload_n (pc := 10) C dX11_loudOf_10 rfl ?_
    refine hz_iconst (pc := 11) C (v := nI 3) dX11_loudOf_11 (by decide +kernel) ?_
    refine hz_ic_ne (pc := 12) C (tgt := 20) dX11_loudOf_12 rfl (fun _ => ?_) (fun cq => absurd cq (by decide +kernel))
    refine hz_iload_n (pc := 20) C dX11_loudOf_20 rfl ?_
    refine hz_iconst (pc := 21) C (v := nI 4) dX11_loudOf_21 (by decide +kernel) ?_
    refine hz_ic_ne (pc := 22) C (tgt := 30) dX11_loudOf_22 rfl (fun cq => absurd (by decide +kernel) cq) (fun _ => ?_)
    refine hz_bipush (pc := 25) C (v := nI 9) dX11_loudOf_25 (by decide +kernel) ?_
    refine hz_goto (pc := 27) C (tgt := 32) dX11_loudOf_27 rfl ?_
    exact hz_iret C Z rfl dX11_loudOf_32 rfl rfl
  · refine hz_iload_n (pc := 0) C dX11_loudOf_0 rfl ?_
    refine hz_iconst (pc := 1) C (v := nI 2) dX11_loudOf_1 (by decide +kernel) ?_
    refine hz_ic_ne (pc := 2) C (tgt := 10) dX11_loudOf_2 rfl (fun _ => ?_) (fun cq => absurd cq (by decide +kernel))
    refine hz_iload_n (pc := 10) C dX11_loudOf_10 rfl ?_
    refine hz_iconst (pc := 11) C (v := nI 3) dX11_loudOf_11 (by decide +kernel) ?_
    refine hz_ic_ne (pc := 12) C (tgt := 20) dX11_loudOf_12 rfl (fun _ => ?_) (fun cq => absurd cq (by decide +kernel))
    refine hz_iload_n (pc := 20) C dX11_loudOf_20 rfl ?_
    refine hz_iconst (pc := 21) C (v := nI 4) dX11_loudOf_21 (by decide +kernel) ?_
    refine hz_ic_ne (pc := 22) C (tgt := 30) dX11_loudOf_22 rfl (fun _ => ?_) (fun cq => absurd cq (by decide +kernel))
    refine hz_bipush (pc := 30) C (v := nI 20) dX11_loudOf_30 (by decide +kernel) ?_
    exact hz_iret C Z rfl dX11_loudOf_32 rfl rfl
set_option maxHeartbeats 4000000 in
set_option maxRecDepth 100000 in
theorem ev_beepsBy {T : hz_T} {n : Nat} (M : hz_M) {k : Nat} (hk : k < 6) {b c : Nat} (hb : b ≤ 99) (hc : c ≤ 9) (s : Int32) : hz_Ev mX11_beepsBy T n M [.int (nI k), .int (nI b), .int s, .int (nI c)] 0 0 (some (.int (hz_b (so_of k s (nI c) (nI b) = true)))) T n M := by
  refine hz_Ev.intro (ls := [some (.int (nI k)), some (.int (nI b)), some (.int s), some (.int (nI c)), none, none]) (by decide +kernel) rfl (Nat.le_of_ble_eq_true rfl) (fun X C Z _ => ?_)
  rcases (show k = 0 ∨ k = 1 ∨ k = 2 ∨ k = 3 ∨ k = 4 ∨ k = 5 by omega) with rfl | rfl | rfl | rfl | rfl | rfl
  · refine hz_iload_n (pc := 0) C dX11_beepsBy_0 rfl ?_
    refine hz_iload_n (pc := 1) C dX11_beepsBy_1 rfl ?_
    refine hz_isub (pc := 2) C dX11_beepsBy_2 rfl ?_
    refine hz_istore (pc := 3) C (ls' := [some (.int (nI 0)), some (.int (nI b)), some (.int s), some (.int (nI c)), some (.int ((nI b) - (nI c))), none]) dX11_beepsBy_3 (Nat.le_of_ble_eq_true rfl) rfl ?_
    refine hz_iload_n (pc := 5) C dX11_beepsBy_5 rfl ?_
    refine hz_bipush (pc := 6) C (v := nI 41) dX11_beepsBy_6 (by decide +kernel) ?_
    refine hz_irem (pc := 8) C (v := hz_rem s (nI 41)) dX11_beepsBy_8 (by decide +kernel) rfl ?_
    refine hz_if_ne (pc := 9) C (tgt := 16) dX11_beepsBy_9 rfl (fun c1 => ?_) (fun c1 => ?_)
    · refine hz_iconst (pc := 16) C (v := nI 0) dX11_beepsBy_16 (by decide +kernel) ?_
      refine hz_istore (pc := 17) C (ls' := [some (.int (nI 0)), some (.int (nI b)), some (.int s), some (.int (nI c)), some (.int ((nI b) - (nI c))), some (.int (nI 0))]) dX11_beepsBy_17 (Nat.le_of_ble_eq_true rfl) rfl ?_
      refine hz_iload_n (pc := 19) C dX11_beepsBy_19 rfl ?_
      refine hz_swOut (pc := 20) C (tgt := 146) dX11_beepsBy_20 (by decide +kernel) (by decide +kernel) ?_
      refine hz_iload (pc := 146) C dX11_beepsBy_146 rfl ?_
      refine hz_if_eq (pc := 148) C (tgt := 162) dX11_beepsBy_148 rfl (fun _ => ?_) (fun cq => absurd (by decide +kernel) cq)
      refine hz_iconst (pc := 162) C (v := nI 0) dX11_beepsBy_162 (by decide +kernel) ?_
      exact hz_zret C Z rfl (by decide +kernel) dX11_beepsBy_163 (hz_b0 (by first | (simp [so_of, so_old, so_wi, so_ph, so_fr, so_pl, sg30 hb hc, nI_0, show ¬ nI 20 = 0 by decide +kernel, show ¬ (0 : Int32) = nI 20 by decide +kernel, c1]; done))).symm rfl
    · refine hz_iconst (pc := 12) C (v := nI 1) dX11_beepsBy_12 (by decide +kernel) ?_
      refine hz_goto (pc := 13) C (tgt := 17) dX11_beepsBy_13 rfl ?_
      refine hz_istore (pc := 17) C (ls' := [some (.int (nI 0)), some (.int (nI b)), some (.int s), some (.int (nI c)), some (.int ((nI b) - (nI c))), some (.int (nI 1))]) dX11_beepsBy_17 (Nat.le_of_ble_eq_true rfl) rfl ?_
      refine hz_iload_n (pc := 19) C dX11_beepsBy_19 rfl ?_
      refine hz_swOut (pc := 20) C (tgt := 146) dX11_beepsBy_20 (by decide +kernel) (by decide +kernel) ?_
      refine hz_iload (pc := 146) C dX11_beepsBy_146 rfl ?_
      refine hz_if_eq (pc := 148) C (tgt := 162) dX11_beepsBy_148 rfl (fun cq => absurd cq (by decide +kernel)) (fun _ => ?_)
      refine hz_iload (pc := 151) C dX11_beepsBy_151 rfl ?_
      refine hz_bipush (pc := 153) C (v := nI 20) dX11_beepsBy_153 (by decide +kernel) ?_
      refine hz_ic_ge (pc := 155) C (tgt := 162) dX11_beepsBy_155 rfl (fun c2 => ?_) (fun c2 => ?_)
      · refine hz_iconst (pc := 162) C (v := nI 0) dX11_beepsBy_162 (by decide +kernel) ?_
        exact hz_zret C Z rfl (by decide +kernel) dX11_beepsBy_163 (hz_b0 (by first | (simp [so_of, so_old, so_wi, so_ph, so_fr, so_pl, sg30 hb hc, nI_0, show ¬ nI 20 = 0 by decide +kernel, show ¬ (0 : Int32) = nI 20 by decide +kernel, c1, c2]; done))).symm rfl
      · refine hz_iconst (pc := 158) C (v := nI 1) dX11_beepsBy_158 (by decide +kernel) ?_
        refine hz_goto (pc := 159) C (tgt := 163) dX11_beepsBy_159 rfl ?_
        exact hz_zret C Z rfl (by decide +kernel) dX11_beepsBy_163 (hz_b1 (by first | (simp [so_of, so_old, so_wi, so_ph, so_fr, so_pl, sg30 hb hc, nI_0, show ¬ nI 20 = 0 by decide +kernel, show ¬ (0 : Int32) = nI 20 by decide +kernel, c1, c2, Int32.not_le.mp c2]; done))).symm rfl
  · refine hz_iload_n (pc := 0) C dX11_beepsBy_0 rfl ?_
    refine hz_iload_n (pc := 1) C dX11_beepsBy_1 rfl ?_
    refine hz_isub (pc := 2) C dX11_beepsBy_2 rfl ?_
    refine hz_istore (pc := 3) C (ls' := [some (.int (nI 1)), some (.int (nI b)), some (.int s), some (.int (nI c)), some (.int ((nI b) - (nI c))), none]) dX11_beepsBy_3 (Nat.le_of_ble_eq_true rfl) rfl ?_
    refine hz_iload_n (pc := 5) C dX11_beepsBy_5 rfl ?_
    refine hz_bipush (pc := 6) C (v := nI 41) dX11_beepsBy_6 (by decide +kernel) ?_
    refine hz_irem (pc := 8) C (v := hz_rem s (nI 41)) dX11_beepsBy_8 (by decide +kernel) rfl ?_
    refine hz_if_ne (pc := 9) C (tgt := 16) dX11_beepsBy_9 rfl (fun c1 => ?_) (fun c1 => ?_)
    · refine hz_iconst (pc := 16) C (v := nI 0) dX11_beepsBy_16 (by decide +kernel) ?_
      refine hz_istore (pc := 17) C (ls' := [some (.int (nI 1)), some (.int (nI b)), some (.int s), some (.int (nI c)), some (.int ((nI b) - (nI c))), some (.int (nI 0))]) dX11_beepsBy_17 (Nat.le_of_ble_eq_true rfl) rfl ?_
      refine hz_iload_n (pc := 19) C dX11_beepsBy_19 rfl ?_
      refine hz_swIn (pc := 20) C (tgt := 56) dX11_beepsBy_20 (by decide +kernel) (by decide +kernel) (by rfl) (by decide +kernel) ?_
      refine hz_iload (pc := 56) C dX11_beepsBy_56 rfl ?_
      refine hz_if_eq (pc := 58) C (tgt := 72) dX11_beepsBy_58 rfl (fun _ => ?_) (fun cq => absurd (by decide +kernel) cq)
      refine hz_iconst (pc := 72) C (v := nI 0) dX11_beepsBy_72 (by decide +kernel) ?_
      exact hz_zret C Z rfl (by decide +kernel) dX11_beepsBy_73 (hz_b0 (by first | (simp [so_of, so_old, so_wi, so_ph, so_fr, so_pl, sg30 hb hc, nI_0, show ¬ nI 20 = 0 by decide +kernel, show ¬ (0 : Int32) = nI 20 by decide +kernel, c1]; done))).symm rfl
    · refine hz_iconst (pc := 12) C (v := nI 1) dX11_beepsBy_12 (by decide +kernel) ?_
      refine hz_goto (pc := 13) C (tgt := 17) dX11_beepsBy_13 rfl ?_
      refine hz_istore (pc := 17) C (ls' := [some (.int (nI 1)), some (.int (nI b)), some (.int s), some (.int (nI c)), some (.int ((nI b) - (nI c))), some (.int (nI 1))]) dX11_beepsBy_17 (Nat.le_of_ble_eq_true rfl) rfl ?_
      refine hz_iload_n (pc := 19) C dX11_beepsBy_19 rfl ?_
      refine hz_swIn (pc := 20) C (tgt := 56) dX11_beepsBy_20 (by decide +kernel) (by decide +kernel) (by rfl) (by decide +kernel) ?_
      refine hz_iload (pc := 56) C dX11_beepsBy_56 rfl ?_
      refine hz_if_eq (pc := 58) C (tgt := 72) dX11_beepsBy_58 rfl (fun cq => absurd cq (by decide +kernel)) (fun _ => ?_)
      refine hz_iload (pc := 61) C dX11_beepsBy_61 rfl ?_
      refine hz_bipush (pc := 63) C (v := nI 30) dX11_beepsBy_63 (by decide +kernel) ?_
      refine hz_ic_ge (pc := 65) C (tgt := 72) dX11_beepsBy_65 rfl (fun c2 => ?_) (fun c2 => ?_)
      · refine hz_iconst (pc := 72) C (v := nI 0) dX11_beepsBy_72 (by decide +kernel) ?_
        exact hz_zret C Z rfl (by decide +kernel) dX11_beepsBy_73 (hz_b0 (by first | (simp [so_of, so_old, so_wi, so_ph, so_fr, so_pl, sg30 hb hc, nI_0, show ¬ nI 20 = 0 by decide +kernel, show ¬ (0 : Int32) = nI 20 by decide +kernel, c1, c2]; done))).symm rfl
      · refine hz_iconst (pc := 68) C (v := nI 1) dX11_beepsBy_68 (by decide +kernel) ?_
        refine hz_goto (pc := 69) C (tgt := 73) dX11_beepsBy_69 rfl ?_
        exact hz_zret C Z rfl (by decide +kernel) dX11_beepsBy_73 (hz_b1 (by first | (simp [so_of, so_old, so_wi, so_ph, so_fr, so_pl, sg30 hb hc, nI_0, show ¬ nI 20 = 0 by decide +kernel, show ¬ (0 : Int32) = nI 20 by decide +kernel, c1, c2, Int32.not_le.mp c2]; done))).symm rfl
  · refine hz_iload_n (pc := 0) C dX11_beepsBy_0 rfl ?_
    refine hz_iload_n (pc := 1) C dX11_beepsBy_1 rfl ?_
    refine hz_isub (pc := 2) C dX11_beepsBy_2 rfl ?_
    refine hz_istore (pc := 3) C (ls' := [some (.int (nI 2)), some (.int (nI b)), some (.int s), some (.int (nI c)), some (.int ((nI b) - (nI c))), none]) dX11_beepsBy_3 (Nat.le_of_ble_eq_true rfl) rfl ?_
    refine hz_iload_n (pc := 5) C dX11_beepsBy_5 rfl ?_
    refine hz_bipush (pc := 6) C (v := nI 41) dX11_beepsBy_6 (by decide +kernel) ?_
    refine hz_irem (pc := 8) C (v := hz_rem s (nI 41)) dX11_beepsBy_8 (by decide +kernel) rfl ?_
    refine hz_if_ne (pc := 9) C (tgt := 16) dX11_beepsBy_9 rfl (fun c1 => ?_) (fun c1 => ?_)
    · refine hz_iconst (pc := 16) C (v := nI 0) dX11_beepsBy_16 (by decide +kernel) ?_
      refine hz_istore (pc := 17) C (ls' := [some (.int (nI 2)), some (.int (nI b)), some (.int s), some (.int (nI c)), some (.int ((nI b) - (nI c))), some (.int (nI 0))]) dX11_beepsBy_17 (Nat.le_of_ble_eq_true rfl) rfl ?_
      refine hz_iload_n (pc := 19) C dX11_beepsBy_19 rfl ?_
      refine hz_swIn (pc := 20) C (tgt := 74) dX11_beepsBy_20 (by decide +kernel) (by decide +kernel) (by rfl) (by decide +kernel) ?_
      refine hz_iload (pc := 74) C dX11_beepsBy_74 rfl ?_
      refine hz_if_eq (pc := 76) C (tgt := 86) dX11_beepsBy_76 rfl (fun _ => ?_) (fun cq => absurd (by decide +kernel) cq)
      refine hz_iload_n (pc := 86) C dX11_beepsBy_86 rfl ?_
      refine hz_bipush (pc := 87) C (v := nI 41) dX11_beepsBy_87 (by decide +kernel) ?_
      refine hz_irem (pc := 89) C (v := hz_rem s (nI 41)) dX11_beepsBy_89 (by decide +kernel) rfl ?_
      refine hz_bipush (pc := 90) C (v := nI 20) dX11_beepsBy_90 (by decide +kernel) ?_
      refine hz_ic_ne (pc := 92) C (tgt := 106) dX11_beepsBy_92 rfl (fun c2 => ?_) (fun c2 => ?_)
      · refine hz_iconst (pc := 106) C (v := nI 0) dX11_beepsBy_106 (by decide +kernel) ?_
        exact hz_zret C Z rfl (by decide +kernel) dX11_beepsBy_107 (hz_b0 (by first | (simp [so_of, so_old, so_wi, so_ph, so_fr, so_pl, sg30 hb hc, nI_0, show ¬ nI 20 = 0 by decide +kernel, show ¬ (0 : Int32) = nI 20 by decide +kernel, c1, c2]; done))).symm rfl
      · refine hz_iload (pc := 95) C dX11_beepsBy_95 rfl ?_
        refine hz_bipush (pc := 97) C (v := nI 10) dX11_beepsBy_97 (by decide +kernel) ?_
        refine hz_ic_ge (pc := 99) C (tgt := 106) dX11_beepsBy_99 rfl (fun c3 => ?_) (fun c3 => ?_)
        · refine hz_iconst (pc := 106) C (v := nI 0) dX11_beepsBy_106 (by decide +kernel) ?_
          exact hz_zret C Z rfl (by decide +kernel) dX11_beepsBy_107 (hz_b0 (by first | (simp [so_of, so_old, so_wi, so_ph, so_fr, so_pl, sg30 hb hc, nI_0, show ¬ nI 20 = 0 by decide +kernel, show ¬ (0 : Int32) = nI 20 by decide +kernel, c1, c2, c3]; done))).symm rfl
        · refine hz_iconst (pc := 102) C (v := nI 1) dX11_beepsBy_102 (by decide +kernel) ?_
          refine hz_goto (pc := 103) C (tgt := 107) dX11_beepsBy_103 rfl ?_
          exact hz_zret C Z rfl (by decide +kernel) dX11_beepsBy_107 (hz_b1 (by first | (simp [so_of, so_old, so_wi, so_ph, so_fr, so_pl, sg30 hb hc, nI_0, show ¬ nI 20 = 0 by decide +kernel, show ¬ (0 : Int32) = nI 20 by decide +kernel, c1, c2, c3, Int32.not_le.mp c3]; done))).symm rfl
    · refine hz_iconst (pc := 12) C (v := nI 1) dX11_beepsBy_12 (by decide +kernel) ?_
      refine hz_goto (pc := 13) C (tgt := 17) dX11_beepsBy_13 rfl ?_
      refine hz_istore (pc := 17) C (ls' := [some (.int (nI 2)), some (.int (nI b)), some (.int s), some (.int (nI c)), some (.int ((nI b) - (nI c))), some (.int (nI 1))]) dX11_beepsBy_17 (Nat.le_of_ble_eq_true rfl) rfl ?_
      refine hz_iload_n (pc := 19) C dX11_beepsBy_19 rfl ?_
      refine hz_swIn (pc := 20) C (tgt := 74) dX11_beepsBy_20 (by decide +kernel) (by decide +kernel) (by rfl) (by decide +kernel) ?_
      refine hz_iload (pc := 74) C dX11_beepsBy_74 rfl ?_
      refine hz_if_eq (pc := 76) C (tgt := 86) dX11_beepsBy_76 rfl (fun cq => absurd cq (by decide +kernel)) (fun _ => ?_)
      refine hz_iload (pc := 79) C dX11_beepsBy_79 rfl ?_
      refine hz_bipush (pc := 81) C (v := nI 20) dX11_beepsBy_81 (by decide +kernel) ?_
      refine hz_ic_lt (pc := 83) C (tgt := 102) dX11_beepsBy_83 rfl (fun c4 => ?_) (fun c4 => ?_)
      · refine hz_iconst (pc := 102) C (v := nI 1) dX11_beepsBy_102 (by decide +kernel) ?_
        refine hz_goto (pc := 103) C (tgt := 107) dX11_beepsBy_103 rfl ?_
        exact hz_zret C Z rfl (by decide +kernel) dX11_beepsBy_107 (hz_b1 (by first | (simp [so_of, so_old, so_wi, so_ph, so_fr, so_pl, sg30 hb hc, nI_0, show ¬ nI 20 = 0 by decide +kernel, show ¬ (0 : Int32) = nI 20 by decide +kernel, c1, c4]; done))).symm rfl
      · refine hz_iload_n (pc := 86) C dX11_beepsBy_86 rfl ?_
        refine hz_bipush (pc := 87) C (v := nI 41) dX11_beepsBy_87 (by decide +kernel) ?_
        refine hz_irem (pc := 89) C (v := hz_rem s (nI 41)) dX11_beepsBy_89 (by decide +kernel) rfl ?_
        refine hz_bipush (pc := 90) C (v := nI 20) dX11_beepsBy_90 (by decide +kernel) ?_
        refine hz_ic_ne (pc := 92) C (tgt := 106) dX11_beepsBy_92 rfl (fun c5 => ?_) (fun c5 => ?_)
        · refine hz_iconst (pc := 106) C (v := nI 0) dX11_beepsBy_106 (by decide +kernel) ?_
          exact hz_zret C Z rfl (by decide +kernel) dX11_beepsBy_107 (hz_b0 (by first | (simp [so_of, so_old, so_wi, so_ph, so_fr, so_pl, sg30 hb hc, nI_0, show ¬ nI 20 = 0 by decide +kernel, show ¬ (0 : Int32) = nI 20 by decide +kernel, c1, c4, Int32.not_lt.mp c4, c5]; done) | exact absurd (c1.symm.trans c5) (by decide +kernel))).symm rfl
        · refine hz_iload (pc := 95) C dX11_beepsBy_95 rfl ?_
          refine hz_bipush (pc := 97) C (v := nI 10) dX11_beepsBy_97 (by decide +kernel) ?_
          refine hz_ic_ge (pc := 99) C (tgt := 106) dX11_beepsBy_99 rfl (fun c6 => ?_) (fun c6 => ?_)
          · refine hz_iconst (pc := 106) C (v := nI 0) dX11_beepsBy_106 (by decide +kernel) ?_
            exact hz_zret C Z rfl (by decide +kernel) dX11_beepsBy_107 (hz_b0 (by first | (simp [so_of, so_old, so_wi, so_ph, so_fr, so_pl, sg30 hb hc, nI_0, show ¬ nI 20 = 0 by decide +kernel, show ¬ (0 : Int32) = nI 20 by decide +kernel, c1, c4, Int32.not_lt.mp c4, c5, c6]; done) | exact absurd (c1.symm.trans c5) (by decide +kernel))).symm rfl
          · refine hz_iconst (pc := 102) C (v := nI 1) dX11_beepsBy_102 (by decide +kernel) ?_
            refine hz_goto (pc := 103) C (tgt := 107) dX11_beepsBy_103 rfl ?_
            exact hz_zret C Z rfl (by decide +kernel) dX11_beepsBy_107 (hz_b1 (by first | (simp [so_of, so_old, so_wi, so_ph, so_fr, so_pl, sg30 hb hc, nI_0, show ¬ nI 20 = 0 by decide +kernel, show ¬ (0 : Int32) = nI 20 by decide +kernel, c1, c4, Int32.not_lt.mp c4, c5, c6, Int32.not_le.mp c6]; done) | exact absurd (c1.symm.trans c5) (by decide +kernel))).symm rfl
  · refine hz_iload_n (pc := 0) C dX11_beepsBy_0 rfl ?_
    refine hz_iload_n (pc := 1) C dX11_beepsBy_1 rfl ?_
    refine hz_isub (pc := 2) C dX11_beepsBy_2 rfl ?_
    refine hz_istore (pc := 3) C (ls' := [some (.int (nI 3)), some (.int (nI b)), some (.int s), some (.int (nI c)), some (.int ((nI b) - (nI c))), none]) dX11_beepsBy_3 (Nat.le_of_ble_eq_true rfl) rfl ?_
    refine hz_iload_n (pc := 5) C dX11_beepsBy_5 rfl ?_
    refine hz_bipush (pc := 6) C (v := nI 41) dX11_beepsBy_6 (by decide +kernel) ?_
    refine hz_irem (pc := 8) C (v := hz_rem s (nI 41)) dX11_beepsBy_8 (by decide +kernel) rfl ?_
    refine hz_if_ne (pc := 9) C (tgt := 16) dX11_beepsBy_9 rfl (fun c1 => ?_) (fun c1 => ?_)
    · refine hz_iconst (pc := 16) C (v := nI 0) dX11_beepsBy_16 (by decide +kernel) ?_
      refine hz_istore (pc := 17) C (ls' := [some (.int (nI 3)), some (.int (nI b)), some (.int s), some (.int (nI c)), some (.int ((nI b) - (nI c))), some (.int (nI 0))]) dX11_beepsBy_17 (Nat.le_of_ble_eq_true rfl) rfl ?_
      refine hz_iload_n (pc := 19) C dX11_beepsBy_19 rfl ?_
      refine hz_swIn (pc := 20) C (tgt := 146) dX11_beepsBy_20 (by decide +kernel) (by decide +kernel) (by rfl) (by decide +kernel) ?_
      refine hz_iload (pc := 146) C dX11_beepsBy_146 rfl ?_
      refine hz_if_eq (pc := 148) C (tgt := 162) dX11_beepsBy_148 rfl (fun _ => ?_) (fun cq => absurd (by decide +kernel) cq)
      refine hz_iconst (pc := 162) C (v := nI 0) dX11_beepsBy_162 (by decide +kernel) ?_
      exact hz_zret C Z rfl (by decide +kernel) dX11_beepsBy_163 (hz_b0 (by first | (simp [so_of, so_old, so_wi, so_ph, so_fr, so_pl, sg30 hb hc, nI_0, show ¬ nI 20 = 0 by decide +kernel, show ¬ (0 : Int32) = nI 20 by decide +kernel, c1]; done))).symm rfl
    · refine hz_iconst (pc := 12) C (v := nI 1) dX11_beepsBy_12 (by decide +kernel) ?_
      refine hz_goto (pc := 13) C (tgt := 17) dX11_beepsBy_13 rfl ?_
      refine hz_istore (pc := 17) C (ls' := [some (.int (nI 3)), some (.int (nI b)), some (.int s), some (.int (nI c)), some (.int ((nI b) - (nI c))), some (.int (nI 1))]) dX11_beepsBy_17 (Nat.le_of_ble_eq_true rfl) rfl ?_
      refine hz_iload_n (pc := 19) C dX11_beepsBy_19 rfl ?_
      refine hz_swIn (pc := 20) C (tgt := 146) dX11_beepsBy_20 (by decide +kernel) (by decide +kernel) (by rfl) (by decide +kernel) ?_
      refine hz_iload (pc := 146) C dX11_beepsBy_146 rfl ?_
      refine hz_if_eq (pc := 148) C (tgt := 162) dX11_beepsBy_148 rfl (fun cq => absurd cq (by decide +kernel)) (fun _ => ?_)
      refine hz_iload (pc := 151) C dX11_beepsBy_151 rfl ?_
      refine hz_bipush (pc := 153) C (v := nI 20) dX11_beepsBy_153 (by decide +kernel) ?_
      refine hz_ic_ge (pc := 155) C (tgt := 162) dX11_beepsBy_155 rfl (fun c2 => ?_) (fun c2 => ?_)
      · refine hz_iconst (pc := 162) C (v := nI 0) dX11_beepsBy_162 (by decide +kernel) ?_
        exact hz_zret C Z rfl (by decide +kernel) dX11_beepsBy_163 (hz_b0 (by first | (simp [so_of, so_old, so_wi, so_ph, so_fr, so_pl, sg30 hb hc, nI_0, show ¬ nI 20 = 0 by decide +kernel, show ¬ (0 : Int32) = nI 20 by decide +kernel, c1, c2]; done))).symm rfl
      · refine hz_iconst (pc := 158) C (v := nI 1) dX11_beepsBy_158 (by decide +kernel) ?_
        refine hz_goto (pc := 159) C (tgt := 163) dX11_beepsBy_159 rfl ?_
        exact hz_zret C Z rfl (by decide +kernel) dX11_beepsBy_163 (hz_b1 (by first | (simp [so_of, so_old, so_wi, so_ph, so_fr, so_pl, sg30 hb hc, nI_0, show ¬ nI 20 = 0 by decide +kernel, show ¬ (0 : Int32) = nI 20 by decide +kernel, c1, c2, Int32.not_le.mp c2]; done))).symm rfl
  · refine hz_iload_n (pc := 0) C dX11_beepsBy_0 rfl ?_
    refine hz_iload_n (pc := 1) C dX11_beepsBy_1 rfl ?_
    refine hz_isub (pc := 2) C dX11_beepsBy_2 rfl ?_
    refine hz_istore (pc := 3) C (ls' := [some (.int (nI 4)), some (.int (nI b)), some (.int s), some (.int (nI c)), some (.int ((nI b) - (nI c))), none]) dX11_beepsBy_3 (Nat.le_of_ble_eq_true rfl) rfl ?_
    refine hz_iload_n (pc := 5) C dX11_beepsBy_5 rfl ?_
    refine hz_bipush (pc := 6) C (v := nI 41) dX11_beepsBy_6 (by decide +kernel) ?_
    refine hz_irem (pc := 8) C (v := hz_rem s (nI 41)) dX11_beepsBy_8 (by decide +kernel) rfl ?_
    refine hz_if_ne (pc := 9) C (tgt := 16) dX11_beepsBy_9 rfl (fun c1 => ?_) (fun c1 => ?_)
    · refine hz_iconst (pc := 16) C (v := nI 0) dX11_beepsBy_16 (by decide +kernel) ?_
      refine hz_istore (pc := 17) C (ls' := [some (.int (nI 4)), some (.int (nI b)), some (.int s), some (.int (nI c)), some (.int ((nI b) - (nI c))), some (.int (nI 0))]) dX11_beepsBy_17 (Nat.le_of_ble_eq_true rfl) rfl ?_
      refine hz_iload_n (pc := 19) C dX11_beepsBy_19 rfl ?_
      refine hz_swIn (pc := 20) C (tgt := 108) dX11_beepsBy_20 (by decide +kernel) (by decide +kernel) (by rfl) (by decide +kernel) ?_
      refine hz_iload_n (pc := 108) C dX11_beepsBy_108 rfl ?_
      refine hz_bipush (pc := 109) C (v := nI 30) dX11_beepsBy_109 (by decide +kernel) ?_
      refine hz_irem (pc := 111) C (v := hz_rem s (nI 30)) dX11_beepsBy_111 (by decide +kernel) rfl ?_
      refine hz_bipush (pc := 112) C (v := nI 7) dX11_beepsBy_112 (by decide +kernel) ?_
      refine hz_ic_ne (pc := 114) C (tgt := 121) dX11_beepsBy_114 rfl (fun c2 => ?_) (fun c2 => ?_)
      · refine hz_iconst (pc := 121) C (v := nI 0) dX11_beepsBy_121 (by decide +kernel) ?_
        exact hz_zret C Z rfl (by decide +kernel) dX11_beepsBy_122 (hz_b0 (by first | (simp [so_of, so_old, so_wi, so_ph, so_fr, so_pl, sg30 hb hc, nI_0, show ¬ nI 20 = 0 by decide +kernel, show ¬ (0 : Int32) = nI 20 by decide +kernel, c1, c2]; done))).symm rfl
      · refine hz_iconst (pc := 117) C (v := nI 1) dX11_beepsBy_117 (by decide +kernel) ?_
        refine hz_goto (pc := 118) C (tgt := 122) dX11_beepsBy_118 rfl ?_
        exact hz_zret C Z rfl (by decide +kernel) dX11_beepsBy_122 (hz_b1 (by first | (simp [so_of, so_old, so_wi, so_ph, so_fr, so_pl, sg30 hb hc, nI_0, show ¬ nI 20 = 0 by decide +kernel, show ¬ (0 : Int32) = nI 20 by decide +kernel, c1, c2]; done))).symm rfl
    · refine hz_iconst (pc := 12) C (v := nI 1) dX11_beepsBy_12 (by decide +kernel) ?_
      refine hz_goto (pc := 13) C (tgt := 17) dX11_beepsBy_13 rfl ?_
      refine hz_istore (pc := 17) C (ls' := [some (.int (nI 4)), some (.int (nI b)), some (.int s), some (.int (nI c)), some (.int ((nI b) - (nI c))), some (.int (nI 1))]) dX11_beepsBy_17 (Nat.le_of_ble_eq_true rfl) rfl ?_
      refine hz_iload_n (pc := 19) C dX11_beepsBy_19 rfl ?_
      refine hz_swIn (pc := 20) C (tgt := 108) dX11_beepsBy_20 (by decide +kernel) (by decide +kernel) (by rfl) (by decide +kernel) ?_
      refine hz_iload_n (pc := 108) C dX11_beepsBy_108 rfl ?_
      refine hz_bipush (pc := 109) C (v := nI 30) dX11_beepsBy_109 (by decide +kernel) ?_
      refine hz_irem (pc := 111) C (v := hz_rem s (nI 30)) dX11_beepsBy_111 (by decide +kernel) rfl ?_
      refine hz_bipush (pc := 112) C (v := nI 7) dX11_beepsBy_112 (by decide +kernel) ?_
      refine hz_ic_ne (pc := 114) C (tgt := 121) dX11_beepsBy_114 rfl (fun c3 => ?_) (fun c3 => ?_)
      · refine hz_iconst (pc := 121) C (v := nI 0) dX11_beepsBy_121 (by decide +kernel) ?_
        exact hz_zret C Z rfl (by decide +kernel) dX11_beepsBy_122 (hz_b0 (by first | (simp [so_of, so_old, so_wi, so_ph, so_fr, so_pl, sg30 hb hc, nI_0, show ¬ nI 20 = 0 by decide +kernel, show ¬ (0 : Int32) = nI 20 by decide +kernel, c1, c3]; done))).symm rfl
      · refine hz_iconst (pc := 117) C (v := nI 1) dX11_beepsBy_117 (by decide +kernel) ?_
        refine hz_goto (pc := 118) C (tgt := 122) dX11_beepsBy_118 rfl ?_
        exact hz_zret C Z rfl (by decide +kernel) dX11_beepsBy_122 (hz_b1 (by first | (simp [so_of, so_old, so_wi, so_ph, so_fr, so_pl, sg30 hb hc, nI_0, show ¬ nI 20 = 0 by decide +kernel, show ¬ (0 : Int32) = nI 20 by decide +kernel, c1, c3]; done))).symm rfl
  · refine hz_iload_n (pc := 0) C dX11_beepsBy_0 rfl ?_
    refine hz_iload_n (pc := 1) C dX11_beepsBy_1 rfl ?_
    refine hz_isub (pc := 2) C dX11_beepsBy_2 rfl ?_
    refine hz_istore (pc := 3) C (ls' := [some (.int (nI 5)), some (.int (nI b)), some (.int s), some (.int (nI c)), some (.int ((nI b) - (nI c))), none]) dX11_beepsBy_3 (Nat.le_of_ble_eq_true rfl) rfl ?_
    refine hz_iload_n (pc := 5) C dX11_beepsBy_5 rfl ?_
    refine hz_bipush (pc := 6) C (v := nI 41) dX11_beepsBy_6 (by decide +kernel) ?_
    refine hz_irem (pc := 8) C (v := hz_rem s (nI 41)) dX11_beepsBy_8 (by decide +kernel) rfl ?_
    refine hz_if_ne (pc := 9) C (tgt := 16) dX11_beepsBy_9 rfl (fun c1 => ?_) (fun c1 => ?_)
    · refine hz_iconst (pc := 16) C (v := nI 0) dX11_beepsBy_16 (by decide +kernel) ?_
      refine hz_istore (pc := 17) C (ls' := [some (.int (nI 5)), some (.int (nI b)), some (.int s), some (.int (nI c)), some (.int ((nI b) - (nI c))), some (.int (nI 0))]) dX11_beepsBy_17 (Nat.le_of_ble_eq_true rfl) rfl ?_
      refine hz_iload_n (pc := 19) C dX11_beepsBy_19 rfl ?_
      refine hz_swIn (pc := 20) C (tgt := 123) dX11_beepsBy_20 (by decide +kernel) (by decide +kernel) (by rfl) (by decide +kernel) ?_
      refine hz_iload (pc := 123) C dX11_beepsBy_123 rfl ?_
      refine hz_if_eq (pc := 125) C (tgt := 144) dX11_beepsBy_125 rfl (fun _ => ?_) (fun cq => absurd (by decide +kernel) cq)
      refine hz_iconst (pc := 144) C (v := nI 0) dX11_beepsBy_144 (by decide +kernel) ?_
      exact hz_zret C Z rfl (by decide +kernel) dX11_beepsBy_145 (hz_b0 (by first | (simp [so_of, so_old, so_wi, so_ph, so_fr, so_pl, sg30 hb hc, nI_0, show ¬ nI 20 = 0 by decide +kernel, show ¬ (0 : Int32) = nI 20 by decide +kernel, c1]; done))).symm rfl
    · refine hz_iconst (pc := 12) C (v := nI 1) dX11_beepsBy_12 (by decide +kernel) ?_
      refine hz_goto (pc := 13) C (tgt := 17) dX11_beepsBy_13 rfl ?_
      refine hz_istore (pc := 17) C (ls' := [some (.int (nI 5)), some (.int (nI b)), some (.int s), some (.int (nI c)), some (.int ((nI b) - (nI c))), some (.int (nI 1))]) dX11_beepsBy_17 (Nat.le_of_ble_eq_true rfl) rfl ?_
      refine hz_iload_n (pc := 19) C dX11_beepsBy_19 rfl ?_
      refine hz_swIn (pc := 20) C (tgt := 123) dX11_beepsBy_20 (by decide +kernel) (by decide +kernel) (by rfl) (by decide +kernel) ?_
      refine hz_iload (pc := 123) C dX11_beepsBy_123 rfl ?_
      refine hz_if_eq (pc := 125) C (tgt := 144) dX11_beepsBy_125 rfl (fun cq => absurd cq (by decide +kernel)) (fun _ => ?_)
      refine hz_iload (pc := 128) C dX11_beepsBy_128 rfl ?_
      refine hz_bipush (pc := 130) C (v := nI 30) dX11_beepsBy_130 (by decide +kernel) ?_
      refine hz_ic_ge (pc := 132) C (tgt := 144) dX11_beepsBy_132 rfl (fun c2 => ?_) (fun c2 => ?_)
      · refine hz_iconst (pc := 144) C (v := nI 0) dX11_beepsBy_144 (by decide +kernel) ?_
        exact hz_zret C Z rfl (by decide +kernel) dX11_beepsBy_145 (hz_b0 (by first | (simp [so_of, so_old, so_wi, so_ph, so_fr, so_pl, sg30 hb hc, nI_0, show ¬ nI 20 = 0 by decide +kernel, show ¬ (0 : Int32) = nI 20 by decide +kernel, c1, c2]; done))).symm rfl
      · refine hz_iload_n (pc := 135) C dX11_beepsBy_135 rfl ?_
        refine hz_iconst (pc := 136) C (v := nI 5) dX11_beepsBy_136 (by decide +kernel) ?_
        refine hz_ic_lt (pc := 137) C (tgt := 144) dX11_beepsBy_137 rfl (fun c3 => ?_) (fun c3 => ?_)
        · refine hz_iconst (pc := 144) C (v := nI 0) dX11_beepsBy_144 (by decide +kernel) ?_
          exact hz_zret C Z rfl (by decide +kernel) dX11_beepsBy_145 (hz_b0 (by first | (simp [so_of, so_old, so_wi, so_ph, so_fr, so_pl, sg30 hb hc, nI_0, show ¬ nI 20 = 0 by decide +kernel, show ¬ (0 : Int32) = nI 20 by decide +kernel, c1, c2, Int32.not_le.mp c2, c3]; done))).symm rfl
        · refine hz_iconst (pc := 140) C (v := nI 1) dX11_beepsBy_140 (by decide +kernel) ?_
          refine hz_goto (pc := 141) C (tgt := 145) dX11_beepsBy_141 rfl ?_
          exact hz_zret C Z rfl (by decide +kernel) dX11_beepsBy_145 (hz_b1 (by first | (simp [so_of, so_old, so_wi, so_ph, so_fr, so_pl, sg30 hb hc, nI_0, show ¬ nI 20 = 0 by decide +kernel, show ¬ (0 : Int32) = nI 20 by decide +kernel, c1, c2, Int32.not_le.mp c2, c3, Int32.not_lt.mp c3]; done))).symm rfl
theorem n3 {k : Nat} (h : k < 6) {j : Nat} (hj : j < 6) : nI k = nI j ↔ k = j := nI_eq (by omega) (by omega)
/-- as the class says it, but for a cold of its own -/
def sinc (u : Nat → Nat) (k : Nat) (s : Int32) (c : Nat) : Bool := mb u k && so_of (u (65 + k)) s (nI c) (nI (u (94 + k)))
theorem sinc_eq (u : Nat → Nat) (k : Nat) (s : Int32) : sinc u k s (u 92) = sin u k s := rfl
set_option maxHeartbeats 4000000 in
set_option maxRecDepth 100000 in
theorem ev_silent {I : Nat → Nat → Int32} {L : Nat → Nat → Int64} {q : Nat → Nat → Nat} {u : Nat → Nat} (V : MV I u) (U : WU u) {k : Nat} (hk : k < u 64) : hz_Ev mX11_isSilent TT NN (I, L, PP q) [.ref 146, .int (nI k)] 0 0 (some (.int (hz_b (¬ mb u k = true)))) TT NN (I, L, PP q) := by
  have hal := wu_al U
  have hkd := wu_kd U hk
  have hrm := wu_rm U hk
  have hba := wu_ba U hk
  refine hz_Ev.intro (ls := [some (.ref 146), some (.int (nI k))]) (by decide +kernel) rfl (Nat.le_of_ble_eq_true rfl) (fun X C Z _ => ?_)
  refine hz_aload_n (pc := 0) C dX11_isSilent_0 rfl ?_
  refine hz_getP (pc := 1) C (v := 147) ffX11_7 dX11_isSilent_1 hT146 hA146 rfl (hP146_0 q) (by decide) ?_
  refine hz_bipush (pc := 4) C (v := nI 93) dX11_isSilent_4 (by decide +kernel) ?_
  refine hz_iald (pc := 6) C (v := nI (u 93)) (j := 93) dX11_isSilent_6 hT147 hA147 rfl (by decide) (by decide) (mg V (by omega) (by omega)) ?_
  refine hz_iload_n (pc := 7) C dX11_isSilent_7 rfl ?_
  refine hz_callSs (pc := 8) C (as := [.int (nI (u 93)), .int (nI k)]) (st := []) (ev_hasM _ (wu_dn U) (by omega)) (hz_new0 _ _) fyX11_has fsX11_166 rfl dX11_isSilent_8 rfl rfl (Nat.le_of_ble_eq_true rfl) (by decide) (hz_cap0 _) ?_
  refine hz_ifb_eq (pc := 11) C (tgt := 44) dX11_isSilent_11 rfl (fun c1 => ?_) (fun c1 => ?_)
  · refine hz_iconst (pc := 44) C (v := nI 0) dX11_isSilent_44 (by decide +kernel) ?_
    exact hz_zret C Z rfl (by decide +kernel) dX11_isSilent_45 (hz_b0 (by simp [mb, sd_of, c1])).symm rfl
  · refine hz_aload_n (pc := 14) C dX11_isSilent_14 rfl ?_
    refine hz_getP (pc := 15) C (v := 147) ffX11_7 dX11_isSilent_15 hT146 hA146 rfl (hP146_0 q) (by decide) ?_
    refine hz_bipush (pc := 18) C (v := nI 65) dX11_isSilent_18 (by decide +kernel) ?_
    refine hz_iload_n (pc := 20) C dX11_isSilent_20 rfl ?_
    refine hz_iadd (pc := 21) C (v := nI (65 + k)) dX11_isSilent_21 (nI_add _ _) ?_
    refine hz_iald (pc := 22) C (v := nI (u (65 + k))) (j := 65 + k) dX11_isSilent_22 hT147 hA147 rfl (by omega) (by decide) (mg V (by omega) (by omega)) ?_
    refine hz_iconst (pc := 23) C (v := nI 3) dX11_isSilent_23 (by decide +kernel) ?_
    refine hz_ic_eq (pc := 24) C (tgt := 44) dX11_isSilent_24 rfl (fun c2 => ?_) (fun c2 => ?_)
    · refine hz_iconst (pc := 44) C (v := nI 0) dX11_isSilent_44 (by decide +kernel) ?_
      exact hz_zret C Z rfl (by decide +kernel) dX11_isSilent_45 (hz_b0 (by have ec2 := (n3 hkd (by decide)).mp c2; simp [mb, sd_of, c1, ec2])).symm rfl
    · refine hz_aload_n (pc := 27) C dX11_isSilent_27 rfl ?_
      refine hz_getP (pc := 28) C (v := 147) ffX11_7 dX11_isSilent_28 hT146 hA146 rfl (hP146_0 q) (by decide) ?_
      refine hz_bipush (pc := 31) C (v := nI 65) dX11_isSilent_31 (by decide +kernel) ?_
      refine hz_iload_n (pc := 33) C dX11_isSilent_33 rfl ?_
      refine hz_iadd (pc := 34) C (v := nI (65 + k)) dX11_isSilent_34 (nI_add _ _) ?_
      refine hz_iald (pc := 35) C (v := nI (u (65 + k))) (j := 65 + k) dX11_isSilent_35 hT147 hA147 rfl (by omega) (by decide) (mg V (by omega) (by omega)) ?_
      refine hz_iconst (pc := 36) C (v := nI 4) dX11_isSilent_36 (by decide +kernel) ?_
      refine hz_ic_eq (pc := 37) C (tgt := 44) dX11_isSilent_37 rfl (fun c3 => ?_) (fun c3 => ?_)
      · refine hz_iconst (pc := 44) C (v := nI 0) dX11_isSilent_44 (by decide +kernel) ?_
        exact hz_zret C Z rfl (by decide +kernel) dX11_isSilent_45 (hz_b0 (by have ec2 : ¬ u (65 + k) = 3 := fun z => c2 ((n3 hkd (by decide)).mpr z); have ec3 := (n3 hkd (by decide)).mp c3; simp [mb, sd_of, c1, ec2, ec3])).symm rfl
      · refine hz_iconst (pc := 40) C (v := nI 1) dX11_isSilent_40 (by decide +kernel) ?_
        refine hz_goto (pc := 41) C (tgt := 45) dX11_isSilent_41 rfl ?_
        exact hz_zret C Z rfl (by decide +kernel) dX11_isSilent_45 (hz_b1 (by have ec2 : ¬ u (65 + k) = 3 := fun z => c2 ((n3 hkd (by decide)).mpr z); have ec3 : ¬ u (65 + k) = 4 := fun z => c3 ((n3 hkd (by decide)).mpr z); simp [mb, sd_of, c1, ec2, ec3])).symm rfl
set_option maxHeartbeats 4000000 in
set_option maxRecDepth 100000 in
theorem ev_beepsNow {I : Nat → Nat → Int32} {L : Nat → Nat → Int64} {q : Nat → Nat → Nat} {u : Nat → Nat} (V : MV I u) (U : WU u) {k : Nat} (hk : k < u 64) (s : Int32) {c : Nat} (hc : c ≤ 9) : hz_Ev mX11_beepsNow TT NN (I, L, PP q) [.ref 146, .int (nI k), .int s, .int (nI c)] 0 0 (some (.int (hz_b (sinc u k s c = true)))) TT NN (I, L, PP q) := by
  have hal := wu_al U
  have hkd := wu_kd U hk
  have hrm := wu_rm U hk
  have hba := wu_ba U hk
  refine hz_Ev.intro (ls := [some (.ref 146), some (.int (nI k)), some (.int s), some (.int (nI c))]) (by decide +kernel) rfl (Nat.le_of_ble_eq_true rfl) (fun X C Z _ => ?_)
  refine hz_aload_n (pc := 0) C dX11_beepsNow_0 rfl ?_
  refine hz_iload_n (pc := 1) C dX11_beepsNow_1 rfl ?_
  refine hz_callVs (pc := 2) C (as := [.int (nI k)]) (st := []) (ev_silent V U (k := k) (by omega)) (hz_new0 _ _) fyX11_isSilent fvX11_169 rfl dX11_beepsNow_2 hT146 rfl rfl hA146 rfl rfl (Nat.le_of_ble_eq_true rfl) (by decide) (hz_cap0 _) ?_
  refine hz_ifb_ne (pc := 5) C (tgt := 38) dX11_beepsNow_5 rfl (fun c1 => ?_) (fun c1 => ?_)
  · refine hz_iconst (pc := 38) C (v := nI 0) dX11_beepsNow_38 (by decide +kernel) ?_
    exact hz_zret C Z rfl (by decide +kernel) dX11_beepsNow_39 (hz_b0 (by simp [sinc]; simp_all)).symm rfl
  · refine hz_aload_n (pc := 8) C dX11_beepsNow_8 rfl ?_
    refine hz_getP (pc := 9) C (v := 147) ffX11_7 dX11_beepsNow_9 hT146 hA146 rfl (hP146_0 q) (by decide) ?_
    refine hz_bipush (pc := 12) C (v := nI 65) dX11_beepsNow_12 (by decide +kernel) ?_
    refine hz_iload_n (pc := 14) C dX11_beepsNow_14 rfl ?_
    refine hz_iadd (pc := 15) C (v := nI (65 + k)) dX11_beepsNow_15 (nI_add _ _) ?_
    refine hz_iald (pc := 16) C (v := nI (u (65 + k))) (j := 65 + k) dX11_beepsNow_16 hT147 hA147 rfl (by omega) (by decide) (mg V (by omega) (by omega)) ?_
    refine hz_aload_n (pc := 17) C dX11_beepsNow_17 rfl ?_
    refine hz_getP (pc := 18) C (v := 147) ffX11_7 dX11_beepsNow_18 hT146 hA146 rfl (hP146_0 q) (by decide) ?_
    refine hz_bipush (pc := 21) C (v := nI 94) dX11_beepsNow_21 (by decide +kernel) ?_
    refine hz_iload_n (pc := 23) C dX11_beepsNow_23 rfl ?_
    refine hz_iadd (pc := 24) C (v := nI (94 + k)) dX11_beepsNow_24 (nI_add _ _) ?_
    refine hz_iald (pc := 25) C (v := nI (u (94 + k))) (j := 94 + k) dX11_beepsNow_25 hT147 hA147 rfl (by omega) (by decide) (mg V (by omega) (by omega)) ?_
    refine hz_iload_n (pc := 26) C dX11_beepsNow_26 rfl ?_
    refine hz_iload_n (pc := 27) C dX11_beepsNow_27 rfl ?_
    refine hz_callSs (pc := 28) C (as := [.int (nI (u (65 + k))), .int (nI (u (94 + k))), .int s, .int (nI c)]) (st := []) (ev_beepsBy _ (k := u (65 + k)) (by omega) (b := u (94 + k)) (c := c) (by omega) (by omega) s) (hz_new0 _ _) fyX11_beepsBy fsX11_172 rfl dX11_beepsNow_28 rfl rfl (Nat.le_of_ble_eq_true rfl) (by decide) (hz_cap0 _) ?_
    refine hz_ifb_eq (pc := 31) C (tgt := 38) dX11_beepsNow_31 rfl (fun c2 => ?_) (fun c2 => ?_)
    · refine hz_iconst (pc := 38) C (v := nI 0) dX11_beepsNow_38 (by decide +kernel) ?_
      exact hz_zret C Z rfl (by decide +kernel) dX11_beepsNow_39 (hz_b0 (by simp [sinc]; simp_all)).symm rfl
    · refine hz_iconst (pc := 34) C (v := nI 1) dX11_beepsNow_34 (by decide +kernel) ?_
      refine hz_goto (pc := 35) C (tgt := 39) dX11_beepsNow_35 rfl ?_
      exact hz_zret C Z rfl (by decide +kernel) dX11_beepsNow_39 (hz_b1 (by simp [sinc]; simp_all)).symm rfl
set_option maxHeartbeats 4000000 in
set_option maxRecDepth 100000 in
theorem ev_reachesM {I : Nat → Nat → Int32} {L : Nat → Nat → Int64} {q : Nat → Nat → Nat} {u : Nat → Nat} (V : MF I u) (U : WU u) {k : Nat} (hk : k < u 64) {r : Nat} (hr : r < 8) : hz_Ev mX11_reaches TT NN (I, L, PP q) [.ref 146, .int (nI r), .int (nI k)] 0 0 (some (.int (hz_b (rch u r k = true)))) TT NN (I, L, PP q) := by
  have hal := wu_al U
  have hkd := wu_kd U hk
  have hrm := wu_rm U hk
  have hba := wu_ba U hk
  refine hz_Ev.intro (ls := [some (.ref 146), some (.int (nI r)), some (.int (nI k)), none]) (by decide +kernel) rfl (Nat.le_of_ble_eq_true rfl) (fun X C Z _ => ?_)
  refine hz_aload_n (pc := 0) C dX11_reaches_0 rfl ?_
  refine hz_iload_n (pc := 1) C dX11_reaches_1 rfl ?_
  refine hz_aload_n (pc := 2) C dX11_reaches_2 rfl ?_
  refine hz_getP (pc := 3) C (v := 147) ffX11_7 dX11_reaches_3 hT146 hA146 rfl (hP146_0 q) (by decide) ?_
  refine hz_bipush (pc := 6) C (v := nI 71) dX11_reaches_6 (by decide +kernel) ?_
  refine hz_iload_n (pc := 8) C dX11_reaches_8 rfl ?_
  refine hz_iadd (pc := 9) C (v := nI (71 + k)) dX11_reaches_9 (nI_add _ _) ?_
  refine hz_iald (pc := 10) C (v := nI (u (71 + k))) (j := 71 + k) dX11_reaches_10 hT147 hA147 rfl (by omega) (by decide) (mg V.1 (by omega) (by omega)) ?_
  refine hz_callVs (pc := 11) C (as := [.int (nI r), .int (nI (u (71 + k)))]) (st := []) (ev_farX (a := r) (b := u (71 + k)) (by omega) (by omega) (V.2 _ _ (by omega) (by omega))) (hz_new0 _ _) fyX11_farOf fvX11_153 rfl dX11_reaches_11 hT146 rfl rfl hA146 rfl rfl (Nat.le_of_ble_eq_true rfl) (by decide) (hz_cap0 _) ?_
  refine hz_istore_n (pc := 14) C (ls' := [some (.ref 146), some (.int (nI r)), some (.int (nI k)), some (.int (fa (ds u r (u (71 + k)))))]) dX11_reaches_14 (Nat.le_of_ble_eq_true rfl) rfl ?_
  refine hz_iload_n (pc := 15) C dX11_reaches_15 rfl ?_
  refine hz_if_lt (pc := 16) C (tgt := 39) dX11_reaches_16 rfl (fun c1 => ?_) (fun c1 => ?_)
  · refine hz_iconst (pc := 39) C (v := nI 0) dX11_reaches_39 (by decide +kernel) ?_
    exact hz_zret C Z rfl (by decide +kernel) dX11_reaches_40 (hz_b0 (by have hf := ds_le U hr hrm; have h8 := (fa_neg hf).mp c1; have h7 := lo_le (u (65 + k)); simp only [rch, decide_eq_true_eq]; omega)).symm rfl
  · refine hz_aload_n (pc := 19) C dX11_reaches_19 rfl ?_
    refine hz_getP (pc := 20) C (v := 147) ffX11_7 dX11_reaches_20 hT146 hA146 rfl (hP146_0 q) (by decide) ?_
    refine hz_bipush (pc := 23) C (v := nI 65) dX11_reaches_23 (by decide +kernel) ?_
    refine hz_iload_n (pc := 25) C dX11_reaches_25 rfl ?_
    refine hz_iadd (pc := 26) C (v := nI (65 + k)) dX11_reaches_26 (nI_add _ _) ?_
    refine hz_iald (pc := 27) C (v := nI (u (65 + k))) (j := 65 + k) dX11_reaches_27 hT147 hA147 rfl (by omega) (by decide) (mg V.1 (by omega) (by omega)) ?_
    refine hz_callSs (pc := 28) C (as := [.int (nI (u (65 + k)))]) (st := []) (ev_loudM _ (k := u (65 + k)) (by omega)) (hz_new0 _ _) fyX11_loudOf fsX11_163 rfl dX11_reaches_28 rfl rfl (Nat.le_of_ble_eq_true rfl) (by decide) (hz_cap0 _) ?_
    refine hz_iload_n (pc := 31) C dX11_reaches_31 rfl ?_
    refine hz_ic_le (pc := 32) C (tgt := 39) dX11_reaches_32 rfl (fun c2 => ?_) (fun c2 => ?_)
    · refine hz_iconst (pc := 39) C (v := nI 0) dX11_reaches_39 (by decide +kernel) ?_
      exact hz_zret C Z rfl (by decide +kernel) dX11_reaches_40 (hz_b0 (by have hf := ds_le U hr hrm; have h8 := fun z => c1 ((fa_neg hf).mpr z); have h7 := lo_le (u (65 + k)); rw [fa_fin h8] at c2; have h6 := (nI_leI (by omega) (by omega)).mp c2; simp only [rch, decide_eq_true_eq]; omega)).symm rfl
    · refine hz_iconst (pc := 35) C (v := nI 1) dX11_reaches_35 (by decide +kernel) ?_
      refine hz_goto (pc := 36) C (tgt := 40) dX11_reaches_36 rfl ?_
      exact hz_zret C Z rfl (by decide +kernel) dX11_reaches_40 (hz_b1 (by have hf := ds_le U hr hrm; have h8 := fun z => c1 ((fa_neg hf).mpr z); rw [fa_fin h8] at c2; simp only [rch, decide_eq_true_eq]; exact Nat.lt_of_not_le fun z => c2 (nI_le z (by omega)))).symm rfl
set_option maxHeartbeats 4000000 in
set_option maxRecDepth 100000 in
theorem lp_hb {X : hz_X} (C : hz_C X mX11_heardBy) {I : Nat → Nat → Int32} {L : Nat → Nat → Int64} {q : Nat → Nat → Nat} {u : Nat → Nat} (V : MF I u) (U : WU u) {r : Nat} (hr : r < 8) (s : Int32) {c : Nat} (hc : c ≤ 9) (kk : hz_G X TT NN (I, L, PP q) 0 0 58 [some (.ref 146), some (.int (nI r)), some (.int s), some (.int (nI c)), some (.int (nI (bsum (fun k => sinc u k s c && rch u r k) (u 64)))), some (.int (nI (u 64)))] []) : ∀ (n i : Nat) , i + n = u 64 → hz_G X TT NN (I, L, PP q) 0 0 6 [some (.ref 146), some (.int (nI r)), some (.int s), some (.int (nI c)), some (.int (nI (bsum (fun k => sinc u k s c && rch u r k) i))), some (.int (nI i))] [] := by
  intro n
  induction n with
  | zero =>
    intro i  hi 
    obtain rfl : i = u 64 := by omega
    have hal := wu_al U
    have hco := wu_co U
    refine hz_iload (pc := 6) C dX11_heardBy_6 rfl ?_
    refine hz_aload_n (pc := 8) C dX11_heardBy_8 rfl ?_
    refine hz_getP (pc := 9) C (v := 147) ffX11_7 dX11_heardBy_9 hT146 hA146 rfl (hP146_0 q) (by decide) ?_
    refine hz_bipush (pc := 12) C (v := nI 64) dX11_heardBy_12 (by decide +kernel) ?_
    refine hz_iald (pc := 14) C (v := nI (u 64)) (j := 64) dX11_heardBy_14 hT147 hA147 rfl (by decide) (by decide) (mg V.1 (by omega) (by omega)) ?_
    refine hz_ic_ge (pc := 15) C (tgt := 58) dX11_heardBy_15 rfl (fun _ => ?_) (fun cq => absurd (nI_le (by omega) (by omega)) cq)
    exact kk
  | succ n ih =>
    intro i  hi 
    have hal := wu_al U
    have hco := wu_co U
    refine hz_iload (pc := 6) C dX11_heardBy_6 rfl ?_
    refine hz_aload_n (pc := 8) C dX11_heardBy_8 rfl ?_
    refine hz_getP (pc := 9) C (v := 147) ffX11_7 dX11_heardBy_9 hT146 hA146 rfl (hP146_0 q) (by decide) ?_
    refine hz_bipush (pc := 12) C (v := nI 64) dX11_heardBy_12 (by decide +kernel) ?_
    refine hz_iald (pc := 14) C (v := nI (u 64)) (j := 64) dX11_heardBy_14 hT147 hA147 rfl (by decide) (by decide) (mg V.1 (by omega) (by omega)) ?_
    refine hz_ic_ge (pc := 15) C (tgt := 58) dX11_heardBy_15 rfl (fun cq => absurd cq (nI_ge (by omega) (by omega))) (fun _ => ?_)
    refine hz_iload (pc := 18) C dX11_heardBy_18 rfl ?_
    refine hz_aload_n (pc := 20) C dX11_heardBy_20 rfl ?_
    refine hz_iload (pc := 21) C dX11_heardBy_21 rfl ?_
    refine hz_iload_n (pc := 23) C dX11_heardBy_23 rfl ?_
    refine hz_iload_n (pc := 24) C dX11_heardBy_24 rfl ?_
    refine hz_callVs (pc := 25) C (as := [.int (nI i), .int s, .int (nI c)]) (st := [.int (nI (bsum (fun k => sinc u k s c && rch u r k) i))]) (ev_beepsNow V.1 U (k := i) (by omega) s (c := c) (by omega)) (hz_new0 _ _) fyX11_beepsNow fvX11_176 rfl dX11_heardBy_25 hT146 rfl rfl hA146 rfl rfl (Nat.le_of_ble_eq_true rfl) (by decide) (hz_cap0 _) ?_
    refine hz_ifb_eq (pc := 28) C (tgt := 48) dX11_heardBy_28 rfl (fun c1 => ?_) (fun c1 => ?_)
    · refine hz_iconst (pc := 48) C (v := nI 0) dX11_heardBy_48 (by decide +kernel) ?_
      refine hz_ior (pc := 49) C dX11_heardBy_49 rfl ?_
      refine hz_istore (pc := 50) C (ls' := [some (.ref 146), some (.int (nI r)), some (.int s), some (.int (nI c)), some (.int ((nI (bsum (fun k => sinc u k s c && rch u r k) i)) ||| (nI 0))), some (.int (nI i))]) dX11_heardBy_50 (Nat.le_of_ble_eq_true rfl) rfl ?_
      refine hz_iinc (pc := 52) C (v := nI (i + 1)) (ls' := [some (.ref 146), some (.int (nI r)), some (.int s), some (.int (nI c)), some (.int ((nI (bsum (fun k => sinc u k s c && rch u r k) i)) ||| (nI 0))), some (.int (nI (i + 1)))]) dX11_heardBy_52 rfl (nI_add _ 1) rfl ?_
      refine hz_goto (pc := 55) C (tgt := 6) dX11_heardBy_55 rfl ?_
      rw [bor_0 (by omega)]
      have h9 := ih (i + 1) (by omega)
      rw [bsum_f (f := (fun k => sinc u k s c && rch u r k)) (n := i) (by simp [c1])] at h9
      exact h9
    · refine hz_aload_n (pc := 31) C dX11_heardBy_31 rfl ?_
      refine hz_iload_n (pc := 32) C dX11_heardBy_32 rfl ?_
      refine hz_iload (pc := 33) C dX11_heardBy_33 rfl ?_
      refine hz_callVs (pc := 35) C (as := [.int (nI r), .int (nI i)]) (st := [.int (nI (bsum (fun k => sinc u k s c && rch u r k) i))]) (ev_reachesM V U (k := i) (by omega) (r := r) (by omega)) (hz_new0 _ _) fyX11_reaches fvX11_179 rfl dX11_heardBy_35 hT146 rfl rfl hA146 rfl rfl (Nat.le_of_ble_eq_true rfl) (by decide) (hz_cap0 _) ?_
      refine hz_ifb_eq (pc := 38) C (tgt := 48) dX11_heardBy_38 rfl (fun c2 => ?_) (fun c2 => ?_)
      · refine hz_iconst (pc := 48) C (v := nI 0) dX11_heardBy_48 (by decide +kernel) ?_
        refine hz_ior (pc := 49) C dX11_heardBy_49 rfl ?_
        refine hz_istore (pc := 50) C (ls' := [some (.ref 146), some (.int (nI r)), some (.int s), some (.int (nI c)), some (.int ((nI (bsum (fun k => sinc u k s c && rch u r k) i)) ||| (nI 0))), some (.int (nI i))]) dX11_heardBy_50 (Nat.le_of_ble_eq_true rfl) rfl ?_
        refine hz_iinc (pc := 52) C (v := nI (i + 1)) (ls' := [some (.ref 146), some (.int (nI r)), some (.int s), some (.int (nI c)), some (.int ((nI (bsum (fun k => sinc u k s c && rch u r k) i)) ||| (nI 0))), some (.int (nI (i + 1)))]) dX11_heardBy_52 rfl (nI_add _ 1) rfl ?_
        refine hz_goto (pc := 55) C (tgt := 6) dX11_heardBy_55 rfl ?_
        rw [bor_0 (by omega)]
        have h9 := ih (i + 1) (by omega)
        rw [bsum_f (f := (fun k => sinc u k s c && rch u r k)) (n := i) (by simp [c2])] at h9
        exact h9
      · refine hz_iconst (pc := 41) C (v := nI 1) dX11_heardBy_41 (by decide +kernel) ?_
        refine hz_iload (pc := 42) C dX11_heardBy_42 rfl ?_
        refine hz_ishl (pc := 44) C dX11_heardBy_44 rfl ?_
        refine hz_goto (pc := 45) C (tgt := 49) dX11_heardBy_45 rfl ?_
        refine hz_ior (pc := 49) C dX11_heardBy_49 rfl ?_
        refine hz_istore (pc := 50) C (ls' := [some (.ref 146), some (.int (nI r)), some (.int s), some (.int (nI c)), some (.int ((nI (bsum (fun k => sinc u k s c && rch u r k) i)) ||| ((nI 1) <<< ((nI i) &&& 31)))), some (.int (nI i))]) dX11_heardBy_50 (Nat.le_of_ble_eq_true rfl) rfl ?_
        refine hz_iinc (pc := 52) C (v := nI (i + 1)) (ls' := [some (.ref 146), some (.int (nI r)), some (.int s), some (.int (nI c)), some (.int ((nI (bsum (fun k => sinc u k s c && rch u r k) i)) ||| ((nI 1) <<< ((nI i) &&& 31)))), some (.int (nI (i + 1)))]) dX11_heardBy_52 rfl (nI_add _ 1) rfl ?_
        refine hz_goto (pc := 55) C (tgt := 6) dX11_heardBy_55 rfl ?_
        rw [bor_add (by omega)]
        have h9 := ih (i + 1) (by omega)
        rw [bsum_t (f := (fun k => sinc u k s c && rch u r k)) (n := i) (by simp [c1, c2])] at h9
        exact h9
set_option maxHeartbeats 4000000 in
set_option maxRecDepth 100000 in
theorem ev_heardBy {I : Nat → Nat → Int32} {L : Nat → Nat → Int64} {q : Nat → Nat → Nat} {u : Nat → Nat} (V : MF I u) (U : WU u) {r : Nat} (hr : r < 8) (s : Int32) {c : Nat} (hc : c ≤ 9) : hz_Ev mX11_heardBy TT NN (I, L, PP q) [.ref 146, .int (nI r), .int s, .int (nI c)] 0 0 (some (.int (nI (bsum (fun k => sinc u k s c && rch u r k) (u 64))))) TT NN (I, L, PP q) := by
  refine hz_Ev.intro (ls := [some (.ref 146), some (.int (nI r)), some (.int s), some (.int (nI c)), none, none]) (by decide +kernel) rfl (Nat.le_of_ble_eq_true rfl) (fun X C Z _ => ?_)
  refine hz_iconst (pc := 0) C (v := nI 0) dX11_heardBy_0 (by decide +kernel) ?_
  refine hz_istore (pc := 1) C (ls' := [some (.ref 146), some (.int (nI r)), some (.int s), some (.int (nI c)), some (.int (nI 0)), none]) dX11_heardBy_1 (Nat.le_of_ble_eq_true rfl) rfl ?_
  refine hz_iconst (pc := 3) C (v := nI 0) dX11_heardBy_3 (by decide +kernel) ?_
  refine hz_istore (pc := 4) C (ls' := [some (.ref 146), some (.int (nI r)), some (.int s), some (.int (nI c)), some (.int (nI 0)), some (.int (nI 0))]) dX11_heardBy_4 (Nat.le_of_ble_eq_true rfl) rfl ?_
  refine lp_hb C V U hr s hc ?_ (u 64) 0 (by omega)
  refine hz_iload (pc := 58) C dX11_heardBy_58 rfl ?_
  exact hz_iret C Z rfl dX11_heardBy_60 rfl rfl
theorem fst_ex {u : Nat → Nat} {r p w : Nat} : ∀ {m i n : Nat}, i ≤ n → n < i + m → (¬ u (8 * r + n) = 0 ∧ u (8 * r + n) + ds u n p = w) → ¬ fst u r p w m i = 0 := by
  intro m
  induction m with
  | zero => intro i n h1 h2; omega
  | succ m ih =>
    intro i n h1 h2 h
    by_cases e : ¬ u (8 * r + i) = 0 ∧ u (8 * r + i) + ds u i p = w
    · rw [fst_t e]; omega
    · rw [fst_f e]
      have hn : n ≠ i := by intro z; subst z; exact e h
      exact ih (by omega) (by omega) h
theorem hz_dec (x : Int32) : x + (-1) = x - 1 := by rw [Int32.sub_eq_add_neg]
set_option maxHeartbeats 4000000 in
set_option maxRecDepth 100000 in
theorem lp_th {X : hz_X} (C : hz_C X mX11_throughBy) {I : Nat → Nat → Int32} {L : Nat → Nat → Int64} {q : Nat → Nat → Nat} {u : Nat → Nat} (V : MF I u) (U : WU u) {r k : Nat} (hr : r < 8) (hk : k < u 64) (hw : ds u r (u (71 + k)) < 1000) (kk : ∀ w5 w6 w7 : Option Value, hz_G X TT NN (I, L, PP q) 0 0 115 [some (.ref 146), some (.int (nI r)), some (.int (nI k)), some (.int (nI (u (71 + k)))), some (.int (nI (fst u r (u (71 + k)) (ds u r (u (71 + k))) 8 0) - 1)), w5, w6, w7] []) : ∀ (t : Nat) (w6 w7 : Option Value), t ≤ 8 → hz_G X TT NN (I, L, PP q) 0 0 35 [some (.ref 146), some (.int (nI r)), some (.int (nI k)), some (.int (nI (u (71 + k)))), some (.int (nI (fst u r (u (71 + k)) (ds u r (u (71 + k))) (8 - t) t) - 1)), some (.int (nI t - 1)), w6, w7] [] := by
  intro t
  induction t with
  | zero =>
    intro w6 w7 ht
    have hal := wu_al U
    have hrm := wu_rm U hk
    have hkd := wu_kd U hk
    refine hz_iload (pc := 35) C dX11_throughBy_35 rfl ?_
    refine hz_if_lt (pc := 37) C (tgt := 115) dX11_throughBy_37 rfl (fun _ => ?_) (fun cq => absurd (by decide +kernel) cq)
    exact kk _ _ _
  | succ m ih =>
    intro w6 w7 ht
    have hal := wu_al U
    have hrm := wu_rm U hk
    have hkd := wu_kd U hk
    have hu := wu_dr U (j := 8 * r + m) (by omega)
    have hf := ds_le U (a := m) (b := u (71 + k)) (by omega) hrm
    rw [en_m1 m]
    refine hz_iload (pc := 35) C dX11_throughBy_35 rfl ?_
    refine hz_if_lt (pc := 37) C (tgt := 115) dX11_throughBy_37 rfl (fun cq => absurd cq (nI_pos (by omega))) (fun _ => ?_)
    refine hz_aload_n (pc := 40) C dX11_throughBy_40 rfl ?_
    refine hz_getP (pc := 41) C (v := 147) ffX11_7 dX11_throughBy_41 hT146 hA146 rfl (hP146_0 q) (by decide) ?_
    refine hz_bipush (pc := 44) C (v := nI 8) dX11_throughBy_44 (by decide +kernel) ?_
    refine hz_iload_n (pc := 46) C dX11_throughBy_46 rfl ?_
    refine hz_imul (pc := 47) C (v := nI (8 * r)) dX11_throughBy_47 (pk_mul _ _) ?_
    refine hz_iload (pc := 48) C dX11_throughBy_48 rfl ?_
    refine hz_iadd (pc := 50) C (v := nI ((8 * r) + m)) dX11_throughBy_50 (nI_add _ _) ?_
    refine hz_iald (pc := 51) C (v := nI (u ((8 * r) + m))) (j := (8 * r) + m) dX11_throughBy_51 hT147 hA147 rfl (by omega) (by decide) (mg V.1 (by omega) (by omega)) ?_
    refine hz_istore (pc := 52) C (ls' := [some (.ref 146), some (.int (nI r)), some (.int (nI k)), some (.int (nI (u (71 + k)))), some (.int (nI (fst u r (u (71 + k)) (ds u r (u (71 + k))) (8 - (m + 1)) (m + 1)) - 1)), some (.int (nI m)), some (.int (nI (u ((8 * r) + m)))), w7]) dX11_throughBy_52 (Nat.le_of_ble_eq_true rfl) rfl ?_
    refine hz_iload (pc := 54) C dX11_throughBy_54 rfl ?_
    refine hz_if_le (pc := 56) C (tgt := 92) dX11_throughBy_56 rfl (fun c1 => ?_) (fun c1 => ?_)
    · refine hz_iconst (pc := 92) C (v := nI 0) dX11_throughBy_92 (by decide +kernel) ?_
      refine hz_istore (pc := 93) C (ls' := [some (.ref 146), some (.int (nI r)), some (.int (nI k)), some (.int (nI (u (71 + k)))), some (.int (nI (fst u r (u (71 + k)) (ds u r (u (71 + k))) (8 - (m + 1)) (m + 1)) - 1)), some (.int (nI m)), some (.int (nI (u ((8 * r) + m)))), some (.int (nI 0))]) dX11_throughBy_93 (Nat.le_of_ble_eq_true rfl) rfl ?_
      refine hz_iload (pc := 95) C dX11_throughBy_95 rfl ?_
      refine hz_if_eq (pc := 97) C (tgt := 105) dX11_throughBy_97 rfl (fun _ => ?_) (fun cq => absurd (by decide +kernel) cq)
      refine hz_iload (pc := 105) C dX11_throughBy_105 rfl ?_
      refine hz_istore (pc := 107) C (ls' := [some (.ref 146), some (.int (nI r)), some (.int (nI k)), some (.int (nI (u (71 + k)))), some (.int (nI (fst u r (u (71 + k)) (ds u r (u (71 + k))) (8 - (m + 1)) (m + 1)) - 1)), some (.int (nI m)), some (.int (nI (u ((8 * r) + m)))), some (.int (nI 0))]) dX11_throughBy_107 (Nat.le_of_ble_eq_true rfl) rfl ?_
      refine hz_iinc (pc := 109) C (v := (nI m) + (-1)) (ls' := [some (.ref 146), some (.int (nI r)), some (.int (nI k)), some (.int (nI (u (71 + k)))), some (.int (nI (fst u r (u (71 + k)) (ds u r (u (71 + k))) (8 - (m + 1)) (m + 1)) - 1)), some (.int ((nI m) + (-1))), some (.int (nI (u ((8 * r) + m)))), some (.int (nI 0))]) dX11_throughBy_109 rfl (rfl) rfl ?_
      refine hz_goto (pc := 112) C (tgt := 35) dX11_throughBy_112 rfl ?_
      have hz : ¬ (¬ u (8 * r + m) = 0 ∧ u (8 * r + m) + ds u m (u (71 + k)) = ds u r (u (71 + k))) := fun z => z.1 (Decidable.byContradiction fun y => nI_nle (by omega) (by omega) c1)
      have h9 := ih (some (.int (nI (u (8 * r + m))))) (some (.int (nI 0))) (by omega)
      rw [show 8 - m = (7 - m) + 1 by omega, fst_f hz] at h9
      rw [hz_dec, show 8 - (m + 1) = 7 - m by omega]
      exact h9
    · refine hz_aload_n (pc := 59) C dX11_throughBy_59 rfl ?_
      refine hz_iload (pc := 60) C dX11_throughBy_60 rfl ?_
      refine hz_iload_n (pc := 62) C dX11_throughBy_62 rfl ?_
      refine hz_callVs (pc := 63) C (as := [.int (nI m), .int (nI (u (71 + k)))]) (st := []) (ev_farX (a := m) (b := u (71 + k)) (by omega) (by omega) (V.2 _ _ (by omega) (by omega))) (hz_new0 _ _) fyX11_farOf fvX11_153 rfl dX11_throughBy_63 hT146 rfl rfl hA146 rfl rfl (Nat.le_of_ble_eq_true rfl) (by decide) (hz_cap0 _) ?_
      refine hz_if_lt (pc := 66) C (tgt := 92) dX11_throughBy_66 rfl (fun c2 => ?_) (fun c2 => ?_)
      · refine hz_iconst (pc := 92) C (v := nI 0) dX11_throughBy_92 (by decide +kernel) ?_
        refine hz_istore (pc := 93) C (ls' := [some (.ref 146), some (.int (nI r)), some (.int (nI k)), some (.int (nI (u (71 + k)))), some (.int (nI (fst u r (u (71 + k)) (ds u r (u (71 + k))) (8 - (m + 1)) (m + 1)) - 1)), some (.int (nI m)), some (.int (nI (u ((8 * r) + m)))), some (.int (nI 0))]) dX11_throughBy_93 (Nat.le_of_ble_eq_true rfl) rfl ?_
        refine hz_iload (pc := 95) C dX11_throughBy_95 rfl ?_
        refine hz_if_eq (pc := 97) C (tgt := 105) dX11_throughBy_97 rfl (fun _ => ?_) (fun cq => absurd (by decide +kernel) cq)
        refine hz_iload (pc := 105) C dX11_throughBy_105 rfl ?_
        refine hz_istore (pc := 107) C (ls' := [some (.ref 146), some (.int (nI r)), some (.int (nI k)), some (.int (nI (u (71 + k)))), some (.int (nI (fst u r (u (71 + k)) (ds u r (u (71 + k))) (8 - (m + 1)) (m + 1)) - 1)), some (.int (nI m)), some (.int (nI (u ((8 * r) + m)))), some (.int (nI 0))]) dX11_throughBy_107 (Nat.le_of_ble_eq_true rfl) rfl ?_
        refine hz_iinc (pc := 109) C (v := (nI m) + (-1)) (ls' := [some (.ref 146), some (.int (nI r)), some (.int (nI k)), some (.int (nI (u (71 + k)))), some (.int (nI (fst u r (u (71 + k)) (ds u r (u (71 + k))) (8 - (m + 1)) (m + 1)) - 1)), some (.int ((nI m) + (-1))), some (.int (nI (u ((8 * r) + m)))), some (.int (nI 0))]) dX11_throughBy_109 rfl (rfl) rfl ?_
        refine hz_goto (pc := 112) C (tgt := 35) dX11_throughBy_112 rfl ?_
        have hz : ¬ (¬ u (8 * r + m) = 0 ∧ u (8 * r + m) + ds u m (u (71 + k)) = ds u r (u (71 + k))) := fun z => by have h8 := (fa_neg hf).mp c2; have h7 := z.2; omega
        have h9 := ih (some (.int (nI (u (8 * r + m))))) (some (.int (nI 0))) (by omega)
        rw [show 8 - m = (7 - m) + 1 by omega, fst_f hz] at h9
        rw [hz_dec, show 8 - (m + 1) = 7 - m by omega]
        exact h9
      · refine hz_iload (pc := 69) C dX11_throughBy_69 rfl ?_
        refine hz_aload_n (pc := 71) C dX11_throughBy_71 rfl ?_
        refine hz_iload (pc := 72) C dX11_throughBy_72 rfl ?_
        refine hz_iload_n (pc := 74) C dX11_throughBy_74 rfl ?_
        refine hz_callVs (pc := 75) C (as := [.int (nI m), .int (nI (u (71 + k)))]) (st := [.int (nI (u ((8 * r) + m)))]) (ev_farX (a := m) (b := u (71 + k)) (by omega) (by omega) (V.2 _ _ (by omega) (by omega))) (hz_new0 _ _) fyX11_farOf fvX11_153 rfl dX11_throughBy_75 hT146 rfl rfl hA146 rfl rfl (Nat.le_of_ble_eq_true rfl) (by decide) (hz_cap0 _) ?_
        refine hz_iadd (pc := 78) C dX11_throughBy_78 rfl ?_
        refine hz_aload_n (pc := 79) C dX11_throughBy_79 rfl ?_
        refine hz_iload_n (pc := 80) C dX11_throughBy_80 rfl ?_
        refine hz_iload_n (pc := 81) C dX11_throughBy_81 rfl ?_
        refine hz_callVs (pc := 82) C (as := [.int (nI r), .int (nI (u (71 + k)))]) (st := [.int ((nI (u ((8 * r) + m))) + (fa (ds u m (u (71 + k)))))]) (ev_farX (a := r) (b := u (71 + k)) (by omega) (by omega) (V.2 _ _ (by omega) (by omega))) (hz_new0 _ _) fyX11_farOf fvX11_153 rfl dX11_throughBy_82 hT146 rfl rfl hA146 rfl rfl (Nat.le_of_ble_eq_true rfl) (by decide) (hz_cap0 _) ?_
        refine hz_ic_ne (pc := 85) C (tgt := 92) dX11_throughBy_85 rfl (fun c3 => ?_) (fun c3 => ?_)
        · refine hz_iconst (pc := 92) C (v := nI 0) dX11_throughBy_92 (by decide +kernel) ?_
          refine hz_istore (pc := 93) C (ls' := [some (.ref 146), some (.int (nI r)), some (.int (nI k)), some (.int (nI (u (71 + k)))), some (.int (nI (fst u r (u (71 + k)) (ds u r (u (71 + k))) (8 - (m + 1)) (m + 1)) - 1)), some (.int (nI m)), some (.int (nI (u ((8 * r) + m)))), some (.int (nI 0))]) dX11_throughBy_93 (Nat.le_of_ble_eq_true rfl) rfl ?_
          refine hz_iload (pc := 95) C dX11_throughBy_95 rfl ?_
          refine hz_if_eq (pc := 97) C (tgt := 105) dX11_throughBy_97 rfl (fun _ => ?_) (fun cq => absurd (by decide +kernel) cq)
          refine hz_iload (pc := 105) C dX11_throughBy_105 rfl ?_
          refine hz_istore (pc := 107) C (ls' := [some (.ref 146), some (.int (nI r)), some (.int (nI k)), some (.int (nI (u (71 + k)))), some (.int (nI (fst u r (u (71 + k)) (ds u r (u (71 + k))) (8 - (m + 1)) (m + 1)) - 1)), some (.int (nI m)), some (.int (nI (u ((8 * r) + m)))), some (.int (nI 0))]) dX11_throughBy_107 (Nat.le_of_ble_eq_true rfl) rfl ?_
          refine hz_iinc (pc := 109) C (v := (nI m) + (-1)) (ls' := [some (.ref 146), some (.int (nI r)), some (.int (nI k)), some (.int (nI (u (71 + k)))), some (.int (nI (fst u r (u (71 + k)) (ds u r (u (71 + k))) (8 - (m + 1)) (m + 1)) - 1)), some (.int ((nI m) + (-1))), some (.int (nI (u ((8 * r) + m)))), some (.int (nI 0))]) dX11_throughBy_109 rfl (rfl) rfl ?_
          refine hz_goto (pc := 112) C (tgt := 35) dX11_throughBy_112 rfl ?_
          have hz : ¬ (¬ u (8 * r + m) = 0 ∧ u (8 * r + m) + ds u m (u (71 + k)) = ds u r (u (71 + k))) := fun z => c3 (by rw [fa_fin (x := ds u m (u (71 + k))) (fun y => c2 ((fa_neg hf).mpr y)), fa_fin (x := ds u r (u (71 + k))) (by omega), nI_add, z.2])
          have h9 := ih (some (.int (nI (u (8 * r + m))))) (some (.int (nI 0))) (by omega)
          rw [show 8 - m = (7 - m) + 1 by omega, fst_f hz] at h9
          rw [hz_dec, show 8 - (m + 1) = 7 - m by omega]
          exact h9
        · refine hz_iconst (pc := 88) C (v := nI 1) dX11_throughBy_88 (by decide +kernel) ?_
          refine hz_goto (pc := 89) C (tgt := 93) dX11_throughBy_89 rfl ?_
          refine hz_istore (pc := 93) C (ls' := [some (.ref 146), some (.int (nI r)), some (.int (nI k)), some (.int (nI (u (71 + k)))), some (.int (nI (fst u r (u (71 + k)) (ds u r (u (71 + k))) (8 - (m + 1)) (m + 1)) - 1)), some (.int (nI m)), some (.int (nI (u ((8 * r) + m)))), some (.int (nI 1))]) dX11_throughBy_93 (Nat.le_of_ble_eq_true rfl) rfl ?_
          refine hz_iload (pc := 95) C dX11_throughBy_95 rfl ?_
          refine hz_if_eq (pc := 97) C (tgt := 105) dX11_throughBy_97 rfl (fun cq => absurd cq (by decide +kernel)) (fun _ => ?_)
          refine hz_iload (pc := 100) C dX11_throughBy_100 rfl ?_
          refine hz_goto (pc := 102) C (tgt := 107) dX11_throughBy_102 rfl ?_
          refine hz_istore (pc := 107) C (ls' := [some (.ref 146), some (.int (nI r)), some (.int (nI k)), some (.int (nI (u (71 + k)))), some (.int (nI m)), some (.int (nI m)), some (.int (nI (u ((8 * r) + m)))), some (.int (nI 1))]) dX11_throughBy_107 (Nat.le_of_ble_eq_true rfl) rfl ?_
          refine hz_iinc (pc := 109) C (v := (nI m) + (-1)) (ls' := [some (.ref 146), some (.int (nI r)), some (.int (nI k)), some (.int (nI (u (71 + k)))), some (.int (nI m)), some (.int ((nI m) + (-1))), some (.int (nI (u ((8 * r) + m)))), some (.int (nI 1))]) dX11_throughBy_109 rfl (rfl) rfl ?_
          refine hz_goto (pc := 112) C (tgt := 35) dX11_throughBy_112 rfl ?_
          have e1 : ¬ 1000 ≤ ds u m (u (71 + k)) := fun y => c2 ((fa_neg hf).mpr y)
          rw [fa_fin e1, fa_fin (x := ds u r (u (71 + k))) (by omega), nI_add] at c3
          have hz : ¬ u (8 * r + m) = 0 ∧ u (8 * r + m) + ds u m (u (71 + k)) = ds u r (u (71 + k)) := ⟨fun z => c1 (by rw [z]; decide +kernel), (nI_eq (by omega) (by omega)).mp c3⟩
          have h9 := ih (some (.int (nI (u (8 * r + m))))) (some (.int (nI 1))) (by omega)
          rw [show 8 - m = (7 - m) + 1 by omega, fst_t hz, en_m1] at h9
          rw [hz_dec]
          exact h9
set_option maxHeartbeats 4000000 in
set_option maxRecDepth 100000 in
theorem ev_throughBy {I : Nat → Nat → Int32} {L : Nat → Nat → Int64} {q : Nat → Nat → Nat} {u : Nat → Nat} (V : MF I u) (U : WU u) {r k : Nat} (hr : r < 8) (hk : k < u 64) : hz_Ev mX11_throughBy TT NN (I, L, PP q) [.ref 146, .int (nI r), .int (nI k)] 0 0 (some (.int (nI (en u r k) - 1))) TT NN (I, L, PP q) := by
  have hal := wu_al U
  have hrm := wu_rm U hk
  have hkd := wu_kd U hk
  have hlo := lo_le (u (65 + k))
  refine hz_Ev.intro (ls := [some (.ref 146), some (.int (nI r)), some (.int (nI k)), none, none, none, none, none]) (by decide +kernel) rfl (Nat.le_of_ble_eq_true rfl) (fun X C Z _ => ?_)
  refine hz_aload_n (pc := 0) C dX11_throughBy_0 rfl ?_
  refine hz_getP (pc := 1) C (v := 147) ffX11_7 dX11_throughBy_1 hT146 hA146 rfl (hP146_0 q) (by decide) ?_
  refine hz_bipush (pc := 4) C (v := nI 71) dX11_throughBy_4 (by decide +kernel) ?_
  refine hz_iload_n (pc := 6) C dX11_throughBy_6 rfl ?_
  refine hz_iadd (pc := 7) C (v := nI (71 + k)) dX11_throughBy_7 (nI_add _ _) ?_
  refine hz_iald (pc := 8) C (v := nI (u (71 + k))) (j := 71 + k) dX11_throughBy_8 hT147 hA147 rfl (by omega) (by decide) (mg V.1 (by omega) (by omega)) ?_
  refine hz_istore_n (pc := 9) C (ls' := [some (.ref 146), some (.int (nI r)), some (.int (nI k)), some (.int (nI (u (71 + k)))), none, none, none, none]) dX11_throughBy_9 (Nat.le_of_ble_eq_true rfl) rfl ?_
  refine hz_aload_n (pc := 10) C dX11_throughBy_10 rfl ?_
  refine hz_iload_n (pc := 11) C dX11_throughBy_11 rfl ?_
  refine hz_iload_n (pc := 12) C dX11_throughBy_12 rfl ?_
  refine hz_callVs (pc := 13) C (as := [.int (nI r), .int (nI k)]) (st := []) (ev_reachesM V U (k := k) (by omega) (r := r) (by omega)) (hz_new0 _ _) fyX11_reaches fvX11_179 rfl dX11_throughBy_13 hT146 rfl rfl hA146 rfl rfl (Nat.le_of_ble_eq_true rfl) (by decide) (hz_cap0 _) ?_
  refine hz_ifb_ne (pc := 16) C (tgt := 21) dX11_throughBy_16 rfl (fun c1 => ?_) (fun c1 => ?_)
  · refine hz_iload_n (pc := 21) C dX11_throughBy_21 rfl ?_
    refine hz_iload_n (pc := 22) C dX11_throughBy_22 rfl ?_
    refine hz_ic_ne (pc := 23) C (tgt := 28) dX11_throughBy_23 rfl (fun c2 => ?_) (fun c2 => ?_)
    · refine hz_iconst (pc := 28) C (v := (-1 : Int32)) dX11_throughBy_28 (by decide +kernel) ?_
      refine hz_istore (pc := 29) C (ls' := [some (.ref 146), some (.int (nI r)), some (.int (nI k)), some (.int (nI (u (71 + k)))), some (.int (-1 : Int32)), none, none, none]) dX11_throughBy_29 (Nat.le_of_ble_eq_true rfl) rfl ?_
      refine hz_bipush (pc := 31) C (v := nI 7) dX11_throughBy_31 (by decide +kernel) ?_
      refine hz_istore (pc := 33) C (ls' := [some (.ref 146), some (.int (nI r)), some (.int (nI k)), some (.int (nI (u (71 + k)))), some (.int (-1 : Int32)), some (.int (nI 7)), none, none]) dX11_throughBy_33 (Nat.le_of_ble_eq_true rfl) rfl ?_
      have hh : ¬ lo_of (u (65 + k)) ≤ ds u r (u (71 + k)) := by have h8 := c1; simp only [rch, decide_eq_true_eq] at h8; omega
      have hne : ¬ u (71 + k) = r := fun z => c2 (by rw [z])
      have hw0 : ¬ ds u r (u (71 + k)) = 0 := fun z => hne ((ds_0 U hr hrm).mp z).symm
      obtain ⟨n9, g1, g2, g3⟩ := ds_step U hr hrm (fun z => hne z.symm) (by omega)
      have hfs : ¬ fst u r (u (71 + k)) (ds u r (u (71 + k))) 8 0 = 0 := fst_ex (Nat.zero_le n9) (by omega) ⟨g2, g3⟩
      rw [show en u r k = fst u r (u (71 + k)) (ds u r (u (71 + k))) 8 0 from (if_neg hh).trans ((if_neg hw0).trans (if_neg hfs))] at Z
      refine lp_th C V U hr hk (by omega) (fun w5 w6 w7 => ?_) 8 _ _ (Nat.le_refl 8)
      refine hz_iload (pc := 115) C dX11_throughBy_115 rfl ?_
      exact hz_iret C Z rfl dX11_throughBy_117 rfl rfl
    · refine hz_iload_n (pc := 26) C dX11_throughBy_26 rfl ?_
      exact hz_iret C Z rfl dX11_throughBy_27 (by have h8 := c1; simp only [rch, decide_eq_true_eq] at h8; have h7 := (nI_eq (by omega) (by omega)).mp c2; rw [show en u r k = r + 1 from (if_neg (by omega)).trans (if_pos ((ds_0 U hr hrm).mpr h7.symm)), en_m1]) rfl
  · refine hz_iconst (pc := 19) C (v := (-1 : Int32)) dX11_throughBy_19 (by decide +kernel) ?_
    exact hz_iret C Z rfl dX11_throughBy_20 (by have h8 := c1; simp only [rch, decide_eq_true_eq] at h8; rw [show en u r k = 0 from if_pos (by omega)]; decide +kernel) rfl

set_option maxHeartbeats 4000000 in
set_option maxRecDepth 100000 in
theorem ev_iX10  : hz_Ev mX10_init TT 1 (zI, zL, PQ 0) [.ref 1] 144 1894 none TT 145 (zI112, hz_up (hz_up zL 1 6 0) 1 7 1, PQ 144) := by
  refine hz_Ev.intro (ls := [some (.ref 1)]) (by decide +kernel) rfl (Nat.le_of_ble_eq_true rfl) (fun X C Z hN => ?_)
  refine hz_aload_n (pc := 0) C dX10_init_0 rfl ?_
  refine hz_objInit (pc := 1) C foX10_1 dX10_init_1 rfl (Nat.le_of_ble_eq_true rfl) (by decide) ?_
  refine hz_aload_n (pc := 4) C dX10_init_4 rfl ?_
  refine hz_newO (pc := 5) C (n1 := 2) (kc' := 1) (ks' := 6) rfl fnX10_7 dX10_init_5 hT2 ⟨zI_o 2 (by decide), (fun _ => rfl), PQ_bl 0 2 (by decide +kernel)⟩ (hN.sub (by decide) (by decide)) rfl rfl (hz_capZ Z (by decide) (by decide)) ?_
  refine hz_dup (pc := 8) C dX10_init_8 rfl ?_
  refine hz_callINm (pc := 9) C (as := []) (st := [.ref 2, .ref 1]) (kc' := 2) (ks' := 156) (ev_iX8 (fun a h k => rfl) (fun a h k => rfl)) (hN.sub (by decide) (by decide)) fyX8_init fiX10_9 rfl dX10_init_9 rfl rfl (Nat.le_of_ble_eq_true rfl) (by decide) rfl rfl (hz_capZ Z (by decide) (by decide)) ?_
  refine hz_putPF (pc := 12) C (M' := (zI, zL, PQ 2)) ffX10_10 dX10_init_12 hT1 (by decide) rfl rfl rfl (fun _ h => by cases h; rfl) (fun _ => ⟨rfl, rfl⟩) (by decide) (PQ_s (j := 1) rfl) ?_
  refine hz_aload_n (pc := 15) C dX10_init_15 rfl ?_
  refine hz_newO (pc := 16) C (n1 := 4) (kc' := 3) (ks' := 164) rfl fnX10_16 dX10_init_16 hT4 ⟨zI_o 4 (by decide), (fun _ => rfl), PQ_bl 2 4 (by decide +kernel)⟩ (hN.sub (by decide) (by decide)) rfl rfl (hz_capZ Z (by decide) (by decide)) ?_
  refine hz_dup (pc := 19) C dX10_init_19 rfl ?_
  refine hz_callINm (pc := 20) C (as := []) (st := [.ref 4, .ref 1]) (kc' := 10) (ks' := 778) (ev_iX7 (fun a h k => rfl) (fun a h k => rfl)) (hN.sub (by decide) (by decide)) fyX7_init fiX10_18 rfl dX10_init_20 rfl rfl (Nat.le_of_ble_eq_true rfl) (by decide) rfl rfl (hz_capZ Z (by decide) (by decide)) ?_
  refine hz_putPF (pc := 23) C (M' := (zI, zL, PQ 10)) ffX10_19 dX10_init_23 hT1 (by decide) rfl rfl rfl (fun _ h => by cases h; rfl) (fun _ => ⟨rfl, rfl⟩) (by decide) (PQ_s (j := 9) rfl) ?_
  refine hz_aload_n (pc := 26) C dX10_init_26 rfl ?_
  refine hz_newO (pc := 27) C (n1 := 12) (kc' := 11) (ks' := 791) rfl fnX10_23 dX10_init_27 hT12 ⟨zI_o 12 (by decide), (fun _ => rfl), PQ_bl 10 12 (by decide +kernel)⟩ (hN.sub (by decide) (by decide)) rfl rfl (hz_capZ Z (by decide) (by decide)) ?_
  refine hz_dup (pc := 30) C dX10_init_30 rfl ?_
  refine hz_callIm (pc := 31) C (as := []) (st := [.ref 12, .ref 1]) (kc' := 43) (ks' := 1056) (ev_iX2_12 (fun a h k => zI_o a (by omega) k) (fun a h k => rfl)) (hN.sub (by decide) (by decide)) fyX2_init fiX10_25 rfl dX10_init_31 rfl rfl (Nat.le_of_ble_eq_true rfl) (by decide) rfl rfl (hz_capZ Z (by decide) (by decide)) ?_
  refine hz_putP (pc := 34) C (M' := (zI12, zL, PQ 43)) ffX10_26 dX10_init_34 hT1 (by decide) rfl rfl (fun _ => ⟨rfl, rfl⟩) (by decide) (PQ_s (j := 42) rfl) ?_
  refine hz_aload_n (pc := 37) C dX10_init_37 rfl ?_
  refine hz_newO (pc := 38) C (n1 := 45) (kc' := 44) (ks' := 1069) rfl fnX10_23 dX10_init_38 hT45 ⟨zI12_o 45 (by decide), (fun _ => rfl), PQ_bl 43 45 (by decide +kernel)⟩ (hN.sub (by decide) (by decide)) rfl rfl (hz_capZ Z (by decide) (by decide)) ?_
  refine hz_dup (pc := 41) C dX10_init_41 rfl ?_
  refine hz_callIm (pc := 42) C (as := []) (st := [.ref 45, .ref 1]) (kc' := 76) (ks' := 1334) (ev_iX2_45 (fun a h k => zI12_o a (by omega) k) (fun a h k => rfl)) (hN.sub (by decide) (by decide)) fyX2_init fiX10_25 rfl dX10_init_42 rfl rfl (Nat.le_of_ble_eq_true rfl) (by decide) rfl rfl (hz_capZ Z (by decide) (by decide)) ?_
  refine hz_putP (pc := 45) C (M' := (zI45, zL, PQ 76)) ffX10_30 dX10_init_45 hT1 (by decide) rfl rfl (fun _ => ⟨rfl, rfl⟩) (by decide) (PQ_s (j := 75) rfl) ?_
  refine hz_aload_n (pc := 48) C dX10_init_48 rfl ?_
  refine hz_iconst (pc := 49) C (v := nI 2) dX10_init_49 (by decide +kernel) ?_
  refine hz_newQ (pc := 50) C (n1 := 78) (E := RX2) (c := 15) (kc' := 77) (ks' := 1336) rfl dX10_init_50 (hz_mp 145 (by decide +kernel)) (hz_mn 288 (by decide +kernel)) (fun _ => rfl) (by decide) hT78 rfl (by decide) ⟨zI45_o 78 (by decide), (fun _ => rfl), PQ_bl 76 78 (by decide +kernel)⟩ (hN.sub (by decide) (by decide)) rfl rfl (hz_capZ Z (by decide) (by decide)) ?_
  refine hz_dup (pc := 53) C dX10_init_53 rfl ?_
  refine hz_iconst (pc := 54) C (v := nI 0) dX10_init_54 (by decide +kernel) ?_
  refine hz_newO (pc := 55) C (n1 := 79) (kc' := 78) (ks' := 1349) rfl fnX10_23 dX10_init_55 hT79 ⟨zI45_o 79 (by decide), (fun _ => rfl), PQ_bl 76 79 (by decide +kernel)⟩ (hN.sub (by decide) (by decide)) rfl rfl (hz_capZ Z (by decide) (by decide)) ?_
  refine hz_dup (pc := 58) C dX10_init_58 rfl ?_
  refine hz_callIm (pc := 59) C (as := []) (st := [.ref 79, .int (nI 0), .ref 78, .ref 78, .ref 1]) (kc' := 110) (ks' := 1614) (ev_iX2_79 (fun a h k => zI45_o a (by omega) k) (fun a h k => rfl)) (hN.sub (by decide) (by decide)) fyX2_init fiX10_25 rfl dX10_init_59 rfl rfl (Nat.le_of_ble_eq_true rfl) (by decide) rfl rfl (hz_capZ Z (by decide) (by decide)) ?_
  refine hz_aastG (pc := 62) C (c := 15) (cv := 2) (E := RX2) (j := 0) (M' := (zI79, zL, PQ 109)) (fun _ => rfl) (by decide) rfl (Or.inl rfl) dX10_init_62 hT78 (by decide) hT79 (by decide) rfl (by decide) (by decide) (PQ_s (j := 108) rfl) ?_
  refine hz_dup (pc := 63) C dX10_init_63 rfl ?_
  refine hz_iconst (pc := 64) C (v := nI 1) dX10_init_64 (by decide +kernel) ?_
  refine hz_newO (pc := 65) C (n1 := 112) (kc' := 111) (ks' := 1627) rfl fnX10_23 dX10_init_65 hT112 ⟨zI79_o 112 (by decide), (fun _ => rfl), PQ_bl 109 112 (by decide +kernel)⟩ (hN.sub (by decide) (by decide)) rfl rfl (hz_capZ Z (by decide) (by decide)) ?_
  refine hz_dup (pc := 68) C dX10_init_68 rfl ?_
  refine hz_callIm (pc := 69) C (as := []) (st := [.ref 112, .int (nI 1), .ref 78, .ref 78, .ref 1]) (kc' := 143) (ks' := 1892) (ev_iX2_112 (fun a h k => zI79_o a (by omega) k) (fun a h k => rfl)) (hN.sub (by decide) (by decide)) fyX2_init fiX10_25 rfl dX10_init_69 rfl rfl (Nat.le_of_ble_eq_true rfl) (by decide) rfl rfl (hz_capZ Z (by decide) (by decide)) ?_
  refine hz_aastG (pc := 72) C (c := 15) (cv := 2) (E := RX2) (j := 1) (M' := (zI112, zL, PQ 142)) (fun _ => rfl) (by decide) rfl (Or.inl rfl) dX10_init_72 hT78 (by decide) hT112 (by decide) rfl (by decide) (by decide) (PQ_s (j := 141) rfl) ?_
  refine hz_putPF (pc := 73) C (M' := (zI112, zL, PQ 143)) ffX10_33 dX10_init_73 hT1 (by decide) rfl rfl rfl (fun _ h => by cases h; rfl) (fun _ => ⟨rfl, rfl⟩) (by decide) (PQ_s (j := 142) rfl) ?_
  refine hz_aload_n (pc := 76) C dX10_init_76 rfl ?_
  refine hz_iconst (pc := 77) C (v := nI 2) dX10_init_77 (by decide +kernel) ?_
  refine hz_newA (pc := 78) C (n1 := 145) (ty := .boolean) (c := 14) (kc' := 144) (ks' := 1894) rfl dX10_init_78 rfl (hz_mp 323 (by decide +kernel)) (fun _ => rfl) (fun _ _ h => h) rfl ⟨by decide, by decide⟩ hT145 rfl (by decide) (by decide +kernel) ⟨zI112_o 145 (by decide), (fun _ => rfl), PQ_bl 143 145 (by decide +kernel)⟩ (hN.sub (by decide) (by decide)) rfl rfl (hz_capZ Z (by decide) (by decide)) ?_
  refine hz_putPF (pc := 80) C (M' := (zI112, zL, PQ 144)) ffX10_37 dX10_init_80 hT1 (by decide) rfl rfl rfl (fun _ h => by cases h; rfl) (fun _ => ⟨rfl, rfl⟩) (by decide) (PQ_s (j := 143) rfl) ?_
  refine hz_aload_n (pc := 83) C dX10_init_83 rfl ?_
  refine hz_lconst (pc := 84) C (v := 0) dX10_init_84 (by decide +kernel) ?_
  refine hz_putL (pc := 85) C (M' := (zI112, hz_up zL 1 6 (0 : Int64), PQ 144)) ffX10_41 dX10_init_85 hT1 (by decide) rfl rfl (fun _ => ⟨rfl, rfl⟩) rfl ?_
  refine hz_aload_n (pc := 88) C dX10_init_88 rfl ?_
  refine hz_lconst (pc := 89) C (v := 1) dX10_init_89 (by decide +kernel) ?_
  refine hz_putL (pc := 90) C (M' := (zI112, hz_up (hz_up zL 1 6 (0 : Int64)) 1 7 (1 : Int64), PQ 144)) ffX10_45 dX10_init_90 hT1 (by decide) rfl rfl (fun _ => ⟨rfl, rfl⟩) rfl ?_
  exact hz_vret C Z rfl dX10_init_93 rfl
/-- the order of the moments at the start -/
def q0 : Nat → Nat → Nat := PQ 155
theorem PQ_tab : ((List.range 158).all fun a => (List.range 21).all fun k => PQ 155 a k == (PPt.getD a []).getD k 0 || a == 21 || a == 54 || a == 88 || a == 121) = true := by decide +kernel
theorem PQ_hi : (pst.all fun z => decide (z.1 < 158) && decide (z.2.1 < 21)) = true := by decide +kernel
theorem PPt_hi : (PPt.all fun l => decide (l.length ≤ 21)) = true := by decide +kernel
theorem PQ_all : pst.take 155 = pst := by decide +kernel
theorem PQ_end : PQ 155 = PP q0 := by
  funext a k
  unfold PP
  by_cases h : a = 21 ∨ a = 54 ∨ a = 88 ∨ a = 121
  · rw [if_pos h]; rfl
  · rw [if_neg h]
    show PQ 155 a k = (PPt.getD a []).getD k 0
    by_cases h2 : a < 158 ∧ k < 21
    · have h3 := List.all_eq_true.mp (List.all_eq_true.mp PQ_tab a (List.mem_range.mpr h2.1)) k (List.mem_range.mpr h2.2)
      simp only [Bool.or_eq_true, beq_iff_eq] at h3
      rcases h3 with (((h3 | h3) | h3) | h3) | h3
      · exact h3
      · exact absurd (Or.inl h3) h
      · exact absurd (Or.inr (Or.inl h3)) h
      · exact absurd (Or.inr (Or.inr (Or.inl h3))) h
      · exact absurd (Or.inr (Or.inr (Or.inr h3))) h
    · have e1 : PQ 155 a k = 0 := by
        unfold PQ
        rw [PQ_all, fold_o]
        refine List.all_eq_true.mpr fun z hz => ?_
        have h4 := List.all_eq_true.mp PQ_hi z hz
        simp only [Bool.and_eq_true, decide_eq_true_eq] at h4
        simp only [Bool.or_eq_true, bne_iff_ne, ne_eq]
        omega
      rw [e1]
      by_cases h5 : a < 158
      · have hl : (PPt.getD a []).length ≤ 21 := by
          rw [List.getD_eq_getElem?_getD]
          have h6 : a < PPt.length := by rw [show PPt.length = 158 by decide +kernel]; exact h5
          rw [List.getElem?_eq_getElem h6]
          have h7 := List.all_eq_true.mp PPt_hi _ (List.getElem_mem h6)
          simpa using h7
        rw [gD0 (by omega)]
      · rw [gD0 (l := PPt) (show PPt.length ≤ a by rw [show PPt.length = 158 by decide +kernel]; omega)]
        rfl
set_option maxHeartbeats 4000000 in
set_option maxRecDepth 100000 in
theorem ev_iX11 {I : Nat → Nat → Int32} {L : Nat → Nat → Int64} (hI : ∀ a, 146 < a → ∀ k, I a k = 0) (hL : ∀ a, 146 < a → ∀ k, L a k = 0) : hz_Ev mX11_init TT 146 (I, L, PQ 144) [.ref 146] 11 1083 none TT 157 (hz_sa I 147 (bg (I 147)), hz_up L 146 6 1, PP q0) := by
  refine hz_Ev.intro (ls := [some (.ref 146)]) (by decide +kernel) rfl (Nat.le_of_ble_eq_true rfl) (fun X C Z hN => ?_)
  refine hz_aload_n (pc := 0) C dX11_init_0 rfl ?_
  refine hz_objInit (pc := 1) C foX11_1 dX11_init_1 rfl (Nat.le_of_ble_eq_true rfl) (by decide) ?_
  refine hz_aload_n (pc := 4) C dX11_init_4 rfl ?_
  refine hz_sipush (pc := 5) C (v := nI 181) dX11_init_5 (by decide +kernel) ?_
  refine hz_newA (pc := 8) C (n1 := 147) (ty := .int) (c := 13) (kc' := 1) (ks' := 181) rfl dX11_init_8 rfl (hz_mp 144 (by decide +kernel)) (fun _ => rfl) (fun _ _ h => h) rfl ⟨by decide, by decide⟩ hT147 rfl (by decide) (by decide +kernel) ⟨hI 147 (by decide), hL 147 (by decide), PQ_bl 144 147 (by decide +kernel)⟩ (hN.sub (by decide) (by decide)) rfl rfl (hz_capZ Z (by decide) (by decide)) ?_
  refine hz_putPF (pc := 10) C (M' := (I, L, PQ 145)) ffX11_7 dX11_init_10 hT146 (by decide) rfl rfl rfl (fun _ h => by cases h; rfl) (fun _ => ⟨rfl, rfl⟩) (by decide) (PQ_s (j := 144) rfl) ?_
  refine hz_aload_n (pc := 13) C dX11_init_13 rfl ?_
  refine hz_sipush (pc := 14) C (v := nI 181) dX11_init_14 (by decide +kernel) ?_
  refine hz_newA (pc := 17) C (n1 := 148) (ty := .int) (c := 13) (kc' := 2) (ks' := 362) rfl dX11_init_17 rfl (hz_mp 144 (by decide +kernel)) (fun _ => rfl) (fun _ _ h => h) rfl ⟨by decide, by decide⟩ hT148 rfl (by decide) (by decide +kernel) ⟨hI 148 (by decide), hL 148 (by decide), PQ_bl 145 148 (by decide +kernel)⟩ (hN.sub (by decide) (by decide)) rfl rfl (hz_capZ Z (by decide) (by decide)) ?_
  refine hz_putPF (pc := 19) C (M' := (I, L, PQ 146)) ffX11_13 dX11_init_19 hT146 (by decide) rfl rfl rfl (fun _ h => by cases h; rfl) (fun _ => ⟨rfl, rfl⟩) (by decide) (PQ_s (j := 145) rfl) ?_
  refine hz_aload_n (pc := 22) C dX11_init_22 rfl ?_
  refine hz_sipush (pc := 23) C (v := nI 362) dX11_init_23 (by decide +kernel) ?_
  refine hz_newA (pc := 26) C (n1 := 149) (ty := .int) (c := 13) (kc' := 3) (ks' := 724) rfl dX11_init_26 rfl (hz_mp 144 (by decide +kernel)) (fun _ => rfl) (fun _ _ h => h) rfl ⟨by decide, by decide⟩ hT149 rfl (by decide) (by decide +kernel) ⟨hI 149 (by decide), hL 149 (by decide), PQ_bl 146 149 (by decide +kernel)⟩ (hN.sub (by decide) (by decide)) rfl rfl (hz_capZ Z (by decide) (by decide)) ?_
  refine hz_putPF (pc := 28) C (M' := (I, L, PQ 147)) ffX11_16 dX11_init_28 hT146 (by decide) rfl rfl rfl (fun _ h => by cases h; rfl) (fun _ => ⟨rfl, rfl⟩) (by decide) (PQ_s (j := 146) rfl) ?_
  refine hz_aload_n (pc := 31) C dX11_init_31 rfl ?_
  refine hz_iconst (pc := 32) C (v := nI 2) dX11_init_32 (by decide +kernel) ?_
  refine hz_newA (pc := 33) C (n1 := 150) (ty := .boolean) (c := 14) (kc' := 4) (ks' := 726) rfl dX11_init_33 rfl (hz_mp 323 (by decide +kernel)) (fun _ => rfl) (fun _ _ h => h) rfl ⟨by decide, by decide⟩ hT150 rfl (by decide) (by decide +kernel) ⟨hI 150 (by decide), hL 150 (by decide), PQ_bl 147 150 (by decide +kernel)⟩ (hN.sub (by decide) (by decide)) rfl rfl (hz_capZ Z (by decide) (by decide)) ?_
  refine hz_putPF (pc := 35) C (M' := (I, L, PQ 148)) ffX11_19 dX11_init_35 hT146 (by decide) rfl rfl rfl (fun _ h => by cases h; rfl) (fun _ => ⟨rfl, rfl⟩) (by decide) (PQ_s (j := 147) rfl) ?_
  refine hz_aload_n (pc := 38) C dX11_init_38 rfl ?_
  refine hz_iconst (pc := 39) C (v := nI 3) dX11_init_39 (by decide +kernel) ?_
  refine hz_newA (pc := 40) C (n1 := 151) (ty := .int) (c := 13) (kc' := 5) (ks' := 729) rfl dX11_init_40 rfl (hz_mp 144 (by decide +kernel)) (fun _ => rfl) (fun _ _ h => h) rfl ⟨by decide, by decide⟩ hT151 rfl (by decide) (by decide +kernel) ⟨hI 151 (by decide), hL 151 (by decide), PQ_bl 148 151 (by decide +kernel)⟩ (hN.sub (by decide) (by decide)) rfl rfl (hz_capZ Z (by decide) (by decide)) ?_
  refine hz_putPF (pc := 42) C (M' := (I, L, PQ 149)) ffX11_23 dX11_init_42 hT146 (by decide) rfl rfl rfl (fun _ h => by cases h; rfl) (fun _ => ⟨rfl, rfl⟩) (by decide) (PQ_s (j := 148) rfl) ?_
  refine hz_aload_n (pc := 45) C dX11_init_45 rfl ?_
  refine hz_lconst (pc := 46) C (v := 1) dX11_init_46 (by decide +kernel) ?_
  refine hz_putL (pc := 47) C (M' := (I, hz_up L 146 6 1, PQ 149)) ffX11_26 dX11_init_47 hT146 (by decide) rfl rfl (fun _ => ⟨rfl, rfl⟩) rfl ?_
  refine hz_aload_n (pc := 50) C dX11_init_50 rfl ?_
  refine hz_sipush (pc := 51) C (v := nI 150) dX11_init_51 (by decide +kernel) ?_
  refine hz_newA (pc := 54) C (n1 := 152) (ty := .int) (c := 13) (kc' := 6) (ks' := 879) rfl dX11_init_54 rfl (hz_mp 144 (by decide +kernel)) (fun _ => rfl) (fun _ _ h => h) rfl ⟨by decide, by decide⟩ hT152 rfl (by decide) (by decide +kernel) ⟨hI 152 (by decide), (fun k => by show hz_up L 146 6 1 152 k = 0; rw [hz_up_ne _ _ _ _ (by decide)]; exact hL 152 (by decide) k), PQ_bl 149 152 (by decide +kernel)⟩ (hN.sub (by decide) (by decide)) rfl rfl (hz_capZ Z (by decide) (by decide)) ?_
  refine hz_putPF (pc := 56) C (M' := (I, hz_up L 146 6 1, PQ 150)) ffX11_30 dX11_init_56 hT146 (by decide) rfl rfl rfl (fun _ h => by cases h; rfl) (fun _ => ⟨rfl, rfl⟩) (by decide) (PQ_s (j := 149) rfl) ?_
  refine hz_aload_n (pc := 59) C dX11_init_59 rfl ?_
  refine hz_bipush (pc := 60) C (v := nI 64) dX11_init_60 (by decide +kernel) ?_
  refine hz_newA (pc := 62) C (n1 := 153) (ty := .int) (c := 13) (kc' := 7) (ks' := 943) rfl dX11_init_62 rfl (hz_mp 144 (by decide +kernel)) (fun _ => rfl) (fun _ _ h => h) rfl ⟨by decide, by decide⟩ hT153 rfl (by decide) (by decide +kernel) ⟨hI 153 (by decide), (fun k => by show hz_up L 146 6 1 153 k = 0; rw [hz_up_ne _ _ _ _ (by decide)]; exact hL 153 (by decide) k), PQ_bl 150 153 (by decide +kernel)⟩ (hN.sub (by decide) (by decide)) rfl rfl (hz_capZ Z (by decide) (by decide)) ?_
  refine hz_putPF (pc := 64) C (M' := (I, hz_up L 146 6 1, PQ 151)) ffX11_33 dX11_init_64 hT146 (by decide) rfl rfl rfl (fun _ h => by cases h; rfl) (fun _ => ⟨rfl, rfl⟩) (by decide) (PQ_s (j := 150) rfl) ?_
  refine hz_aload_n (pc := 67) C dX11_init_67 rfl ?_
  refine hz_bipush (pc := 68) C (v := nI 64) dX11_init_68 (by decide +kernel) ?_
  refine hz_newA (pc := 70) C (n1 := 154) (ty := .int) (c := 13) (kc' := 8) (ks' := 1007) rfl dX11_init_70 rfl (hz_mp 144 (by decide +kernel)) (fun _ => rfl) (fun _ _ h => h) rfl ⟨by decide, by decide⟩ hT154 rfl (by decide) (by decide +kernel) ⟨hI 154 (by decide), (fun k => by show hz_up L 146 6 1 154 k = 0; rw [hz_up_ne _ _ _ _ (by decide)]; exact hL 154 (by decide) k), PQ_bl 151 154 (by decide +kernel)⟩ (hN.sub (by decide) (by decide)) rfl rfl (hz_capZ Z (by decide) (by decide)) ?_
  refine hz_putPF (pc := 72) C (M' := (I, hz_up L 146 6 1, PQ 152)) ffX11_36 dX11_init_72 hT146 (by decide) rfl rfl rfl (fun _ h => by cases h; rfl) (fun _ => ⟨rfl, rfl⟩) (by decide) (PQ_s (j := 151) rfl) ?_
  refine hz_aload_n (pc := 75) C dX11_init_75 rfl ?_
  refine hz_bipush (pc := 76) C (v := nI 64) dX11_init_76 (by decide +kernel) ?_
  refine hz_newA (pc := 78) C (n1 := 155) (ty := .int) (c := 13) (kc' := 9) (ks' := 1071) rfl dX11_init_78 rfl (hz_mp 144 (by decide +kernel)) (fun _ => rfl) (fun _ _ h => h) rfl ⟨by decide, by decide⟩ hT155 rfl (by decide) (by decide +kernel) ⟨hI 155 (by decide), (fun k => by show hz_up L 146 6 1 155 k = 0; rw [hz_up_ne _ _ _ _ (by decide)]; exact hL 155 (by decide) k), PQ_bl 152 155 (by decide +kernel)⟩ (hN.sub (by decide) (by decide)) rfl rfl (hz_capZ Z (by decide) (by decide)) ?_
  refine hz_putPF (pc := 80) C (M' := (I, hz_up L 146 6 1, PQ 153)) ffX11_39 dX11_init_80 hT146 (by decide) rfl rfl rfl (fun _ h => by cases h; rfl) (fun _ => ⟨rfl, rfl⟩) (by decide) (PQ_s (j := 152) rfl) ?_
  refine hz_aload_n (pc := 83) C dX11_init_83 rfl ?_
  refine hz_bipush (pc := 84) C (v := nI 6) dX11_init_84 (by decide +kernel) ?_
  refine hz_newA (pc := 86) C (n1 := 156) (ty := .int) (c := 13) (kc' := 10) (ks' := 1077) rfl dX11_init_86 rfl (hz_mp 144 (by decide +kernel)) (fun _ => rfl) (fun _ _ h => h) rfl ⟨by decide, by decide⟩ hT156 rfl (by decide) (by decide +kernel) ⟨hI 156 (by decide), (fun k => by show hz_up L 146 6 1 156 k = 0; rw [hz_up_ne _ _ _ _ (by decide)]; exact hL 156 (by decide) k), PQ_bl 153 156 (by decide +kernel)⟩ (hN.sub (by decide) (by decide)) rfl rfl (hz_capZ Z (by decide) (by decide)) ?_
  refine hz_putPF (pc := 88) C (M' := (I, hz_up L 146 6 1, PQ 154)) ffX11_42 dX11_init_88 hT146 (by decide) rfl rfl rfl (fun _ h => by cases h; rfl) (fun _ => ⟨rfl, rfl⟩) (by decide) (PQ_s (j := 153) rfl) ?_
  refine hz_aload_n (pc := 91) C dX11_init_91 rfl ?_
  refine hz_bipush (pc := 92) C (v := nI 6) dX11_init_92 (by decide +kernel) ?_
  refine hz_newA (pc := 94) C (n1 := 157) (ty := .int) (c := 13) (kc' := 11) (ks' := 1083) rfl dX11_init_94 rfl (hz_mp 144 (by decide +kernel)) (fun _ => rfl) (fun _ _ h => h) rfl ⟨by decide, by decide⟩ hT157 rfl (by decide) (by decide +kernel) ⟨hI 157 (by decide), (fun k => by show hz_up L 146 6 1 157 k = 0; rw [hz_up_ne _ _ _ _ (by decide)]; exact hL 157 (by decide) k), PQ_bl 154 157 (by decide +kernel)⟩ (hN.sub (by decide) (by decide)) rfl rfl (hz_capZ Z (by decide) (by decide)) ?_
  refine hz_putPF (pc := 96) C (M' := (I, hz_up L 146 6 1, PQ 155)) ffX11_45 dX11_init_96 hT146 (by decide) rfl rfl rfl (fun _ h => by cases h; rfl) (fun _ => ⟨rfl, rfl⟩) (by decide) (PQ_s (j := 154) rfl) ?_
  refine Eq.mpr (by rw [PQ_end]) (?_ : hz_G X TT NN (I, hz_up L 146 6 1, PP q0) 11 1083 99 [some (.ref 146)] [])
  refine hz_aload_n (pc := 99) C dX11_init_99 rfl ?_
  refine hz_getP (pc := 100) C (v := 147) ffX11_7 dX11_init_100 hT146 hA146 rfl (hP146_0 q0) (by decide) ?_
  refine hz_callSv (pc := 103) C (as := [.ref 147]) (st := []) ev_begin147 (hz_new0 _ _) fyX11_begin fsX11_48 rfl dX11_init_103 rfl rfl (Nat.le_of_ble_eq_true rfl) (by decide) (hz_capZ Z (by decide) (by decide)) ?_
  exact hz_vret C Z rfl dX11_init_106 rfl

/-- every store of a reference in the constructors, in order -/
def pst : List (Nat × Nat × Nat) := [(2, 0, 3), (1, 0, 2), (4, 0, 5), (4, 1, 6), (4, 2, 7), (4, 3, 8), (4, 4, 9), (4, 5, 10), (4, 6, 11), (1, 1, 4), (12, 1, 13), (12, 2, 14), (12, 3, 15), (12, 4, 16), (12, 5, 17), (12, 6, 18), (19, 0, 20), (12, 7, 19), (12, 8, 21), (22, 0, 23), (22, 1, 24), (22, 2, 25), (22, 3, 26), (22, 4, 27), (22, 5, 28), (12, 0, 22), (29, 0, 30), (21, 0, 29), (31, 0, 32), (21, 1, 31), (33, 0, 34), (21, 2, 33), (35, 0, 36), (21, 3, 35), (37, 0, 38), (21, 4, 37), (39, 0, 40), (21, 5, 39), (41, 0, 42), (21, 6, 41), (43, 0, 44), (21, 7, 43), (1, 4, 12), (45, 1, 46), (45, 2, 47), (45, 3, 48), (45, 4, 49), (45, 5, 50), (45, 6, 51), (52, 0, 53), (45, 7, 52), (45, 8, 54), (55, 0, 56), (55, 1, 57), (55, 2, 58), (55, 3, 59), (55, 4, 60), (55, 5, 61), (45, 0, 55), (62, 0, 63), (54, 0, 62), (64, 0, 65), (54, 1, 64), (66, 0, 67), (54, 2, 66), (68, 0, 69), (54, 3, 68), (70, 0, 71), (54, 4, 70), (72, 0, 73), (54, 5, 72), (74, 0, 75), (54, 6, 74), (76, 0, 77), (54, 7, 76), (1, 5, 45), (79, 1, 80), (79, 2, 81), (79, 3, 82), (79, 4, 83), (79, 5, 84), (79, 6, 85), (86, 0, 87), (79, 7, 86), (79, 8, 88), (89, 0, 90), (89, 1, 91), (89, 2, 92), (89, 3, 93), (89, 4, 94), (89, 5, 95), (79, 0, 89), (96, 0, 97), (88, 0, 96), (98, 0, 99), (88, 1, 98), (100, 0, 101), (88, 2, 100), (102, 0, 103), (88, 3, 102), (104, 0, 105), (88, 4, 104), (106, 0, 107), (88, 5, 106), (108, 0, 109), (88, 6, 108), (110, 0, 111), (88, 7, 110), (78, 0, 79), (112, 1, 113), (112, 2, 114), (112, 3, 115), (112, 4, 116), (112, 5, 117), (112, 6, 118), (119, 0, 120), (112, 7, 119), (112, 8, 121), (122, 0, 123), (122, 1, 124), (122, 2, 125), (122, 3, 126), (122, 4, 127), (122, 5, 128), (112, 0, 122), (129, 0, 130), (121, 0, 129), (131, 0, 132), (121, 1, 131), (133, 0, 134), (121, 2, 133), (135, 0, 136), (121, 3, 135), (137, 0, 138), (121, 4, 137), (139, 0, 140), (121, 5, 139), (141, 0, 142), (121, 6, 141), (143, 0, 144), (121, 7, 143), (78, 1, 112), (1, 2, 78), (1, 3, 145), (146, 0, 147), (146, 1, 148), (146, 2, 149), (146, 3, 150), (146, 4, 151), (146, 8, 152), (146, 15, 153), (146, 16, 154), (146, 17, 155), (146, 18, 156), (146, 19, 157)]
def PQ (j : Nat) : Nat → Nat → Nat := (pst.take j).foldl (fun P z => hz_up P z.1 z.2.1 z.2.2) (fun _ _ => 0)
theorem PQ_s1 {j a k v : Nat} (h : pst[j]? = some (a, k, v)) : hz_up (PQ j) a k v = PQ (j + 1) := by
  unfold PQ
  rw [List.take_add_one, h, List.foldl_append]
  rfl
theorem PQ_s {j a k v : Nat} {I : Nat → Nat → Int32} {L : Nat → Nat → Int64} (h : pst[j]? = some (a, k, v)) : hz_uP (I, L, PQ j) a k v = (I, L, PQ (j + 1)) := by
  show (I, L, hz_up (PQ j) a k v) = _
  rw [PQ_s1 h]
theorem fold_o {a k : Nat} : ∀ (l : List (Nat × Nat × Nat)) (P : Nat → Nat → Nat), (l.all fun z => z.1 != a || z.2.1 != k) = true → l.foldl (fun P z => hz_up P z.1 z.2.1 z.2.2) P a k = P a k := by
  intro l
  induction l with
  | nil => intro P _; rfl
  | cons z l ih =>
    intro P h
    simp only [List.all_cons, Bool.and_eq_true, Bool.or_eq_true, bne_iff_ne, ne_eq] at h
    show l.foldl _ (hz_up P z.1 z.2.1 z.2.2) a k = _
    rw [ih _ (by simpa using h.2)]
    by_cases e : a = z.1
    · subst e
      exact hz_up_nk _ _ _ _ (fun q => h.1.elim (fun g => g rfl) (fun g => g q.symm))
    · rw [hz_up_ne _ _ _ _ e]
theorem PQ_bl (j a : Nat) (h : ((pst.take j).all fun z => z.1 != a) = true) (k : Nat) : PQ j a k = 0 := by
  unfold PQ
  rw [fold_o]
  refine List.all_eq_true.mpr fun z hz => ?_
  rw [List.all_eq_true.mp h z hz]
  rfl
theorem fnX10_7 : hz_FN RX10 7 8 (RX8, TX8, 6) := ⟨rfl, hz_mp 83 (by decide +kernel), hz_mp 84 (by decide +kernel), hz_mp 57 (by decide +kernel), hz_mws [96, 98, 100, 102, 104, 106] (by decide +kernel), by decide +kernel, by decide +kernel, by decide, rfl⟩
theorem fnX10_16 : hz_FN RX10 16 7 (RX7, TX7, 8) := ⟨rfl, hz_mp 110 (by decide +kernel), hz_mp 111 (by decide +kernel), hz_mp 58 (by decide +kernel), hz_mws [127, 129, 131, 133, 135, 137, 139, 141] (by decide +kernel), by decide +kernel, by decide +kernel, by decide, rfl⟩
theorem fnX10_23 : hz_FN RX10 23 2 (RX2, TX2, 13) := ⟨rfl, hz_mp 145 (by decide +kernel), hz_mp 146 (by decide +kernel), hz_mp 59 (by decide +kernel), hz_mws [261, 263, 265, 267, 269, 271, 273, 275, 277, 279, 281, 283, 285] (by decide +kernel), by decide +kernel, by decide +kernel, by decide, rfl⟩
theorem fnX2_30 : hz_FN RX2 30 3 (RX3, TX3, 5) := ⟨rfl, hz_mp 151 (by decide +kernel), hz_mp 152 (by decide +kernel), hz_mp 60 (by decide +kernel), hz_mws [177, 179, 181, 183, 185] (by decide +kernel), by decide +kernel, by decide +kernel, by decide, rfl⟩
theorem fnX2_41 : hz_FN RX2 41 6 (RX6, TX6, 0) := ⟨rfl, hz_mp 189 (by decide +kernel), hz_mp 191 (by decide +kernel), hz_mp 61 (by decide +kernel), hz_mws [] (by decide +kernel), by decide +kernel, by decide +kernel, by decide, rfl⟩
theorem fnX2_44 : hz_FN RX2 44 4 (RX4, TX4, 0) := ⟨rfl, hz_mp 197 (by decide +kernel), hz_mp 198 (by decide +kernel), hz_mp 62 (by decide +kernel), hz_mws [] (by decide +kernel), by decide +kernel, by decide +kernel, by decide, rfl⟩
theorem fnX2_47 : hz_FN RX2 47 9 (RX9, TX9, 0) := ⟨rfl, hz_mp 204 (by decide +kernel), hz_mp 205 (by decide +kernel), hz_mp 63 (by decide +kernel), hz_mws [] (by decide +kernel), by decide +kernel, by decide +kernel, by decide, rfl⟩
theorem fnX2_50 : hz_FN RX2 50 0 (RX0, TX0, 0) := ⟨rfl, hz_mp 211 (by decide +kernel), hz_mp 212 (by decide +kernel), hz_mp 64 (by decide +kernel), hz_mws [] (by decide +kernel), by decide +kernel, by decide +kernel, by decide, rfl⟩
theorem fnX2_53 : hz_FN RX2 53 5 (RX5, TX5, 0) := ⟨rfl, hz_mp 218 (by decide +kernel), hz_mp 219 (by decide +kernel), hz_mp 65 (by decide +kernel), hz_mws [] (by decide +kernel), by decide +kernel, by decide +kernel, by decide, rfl⟩
theorem fnX2_56 : hz_FN RX2 56 1 (RX1, TX1, 0) := ⟨rfl, hz_mp 225 (by decide +kernel), hz_mp 226 (by decide +kernel), hz_mp 66 (by decide +kernel), hz_mws [] (by decide +kernel), by decide +kernel, by decide +kernel, by decide, rfl⟩
def zI : Nat → Nat → Int32 := fun _ _ => 0
def zL : Nat → Nat → Int64 := fun _ _ => 0
theorem zI_o (a : Nat) (_ : 0 < a) (k : Nat) : zI a k = 0 := rfl
def zI12 : Nat → Nat → Int32 := rsI 12 zI
theorem zI12_o (a : Nat) (h : 20 ≤ a) (k : Nat) : zI12 a k = 0 := by
  unfold zI12
  rw [rsI_o _ (by omega) (by omega) (by omega)]
  exact zI_o a (by omega) k
def zI45 : Nat → Nat → Int32 := rsI 45 zI12
theorem zI45_o (a : Nat) (h : 53 ≤ a) (k : Nat) : zI45 a k = 0 := by
  unfold zI45
  rw [rsI_o _ (by omega) (by omega) (by omega)]
  exact zI12_o a (by omega) k
def zI79 : Nat → Nat → Int32 := rsI 79 zI45
theorem zI79_o (a : Nat) (h : 87 ≤ a) (k : Nat) : zI79 a k = 0 := by
  unfold zI79
  rw [rsI_o _ (by omega) (by omega) (by omega)]
  exact zI45_o a (by omega) k
def zI112 : Nat → Nat → Int32 := rsI 112 zI79
theorem zI112_o (a : Nat) (h : 120 ≤ a) (k : Nat) : zI112 a k = 0 := by
  unfold zI112
  rw [rsI_o _ (by omega) (by omega) (by omega)]
  exact zI79_o a (by omega) k
set_option maxHeartbeats 4000000 in
set_option maxRecDepth 100000 in
theorem ev_iX8 {I : Nat → Nat → Int32} {L : Nat → Nat → Int64} (hI : ∀ a, 2 < a → ∀ k, I a k = 0) (hL : ∀ a, 2 < a → ∀ k, L a k = 0) : hz_Ev mX8_init TT 2 (I, L, PQ 0) [.ref 2] 1 150 none TT 3 (I, L, PQ 1) := by
  refine hz_Ev.intro (ls := [some (.ref 2)]) (by decide +kernel) rfl (Nat.le_of_ble_eq_true rfl) (fun X C Z hN => ?_)
  refine hz_aload_n (pc := 0) C dX8_init_0 rfl ?_
  refine hz_objInit (pc := 1) C foX8_3 dX8_init_1 rfl (Nat.le_of_ble_eq_true rfl) (by decide) ?_
  refine hz_aload_n (pc := 4) C dX8_init_4 rfl ?_
  refine hz_sipush (pc := 5) C (v := nI 150) dX8_init_5 (by decide +kernel) ?_
  refine hz_newA (pc := 8) C (n1 := 3) (ty := .char) (c := 12) (kc' := 1) (ks' := 150) rfl dX8_init_8 rfl (hz_mp 109 (by decide +kernel)) (fun _ => rfl) (fun _ _ h => h) rfl ⟨by decide, by decide⟩ hT3 rfl (by decide) (by decide +kernel) ⟨hI 3 (by decide), hL 3 (by decide), PQ_bl 0 3 (by decide +kernel)⟩ (hN.sub (by decide) (by decide)) rfl rfl (hz_capZ Z (by decide) (by decide)) ?_
  refine hz_putPF (pc := 10) C (M' := (I, L, PQ 1)) ffX8_9 dX8_init_10 hT2 (by decide) rfl rfl rfl (fun _ h => by cases h; rfl) (fun _ => ⟨rfl, rfl⟩) (by decide) (PQ_s (j := 0) rfl) ?_
  exact hz_vret C Z rfl dX8_init_13 rfl
set_option maxHeartbeats 4000000 in
set_option maxRecDepth 100000 in
theorem ev_iX7 {I : Nat → Nat → Int32} {L : Nat → Nat → Int64} (hI : ∀ a, 4 < a → ∀ k, I a k = 0) (hL : ∀ a, 4 < a → ∀ k, L a k = 0) : hz_Ev mX7_init TT 4 (I, L, PQ 2) [.ref 4] 7 614 none TT 11 (I, L, PQ 9) := by
  refine hz_Ev.intro (ls := [some (.ref 4)]) (by decide +kernel) rfl (Nat.le_of_ble_eq_true rfl) (fun X C Z hN => ?_)
  refine hz_aload_n (pc := 0) C dX7_init_0 rfl ?_
  refine hz_objInit (pc := 1) C foX7_3 dX7_init_1 rfl (Nat.le_of_ble_eq_true rfl) (by decide) ?_
  refine hz_aload_n (pc := 4) C dX7_init_4 rfl ?_
  refine hz_bipush (pc := 5) C (v := nI 48) dX7_init_5 (by decide +kernel) ?_
  refine hz_newA (pc := 7) C (n1 := 5) (ty := .int) (c := 13) (kc' := 1) (ks' := 48) rfl dX7_init_7 rfl (hz_mp 144 (by decide +kernel)) (fun _ => rfl) (fun _ _ h => h) rfl ⟨by decide, by decide⟩ hT5 rfl (by decide) (by decide +kernel) ⟨hI 5 (by decide), hL 5 (by decide), PQ_bl 2 5 (by decide +kernel)⟩ (hN.sub (by decide) (by decide)) rfl rfl (hz_capZ Z (by decide) (by decide)) ?_
  refine hz_putPF (pc := 9) C (M' := (I, L, PQ 3)) ffX7_9 dX7_init_9 hT4 (by decide) rfl rfl rfl (fun _ h => by cases h; rfl) (fun _ => ⟨rfl, rfl⟩) (by decide) (PQ_s (j := 2) rfl) ?_
  refine hz_aload_n (pc := 12) C dX7_init_12 rfl ?_
  refine hz_bipush (pc := 13) C (v := nI 64) dX7_init_13 (by decide +kernel) ?_
  refine hz_newA (pc := 15) C (n1 := 6) (ty := .int) (c := 13) (kc' := 2) (ks' := 112) rfl dX7_init_15 rfl (hz_mp 144 (by decide +kernel)) (fun _ => rfl) (fun _ _ h => h) rfl ⟨by decide, by decide⟩ hT6 rfl (by decide) (by decide +kernel) ⟨hI 6 (by decide), hL 6 (by decide), PQ_bl 3 6 (by decide +kernel)⟩ (hN.sub (by decide) (by decide)) rfl rfl (hz_capZ Z (by decide) (by decide)) ?_
  refine hz_putPF (pc := 17) C (M' := (I, L, PQ 4)) ffX7_15 dX7_init_17 hT4 (by decide) rfl rfl rfl (fun _ h => by cases h; rfl) (fun _ => ⟨rfl, rfl⟩) (by decide) (PQ_s (j := 3) rfl) ?_
  refine hz_aload_n (pc := 20) C dX7_init_20 rfl ?_
  refine hz_bipush (pc := 21) C (v := nI 64) dX7_init_21 (by decide +kernel) ?_
  refine hz_newA (pc := 23) C (n1 := 7) (ty := .int) (c := 13) (kc' := 3) (ks' := 176) rfl dX7_init_23 rfl (hz_mp 144 (by decide +kernel)) (fun _ => rfl) (fun _ _ h => h) rfl ⟨by decide, by decide⟩ hT7 rfl (by decide) (by decide +kernel) ⟨hI 7 (by decide), hL 7 (by decide), PQ_bl 4 7 (by decide +kernel)⟩ (hN.sub (by decide) (by decide)) rfl rfl (hz_capZ Z (by decide) (by decide)) ?_
  refine hz_putPF (pc := 25) C (M' := (I, L, PQ 5)) ffX7_18 dX7_init_25 hT4 (by decide) rfl rfl rfl (fun _ h => by cases h; rfl) (fun _ => ⟨rfl, rfl⟩) (by decide) (PQ_s (j := 4) rfl) ?_
  refine hz_aload_n (pc := 28) C dX7_init_28 rfl ?_
  refine hz_bipush (pc := 29) C (v := nI 6) dX7_init_29 (by decide +kernel) ?_
  refine hz_newA (pc := 31) C (n1 := 8) (ty := .int) (c := 13) (kc' := 4) (ks' := 182) rfl dX7_init_31 rfl (hz_mp 144 (by decide +kernel)) (fun _ => rfl) (fun _ _ h => h) rfl ⟨by decide, by decide⟩ hT8 rfl (by decide) (by decide +kernel) ⟨hI 8 (by decide), hL 8 (by decide), PQ_bl 5 8 (by decide +kernel)⟩ (hN.sub (by decide) (by decide)) rfl rfl (hz_capZ Z (by decide) (by decide)) ?_
  refine hz_putPF (pc := 33) C (M' := (I, L, PQ 6)) ffX7_21 dX7_init_33 hT4 (by decide) rfl rfl rfl (fun _ h => by cases h; rfl) (fun _ => ⟨rfl, rfl⟩) (by decide) (PQ_s (j := 5) rfl) ?_
  refine hz_aload_n (pc := 36) C dX7_init_36 rfl ?_
  refine hz_bipush (pc := 37) C (v := nI 6) dX7_init_37 (by decide +kernel) ?_
  refine hz_newA (pc := 39) C (n1 := 9) (ty := .int) (c := 13) (kc' := 5) (ks' := 188) rfl dX7_init_39 rfl (hz_mp 144 (by decide +kernel)) (fun _ => rfl) (fun _ _ h => h) rfl ⟨by decide, by decide⟩ hT9 rfl (by decide) (by decide +kernel) ⟨hI 9 (by decide), hL 9 (by decide), PQ_bl 6 9 (by decide +kernel)⟩ (hN.sub (by decide) (by decide)) rfl rfl (hz_capZ Z (by decide) (by decide)) ?_
  refine hz_putPF (pc := 41) C (M' := (I, L, PQ 7)) ffX7_24 dX7_init_41 hT4 (by decide) rfl rfl rfl (fun _ h => by cases h; rfl) (fun _ => ⟨rfl, rfl⟩) (by decide) (PQ_s (j := 6) rfl) ?_
  refine hz_aload_n (pc := 44) C dX7_init_44 rfl ?_
  refine hz_bipush (pc := 45) C (v := nI 42) dX7_init_45 (by decide +kernel) ?_
  refine hz_newA (pc := 47) C (n1 := 10) (ty := .int) (c := 13) (kc' := 6) (ks' := 230) rfl dX7_init_47 rfl (hz_mp 144 (by decide +kernel)) (fun _ => rfl) (fun _ _ h => h) rfl ⟨by decide, by decide⟩ hT10 rfl (by decide) (by decide +kernel) ⟨hI 10 (by decide), hL 10 (by decide), PQ_bl 7 10 (by decide +kernel)⟩ (hN.sub (by decide) (by decide)) rfl rfl (hz_capZ Z (by decide) (by decide)) ?_
  refine hz_putPF (pc := 49) C (M' := (I, L, PQ 8)) ffX7_27 dX7_init_49 hT4 (by decide) rfl rfl rfl (fun _ h => by cases h; rfl) (fun _ => ⟨rfl, rfl⟩) (by decide) (PQ_s (j := 7) rfl) ?_
  refine hz_aload_n (pc := 52) C dX7_init_52 rfl ?_
  refine hz_sipush (pc := 53) C (v := nI 384) dX7_init_53 (by decide +kernel) ?_
  refine hz_newA (pc := 56) C (n1 := 11) (ty := .int) (c := 13) (kc' := 7) (ks' := 614) rfl dX7_init_56 rfl (hz_mp 144 (by decide +kernel)) (fun _ => rfl) (fun _ _ h => h) rfl ⟨by decide, by decide⟩ hT11 rfl (by decide) (by decide +kernel) ⟨hI 11 (by decide), hL 11 (by decide), PQ_bl 8 11 (by decide +kernel)⟩ (hN.sub (by decide) (by decide)) rfl rfl (hz_capZ Z (by decide) (by decide)) ?_
  refine hz_putPF (pc := 58) C (M' := (I, L, PQ 9)) ffX7_30 dX7_init_58 hT4 (by decide) rfl rfl rfl (fun _ h => by cases h; rfl) (fun _ => ⟨rfl, rfl⟩) (by decide) (PQ_s (j := 8) rfl) ?_
  exact hz_vret C Z rfl dX7_init_61 rfl
set_option maxHeartbeats 4000000 in
set_option maxRecDepth 100000 in
theorem ev_iX2_12 {I : Nat → Nat → Int32} {L : Nat → Nat → Int64} (hI : ∀ a, 12 < a → ∀ k, I a k = 0) (hL : ∀ a, 12 < a → ∀ k, L a k = 0) : hz_Ev mX2_init TT 12 (I, L, PQ 10) [.ref 12] 32 265 none TT 44 (rsI 12 I, L, PQ 42) := by
  refine hz_Ev.intro (ls := [some (.ref 12), none]) (by decide +kernel) rfl (Nat.le_of_ble_eq_true rfl) (fun X C Z hN => ?_)
  refine hz_aload_n (pc := 0) C dX2_init_0 rfl ?_
  refine hz_objInit (pc := 1) C foX2_3 dX2_init_1 rfl (Nat.le_of_ble_eq_true rfl) (by decide) ?_
  refine hz_aload_n (pc := 4) C dX2_init_4 rfl ?_
  refine hz_bipush (pc := 5) C (v := nI 64) dX2_init_5 (by decide +kernel) ?_
  refine hz_newA (pc := 7) C (n1 := 13) (ty := .int) (c := 13) (kc' := 1) (ks' := 64) rfl dX2_init_7 rfl (hz_mp 144 (by decide +kernel)) (fun _ => rfl) (fun _ _ h => h) rfl ⟨by decide, by decide⟩ hT13 rfl (by decide) (by decide +kernel) ⟨hI 13 (by decide), hL 13 (by decide), PQ_bl 10 13 (by decide +kernel)⟩ (hN.sub (by decide) (by decide)) rfl rfl (hz_capZ Z (by decide) (by decide)) ?_
  refine hz_putPF (pc := 9) C (M' := (I, L, PQ 11)) ffX2_9 dX2_init_9 hT12 (by decide) rfl rfl rfl (fun _ h => by cases h; rfl) (fun _ => ⟨rfl, rfl⟩) (by decide) (PQ_s (j := 10) rfl) ?_
  refine hz_aload_n (pc := 12) C dX2_init_12 rfl ?_
  refine hz_bipush (pc := 13) C (v := nI 64) dX2_init_13 (by decide +kernel) ?_
  refine hz_newA (pc := 15) C (n1 := 14) (ty := .int) (c := 13) (kc' := 2) (ks' := 128) rfl dX2_init_15 rfl (hz_mp 144 (by decide +kernel)) (fun _ => rfl) (fun _ _ h => h) rfl ⟨by decide, by decide⟩ hT14 rfl (by decide) (by decide +kernel) ⟨hI 14 (by decide), hL 14 (by decide), PQ_bl 11 14 (by decide +kernel)⟩ (hN.sub (by decide) (by decide)) rfl rfl (hz_capZ Z (by decide) (by decide)) ?_
  refine hz_putPF (pc := 17) C (M' := (I, L, PQ 12)) ffX2_15 dX2_init_17 hT12 (by decide) rfl rfl rfl (fun _ h => by cases h; rfl) (fun _ => ⟨rfl, rfl⟩) (by decide) (PQ_s (j := 11) rfl) ?_
  refine hz_aload_n (pc := 20) C dX2_init_20 rfl ?_
  refine hz_bipush (pc := 21) C (v := nI 6) dX2_init_21 (by decide +kernel) ?_
  refine hz_newA (pc := 23) C (n1 := 15) (ty := .int) (c := 13) (kc' := 3) (ks' := 134) rfl dX2_init_23 rfl (hz_mp 144 (by decide +kernel)) (fun _ => rfl) (fun _ _ h => h) rfl ⟨by decide, by decide⟩ hT15 rfl (by decide) (by decide +kernel) ⟨hI 15 (by decide), hL 15 (by decide), PQ_bl 12 15 (by decide +kernel)⟩ (hN.sub (by decide) (by decide)) rfl rfl (hz_capZ Z (by decide) (by decide)) ?_
  refine hz_putPF (pc := 25) C (M' := (I, L, PQ 13)) ffX2_18 dX2_init_25 hT12 (by decide) rfl rfl rfl (fun _ h => by cases h; rfl) (fun _ => ⟨rfl, rfl⟩) (by decide) (PQ_s (j := 12) rfl) ?_
  refine hz_aload_n (pc := 28) C dX2_init_28 rfl ?_
  refine hz_bipush (pc := 29) C (v := nI 6) dX2_init_29 (by decide +kernel) ?_
  refine hz_newA (pc := 31) C (n1 := 16) (ty := .int) (c := 13) (kc' := 4) (ks' := 140) rfl dX2_init_31 rfl (hz_mp 144 (by decide +kernel)) (fun _ => rfl) (fun _ _ h => h) rfl ⟨by decide, by decide⟩ hT16 rfl (by decide) (by decide +kernel) ⟨hI 16 (by decide), hL 16 (by decide), PQ_bl 13 16 (by decide +kernel)⟩ (hN.sub (by decide) (by decide)) rfl rfl (hz_capZ Z (by decide) (by decide)) ?_
  refine hz_putPF (pc := 33) C (M' := (I, L, PQ 14)) ffX2_21 dX2_init_33 hT12 (by decide) rfl rfl rfl (fun _ h => by cases h; rfl) (fun _ => ⟨rfl, rfl⟩) (by decide) (PQ_s (j := 13) rfl) ?_
  refine hz_aload_n (pc := 36) C dX2_init_36 rfl ?_
  refine hz_bipush (pc := 37) C (v := nI 6) dX2_init_37 (by decide +kernel) ?_
  refine hz_newA (pc := 39) C (n1 := 17) (ty := .int) (c := 13) (kc' := 5) (ks' := 146) rfl dX2_init_39 rfl (hz_mp 144 (by decide +kernel)) (fun _ => rfl) (fun _ _ h => h) rfl ⟨by decide, by decide⟩ hT17 rfl (by decide) (by decide +kernel) ⟨hI 17 (by decide), hL 17 (by decide), PQ_bl 14 17 (by decide +kernel)⟩ (hN.sub (by decide) (by decide)) rfl rfl (hz_capZ Z (by decide) (by decide)) ?_
  refine hz_putPF (pc := 41) C (M' := (I, L, PQ 15)) ffX2_24 dX2_init_41 hT12 (by decide) rfl rfl rfl (fun _ h => by cases h; rfl) (fun _ => ⟨rfl, rfl⟩) (by decide) (PQ_s (j := 14) rfl) ?_
  refine hz_aload_n (pc := 44) C dX2_init_44 rfl ?_
  refine hz_bipush (pc := 45) C (v := nI 6) dX2_init_45 (by decide +kernel) ?_
  refine hz_newA (pc := 47) C (n1 := 18) (ty := .int) (c := 13) (kc' := 6) (ks' := 152) rfl dX2_init_47 rfl (hz_mp 144 (by decide +kernel)) (fun _ => rfl) (fun _ _ h => h) rfl ⟨by decide, by decide⟩ hT18 rfl (by decide) (by decide +kernel) ⟨hI 18 (by decide), hL 18 (by decide), PQ_bl 15 18 (by decide +kernel)⟩ (hN.sub (by decide) (by decide)) rfl rfl (hz_capZ Z (by decide) (by decide)) ?_
  refine hz_putPF (pc := 49) C (M' := (I, L, PQ 16)) ffX2_27 dX2_init_49 hT12 (by decide) rfl rfl rfl (fun _ h => by cases h; rfl) (fun _ => ⟨rfl, rfl⟩) (by decide) (PQ_s (j := 15) rfl) ?_
  refine hz_aload_n (pc := 52) C dX2_init_52 rfl ?_
  refine hz_newO (pc := 53) C (n1 := 19) (kc' := 7) (ks' := 157) rfl fnX2_30 dX2_init_53 hT19 ⟨hI 19 (by decide), hL 19 (by decide), PQ_bl 16 19 (by decide +kernel)⟩ (hN.sub (by decide) (by decide)) rfl rfl (hz_capZ Z (by decide) (by decide)) ?_
  refine hz_dup (pc := 56) C dX2_init_56 rfl ?_
  refine hz_callINm (pc := 57) C (as := []) (st := [.ref 19, .ref 12]) (kc' := 8) (ks' := 163) (ev_iX3 (m := 19) (by decide) hT19 hT20 ⟨hI 20 (by decide), hL 20 (by decide), PQ_bl 16 20 (by decide +kernel)⟩ (PQ_s1 (j := 16) rfl)) (hN.sub (by decide) (by decide)) fyX3_init fiX2_32 rfl dX2_init_57 rfl rfl (Nat.le_of_ble_eq_true rfl) (by decide) rfl rfl (hz_capZ Z (by decide) (by decide)) ?_
  refine hz_putPF (pc := 60) C (M' := (I, L, PQ 18)) ffX2_33 dX2_init_60 hT12 (by decide) rfl rfl rfl (fun _ h => by cases h; rfl) (fun _ => ⟨rfl, rfl⟩) (by decide) (PQ_s (j := 17) rfl) ?_
  refine hz_aload_n (pc := 63) C dX2_init_63 rfl ?_
  refine hz_bipush (pc := 64) C (v := nI 8) dX2_init_64 (by decide +kernel) ?_
  refine hz_newQ (pc := 66) C (n1 := 21) (E := RX3) (c := 16) (kc' := 9) (ks' := 171) rfl dX2_init_66 (hz_mp 151 (by decide +kernel)) (hz_mn 188 (by decide +kernel)) (fun _ => rfl) (by decide) hT21 rfl (by decide) ⟨hI 21 (by decide), hL 21 (by decide), PQ_bl 18 21 (by decide +kernel)⟩ (hN.sub (by decide) (by decide)) rfl rfl (hz_capZ Z (by decide) (by decide)) ?_
  refine hz_putPF (pc := 69) C (M' := (I, L, PQ 19)) ffX2_37 dX2_init_69 hT12 (by decide) rfl rfl rfl (fun _ h => by cases h; rfl) (fun _ => ⟨rfl, rfl⟩) (by decide) (PQ_s (j := 18) rfl) ?_
  refine hz_aload_n (pc := 72) C dX2_init_72 rfl ?_
  refine hz_bipush (pc := 73) C (v := nI 6) dX2_init_73 (by decide +kernel) ?_
  refine hz_newQ (pc := 75) C (n1 := 22) (E := RX6) (c := 17) (kc' := 10) (ks' := 177) rfl dX2_init_75 (hz_mp 189 (by decide +kernel)) (hz_mn 190 (by decide +kernel)) (fun _ => rfl) (by decide) hT22 rfl (by decide) ⟨hI 22 (by decide), hL 22 (by decide), PQ_bl 19 22 (by decide +kernel)⟩ (hN.sub (by decide) (by decide)) rfl rfl (hz_capZ Z (by decide) (by decide)) ?_
  refine hz_dup (pc := 78) C dX2_init_78 rfl ?_
  refine hz_iconst (pc := 79) C (v := nI 0) dX2_init_79 (by decide +kernel) ?_
  refine hz_newO (pc := 80) C (n1 := 23) (kc' := 11) (ks' := 177) rfl fnX2_41 dX2_init_80 hT23 ⟨hI 23 (by decide), hL 23 (by decide), PQ_bl 19 23 (by decide +kernel)⟩ (hN.sub (by decide) (by decide)) rfl rfl (hz_capZ Z (by decide) (by decide)) ?_
  refine hz_dup (pc := 83) C dX2_init_83 rfl ?_
  refine hz_callINm (pc := 84) C (as := []) (st := [.ref 23, .int (nI 0), .ref 22, .ref 22, .ref 12]) (kc' := 11) (ks' := 177) ev_iX6_init (hN.sub (by decide) (by decide)) fyX6_init fiX2_43 rfl dX2_init_84 rfl rfl (Nat.le_of_ble_eq_true rfl) (by decide) rfl rfl (hz_capZ Z (by decide) (by decide)) ?_
  refine hz_aastG (pc := 87) C (c := 17) (cv := 6) (E := RX6) (j := 0) (M' := (I, L, PQ 20)) (fun _ => rfl) (by decide) rfl (Or.inl rfl) dX2_init_87 hT22 (by decide) hT23 (by decide) rfl (by decide) (by decide) (PQ_s (j := 19) rfl) ?_
  refine hz_dup (pc := 88) C dX2_init_88 rfl ?_
  refine hz_iconst (pc := 89) C (v := nI 1) dX2_init_89 (by decide +kernel) ?_
  refine hz_newO (pc := 90) C (n1 := 24) (kc' := 12) (ks' := 177) rfl fnX2_44 dX2_init_90 hT24 ⟨hI 24 (by decide), hL 24 (by decide), PQ_bl 20 24 (by decide +kernel)⟩ (hN.sub (by decide) (by decide)) rfl rfl (hz_capZ Z (by decide) (by decide)) ?_
  refine hz_dup (pc := 93) C dX2_init_93 rfl ?_
  refine hz_callINm (pc := 94) C (as := []) (st := [.ref 24, .int (nI 1), .ref 22, .ref 22, .ref 12]) (kc' := 12) (ks' := 177) ev_iX4_init (hN.sub (by decide) (by decide)) fyX4_init fiX2_46 rfl dX2_init_94 rfl rfl (Nat.le_of_ble_eq_true rfl) (by decide) rfl rfl (hz_capZ Z (by decide) (by decide)) ?_
  refine hz_aastG (pc := 97) C (c := 17) (cv := 4) (E := RX6) (j := 1) (M' := (I, L, PQ 21)) (fun _ => rfl) (by decide) rfl (Or.inr (hz_mn 1264 (by decide +kernel))) dX2_init_97 hT22 (by decide) hT24 (by decide) rfl (by decide) (by decide) (PQ_s (j := 20) rfl) ?_
  refine hz_dup (pc := 98) C dX2_init_98 rfl ?_
  refine hz_iconst (pc := 99) C (v := nI 2) dX2_init_99 (by decide +kernel) ?_
  refine hz_newO (pc := 100) C (n1 := 25) (kc' := 13) (ks' := 177) rfl fnX2_47 dX2_init_100 hT25 ⟨hI 25 (by decide), hL 25 (by decide), PQ_bl 21 25 (by decide +kernel)⟩ (hN.sub (by decide) (by decide)) rfl rfl (hz_capZ Z (by decide) (by decide)) ?_
  refine hz_dup (pc := 103) C dX2_init_103 rfl ?_
  refine hz_callINm (pc := 104) C (as := []) (st := [.ref 25, .int (nI 2), .ref 22, .ref 22, .ref 12]) (kc' := 13) (ks' := 177) ev_iX9_init (hN.sub (by decide) (by decide)) fyX9_init fiX2_49 rfl dX2_init_104 rfl rfl (Nat.le_of_ble_eq_true rfl) (by decide) rfl rfl (hz_capZ Z (by decide) (by decide)) ?_
  refine hz_aastG (pc := 107) C (c := 17) (cv := 9) (E := RX6) (j := 2) (M' := (I, L, PQ 22)) (fun _ => rfl) (by decide) rfl (Or.inr (hz_mn 1265 (by decide +kernel))) dX2_init_107 hT22 (by decide) hT25 (by decide) rfl (by decide) (by decide) (PQ_s (j := 21) rfl) ?_
  refine hz_dup (pc := 108) C dX2_init_108 rfl ?_
  refine hz_iconst (pc := 109) C (v := nI 3) dX2_init_109 (by decide +kernel) ?_
  refine hz_newO (pc := 110) C (n1 := 26) (kc' := 14) (ks' := 177) rfl fnX2_50 dX2_init_110 hT26 ⟨hI 26 (by decide), hL 26 (by decide), PQ_bl 22 26 (by decide +kernel)⟩ (hN.sub (by decide) (by decide)) rfl rfl (hz_capZ Z (by decide) (by decide)) ?_
  refine hz_dup (pc := 113) C dX2_init_113 rfl ?_
  refine hz_callINm (pc := 114) C (as := []) (st := [.ref 26, .int (nI 3), .ref 22, .ref 22, .ref 12]) (kc' := 14) (ks' := 177) ev_iX0_init (hN.sub (by decide) (by decide)) fyX0_init fiX2_52 rfl dX2_init_114 rfl rfl (Nat.le_of_ble_eq_true rfl) (by decide) rfl rfl (hz_capZ Z (by decide) (by decide)) ?_
  refine hz_aastG (pc := 117) C (c := 17) (cv := 0) (E := RX6) (j := 3) (M' := (I, L, PQ 23)) (fun _ => rfl) (by decide) rfl (Or.inr (hz_mn 1266 (by decide +kernel))) dX2_init_117 hT22 (by decide) hT26 (by decide) rfl (by decide) (by decide) (PQ_s (j := 22) rfl) ?_
  refine hz_dup (pc := 118) C dX2_init_118 rfl ?_
  refine hz_iconst (pc := 119) C (v := nI 4) dX2_init_119 (by decide +kernel) ?_
  refine hz_newO (pc := 120) C (n1 := 27) (kc' := 15) (ks' := 177) rfl fnX2_53 dX2_init_120 hT27 ⟨hI 27 (by decide), hL 27 (by decide), PQ_bl 23 27 (by decide +kernel)⟩ (hN.sub (by decide) (by decide)) rfl rfl (hz_capZ Z (by decide) (by decide)) ?_
  refine hz_dup (pc := 123) C dX2_init_123 rfl ?_
  refine hz_callINm (pc := 124) C (as := []) (st := [.ref 27, .int (nI 4), .ref 22, .ref 22, .ref 12]) (kc' := 15) (ks' := 177) ev_iX5_init (hN.sub (by decide) (by decide)) fyX5_init fiX2_55 rfl dX2_init_124 rfl rfl (Nat.le_of_ble_eq_true rfl) (by decide) rfl rfl (hz_capZ Z (by decide) (by decide)) ?_
  refine hz_aastG (pc := 127) C (c := 17) (cv := 5) (E := RX6) (j := 4) (M' := (I, L, PQ 24)) (fun _ => rfl) (by decide) rfl (Or.inr (hz_mn 1267 (by decide +kernel))) dX2_init_127 hT22 (by decide) hT27 (by decide) rfl (by decide) (by decide) (PQ_s (j := 23) rfl) ?_
  refine hz_dup (pc := 128) C dX2_init_128 rfl ?_
  refine hz_iconst (pc := 129) C (v := nI 5) dX2_init_129 (by decide +kernel) ?_
  refine hz_newO (pc := 130) C (n1 := 28) (kc' := 16) (ks' := 177) rfl fnX2_56 dX2_init_130 hT28 ⟨hI 28 (by decide), hL 28 (by decide), PQ_bl 24 28 (by decide +kernel)⟩ (hN.sub (by decide) (by decide)) rfl rfl (hz_capZ Z (by decide) (by decide)) ?_
  refine hz_dup (pc := 133) C dX2_init_133 rfl ?_
  refine hz_callINm (pc := 134) C (as := []) (st := [.ref 28, .int (nI 5), .ref 22, .ref 22, .ref 12]) (kc' := 16) (ks' := 177) ev_iX1_init (hN.sub (by decide) (by decide)) fyX1_init fiX2_58 rfl dX2_init_134 rfl rfl (Nat.le_of_ble_eq_true rfl) (by decide) rfl rfl (hz_capZ Z (by decide) (by decide)) ?_
  refine hz_aastG (pc := 137) C (c := 17) (cv := 1) (E := RX6) (j := 5) (M' := (I, L, PQ 25)) (fun _ => rfl) (by decide) rfl (Or.inr (hz_mn 1268 (by decide +kernel))) dX2_init_137 hT22 (by decide) hT28 (by decide) rfl (by decide) (by decide) (PQ_s (j := 24) rfl) ?_
  refine hz_putPF (pc := 138) C (M' := (I, L, PQ 26)) ffX2_59 dX2_init_138 hT12 (by decide) rfl rfl rfl (fun _ h => by cases h; rfl) (fun _ => ⟨rfl, rfl⟩) (by decide) (PQ_s (j := 25) rfl) ?_
  refine hz_iconst (pc := 141) C (v := nI 0) dX2_init_141 (by decide +kernel) ?_
  refine hz_istore_n (pc := 142) C (ls' := [some (.ref 12), some (.int (nI 0))]) dX2_init_142 (Nat.le_of_ble_eq_true rfl) rfl ?_
  refine hz_iload_n (pc := 143) C dX2_init_143 rfl ?_
  refine hz_bipush (pc := 144) C (v := nI 8) dX2_init_144 (by decide +kernel) ?_
  refine hz_ic_ge (pc := 146) C (tgt := 168) dX2_init_146 rfl (fun cq => absurd cq (nI_ge (by decide) (by decide))) (fun _ => ?_)
  refine hz_aload_n (pc := 149) C dX2_init_149 rfl ?_
  refine hz_getP (pc := 150) C (v := 21) ffX2_37 dX2_init_150 hT12 (by decide) rfl (show PQ 26 12 8 = 21 by decide +kernel) (by decide) ?_
  refine hz_iload_n (pc := 153) C dX2_init_153 rfl ?_
  refine hz_newO (pc := 154) C (n1 := 29) (kc' := 17) (ks' := 182) rfl fnX2_30 dX2_init_154 hT29 ⟨hI 29 (by decide), hL 29 (by decide), PQ_bl 26 29 (by decide +kernel)⟩ (hN.sub (by decide) (by decide)) rfl rfl (hz_capZ Z (by decide) (by decide)) ?_
  refine hz_dup (pc := 157) C dX2_init_157 rfl ?_
  refine hz_callINm (pc := 158) C (as := []) (st := [.ref 29, .int (nI 0), .ref 21]) (kc' := 18) (ks' := 188) (ev_iX3 (m := 29) (by decide) hT29 hT30 ⟨hI 30 (by decide), hL 30 (by decide), PQ_bl 26 30 (by decide +kernel)⟩ (PQ_s1 (j := 26) rfl)) (hN.sub (by decide) (by decide)) fyX3_init fiX2_32 rfl dX2_init_158 rfl rfl (Nat.le_of_ble_eq_true rfl) (by decide) rfl rfl (hz_capZ Z (by decide) (by decide)) ?_
  refine hz_aastG (pc := 161) C (c := 16) (cv := 3) (E := RX3) (j := 0) (M' := (I, L, PQ 28)) (fun _ => rfl) (by decide) rfl (Or.inl rfl) dX2_init_161 hT21 (by decide) hT29 (by decide) rfl (by decide) (by decide) (PQ_s (j := 27) rfl) ?_
  refine hz_iinc (pc := 162) C (v := nI 1) (ls' := [some (.ref 12), some (.int (nI 1))]) dX2_init_162 rfl (nI_add _ 1) rfl ?_
  refine hz_goto (pc := 165) C (tgt := 143) dX2_init_165 rfl ?_
  refine hz_iload_n (pc := 143) C dX2_init_143 rfl ?_
  refine hz_bipush (pc := 144) C (v := nI 8) dX2_init_144 (by decide +kernel) ?_
  refine hz_ic_ge (pc := 146) C (tgt := 168) dX2_init_146 rfl (fun cq => absurd cq (nI_ge (by decide) (by decide))) (fun _ => ?_)
  refine hz_aload_n (pc := 149) C dX2_init_149 rfl ?_
  refine hz_getP (pc := 150) C (v := 21) ffX2_37 dX2_init_150 hT12 (by decide) rfl (show PQ 28 12 8 = 21 by decide +kernel) (by decide) ?_
  refine hz_iload_n (pc := 153) C dX2_init_153 rfl ?_
  refine hz_newO (pc := 154) C (n1 := 31) (kc' := 19) (ks' := 193) rfl fnX2_30 dX2_init_154 hT31 ⟨hI 31 (by decide), hL 31 (by decide), PQ_bl 28 31 (by decide +kernel)⟩ (hN.sub (by decide) (by decide)) rfl rfl (hz_capZ Z (by decide) (by decide)) ?_
  refine hz_dup (pc := 157) C dX2_init_157 rfl ?_
  refine hz_callINm (pc := 158) C (as := []) (st := [.ref 31, .int (nI 1), .ref 21]) (kc' := 20) (ks' := 199) (ev_iX3 (m := 31) (by decide) hT31 hT32 ⟨hI 32 (by decide), hL 32 (by decide), PQ_bl 28 32 (by decide +kernel)⟩ (PQ_s1 (j := 28) rfl)) (hN.sub (by decide) (by decide)) fyX3_init fiX2_32 rfl dX2_init_158 rfl rfl (Nat.le_of_ble_eq_true rfl) (by decide) rfl rfl (hz_capZ Z (by decide) (by decide)) ?_
  refine hz_aastG (pc := 161) C (c := 16) (cv := 3) (E := RX3) (j := 1) (M' := (I, L, PQ 30)) (fun _ => rfl) (by decide) rfl (Or.inl rfl) dX2_init_161 hT21 (by decide) hT31 (by decide) rfl (by decide) (by decide) (PQ_s (j := 29) rfl) ?_
  refine hz_iinc (pc := 162) C (v := nI 2) (ls' := [some (.ref 12), some (.int (nI 2))]) dX2_init_162 rfl (nI_add _ 1) rfl ?_
  refine hz_goto (pc := 165) C (tgt := 143) dX2_init_165 rfl ?_
  refine hz_iload_n (pc := 143) C dX2_init_143 rfl ?_
  refine hz_bipush (pc := 144) C (v := nI 8) dX2_init_144 (by decide +kernel) ?_
  refine hz_ic_ge (pc := 146) C (tgt := 168) dX2_init_146 rfl (fun cq => absurd cq (nI_ge (by decide) (by decide))) (fun _ => ?_)
  refine hz_aload_n (pc := 149) C dX2_init_149 rfl ?_
  refine hz_getP (pc := 150) C (v := 21) ffX2_37 dX2_init_150 hT12 (by decide) rfl (show PQ 30 12 8 = 21 by decide +kernel) (by decide) ?_
  refine hz_iload_n (pc := 153) C dX2_init_153 rfl ?_
  refine hz_newO (pc := 154) C (n1 := 33) (kc' := 21) (ks' := 204) rfl fnX2_30 dX2_init_154 hT33 ⟨hI 33 (by decide), hL 33 (by decide), PQ_bl 30 33 (by decide +kernel)⟩ (hN.sub (by decide) (by decide)) rfl rfl (hz_capZ Z (by decide) (by decide)) ?_
  refine hz_dup (pc := 157) C dX2_init_157 rfl ?_
  refine hz_callINm (pc := 158) C (as := []) (st := [.ref 33, .int (nI 2), .ref 21]) (kc' := 22) (ks' := 210) (ev_iX3 (m := 33) (by decide) hT33 hT34 ⟨hI 34 (by decide), hL 34 (by decide), PQ_bl 30 34 (by decide +kernel)⟩ (PQ_s1 (j := 30) rfl)) (hN.sub (by decide) (by decide)) fyX3_init fiX2_32 rfl dX2_init_158 rfl rfl (Nat.le_of_ble_eq_true rfl) (by decide) rfl rfl (hz_capZ Z (by decide) (by decide)) ?_
  refine hz_aastG (pc := 161) C (c := 16) (cv := 3) (E := RX3) (j := 2) (M' := (I, L, PQ 32)) (fun _ => rfl) (by decide) rfl (Or.inl rfl) dX2_init_161 hT21 (by decide) hT33 (by decide) rfl (by decide) (by decide) (PQ_s (j := 31) rfl) ?_
  refine hz_iinc (pc := 162) C (v := nI 3) (ls' := [some (.ref 12), some (.int (nI 3))]) dX2_init_162 rfl (nI_add _ 1) rfl ?_
  refine hz_goto (pc := 165) C (tgt := 143) dX2_init_165 rfl ?_
  refine hz_iload_n (pc := 143) C dX2_init_143 rfl ?_
  refine hz_bipush (pc := 144) C (v := nI 8) dX2_init_144 (by decide +kernel) ?_
  refine hz_ic_ge (pc := 146) C (tgt := 168) dX2_init_146 rfl (fun cq => absurd cq (nI_ge (by decide) (by decide))) (fun _ => ?_)
  refine hz_aload_n (pc := 149) C dX2_init_149 rfl ?_
  refine hz_getP (pc := 150) C (v := 21) ffX2_37 dX2_init_150 hT12 (by decide) rfl (show PQ 32 12 8 = 21 by decide +kernel) (by decide) ?_
  refine hz_iload_n (pc := 153) C dX2_init_153 rfl ?_
  refine hz_newO (pc := 154) C (n1 := 35) (kc' := 23) (ks' := 215) rfl fnX2_30 dX2_init_154 hT35 ⟨hI 35 (by decide), hL 35 (by decide), PQ_bl 32 35 (by decide +kernel)⟩ (hN.sub (by decide) (by decide)) rfl rfl (hz_capZ Z (by decide) (by decide)) ?_
  refine hz_dup (pc := 157) C dX2_init_157 rfl ?_
  refine hz_callINm (pc := 158) C (as := []) (st := [.ref 35, .int (nI 3), .ref 21]) (kc' := 24) (ks' := 221) (ev_iX3 (m := 35) (by decide) hT35 hT36 ⟨hI 36 (by decide), hL 36 (by decide), PQ_bl 32 36 (by decide +kernel)⟩ (PQ_s1 (j := 32) rfl)) (hN.sub (by decide) (by decide)) fyX3_init fiX2_32 rfl dX2_init_158 rfl rfl (Nat.le_of_ble_eq_true rfl) (by decide) rfl rfl (hz_capZ Z (by decide) (by decide)) ?_
  refine hz_aastG (pc := 161) C (c := 16) (cv := 3) (E := RX3) (j := 3) (M' := (I, L, PQ 34)) (fun _ => rfl) (by decide) rfl (Or.inl rfl) dX2_init_161 hT21 (by decide) hT35 (by decide) rfl (by decide) (by decide) (PQ_s (j := 33) rfl) ?_
  refine hz_iinc (pc := 162) C (v := nI 4) (ls' := [some (.ref 12), some (.int (nI 4))]) dX2_init_162 rfl (nI_add _ 1) rfl ?_
  refine hz_goto (pc := 165) C (tgt := 143) dX2_init_165 rfl ?_
  refine hz_iload_n (pc := 143) C dX2_init_143 rfl ?_
  refine hz_bipush (pc := 144) C (v := nI 8) dX2_init_144 (by decide +kernel) ?_
  refine hz_ic_ge (pc := 146) C (tgt := 168) dX2_init_146 rfl (fun cq => absurd cq (nI_ge (by decide) (by decide))) (fun _ => ?_)
  refine hz_aload_n (pc := 149) C dX2_init_149 rfl ?_
  refine hz_getP (pc := 150) C (v := 21) ffX2_37 dX2_init_150 hT12 (by decide) rfl (show PQ 34 12 8 = 21 by decide +kernel) (by decide) ?_
  refine hz_iload_n (pc := 153) C dX2_init_153 rfl ?_
  refine hz_newO (pc := 154) C (n1 := 37) (kc' := 25) (ks' := 226) rfl fnX2_30 dX2_init_154 hT37 ⟨hI 37 (by decide), hL 37 (by decide), PQ_bl 34 37 (by decide +kernel)⟩ (hN.sub (by decide) (by decide)) rfl rfl (hz_capZ Z (by decide) (by decide)) ?_
  refine hz_dup (pc := 157) C dX2_init_157 rfl ?_
  refine hz_callINm (pc := 158) C (as := []) (st := [.ref 37, .int (nI 4), .ref 21]) (kc' := 26) (ks' := 232) (ev_iX3 (m := 37) (by decide) hT37 hT38 ⟨hI 38 (by decide), hL 38 (by decide), PQ_bl 34 38 (by decide +kernel)⟩ (PQ_s1 (j := 34) rfl)) (hN.sub (by decide) (by decide)) fyX3_init fiX2_32 rfl dX2_init_158 rfl rfl (Nat.le_of_ble_eq_true rfl) (by decide) rfl rfl (hz_capZ Z (by decide) (by decide)) ?_
  refine hz_aastG (pc := 161) C (c := 16) (cv := 3) (E := RX3) (j := 4) (M' := (I, L, PQ 36)) (fun _ => rfl) (by decide) rfl (Or.inl rfl) dX2_init_161 hT21 (by decide) hT37 (by decide) rfl (by decide) (by decide) (PQ_s (j := 35) rfl) ?_
  refine hz_iinc (pc := 162) C (v := nI 5) (ls' := [some (.ref 12), some (.int (nI 5))]) dX2_init_162 rfl (nI_add _ 1) rfl ?_
  refine hz_goto (pc := 165) C (tgt := 143) dX2_init_165 rfl ?_
  refine hz_iload_n (pc := 143) C dX2_init_143 rfl ?_
  refine hz_bipush (pc := 144) C (v := nI 8) dX2_init_144 (by decide +kernel) ?_
  refine hz_ic_ge (pc := 146) C (tgt := 168) dX2_init_146 rfl (fun cq => absurd cq (nI_ge (by decide) (by decide))) (fun _ => ?_)
  refine hz_aload_n (pc := 149) C dX2_init_149 rfl ?_
  refine hz_getP (pc := 150) C (v := 21) ffX2_37 dX2_init_150 hT12 (by decide) rfl (show PQ 36 12 8 = 21 by decide +kernel) (by decide) ?_
  refine hz_iload_n (pc := 153) C dX2_init_153 rfl ?_
  refine hz_newO (pc := 154) C (n1 := 39) (kc' := 27) (ks' := 237) rfl fnX2_30 dX2_init_154 hT39 ⟨hI 39 (by decide), hL 39 (by decide), PQ_bl 36 39 (by decide +kernel)⟩ (hN.sub (by decide) (by decide)) rfl rfl (hz_capZ Z (by decide) (by decide)) ?_
  refine hz_dup (pc := 157) C dX2_init_157 rfl ?_
  refine hz_callINm (pc := 158) C (as := []) (st := [.ref 39, .int (nI 5), .ref 21]) (kc' := 28) (ks' := 243) (ev_iX3 (m := 39) (by decide) hT39 hT40 ⟨hI 40 (by decide), hL 40 (by decide), PQ_bl 36 40 (by decide +kernel)⟩ (PQ_s1 (j := 36) rfl)) (hN.sub (by decide) (by decide)) fyX3_init fiX2_32 rfl dX2_init_158 rfl rfl (Nat.le_of_ble_eq_true rfl) (by decide) rfl rfl (hz_capZ Z (by decide) (by decide)) ?_
  refine hz_aastG (pc := 161) C (c := 16) (cv := 3) (E := RX3) (j := 5) (M' := (I, L, PQ 38)) (fun _ => rfl) (by decide) rfl (Or.inl rfl) dX2_init_161 hT21 (by decide) hT39 (by decide) rfl (by decide) (by decide) (PQ_s (j := 37) rfl) ?_
  refine hz_iinc (pc := 162) C (v := nI 6) (ls' := [some (.ref 12), some (.int (nI 6))]) dX2_init_162 rfl (nI_add _ 1) rfl ?_
  refine hz_goto (pc := 165) C (tgt := 143) dX2_init_165 rfl ?_
  refine hz_iload_n (pc := 143) C dX2_init_143 rfl ?_
  refine hz_bipush (pc := 144) C (v := nI 8) dX2_init_144 (by decide +kernel) ?_
  refine hz_ic_ge (pc := 146) C (tgt := 168) dX2_init_146 rfl (fun cq => absurd cq (nI_ge (by decide) (by decide))) (fun _ => ?_)
  refine hz_aload_n (pc := 149) C dX2_init_149 rfl ?_
  refine hz_getP (pc := 150) C (v := 21) ffX2_37 dX2_init_150 hT12 (by decide) rfl (show PQ 38 12 8 = 21 by decide +kernel) (by decide) ?_
  refine hz_iload_n (pc := 153) C dX2_init_153 rfl ?_
  refine hz_newO (pc := 154) C (n1 := 41) (kc' := 29) (ks' := 248) rfl fnX2_30 dX2_init_154 hT41 ⟨hI 41 (by decide), hL 41 (by decide), PQ_bl 38 41 (by decide +kernel)⟩ (hN.sub (by decide) (by decide)) rfl rfl (hz_capZ Z (by decide) (by decide)) ?_
  refine hz_dup (pc := 157) C dX2_init_157 rfl ?_
  refine hz_callINm (pc := 158) C (as := []) (st := [.ref 41, .int (nI 6), .ref 21]) (kc' := 30) (ks' := 254) (ev_iX3 (m := 41) (by decide) hT41 hT42 ⟨hI 42 (by decide), hL 42 (by decide), PQ_bl 38 42 (by decide +kernel)⟩ (PQ_s1 (j := 38) rfl)) (hN.sub (by decide) (by decide)) fyX3_init fiX2_32 rfl dX2_init_158 rfl rfl (Nat.le_of_ble_eq_true rfl) (by decide) rfl rfl (hz_capZ Z (by decide) (by decide)) ?_
  refine hz_aastG (pc := 161) C (c := 16) (cv := 3) (E := RX3) (j := 6) (M' := (I, L, PQ 40)) (fun _ => rfl) (by decide) rfl (Or.inl rfl) dX2_init_161 hT21 (by decide) hT41 (by decide) rfl (by decide) (by decide) (PQ_s (j := 39) rfl) ?_
  refine hz_iinc (pc := 162) C (v := nI 7) (ls' := [some (.ref 12), some (.int (nI 7))]) dX2_init_162 rfl (nI_add _ 1) rfl ?_
  refine hz_goto (pc := 165) C (tgt := 143) dX2_init_165 rfl ?_
  refine hz_iload_n (pc := 143) C dX2_init_143 rfl ?_
  refine hz_bipush (pc := 144) C (v := nI 8) dX2_init_144 (by decide +kernel) ?_
  refine hz_ic_ge (pc := 146) C (tgt := 168) dX2_init_146 rfl (fun cq => absurd cq (nI_ge (by decide) (by decide))) (fun _ => ?_)
  refine hz_aload_n (pc := 149) C dX2_init_149 rfl ?_
  refine hz_getP (pc := 150) C (v := 21) ffX2_37 dX2_init_150 hT12 (by decide) rfl (show PQ 40 12 8 = 21 by decide +kernel) (by decide) ?_
  refine hz_iload_n (pc := 153) C dX2_init_153 rfl ?_
  refine hz_newO (pc := 154) C (n1 := 43) (kc' := 31) (ks' := 259) rfl fnX2_30 dX2_init_154 hT43 ⟨hI 43 (by decide), hL 43 (by decide), PQ_bl 40 43 (by decide +kernel)⟩ (hN.sub (by decide) (by decide)) rfl rfl (hz_capZ Z (by decide) (by decide)) ?_
  refine hz_dup (pc := 157) C dX2_init_157 rfl ?_
  refine hz_callINm (pc := 158) C (as := []) (st := [.ref 43, .int (nI 7), .ref 21]) (kc' := 32) (ks' := 265) (ev_iX3 (m := 43) (by decide) hT43 hT44 ⟨hI 44 (by decide), hL 44 (by decide), PQ_bl 40 44 (by decide +kernel)⟩ (PQ_s1 (j := 40) rfl)) (hN.sub (by decide) (by decide)) fyX3_init fiX2_32 rfl dX2_init_158 rfl rfl (Nat.le_of_ble_eq_true rfl) (by decide) rfl rfl (hz_capZ Z (by decide) (by decide)) ?_
  refine hz_aastG (pc := 161) C (c := 16) (cv := 3) (E := RX3) (j := 7) (M' := (I, L, PQ 42)) (fun _ => rfl) (by decide) rfl (Or.inl rfl) dX2_init_161 hT21 (by decide) hT43 (by decide) rfl (by decide) (by decide) (PQ_s (j := 41) rfl) ?_
  refine hz_iinc (pc := 162) C (v := nI 8) (ls' := [some (.ref 12), some (.int (nI 8))]) dX2_init_162 rfl (nI_add _ 1) rfl ?_
  refine hz_goto (pc := 165) C (tgt := 143) dX2_init_165 rfl ?_
  refine hz_iload_n (pc := 143) C dX2_init_143 rfl ?_
  refine hz_bipush (pc := 144) C (v := nI 8) dX2_init_144 (by decide +kernel) ?_
  refine hz_ic_ge (pc := 146) C (tgt := 168) dX2_init_146 rfl (fun _ => ?_) (fun cq => absurd (nI_le (by decide) (by decide)) cq)
  refine hz_aload_n (pc := 168) C dX2_init_168 rfl ?_
  refine hz_callVv (pc := 169) C (as := []) (st := []) (ev_rsG12 (show PQ 42 12 1 = 13 by decide +kernel) (show PQ 42 12 7 = 19 by decide +kernel)) (hz_new0 _ _) fyX2_reset fvX2_63 rfl dX2_init_169 hT12 rfl rfl (by decide) rfl rfl (Nat.le_of_ble_eq_true rfl) (by decide) (hz_capZ Z (by decide) (by decide)) ?_
  exact hz_vret C Z rfl dX2_init_172 rfl
set_option maxHeartbeats 4000000 in
set_option maxRecDepth 100000 in
theorem ev_iX2_45 {I : Nat → Nat → Int32} {L : Nat → Nat → Int64} (hI : ∀ a, 45 < a → ∀ k, I a k = 0) (hL : ∀ a, 45 < a → ∀ k, L a k = 0) : hz_Ev mX2_init TT 45 (I, L, PQ 43) [.ref 45] 32 265 none TT 77 (rsI 45 I, L, PQ 75) := by
  refine hz_Ev.intro (ls := [some (.ref 45), none]) (by decide +kernel) rfl (Nat.le_of_ble_eq_true rfl) (fun X C Z hN => ?_)
  refine hz_aload_n (pc := 0) C dX2_init_0 rfl ?_
  refine hz_objInit (pc := 1) C foX2_3 dX2_init_1 rfl (Nat.le_of_ble_eq_true rfl) (by decide) ?_
  refine hz_aload_n (pc := 4) C dX2_init_4 rfl ?_
  refine hz_bipush (pc := 5) C (v := nI 64) dX2_init_5 (by decide +kernel) ?_
  refine hz_newA (pc := 7) C (n1 := 46) (ty := .int) (c := 13) (kc' := 1) (ks' := 64) rfl dX2_init_7 rfl (hz_mp 144 (by decide +kernel)) (fun _ => rfl) (fun _ _ h => h) rfl ⟨by decide, by decide⟩ hT46 rfl (by decide) (by decide +kernel) ⟨hI 46 (by decide), hL 46 (by decide), PQ_bl 43 46 (by decide +kernel)⟩ (hN.sub (by decide) (by decide)) rfl rfl (hz_capZ Z (by decide) (by decide)) ?_
  refine hz_putPF (pc := 9) C (M' := (I, L, PQ 44)) ffX2_9 dX2_init_9 hT45 (by decide) rfl rfl rfl (fun _ h => by cases h; rfl) (fun _ => ⟨rfl, rfl⟩) (by decide) (PQ_s (j := 43) rfl) ?_
  refine hz_aload_n (pc := 12) C dX2_init_12 rfl ?_
  refine hz_bipush (pc := 13) C (v := nI 64) dX2_init_13 (by decide +kernel) ?_
  refine hz_newA (pc := 15) C (n1 := 47) (ty := .int) (c := 13) (kc' := 2) (ks' := 128) rfl dX2_init_15 rfl (hz_mp 144 (by decide +kernel)) (fun _ => rfl) (fun _ _ h => h) rfl ⟨by decide, by decide⟩ hT47 rfl (by decide) (by decide +kernel) ⟨hI 47 (by decide), hL 47 (by decide), PQ_bl 44 47 (by decide +kernel)⟩ (hN.sub (by decide) (by decide)) rfl rfl (hz_capZ Z (by decide) (by decide)) ?_
  refine hz_putPF (pc := 17) C (M' := (I, L, PQ 45)) ffX2_15 dX2_init_17 hT45 (by decide) rfl rfl rfl (fun _ h => by cases h; rfl) (fun _ => ⟨rfl, rfl⟩) (by decide) (PQ_s (j := 44) rfl) ?_
  refine hz_aload_n (pc := 20) C dX2_init_20 rfl ?_
  refine hz_bipush (pc := 21) C (v := nI 6) dX2_init_21 (by decide +kernel) ?_
  refine hz_newA (pc := 23) C (n1 := 48) (ty := .int) (c := 13) (kc' := 3) (ks' := 134) rfl dX2_init_23 rfl (hz_mp 144 (by decide +kernel)) (fun _ => rfl) (fun _ _ h => h) rfl ⟨by decide, by decide⟩ hT48 rfl (by decide) (by decide +kernel) ⟨hI 48 (by decide), hL 48 (by decide), PQ_bl 45 48 (by decide +kernel)⟩ (hN.sub (by decide) (by decide)) rfl rfl (hz_capZ Z (by decide) (by decide)) ?_
  refine hz_putPF (pc := 25) C (M' := (I, L, PQ 46)) ffX2_18 dX2_init_25 hT45 (by decide) rfl rfl rfl (fun _ h => by cases h; rfl) (fun _ => ⟨rfl, rfl⟩) (by decide) (PQ_s (j := 45) rfl) ?_
  refine hz_aload_n (pc := 28) C dX2_init_28 rfl ?_
  refine hz_bipush (pc := 29) C (v := nI 6) dX2_init_29 (by decide +kernel) ?_
  refine hz_newA (pc := 31) C (n1 := 49) (ty := .int) (c := 13) (kc' := 4) (ks' := 140) rfl dX2_init_31 rfl (hz_mp 144 (by decide +kernel)) (fun _ => rfl) (fun _ _ h => h) rfl ⟨by decide, by decide⟩ hT49 rfl (by decide) (by decide +kernel) ⟨hI 49 (by decide), hL 49 (by decide), PQ_bl 46 49 (by decide +kernel)⟩ (hN.sub (by decide) (by decide)) rfl rfl (hz_capZ Z (by decide) (by decide)) ?_
  refine hz_putPF (pc := 33) C (M' := (I, L, PQ 47)) ffX2_21 dX2_init_33 hT45 (by decide) rfl rfl rfl (fun _ h => by cases h; rfl) (fun _ => ⟨rfl, rfl⟩) (by decide) (PQ_s (j := 46) rfl) ?_
  refine hz_aload_n (pc := 36) C dX2_init_36 rfl ?_
  refine hz_bipush (pc := 37) C (v := nI 6) dX2_init_37 (by decide +kernel) ?_
  refine hz_newA (pc := 39) C (n1 := 50) (ty := .int) (c := 13) (kc' := 5) (ks' := 146) rfl dX2_init_39 rfl (hz_mp 144 (by decide +kernel)) (fun _ => rfl) (fun _ _ h => h) rfl ⟨by decide, by decide⟩ hT50 rfl (by decide) (by decide +kernel) ⟨hI 50 (by decide), hL 50 (by decide), PQ_bl 47 50 (by decide +kernel)⟩ (hN.sub (by decide) (by decide)) rfl rfl (hz_capZ Z (by decide) (by decide)) ?_
  refine hz_putPF (pc := 41) C (M' := (I, L, PQ 48)) ffX2_24 dX2_init_41 hT45 (by decide) rfl rfl rfl (fun _ h => by cases h; rfl) (fun _ => ⟨rfl, rfl⟩) (by decide) (PQ_s (j := 47) rfl) ?_
  refine hz_aload_n (pc := 44) C dX2_init_44 rfl ?_
  refine hz_bipush (pc := 45) C (v := nI 6) dX2_init_45 (by decide +kernel) ?_
  refine hz_newA (pc := 47) C (n1 := 51) (ty := .int) (c := 13) (kc' := 6) (ks' := 152) rfl dX2_init_47 rfl (hz_mp 144 (by decide +kernel)) (fun _ => rfl) (fun _ _ h => h) rfl ⟨by decide, by decide⟩ hT51 rfl (by decide) (by decide +kernel) ⟨hI 51 (by decide), hL 51 (by decide), PQ_bl 48 51 (by decide +kernel)⟩ (hN.sub (by decide) (by decide)) rfl rfl (hz_capZ Z (by decide) (by decide)) ?_
  refine hz_putPF (pc := 49) C (M' := (I, L, PQ 49)) ffX2_27 dX2_init_49 hT45 (by decide) rfl rfl rfl (fun _ h => by cases h; rfl) (fun _ => ⟨rfl, rfl⟩) (by decide) (PQ_s (j := 48) rfl) ?_
  refine hz_aload_n (pc := 52) C dX2_init_52 rfl ?_
  refine hz_newO (pc := 53) C (n1 := 52) (kc' := 7) (ks' := 157) rfl fnX2_30 dX2_init_53 hT52 ⟨hI 52 (by decide), hL 52 (by decide), PQ_bl 49 52 (by decide +kernel)⟩ (hN.sub (by decide) (by decide)) rfl rfl (hz_capZ Z (by decide) (by decide)) ?_
  refine hz_dup (pc := 56) C dX2_init_56 rfl ?_
  refine hz_callINm (pc := 57) C (as := []) (st := [.ref 52, .ref 45]) (kc' := 8) (ks' := 163) (ev_iX3 (m := 52) (by decide) hT52 hT53 ⟨hI 53 (by decide), hL 53 (by decide), PQ_bl 49 53 (by decide +kernel)⟩ (PQ_s1 (j := 49) rfl)) (hN.sub (by decide) (by decide)) fyX3_init fiX2_32 rfl dX2_init_57 rfl rfl (Nat.le_of_ble_eq_true rfl) (by decide) rfl rfl (hz_capZ Z (by decide) (by decide)) ?_
  refine hz_putPF (pc := 60) C (M' := (I, L, PQ 51)) ffX2_33 dX2_init_60 hT45 (by decide) rfl rfl rfl (fun _ h => by cases h; rfl) (fun _ => ⟨rfl, rfl⟩) (by decide) (PQ_s (j := 50) rfl) ?_
  refine hz_aload_n (pc := 63) C dX2_init_63 rfl ?_
  refine hz_bipush (pc := 64) C (v := nI 8) dX2_init_64 (by decide +kernel) ?_
  refine hz_newQ (pc := 66) C (n1 := 54) (E := RX3) (c := 16) (kc' := 9) (ks' := 171) rfl dX2_init_66 (hz_mp 151 (by decide +kernel)) (hz_mn 188 (by decide +kernel)) (fun _ => rfl) (by decide) hT54 rfl (by decide) ⟨hI 54 (by decide), hL 54 (by decide), PQ_bl 51 54 (by decide +kernel)⟩ (hN.sub (by decide) (by decide)) rfl rfl (hz_capZ Z (by decide) (by decide)) ?_
  refine hz_putPF (pc := 69) C (M' := (I, L, PQ 52)) ffX2_37 dX2_init_69 hT45 (by decide) rfl rfl rfl (fun _ h => by cases h; rfl) (fun _ => ⟨rfl, rfl⟩) (by decide) (PQ_s (j := 51) rfl) ?_
  refine hz_aload_n (pc := 72) C dX2_init_72 rfl ?_
  refine hz_bipush (pc := 73) C (v := nI 6) dX2_init_73 (by decide +kernel) ?_
  refine hz_newQ (pc := 75) C (n1 := 55) (E := RX6) (c := 17) (kc' := 10) (ks' := 177) rfl dX2_init_75 (hz_mp 189 (by decide +kernel)) (hz_mn 190 (by decide +kernel)) (fun _ => rfl) (by decide) hT55 rfl (by decide) ⟨hI 55 (by decide), hL 55 (by decide), PQ_bl 52 55 (by decide +kernel)⟩ (hN.sub (by decide) (by decide)) rfl rfl (hz_capZ Z (by decide) (by decide)) ?_
  refine hz_dup (pc := 78) C dX2_init_78 rfl ?_
  refine hz_iconst (pc := 79) C (v := nI 0) dX2_init_79 (by decide +kernel) ?_
  refine hz_newO (pc := 80) C (n1 := 56) (kc' := 11) (ks' := 177) rfl fnX2_41 dX2_init_80 hT56 ⟨hI 56 (by decide), hL 56 (by decide), PQ_bl 52 56 (by decide +kernel)⟩ (hN.sub (by decide) (by decide)) rfl rfl (hz_capZ Z (by decide) (by decide)) ?_
  refine hz_dup (pc := 83) C dX2_init_83 rfl ?_
  refine hz_callINm (pc := 84) C (as := []) (st := [.ref 56, .int (nI 0), .ref 55, .ref 55, .ref 45]) (kc' := 11) (ks' := 177) ev_iX6_init (hN.sub (by decide) (by decide)) fyX6_init fiX2_43 rfl dX2_init_84 rfl rfl (Nat.le_of_ble_eq_true rfl) (by decide) rfl rfl (hz_capZ Z (by decide) (by decide)) ?_
  refine hz_aastG (pc := 87) C (c := 17) (cv := 6) (E := RX6) (j := 0) (M' := (I, L, PQ 53)) (fun _ => rfl) (by decide) rfl (Or.inl rfl) dX2_init_87 hT55 (by decide) hT56 (by decide) rfl (by decide) (by decide) (PQ_s (j := 52) rfl) ?_
  refine hz_dup (pc := 88) C dX2_init_88 rfl ?_
  refine hz_iconst (pc := 89) C (v := nI 1) dX2_init_89 (by decide +kernel) ?_
  refine hz_newO (pc := 90) C (n1 := 57) (kc' := 12) (ks' := 177) rfl fnX2_44 dX2_init_90 hT57 ⟨hI 57 (by decide), hL 57 (by decide), PQ_bl 53 57 (by decide +kernel)⟩ (hN.sub (by decide) (by decide)) rfl rfl (hz_capZ Z (by decide) (by decide)) ?_
  refine hz_dup (pc := 93) C dX2_init_93 rfl ?_
  refine hz_callINm (pc := 94) C (as := []) (st := [.ref 57, .int (nI 1), .ref 55, .ref 55, .ref 45]) (kc' := 12) (ks' := 177) ev_iX4_init (hN.sub (by decide) (by decide)) fyX4_init fiX2_46 rfl dX2_init_94 rfl rfl (Nat.le_of_ble_eq_true rfl) (by decide) rfl rfl (hz_capZ Z (by decide) (by decide)) ?_
  refine hz_aastG (pc := 97) C (c := 17) (cv := 4) (E := RX6) (j := 1) (M' := (I, L, PQ 54)) (fun _ => rfl) (by decide) rfl (Or.inr (hz_mn 1264 (by decide +kernel))) dX2_init_97 hT55 (by decide) hT57 (by decide) rfl (by decide) (by decide) (PQ_s (j := 53) rfl) ?_
  refine hz_dup (pc := 98) C dX2_init_98 rfl ?_
  refine hz_iconst (pc := 99) C (v := nI 2) dX2_init_99 (by decide +kernel) ?_
  refine hz_newO (pc := 100) C (n1 := 58) (kc' := 13) (ks' := 177) rfl fnX2_47 dX2_init_100 hT58 ⟨hI 58 (by decide), hL 58 (by decide), PQ_bl 54 58 (by decide +kernel)⟩ (hN.sub (by decide) (by decide)) rfl rfl (hz_capZ Z (by decide) (by decide)) ?_
  refine hz_dup (pc := 103) C dX2_init_103 rfl ?_
  refine hz_callINm (pc := 104) C (as := []) (st := [.ref 58, .int (nI 2), .ref 55, .ref 55, .ref 45]) (kc' := 13) (ks' := 177) ev_iX9_init (hN.sub (by decide) (by decide)) fyX9_init fiX2_49 rfl dX2_init_104 rfl rfl (Nat.le_of_ble_eq_true rfl) (by decide) rfl rfl (hz_capZ Z (by decide) (by decide)) ?_
  refine hz_aastG (pc := 107) C (c := 17) (cv := 9) (E := RX6) (j := 2) (M' := (I, L, PQ 55)) (fun _ => rfl) (by decide) rfl (Or.inr (hz_mn 1265 (by decide +kernel))) dX2_init_107 hT55 (by decide) hT58 (by decide) rfl (by decide) (by decide) (PQ_s (j := 54) rfl) ?_
  refine hz_dup (pc := 108) C dX2_init_108 rfl ?_
  refine hz_iconst (pc := 109) C (v := nI 3) dX2_init_109 (by decide +kernel) ?_
  refine hz_newO (pc := 110) C (n1 := 59) (kc' := 14) (ks' := 177) rfl fnX2_50 dX2_init_110 hT59 ⟨hI 59 (by decide), hL 59 (by decide), PQ_bl 55 59 (by decide +kernel)⟩ (hN.sub (by decide) (by decide)) rfl rfl (hz_capZ Z (by decide) (by decide)) ?_
  refine hz_dup (pc := 113) C dX2_init_113 rfl ?_
  refine hz_callINm (pc := 114) C (as := []) (st := [.ref 59, .int (nI 3), .ref 55, .ref 55, .ref 45]) (kc' := 14) (ks' := 177) ev_iX0_init (hN.sub (by decide) (by decide)) fyX0_init fiX2_52 rfl dX2_init_114 rfl rfl (Nat.le_of_ble_eq_true rfl) (by decide) rfl rfl (hz_capZ Z (by decide) (by decide)) ?_
  refine hz_aastG (pc := 117) C (c := 17) (cv := 0) (E := RX6) (j := 3) (M' := (I, L, PQ 56)) (fun _ => rfl) (by decide) rfl (Or.inr (hz_mn 1266 (by decide +kernel))) dX2_init_117 hT55 (by decide) hT59 (by decide) rfl (by decide) (by decide) (PQ_s (j := 55) rfl) ?_
  refine hz_dup (pc := 118) C dX2_init_118 rfl ?_
  refine hz_iconst (pc := 119) C (v := nI 4) dX2_init_119 (by decide +kernel) ?_
  refine hz_newO (pc := 120) C (n1 := 60) (kc' := 15) (ks' := 177) rfl fnX2_53 dX2_init_120 hT60 ⟨hI 60 (by decide), hL 60 (by decide), PQ_bl 56 60 (by decide +kernel)⟩ (hN.sub (by decide) (by decide)) rfl rfl (hz_capZ Z (by decide) (by decide)) ?_
  refine hz_dup (pc := 123) C dX2_init_123 rfl ?_
  refine hz_callINm (pc := 124) C (as := []) (st := [.ref 60, .int (nI 4), .ref 55, .ref 55, .ref 45]) (kc' := 15) (ks' := 177) ev_iX5_init (hN.sub (by decide) (by decide)) fyX5_init fiX2_55 rfl dX2_init_124 rfl rfl (Nat.le_of_ble_eq_true rfl) (by decide) rfl rfl (hz_capZ Z (by decide) (by decide)) ?_
  refine hz_aastG (pc := 127) C (c := 17) (cv := 5) (E := RX6) (j := 4) (M' := (I, L, PQ 57)) (fun _ => rfl) (by decide) rfl (Or.inr (hz_mn 1267 (by decide +kernel))) dX2_init_127 hT55 (by decide) hT60 (by decide) rfl (by decide) (by decide) (PQ_s (j := 56) rfl) ?_
  refine hz_dup (pc := 128) C dX2_init_128 rfl ?_
  refine hz_iconst (pc := 129) C (v := nI 5) dX2_init_129 (by decide +kernel) ?_
  refine hz_newO (pc := 130) C (n1 := 61) (kc' := 16) (ks' := 177) rfl fnX2_56 dX2_init_130 hT61 ⟨hI 61 (by decide), hL 61 (by decide), PQ_bl 57 61 (by decide +kernel)⟩ (hN.sub (by decide) (by decide)) rfl rfl (hz_capZ Z (by decide) (by decide)) ?_
  refine hz_dup (pc := 133) C dX2_init_133 rfl ?_
  refine hz_callINm (pc := 134) C (as := []) (st := [.ref 61, .int (nI 5), .ref 55, .ref 55, .ref 45]) (kc' := 16) (ks' := 177) ev_iX1_init (hN.sub (by decide) (by decide)) fyX1_init fiX2_58 rfl dX2_init_134 rfl rfl (Nat.le_of_ble_eq_true rfl) (by decide) rfl rfl (hz_capZ Z (by decide) (by decide)) ?_
  refine hz_aastG (pc := 137) C (c := 17) (cv := 1) (E := RX6) (j := 5) (M' := (I, L, PQ 58)) (fun _ => rfl) (by decide) rfl (Or.inr (hz_mn 1268 (by decide +kernel))) dX2_init_137 hT55 (by decide) hT61 (by decide) rfl (by decide) (by decide) (PQ_s (j := 57) rfl) ?_
  refine hz_putPF (pc := 138) C (M' := (I, L, PQ 59)) ffX2_59 dX2_init_138 hT45 (by decide) rfl rfl rfl (fun _ h => by cases h; rfl) (fun _ => ⟨rfl, rfl⟩) (by decide) (PQ_s (j := 58) rfl) ?_
  refine hz_iconst (pc := 141) C (v := nI 0) dX2_init_141 (by decide +kernel) ?_
  refine hz_istore_n (pc := 142) C (ls' := [some (.ref 45), some (.int (nI 0))]) dX2_init_142 (Nat.le_of_ble_eq_true rfl) rfl ?_
  refine hz_iload_n (pc := 143) C dX2_init_143 rfl ?_
  refine hz_bipush (pc := 144) C (v := nI 8) dX2_init_144 (by decide +kernel) ?_
  refine hz_ic_ge (pc := 146) C (tgt := 168) dX2_init_146 rfl (fun cq => absurd cq (nI_ge (by decide) (by decide))) (fun _ => ?_)
  refine hz_aload_n (pc := 149) C dX2_init_149 rfl ?_
  refine hz_getP (pc := 150) C (v := 54) ffX2_37 dX2_init_150 hT45 (by decide) rfl (show PQ 59 45 8 = 54 by decide +kernel) (by decide) ?_
  refine hz_iload_n (pc := 153) C dX2_init_153 rfl ?_
  refine hz_newO (pc := 154) C (n1 := 62) (kc' := 17) (ks' := 182) rfl fnX2_30 dX2_init_154 hT62 ⟨hI 62 (by decide), hL 62 (by decide), PQ_bl 59 62 (by decide +kernel)⟩ (hN.sub (by decide) (by decide)) rfl rfl (hz_capZ Z (by decide) (by decide)) ?_
  refine hz_dup (pc := 157) C dX2_init_157 rfl ?_
  refine hz_callINm (pc := 158) C (as := []) (st := [.ref 62, .int (nI 0), .ref 54]) (kc' := 18) (ks' := 188) (ev_iX3 (m := 62) (by decide) hT62 hT63 ⟨hI 63 (by decide), hL 63 (by decide), PQ_bl 59 63 (by decide +kernel)⟩ (PQ_s1 (j := 59) rfl)) (hN.sub (by decide) (by decide)) fyX3_init fiX2_32 rfl dX2_init_158 rfl rfl (Nat.le_of_ble_eq_true rfl) (by decide) rfl rfl (hz_capZ Z (by decide) (by decide)) ?_
  refine hz_aastG (pc := 161) C (c := 16) (cv := 3) (E := RX3) (j := 0) (M' := (I, L, PQ 61)) (fun _ => rfl) (by decide) rfl (Or.inl rfl) dX2_init_161 hT54 (by decide) hT62 (by decide) rfl (by decide) (by decide) (PQ_s (j := 60) rfl) ?_
  refine hz_iinc (pc := 162) C (v := nI 1) (ls' := [some (.ref 45), some (.int (nI 1))]) dX2_init_162 rfl (nI_add _ 1) rfl ?_
  refine hz_goto (pc := 165) C (tgt := 143) dX2_init_165 rfl ?_
  refine hz_iload_n (pc := 143) C dX2_init_143 rfl ?_
  refine hz_bipush (pc := 144) C (v := nI 8) dX2_init_144 (by decide +kernel) ?_
  refine hz_ic_ge (pc := 146) C (tgt := 168) dX2_init_146 rfl (fun cq => absurd cq (nI_ge (by decide) (by decide))) (fun _ => ?_)
  refine hz_aload_n (pc := 149) C dX2_init_149 rfl ?_
  refine hz_getP (pc := 150) C (v := 54) ffX2_37 dX2_init_150 hT45 (by decide) rfl (show PQ 61 45 8 = 54 by decide +kernel) (by decide) ?_
  refine hz_iload_n (pc := 153) C dX2_init_153 rfl ?_
  refine hz_newO (pc := 154) C (n1 := 64) (kc' := 19) (ks' := 193) rfl fnX2_30 dX2_init_154 hT64 ⟨hI 64 (by decide), hL 64 (by decide), PQ_bl 61 64 (by decide +kernel)⟩ (hN.sub (by decide) (by decide)) rfl rfl (hz_capZ Z (by decide) (by decide)) ?_
  refine hz_dup (pc := 157) C dX2_init_157 rfl ?_
  refine hz_callINm (pc := 158) C (as := []) (st := [.ref 64, .int (nI 1), .ref 54]) (kc' := 20) (ks' := 199) (ev_iX3 (m := 64) (by decide) hT64 hT65 ⟨hI 65 (by decide), hL 65 (by decide), PQ_bl 61 65 (by decide +kernel)⟩ (PQ_s1 (j := 61) rfl)) (hN.sub (by decide) (by decide)) fyX3_init fiX2_32 rfl dX2_init_158 rfl rfl (Nat.le_of_ble_eq_true rfl) (by decide) rfl rfl (hz_capZ Z (by decide) (by decide)) ?_
  refine hz_aastG (pc := 161) C (c := 16) (cv := 3) (E := RX3) (j := 1) (M' := (I, L, PQ 63)) (fun _ => rfl) (by decide) rfl (Or.inl rfl) dX2_init_161 hT54 (by decide) hT64 (by decide) rfl (by decide) (by decide) (PQ_s (j := 62) rfl) ?_
  refine hz_iinc (pc := 162) C (v := nI 2) (ls' := [some (.ref 45), some (.int (nI 2))]) dX2_init_162 rfl (nI_add _ 1) rfl ?_
  refine hz_goto (pc := 165) C (tgt := 143) dX2_init_165 rfl ?_
  refine hz_iload_n (pc := 143) C dX2_init_143 rfl ?_
  refine hz_bipush (pc := 144) C (v := nI 8) dX2_init_144 (by decide +kernel) ?_
  refine hz_ic_ge (pc := 146) C (tgt := 168) dX2_init_146 rfl (fun cq => absurd cq (nI_ge (by decide) (by decide))) (fun _ => ?_)
  refine hz_aload_n (pc := 149) C dX2_init_149 rfl ?_
  refine hz_getP (pc := 150) C (v := 54) ffX2_37 dX2_init_150 hT45 (by decide) rfl (show PQ 63 45 8 = 54 by decide +kernel) (by decide) ?_
  refine hz_iload_n (pc := 153) C dX2_init_153 rfl ?_
  refine hz_newO (pc := 154) C (n1 := 66) (kc' := 21) (ks' := 204) rfl fnX2_30 dX2_init_154 hT66 ⟨hI 66 (by decide), hL 66 (by decide), PQ_bl 63 66 (by decide +kernel)⟩ (hN.sub (by decide) (by decide)) rfl rfl (hz_capZ Z (by decide) (by decide)) ?_
  refine hz_dup (pc := 157) C dX2_init_157 rfl ?_
  refine hz_callINm (pc := 158) C (as := []) (st := [.ref 66, .int (nI 2), .ref 54]) (kc' := 22) (ks' := 210) (ev_iX3 (m := 66) (by decide) hT66 hT67 ⟨hI 67 (by decide), hL 67 (by decide), PQ_bl 63 67 (by decide +kernel)⟩ (PQ_s1 (j := 63) rfl)) (hN.sub (by decide) (by decide)) fyX3_init fiX2_32 rfl dX2_init_158 rfl rfl (Nat.le_of_ble_eq_true rfl) (by decide) rfl rfl (hz_capZ Z (by decide) (by decide)) ?_
  refine hz_aastG (pc := 161) C (c := 16) (cv := 3) (E := RX3) (j := 2) (M' := (I, L, PQ 65)) (fun _ => rfl) (by decide) rfl (Or.inl rfl) dX2_init_161 hT54 (by decide) hT66 (by decide) rfl (by decide) (by decide) (PQ_s (j := 64) rfl) ?_
  refine hz_iinc (pc := 162) C (v := nI 3) (ls' := [some (.ref 45), some (.int (nI 3))]) dX2_init_162 rfl (nI_add _ 1) rfl ?_
  refine hz_goto (pc := 165) C (tgt := 143) dX2_init_165 rfl ?_
  refine hz_iload_n (pc := 143) C dX2_init_143 rfl ?_
  refine hz_bipush (pc := 144) C (v := nI 8) dX2_init_144 (by decide +kernel) ?_
  refine hz_ic_ge (pc := 146) C (tgt := 168) dX2_init_146 rfl (fun cq => absurd cq (nI_ge (by decide) (by decide))) (fun _ => ?_)
  refine hz_aload_n (pc := 149) C dX2_init_149 rfl ?_
  refine hz_getP (pc := 150) C (v := 54) ffX2_37 dX2_init_150 hT45 (by decide) rfl (show PQ 65 45 8 = 54 by decide +kernel) (by decide) ?_
  refine hz_iload_n (pc := 153) C dX2_init_153 rfl ?_
  refine hz_newO (pc := 154) C (n1 := 68) (kc' := 23) (ks' := 215) rfl fnX2_30 dX2_init_154 hT68 ⟨hI 68 (by decide), hL 68 (by decide), PQ_bl 65 68 (by decide +kernel)⟩ (hN.sub (by decide) (by decide)) rfl rfl (hz_capZ Z (by decide) (by decide)) ?_
  refine hz_dup (pc := 157) C dX2_init_157 rfl ?_
  refine hz_callINm (pc := 158) C (as := []) (st := [.ref 68, .int (nI 3), .ref 54]) (kc' := 24) (ks' := 221) (ev_iX3 (m := 68) (by decide) hT68 hT69 ⟨hI 69 (by decide), hL 69 (by decide), PQ_bl 65 69 (by decide +kernel)⟩ (PQ_s1 (j := 65) rfl)) (hN.sub (by decide) (by decide)) fyX3_init fiX2_32 rfl dX2_init_158 rfl rfl (Nat.le_of_ble_eq_true rfl) (by decide) rfl rfl (hz_capZ Z (by decide) (by decide)) ?_
  refine hz_aastG (pc := 161) C (c := 16) (cv := 3) (E := RX3) (j := 3) (M' := (I, L, PQ 67)) (fun _ => rfl) (by decide) rfl (Or.inl rfl) dX2_init_161 hT54 (by decide) hT68 (by decide) rfl (by decide) (by decide) (PQ_s (j := 66) rfl) ?_
  refine hz_iinc (pc := 162) C (v := nI 4) (ls' := [some (.ref 45), some (.int (nI 4))]) dX2_init_162 rfl (nI_add _ 1) rfl ?_
  refine hz_goto (pc := 165) C (tgt := 143) dX2_init_165 rfl ?_
  refine hz_iload_n (pc := 143) C dX2_init_143 rfl ?_
  refine hz_bipush (pc := 144) C (v := nI 8) dX2_init_144 (by decide +kernel) ?_
  refine hz_ic_ge (pc := 146) C (tgt := 168) dX2_init_146 rfl (fun cq => absurd cq (nI_ge (by decide) (by decide))) (fun _ => ?_)
  refine hz_aload_n (pc := 149) C dX2_init_149 rfl ?_
  refine hz_getP (pc := 150) C (v := 54) ffX2_37 dX2_init_150 hT45 (by decide) rfl (show PQ 67 45 8 = 54 by decide +kernel) (by decide) ?_
  refine hz_iload_n (pc := 153) C dX2_init_153 rfl ?_
  refine hz_newO (pc := 154) C (n1 := 70) (kc' := 25) (ks' := 226) rfl fnX2_30 dX2_init_154 hT70 ⟨hI 70 (by decide), hL 70 (by decide), PQ_bl 67 70 (by decide +kernel)⟩ (hN.sub (by decide) (by decide)) rfl rfl (hz_capZ Z (by decide) (by decide)) ?_
  refine hz_dup (pc := 157) C dX2_init_157 rfl ?_
  refine hz_callINm (pc := 158) C (as := []) (st := [.ref 70, .int (nI 4), .ref 54]) (kc' := 26) (ks' := 232) (ev_iX3 (m := 70) (by decide) hT70 hT71 ⟨hI 71 (by decide), hL 71 (by decide), PQ_bl 67 71 (by decide +kernel)⟩ (PQ_s1 (j := 67) rfl)) (hN.sub (by decide) (by decide)) fyX3_init fiX2_32 rfl dX2_init_158 rfl rfl (Nat.le_of_ble_eq_true rfl) (by decide) rfl rfl (hz_capZ Z (by decide) (by decide)) ?_
  refine hz_aastG (pc := 161) C (c := 16) (cv := 3) (E := RX3) (j := 4) (M' := (I, L, PQ 69)) (fun _ => rfl) (by decide) rfl (Or.inl rfl) dX2_init_161 hT54 (by decide) hT70 (by decide) rfl (by decide) (by decide) (PQ_s (j := 68) rfl) ?_
  refine hz_iinc (pc := 162) C (v := nI 5) (ls' := [some (.ref 45), some (.int (nI 5))]) dX2_init_162 rfl (nI_add _ 1) rfl ?_
  refine hz_goto (pc := 165) C (tgt := 143) dX2_init_165 rfl ?_
  refine hz_iload_n (pc := 143) C dX2_init_143 rfl ?_
  refine hz_bipush (pc := 144) C (v := nI 8) dX2_init_144 (by decide +kernel) ?_
  refine hz_ic_ge (pc := 146) C (tgt := 168) dX2_init_146 rfl (fun cq => absurd cq (nI_ge (by decide) (by decide))) (fun _ => ?_)
  refine hz_aload_n (pc := 149) C dX2_init_149 rfl ?_
  refine hz_getP (pc := 150) C (v := 54) ffX2_37 dX2_init_150 hT45 (by decide) rfl (show PQ 69 45 8 = 54 by decide +kernel) (by decide) ?_
  refine hz_iload_n (pc := 153) C dX2_init_153 rfl ?_
  refine hz_newO (pc := 154) C (n1 := 72) (kc' := 27) (ks' := 237) rfl fnX2_30 dX2_init_154 hT72 ⟨hI 72 (by decide), hL 72 (by decide), PQ_bl 69 72 (by decide +kernel)⟩ (hN.sub (by decide) (by decide)) rfl rfl (hz_capZ Z (by decide) (by decide)) ?_
  refine hz_dup (pc := 157) C dX2_init_157 rfl ?_
  refine hz_callINm (pc := 158) C (as := []) (st := [.ref 72, .int (nI 5), .ref 54]) (kc' := 28) (ks' := 243) (ev_iX3 (m := 72) (by decide) hT72 hT73 ⟨hI 73 (by decide), hL 73 (by decide), PQ_bl 69 73 (by decide +kernel)⟩ (PQ_s1 (j := 69) rfl)) (hN.sub (by decide) (by decide)) fyX3_init fiX2_32 rfl dX2_init_158 rfl rfl (Nat.le_of_ble_eq_true rfl) (by decide) rfl rfl (hz_capZ Z (by decide) (by decide)) ?_
  refine hz_aastG (pc := 161) C (c := 16) (cv := 3) (E := RX3) (j := 5) (M' := (I, L, PQ 71)) (fun _ => rfl) (by decide) rfl (Or.inl rfl) dX2_init_161 hT54 (by decide) hT72 (by decide) rfl (by decide) (by decide) (PQ_s (j := 70) rfl) ?_
  refine hz_iinc (pc := 162) C (v := nI 6) (ls' := [some (.ref 45), some (.int (nI 6))]) dX2_init_162 rfl (nI_add _ 1) rfl ?_
  refine hz_goto (pc := 165) C (tgt := 143) dX2_init_165 rfl ?_
  refine hz_iload_n (pc := 143) C dX2_init_143 rfl ?_
  refine hz_bipush (pc := 144) C (v := nI 8) dX2_init_144 (by decide +kernel) ?_
  refine hz_ic_ge (pc := 146) C (tgt := 168) dX2_init_146 rfl (fun cq => absurd cq (nI_ge (by decide) (by decide))) (fun _ => ?_)
  refine hz_aload_n (pc := 149) C dX2_init_149 rfl ?_
  refine hz_getP (pc := 150) C (v := 54) ffX2_37 dX2_init_150 hT45 (by decide) rfl (show PQ 71 45 8 = 54 by decide +kernel) (by decide) ?_
  refine hz_iload_n (pc := 153) C dX2_init_153 rfl ?_
  refine hz_newO (pc := 154) C (n1 := 74) (kc' := 29) (ks' := 248) rfl fnX2_30 dX2_init_154 hT74 ⟨hI 74 (by decide), hL 74 (by decide), PQ_bl 71 74 (by decide +kernel)⟩ (hN.sub (by decide) (by decide)) rfl rfl (hz_capZ Z (by decide) (by decide)) ?_
  refine hz_dup (pc := 157) C dX2_init_157 rfl ?_
  refine hz_callINm (pc := 158) C (as := []) (st := [.ref 74, .int (nI 6), .ref 54]) (kc' := 30) (ks' := 254) (ev_iX3 (m := 74) (by decide) hT74 hT75 ⟨hI 75 (by decide), hL 75 (by decide), PQ_bl 71 75 (by decide +kernel)⟩ (PQ_s1 (j := 71) rfl)) (hN.sub (by decide) (by decide)) fyX3_init fiX2_32 rfl dX2_init_158 rfl rfl (Nat.le_of_ble_eq_true rfl) (by decide) rfl rfl (hz_capZ Z (by decide) (by decide)) ?_
  refine hz_aastG (pc := 161) C (c := 16) (cv := 3) (E := RX3) (j := 6) (M' := (I, L, PQ 73)) (fun _ => rfl) (by decide) rfl (Or.inl rfl) dX2_init_161 hT54 (by decide) hT74 (by decide) rfl (by decide) (by decide) (PQ_s (j := 72) rfl) ?_
  refine hz_iinc (pc := 162) C (v := nI 7) (ls' := [some (.ref 45), some (.int (nI 7))]) dX2_init_162 rfl (nI_add _ 1) rfl ?_
  refine hz_goto (pc := 165) C (tgt := 143) dX2_init_165 rfl ?_
  refine hz_iload_n (pc := 143) C dX2_init_143 rfl ?_
  refine hz_bipush (pc := 144) C (v := nI 8) dX2_init_144 (by decide +kernel) ?_
  refine hz_ic_ge (pc := 146) C (tgt := 168) dX2_init_146 rfl (fun cq => absurd cq (nI_ge (by decide) (by decide))) (fun _ => ?_)
  refine hz_aload_n (pc := 149) C dX2_init_149 rfl ?_
  refine hz_getP (pc := 150) C (v := 54) ffX2_37 dX2_init_150 hT45 (by decide) rfl (show PQ 73 45 8 = 54 by decide +kernel) (by decide) ?_
  refine hz_iload_n (pc := 153) C dX2_init_153 rfl ?_
  refine hz_newO (pc := 154) C (n1 := 76) (kc' := 31) (ks' := 259) rfl fnX2_30 dX2_init_154 hT76 ⟨hI 76 (by decide), hL 76 (by decide), PQ_bl 73 76 (by decide +kernel)⟩ (hN.sub (by decide) (by decide)) rfl rfl (hz_capZ Z (by decide) (by decide)) ?_
  refine hz_dup (pc := 157) C dX2_init_157 rfl ?_
  refine hz_callINm (pc := 158) C (as := []) (st := [.ref 76, .int (nI 7), .ref 54]) (kc' := 32) (ks' := 265) (ev_iX3 (m := 76) (by decide) hT76 hT77 ⟨hI 77 (by decide), hL 77 (by decide), PQ_bl 73 77 (by decide +kernel)⟩ (PQ_s1 (j := 73) rfl)) (hN.sub (by decide) (by decide)) fyX3_init fiX2_32 rfl dX2_init_158 rfl rfl (Nat.le_of_ble_eq_true rfl) (by decide) rfl rfl (hz_capZ Z (by decide) (by decide)) ?_
  refine hz_aastG (pc := 161) C (c := 16) (cv := 3) (E := RX3) (j := 7) (M' := (I, L, PQ 75)) (fun _ => rfl) (by decide) rfl (Or.inl rfl) dX2_init_161 hT54 (by decide) hT76 (by decide) rfl (by decide) (by decide) (PQ_s (j := 74) rfl) ?_
  refine hz_iinc (pc := 162) C (v := nI 8) (ls' := [some (.ref 45), some (.int (nI 8))]) dX2_init_162 rfl (nI_add _ 1) rfl ?_
  refine hz_goto (pc := 165) C (tgt := 143) dX2_init_165 rfl ?_
  refine hz_iload_n (pc := 143) C dX2_init_143 rfl ?_
  refine hz_bipush (pc := 144) C (v := nI 8) dX2_init_144 (by decide +kernel) ?_
  refine hz_ic_ge (pc := 146) C (tgt := 168) dX2_init_146 rfl (fun _ => ?_) (fun cq => absurd (nI_le (by decide) (by decide)) cq)
  refine hz_aload_n (pc := 168) C dX2_init_168 rfl ?_
  refine hz_callVv (pc := 169) C (as := []) (st := []) (ev_rsG45 (show PQ 75 45 1 = 46 by decide +kernel) (show PQ 75 45 7 = 52 by decide +kernel)) (hz_new0 _ _) fyX2_reset fvX2_63 rfl dX2_init_169 hT45 rfl rfl (by decide) rfl rfl (Nat.le_of_ble_eq_true rfl) (by decide) (hz_capZ Z (by decide) (by decide)) ?_
  exact hz_vret C Z rfl dX2_init_172 rfl
set_option maxHeartbeats 4000000 in
set_option maxRecDepth 100000 in
theorem ev_iX2_79 {I : Nat → Nat → Int32} {L : Nat → Nat → Int64} (hI : ∀ a, 79 < a → ∀ k, I a k = 0) (hL : ∀ a, 79 < a → ∀ k, L a k = 0) : hz_Ev mX2_init TT 79 (I, L, PQ 76) [.ref 79] 32 265 none TT 111 (rsI 79 I, L, PQ 108) := by
  refine hz_Ev.intro (ls := [some (.ref 79), none]) (by decide +kernel) rfl (Nat.le_of_ble_eq_true rfl) (fun X C Z hN => ?_)
  refine hz_aload_n (pc := 0) C dX2_init_0 rfl ?_
  refine hz_objInit (pc := 1) C foX2_3 dX2_init_1 rfl (Nat.le_of_ble_eq_true rfl) (by decide) ?_
  refine hz_aload_n (pc := 4) C dX2_init_4 rfl ?_
  refine hz_bipush (pc := 5) C (v := nI 64) dX2_init_5 (by decide +kernel) ?_
  refine hz_newA (pc := 7) C (n1 := 80) (ty := .int) (c := 13) (kc' := 1) (ks' := 64) rfl dX2_init_7 rfl (hz_mp 144 (by decide +kernel)) (fun _ => rfl) (fun _ _ h => h) rfl ⟨by decide, by decide⟩ hT80 rfl (by decide) (by decide +kernel) ⟨hI 80 (by decide), hL 80 (by decide), PQ_bl 76 80 (by decide +kernel)⟩ (hN.sub (by decide) (by decide)) rfl rfl (hz_capZ Z (by decide) (by decide)) ?_
  refine hz_putPF (pc := 9) C (M' := (I, L, PQ 77)) ffX2_9 dX2_init_9 hT79 (by decide) rfl rfl rfl (fun _ h => by cases h; rfl) (fun _ => ⟨rfl, rfl⟩) (by decide) (PQ_s (j := 76) rfl) ?_
  refine hz_aload_n (pc := 12) C dX2_init_12 rfl ?_
  refine hz_bipush (pc := 13) C (v := nI 64) dX2_init_13 (by decide +kernel) ?_
  refine hz_newA (pc := 15) C (n1 := 81) (ty := .int) (c := 13) (kc' := 2) (ks' := 128) rfl dX2_init_15 rfl (hz_mp 144 (by decide +kernel)) (fun _ => rfl) (fun _ _ h => h) rfl ⟨by decide, by decide⟩ hT81 rfl (by decide) (by decide +kernel) ⟨hI 81 (by decide), hL 81 (by decide), PQ_bl 77 81 (by decide +kernel)⟩ (hN.sub (by decide) (by decide)) rfl rfl (hz_capZ Z (by decide) (by decide)) ?_
  refine hz_putPF (pc := 17) C (M' := (I, L, PQ 78)) ffX2_15 dX2_init_17 hT79 (by decide) rfl rfl rfl (fun _ h => by cases h; rfl) (fun _ => ⟨rfl, rfl⟩) (by decide) (PQ_s (j := 77) rfl) ?_
  refine hz_aload_n (pc := 20) C dX2_init_20 rfl ?_
  refine hz_bipush (pc := 21) C (v := nI 6) dX2_init_21 (by decide +kernel) ?_
  refine hz_newA (pc := 23) C (n1 := 82) (ty := .int) (c := 13) (kc' := 3) (ks' := 134) rfl dX2_init_23 rfl (hz_mp 144 (by decide +kernel)) (fun _ => rfl) (fun _ _ h => h) rfl ⟨by decide, by decide⟩ hT82 rfl (by decide) (by decide +kernel) ⟨hI 82 (by decide), hL 82 (by decide), PQ_bl 78 82 (by decide +kernel)⟩ (hN.sub (by decide) (by decide)) rfl rfl (hz_capZ Z (by decide) (by decide)) ?_
  refine hz_putPF (pc := 25) C (M' := (I, L, PQ 79)) ffX2_18 dX2_init_25 hT79 (by decide) rfl rfl rfl (fun _ h => by cases h; rfl) (fun _ => ⟨rfl, rfl⟩) (by decide) (PQ_s (j := 78) rfl) ?_
  refine hz_aload_n (pc := 28) C dX2_init_28 rfl ?_
  refine hz_bipush (pc := 29) C (v := nI 6) dX2_init_29 (by decide +kernel) ?_
  refine hz_newA (pc := 31) C (n1 := 83) (ty := .int) (c := 13) (kc' := 4) (ks' := 140) rfl dX2_init_31 rfl (hz_mp 144 (by decide +kernel)) (fun _ => rfl) (fun _ _ h => h) rfl ⟨by decide, by decide⟩ hT83 rfl (by decide) (by decide +kernel) ⟨hI 83 (by decide), hL 83 (by decide), PQ_bl 79 83 (by decide +kernel)⟩ (hN.sub (by decide) (by decide)) rfl rfl (hz_capZ Z (by decide) (by decide)) ?_
  refine hz_putPF (pc := 33) C (M' := (I, L, PQ 80)) ffX2_21 dX2_init_33 hT79 (by decide) rfl rfl rfl (fun _ h => by cases h; rfl) (fun _ => ⟨rfl, rfl⟩) (by decide) (PQ_s (j := 79) rfl) ?_
  refine hz_aload_n (pc := 36) C dX2_init_36 rfl ?_
  refine hz_bipush (pc := 37) C (v := nI 6) dX2_init_37 (by decide +kernel) ?_
  refine hz_newA (pc := 39) C (n1 := 84) (ty := .int) (c := 13) (kc' := 5) (ks' := 146) rfl dX2_init_39 rfl (hz_mp 144 (by decide +kernel)) (fun _ => rfl) (fun _ _ h => h) rfl ⟨by decide, by decide⟩ hT84 rfl (by decide) (by decide +kernel) ⟨hI 84 (by decide), hL 84 (by decide), PQ_bl 80 84 (by decide +kernel)⟩ (hN.sub (by decide) (by decide)) rfl rfl (hz_capZ Z (by decide) (by decide)) ?_
  refine hz_putPF (pc := 41) C (M' := (I, L, PQ 81)) ffX2_24 dX2_init_41 hT79 (by decide) rfl rfl rfl (fun _ h => by cases h; rfl) (fun _ => ⟨rfl, rfl⟩) (by decide) (PQ_s (j := 80) rfl) ?_
  refine hz_aload_n (pc := 44) C dX2_init_44 rfl ?_
  refine hz_bipush (pc := 45) C (v := nI 6) dX2_init_45 (by decide +kernel) ?_
  refine hz_newA (pc := 47) C (n1 := 85) (ty := .int) (c := 13) (kc' := 6) (ks' := 152) rfl dX2_init_47 rfl (hz_mp 144 (by decide +kernel)) (fun _ => rfl) (fun _ _ h => h) rfl ⟨by decide, by decide⟩ hT85 rfl (by decide) (by decide +kernel) ⟨hI 85 (by decide), hL 85 (by decide), PQ_bl 81 85 (by decide +kernel)⟩ (hN.sub (by decide) (by decide)) rfl rfl (hz_capZ Z (by decide) (by decide)) ?_
  refine hz_putPF (pc := 49) C (M' := (I, L, PQ 82)) ffX2_27 dX2_init_49 hT79 (by decide) rfl rfl rfl (fun _ h => by cases h; rfl) (fun _ => ⟨rfl, rfl⟩) (by decide) (PQ_s (j := 81) rfl) ?_
  refine hz_aload_n (pc := 52) C dX2_init_52 rfl ?_
  refine hz_newO (pc := 53) C (n1 := 86) (kc' := 7) (ks' := 157) rfl fnX2_30 dX2_init_53 hT86 ⟨hI 86 (by decide), hL 86 (by decide), PQ_bl 82 86 (by decide +kernel)⟩ (hN.sub (by decide) (by decide)) rfl rfl (hz_capZ Z (by decide) (by decide)) ?_
  refine hz_dup (pc := 56) C dX2_init_56 rfl ?_
  refine hz_callINm (pc := 57) C (as := []) (st := [.ref 86, .ref 79]) (kc' := 8) (ks' := 163) (ev_iX3 (m := 86) (by decide) hT86 hT87 ⟨hI 87 (by decide), hL 87 (by decide), PQ_bl 82 87 (by decide +kernel)⟩ (PQ_s1 (j := 82) rfl)) (hN.sub (by decide) (by decide)) fyX3_init fiX2_32 rfl dX2_init_57 rfl rfl (Nat.le_of_ble_eq_true rfl) (by decide) rfl rfl (hz_capZ Z (by decide) (by decide)) ?_
  refine hz_putPF (pc := 60) C (M' := (I, L, PQ 84)) ffX2_33 dX2_init_60 hT79 (by decide) rfl rfl rfl (fun _ h => by cases h; rfl) (fun _ => ⟨rfl, rfl⟩) (by decide) (PQ_s (j := 83) rfl) ?_
  refine hz_aload_n (pc := 63) C dX2_init_63 rfl ?_
  refine hz_bipush (pc := 64) C (v := nI 8) dX2_init_64 (by decide +kernel) ?_
  refine hz_newQ (pc := 66) C (n1 := 88) (E := RX3) (c := 16) (kc' := 9) (ks' := 171) rfl dX2_init_66 (hz_mp 151 (by decide +kernel)) (hz_mn 188 (by decide +kernel)) (fun _ => rfl) (by decide) hT88 rfl (by decide) ⟨hI 88 (by decide), hL 88 (by decide), PQ_bl 84 88 (by decide +kernel)⟩ (hN.sub (by decide) (by decide)) rfl rfl (hz_capZ Z (by decide) (by decide)) ?_
  refine hz_putPF (pc := 69) C (M' := (I, L, PQ 85)) ffX2_37 dX2_init_69 hT79 (by decide) rfl rfl rfl (fun _ h => by cases h; rfl) (fun _ => ⟨rfl, rfl⟩) (by decide) (PQ_s (j := 84) rfl) ?_
  refine hz_aload_n (pc := 72) C dX2_init_72 rfl ?_
  refine hz_bipush (pc := 73) C (v := nI 6) dX2_init_73 (by decide +kernel) ?_
  refine hz_newQ (pc := 75) C (n1 := 89) (E := RX6) (c := 17) (kc' := 10) (ks' := 177) rfl dX2_init_75 (hz_mp 189 (by decide +kernel)) (hz_mn 190 (by decide +kernel)) (fun _ => rfl) (by decide) hT89 rfl (by decide) ⟨hI 89 (by decide), hL 89 (by decide), PQ_bl 85 89 (by decide +kernel)⟩ (hN.sub (by decide) (by decide)) rfl rfl (hz_capZ Z (by decide) (by decide)) ?_
  refine hz_dup (pc := 78) C dX2_init_78 rfl ?_
  refine hz_iconst (pc := 79) C (v := nI 0) dX2_init_79 (by decide +kernel) ?_
  refine hz_newO (pc := 80) C (n1 := 90) (kc' := 11) (ks' := 177) rfl fnX2_41 dX2_init_80 hT90 ⟨hI 90 (by decide), hL 90 (by decide), PQ_bl 85 90 (by decide +kernel)⟩ (hN.sub (by decide) (by decide)) rfl rfl (hz_capZ Z (by decide) (by decide)) ?_
  refine hz_dup (pc := 83) C dX2_init_83 rfl ?_
  refine hz_callINm (pc := 84) C (as := []) (st := [.ref 90, .int (nI 0), .ref 89, .ref 89, .ref 79]) (kc' := 11) (ks' := 177) ev_iX6_init (hN.sub (by decide) (by decide)) fyX6_init fiX2_43 rfl dX2_init_84 rfl rfl (Nat.le_of_ble_eq_true rfl) (by decide) rfl rfl (hz_capZ Z (by decide) (by decide)) ?_
  refine hz_aastG (pc := 87) C (c := 17) (cv := 6) (E := RX6) (j := 0) (M' := (I, L, PQ 86)) (fun _ => rfl) (by decide) rfl (Or.inl rfl) dX2_init_87 hT89 (by decide) hT90 (by decide) rfl (by decide) (by decide) (PQ_s (j := 85) rfl) ?_
  refine hz_dup (pc := 88) C dX2_init_88 rfl ?_
  refine hz_iconst (pc := 89) C (v := nI 1) dX2_init_89 (by decide +kernel) ?_
  refine hz_newO (pc := 90) C (n1 := 91) (kc' := 12) (ks' := 177) rfl fnX2_44 dX2_init_90 hT91 ⟨hI 91 (by decide), hL 91 (by decide), PQ_bl 86 91 (by decide +kernel)⟩ (hN.sub (by decide) (by decide)) rfl rfl (hz_capZ Z (by decide) (by decide)) ?_
  refine hz_dup (pc := 93) C dX2_init_93 rfl ?_
  refine hz_callINm (pc := 94) C (as := []) (st := [.ref 91, .int (nI 1), .ref 89, .ref 89, .ref 79]) (kc' := 12) (ks' := 177) ev_iX4_init (hN.sub (by decide) (by decide)) fyX4_init fiX2_46 rfl dX2_init_94 rfl rfl (Nat.le_of_ble_eq_true rfl) (by decide) rfl rfl (hz_capZ Z (by decide) (by decide)) ?_
  refine hz_aastG (pc := 97) C (c := 17) (cv := 4) (E := RX6) (j := 1) (M' := (I, L, PQ 87)) (fun _ => rfl) (by decide) rfl (Or.inr (hz_mn 1264 (by decide +kernel))) dX2_init_97 hT89 (by decide) hT91 (by decide) rfl (by decide) (by decide) (PQ_s (j := 86) rfl) ?_
  refine hz_dup (pc := 98) C dX2_init_98 rfl ?_
  refine hz_iconst (pc := 99) C (v := nI 2) dX2_init_99 (by decide +kernel) ?_
  refine hz_newO (pc := 100) C (n1 := 92) (kc' := 13) (ks' := 177) rfl fnX2_47 dX2_init_100 hT92 ⟨hI 92 (by decide), hL 92 (by decide), PQ_bl 87 92 (by decide +kernel)⟩ (hN.sub (by decide) (by decide)) rfl rfl (hz_capZ Z (by decide) (by decide)) ?_
  refine hz_dup (pc := 103) C dX2_init_103 rfl ?_
  refine hz_callINm (pc := 104) C (as := []) (st := [.ref 92, .int (nI 2), .ref 89, .ref 89, .ref 79]) (kc' := 13) (ks' := 177) ev_iX9_init (hN.sub (by decide) (by decide)) fyX9_init fiX2_49 rfl dX2_init_104 rfl rfl (Nat.le_of_ble_eq_true rfl) (by decide) rfl rfl (hz_capZ Z (by decide) (by decide)) ?_
  refine hz_aastG (pc := 107) C (c := 17) (cv := 9) (E := RX6) (j := 2) (M' := (I, L, PQ 88)) (fun _ => rfl) (by decide) rfl (Or.inr (hz_mn 1265 (by decide +kernel))) dX2_init_107 hT89 (by decide) hT92 (by decide) rfl (by decide) (by decide) (PQ_s (j := 87) rfl) ?_
  refine hz_dup (pc := 108) C dX2_init_108 rfl ?_
  refine hz_iconst (pc := 109) C (v := nI 3) dX2_init_109 (by decide +kernel) ?_
  refine hz_newO (pc := 110) C (n1 := 93) (kc' := 14) (ks' := 177) rfl fnX2_50 dX2_init_110 hT93 ⟨hI 93 (by decide), hL 93 (by decide), PQ_bl 88 93 (by decide +kernel)⟩ (hN.sub (by decide) (by decide)) rfl rfl (hz_capZ Z (by decide) (by decide)) ?_
  refine hz_dup (pc := 113) C dX2_init_113 rfl ?_
  refine hz_callINm (pc := 114) C (as := []) (st := [.ref 93, .int (nI 3), .ref 89, .ref 89, .ref 79]) (kc' := 14) (ks' := 177) ev_iX0_init (hN.sub (by decide) (by decide)) fyX0_init fiX2_52 rfl dX2_init_114 rfl rfl (Nat.le_of_ble_eq_true rfl) (by decide) rfl rfl (hz_capZ Z (by decide) (by decide)) ?_
  refine hz_aastG (pc := 117) C (c := 17) (cv := 0) (E := RX6) (j := 3) (M' := (I, L, PQ 89)) (fun _ => rfl) (by decide) rfl (Or.inr (hz_mn 1266 (by decide +kernel))) dX2_init_117 hT89 (by decide) hT93 (by decide) rfl (by decide) (by decide) (PQ_s (j := 88) rfl) ?_
  refine hz_dup (pc := 118) C dX2_init_118 rfl ?_
  refine hz_iconst (pc := 119) C (v := nI 4) dX2_init_119 (by decide +kernel) ?_
  refine hz_newO (pc := 120) C (n1 := 94) (kc' := 15) (ks' := 177) rfl fnX2_53 dX2_init_120 hT94 ⟨hI 94 (by decide), hL 94 (by decide), PQ_bl 89 94 (by decide +kernel)⟩ (hN.sub (by decide) (by decide)) rfl rfl (hz_capZ Z (by decide) (by decide)) ?_
  refine hz_dup (pc := 123) C dX2_init_123 rfl ?_
  refine hz_callINm (pc := 124) C (as := []) (st := [.ref 94, .int (nI 4), .ref 89, .ref 89, .ref 79]) (kc' := 15) (ks' := 177) ev_iX5_init (hN.sub (by decide) (by decide)) fyX5_init fiX2_55 rfl dX2_init_124 rfl rfl (Nat.le_of_ble_eq_true rfl) (by decide) rfl rfl (hz_capZ Z (by decide) (by decide)) ?_
  refine hz_aastG (pc := 127) C (c := 17) (cv := 5) (E := RX6) (j := 4) (M' := (I, L, PQ 90)) (fun _ => rfl) (by decide) rfl (Or.inr (hz_mn 1267 (by decide +kernel))) dX2_init_127 hT89 (by decide) hT94 (by decide) rfl (by decide) (by decide) (PQ_s (j := 89) rfl) ?_
  refine hz_dup (pc := 128) C dX2_init_128 rfl ?_
  refine hz_iconst (pc := 129) C (v := nI 5) dX2_init_129 (by decide +kernel) ?_
  refine hz_newO (pc := 130) C (n1 := 95) (kc' := 16) (ks' := 177) rfl fnX2_56 dX2_init_130 hT95 ⟨hI 95 (by decide), hL 95 (by decide), PQ_bl 90 95 (by decide +kernel)⟩ (hN.sub (by decide) (by decide)) rfl rfl (hz_capZ Z (by decide) (by decide)) ?_
  refine hz_dup (pc := 133) C dX2_init_133 rfl ?_
  refine hz_callINm (pc := 134) C (as := []) (st := [.ref 95, .int (nI 5), .ref 89, .ref 89, .ref 79]) (kc' := 16) (ks' := 177) ev_iX1_init (hN.sub (by decide) (by decide)) fyX1_init fiX2_58 rfl dX2_init_134 rfl rfl (Nat.le_of_ble_eq_true rfl) (by decide) rfl rfl (hz_capZ Z (by decide) (by decide)) ?_
  refine hz_aastG (pc := 137) C (c := 17) (cv := 1) (E := RX6) (j := 5) (M' := (I, L, PQ 91)) (fun _ => rfl) (by decide) rfl (Or.inr (hz_mn 1268 (by decide +kernel))) dX2_init_137 hT89 (by decide) hT95 (by decide) rfl (by decide) (by decide) (PQ_s (j := 90) rfl) ?_
  refine hz_putPF (pc := 138) C (M' := (I, L, PQ 92)) ffX2_59 dX2_init_138 hT79 (by decide) rfl rfl rfl (fun _ h => by cases h; rfl) (fun _ => ⟨rfl, rfl⟩) (by decide) (PQ_s (j := 91) rfl) ?_
  refine hz_iconst (pc := 141) C (v := nI 0) dX2_init_141 (by decide +kernel) ?_
  refine hz_istore_n (pc := 142) C (ls' := [some (.ref 79), some (.int (nI 0))]) dX2_init_142 (Nat.le_of_ble_eq_true rfl) rfl ?_
  refine hz_iload_n (pc := 143) C dX2_init_143 rfl ?_
  refine hz_bipush (pc := 144) C (v := nI 8) dX2_init_144 (by decide +kernel) ?_
  refine hz_ic_ge (pc := 146) C (tgt := 168) dX2_init_146 rfl (fun cq => absurd cq (nI_ge (by decide) (by decide))) (fun _ => ?_)
  refine hz_aload_n (pc := 149) C dX2_init_149 rfl ?_
  refine hz_getP (pc := 150) C (v := 88) ffX2_37 dX2_init_150 hT79 (by decide) rfl (show PQ 92 79 8 = 88 by decide +kernel) (by decide) ?_
  refine hz_iload_n (pc := 153) C dX2_init_153 rfl ?_
  refine hz_newO (pc := 154) C (n1 := 96) (kc' := 17) (ks' := 182) rfl fnX2_30 dX2_init_154 hT96 ⟨hI 96 (by decide), hL 96 (by decide), PQ_bl 92 96 (by decide +kernel)⟩ (hN.sub (by decide) (by decide)) rfl rfl (hz_capZ Z (by decide) (by decide)) ?_
  refine hz_dup (pc := 157) C dX2_init_157 rfl ?_
  refine hz_callINm (pc := 158) C (as := []) (st := [.ref 96, .int (nI 0), .ref 88]) (kc' := 18) (ks' := 188) (ev_iX3 (m := 96) (by decide) hT96 hT97 ⟨hI 97 (by decide), hL 97 (by decide), PQ_bl 92 97 (by decide +kernel)⟩ (PQ_s1 (j := 92) rfl)) (hN.sub (by decide) (by decide)) fyX3_init fiX2_32 rfl dX2_init_158 rfl rfl (Nat.le_of_ble_eq_true rfl) (by decide) rfl rfl (hz_capZ Z (by decide) (by decide)) ?_
  refine hz_aastG (pc := 161) C (c := 16) (cv := 3) (E := RX3) (j := 0) (M' := (I, L, PQ 94)) (fun _ => rfl) (by decide) rfl (Or.inl rfl) dX2_init_161 hT88 (by decide) hT96 (by decide) rfl (by decide) (by decide) (PQ_s (j := 93) rfl) ?_
  refine hz_iinc (pc := 162) C (v := nI 1) (ls' := [some (.ref 79), some (.int (nI 1))]) dX2_init_162 rfl (nI_add _ 1) rfl ?_
  refine hz_goto (pc := 165) C (tgt := 143) dX2_init_165 rfl ?_
  refine hz_iload_n (pc := 143) C dX2_init_143 rfl ?_
  refine hz_bipush (pc := 144) C (v := nI 8) dX2_init_144 (by decide +kernel) ?_
  refine hz_ic_ge (pc := 146) C (tgt := 168) dX2_init_146 rfl (fun cq => absurd cq (nI_ge (by decide) (by decide))) (fun _ => ?_)
  refine hz_aload_n (pc := 149) C dX2_init_149 rfl ?_
  refine hz_getP (pc := 150) C (v := 88) ffX2_37 dX2_init_150 hT79 (by decide) rfl (show PQ 94 79 8 = 88 by decide +kernel) (by decide) ?_
  refine hz_iload_n (pc := 153) C dX2_init_153 rfl ?_
  refine hz_newO (pc := 154) C (n1 := 98) (kc' := 19) (ks' := 193) rfl fnX2_30 dX2_init_154 hT98 ⟨hI 98 (by decide), hL 98 (by decide), PQ_bl 94 98 (by decide +kernel)⟩ (hN.sub (by decide) (by decide)) rfl rfl (hz_capZ Z (by decide) (by decide)) ?_
  refine hz_dup (pc := 157) C dX2_init_157 rfl ?_
  refine hz_callINm (pc := 158) C (as := []) (st := [.ref 98, .int (nI 1), .ref 88]) (kc' := 20) (ks' := 199) (ev_iX3 (m := 98) (by decide) hT98 hT99 ⟨hI 99 (by decide), hL 99 (by decide), PQ_bl 94 99 (by decide +kernel)⟩ (PQ_s1 (j := 94) rfl)) (hN.sub (by decide) (by decide)) fyX3_init fiX2_32 rfl dX2_init_158 rfl rfl (Nat.le_of_ble_eq_true rfl) (by decide) rfl rfl (hz_capZ Z (by decide) (by decide)) ?_
  refine hz_aastG (pc := 161) C (c := 16) (cv := 3) (E := RX3) (j := 1) (M' := (I, L, PQ 96)) (fun _ => rfl) (by decide) rfl (Or.inl rfl) dX2_init_161 hT88 (by decide) hT98 (by decide) rfl (by decide) (by decide) (PQ_s (j := 95) rfl) ?_
  refine hz_iinc (pc := 162) C (v := nI 2) (ls' := [some (.ref 79), some (.int (nI 2))]) dX2_init_162 rfl (nI_add _ 1) rfl ?_
  refine hz_goto (pc := 165) C (tgt := 143) dX2_init_165 rfl ?_
  refine hz_iload_n (pc := 143) C dX2_init_143 rfl ?_
  refine hz_bipush (pc := 144) C (v := nI 8) dX2_init_144 (by decide +kernel) ?_
  refine hz_ic_ge (pc := 146) C (tgt := 168) dX2_init_146 rfl (fun cq => absurd cq (nI_ge (by decide) (by decide))) (fun _ => ?_)
  refine hz_aload_n (pc := 149) C dX2_init_149 rfl ?_
  refine hz_getP (pc := 150) C (v := 88) ffX2_37 dX2_init_150 hT79 (by decide) rfl (show PQ 96 79 8 = 88 by decide +kernel) (by decide) ?_
  refine hz_iload_n (pc := 153) C dX2_init_153 rfl ?_
  refine hz_newO (pc := 154) C (n1 := 100) (kc' := 21) (ks' := 204) rfl fnX2_30 dX2_init_154 hT100 ⟨hI 100 (by decide), hL 100 (by decide), PQ_bl 96 100 (by decide +kernel)⟩ (hN.sub (by decide) (by decide)) rfl rfl (hz_capZ Z (by decide) (by decide)) ?_
  refine hz_dup (pc := 157) C dX2_init_157 rfl ?_
  refine hz_callINm (pc := 158) C (as := []) (st := [.ref 100, .int (nI 2), .ref 88]) (kc' := 22) (ks' := 210) (ev_iX3 (m := 100) (by decide) hT100 hT101 ⟨hI 101 (by decide), hL 101 (by decide), PQ_bl 96 101 (by decide +kernel)⟩ (PQ_s1 (j := 96) rfl)) (hN.sub (by decide) (by decide)) fyX3_init fiX2_32 rfl dX2_init_158 rfl rfl (Nat.le_of_ble_eq_true rfl) (by decide) rfl rfl (hz_capZ Z (by decide) (by decide)) ?_
  refine hz_aastG (pc := 161) C (c := 16) (cv := 3) (E := RX3) (j := 2) (M' := (I, L, PQ 98)) (fun _ => rfl) (by decide) rfl (Or.inl rfl) dX2_init_161 hT88 (by decide) hT100 (by decide) rfl (by decide) (by decide) (PQ_s (j := 97) rfl) ?_
  refine hz_iinc (pc := 162) C (v := nI 3) (ls' := [some (.ref 79), some (.int (nI 3))]) dX2_init_162 rfl (nI_add _ 1) rfl ?_
  refine hz_goto (pc := 165) C (tgt := 143) dX2_init_165 rfl ?_
  refine hz_iload_n (pc := 143) C dX2_init_143 rfl ?_
  refine hz_bipush (pc := 144) C (v := nI 8) dX2_init_144 (by decide +kernel) ?_
  refine hz_ic_ge (pc := 146) C (tgt := 168) dX2_init_146 rfl (fun cq => absurd cq (nI_ge (by decide) (by decide))) (fun _ => ?_)
  refine hz_aload_n (pc := 149) C dX2_init_149 rfl ?_
  refine hz_getP (pc := 150) C (v := 88) ffX2_37 dX2_init_150 hT79 (by decide) rfl (show PQ 98 79 8 = 88 by decide +kernel) (by decide) ?_
  refine hz_iload_n (pc := 153) C dX2_init_153 rfl ?_
  refine hz_newO (pc := 154) C (n1 := 102) (kc' := 23) (ks' := 215) rfl fnX2_30 dX2_init_154 hT102 ⟨hI 102 (by decide), hL 102 (by decide), PQ_bl 98 102 (by decide +kernel)⟩ (hN.sub (by decide) (by decide)) rfl rfl (hz_capZ Z (by decide) (by decide)) ?_
  refine hz_dup (pc := 157) C dX2_init_157 rfl ?_
  refine hz_callINm (pc := 158) C (as := []) (st := [.ref 102, .int (nI 3), .ref 88]) (kc' := 24) (ks' := 221) (ev_iX3 (m := 102) (by decide) hT102 hT103 ⟨hI 103 (by decide), hL 103 (by decide), PQ_bl 98 103 (by decide +kernel)⟩ (PQ_s1 (j := 98) rfl)) (hN.sub (by decide) (by decide)) fyX3_init fiX2_32 rfl dX2_init_158 rfl rfl (Nat.le_of_ble_eq_true rfl) (by decide) rfl rfl (hz_capZ Z (by decide) (by decide)) ?_
  refine hz_aastG (pc := 161) C (c := 16) (cv := 3) (E := RX3) (j := 3) (M' := (I, L, PQ 100)) (fun _ => rfl) (by decide) rfl (Or.inl rfl) dX2_init_161 hT88 (by decide) hT102 (by decide) rfl (by decide) (by decide) (PQ_s (j := 99) rfl) ?_
  refine hz_iinc (pc := 162) C (v := nI 4) (ls' := [some (.ref 79), some (.int (nI 4))]) dX2_init_162 rfl (nI_add _ 1) rfl ?_
  refine hz_goto (pc := 165) C (tgt := 143) dX2_init_165 rfl ?_
  refine hz_iload_n (pc := 143) C dX2_init_143 rfl ?_
  refine hz_bipush (pc := 144) C (v := nI 8) dX2_init_144 (by decide +kernel) ?_
  refine hz_ic_ge (pc := 146) C (tgt := 168) dX2_init_146 rfl (fun cq => absurd cq (nI_ge (by decide) (by decide))) (fun _ => ?_)
  refine hz_aload_n (pc := 149) C dX2_init_149 rfl ?_
  refine hz_getP (pc := 150) C (v := 88) ffX2_37 dX2_init_150 hT79 (by decide) rfl (show PQ 100 79 8 = 88 by decide +kernel) (by decide) ?_
  refine hz_iload_n (pc := 153) C dX2_init_153 rfl ?_
  refine hz_newO (pc := 154) C (n1 := 104) (kc' := 25) (ks' := 226) rfl fnX2_30 dX2_init_154 hT104 ⟨hI 104 (by decide), hL 104 (by decide), PQ_bl 100 104 (by decide +kernel)⟩ (hN.sub (by decide) (by decide)) rfl rfl (hz_capZ Z (by decide) (by decide)) ?_
  refine hz_dup (pc := 157) C dX2_init_157 rfl ?_
  refine hz_callINm (pc := 158) C (as := []) (st := [.ref 104, .int (nI 4), .ref 88]) (kc' := 26) (ks' := 232) (ev_iX3 (m := 104) (by decide) hT104 hT105 ⟨hI 105 (by decide), hL 105 (by decide), PQ_bl 100 105 (by decide +kernel)⟩ (PQ_s1 (j := 100) rfl)) (hN.sub (by decide) (by decide)) fyX3_init fiX2_32 rfl dX2_init_158 rfl rfl (Nat.le_of_ble_eq_true rfl) (by decide) rfl rfl (hz_capZ Z (by decide) (by decide)) ?_
  refine hz_aastG (pc := 161) C (c := 16) (cv := 3) (E := RX3) (j := 4) (M' := (I, L, PQ 102)) (fun _ => rfl) (by decide) rfl (Or.inl rfl) dX2_init_161 hT88 (by decide) hT104 (by decide) rfl (by decide) (by decide) (PQ_s (j := 101) rfl) ?_
  refine hz_iinc (pc := 162) C (v := nI 5) (ls' := [some (.ref 79), some (.int (nI 5))]) dX2_init_162 rfl (nI_add _ 1) rfl ?_
  refine hz_goto (pc := 165) C (tgt := 143) dX2_init_165 rfl ?_
  refine hz_iload_n (pc := 143) C dX2_init_143 rfl ?_
  refine hz_bipush (pc := 144) C (v := nI 8) dX2_init_144 (by decide +kernel) ?_
  refine hz_ic_ge (pc := 146) C (tgt := 168) dX2_init_146 rfl (fun cq => absurd cq (nI_ge (by decide) (by decide))) (fun _ => ?_)
  refine hz_aload_n (pc := 149) C dX2_init_149 rfl ?_
  refine hz_getP (pc := 150) C (v := 88) ffX2_37 dX2_init_150 hT79 (by decide) rfl (show PQ 102 79 8 = 88 by decide +kernel) (by decide) ?_
  refine hz_iload_n (pc := 153) C dX2_init_153 rfl ?_
  refine hz_newO (pc := 154) C (n1 := 106) (kc' := 27) (ks' := 237) rfl fnX2_30 dX2_init_154 hT106 ⟨hI 106 (by decide), hL 106 (by decide), PQ_bl 102 106 (by decide +kernel)⟩ (hN.sub (by decide) (by decide)) rfl rfl (hz_capZ Z (by decide) (by decide)) ?_
  refine hz_dup (pc := 157) C dX2_init_157 rfl ?_
  refine hz_callINm (pc := 158) C (as := []) (st := [.ref 106, .int (nI 5), .ref 88]) (kc' := 28) (ks' := 243) (ev_iX3 (m := 106) (by decide) hT106 hT107 ⟨hI 107 (by decide), hL 107 (by decide), PQ_bl 102 107 (by decide +kernel)⟩ (PQ_s1 (j := 102) rfl)) (hN.sub (by decide) (by decide)) fyX3_init fiX2_32 rfl dX2_init_158 rfl rfl (Nat.le_of_ble_eq_true rfl) (by decide) rfl rfl (hz_capZ Z (by decide) (by decide)) ?_
  refine hz_aastG (pc := 161) C (c := 16) (cv := 3) (E := RX3) (j := 5) (M' := (I, L, PQ 104)) (fun _ => rfl) (by decide) rfl (Or.inl rfl) dX2_init_161 hT88 (by decide) hT106 (by decide) rfl (by decide) (by decide) (PQ_s (j := 103) rfl) ?_
  refine hz_iinc (pc := 162) C (v := nI 6) (ls' := [some (.ref 79), some (.int (nI 6))]) dX2_init_162 rfl (nI_add _ 1) rfl ?_
  refine hz_goto (pc := 165) C (tgt := 143) dX2_init_165 rfl ?_
  refine hz_iload_n (pc := 143) C dX2_init_143 rfl ?_
  refine hz_bipush (pc := 144) C (v := nI 8) dX2_init_144 (by decide +kernel) ?_
  refine hz_ic_ge (pc := 146) C (tgt := 168) dX2_init_146 rfl (fun cq => absurd cq (nI_ge (by decide) (by decide))) (fun _ => ?_)
  refine hz_aload_n (pc := 149) C dX2_init_149 rfl ?_
  refine hz_getP (pc := 150) C (v := 88) ffX2_37 dX2_init_150 hT79 (by decide) rfl (show PQ 104 79 8 = 88 by decide +kernel) (by decide) ?_
  refine hz_iload_n (pc := 153) C dX2_init_153 rfl ?_
  refine hz_newO (pc := 154) C (n1 := 108) (kc' := 29) (ks' := 248) rfl fnX2_30 dX2_init_154 hT108 ⟨hI 108 (by decide), hL 108 (by decide), PQ_bl 104 108 (by decide +kernel)⟩ (hN.sub (by decide) (by decide)) rfl rfl (hz_capZ Z (by decide) (by decide)) ?_
  refine hz_dup (pc := 157) C dX2_init_157 rfl ?_
  refine hz_callINm (pc := 158) C (as := []) (st := [.ref 108, .int (nI 6), .ref 88]) (kc' := 30) (ks' := 254) (ev_iX3 (m := 108) (by decide) hT108 hT109 ⟨hI 109 (by decide), hL 109 (by decide), PQ_bl 104 109 (by decide +kernel)⟩ (PQ_s1 (j := 104) rfl)) (hN.sub (by decide) (by decide)) fyX3_init fiX2_32 rfl dX2_init_158 rfl rfl (Nat.le_of_ble_eq_true rfl) (by decide) rfl rfl (hz_capZ Z (by decide) (by decide)) ?_
  refine hz_aastG (pc := 161) C (c := 16) (cv := 3) (E := RX3) (j := 6) (M' := (I, L, PQ 106)) (fun _ => rfl) (by decide) rfl (Or.inl rfl) dX2_init_161 hT88 (by decide) hT108 (by decide) rfl (by decide) (by decide) (PQ_s (j := 105) rfl) ?_
  refine hz_iinc (pc := 162) C (v := nI 7) (ls' := [some (.ref 79), some (.int (nI 7))]) dX2_init_162 rfl (nI_add _ 1) rfl ?_
  refine hz_goto (pc := 165) C (tgt := 143) dX2_init_165 rfl ?_
  refine hz_iload_n (pc := 143) C dX2_init_143 rfl ?_
  refine hz_bipush (pc := 144) C (v := nI 8) dX2_init_144 (by decide +kernel) ?_
  refine hz_ic_ge (pc := 146) C (tgt := 168) dX2_init_146 rfl (fun cq => absurd cq (nI_ge (by decide) (by decide))) (fun _ => ?_)
  refine hz_aload_n (pc := 149) C dX2_init_149 rfl ?_
  refine hz_getP (pc := 150) C (v := 88) ffX2_37 dX2_init_150 hT79 (by decide) rfl (show PQ 106 79 8 = 88 by decide +kernel) (by decide) ?_
  refine hz_iload_n (pc := 153) C dX2_init_153 rfl ?_
  refine hz_newO (pc := 154) C (n1 := 110) (kc' := 31) (ks' := 259) rfl fnX2_30 dX2_init_154 hT110 ⟨hI 110 (by decide), hL 110 (by decide), PQ_bl 106 110 (by decide +kernel)⟩ (hN.sub (by decide) (by decide)) rfl rfl (hz_capZ Z (by decide) (by decide)) ?_
  refine hz_dup (pc := 157) C dX2_init_157 rfl ?_
  refine hz_callINm (pc := 158) C (as := []) (st := [.ref 110, .int (nI 7), .ref 88]) (kc' := 32) (ks' := 265) (ev_iX3 (m := 110) (by decide) hT110 hT111 ⟨hI 111 (by decide), hL 111 (by decide), PQ_bl 106 111 (by decide +kernel)⟩ (PQ_s1 (j := 106) rfl)) (hN.sub (by decide) (by decide)) fyX3_init fiX2_32 rfl dX2_init_158 rfl rfl (Nat.le_of_ble_eq_true rfl) (by decide) rfl rfl (hz_capZ Z (by decide) (by decide)) ?_
  refine hz_aastG (pc := 161) C (c := 16) (cv := 3) (E := RX3) (j := 7) (M' := (I, L, PQ 108)) (fun _ => rfl) (by decide) rfl (Or.inl rfl) dX2_init_161 hT88 (by decide) hT110 (by decide) rfl (by decide) (by decide) (PQ_s (j := 107) rfl) ?_
  refine hz_iinc (pc := 162) C (v := nI 8) (ls' := [some (.ref 79), some (.int (nI 8))]) dX2_init_162 rfl (nI_add _ 1) rfl ?_
  refine hz_goto (pc := 165) C (tgt := 143) dX2_init_165 rfl ?_
  refine hz_iload_n (pc := 143) C dX2_init_143 rfl ?_
  refine hz_bipush (pc := 144) C (v := nI 8) dX2_init_144 (by decide +kernel) ?_
  refine hz_ic_ge (pc := 146) C (tgt := 168) dX2_init_146 rfl (fun _ => ?_) (fun cq => absurd (nI_le (by decide) (by decide)) cq)
  refine hz_aload_n (pc := 168) C dX2_init_168 rfl ?_
  refine hz_callVv (pc := 169) C (as := []) (st := []) (ev_rsG79 (show PQ 108 79 1 = 80 by decide +kernel) (show PQ 108 79 7 = 86 by decide +kernel)) (hz_new0 _ _) fyX2_reset fvX2_63 rfl dX2_init_169 hT79 rfl rfl (by decide) rfl rfl (Nat.le_of_ble_eq_true rfl) (by decide) (hz_capZ Z (by decide) (by decide)) ?_
  exact hz_vret C Z rfl dX2_init_172 rfl
set_option maxHeartbeats 4000000 in
set_option maxRecDepth 100000 in
theorem ev_iX2_112 {I : Nat → Nat → Int32} {L : Nat → Nat → Int64} (hI : ∀ a, 112 < a → ∀ k, I a k = 0) (hL : ∀ a, 112 < a → ∀ k, L a k = 0) : hz_Ev mX2_init TT 112 (I, L, PQ 109) [.ref 112] 32 265 none TT 144 (rsI 112 I, L, PQ 141) := by
  refine hz_Ev.intro (ls := [some (.ref 112), none]) (by decide +kernel) rfl (Nat.le_of_ble_eq_true rfl) (fun X C Z hN => ?_)
  refine hz_aload_n (pc := 0) C dX2_init_0 rfl ?_
  refine hz_objInit (pc := 1) C foX2_3 dX2_init_1 rfl (Nat.le_of_ble_eq_true rfl) (by decide) ?_
  refine hz_aload_n (pc := 4) C dX2_init_4 rfl ?_
  refine hz_bipush (pc := 5) C (v := nI 64) dX2_init_5 (by decide +kernel) ?_
  refine hz_newA (pc := 7) C (n1 := 113) (ty := .int) (c := 13) (kc' := 1) (ks' := 64) rfl dX2_init_7 rfl (hz_mp 144 (by decide +kernel)) (fun _ => rfl) (fun _ _ h => h) rfl ⟨by decide, by decide⟩ hT113 rfl (by decide) (by decide +kernel) ⟨hI 113 (by decide), hL 113 (by decide), PQ_bl 109 113 (by decide +kernel)⟩ (hN.sub (by decide) (by decide)) rfl rfl (hz_capZ Z (by decide) (by decide)) ?_
  refine hz_putPF (pc := 9) C (M' := (I, L, PQ 110)) ffX2_9 dX2_init_9 hT112 (by decide) rfl rfl rfl (fun _ h => by cases h; rfl) (fun _ => ⟨rfl, rfl⟩) (by decide) (PQ_s (j := 109) rfl) ?_
  refine hz_aload_n (pc := 12) C dX2_init_12 rfl ?_
  refine hz_bipush (pc := 13) C (v := nI 64) dX2_init_13 (by decide +kernel) ?_
  refine hz_newA (pc := 15) C (n1 := 114) (ty := .int) (c := 13) (kc' := 2) (ks' := 128) rfl dX2_init_15 rfl (hz_mp 144 (by decide +kernel)) (fun _ => rfl) (fun _ _ h => h) rfl ⟨by decide, by decide⟩ hT114 rfl (by decide) (by decide +kernel) ⟨hI 114 (by decide), hL 114 (by decide), PQ_bl 110 114 (by decide +kernel)⟩ (hN.sub (by decide) (by decide)) rfl rfl (hz_capZ Z (by decide) (by decide)) ?_
  refine hz_putPF (pc := 17) C (M' := (I, L, PQ 111)) ffX2_15 dX2_init_17 hT112 (by decide) rfl rfl rfl (fun _ h => by cases h; rfl) (fun _ => ⟨rfl, rfl⟩) (by decide) (PQ_s (j := 110) rfl) ?_
  refine hz_aload_n (pc := 20) C dX2_init_20 rfl ?_
  refine hz_bipush (pc := 21) C (v := nI 6) dX2_init_21 (by decide +kernel) ?_
  refine hz_newA (pc := 23) C (n1 := 115) (ty := .int) (c := 13) (kc' := 3) (ks' := 134) rfl dX2_init_23 rfl (hz_mp 144 (by decide +kernel)) (fun _ => rfl) (fun _ _ h => h) rfl ⟨by decide, by decide⟩ hT115 rfl (by decide) (by decide +kernel) ⟨hI 115 (by decide), hL 115 (by decide), PQ_bl 111 115 (by decide +kernel)⟩ (hN.sub (by decide) (by decide)) rfl rfl (hz_capZ Z (by decide) (by decide)) ?_
  refine hz_putPF (pc := 25) C (M' := (I, L, PQ 112)) ffX2_18 dX2_init_25 hT112 (by decide) rfl rfl rfl (fun _ h => by cases h; rfl) (fun _ => ⟨rfl, rfl⟩) (by decide) (PQ_s (j := 111) rfl) ?_
  refine hz_aload_n (pc := 28) C dX2_init_28 rfl ?_
  refine hz_bipush (pc := 29) C (v := nI 6) dX2_init_29 (by decide +kernel) ?_
  refine hz_newA (pc := 31) C (n1 := 116) (ty := .int) (c := 13) (kc' := 4) (ks' := 140) rfl dX2_init_31 rfl (hz_mp 144 (by decide +kernel)) (fun _ => rfl) (fun _ _ h => h) rfl ⟨by decide, by decide⟩ hT116 rfl (by decide) (by decide +kernel) ⟨hI 116 (by decide), hL 116 (by decide), PQ_bl 112 116 (by decide +kernel)⟩ (hN.sub (by decide) (by decide)) rfl rfl (hz_capZ Z (by decide) (by decide)) ?_
  refine hz_putPF (pc := 33) C (M' := (I, L, PQ 113)) ffX2_21 dX2_init_33 hT112 (by decide) rfl rfl rfl (fun _ h => by cases h; rfl) (fun _ => ⟨rfl, rfl⟩) (by decide) (PQ_s (j := 112) rfl) ?_
  refine hz_aload_n (pc := 36) C dX2_init_36 rfl ?_
  refine hz_bipush (pc := 37) C (v := nI 6) dX2_init_37 (by decide +kernel) ?_
  refine hz_newA (pc := 39) C (n1 := 117) (ty := .int) (c := 13) (kc' := 5) (ks' := 146) rfl dX2_init_39 rfl (hz_mp 144 (by decide +kernel)) (fun _ => rfl) (fun _ _ h => h) rfl ⟨by decide, by decide⟩ hT117 rfl (by decide) (by decide +kernel) ⟨hI 117 (by decide), hL 117 (by decide), PQ_bl 113 117 (by decide +kernel)⟩ (hN.sub (by decide) (by decide)) rfl rfl (hz_capZ Z (by decide) (by decide)) ?_
  refine hz_putPF (pc := 41) C (M' := (I, L, PQ 114)) ffX2_24 dX2_init_41 hT112 (by decide) rfl rfl rfl (fun _ h => by cases h; rfl) (fun _ => ⟨rfl, rfl⟩) (by decide) (PQ_s (j := 113) rfl) ?_
  refine hz_aload_n (pc := 44) C dX2_init_44 rfl ?_
  refine hz_bipush (pc := 45) C (v := nI 6) dX2_init_45 (by decide +kernel) ?_
  refine hz_newA (pc := 47) C (n1 := 118) (ty := .int) (c := 13) (kc' := 6) (ks' := 152) rfl dX2_init_47 rfl (hz_mp 144 (by decide +kernel)) (fun _ => rfl) (fun _ _ h => h) rfl ⟨by decide, by decide⟩ hT118 rfl (by decide) (by decide +kernel) ⟨hI 118 (by decide), hL 118 (by decide), PQ_bl 114 118 (by decide +kernel)⟩ (hN.sub (by decide) (by decide)) rfl rfl (hz_capZ Z (by decide) (by decide)) ?_
  refine hz_putPF (pc := 49) C (M' := (I, L, PQ 115)) ffX2_27 dX2_init_49 hT112 (by decide) rfl rfl rfl (fun _ h => by cases h; rfl) (fun _ => ⟨rfl, rfl⟩) (by decide) (PQ_s (j := 114) rfl) ?_
  refine hz_aload_n (pc := 52) C dX2_init_52 rfl ?_
  refine hz_newO (pc := 53) C (n1 := 119) (kc' := 7) (ks' := 157) rfl fnX2_30 dX2_init_53 hT119 ⟨hI 119 (by decide), hL 119 (by decide), PQ_bl 115 119 (by decide +kernel)⟩ (hN.sub (by decide) (by decide)) rfl rfl (hz_capZ Z (by decide) (by decide)) ?_
  refine hz_dup (pc := 56) C dX2_init_56 rfl ?_
  refine hz_callINm (pc := 57) C (as := []) (st := [.ref 119, .ref 112]) (kc' := 8) (ks' := 163) (ev_iX3 (m := 119) (by decide) hT119 hT120 ⟨hI 120 (by decide), hL 120 (by decide), PQ_bl 115 120 (by decide +kernel)⟩ (PQ_s1 (j := 115) rfl)) (hN.sub (by decide) (by decide)) fyX3_init fiX2_32 rfl dX2_init_57 rfl rfl (Nat.le_of_ble_eq_true rfl) (by decide) rfl rfl (hz_capZ Z (by decide) (by decide)) ?_
  refine hz_putPF (pc := 60) C (M' := (I, L, PQ 117)) ffX2_33 dX2_init_60 hT112 (by decide) rfl rfl rfl (fun _ h => by cases h; rfl) (fun _ => ⟨rfl, rfl⟩) (by decide) (PQ_s (j := 116) rfl) ?_
  refine hz_aload_n (pc := 63) C dX2_init_63 rfl ?_
  refine hz_bipush (pc := 64) C (v := nI 8) dX2_init_64 (by decide +kernel) ?_
  refine hz_newQ (pc := 66) C (n1 := 121) (E := RX3) (c := 16) (kc' := 9) (ks' := 171) rfl dX2_init_66 (hz_mp 151 (by decide +kernel)) (hz_mn 188 (by decide +kernel)) (fun _ => rfl) (by decide) hT121 rfl (by decide) ⟨hI 121 (by decide), hL 121 (by decide), PQ_bl 117 121 (by decide +kernel)⟩ (hN.sub (by decide) (by decide)) rfl rfl (hz_capZ Z (by decide) (by decide)) ?_
  refine hz_putPF (pc := 69) C (M' := (I, L, PQ 118)) ffX2_37 dX2_init_69 hT112 (by decide) rfl rfl rfl (fun _ h => by cases h; rfl) (fun _ => ⟨rfl, rfl⟩) (by decide) (PQ_s (j := 117) rfl) ?_
  refine hz_aload_n (pc := 72) C dX2_init_72 rfl ?_
  refine hz_bipush (pc := 73) C (v := nI 6) dX2_init_73 (by decide +kernel) ?_
  refine hz_newQ (pc := 75) C (n1 := 122) (E := RX6) (c := 17) (kc' := 10) (ks' := 177) rfl dX2_init_75 (hz_mp 189 (by decide +kernel)) (hz_mn 190 (by decide +kernel)) (fun _ => rfl) (by decide) hT122 rfl (by decide) ⟨hI 122 (by decide), hL 122 (by decide), PQ_bl 118 122 (by decide +kernel)⟩ (hN.sub (by decide) (by decide)) rfl rfl (hz_capZ Z (by decide) (by decide)) ?_
  refine hz_dup (pc := 78) C dX2_init_78 rfl ?_
  refine hz_iconst (pc := 79) C (v := nI 0) dX2_init_79 (by decide +kernel) ?_
  refine hz_newO (pc := 80) C (n1 := 123) (kc' := 11) (ks' := 177) rfl fnX2_41 dX2_init_80 hT123 ⟨hI 123 (by decide), hL 123 (by decide), PQ_bl 118 123 (by decide +kernel)⟩ (hN.sub (by decide) (by decide)) rfl rfl (hz_capZ Z (by decide) (by decide)) ?_
  refine hz_dup (pc := 83) C dX2_init_83 rfl ?_
  refine hz_callINm (pc := 84) C (as := []) (st := [.ref 123, .int (nI 0), .ref 122, .ref 122, .ref 112]) (kc' := 11) (ks' := 177) ev_iX6_init (hN.sub (by decide) (by decide)) fyX6_init fiX2_43 rfl dX2_init_84 rfl rfl (Nat.le_of_ble_eq_true rfl) (by decide) rfl rfl (hz_capZ Z (by decide) (by decide)) ?_
  refine hz_aastG (pc := 87) C (c := 17) (cv := 6) (E := RX6) (j := 0) (M' := (I, L, PQ 119)) (fun _ => rfl) (by decide) rfl (Or.inl rfl) dX2_init_87 hT122 (by decide) hT123 (by decide) rfl (by decide) (by decide) (PQ_s (j := 118) rfl) ?_
  refine hz_dup (pc := 88) C dX2_init_88 rfl ?_
  refine hz_iconst (pc := 89) C (v := nI 1) dX2_init_89 (by decide +kernel) ?_
  refine hz_newO (pc := 90) C (n1 := 124) (kc' := 12) (ks' := 177) rfl fnX2_44 dX2_init_90 hT124 ⟨hI 124 (by decide), hL 124 (by decide), PQ_bl 119 124 (by decide +kernel)⟩ (hN.sub (by decide) (by decide)) rfl rfl (hz_capZ Z (by decide) (by decide)) ?_
  refine hz_dup (pc := 93) C dX2_init_93 rfl ?_
  refine hz_callINm (pc := 94) C (as := []) (st := [.ref 124, .int (nI 1), .ref 122, .ref 122, .ref 112]) (kc' := 12) (ks' := 177) ev_iX4_init (hN.sub (by decide) (by decide)) fyX4_init fiX2_46 rfl dX2_init_94 rfl rfl (Nat.le_of_ble_eq_true rfl) (by decide) rfl rfl (hz_capZ Z (by decide) (by decide)) ?_
  refine hz_aastG (pc := 97) C (c := 17) (cv := 4) (E := RX6) (j := 1) (M' := (I, L, PQ 120)) (fun _ => rfl) (by decide) rfl (Or.inr (hz_mn 1264 (by decide +kernel))) dX2_init_97 hT122 (by decide) hT124 (by decide) rfl (by decide) (by decide) (PQ_s (j := 119) rfl) ?_
  refine hz_dup (pc := 98) C dX2_init_98 rfl ?_
  refine hz_iconst (pc := 99) C (v := nI 2) dX2_init_99 (by decide +kernel) ?_
  refine hz_newO (pc := 100) C (n1 := 125) (kc' := 13) (ks' := 177) rfl fnX2_47 dX2_init_100 hT125 ⟨hI 125 (by decide), hL 125 (by decide), PQ_bl 120 125 (by decide +kernel)⟩ (hN.sub (by decide) (by decide)) rfl rfl (hz_capZ Z (by decide) (by decide)) ?_
  refine hz_dup (pc := 103) C dX2_init_103 rfl ?_
  refine hz_callINm (pc := 104) C (as := []) (st := [.ref 125, .int (nI 2), .ref 122, .ref 122, .ref 112]) (kc' := 13) (ks' := 177) ev_iX9_init (hN.sub (by decide) (by decide)) fyX9_init fiX2_49 rfl dX2_init_104 rfl rfl (Nat.le_of_ble_eq_true rfl) (by decide) rfl rfl (hz_capZ Z (by decide) (by decide)) ?_
  refine hz_aastG (pc := 107) C (c := 17) (cv := 9) (E := RX6) (j := 2) (M' := (I, L, PQ 121)) (fun _ => rfl) (by decide) rfl (Or.inr (hz_mn 1265 (by decide +kernel))) dX2_init_107 hT122 (by decide) hT125 (by decide) rfl (by decide) (by decide) (PQ_s (j := 120) rfl) ?_
  refine hz_dup (pc := 108) C dX2_init_108 rfl ?_
  refine hz_iconst (pc := 109) C (v := nI 3) dX2_init_109 (by decide +kernel) ?_
  refine hz_newO (pc := 110) C (n1 := 126) (kc' := 14) (ks' := 177) rfl fnX2_50 dX2_init_110 hT126 ⟨hI 126 (by decide), hL 126 (by decide), PQ_bl 121 126 (by decide +kernel)⟩ (hN.sub (by decide) (by decide)) rfl rfl (hz_capZ Z (by decide) (by decide)) ?_
  refine hz_dup (pc := 113) C dX2_init_113 rfl ?_
  refine hz_callINm (pc := 114) C (as := []) (st := [.ref 126, .int (nI 3), .ref 122, .ref 122, .ref 112]) (kc' := 14) (ks' := 177) ev_iX0_init (hN.sub (by decide) (by decide)) fyX0_init fiX2_52 rfl dX2_init_114 rfl rfl (Nat.le_of_ble_eq_true rfl) (by decide) rfl rfl (hz_capZ Z (by decide) (by decide)) ?_
  refine hz_aastG (pc := 117) C (c := 17) (cv := 0) (E := RX6) (j := 3) (M' := (I, L, PQ 122)) (fun _ => rfl) (by decide) rfl (Or.inr (hz_mn 1266 (by decide +kernel))) dX2_init_117 hT122 (by decide) hT126 (by decide) rfl (by decide) (by decide) (PQ_s (j := 121) rfl) ?_
  refine hz_dup (pc := 118) C dX2_init_118 rfl ?_
  refine hz_iconst (pc := 119) C (v := nI 4) dX2_init_119 (by decide +kernel) ?_
  refine hz_newO (pc := 120) C (n1 := 127) (kc' := 15) (ks' := 177) rfl fnX2_53 dX2_init_120 hT127 ⟨hI 127 (by decide), hL 127 (by decide), PQ_bl 122 127 (by decide +kernel)⟩ (hN.sub (by decide) (by decide)) rfl rfl (hz_capZ Z (by decide) (by decide)) ?_
  refine hz_dup (pc := 123) C dX2_init_123 rfl ?_
  refine hz_callINm (pc := 124) C (as := []) (st := [.ref 127, .int (nI 4), .ref 122, .ref 122, .ref 112]) (kc' := 15) (ks' := 177) ev_iX5_init (hN.sub (by decide) (by decide)) fyX5_init fiX2_55 rfl dX2_init_124 rfl rfl (Nat.le_of_ble_eq_true rfl) (by decide) rfl rfl (hz_capZ Z (by decide) (by decide)) ?_
  refine hz_aastG (pc := 127) C (c := 17) (cv := 5) (E := RX6) (j := 4) (M' := (I, L, PQ 123)) (fun _ => rfl) (by decide) rfl (Or.inr (hz_mn 1267 (by decide +kernel))) dX2_init_127 hT122 (by decide) hT127 (by decide) rfl (by decide) (by decide) (PQ_s (j := 122) rfl) ?_
  refine hz_dup (pc := 128) C dX2_init_128 rfl ?_
  refine hz_iconst (pc := 129) C (v := nI 5) dX2_init_129 (by decide +kernel) ?_
  refine hz_newO (pc := 130) C (n1 := 128) (kc' := 16) (ks' := 177) rfl fnX2_56 dX2_init_130 hT128 ⟨hI 128 (by decide), hL 128 (by decide), PQ_bl 123 128 (by decide +kernel)⟩ (hN.sub (by decide) (by decide)) rfl rfl (hz_capZ Z (by decide) (by decide)) ?_
  refine hz_dup (pc := 133) C dX2_init_133 rfl ?_
  refine hz_callINm (pc := 134) C (as := []) (st := [.ref 128, .int (nI 5), .ref 122, .ref 122, .ref 112]) (kc' := 16) (ks' := 177) ev_iX1_init (hN.sub (by decide) (by decide)) fyX1_init fiX2_58 rfl dX2_init_134 rfl rfl (Nat.le_of_ble_eq_true rfl) (by decide) rfl rfl (hz_capZ Z (by decide) (by decide)) ?_
  refine hz_aastG (pc := 137) C (c := 17) (cv := 1) (E := RX6) (j := 5) (M' := (I, L, PQ 124)) (fun _ => rfl) (by decide) rfl (Or.inr (hz_mn 1268 (by decide +kernel))) dX2_init_137 hT122 (by decide) hT128 (by decide) rfl (by decide) (by decide) (PQ_s (j := 123) rfl) ?_
  refine hz_putPF (pc := 138) C (M' := (I, L, PQ 125)) ffX2_59 dX2_init_138 hT112 (by decide) rfl rfl rfl (fun _ h => by cases h; rfl) (fun _ => ⟨rfl, rfl⟩) (by decide) (PQ_s (j := 124) rfl) ?_
  refine hz_iconst (pc := 141) C (v := nI 0) dX2_init_141 (by decide +kernel) ?_
  refine hz_istore_n (pc := 142) C (ls' := [some (.ref 112), some (.int (nI 0))]) dX2_init_142 (Nat.le_of_ble_eq_true rfl) rfl ?_
  refine hz_iload_n (pc := 143) C dX2_init_143 rfl ?_
  refine hz_bipush (pc := 144) C (v := nI 8) dX2_init_144 (by decide +kernel) ?_
  refine hz_ic_ge (pc := 146) C (tgt := 168) dX2_init_146 rfl (fun cq => absurd cq (nI_ge (by decide) (by decide))) (fun _ => ?_)
  refine hz_aload_n (pc := 149) C dX2_init_149 rfl ?_
  refine hz_getP (pc := 150) C (v := 121) ffX2_37 dX2_init_150 hT112 (by decide) rfl (show PQ 125 112 8 = 121 by decide +kernel) (by decide) ?_
  refine hz_iload_n (pc := 153) C dX2_init_153 rfl ?_
  refine hz_newO (pc := 154) C (n1 := 129) (kc' := 17) (ks' := 182) rfl fnX2_30 dX2_init_154 hT129 ⟨hI 129 (by decide), hL 129 (by decide), PQ_bl 125 129 (by decide +kernel)⟩ (hN.sub (by decide) (by decide)) rfl rfl (hz_capZ Z (by decide) (by decide)) ?_
  refine hz_dup (pc := 157) C dX2_init_157 rfl ?_
  refine hz_callINm (pc := 158) C (as := []) (st := [.ref 129, .int (nI 0), .ref 121]) (kc' := 18) (ks' := 188) (ev_iX3 (m := 129) (by decide) hT129 hT130 ⟨hI 130 (by decide), hL 130 (by decide), PQ_bl 125 130 (by decide +kernel)⟩ (PQ_s1 (j := 125) rfl)) (hN.sub (by decide) (by decide)) fyX3_init fiX2_32 rfl dX2_init_158 rfl rfl (Nat.le_of_ble_eq_true rfl) (by decide) rfl rfl (hz_capZ Z (by decide) (by decide)) ?_
  refine hz_aastG (pc := 161) C (c := 16) (cv := 3) (E := RX3) (j := 0) (M' := (I, L, PQ 127)) (fun _ => rfl) (by decide) rfl (Or.inl rfl) dX2_init_161 hT121 (by decide) hT129 (by decide) rfl (by decide) (by decide) (PQ_s (j := 126) rfl) ?_
  refine hz_iinc (pc := 162) C (v := nI 1) (ls' := [some (.ref 112), some (.int (nI 1))]) dX2_init_162 rfl (nI_add _ 1) rfl ?_
  refine hz_goto (pc := 165) C (tgt := 143) dX2_init_165 rfl ?_
  refine hz_iload_n (pc := 143) C dX2_init_143 rfl ?_
  refine hz_bipush (pc := 144) C (v := nI 8) dX2_init_144 (by decide +kernel) ?_
  refine hz_ic_ge (pc := 146) C (tgt := 168) dX2_init_146 rfl (fun cq => absurd cq (nI_ge (by decide) (by decide))) (fun _ => ?_)
  refine hz_aload_n (pc := 149) C dX2_init_149 rfl ?_
  refine hz_getP (pc := 150) C (v := 121) ffX2_37 dX2_init_150 hT112 (by decide) rfl (show PQ 127 112 8 = 121 by decide +kernel) (by decide) ?_
  refine hz_iload_n (pc := 153) C dX2_init_153 rfl ?_
  refine hz_newO (pc := 154) C (n1 := 131) (kc' := 19) (ks' := 193) rfl fnX2_30 dX2_init_154 hT131 ⟨hI 131 (by decide), hL 131 (by decide), PQ_bl 127 131 (by decide +kernel)⟩ (hN.sub (by decide) (by decide)) rfl rfl (hz_capZ Z (by decide) (by decide)) ?_
  refine hz_dup (pc := 157) C dX2_init_157 rfl ?_
  refine hz_callINm (pc := 158) C (as := []) (st := [.ref 131, .int (nI 1), .ref 121]) (kc' := 20) (ks' := 199) (ev_iX3 (m := 131) (by decide) hT131 hT132 ⟨hI 132 (by decide), hL 132 (by decide), PQ_bl 127 132 (by decide +kernel)⟩ (PQ_s1 (j := 127) rfl)) (hN.sub (by decide) (by decide)) fyX3_init fiX2_32 rfl dX2_init_158 rfl rfl (Nat.le_of_ble_eq_true rfl) (by decide) rfl rfl (hz_capZ Z (by decide) (by decide)) ?_
  refine hz_aastG (pc := 161) C (c := 16) (cv := 3) (E := RX3) (j := 1) (M' := (I, L, PQ 129)) (fun _ => rfl) (by decide) rfl (Or.inl rfl) dX2_init_161 hT121 (by decide) hT131 (by decide) rfl (by decide) (by decide) (PQ_s (j := 128) rfl) ?_
  refine hz_iinc (pc := 162) C (v := nI 2) (ls' := [some (.ref 112), some (.int (nI 2))]) dX2_init_162 rfl (nI_add _ 1) rfl ?_
  refine hz_goto (pc := 165) C (tgt := 143) dX2_init_165 rfl ?_
  refine hz_iload_n (pc := 143) C dX2_init_143 rfl ?_
  refine hz_bipush (pc := 144) C (v := nI 8) dX2_init_144 (by decide +kernel) ?_
  refine hz_ic_ge (pc := 146) C (tgt := 168) dX2_init_146 rfl (fun cq => absurd cq (nI_ge (by decide) (by decide))) (fun _ => ?_)
  refine hz_aload_n (pc := 149) C dX2_init_149 rfl ?_
  refine hz_getP (pc := 150) C (v := 121) ffX2_37 dX2_init_150 hT112 (by decide) rfl (show PQ 129 112 8 = 121 by decide +kernel) (by decide) ?_
  refine hz_iload_n (pc := 153) C dX2_init_153 rfl ?_
  refine hz_newO (pc := 154) C (n1 := 133) (kc' := 21) (ks' := 204) rfl fnX2_30 dX2_init_154 hT133 ⟨hI 133 (by decide), hL 133 (by decide), PQ_bl 129 133 (by decide +kernel)⟩ (hN.sub (by decide) (by decide)) rfl rfl (hz_capZ Z (by decide) (by decide)) ?_
  refine hz_dup (pc := 157) C dX2_init_157 rfl ?_
  refine hz_callINm (pc := 158) C (as := []) (st := [.ref 133, .int (nI 2), .ref 121]) (kc' := 22) (ks' := 210) (ev_iX3 (m := 133) (by decide) hT133 hT134 ⟨hI 134 (by decide), hL 134 (by decide), PQ_bl 129 134 (by decide +kernel)⟩ (PQ_s1 (j := 129) rfl)) (hN.sub (by decide) (by decide)) fyX3_init fiX2_32 rfl dX2_init_158 rfl rfl (Nat.le_of_ble_eq_true rfl) (by decide) rfl rfl (hz_capZ Z (by decide) (by decide)) ?_
  refine hz_aastG (pc := 161) C (c := 16) (cv := 3) (E := RX3) (j := 2) (M' := (I, L, PQ 131)) (fun _ => rfl) (by decide) rfl (Or.inl rfl) dX2_init_161 hT121 (by decide) hT133 (by decide) rfl (by decide) (by decide) (PQ_s (j := 130) rfl) ?_
  refine hz_iinc (pc := 162) C (v := nI 3) (ls' := [some (.ref 112), some (.int (nI 3))]) dX2_init_162 rfl (nI_add _ 1) rfl ?_
  refine hz_goto (pc := 165) C (tgt := 143) dX2_init_165 rfl ?_
  refine hz_iload_n (pc := 143) C dX2_init_143 rfl ?_
  refine hz_bipush (pc := 144) C (v := nI 8) dX2_init_144 (by decide +kernel) ?_
  refine hz_ic_ge (pc := 146) C (tgt := 168) dX2_init_146 rfl (fun cq => absurd cq (nI_ge (by decide) (by decide))) (fun _ => ?_)
  refine hz_aload_n (pc := 149) C dX2_init_149 rfl ?_
  refine hz_getP (pc := 150) C (v := 121) ffX2_37 dX2_init_150 hT112 (by decide) rfl (show PQ 131 112 8 = 121 by decide +kernel) (by decide) ?_
  refine hz_iload_n (pc := 153) C dX2_init_153 rfl ?_
  refine hz_newO (pc := 154) C (n1 := 135) (kc' := 23) (ks' := 215) rfl fnX2_30 dX2_init_154 hT135 ⟨hI 135 (by decide), hL 135 (by decide), PQ_bl 131 135 (by decide +kernel)⟩ (hN.sub (by decide) (by decide)) rfl rfl (hz_capZ Z (by decide) (by decide)) ?_
  refine hz_dup (pc := 157) C dX2_init_157 rfl ?_
  refine hz_callINm (pc := 158) C (as := []) (st := [.ref 135, .int (nI 3), .ref 121]) (kc' := 24) (ks' := 221) (ev_iX3 (m := 135) (by decide) hT135 hT136 ⟨hI 136 (by decide), hL 136 (by decide), PQ_bl 131 136 (by decide +kernel)⟩ (PQ_s1 (j := 131) rfl)) (hN.sub (by decide) (by decide)) fyX3_init fiX2_32 rfl dX2_init_158 rfl rfl (Nat.le_of_ble_eq_true rfl) (by decide) rfl rfl (hz_capZ Z (by decide) (by decide)) ?_
  refine hz_aastG (pc := 161) C (c := 16) (cv := 3) (E := RX3) (j := 3) (M' := (I, L, PQ 133)) (fun _ => rfl) (by decide) rfl (Or.inl rfl) dX2_init_161 hT121 (by decide) hT135 (by decide) rfl (by decide) (by decide) (PQ_s (j := 132) rfl) ?_
  refine hz_iinc (pc := 162) C (v := nI 4) (ls' := [some (.ref 112), some (.int (nI 4))]) dX2_init_162 rfl (nI_add _ 1) rfl ?_
  refine hz_goto (pc := 165) C (tgt := 143) dX2_init_165 rfl ?_
  refine hz_iload_n (pc := 143) C dX2_init_143 rfl ?_
  refine hz_bipush (pc := 144) C (v := nI 8) dX2_init_144 (by decide +kernel) ?_
  refine hz_ic_ge (pc := 146) C (tgt := 168) dX2_init_146 rfl (fun cq => absurd cq (nI_ge (by decide) (by decide))) (fun _ => ?_)
  refine hz_aload_n (pc := 149) C dX2_init_149 rfl ?_
  refine hz_getP (pc := 150) C (v := 121) ffX2_37 dX2_init_150 hT112 (by decide) rfl (show PQ 133 112 8 = 121 by decide +kernel) (by decide) ?_
  refine hz_iload_n (pc := 153) C dX2_init_153 rfl ?_
  refine hz_newO (pc := 154) C (n1 := 137) (kc' := 25) (ks' := 226) rfl fnX2_30 dX2_init_154 hT137 ⟨hI 137 (by decide), hL 137 (by decide), PQ_bl 133 137 (by decide +kernel)⟩ (hN.sub (by decide) (by decide)) rfl rfl (hz_capZ Z (by decide) (by decide)) ?_
  refine hz_dup (pc := 157) C dX2_init_157 rfl ?_
  refine hz_callINm (pc := 158) C (as := []) (st := [.ref 137, .int (nI 4), .ref 121]) (kc' := 26) (ks' := 232) (ev_iX3 (m := 137) (by decide) hT137 hT138 ⟨hI 138 (by decide), hL 138 (by decide), PQ_bl 133 138 (by decide +kernel)⟩ (PQ_s1 (j := 133) rfl)) (hN.sub (by decide) (by decide)) fyX3_init fiX2_32 rfl dX2_init_158 rfl rfl (Nat.le_of_ble_eq_true rfl) (by decide) rfl rfl (hz_capZ Z (by decide) (by decide)) ?_
  refine hz_aastG (pc := 161) C (c := 16) (cv := 3) (E := RX3) (j := 4) (M' := (I, L, PQ 135)) (fun _ => rfl) (by decide) rfl (Or.inl rfl) dX2_init_161 hT121 (by decide) hT137 (by decide) rfl (by decide) (by decide) (PQ_s (j := 134) rfl) ?_
  refine hz_iinc (pc := 162) C (v := nI 5) (ls' := [some (.ref 112), some (.int (nI 5))]) dX2_init_162 rfl (nI_add _ 1) rfl ?_
  refine hz_goto (pc := 165) C (tgt := 143) dX2_init_165 rfl ?_
  refine hz_iload_n (pc := 143) C dX2_init_143 rfl ?_
  refine hz_bipush (pc := 144) C (v := nI 8) dX2_init_144 (by decide +kernel) ?_
  refine hz_ic_ge (pc := 146) C (tgt := 168) dX2_init_146 rfl (fun cq => absurd cq (nI_ge (by decide) (by decide))) (fun _ => ?_)
  refine hz_aload_n (pc := 149) C dX2_init_149 rfl ?_
  refine hz_getP (pc := 150) C (v := 121) ffX2_37 dX2_init_150 hT112 (by decide) rfl (show PQ 135 112 8 = 121 by decide +kernel) (by decide) ?_
  refine hz_iload_n (pc := 153) C dX2_init_153 rfl ?_
  refine hz_newO (pc := 154) C (n1 := 139) (kc' := 27) (ks' := 237) rfl fnX2_30 dX2_init_154 hT139 ⟨hI 139 (by decide), hL 139 (by decide), PQ_bl 135 139 (by decide +kernel)⟩ (hN.sub (by decide) (by decide)) rfl rfl (hz_capZ Z (by decide) (by decide)) ?_
  refine hz_dup (pc := 157) C dX2_init_157 rfl ?_
  refine hz_callINm (pc := 158) C (as := []) (st := [.ref 139, .int (nI 5), .ref 121]) (kc' := 28) (ks' := 243) (ev_iX3 (m := 139) (by decide) hT139 hT140 ⟨hI 140 (by decide), hL 140 (by decide), PQ_bl 135 140 (by decide +kernel)⟩ (PQ_s1 (j := 135) rfl)) (hN.sub (by decide) (by decide)) fyX3_init fiX2_32 rfl dX2_init_158 rfl rfl (Nat.le_of_ble_eq_true rfl) (by decide) rfl rfl (hz_capZ Z (by decide) (by decide)) ?_
  refine hz_aastG (pc := 161) C (c := 16) (cv := 3) (E := RX3) (j := 5) (M' := (I, L, PQ 137)) (fun _ => rfl) (by decide) rfl (Or.inl rfl) dX2_init_161 hT121 (by decide) hT139 (by decide) rfl (by decide) (by decide) (PQ_s (j := 136) rfl) ?_
  refine hz_iinc (pc := 162) C (v := nI 6) (ls' := [some (.ref 112), some (.int (nI 6))]) dX2_init_162 rfl (nI_add _ 1) rfl ?_
  refine hz_goto (pc := 165) C (tgt := 143) dX2_init_165 rfl ?_
  refine hz_iload_n (pc := 143) C dX2_init_143 rfl ?_
  refine hz_bipush (pc := 144) C (v := nI 8) dX2_init_144 (by decide +kernel) ?_
  refine hz_ic_ge (pc := 146) C (tgt := 168) dX2_init_146 rfl (fun cq => absurd cq (nI_ge (by decide) (by decide))) (fun _ => ?_)
  refine hz_aload_n (pc := 149) C dX2_init_149 rfl ?_
  refine hz_getP (pc := 150) C (v := 121) ffX2_37 dX2_init_150 hT112 (by decide) rfl (show PQ 137 112 8 = 121 by decide +kernel) (by decide) ?_
  refine hz_iload_n (pc := 153) C dX2_init_153 rfl ?_
  refine hz_newO (pc := 154) C (n1 := 141) (kc' := 29) (ks' := 248) rfl fnX2_30 dX2_init_154 hT141 ⟨hI 141 (by decide), hL 141 (by decide), PQ_bl 137 141 (by decide +kernel)⟩ (hN.sub (by decide) (by decide)) rfl rfl (hz_capZ Z (by decide) (by decide)) ?_
  refine hz_dup (pc := 157) C dX2_init_157 rfl ?_
  refine hz_callINm (pc := 158) C (as := []) (st := [.ref 141, .int (nI 6), .ref 121]) (kc' := 30) (ks' := 254) (ev_iX3 (m := 141) (by decide) hT141 hT142 ⟨hI 142 (by decide), hL 142 (by decide), PQ_bl 137 142 (by decide +kernel)⟩ (PQ_s1 (j := 137) rfl)) (hN.sub (by decide) (by decide)) fyX3_init fiX2_32 rfl dX2_init_158 rfl rfl (Nat.le_of_ble_eq_true rfl) (by decide) rfl rfl (hz_capZ Z (by decide) (by decide)) ?_
  refine hz_aastG (pc := 161) C (c := 16) (cv := 3) (E := RX3) (j := 6) (M' := (I, L, PQ 139)) (fun _ => rfl) (by decide) rfl (Or.inl rfl) dX2_init_161 hT121 (by decide) hT141 (by decide) rfl (by decide) (by decide) (PQ_s (j := 138) rfl) ?_
  refine hz_iinc (pc := 162) C (v := nI 7) (ls' := [some (.ref 112), some (.int (nI 7))]) dX2_init_162 rfl (nI_add _ 1) rfl ?_
  refine hz_goto (pc := 165) C (tgt := 143) dX2_init_165 rfl ?_
  refine hz_iload_n (pc := 143) C dX2_init_143 rfl ?_
  refine hz_bipush (pc := 144) C (v := nI 8) dX2_init_144 (by decide +kernel) ?_
  refine hz_ic_ge (pc := 146) C (tgt := 168) dX2_init_146 rfl (fun cq => absurd cq (nI_ge (by decide) (by decide))) (fun _ => ?_)
  refine hz_aload_n (pc := 149) C dX2_init_149 rfl ?_
  refine hz_getP (pc := 150) C (v := 121) ffX2_37 dX2_init_150 hT112 (by decide) rfl (show PQ 139 112 8 = 121 by decide +kernel) (by decide) ?_
  refine hz_iload_n (pc := 153) C dX2_init_153 rfl ?_
  refine hz_newO (pc := 154) C (n1 := 143) (kc' := 31) (ks' := 259) rfl fnX2_30 dX2_init_154 hT143 ⟨hI 143 (by decide), hL 143 (by decide), PQ_bl 139 143 (by decide +kernel)⟩ (hN.sub (by decide) (by decide)) rfl rfl (hz_capZ Z (by decide) (by decide)) ?_
  refine hz_dup (pc := 157) C dX2_init_157 rfl ?_
  refine hz_callINm (pc := 158) C (as := []) (st := [.ref 143, .int (nI 7), .ref 121]) (kc' := 32) (ks' := 265) (ev_iX3 (m := 143) (by decide) hT143 hT144 ⟨hI 144 (by decide), hL 144 (by decide), PQ_bl 139 144 (by decide +kernel)⟩ (PQ_s1 (j := 139) rfl)) (hN.sub (by decide) (by decide)) fyX3_init fiX2_32 rfl dX2_init_158 rfl rfl (Nat.le_of_ble_eq_true rfl) (by decide) rfl rfl (hz_capZ Z (by decide) (by decide)) ?_
  refine hz_aastG (pc := 161) C (c := 16) (cv := 3) (E := RX3) (j := 7) (M' := (I, L, PQ 141)) (fun _ => rfl) (by decide) rfl (Or.inl rfl) dX2_init_161 hT121 (by decide) hT143 (by decide) rfl (by decide) (by decide) (PQ_s (j := 140) rfl) ?_
  refine hz_iinc (pc := 162) C (v := nI 8) (ls' := [some (.ref 112), some (.int (nI 8))]) dX2_init_162 rfl (nI_add _ 1) rfl ?_
  refine hz_goto (pc := 165) C (tgt := 143) dX2_init_165 rfl ?_
  refine hz_iload_n (pc := 143) C dX2_init_143 rfl ?_
  refine hz_bipush (pc := 144) C (v := nI 8) dX2_init_144 (by decide +kernel) ?_
  refine hz_ic_ge (pc := 146) C (tgt := 168) dX2_init_146 rfl (fun _ => ?_) (fun cq => absurd (nI_le (by decide) (by decide)) cq)
  refine hz_aload_n (pc := 168) C dX2_init_168 rfl ?_
  refine hz_callVv (pc := 169) C (as := []) (st := []) (ev_rsG112 (show PQ 141 112 1 = 113 by decide +kernel) (show PQ 141 112 7 = 119 by decide +kernel)) (hz_new0 _ _) fyX2_reset fvX2_63 rfl dX2_init_169 hT112 rfl rfl (by decide) rfl rfl (Nat.le_of_ble_eq_true rfl) (by decide) (hz_capZ Z (by decide) (by decide)) ?_
  exact hz_vret C Z rfl dX2_init_172 rfl

/-- a moment's cell -/
def MP (q : Nat → Nat → Nat) (m : Nat) : Prop := TT m = (3, 5) ∧ (m ≠ 0 ∧ m ≤ NN) ∧ TT (m + 1) = (13, 6) ∧ (m + 1 ≠ 0 ∧ m + 1 ≤ NN) ∧ PP q m 0 = m + 1
theorem pp_q (q : Nat → Nat → Nat) {a : Nat} (h : a = 21 ∨ a = 54 ∨ a = 88 ∨ a = 121) (k : Nat) : PP q a k = q a k := by unfold PP; rw [if_pos h]
theorem pp_t (q : Nat → Nat → Nat) {a : Nat} (h : ¬ (a = 21 ∨ a = 54 ∨ a = 88 ∨ a = 121)) (k : Nat) : PP q a k = (PPt.getD a []).getD k 0 := by unfold PP; rw [if_neg h]
theorem mp_12 (q : Nat → Nat → Nat) {j : Nat} (hj : j < 8) : MP q (12 + 17 + 2 * j) := by
  have h : ∀ j, j < 8 → TT (12 + 17 + 2 * j) = (3, 5) ∧ TT (12 + 17 + 2 * j + 1) = (13, 6) ∧ (PPt.getD (12 + 17 + 2 * j) []).getD 0 0 = 12 + 17 + 2 * j + 1 := by decide +kernel
  obtain ⟨h1, h2, h3⟩ := h j hj
  have hn : NN = 157 := rfl
  exact ⟨h1, ⟨by omega, by omega⟩, h2, ⟨by omega, by omega⟩, by rw [pp_t q (by omega)]; exact h3⟩
theorem mn_12 (q : Nat → Nat → Nat) : MP q 19 := ⟨hT19, hA19, hT20, hA20, hP19_0 q⟩
theorem mq_12 {q : Nat → Nat → Nat} (H : HP 12 q) {i : Nat} (hi : i < 8) : MP q (q 21 i) ∧ 29 ≤ q 21 i ∧ q 21 i ≤ 43 := by
  obtain ⟨j, hj, e⟩ := H.1 i hi
  have e2 : q 21 i = 12 + 17 + 2 * j := e
  rw [e2]
  exact ⟨mp_12 q hj, by omega, by omega⟩
theorem mp_45 (q : Nat → Nat → Nat) {j : Nat} (hj : j < 8) : MP q (45 + 17 + 2 * j) := by
  have h : ∀ j, j < 8 → TT (45 + 17 + 2 * j) = (3, 5) ∧ TT (45 + 17 + 2 * j + 1) = (13, 6) ∧ (PPt.getD (45 + 17 + 2 * j) []).getD 0 0 = 45 + 17 + 2 * j + 1 := by decide +kernel
  obtain ⟨h1, h2, h3⟩ := h j hj
  have hn : NN = 157 := rfl
  exact ⟨h1, ⟨by omega, by omega⟩, h2, ⟨by omega, by omega⟩, by rw [pp_t q (by omega)]; exact h3⟩
theorem mn_45 (q : Nat → Nat → Nat) : MP q 52 := ⟨hT52, hA52, hT53, hA53, hP52_0 q⟩
theorem mq_45 {q : Nat → Nat → Nat} (H : HP 45 q) {i : Nat} (hi : i < 8) : MP q (q 54 i) ∧ 62 ≤ q 54 i ∧ q 54 i ≤ 76 := by
  obtain ⟨j, hj, e⟩ := H.1 i hi
  have e2 : q 54 i = 45 + 17 + 2 * j := e
  rw [e2]
  exact ⟨mp_45 q hj, by omega, by omega⟩
theorem mp_79 (q : Nat → Nat → Nat) {j : Nat} (hj : j < 8) : MP q (79 + 17 + 2 * j) := by
  have h : ∀ j, j < 8 → TT (79 + 17 + 2 * j) = (3, 5) ∧ TT (79 + 17 + 2 * j + 1) = (13, 6) ∧ (PPt.getD (79 + 17 + 2 * j) []).getD 0 0 = 79 + 17 + 2 * j + 1 := by decide +kernel
  obtain ⟨h1, h2, h3⟩ := h j hj
  have hn : NN = 157 := rfl
  exact ⟨h1, ⟨by omega, by omega⟩, h2, ⟨by omega, by omega⟩, by rw [pp_t q (by omega)]; exact h3⟩
theorem mn_79 (q : Nat → Nat → Nat) : MP q 86 := ⟨hT86, hA86, hT87, hA87, hP86_0 q⟩
theorem mq_79 {q : Nat → Nat → Nat} (H : HP 79 q) {i : Nat} (hi : i < 8) : MP q (q 88 i) ∧ 96 ≤ q 88 i ∧ q 88 i ≤ 110 := by
  obtain ⟨j, hj, e⟩ := H.1 i hi
  have e2 : q 88 i = 79 + 17 + 2 * j := e
  rw [e2]
  exact ⟨mp_79 q hj, by omega, by omega⟩
theorem mp_112 (q : Nat → Nat → Nat) {j : Nat} (hj : j < 8) : MP q (112 + 17 + 2 * j) := by
  have h : ∀ j, j < 8 → TT (112 + 17 + 2 * j) = (3, 5) ∧ TT (112 + 17 + 2 * j + 1) = (13, 6) ∧ (PPt.getD (112 + 17 + 2 * j) []).getD 0 0 = 112 + 17 + 2 * j + 1 := by decide +kernel
  obtain ⟨h1, h2, h3⟩ := h j hj
  have hn : NN = 157 := rfl
  exact ⟨h1, ⟨by omega, by omega⟩, h2, ⟨by omega, by omega⟩, by rw [pp_t q (by omega)]; exact h3⟩
theorem mn_112 (q : Nat → Nat → Nat) : MP q 119 := ⟨hT119, hA119, hT120, hA120, hP119_0 q⟩
theorem mq_112 {q : Nat → Nat → Nat} (H : HP 112 q) {i : Nat} (hi : i < 8) : MP q (q 121 i) ∧ 129 ≤ q 121 i ∧ q 121 i ≤ 143 := by
  obtain ⟨j, hj, e⟩ := H.1 i hi
  have e2 : q 121 i = 112 + 17 + 2 * j := e
  rw [e2]
  exact ⟨mp_112 q hj, by omega, by omega⟩
def mcp (I : Nat → Nat → Int32) (m o : Nat) : Nat → Nat → Int32 := hz_up (hz_up (hz_up (hz_up (cpy I (o + 1) (m + 1) 6) m 1 (cpy I (o + 1) (m + 1) 6 o 1)) m 2 (cpy I (o + 1) (m + 1) 6 o 2)) m 3 (cpy I (o + 1) (m + 1) 6 o 3)) m 4 (cpy I (o + 1) (m + 1) 6 o 4)
theorem ev_mcp {m o : Nat} {I : Nat → Nat → Int32} {L : Nat → Nat → Int64} {q : Nat → Nat → Nat} (hmo : ¬ o = m) (hm : MP q m) (ho : MP q o) : hz_Ev mX3_copyFrom TT NN (I, L, PP q) [.ref m, .ref o] 0 0 none TT NN (mcp I m o, L, PP q) := ev_momCopy hmo hm.1 hm.2.1 hm.2.2.1 hm.2.2.2.1 hm.2.2.2.2 ho.1 ho.2.1 ho.2.2.1 ho.2.2.2.1 ho.2.2.2.2
set_option maxHeartbeats 4000000 in
set_option maxRecDepth 100000 in
theorem ev_goBack {I : Nat → Nat → Int32} {L : Nat → Nat → Int64} {q : Nat → Nat → Nat} {n : Nat} (H : HP 12 q) (hn : I 12 12 = nI (n + 1)) (hn8 : n < 8) : hz_Ev mX2_goBack TT NN (I, L, PP q) [.ref 12] 0 0 none TT NN (mcp (hz_up I 12 12 ((nI (n + 1)) - (nI 1))) 19 (q 21 n), L, PP q) := by
  have hq := mq_12 H hn8
  obtain ⟨-, hq1, hq2⟩ := hq
  refine hz_Ev.intro (ls := [some (.ref 12)]) (by decide +kernel) rfl (Nat.le_of_ble_eq_true rfl) (fun X C Z _ => ?_)
  refine hz_aload_n (pc := 0) C dX2_goBack_0 rfl ?_
  refine hz_dup (pc := 1) C dX2_goBack_1 rfl ?_
  refine hz_getI (pc := 2) C (v := nI (n + 1)) ffX2_77 dX2_goBack_2 hT12 hA12 rfl hn ?_
  refine hz_iconst (pc := 5) C (v := nI 1) dX2_goBack_5 (by decide +kernel) ?_
  refine hz_isub (pc := 6) C dX2_goBack_6 rfl ?_
  refine hz_putI (pc := 7) C (M' := (hz_up I 12 12 ((nI (n + 1)) - (nI 1)), L, PP q)) ffX2_77 dX2_goBack_7 hT12 hA12 rfl rfl ⟨rfl, rfl⟩ rfl ?_
  refine hz_aload_n (pc := 10) C dX2_goBack_10 rfl ?_
  refine hz_getP (pc := 11) C (v := 19) ffX2_33 dX2_goBack_11 hT12 hA12 rfl (hP12_7 q) (by decide) ?_
  refine hz_aload_n (pc := 14) C dX2_goBack_14 rfl ?_
  refine hz_getP (pc := 15) C (v := 21) ffX2_37 dX2_goBack_15 hT12 hA12 rfl (hP12_8 q) (by decide) ?_
  refine hz_aload_n (pc := 18) C dX2_goBack_18 rfl ?_
  refine hz_getI (pc := 19) C (v := (nI (n + 1)) - (nI 1)) ffX2_77 dX2_goBack_19 hT12 hA12 rfl rfl ?_
  refine hz_aald (pc := 22) C (v := q 21 n) (j := n) dX2_goBack_22 hT21 (Or.inr (Or.inl rfl)) hA21 (pk_sub (by omega)) (by omega) (by decide) (pp_q q (Or.inl rfl) n) (by omega) ?_
  refine hz_callVv (pc := 23) C (as := [.ref (q 21 n)]) (st := []) (ev_mcp (by omega) (mn_12 q) (mq_12 H hn8).1) (hz_new0 _ _) fyX3_copyFrom fvX2_98 rfl dX2_goBack_23 hT19 rfl rfl hA19 rfl rfl (Nat.le_of_ble_eq_true rfl) (by decide) (hz_cap0 _) ?_
  exact hz_vret C Z rfl dX2_goBack_26 rfl

theorem fnL_7 : hz_FN RL 7 10 (RX10, TX10, 11) := ⟨rfl, hz_mp 75 (by decide +kernel), hz_mp 76 (by decide +kernel), hz_mp 56 (by decide +kernel), hz_mws [300, 302, 304, 306, 308, 310, 312, 314, 316, 318, 320] (by decide +kernel), by decide +kernel, by decide +kernel, by decide, rfl⟩
theorem fnL_10 : hz_FN RL 10 11 (RX11, TX11, 21) := ⟨rfl, hz_mp 885 (by decide +kernel), hz_mp 886 (by decide +kernel), hz_mp 67 (by decide +kernel), hz_mws [915, 917, 919, 921, 923, 925, 927, 929, 931, 933, 935, 937, 939, 941, 943, 945, 947, 949, 951, 953, 955] (by decide +kernel), by decide +kernel, by decide +kernel, by decide, rfl⟩
/-! the start -/
theorem hp0 {h : Nat} (e : ∀ i, i < 8 → q0 (h + 9) i = h + 17 + 2 * i) : HP h q0 := ⟨fun i hi => ⟨i, hi, e i hi⟩, fun i j hi hj hij => by rw [e i hi, e j hj] at hij; omega⟩
theorem good0 : GOOD (hz_sa zI112 147 (bg (zI112 147)), hz_up (hz_up (hz_up zL 1 6 0) 1 7 1) 146 6 1, PP q0) := by
  have e12 : ∀ a, 12 ≤ a → a ≤ 44 → (hz_sa zI112 147 (bg (zI112 147))) a = rsI 12 zI a := fun a h1 h2 => by
    rw [sa_ne _ _ _ (by omega)]
    unfold zI112 zI79 zI45 zI12
    rw [rsI_o _ (by omega) (by omega) (by omega), rsI_o _ (by omega) (by omega) (by omega), rsI_o _ (by omega) (by omega) (by omega)]
  refine ⟨q0, _, _, u0, ⟨(hv_rst (I := zI) (hp0 (by decide +kernel))).cong wu_0 (fun a h1 h2 => e12 a h1 (by omega)) (fun _ => rfl), wu_0, mv_0 zI112, ?_⟩, Or.inl rfl⟩
  exact ⟨hp0 (by decide +kernel), ⟨hp0 (by decide +kernel), Or.inl (by decide +kernel), by decide +kernel, Or.inl (by decide +kernel)⟩, ⟨hp0 (by decide +kernel), Or.inl (by decide +kernel), by decide +kernel, Or.inl (by decide +kernel)⟩, ⟨0, by omega, by decide +kernel, by decide +kernel, fun j hj => absurd hj (by omega)⟩, ⟨by decide +kernel, by decide +kernel, by decide +kernel⟩, ⟨by decide +kernel, by decide +kernel⟩, by decide +kernel⟩
theorem st_kn {s : State} {args : Array Value} (hts : ∀ w ∈ hz_tbl, w.before args s = true) {own : String} {ix c : Nat} {rr : vw_C} (F : hz_FN own ix c rr) : ∃ p : ClassId × (Nat → Nat), ∀ q : vw_C, vwCl[c]? = some q → u_Kn s q.1 q.2.1 q.2.2 p.1 p.2 := by
  obtain ⟨f1, f2, f3, f4, f5, f6, f7, f8, f9⟩ := F
  obtain ⟨cC, iS, h⟩ := u_known (C := rr.1) (T := rr.2.1) (N := rr.2.2) (n := rr.2.2) hts f5 (hts _ f3)
  exact ⟨(cC, iS), fun q hq => by rw [f1] at hq; cases hq; exact h⟩
theorem st_prim {s : State} {args : Array Value} {ty : FieldType} (h : (Cond.arrayClass ty).before args s = true) : ∃ cA : ClassId, ArrOfT s cA ty ∧ s.vm.findClass ("[" ++ ty.toString) = some cA := by
  obtain ⟨c, k, comp, h1, h2, h3⟩ := Cond.arrayClass_spec h
  exact ⟨c, fun n z => ⟨fun k h => (by cases h), k, h2, comp, h3⟩, h1⟩
theorem st_over {s : State} {args : Array Value} {E : String} (h : (Cond.arrayOver (.object E)).before args s = true) : ∃ cA : ClassId, ArrOfT s cA (.object E) ∧ va_RA s cA (.object E) := by
  obtain ⟨comp, c, k, h1, h2, h3, h4, h5⟩ := Cond.arrayOver_spec h
  exact ⟨c, fun n z => ⟨fun k h => (by cases h), k, h3, comp, h4⟩, k, comp, h3, h4, h1, h5⟩
theorem st_K {s : State} {args : Array Value} (hts : ∀ w ∈ lw_tbl, w.before args s = true) : ∃ (g : va_G) (ar : Nat → ClassId), ∀ (ad : Nat → Nat) (b : Nat), hz_K (g, ar, ad, b) s := by
  have ht : ∀ w ∈ hz_tbl, w.before args s = true := fun w hw => hts w (List.mem_filter.mp hw).1
  have h0 : ∀ c : Nat, ∃ p : ClassId × (Nat → Nat), ∀ q : vw_C, vwCl[c]? = some q → u_Kn s q.1 q.2.1 q.2.2 p.1 p.2 := by
    intro c
    match c with
    | 0 => exact st_kn ht fnX2_50
    | 1 => exact st_kn ht fnX2_56
    | 2 => exact st_kn ht fnX10_23
    | 3 => exact st_kn ht fnX2_30
    | 4 => exact st_kn ht fnX2_44
    | 5 => exact st_kn ht fnX2_53
    | 6 => exact st_kn ht fnX2_41
    | 7 => exact st_kn ht fnX10_16
    | 8 => exact st_kn ht fnX10_7
    | 9 => exact st_kn ht fnX2_47
    | 10 => exact st_kn ht fnL_7
    | 11 => exact st_kn ht fnL_10
    | c + 12 => exact ⟨(0, fun _ => 0), fun q hq => by simp at hq⟩
  obtain ⟨g, hg⟩ := Classical.axiomOfChoice h0
  obtain ⟨c12, a12, r12⟩ := st_prim (hts _ (List.mem_of_getElem? (i := 109) (by decide +kernel)) : (Cond.arrayClass .char).before args s = true)
  obtain ⟨c13, a13, r13⟩ := st_prim (hts _ (List.mem_of_getElem? (i := 144) (by decide +kernel)) : (Cond.arrayClass .int).before args s = true)
  obtain ⟨c14, a14, r14⟩ := st_prim (hts _ (List.mem_of_getElem? (i := 323) (by decide +kernel)) : (Cond.arrayClass .boolean).before args s = true)
  obtain ⟨c15, a15, r15⟩ := st_over (hts _ (List.mem_of_getElem? (i := 288) (by decide +kernel)) : (Cond.arrayOver (.object RX2)).before args s = true)
  obtain ⟨c16, a16, r16⟩ := st_over (hts _ (List.mem_of_getElem? (i := 188) (by decide +kernel)) : (Cond.arrayOver (.object RX3)).before args s = true)
  obtain ⟨c17, a17, r17⟩ := st_over (hts _ (List.mem_of_getElem? (i := 190) (by decide +kernel)) : (Cond.arrayOver (.object RX6)).before args s = true)
  refine ⟨(fun c => (g c).1, fun c => (g c).2), fun k => if k = 12 then c12 else if k = 13 then c13 else if k = 14 then c14 else if k = 15 then c15 else if k = 16 then c16 else c17, fun ad b => ⟨⟨fun c q hq => hg c q hq, fun k q hq => ?_⟩, fun w hw => ?_⟩⟩
  · match k, hq with
    | 0, hq => cases hq; exact ⟨a12, r12⟩
    | 1, hq => cases hq; exact ⟨a13, r13⟩
    | 2, hq => cases hq; exact ⟨a14, r14⟩
    | 3, hq => cases hq; exact ⟨a15, r15⟩
    | 4, hq => cases hq; exact ⟨a16, r16⟩
    | 5, hq => cases hq; exact ⟨a17, r17⟩
    | k + 6, hq => simp [hz_tys] at hq
  · have h1 := hts w (List.mem_filter.mp hw).1
    have h2 := (List.mem_filter.mp hw).2
    unfold hz_isN at h2
    split at h2
    · exact va_Nw.of rfl h1
    · exact va_Nw.of rfl h1
    · exact va_Nw.of rfl h1
    · exact va_AO.of h1
    · cases h2
theorem st_Scong {N : Nat} {len : List Nat} {byt : List (List Int32)} {k1 v1 k2 v2 : Nat → Nat} {A : Nat → Prop} {U : State} {H : Heap} (h : vk_S N len byt k1 v1 A U H) (e1 : ∀ i, i < N → k2 i = k1 i) (e2 : ∀ i, i < N → v2 i = v1 i) : vk_S N len byt k2 v2 A U H :=
  ⟨fun i hi => by rw [e1 i hi, e2 i hi]; exact h.1 i hi, fun i j hi hj e => h.2 i j hi hj (by rw [← e1 i hi, ← e1 j hj]; exact e)⟩
def st_ix : List Nat := [35, 45, 50, 60]
def st_tm (i : Nat) : Term := .string RX8 (st_ix.getD i 0)
def st_fl : List Cond := flatC (Jvm.Cond.and given_1 narrow_1)
def st_tl : Term := .static RX10 "TELLING_SECONDS" "[I"
theorem st_f1 : ∀ i, i < 4 → Cond.exactly (st_tm i) "java/lang/String" ∈ st_fl := by decide +kernel
theorem st_f2 : ∀ i, i < 4 → Cond.eq (.field (st_tm i) "java/lang/String" "coder" "B") (.int 0) ∈ st_fl := by decide +kernel
theorem st_f3 : ∀ i, i < 4 → Cond.arrayOf (.field (st_tm i) "java/lang/String" "value" "[B") .byte ∈ st_fl := by decide +kernel
theorem st_f4 : ∀ i, i < 4 → Cond.eq (.length (.field (st_tm i) "java/lang/String" "value" "[B")) (.int (Int32.ofNat (hz_wl.getD i 0))) ∈ st_fl := by decide +kernel
theorem st_f5 : ∀ i, i < 4 → ∀ j, j < hz_wl.getD i 0 → Cond.eq (.elem (.field (st_tm i) "java/lang/String" "value" "[B") (.int (Int32.ofNat j))) (.int ((hz_wb.getD i []).getD j 0)) ∈ st_fl := by decide +kernel
theorem st_f6 : ∀ i, i < 4 → ∀ j, j < 4 → i ≠ j → (Cond.not (Cond.eq (st_tm i) (st_tm j)) ∈ st_fl ∨ Cond.not (Cond.eq (st_tm j) (st_tm i)) ∈ st_fl) := by decide +kernel
theorem st_f7 : ∀ j, j < 3 → Cond.eq (.elem st_tl (.int (Int32.ofNat j))) (.int (if j = 0 then 0 else if j = 1 then 7 else 20)) ∈ st_fl := by decide +kernel
theorem st_f8 : ∀ i, i < 4 → hz_wl.getD i 0 < 2 ^ 31 := by decide +kernel
/-- where the cells lie -/
def st_ad (h tl fm b : Nat) (kk vv : Nat → Nat) : Nat → Nat := fun a => if a < 1000 then h + a - 1 else if a = 1000 then tl else if a < 1005 then kk (a - 1001) else if a < 1009 then vv (a - 1005) else if a = 1009 then fm else b
set_option maxHeartbeats 4000000 in
set_option maxRecDepth 100000 in
theorem st_D {s : State} {b : Nat} (hts : ∀ w ∈ lw_tbl, w.before #[Value.ref b] s = true) (hgv : (Jvm.Cond.and given_1 narrow_1).before #[Value.ref b] s = true) : ∃ D : hz_D, D.2.2.2 = s.heap.size ∧ D.2.2.1 2000 = b ∧ hz_K D s ∧ hz_ext D s s.heap ∧ ∀ a, 0 < a → a ≤ 157 → D.2.2.1 a + 1 = D.2.2.2 + a := by
  have hs : ∀ c ∈ st_fl, c.before #[Value.ref b] s = true := flat_of_before _ hgv
  have hA : ∀ a : Nat, a < s.heap.size → ¬ (fun q : Nat => s.heap.size ≤ q) a := fun a h z => absurd h (Nat.not_lt.mpr z)
  obtain ⟨g, ar, hK⟩ := st_K hts
  obtain ⟨tl, ht1, ht2⟩ := va_Tof (tm := st_tl) (ty := .int) (N := 3) (f := hz_tell) (A := fun q : Nat => s.heap.size ≤ q) (args := #[Value.ref b]) (s := s) (by decide) (hs _ (by decide +kernel)) (va_eqt (hs (Cond.eq (.length st_tl) (.int 3)) (by decide +kernel))) (fun j hj => by
    rw [va_eqt (hs _ (st_f7 j hj))]
    unfold hz_tell
    by_cases e0 : j = 0
    · rw [if_pos e0, if_pos e0]
    · rw [if_neg e0, if_neg e0]
      by_cases e1 : j = 1
      · rw [if_pos e1, if_pos e1]
      · rw [if_neg e1, if_neg e1]) hA
  obtain ⟨kk, vv, hS, hE⟩ := vk_Sof (args := #[Value.ref b]) (s := s) (N := 4) (tm := st_tm) (len := hz_wl) (byt := hz_wb) (A := fun q : Nat => s.heap.size ≤ q) st_f8 (fun i hi => hs _ (st_f1 i hi)) (fun i hi => hs _ (st_f2 i hi)) (fun i hi => hs _ (st_f3 i hi)) (fun i hi => hs _ (st_f4 i hi)) (fun i hi j hj => hs _ (st_f5 i hi j hj)) (fun i j hi hj hij => (st_f6 i hi j hj hij).imp (hs _) (hs _)) hA
  have hC := va_Zof (C := "java/lang/String") (n := "COMPACT_STRINGS") (d := "Z") (A := fun q : Nat => s.heap.size ≤ q) (hts _ (List.mem_of_getElem? (i := 414) (by decide +kernel))) (hts _ (List.mem_of_getElem? (i := 68) (by decide +kernel))) (va_eqt (z := 1) (hs _ (by decide +kernel))) hA
  have hT := va_Zof (C := RX10) (n := "TELLING_SECONDS") (d := "[I") (A := fun q : Nat => s.heap.size ≤ q) (hts _ (List.mem_of_getElem? (i := 676) (by decide +kernel))) (hts _ (List.mem_of_getElem? (i := 56) (by decide +kernel))) ht1 hA
  have hF := va_Zqof (C := "jdk/internal/util/Preconditions") (n := "SIOOBE_FORMATTER") (d := "Ljava/util/function/BiFunction;") (A := fun q : Nat => s.heap.size ≤ q) (hts _ (List.mem_of_getElem? (i := 430) (by decide +kernel))) (hts _ (List.mem_of_getElem? (i := 70) (by decide +kernel))) (hs _ (by decide +kernel)) hA
  obtain ⟨fm, hF⟩ : ∃ fm : Nat, va_Z "jdk/internal/util/Preconditions" "SIOOBE_FORMATTER" "Ljava/util/function/BiFunction;" .null (fun q : Nat => s.heap.size ≤ q) s s.heap ∨ va_Z "jdk/internal/util/Preconditions" "SIOOBE_FORMATTER" "Ljava/util/function/BiFunction;" (.ref fm) (fun q : Nat => s.heap.size ≤ q) s s.heap := by
    rcases hF with hF | ⟨fm, hF⟩
    · exact ⟨0, Or.inl hF⟩
    · exact ⟨fm, Or.inr hF⟩
  refine ⟨(g, ar, st_ad s.heap.size tl fm b kk vv, s.heap.size), rfl, rfl, hK _ _, ⟨hT, ht2, st_Scong hS ?_ ?_, hC, hF, ?_, ?_, ?_, ?_⟩, fun a h1 h2 => ?_⟩
  · intro i hi
    show st_ad s.heap.size tl fm b kk vv (1001 + i) = kk i
    unfold st_ad
    rw [if_neg (by omega), if_neg (by omega), if_pos (by omega), show 1001 + i - 1001 = i by omega]
  · intro i hi
    show st_ad s.heap.size tl fm b kk vv (1005 + i) = vv i
    unfold st_ad
    rw [if_neg (by omega), if_neg (by omega), if_neg (by omega), if_pos (by omega), show 1005 + i - 1005 = i by omega]
  · exact vk_R.of (A := #[Value.ref b]) (hts _ (List.mem_of_getElem? (i := 400) (by decide +kernel))) (hE 0 (by decide))
  · exact vk_R.of (A := #[Value.ref b]) (hts _ (List.mem_of_getElem? (i := 465) (by decide +kernel))) (hE 1 (by decide))
  · exact vk_R.of (A := #[Value.ref b]) (hts _ (List.mem_of_getElem? (i := 471) (by decide +kernel))) (hE 2 (by decide))
  · exact vk_R.of (A := #[Value.ref b]) (hts _ (List.mem_of_getElem? (i := 477) (by decide +kernel))) (hE 3 (by decide))
  · show st_ad s.heap.size tl fm b kk vv a + 1 = s.heap.size + a
    unfold st_ad
    rw [if_pos (by omega)]
    omega
theorem hz_cap.mono {X : hz_X} {a b a' b' : Nat} (h : hz_cap X a b) (h1 : a' ≤ a) (h2 : b' ≤ b) : hz_cap X a' b' := by
  obtain ⟨p, l, e, R, s, m, args, below, meth, cd, D, Q⟩ := X
  exact ⟨Nat.le_trans h1 h.1, Nat.le_trans h2 h.2⟩
set_option maxHeartbeats 4000000 in
set_option maxRecDepth 100000 in
theorem law_start {X : hz_X} (C : hz_C X mL_law) {Ln : Nat} {xs : Nat → Int32} (hs : hz_scr X Ln xs) (hL : Ln ≤ 256) (hN : hz_new X 0 157) (hcap : hz_cap X 157 3009) (kk : ∀ (M : hz_M) (ls : List (Option Value)), GOOD M → hz_G X TT NN M 157 3009 1138 ls []) : hz_G X TT 0 (zI, zL, PQ 0) 0 0 0 [some (.ref 2000), none, none, none] [] := by
  refine hz_newO (pc := 0) C (n1 := 1) (kc' := 1) (ks' := 11) rfl fnL_7 dL_law_0 hT1 ⟨fun _ => rfl, fun _ => rfl, PQ_bl 0 1 (by decide +kernel)⟩ (hN.sub (by decide) (by decide)) rfl rfl (hcap.mono (by decide) (by decide)) ?_
  refine hz_dup (pc := 3) C dL_law_3 rfl ?_
  refine hz_callIm (pc := 4) C (as := []) (st := [.ref 1]) (kc' := 145) (ks' := 1905) ev_iX10 (hN.sub (by decide) (by decide)) fyX10_init fiL_9 rfl dL_law_4 rfl rfl (Nat.le_of_ble_eq_true rfl) (by decide) rfl rfl (hcap.mono (by decide) (by decide)) ?_
  refine hz_astore_n (pc := 7) C (ls' := [some (.ref 2000), some (.ref 1), none, none]) dL_law_7 (Nat.le_of_ble_eq_true rfl) rfl ?_
  refine hz_newO (pc := 8) C (n1 := 146) (kc' := 146) (ks' := 1926) rfl fnL_10 dL_law_8 hT146 ⟨zI112_o 146 (by decide), (fun k => by show hz_up (hz_up zL 1 6 0) 1 7 1 146 k = 0; rw [hz_up_ne _ _ _ _ (by decide), hz_up_ne _ _ _ _ (by decide)]; rfl), PQ_bl 144 146 (by decide +kernel)⟩ (hN.sub (by decide) (by decide)) rfl rfl (hcap.mono (by decide) (by decide)) ?_
  refine hz_dup (pc := 11) C dL_law_11 rfl ?_
  refine hz_callIm (pc := 12) C (as := []) (st := [.ref 146]) (kc' := 157) (ks' := 3009) (ev_iX11 (fun a h k => zI112_o a (by omega) k) (fun a h k => by rw [hz_up_ne _ _ _ _ (by omega), hz_up_ne _ _ _ _ (by omega)]; rfl)) (hN.sub (by decide) (by decide)) fyX11_init fiL_12 rfl dL_law_12 rfl rfl (Nat.le_of_ble_eq_true rfl) (by decide) rfl rfl hcap ?_
  refine hz_astore_n (pc := 15) C (ls' := [some (.ref 2000), some (.ref 1), some (.ref 146), none]) dL_law_15 (Nat.le_of_ble_eq_true rfl) rfl ?_
  refine hz_iconst (pc := 16) C (v := nI 0) dL_law_16 (by decide +kernel) ?_
  refine hz_istore_n (pc := 17) C (ls' := [some (.ref 2000), some (.ref 1), some (.ref 146), some (.int (nI 0))]) dL_law_17 (Nat.le_of_ble_eq_true rfl) rfl ?_
  exact law_loop C hs hL hcap kk (Ln + 1) 0 _ (by omega) (by omega) good0

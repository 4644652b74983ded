/-! the two homes change places: a contract holds over the renamed memory too -/
def hz_rn (M : hz_M) : hz_M := ((fun a => M.1 (rho a)), (fun a => M.2.1 (rho a)), fun a k => rho (M.2.2 (rho a) k))
def hz_rD (D : hz_D) : hz_D := (D.1, D.2.1, (fun a => D.2.2.1 (rho a)), D.2.2.2)
theorem rho_z (p : Nat) : rho p = 0 ↔ p = 0 := by
  unfold rho
  split
  · omega
  · split <;> omega
theorem rho_N {a : Nat} (h0 : a ≠ 0) (h : a ≤ NN) : rho a ≠ 0 ∧ rho a ≤ NN := by
  refine ⟨fun z => h0 ((rho_z a).mp z), ?_⟩
  have h' : a ≤ 157 := h
  show rho a ≤ 157
  unfold rho
  split
  · omega
  · split <;> omega
theorem TT_rho (a : Nat) : TT (rho a) = TT a := by
  by_cases h : a < 78
  · exact (by decide +kernel : ∀ a, a < 78 → TT (rho a) = TT a) a h
  · rw [rho_o (by omega)]
theorem hz_op_rho (ad : Nat → Nat) (p : Nat) : hz_op ad (rho p) = hz_op (fun a => ad (rho a)) p := by
  unfold hz_op
  by_cases h : p = 0
  · rw [if_pos h, if_pos ((rho_z p).mpr h)]
  · rw [if_neg h, if_neg (fun z => h ((rho_z p).mp z))]
theorem hz_fv_rn (ad : Nat → Nat) (M : hz_M) (ty : FieldType) (a k : Nat) : hz_fv ad (hz_rn M) ty a k = hz_fv (fun a => ad (rho a)) M ty (rho a) k := by
  cases ty <;> first | rfl | exact congrArg va_rf (hz_op_rho ad _)
theorem hz_E_rn (D : hz_D) (M : hz_M) (a : Nat) : hz_E D TT (hz_rn M) a = hz_E (hz_rD D) TT M (rho a) := by
  unfold hz_E
  rw [TT_rho a]
  by_cases h1 : (TT a).1 < 12
  · rw [if_pos h1, if_pos h1]
    refine congrArg (fun z => Sum.inr ((TT a).1, z)) ?_
    unfold hz_fs
    exact List.map_congr_left (fun k _ => hz_fv_rn _ _ _ _ _)
  · rw [if_neg h1, if_neg h1]
    by_cases h2 : (TT a).1 < 15
    · rw [if_pos h2, if_pos h2]; rfl
    · rw [if_neg h2, if_neg h2]
      refine congrArg (fun z => Sum.inl (D.2.1 (TT a).1, (TT a).2, Sum.inr (Sum.inr (Sum.inr (Sum.inr z))))) ?_
      funext j
      exact hz_op_rho _ _
theorem hz_W_some {D : hz_D} {T : hz_T} {n k : Nat} {M : hz_M} {z : Nat × va_E} (h : (hz_W D T n M)[k]? = some z) : k < n ∧ z = (D.2.2.1 (k + 1), hz_E D T M (k + 1)) := by
  have hk : k < n := by
    have h1 := (List.getElem?_eq_some_iff.mp h).1
    unfold hz_W at h1
    simpa using h1
  have h2 := hz_W_get D T M (n := n) (a := k + 1) (by omega) (by omega)
  rw [show k + 1 - 1 = k by omega, h] at h2
  exact ⟨hk, Option.some.inj h2⟩
theorem hz_rn_rn (M : hz_M) : hz_rn (hz_rn M) = M := by
  obtain ⟨I, L, P⟩ := M
  unfold hz_rn
  simp only [rho_rho]
theorem hz_rD_rD (D : hz_D) : hz_rD (hz_rD D) = D := by
  obtain ⟨a, b, c, d⟩ := D
  unfold hz_rD
  simp only [rho_rho]
theorem hz_W_rn {D : hz_D} {M : hz_M} {k : Nat} {z : Nat × va_E} (h : (hz_W (hz_rD D) TT NN M)[k]? = some z) : (hz_W D TT NN (hz_rn M))[rho (k + 1) - 1]? = some z := by
  obtain ⟨hk, rfl⟩ := hz_W_some h
  obtain ⟨h0, h1⟩ := rho_N (a := k + 1) (by omega) hk
  rw [hz_W_get D TT (hz_rn M) h0 h1, hz_E_rn, rho_rho]
  rfl
theorem hz_R_rn {D : hz_D} {M : hz_M} {H : Heap} (h : hz_R D TT NN (hz_rn M) H) : hz_R (hz_rD D) TT NN M H := by
  obtain ⟨h1, ⟨h2, h3⟩, h4⟩ := h
  refine ⟨fun k z hz => h1 _ z (hz_W_rn hz), ⟨fun i j p z hp hz e => ?_, fun k z hz => h3 _ z (hz_W_rn hz)⟩, h4⟩
  have h5 := h2 _ _ p z (hz_W_rn hp) (hz_W_rn hz) e
  have hi := (hz_W_some hp).1
  have hj := (hz_W_some hz).1
  have hi' := (rho_N (a := i + 1) (by omega) hi).1
  have hj' := (rho_N (a := j + 1) (by omega) hj).1
  have h6 : rho (i + 1) = rho (j + 1) := by omega
  have h7 := congrArg rho h6
  rw [rho_rho, rho_rho] at h7
  omega
theorem hz_R_nr {D : hz_D} {M : hz_M} {H : Heap} (h : hz_R (hz_rD D) TT NN M H) : hz_R D TT NN (hz_rn M) H := by
  have h9 := hz_R_rn (D := hz_rD D) (M := hz_rn M) (H := H) (by rw [hz_rn_rn]; exact h)
  rw [hz_rD_rD] at h9
  exact h9
theorem rho_big {a : Nat} : rho (1000 + a) = 1000 + a := rho_o (by omega)
theorem hz_ext_rn {D : hz_D} {U : State} {H : Heap} (h : hz_ext D U H) : hz_ext (hz_rD D) U H := by
  have e0 : rho 1000 = 1000 := rho_o (by omega)
  have e1 : (fun i => (hz_rD D).2.2.1 (1001 + i)) = fun i => D.2.2.1 (1001 + i) := by
    funext i
    show D.2.2.1 (rho (1001 + i)) = _
    rw [rho_o (by omega)]
  have e2 : (fun i => (hz_rD D).2.2.1 (1005 + i)) = fun i => D.2.2.1 (1005 + i) := by
    funext i
    show D.2.2.1 (rho (1005 + i)) = _
    rw [rho_o (by omega)]
  have e3 : ∀ a, 1000 ≤ a → (hz_rD D).2.2.1 a = D.2.2.1 a := fun a ha => by
    show D.2.2.1 (rho a) = _
    rw [rho_o (by omega)]
  unfold hz_ext hz_str
  rw [e1, e2, e3 1000 (by omega), e3 1001 (by omega), e3 1002 (by omega), e3 1003 (by omega), e3 1004 (by omega), e3 1009 (by omega)]
  exact h
/-- a value that names no cell of the two homes -/
def fx (v : Value) : Prop := ∀ p, v = .ref p → rho p = p
theorem fx_int (i : Int32) : fx (.int i) := fun p h => by cases h
theorem fx_long (i : Int64) : fx (.long i) := fun p h => by cases h
theorem fx_ref {p : Nat} (h : p < 12 ∨ 77 < p) : fx (.ref p) := fun r e => by cases e; exact rho_o h
theorem hz_tr_fx (ad : Nat → Nat) {v : Value} (h : fx v) : hz_tr (fun a => ad (rho a)) v = hz_tr ad v := by
  cases v <;> first | rfl | skip
  rename_i p
  show Value.ref (ad (rho p)) = Value.ref (ad p)
  rw [h p rfl]
theorem hz_Ex.rn {y : hz_Y} {M : hz_M} {as : List Value} {Po : Option Value → hz_M → Prop} (E : hz_Ex y TT NN M as Po) (ha : ∀ v ∈ as, fx v) (hp : ∀ r M0, Po r M0 → ∀ v, r = some v → fx v) : hz_Ex y TT NN (hz_rn M) as (fun r M' => ∃ M0, Po r M0 ∧ M' = hz_rn M0) := by
  intro l D p e hha hc hk s m args below hf happ hP hK
  have hP' : hz_Pc (hz_rD D) TT NN M as args s := by
    obtain ⟨rfl, hR, hK1, hX⟩ := hP
    refine ⟨?_, hz_R_rn hR, hK1, hz_ext_rn hX⟩
    refine congrArg List.toArray (List.map_congr_left fun v hv => ?_)
    exact (hz_tr_fx D.2.2.1 (ha v hv)).symm
  obtain ⟨k, o, h1, h2, h3, ⟨r, M', hq, hr, hR, hF⟩, hL⟩ := E l (hz_rD D) p e hha hc hk s m args below hf happ hP' hK
  refine ⟨k, o, h1, h2, h3, ⟨r, hz_rn M', ⟨M', hq, rfl⟩, ?_, hz_R_nr hR, hF⟩, hL⟩
  rw [hr]
  cases r with
  | none => rfl
  | some v => exact congrArg (fun z => Outcome.returned (some z)) (hz_tr_fx D.2.2.1 (hp _ _ hq v rfl))
/-! where the references of the two homes stand, once they have changed places -/
theorem PPt_rho : ∀ a, a < 158 → (PPt.getD (rho a) []).map rho = if a = 1 then [2, 4, 78, 145, 45, 12] else PPt.getD a [] := by decide +kernel
theorem getD_rho (l : List Nat) (k : Nat) : rho (l.getD k 0) = (l.map rho).getD k 0 := by
  rw [List.getD_eq_getElem?_getD, List.getD_eq_getElem?_getD, List.getElem?_map]
  cases l[k]? <;> rfl
theorem gD0 {α : Type} {l : List α} {k : Nat} {z : α} (h : l.length ≤ k) : l.getD k z = z := by
  rw [List.getD_eq_getElem?_getD, List.getElem?_eq_none h]
  rfl
theorem PP_rho (q : Nat → Nat → Nat) : (fun a k => rho (PP (rq q) (rho a) k)) = hz_up (hz_up (PP q) 1 4 45) 1 5 12 := by
  funext a k
  by_cases h1 : a = 1
  · subst h1
    rw [show rho 1 = 1 by decide]
    show rho ((PPt.getD 1 []).getD k 0) = va_up (va_up (fun k => (PPt.getD 1 []).getD k 0) 4 45) 5 12 k
    have e := PPt_rho 1 (by decide)
    rw [show rho 1 = 1 by decide, if_pos rfl] at e
    rw [getD_rho, e]
    by_cases h5 : k = 5
    · subst h5; rfl
    · rw [va_up_ne _ _ h5]
      by_cases h4 : k = 4
      · subst h4; rfl
      · rw [va_up_ne _ _ h4]
        by_cases hk : k < 6
        · rcases (show k = 0 ∨ k = 1 ∨ k = 2 ∨ k = 3 by omega) with rfl | rfl | rfl | rfl <;> rfl
        · rw [gD0 (show 6 ≤ k by omega), gD0 (show 6 ≤ k by omega)]
  · rw [hz_up_ne _ _ _ _ h1, hz_up_ne _ _ _ _ h1]
    by_cases h2 : a = 21 ∨ a = 54 ∨ a = 88 ∨ a = 121
    · have e1 : rho a = 21 ∨ rho a = 54 ∨ rho a = 88 ∨ rho a = 121 := by
        rcases h2 with rfl | rfl | rfl | rfl <;> decide
      unfold PP
      rw [if_pos e1, if_pos h2]
      unfold rq
      rw [rho_rho, rho_rho]
    · have e1 : ¬ (rho a = 21 ∨ rho a = 54 ∨ rho a = 88 ∨ rho a = 121) := by
        intro z
        apply h2
        rw [← rho_rho a]
        rcases z with z | z | z | z <;> rw [z] <;> decide
      unfold PP
      rw [if_neg e1, if_neg h2]
      show rho ((PPt.getD (rho a) []).getD k 0) = (PPt.getD a []).getD k 0
      rw [getD_rho]
      by_cases h3 : a < 158
      · rw [PPt_rho a h3, if_neg h1]
      · rw [rho_o (by omega), gD0 (show PPt.length ≤ a by rw [show PPt.length = 158 by decide +kernel]; omega)]
        rfl
theorem hp_qr {q : Nat → Nat → Nat} (H : HP 12 q) : HP 45 (rq q) := by
  have e : ∀ i, rq q (45 + 9) i = rho (q (12 + 9) i) := fun i => rfl
  refine ⟨fun i hi => ?_, fun i j hi hj hij => ?_⟩
  · obtain ⟨j, hj, ej⟩ := H.1 i hi
    refine ⟨j, hj, ?_⟩
    rw [e i, ej, rho_h (by omega)]; omega
  · rw [e i, e j] at hij
    refine H.2 i j hi hj ?_
    have h9 := congrArg rho hij
    rw [rho_rho, rho_rho] at h9
    exact h9
theorem HV.cong8 {h : Nat} {q q' : Nat → Nat → Nat} {I J : Nat → Nat → Int32} {u : Nat → Nat} (V : HV h q I u) (U : WU u) (e : ∀ a, h ≤ a → a ≤ h + 32 → J a = I a) (eq : ∀ i, i < 8 → q' (h + 9) i = q (h + 9) i) : HV h q' J u := by
  obtain ⟨v1, v2, v3, v4, v5, v6, v7, v8, v9, v10, v11⟩ := V.cong (q' := q) U e (fun _ => rfl)
  refine ⟨v1, v2, v3, v4, v5, v6, v7, v8, fun i hi => ?_, ⟨fun i hi => ?_, fun i j hi hj hij => ?_⟩, v11⟩
  · rw [eq i (Nat.lt_of_lt_of_le hi (wu_un U))]; exact v9 i hi
  · rw [eq i hi]; exact v10.1 i hi
  · rw [eq i hi, eq j hj] at hij; exact v10.2 i j hi hj hij
theorem IM.cong8 {i h : Nat} {q q' : Nat → Nat → Nat} {I J : Nat → Nat → Int32} (V : IM i h q I) (e : ∀ a, h ≤ a → a ≤ h + 32 → J a = I a) (e1 : J 145 = I 145) (e2 : J 150 = I 150) (e3 : J 149 = I 149) (eq : ∀ i, i < 8 → q' (h + 9) i = q (h + 9) i) : IM i h q' J := by
  obtain ⟨v1, v0, v2, v3⟩ := V
  refine ⟨⟨fun i hi => by rw [eq i hi]; exact v1.1 i hi, fun i j hi hj hij => by rw [eq i hi, eq j hj] at hij; exact v1.2 i j hi hj hij⟩, by rw [e h (by omega) (by omega)]; exact v0, by rw [e1, e2]; exact v2, ?_⟩
  rw [e1, e3]
  rcases v3 with v3 | ⟨v3, w, v4, v5, v6⟩
  · exact Or.inl v3
  · exact Or.inr ⟨v3, w, v4.cong8 v5 e eq, v5, v6⟩
theorem rq_im {q : Nat → Nat → Nat} {h : Nat} (hh : 78 ≤ h) (H : HP h q) : ∀ i, i < 8 → rq q (h + 9) i = q (h + 9) i := fun i hi => by
  obtain ⟨j, hj, ej⟩ := H.1 i hi
  show rho (q (rho (h + 9)) i) = _
  rw [rho_o (a := h + 9) (by omega), ej, rho_o (by omega)]
theorem TX.ex {I : Nat → Nat → Int32} {t : Nat} (T : TX I t) : ∃ x : Nat → Nat, ∀ j, j < t → x j < 128 ∧ I 3 j = nI (x j) ∧ I 152 j = nI (x j) := by
  refine ⟨fun j => if h : j < t then Classical.choose (T.2.2.2 j h) else 0, fun j hj => ?_⟩
  show (if h : j < t then Classical.choose (T.2.2.2 j h) else 0) < 128 ∧ I 3 j = nI (if h : j < t then Classical.choose (T.2.2.2 j h) else 0) ∧ I 152 j = nI (if h : j < t then Classical.choose (T.2.2.2 j h) else 0)
  rw [dif_pos hj]
  exact Classical.choose_spec (T.2.2.2 j hj)
theorem sp_read {q : Nat → Nat → Nat} {I : Nat → Nat → Int32} {L : Nat → Nat → Int64} {u : Nat → Nat} (V : INV q I L u) : ST mX10_read mX11_read (I, L, PP q) [] := by
  have hp := V.1.2.2.2.2.2.2.2.2.2.1
  obtain ⟨v1, v2, v3, v4⟩ := V
  obtain ⟨r1, r2, r3, ⟨t, T⟩, r5, r6, r7⟩ := v4
  obtain ⟨x, hx⟩ := T.ex
  have X0 : tx I t x := ⟨T.1, T.2.1, fun j hj => ⟨(hx j hj).1, (hx j hj).2.1⟩⟩
  have X1 : ∀ J : Nat → Nat → Int32, J 146 7 = I 146 7 → J 152 = I 152 → mxt J t x := fun J e1 e2 => ⟨T.1, e1.trans T.2.2.1, fun j hj => ⟨(hx j hj).1, by rw [e2]; exact (hx j hj).2.2⟩⟩
  by_cases hR : (pT t x 150 0 0 u0).1 = true
  · refine st_mk (r := .int (pT t x 150 0 0 u0).2.1) ((ex_readY X0 r1 hR).mono ?_)
    rintro _ _ ⟨K, rfl, rfl, h1, h2, h3⟩
    refine ⟨rfl, ?_⟩
    have hM : (K, L, hz_up (hz_up (PP q) 1 4 45) 1 5 12) = hz_rn (rJ K, rJ L, PP (rq q)) := by
      show _ = (rJ (rJ K), rJ (rJ L), fun a k => rho (PP (rq q) (rho a) k))
      rw [rJ_rJ, rJ_rJ, PP_rho]
    rw [hM]
    have eK : ∀ a, a ≠ 2 → a < 12 ∨ 77 < a → rJ K a = I a := fun a g1 g2 => by
      show K (rho a) = I a
      rw [rho_o g2]
      exact h1.1 a g1 (by omega)
    refine ((ex_readM (L := rJ L) (q := rq q) (X1 (rJ K) (by rw [eK 146 (by omega) (by omega)]) (eK 152 (by omega) (by omega)))).rn ?_ ?_).mono ?_
    · intro v hv
      rw [List.mem_singleton] at hv
      rw [hv]
      exact fx_ref (by omega)
    · rintro _ _ ⟨K', W, rfl, -⟩ v hv
      cases hv
      exact fx_int _
    · rintro _ _ ⟨_, ⟨K', W, rfl, rfl, w1, w2, w3, w4, w5⟩, rfl⟩
      have e : ∀ a, a ≠ 2 → a < 12 ∨ 77 < a → a ≠ 146 → a ≠ 147 → a ≠ 148 → K' a = I a := fun a g1 g2 g3 g4 g5 => (w2 a g3 g4 g5).trans (eK a g1 g2)
      refine ⟨rfl, rq q, K', W, _, ⟨HV.cong h2 h3 (fun a g1 g2 => w2 a (by omega) (by omega) (by omega)) (fun _ => rfl), h3, w4 hR, ?_⟩, Or.inr rfl⟩
      refine ⟨hp_qr hp, r2.cong8 (fun a g1 g2 => e a (by omega) (by omega) (by omega) (by omega) (by omega)) (e _ (by omega) (by omega) (by omega) (by omega) (by omega)) (e _ (by omega) (by omega) (by omega) (by omega) (by omega)) (e _ (by omega) (by omega) (by omega) (by omega) (by omega)) (rq_im (by omega) r2.1), r3.cong8 (fun a g1 g2 => e a (by omega) (by omega) (by omega) (by omega) (by omega)) (e _ (by omega) (by omega) (by omega) (by omega) (by omega)) (e _ (by omega) (by omega) (by omega) (by omega) (by omega)) (e _ (by omega) (by omega) (by omega) (by omega) (by omega)) (rq_im (by omega) r3.1), ⟨t, T.cong ?_ ?_ (e _ (by omega) (by omega) (by omega) (by omega) (by omega)) (e _ (by omega) (by omega) (by omega) (by omega) (by omega))⟩, ?_, ?_, fun i hi => ?_⟩
      · rw [w2 2 (by omega) (by omega) (by omega)]
        show K (rho 2) 1 = _
        rw [rho_o (by omega)]
        exact h1.2
      · rw [w3, eK 146 (by omega) (by omega)]
      · rw [e 1 (by omega) (by omega) (by omega) (by omega) (by omega), e 151 (by omega) (by omega) (by omega) (by omega) (by omega)]
        exact r5
      · rw [w1 1 6 (by omega), w1 1 7 (by omega), w1 146 5 (by omega), w1 146 6 (by omega)]
        show L (rho 1) 6 = L (rho 146) 5 ∧ L (rho 1) 7 = L (rho 146) 6
        rw [rho_o (a := 1) (by omega), rho_o (a := 146) (by omega)]
        exact r6
      · rw [e 11 (by omega) (by omega) (by omega) (by omega) (by omega)]
        exact r7 i hi
  · refine st_mk (r := .int (pT t x 150 0 0 u0).2.1) ((ex_readN X0 r1 hR).mono ?_)
    rintro _ _ ⟨K, rfl, rfl, h1⟩
    refine ⟨rfl, ?_⟩
    refine (ex_readM (L := L) (q := q) (X1 K (by rw [h1.1 146 (by omega) (by omega)]) (h1.1 152 (by omega) (by omega)))).mono ?_
    rintro _ _ ⟨K', W, rfl, rfl, w1, w2, w3, w4, w5⟩
    have e : ∀ a, a ≠ 2 → a < 45 ∨ 77 < a → a ≠ 146 → a ≠ 147 → a ≠ 148 → K' a = I a := fun a g1 g2 g3 g4 g5 => (w2 a g3 g4 g5).trans (h1.1 a g1 g2)
    refine ⟨rfl, q, K', W, u, ⟨v1.cong v2 (fun a g1 g2 => e a (by omega) (by omega) (by omega) (by omega) (by omega)) (fun _ => rfl), v2, v3.cong ((w5 hR).trans (h1.1 147 (by omega) (by omega))), ?_⟩, Or.inl rfl⟩
    refine ⟨r1, r2.cong (fun a g1 g2 => e a (by omega) (by omega) (by omega) (by omega) (by omega)) (e _ (by omega) (by omega) (by omega) (by omega) (by omega)) (e _ (by omega) (by omega) (by omega) (by omega) (by omega)) (e _ (by omega) (by omega) (by omega) (by omega) (by omega)) (fun _ => rfl), r3.cong (fun a g1 g2 => e a (by omega) (by omega) (by omega) (by omega) (by omega)) (e _ (by omega) (by omega) (by omega) (by omega) (by omega)) (e _ (by omega) (by omega) (by omega) (by omega) (by omega)) (e _ (by omega) (by omega) (by omega) (by omega) (by omega)) (fun _ => rfl), ⟨t, T.cong ?_ ?_ (e _ (by omega) (by omega) (by omega) (by omega) (by omega)) (e _ (by omega) (by omega) (by omega) (by omega) (by omega))⟩, ?_, ?_, fun i hi => ?_⟩
    · rw [w2 2 (by omega) (by omega) (by omega)]
      exact h1.2
    · rw [w3, h1.1 146 (by omega) (by omega)]
    · rw [e 1 (by omega) (by omega) (by omega) (by omega) (by omega), e 151 (by omega) (by omega) (by omega) (by omega) (by omega)]
      exact r5
    · rw [w1 1 6 (by omega), w1 1 7 (by omega), w1 146 5 (by omega), w1 146 6 (by omega)]
      exact r6
    · rw [e 11 (by omega) (by omega) (by omega) (by omega) (by omega)]
      exact r7 i hi
/-! a call of the class and of the reference, over any good memory -/
theorem GOOD.rn {M : hz_M} (h : GOOD M) : GOOD (hz_rn M) := by
  obtain ⟨q, I, L, u, V, rfl | rfl⟩ := h
  · exact ⟨q, I, L, u, V, Or.inr rfl⟩
  · exact ⟨q, I, L, u, V, Or.inl (hz_rn_rn (I, L, PP q))⟩
theorem tyv_fx {y : hz_Y} {r : Value} (h : tyv y r = true) : fx r := by
  intro p e
  subst e
  unfold tyv at h
  split at h <;> first | contradiction | (rename_i z _; cases z) | (rename_i z; cases z)
theorem ST.rn {yC yM : hz_Y} {M : hz_M} {as : List Value} (h : ST yC yM M as) (ha : ∀ v ∈ as, fx v) : ST yC yM (hz_rn M) as := by
  obtain ⟨r, E, hr⟩ := h
  have ha1 : ∀ k, k < 12 ∨ 77 < k → ∀ v ∈ (Value.ref k :: as), fx v := fun k hk v hv => by
    rcases List.mem_cons.mp hv with rfl | hv
    · exact fx_ref hk
    · exact ha v hv
  refine st_mk ((E.rn (ha1 1 (Or.inl (by decide))) ?_).mono ?_) hr
  · rintro _ M0 ⟨rfl, -⟩ v e
    cases e
    exact tyv_fx hr
  · rintro _ _ ⟨M0, ⟨rfl, E2⟩, rfl⟩
    refine ⟨rfl, (E2.rn (ha1 146 (Or.inr (by decide))) ?_).mono ?_⟩
    · rintro _ M1 ⟨rfl, -⟩ v e
      cases e
      exact tyv_fx hr
    · rintro _ _ ⟨M1, ⟨rfl, g⟩, rfl⟩
      exact ⟨rfl, g.rn⟩
theorem ST.all {yC yM : hz_Y} {as : List Value} (ha : ∀ v ∈ as, fx v) (h : ∀ q I L u, INV q I L u → ST yC yM (I, L, PP q) as) {M : hz_M} (G : GOOD M) : ST yC yM M as := by
  obtain ⟨q, I, L, u, V, rfl | rfl⟩ := G
  · exact h q I L u V
  · exact (h q I L u V).rn ha

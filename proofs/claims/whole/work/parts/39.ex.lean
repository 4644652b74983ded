/-- a method's end told by a property of its answer and the memory behind it; nothing is made -/
def hz_Qx (D : hz_D) (T : hz_T) (n : Nat) (Po : Option Value → hz_M → Prop) : Array Value → State → Outcome → State → Prop := fun _ st o t => ∃ r M', Po r M' ∧ o = .returned (r.map (hz_tr D.2.2.1)) ∧ hz_R D T n M' t.heap ∧ va_F (hz_A D) st t
def hz_Ex (y : hz_Y) (T : hz_T) (n : Nat) (M : hz_M) (as : List Value) (Po : Option Value → hz_M → Prop) : Prop := ∀ (l : Launch) (D : hz_D), Met l y.1 (hz_ws y) (hz_rm y.2.2.2.2 0 0) (hz_Pc D T n M as) (hz_Qx D T n Po) 0 0 (hz_A D)
def hz_PI (L : Nat → Nat → Int64) (P : Nat → Nat → Nat) (r : Option Value) (F : (Nat → Nat → Int32) → Prop) : Option Value → hz_M → Prop := fun r' M' => ∃ J, r' = r ∧ M' = (J, L, P) ∧ F J
def hz_Zx (X : hz_X) (T : hz_T) (n : Nat) (Po : Option Value → hz_M → Prop) : Prop := match X with
  | (_, _, _, R, s, _, args, below, _, _, D, Q) => Q = MQ below (hz_Qx D T n Po) args s 0 0 (hz_A D) ∧ R.cells = 0 ∧ R.slots = 0
theorem Met.weaken {l : Launch} {y : MethodName} {ws : List Cond} {rm : Room} {Pc : Array Value → State → Prop} {Qc Qd : Array Value → State → Outcome → State → Prop} {mc ms : Nat} {free : Addr → Prop} (h : ∀ a s o t, Qc a s o t → Qd a s o t) (hM : Met l y ws rm Pc Qc mc ms free) : Met l y ws rm Pc Qd mc ms free := by
  intro p e ha hc hk s m args below hf happ hP hK
  obtain ⟨k, o, h1, h2, h3, hQ, hL⟩ := hM p e ha hc hk s m args below hf happ hP hK
  exact ⟨k, o, h1, h2, h3, h _ _ _ _ hQ, hL⟩
theorem hz_Ev.x {y : hz_Y} {T : hz_T} {n : Nat} {M M' : hz_M} {as : List Value} {r : Option Value} {Po : Option Value → hz_M → Prop} (E : hz_Ev y T n M as 0 0 r T n M') (h : Po r M') : hz_Ex y T n M as Po := fun l D =>
  Met.weaken (fun _ _ _ _ hq => ⟨r, M', h, hq.1, hq.2.1, hq.2.2⟩) (E l D (fun a h1 h2 => absurd h2 (by omega)))
theorem hz_Ex.mono {y : hz_Y} {T : hz_T} {n : Nat} {M : hz_M} {as : List Value} {Po Pq : Option Value → hz_M → Prop} (E : hz_Ex y T n M as Po) (h : ∀ r M', Po r M' → Pq r M') : hz_Ex y T n M as Pq := fun l D =>
  Met.weaken (fun _ _ _ _ ⟨r, M', hp, hq⟩ => ⟨r, M', h _ _ hp, hq⟩) (E l D)
theorem hz_Ex.intro {y : hz_Y} {T : hz_T} {n : Nat} {M : hz_M} {as : List Value} {Po : Option Value → hz_M → Prop} {ls : List (Option Value)} (hpl : plainName y.1.cls = true) (hls : hz_sl as ++ List.replicate (y.2.2.1 - (hz_sl as).length) none = ls) (hlen : (hz_sl as).length ≤ y.2.2.1)
    (body : ∀ X : hz_X, hz_C X y → hz_Zx X T n Po → hz_G X T n M 0 0 0 ls []) : hz_Ex y T n M as Po := by
  intro l D
  refine Met.ofW (cc := y.2.1) (maxL := y.2.2.1) (ret := y.2.2.2.1) hpl rfl ?_
  intro p e s m args below meth c s₁ B hml hv
  obtain ⟨rfl, hR, hK, hext⟩ := hv
  have hts := atoms_spec (ws := hz_ws y) B.pre
  have hb := body (p, l, e, (headSpec (hz_ws y) (hz_rm y.2.2.2.2 0 0)).room, s, m, (as.map (hz_tr D.2.2.1)).toArray, below, meth, c, D, MQ below (hz_Qx D T n Po) (as.map (hz_tr D.2.2.1)).toArray s 0 0 (hz_A D))
    ⟨B.exec, B.bytes, hml, findClass_of_methodNamed B.named, fun w hw => hts w (List.mem_cons_of_mem _ hw), hK, hext, Nat.le_refl _, Nat.le_refl _, B.returns, B.notSynchronized, fun h => ((name_of_methodNamed B.named B.method).1).trans h, by rw [hR.2.2]; exact Nat.le_add_right _ _⟩ ⟨rfl, rfl, rfl⟩
  rw [lg_entry_eq]
  exact hb s.heap [] hR va_S.rf _ (hz_entry D.2.2.1 as hls hlen)
theorem hz_contx {p : Program} {l : Launch} {e : Env} {R : Room} {s : State} {m : MethodId} {args : Array Value} {below : List Frame} {meth : Method} {c : Code} {H : Heap} {locs : List Loc} {kc ks pc n : Nat} {Q : State → Prop} {D : hz_D} {T : hz_T} {Po : Option Value → hz_M → Prop} {a0 : Array Value} {lsA : Array Slot} {stA rest : List Value}
    (hr : va_Run p l e R s m args below meth c H locs kc ks 0 0 (F0 m pc lsA stA) rest (hz_Qx D T n Po a0) (hz_A D)) (hS : va_S (hz_A D) s.heap H locs)
    (kk : ∀ (r : Option Value) (M' : hz_M), Po r M' → ∀ (H1 : Heap) (locs1 : List Loc), hz_R D T n M' H1 → va_S (hz_A D) s.heap H1 locs1 → W p l e R s m args below meth c H1 locs1 kc ks Q (F0 m (pc + 3) lsA ((r.map (hz_tr D.2.2.1)).toList ++ rest))) : W p l e R s m args below meth c H locs kc ks Q (F0 m pc lsA stA) := by
  intro T0 hT X
  obtain ⟨v, st₀, t, T2, L, h0, X', hL, e1, e2, ⟨r, M', hP, hv, hRt, hz, hk⟩, st⟩ := hr T0 hT X
  cases hv
  rw [h0] at hz hk
  obtain ⟨t2, a1, b1⟩ := kk r M' hP T2.heap (locs ++ L) (by rw [e1]; exact hRt) ⟨Nat.le_trans hS.1 (by rw [e1]; exact hz), fun q h1 h2 => by rw [e1, hk q (Nat.lt_of_lt_of_le h1 hS.1) h2]; exact hS.2.1 q h1 h2, fun q hq => by
      rcases List.mem_append.mp hq with h | h
      · exact hS.2.2 q h
      · exact hL q h⟩ T2 rfl X'
  exact ⟨t2, st t2 a1, b1⟩
section XCALLS
variable {X : hz_X} {y y0 : hz_Y} {T : hz_T} {n : Nat} {M : hz_M} {kc ks pc ix na : Nat} {ls : List (Option Value)} {st stk as : List Value} {Po : Option Value → hz_M → Prop}
theorem hz_callVx (C : hz_C X y) {a c N : Nat} {rr : vw_C} (E : hz_Ex y0 T n M (.ref a :: as) Po) (Y : hz_FY y0 na) (F : hz_FV y.1.cls ix y0) (hna : as.length = na) (d : decode y.2.1 pc = .ok (.invokevirtual ix, 3)) (hT : T a = (c, N)) (hc : vwCl[c]? = some rr) (hcl : rr.1 = y0.1.cls) (ha : a ≠ 0 ∧ a ≤ n) (hst : stk = as.reverse ++ .ref a :: st) (hlen : ls.length = y.2.2.1) (hsum : (st.map Value.category).sum ≤ 8) (hd : y0.2.2.2.2 + 1 ≤ y.2.2.2.2) (hcap : hz_cap X kc ks) (kk : ∀ r M', Po r M' → hz_G X T n M' kc ks (pc + 3) ls (r.toList ++ st)) : hz_G X T n M kc ks pc ls stk := by
  obtain ⟨p, l, e, R, s, m, args, below, meth, cd, D, Q⟩ := X
  obtain ⟨hx, hb, hml, hown, hts, hK, hext, hfr, hlo, -⟩ := C
  obtain ⟨hy1, hy2, hy3, hy4, hy5⟩ := Y
  obtain ⟨hf1, hf2, hf3⟩ := F
  intro H locs hR hS lsA hl
  subst hst
  have hw := hz_W_obj D M ha.1 ha.2 hT (List.getElem?_eq_some_iff.mp hc).1
  have hg : GoodIn hz_tbl (wsV y.1.cls ix y0.1.cls y0.1 (hz_ws y0)) := by
    unfold wsV
    refine hz_goodA (fun w h => ?_) (hz_goodY hy1)
    simp only [List.mem_cons, List.not_mem_nil, or_false] at h
    rcases h with rfl | rfl | rfl | rfl <;> assumption
  have hrun := va_runV (As := as.map (hz_tr D.2.2.1)) (rest := st.map (hz_tr D.2.2.1)) (g := F0 m pc lsA ((as.reverse ++ .ref a :: st).map (hz_tr D.2.2.1))) (b := D.2.2.1 a) ⟨hx, hb, hml, hown, hts⟩ (E l D) (cwV na hts hg rfl rfl rfl ⟨rfl, (hz_nmh_spec hy3).1, (hz_nmh_spec hy3).2, hy4⟩ (hz_room hfr hlo hd hy5)) ⟨hz_blind D T n M _, by rw [← hcl]; exact va_recv hK.1 hR.1 hc hw, fun U hU hW => ⟨rfl, by rw [hU]; exact hR, hz_K.moved hW hK, by rw [hU]; exact hz_ext.moved hW (hext.kept hS.2.1)⟩⟩ rfl (by simpa using hna) (hl.1.trans hlen) (by simp [hz_tr]) (lv_room (hz_sum hsum)) d hcap (locs := locs) (H := H) (cells := kc) (slots := ks) (e := e) (below := below) (meth := meth)
  refine hz_contx hrun hS (fun r M' hP H1 locs1 hR1 hS1 => ?_)
  have h9 := kk r M' hP H1 locs1 hR1 hS1 lsA hl
  rw [List.map_append] at h9
  cases r <;> exact h9
theorem hz_callUx (C : hz_C X y) {a c N : Nat} {rr : vw_C} (E : hz_Ex y0 T n M (.ref a :: as) Po) (Y : hz_FY y0 na) {owner : String} {x : MethodName} (F : hz_FU y.1.cls ix rr.1 owner x y0) (hna : as.length = na) (d : decode y.2.1 pc = .ok (.invokevirtual ix, 3)) (hT : T a = (c, N)) (hc : vwCl[c]? = some rr) (ha : a ≠ 0 ∧ a ≤ n) (hst : stk = as.reverse ++ .ref a :: st) (hlen : ls.length = y.2.2.1) (hsum : (st.map Value.category).sum ≤ 8) (hd : y0.2.2.2.2 + 1 ≤ y.2.2.2.2) (hcap : hz_cap X kc ks) (kk : ∀ r M', Po r M' → hz_G X T n M' kc ks (pc + 3) ls (r.toList ++ st)) : hz_G X T n M kc ks pc ls stk := by
  obtain ⟨p, l, e, R, s, m, args, below, meth, cd, D, Q⟩ := X
  obtain ⟨hx, hb, hml, hown, hts, hK, hext, hfr, hlo, -⟩ := C
  obtain ⟨hy1, hy2, hy3, hy4, hy5⟩ := Y
  obtain ⟨hf1, hf2, hf3, hf4, hf5, ⟨b0, m0, r0, hf6⟩, hf7, hf8⟩ := F
  intro H locs hR hS lsA hl
  subst hst
  have hw := hz_W_obj D M ha.1 ha.2 hT (List.getElem?_eq_some_iff.mp hc).1
  have hg : GoodIn hz_tbl (va_wsO y.1.cls ix rr.1 owner x y0.1 (hz_ws y0)) := by
    unfold va_wsO
    refine hz_goodA (fun w h => ?_) (hz_goodY hy1)
    simp only [List.mem_cons, List.not_mem_nil, or_false] at h
    rcases h with rfl | rfl | rfl | rfl | rfl | rfl <;> assumption
  have hrun := va_runU (As := as.map (hz_tr D.2.2.1)) (rest := st.map (hz_tr D.2.2.1)) (g := F0 m pc lsA ((as.reverse ++ .ref a :: st).map (hz_tr D.2.2.1))) (b := D.2.2.1 a) ⟨hx, hb, hml, hown, hts⟩ (E l D) (va_cwO na hts hg rfl rfl rfl hf6 ⟨(hz_nmh_spec hf7).1, (hz_nmh_spec hf7).2, by rw [hf8]; exact hy4⟩ (hz_room hfr hlo hd hy5)) ⟨hz_blind D T n M _, va_recv hK.1 hR.1 hc hw, fun U hU hW => ⟨rfl, by rw [hU]; exact hR, hz_K.moved hW hK, by rw [hU]; exact hz_ext.moved hW (hext.kept hS.2.1)⟩⟩ rfl (by simpa using hna) (hl.1.trans hlen) (by simp [hz_tr]) (lv_room (hz_sum hsum)) d hcap (locs := locs) (H := H) (cells := kc) (slots := ks) (e := e) (below := below) (meth := meth)
  refine hz_contx hrun hS (fun r M' hP H1 locs1 hR1 hS1 => ?_)
  have h9 := kk r M' hP H1 locs1 hR1 hS1 lsA hl
  rw [List.map_append] at h9
  cases r <;> exact h9
theorem hz_callSUx (C : hz_C X y) {a c N : Nat} {rr : vw_C} (E : hz_Ex y0 T n M (.ref a :: as) Po) (Y : hz_FY y0 na) (F : hz_FSU y.1.cls ix y0) (hna : as.length = na) (d : decode y.2.1 pc = .ok (.invokespecial ix, 3)) (hT : T a = (c, N)) (hc : vwCl[c]? = some rr) (ha : a ≠ 0 ∧ a ≤ n) (hst : stk = as.reverse ++ .ref a :: st) (hlen : ls.length = y.2.2.1) (hsum : (st.map Value.category).sum ≤ 8) (hd : y0.2.2.2.2 + 1 ≤ y.2.2.2.2) (hcap : hz_cap X kc ks) (kk : ∀ r M', Po r M' → hz_G X T n M' kc ks (pc + 3) ls (r.toList ++ st)) : hz_G X T n M kc ks pc ls stk := by
  obtain ⟨p, l, e, R, s, m, args, below, meth, cd, D, Q⟩ := X
  obtain ⟨hx, hb, hml, hown, hts, hK, hext, hfr, hlo, -⟩ := C
  obtain ⟨hy1, hy2, hy3, hy4, hy5⟩ := Y
  obtain ⟨hf1, hf2, hf3, hf4, hf5⟩ := F
  intro H locs hR hS lsA hl
  subst hst
  have hw := hz_W_obj D M ha.1 ha.2 hT (List.getElem?_eq_some_iff.mp hc).1
  have hg : GoodIn hz_tbl (va_wsSU y.1.cls ix y0.1 (hz_ws y0)) := by
    unfold va_wsSU
    refine hz_goodA (fun w h => ?_) (hz_goodY hy1)
    simp only [List.mem_cons, List.not_mem_nil, or_false] at h
    rcases h with rfl | rfl | rfl | rfl | rfl <;> assumption
  have hrun := va_runSU (As := as.map (hz_tr D.2.2.1)) (rest := st.map (hz_tr D.2.2.1)) (g := F0 m pc lsA ((as.reverse ++ .ref a :: st).map (hz_tr D.2.2.1))) (b := D.2.2.1 a) (hK.1.1 c rr hc).2 ⟨hx, hb, hml, hown, hts⟩ (E l D) (va_cwSU na hts hg rfl rfl rfl ⟨hf5, hy4⟩ (hz_room hfr hlo hd hy5)) ⟨hz_blind D T n M _, va_recv hK.1 hR.1 hc hw, fun U hU hW => ⟨rfl, by rw [hU]; exact hR, hz_K.moved hW hK, by rw [hU]; exact hz_ext.moved hW (hext.kept hS.2.1)⟩⟩ rfl (by simpa using hna) (hl.1.trans hlen) (by simp [hz_tr]) (lv_room (hz_sum hsum)) d hcap (locs := locs) (H := H) (cells := kc) (slots := ks) (e := e) (below := below) (meth := meth)
  refine hz_contx hrun hS (fun r M' hP H1 locs1 hR1 hS1 => ?_)
  have h9 := kk r M' hP H1 locs1 hR1 hS1 lsA hl
  rw [List.map_append] at h9
  cases r <;> exact h9
theorem hz_callSx (C : hz_C X y) (E : hz_Ex y0 T n M as Po) (Y : hz_FY y0 na) (F : hz_FS y.1.cls ix y0) (hna : as.length = na) (d : decode y.2.1 pc = .ok (.invokestatic ix, 3)) (hst : stk = as.reverse ++ st) (hlen : ls.length = y.2.2.1) (hsum : (st.map Value.category).sum ≤ 8) (hd : y0.2.2.2.2 + 1 ≤ y.2.2.2.2) (hcap : hz_cap X kc ks) (kk : ∀ r M', Po r M' → hz_G X T n M' kc ks (pc + 3) ls (r.toList ++ st)) : hz_G X T n M kc ks pc ls stk := by
  obtain ⟨p, l, e, R, s, m, args, below, meth, cd, D, Q⟩ := X
  obtain ⟨hx, hb, hml, hown, hts, hK, hext, hfr, hlo, -⟩ := C
  obtain ⟨hy1, hy2, hy3, hy4, hy5⟩ := Y
  obtain ⟨hf1, hf2⟩ := F
  intro H locs hR hS lsA hl
  subst hst
  have hg : GoodIn hz_tbl (va_wsS y.1.cls ix y0.1 (hz_ws y0)) := by
    unfold va_wsS
    refine hz_goodA (fun w h => ?_) (hz_goodY hy1)
    simp only [List.mem_cons, List.not_mem_nil, or_false] at h
    rcases h with rfl | rfl | rfl <;> assumption
  have hrun := va_runS (As := as.map (hz_tr D.2.2.1)) (rest := st.map (hz_tr D.2.2.1)) (g := F0 m pc lsA ((as.reverse ++ st).map (hz_tr D.2.2.1))) ⟨hx, hb, hml, hown, hts⟩ (E l D) (va_cwS na hts hg rfl rfl rfl ⟨(hz_nmh_spec hy3).1, (hz_nmh_spec hy3).2, hy4⟩ (hz_room hfr hlo hd hy5)) ⟨hz_blind D T n M _, fun U hU hW => ⟨rfl, by rw [hU]; exact hR, hz_K.moved hW hK, by rw [hU]; exact hz_ext.moved hW (hext.kept hS.2.1)⟩⟩ rfl (by simpa using hna) (hl.1.trans hlen) (by simp [hz_tr]) (lv_room (hz_sum hsum)) d hcap (locs := locs) (H := H) (cells := kc) (slots := ks) (e := e) (below := below) (meth := meth)
  refine hz_contx hrun hS (fun r M' hP H1 locs1 hR1 hS1 => ?_)
  have h9 := kk r M' hP H1 locs1 hR1 hS1 lsA hl
  rw [List.map_append] at h9
  cases r <;> exact h9
theorem hz_callSNx (C : hz_C X y) (E : hz_Ex y0 T n M as Po) (Y : hz_FY y0 na) {host : String} (F : hz_FSN y.1.cls ix y0 host) (hna : as.length = na) (d : decode y.2.1 pc = .ok (.invokestatic ix, 3)) (hst : stk = as.reverse ++ st) (hlen : ls.length = y.2.2.1) (hsum : (st.map Value.category).sum ≤ 8) (hd : y0.2.2.2.2 + 1 ≤ y.2.2.2.2) (hcap : hz_cap X kc ks) (kk : ∀ r M', Po r M' → hz_G X T n M' kc ks (pc + 3) ls (r.toList ++ st)) : hz_G X T n M kc ks pc ls stk := by
  obtain ⟨p, l, e, R, s, m, args, below, meth, cd, D, Q⟩ := X
  obtain ⟨hx, hb, hml, hown, hts, hK, hext, hfr, hlo, -⟩ := C
  obtain ⟨hy1, hy2, hy3, hy4, hy5⟩ := Y
  obtain ⟨hf1, hf2⟩ := F
  intro H locs hR hS lsA hl
  subst hst
  have hrun := va_runSN (As := as.map (hz_tr D.2.2.1)) (rest := st.map (hz_tr D.2.2.1)) (g := F0 m pc lsA ((as.reverse ++ st).map (hz_tr D.2.2.1))) ⟨hx, hb, hml, hown, hts⟩ (E l D) ⟨va_cnB (host := host) na hts (hz_goodY hy1) rfl rfl rfl (hK.2 _ hf1) (hts _ hy2) ⟨(hz_nmh_spec hy3).1, (hz_nmh_spec hy3).2, hy4⟩ (hz_room hfr hlo hd hy5), hts _ hf2, trivial⟩ ⟨hz_blind D T n M _, fun U hU hW => ⟨rfl, by rw [hU]; exact hR, hz_K.moved hW hK, by rw [hU]; exact hz_ext.moved hW (hext.kept hS.2.1)⟩⟩ rfl (by simpa using hna) (hl.1.trans hlen) (by simp [hz_tr]) (lv_room (hz_sum hsum)) d hcap (locs := locs) (H := H) (cells := kc) (slots := ks) (e := e) (below := below) (meth := meth)
  refine hz_contx hrun hS (fun r M' hP H1 locs1 hR1 hS1 => ?_)
  have h9 := kk r M' hP H1 locs1 hR1 hS1 lsA hl
  rw [List.map_append] at h9
  cases r <;> exact h9
end XCALLS
section XWRAP
variable {X : hz_X} {y y0 : hz_Y} {T : hz_T} {n : Nat} {M : hz_M} {kc ks pc ix na : Nat} {ls : List (Option Value)} {st stk as : List Value} {v : Value} {L : Nat → Nat → Int64} {P : Nat → Nat → Nat} {F0' : (Nat → Nat → Int32) → Prop}
theorem hz_callVxs (C : hz_C X y) {a c N : Nat} {rr : vw_C} (E : hz_Ex y0 T n M (.ref a :: as) (hz_PI L P (some v) F0')) (Y : hz_FY y0 na) (F : hz_FV y.1.cls ix y0) (hna : as.length = na) (d : decode y.2.1 pc = .ok (.invokevirtual ix, 3)) (hT : T a = (c, N)) (hc : vwCl[c]? = some rr) (hcl : rr.1 = y0.1.cls) (ha : a ≠ 0 ∧ a ≤ n) (hst : stk = as.reverse ++ .ref a :: st) (hlen : ls.length = y.2.2.1) (hsum : (st.map Value.category).sum ≤ 8) (hd : y0.2.2.2.2 + 1 ≤ y.2.2.2.2) (hcap : hz_cap X kc ks) (kk : ∀ J, F0' J → hz_G X T n (J, L, P) kc ks (pc + 3) ls (v :: st)) : hz_G X T n M kc ks pc ls stk :=
  hz_callVx C E Y F hna d hT hc hcl ha hst hlen hsum hd hcap (fun r M' ⟨J, e1, e2, hJ⟩ => by subst e1; subst e2; exact kk J hJ)
theorem hz_callVxv (C : hz_C X y) {a c N : Nat} {rr : vw_C} (E : hz_Ex y0 T n M (.ref a :: as) (hz_PI L P none F0')) (Y : hz_FY y0 na) (F : hz_FV y.1.cls ix y0) (hna : as.length = na) (d : decode y.2.1 pc = .ok (.invokevirtual ix, 3)) (hT : T a = (c, N)) (hc : vwCl[c]? = some rr) (hcl : rr.1 = y0.1.cls) (ha : a ≠ 0 ∧ a ≤ n) (hst : stk = as.reverse ++ .ref a :: st) (hlen : ls.length = y.2.2.1) (hsum : (st.map Value.category).sum ≤ 8) (hd : y0.2.2.2.2 + 1 ≤ y.2.2.2.2) (hcap : hz_cap X kc ks) (kk : ∀ J, F0' J → hz_G X T n (J, L, P) kc ks (pc + 3) ls (st)) : hz_G X T n M kc ks pc ls stk :=
  hz_callVx C E Y F hna d hT hc hcl ha hst hlen hsum hd hcap (fun r M' ⟨J, e1, e2, hJ⟩ => by subst e1; subst e2; exact kk J hJ)
theorem hz_callUxs (C : hz_C X y) {a c N : Nat} {rr : vw_C} (E : hz_Ex y0 T n M (.ref a :: as) (hz_PI L P (some v) F0')) (Y : hz_FY y0 na) {owner : String} {x : MethodName} (F : hz_FU y.1.cls ix rr.1 owner x y0) (hna : as.length = na) (d : decode y.2.1 pc = .ok (.invokevirtual ix, 3)) (hT : T a = (c, N)) (hc : vwCl[c]? = some rr) (ha : a ≠ 0 ∧ a ≤ n) (hst : stk = as.reverse ++ .ref a :: st) (hlen : ls.length = y.2.2.1) (hsum : (st.map Value.category).sum ≤ 8) (hd : y0.2.2.2.2 + 1 ≤ y.2.2.2.2) (hcap : hz_cap X kc ks) (kk : ∀ J, F0' J → hz_G X T n (J, L, P) kc ks (pc + 3) ls (v :: st)) : hz_G X T n M kc ks pc ls stk :=
  hz_callUx C E Y F hna d hT hc ha hst hlen hsum hd hcap (fun r M' ⟨J, e1, e2, hJ⟩ => by subst e1; subst e2; exact kk J hJ)
theorem hz_callUxv (C : hz_C X y) {a c N : Nat} {rr : vw_C} (E : hz_Ex y0 T n M (.ref a :: as) (hz_PI L P none F0')) (Y : hz_FY y0 na) {owner : String} {x : MethodName} (F : hz_FU y.1.cls ix rr.1 owner x y0) (hna : as.length = na) (d : decode y.2.1 pc = .ok (.invokevirtual ix, 3)) (hT : T a = (c, N)) (hc : vwCl[c]? = some rr) (ha : a ≠ 0 ∧ a ≤ n) (hst : stk = as.reverse ++ .ref a :: st) (hlen : ls.length = y.2.2.1) (hsum : (st.map Value.category).sum ≤ 8) (hd : y0.2.2.2.2 + 1 ≤ y.2.2.2.2) (hcap : hz_cap X kc ks) (kk : ∀ J, F0' J → hz_G X T n (J, L, P) kc ks (pc + 3) ls (st)) : hz_G X T n M kc ks pc ls stk :=
  hz_callUx C E Y F hna d hT hc ha hst hlen hsum hd hcap (fun r M' ⟨J, e1, e2, hJ⟩ => by subst e1; subst e2; exact kk J hJ)
theorem hz_callSUxs (C : hz_C X y) {a c N : Nat} {rr : vw_C} (E : hz_Ex y0 T n M (.ref a :: as) (hz_PI L P (some v) F0')) (Y : hz_FY y0 na) (F : hz_FSU y.1.cls ix y0) (hna : as.length = na) (d : decode y.2.1 pc = .ok (.invokespecial ix, 3)) (hT : T a = (c, N)) (hc : vwCl[c]? = some rr) (ha : a ≠ 0 ∧ a ≤ n) (hst : stk = as.reverse ++ .ref a :: st) (hlen : ls.length = y.2.2.1) (hsum : (st.map Value.category).sum ≤ 8) (hd : y0.2.2.2.2 + 1 ≤ y.2.2.2.2) (hcap : hz_cap X kc ks) (kk : ∀ J, F0' J → hz_G X T n (J, L, P) kc ks (pc + 3) ls (v :: st)) : hz_G X T n M kc ks pc ls stk :=
  hz_callSUx C E Y F hna d hT hc ha hst hlen hsum hd hcap (fun r M' ⟨J, e1, e2, hJ⟩ => by subst e1; subst e2; exact kk J hJ)
theorem hz_callSUxv (C : hz_C X y) {a c N : Nat} {rr : vw_C} (E : hz_Ex y0 T n M (.ref a :: as) (hz_PI L P none F0')) (Y : hz_FY y0 na) (F : hz_FSU y.1.cls ix y0) (hna : as.length = na) (d : decode y.2.1 pc = .ok (.invokespecial ix, 3)) (hT : T a = (c, N)) (hc : vwCl[c]? = some rr) (ha : a ≠ 0 ∧ a ≤ n) (hst : stk = as.reverse ++ .ref a :: st) (hlen : ls.length = y.2.2.1) (hsum : (st.map Value.category).sum ≤ 8) (hd : y0.2.2.2.2 + 1 ≤ y.2.2.2.2) (hcap : hz_cap X kc ks) (kk : ∀ J, F0' J → hz_G X T n (J, L, P) kc ks (pc + 3) ls (st)) : hz_G X T n M kc ks pc ls stk :=
  hz_callSUx C E Y F hna d hT hc ha hst hlen hsum hd hcap (fun r M' ⟨J, e1, e2, hJ⟩ => by subst e1; subst e2; exact kk J hJ)
theorem hz_callSxs (C : hz_C X y) (E : hz_Ex y0 T n M as (hz_PI L P (some v) F0')) (Y : hz_FY y0 na) (F : hz_FS y.1.cls ix y0) (hna : as.length = na) (d : decode y.2.1 pc = .ok (.invokestatic ix, 3)) (hst : stk = as.reverse ++ st) (hlen : ls.length = y.2.2.1) (hsum : (st.map Value.category).sum ≤ 8) (hd : y0.2.2.2.2 + 1 ≤ y.2.2.2.2) (hcap : hz_cap X kc ks) (kk : ∀ J, F0' J → hz_G X T n (J, L, P) kc ks (pc + 3) ls (v :: st)) : hz_G X T n M kc ks pc ls stk :=
  hz_callSx C E Y F hna d hst hlen hsum hd hcap (fun r M' ⟨J, e1, e2, hJ⟩ => by subst e1; subst e2; exact kk J hJ)
theorem hz_callSxv (C : hz_C X y) (E : hz_Ex y0 T n M as (hz_PI L P none F0')) (Y : hz_FY y0 na) (F : hz_FS y.1.cls ix y0) (hna : as.length = na) (d : decode y.2.1 pc = .ok (.invokestatic ix, 3)) (hst : stk = as.reverse ++ st) (hlen : ls.length = y.2.2.1) (hsum : (st.map Value.category).sum ≤ 8) (hd : y0.2.2.2.2 + 1 ≤ y.2.2.2.2) (hcap : hz_cap X kc ks) (kk : ∀ J, F0' J → hz_G X T n (J, L, P) kc ks (pc + 3) ls (st)) : hz_G X T n M kc ks pc ls stk :=
  hz_callSx C E Y F hna d hst hlen hsum hd hcap (fun r M' ⟨J, e1, e2, hJ⟩ => by subst e1; subst e2; exact kk J hJ)
theorem hz_callSNxs (C : hz_C X y) (E : hz_Ex y0 T n M as (hz_PI L P (some v) F0')) (Y : hz_FY y0 na) {host : String} (F : hz_FSN y.1.cls ix y0 host) (hna : as.length = na) (d : decode y.2.1 pc = .ok (.invokestatic ix, 3)) (hst : stk = as.reverse ++ st) (hlen : ls.length = y.2.2.1) (hsum : (st.map Value.category).sum ≤ 8) (hd : y0.2.2.2.2 + 1 ≤ y.2.2.2.2) (hcap : hz_cap X kc ks) (kk : ∀ J, F0' J → hz_G X T n (J, L, P) kc ks (pc + 3) ls (v :: st)) : hz_G X T n M kc ks pc ls stk :=
  hz_callSNx C E Y F hna d hst hlen hsum hd hcap (fun r M' ⟨J, e1, e2, hJ⟩ => by subst e1; subst e2; exact kk J hJ)
theorem hz_callSNxv (C : hz_C X y) (E : hz_Ex y0 T n M as (hz_PI L P none F0')) (Y : hz_FY y0 na) {host : String} (F : hz_FSN y.1.cls ix y0 host) (hna : as.length = na) (d : decode y.2.1 pc = .ok (.invokestatic ix, 3)) (hst : stk = as.reverse ++ st) (hlen : ls.length = y.2.2.1) (hsum : (st.map Value.category).sum ≤ 8) (hd : y0.2.2.2.2 + 1 ≤ y.2.2.2.2) (hcap : hz_cap X kc ks) (kk : ∀ J, F0' J → hz_G X T n (J, L, P) kc ks (pc + 3) ls (st)) : hz_G X T n M kc ks pc ls stk :=
  hz_callSNx C E Y F hna d hst hlen hsum hd hcap (fun r M' ⟨J, e1, e2, hJ⟩ => by subst e1; subst e2; exact kk J hJ)
end XWRAP
section XRETS
variable {X : hz_X} {y : hz_Y} {T : hz_T} {n : Nat} {M : hz_M} {pc : Nat} {ls : List (Option Value)} {Po : Option Value → hz_M → Prop}
theorem hz_iretx (C : hz_C X y) {v : Int32} (Z : hz_Zx X T n Po) (hrt : y.2.2.2.1 = some .int) (d : decode y.2.1 pc = .ok (.ireturn, 1)) (hP : Po (some (.int v)) M) : hz_G X T n M 0 0 pc ls [.int v] := by
  obtain ⟨p, l, e, R, s, m, args, below, meth, cd, D, Q⟩ := X
  obtain ⟨hx, hb, hml, hown, hts, hK, hext, hfr, hlo, hret, hlocks, -⟩ := C
  obtain ⟨rfl, -, -⟩ := Z
  intro H locs hR hS lsA hl
  exact W.iret hx hb (hret.trans hrt) (fun t ht hW => ⟨_, _, hP, rfl, by rw [ht]; exact hR, hS.F ht⟩) hS.2.2 d hlocks
theorem hz_zretx (C : hz_C X y) {v : Int32} (Z : hz_Zx X T n Po) {ty : FieldType} (hrt : y.2.2.2.1 = some ty) (hn : narrow ty (.int v) = .int v) (d : decode y.2.1 pc = .ok (.ireturn, 1)) (hP : Po (some (.int v)) M) : hz_G X T n M 0 0 pc ls [.int v] := by
  obtain ⟨p, l, e, R, s, m, args, below, meth, cd, D, Q⟩ := X
  obtain ⟨hx, hb, hml, hown, hts, hK, hext, hfr, hlo, hret, hlocks, -⟩ := C
  obtain ⟨rfl, -, -⟩ := Z
  intro H locs hR hS lsA hl
  exact W.zret hx hb (hret.trans hrt) hn (fun t ht hW => ⟨_, _, hP, rfl, by rw [ht]; exact hR, hS.F ht⟩) hS.2.2 d hlocks
theorem hz_lretx (C : hz_C X y) {v : Int64} (Z : hz_Zx X T n Po) (hrt : y.2.2.2.1 = some .long) (d : decode y.2.1 pc = .ok (.lreturn, 1)) (hP : Po (some (.long v)) M) : hz_G X T n M 0 0 pc ls [.long v] := by
  obtain ⟨p, l, e, R, s, m, args, below, meth, cd, D, Q⟩ := X
  obtain ⟨hx, hb, hml, hown, hts, hK, hext, hfr, hlo, hret, hlocks, -⟩ := C
  obtain ⟨rfl, -, -⟩ := Z
  intro H locs hR hS lsA hl
  exact W.lret hx hb (hret.trans hrt) (fun t ht hW => ⟨_, _, hP, rfl, by rw [ht]; exact hR, hS.F ht⟩) hS.2.2 d hlocks
theorem hz_vretx (C : hz_C X y) (Z : hz_Zx X T n Po) (hrt : y.2.2.2.1 = none) (d : decode y.2.1 pc = .ok (.return_, 1)) (hP : Po none M) : hz_G X T n M 0 0 pc ls [] := by
  obtain ⟨p, l, e, R, s, m, args, below, meth, cd, D, Q⟩ := X
  obtain ⟨hx, hb, hml, hown, hts, hK, hext, hfr, hlo, hret, hlocks, -⟩ := C
  obtain ⟨rfl, -, -⟩ := Z
  intro H locs hR hS lsA hl
  exact W.vret hx hb (hret.trans hrt) (fun t ht hW => ⟨_, _, hP, rfl, by rw [ht]; exact hR, hS.F ht⟩) hS.2.2 d hlocks
end XRETS
/-- all cells but these stay -/
def hz_kp (S : List Nat) (I J : Nat → Nat → Int32) : Prop := ∀ a, a ∉ S → J a = I a

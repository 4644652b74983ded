theorem hz_K.moved {D : hz_D} {s U : State} (hW : s.WarmedH U.vm) (h : hz_K D s) : hz_K D U := by
  refine ⟨va_K.moved hW.alike h.1, fun w hw => ?_⟩
  have h1 := h.2 w hw
  have h2 := (List.mem_filter.mp hw).2
  unfold hz_isN at h2
  split at h2
  · exact va_Nw.warmM hW h1
  · exact va_Nw.warmF hW h1
  · exact va_Nw.warmC hW h1
  · exact va_AO.moved hW.alike h1
  · cases h2
theorem hz_K.calling {D : hz_D} {U V : State} (hv : U.vm = V.vm) (h : hz_K D U) : hz_K D V := by
  refine ⟨va_K.moved (u := U) (U := V) (by rw [hv]; exact Vm.Alike.refl _) h.1, fun w hw => ?_⟩
  have h1 := h.2 w hw
  have h2 := (List.mem_filter.mp hw).2
  unfold hz_isN at h2
  split at h2
  · exact va_Nw.same rfl hv h1
  · exact va_Nw.same rfl hv h1
  · exact va_Nw.same rfl hv h1
  · exact va_AO.moved (u := U) (U := V) (by rw [hv]; exact Vm.Alike.refl _) h1
  · cases h2
theorem hz_ext.moved {D : hz_D} {s U : State} {H : Heap} (hW : s.WarmedH U.vm) (h : hz_ext D s H) : hz_ext D U H := by
  obtain ⟨h1, h2, h3, h4, h9, h5, h6, h7, h8⟩ := h
  exact ⟨va_Z.moved hW.alike h1, va_T.moved hW.alike h2, vk_S.moved hW.alike h3, va_Z.moved hW.alike h4, h9.imp (va_Z.moved hW.alike) (va_Z.moved hW.alike), vk_R.warm hW h5, vk_R.warm hW h6, vk_R.warm hW h7, vk_R.warm hW h8⟩
theorem hz_ext.same {D : hz_D} {u U : State} {H : Heap} (hv : U.vm = u.vm) (h : hz_ext D u H) : hz_ext D U H := by
  obtain ⟨h1, h2, h3, h4, h9, h5, h6, h7, h8⟩ := h
  have hvm : u.vm.Alike U.vm := by rw [hv]; exact Vm.Alike.refl _
  exact ⟨va_Z.moved hvm h1, va_T.moved hvm h2, vk_S.moved hvm h3, va_Z.moved hvm h4, h9.imp (va_Z.moved hvm) (va_Z.moved hvm), vk_R.same hv h5, vk_R.same hv h6, vk_R.same hv h7, vk_R.same hv h8⟩
theorem hz_ext.kept {D : hz_D} {s : State} {H H1 : Heap} (h : hz_ext D s H) (hq : ∀ a : Nat, a < H.size → ¬ hz_A D a → H1[a]? = H[a]?) : hz_ext D s H1 := ⟨h.1.kept hq, h.2.1.kept hq, h.2.2.1.kept hq, h.2.2.2.1.kept hq, h.2.2.2.2.1.imp (fun z => z.kept hq) (fun z => z.kept hq), h.2.2.2.2.2⟩
theorem hz_blind (D : hz_D) (T : hz_T) (n : Nat) (M : hz_M) (as : List Value) : FrameBlind (hz_Pc D T n M as) := by
  intro a U g mk h
  obtain ⟨h1, h2, h3, h4⟩ := h
  exact ⟨h1, h2, hz_K.calling (U := U) (V := U.calling g mk a) rfl h3, hz_ext.same (u := U) (U := U.calling g mk a) rfl h4⟩
/-- behind a call -/
theorem hz_cont {p : Program} {l : Launch} {e : Env} {R : Room} {s : State} {m : MethodId} {args : Array Value} {below : List Frame} {meth : Method} {c : Code} {H : Heap} {locs : List Loc} {kc ks mc ms pc n' : Nat} {Q : State → Prop} {D : hz_D} {T' : hz_T} {M' : hz_M} {r : Option Value} {a0 : Array Value} {lsA : Array Slot} {stA rest : List Value}
    (hr : va_Run p l e R s m args below meth c H locs kc ks mc ms (F0 m pc lsA stA) rest (hz_Qc D T' n' M' r a0) (hz_A D)) (hS : va_S (hz_A D) s.heap H locs)
    (kk : ∀ (H1 : Heap) (locs1 : List Loc), hz_R D T' n' M' H1 → va_S (hz_A D) s.heap H1 locs1 → W p l e R s m args below meth c H1 locs1 (kc + mc) (ks + ms) Q (F0 m (pc + 3) lsA ((r.map (hz_tr D.2.2.1)).toList ++ rest))) : W p l e R s m args below meth c H locs kc ks Q (F0 m pc lsA stA) := by
  intro T0 hT X
  obtain ⟨v, st₀, t, T2, L, h0, X', hL, e1, e2, ⟨hv, hRt, hz, hk⟩, st⟩ := hr T0 hT X
  cases hv
  rw [h0] at hz hk
  obtain ⟨t2, a1, b1⟩ := kk T2.heap (locs ++ L) (by rw [e1]; exact hRt) ⟨Nat.le_trans hS.1 (by rw [e1]; exact hz), fun q h1 h2 => by rw [e1, hk q (Nat.lt_of_lt_of_le h1 hS.1) h2]; exact hS.2.1 q h1 h2, fun q hq => by
      rcases List.mem_append.mp hq with h | h
      · exact hS.2.2 q h
      · exact hL q h⟩ T2 rfl X'
  exact ⟨t2, st t2 a1, b1⟩
def hz_cap (X : hz_X) (a b : Nat) : Prop := match X with
  | (_, _, _, R, _) => a ≤ R.cells ∧ b ≤ R.slots
def hz_new (X : hz_X) (n n' : Nat) : Prop := match X with
  | (_, _, _, _, _, _, _, _, _, _, D, _) => ∀ q, n < q → q ≤ n' → D.2.2.1 q + 1 = D.2.2.2 + q
theorem hz_new0 (X : hz_X) (n : Nat) : hz_new X n n := fun q h1 h2 => absurd h2 (by omega)
theorem hz_cap0 (X : hz_X) : hz_cap X (0 + 0) (0 + 0) := ⟨Nat.zero_le _, Nat.zero_le _⟩
def hz_nmh (c : String) : Bool := !(c == "java/lang/invoke/MethodHandle") && !(c == "java/lang/invoke/VarHandle")
theorem hz_nmh_spec {c : String} (h : hz_nmh c = true) : c ≠ "java/lang/invoke/MethodHandle" ∧ c ≠ "java/lang/invoke/VarHandle" := by
  simp only [hz_nmh, Bool.and_eq_true, Bool.not_eq_true', beq_eq_false_iff_ne, ne_eq] at h
  exact h
/-- what the tables say of a method that is called: its code, its class's state, how many parameters -/
def hz_FY (y0 : hz_Y) (na : Nat) : Prop := Cond.code y0.1 y0.2.1 y0.2.2.1 y0.2.2.2.1 ∈ hz_tbl ∧ Cond.initialized y0.1.cls ∈ hz_tbl ∧ hz_nmh y0.1.cls = true ∧ (parseMethodDescriptor y0.1.desc).map (fun d => d.parameters.length) = some na ∧ y0.2.2.1 ≤ 19
def hz_FV (own : String) (ix : Nat) (y0 : hz_Y) : Prop := Cond.methodLink own ix y0.1 ∈ hz_tbl ∧ Cond.instanceMethod y0.1 ∈ hz_tbl ∧ Cond.selects y0.1.cls y0.1 y0.1 ∈ hz_tbl
def hz_FS (own : String) (ix : Nat) (y0 : hz_Y) : Prop := Cond.methodLink own ix y0.1 ∈ hz_tbl ∧ Cond.static y0.1 ∈ hz_tbl
def hz_FI (own : String) (ix : Nat) (y0 : hz_Y) : Prop := Cond.methodLink own ix y0.1 ∈ hz_tbl ∧ Cond.instanceMethod y0.1 ∈ hz_tbl ∧ y0.1.name = "<init>" ∧ y0.2.2.2.1 = none
def hz_FSN (own : String) (ix : Nat) (y0 : hz_Y) (host : String) : Prop := Cond.methodLinkNest own ix y0.1 host ∈ hz_nst ∧ Cond.static y0.1 ∈ hz_tbl
def hz_FIN (own : String) (ix : Nat) (y0 : hz_Y) (host : String) : Prop := Cond.methodLinkNest own ix y0.1 host ∈ hz_nst ∧ Cond.instanceMethod y0.1 ∈ hz_tbl ∧ y0.1.name = "<init>" ∧ y0.2.2.2.1 = none
def hz_FU (own : String) (ix : Nat) (C owner : String) (x : MethodName) (y0 : hz_Y) : Prop := Cond.methodLink own ix x ∈ hz_tbl ∧ Cond.sameMethod x.cls owner x.name x.desc ∈ hz_tbl ∧ Cond.instanceMethod ⟨owner, x.name, x.desc⟩ ∈ hz_tbl ∧ Cond.selects C x y0.1 ∈ hz_tbl ∧ Cond.instanceMethod y0.1 ∈ hz_tbl ∧ (∃ b0 m0 r0, Cond.code ⟨owner, x.name, x.desc⟩ b0 m0 r0 ∈ hz_tbl) ∧ hz_nmh owner = true ∧ x.desc = y0.1.desc
def hz_FSU (own : String) (ix : Nat) (y0 : hz_Y) : Prop := Cond.methodLink own ix y0.1 ∈ hz_tbl ∧ Cond.sameMethod y0.1.cls y0.1.cls y0.1.name y0.1.desc ∈ hz_tbl ∧ Cond.superclass own y0.1.cls ∈ hz_tbl ∧ Cond.instanceMethod y0.1 ∈ hz_tbl ∧ y0.1.name ≠ "<init>"
theorem hz_sum {ad : Nat → Nat} {st : List Value} (h : (st.map Value.category).sum ≤ 8) : ((st.map (hz_tr ad)).map fun v => v.category).sum ≤ 8 := by
  rw [List.map_map, show ((fun v : Value => v.category) ∘ hz_tr ad) = Value.category from funext fun v => hz_cat ad v]
  exact h
theorem hz_goodA {a b : List Cond} (ha : ∀ w ∈ a, w ∈ hz_tbl) (hb : GoodIn hz_tbl b) : GoodIn hz_tbl (a ++ b) := fun w h => (List.mem_append.mp h).elim (fun q => hz_good w (ha w q)) (hb w)
section CALLS
variable {X : hz_X} {y y0 : hz_Y} {T T' : hz_T} {n n' : Nat} {M M' : hz_M} {kc ks pc mc ms ix na : Nat} {ls : List (Option Value)} {st stk as : List Value} {r : Option Value}
theorem hz_room {R : Room} {d d0 mL : Nat} (h1 : d ≤ R.frames) (h2 : 38 * d ≤ R.locals) (h3 : d0 + 1 ≤ d) (h4 : mL ≤ 19) : (hz_rm d0 mc ms).frames + 1 ≤ R.frames ∧ 8 + (mL + 11) + (hz_rm d0 mc ms).locals ≤ R.locals := by
  show d0 + 1 ≤ _ ∧ 8 + (mL + 11) + 38 * d0 ≤ _
  omega
theorem hz_callV (C : hz_C X y) {a c N : Nat} {rr : vw_C} (E : hz_Ev y0 T n M (.ref a :: as) mc ms r T' n' M') (hn : hz_new X n n') (Y : hz_FY y0 na) (F : hz_FV y.1.cls ix y0) (hna : as.length = na) (d : decode y.2.1 pc = .ok (.invokevirtual ix, 3)) (hT : T a = (c, N)) (hc : vwCl[c]? = some rr) (hcl : rr.1 = y0.1.cls) (ha : a ≠ 0 ∧ a ≤ n) (hst : stk = as.reverse ++ .ref a :: st) (hlen : ls.length = y.2.2.1) (hsum : (st.map Value.category).sum ≤ 8) (hd : y0.2.2.2.2 + 1 ≤ y.2.2.2.2) (hcap : hz_cap X (kc + mc) (ks + ms)) (kk : hz_G X T' n' M' (kc + mc) (ks + ms) (pc + 3) ls (r.toList ++ st)) : hz_G X T n M kc ks pc ls stk := by
  obtain ⟨p, l, e, R, s, m, args, below, meth, cd, D, Q⟩ := X
  obtain ⟨hx, hb, hml, hown, hts, hK, hext, hfr, hlo, -⟩ := C
  obtain ⟨hy1, hy2, hy3, hy4, hy5⟩ := Y
  obtain ⟨hf1, hf2, hf3⟩ := F
  intro H locs hR hS lsA hl
  subst hst
  have hw := hz_W_obj D M ha.1 ha.2 hT (List.getElem?_eq_some_iff.mp hc).1
  have hg : GoodIn hz_tbl (wsV y.1.cls ix y0.1.cls y0.1 (hz_ws y0)) := by
    unfold wsV
    refine hz_goodA (fun w h => ?_) (hz_goodY hy1)
    simp only [List.mem_cons, List.not_mem_nil, or_false] at h
    rcases h with rfl | rfl | rfl | rfl <;> assumption
  have hrun := va_runV (As := as.map (hz_tr D.2.2.1)) (rest := st.map (hz_tr D.2.2.1)) (g := F0 m pc lsA ((as.reverse ++ .ref a :: st).map (hz_tr D.2.2.1))) (b := D.2.2.1 a) ⟨hx, hb, hml, hown, hts⟩ (E l D hn) (cwV na hts hg rfl rfl rfl ⟨rfl, (hz_nmh_spec hy3).1, (hz_nmh_spec hy3).2, hy4⟩ (hz_room hfr hlo hd hy5)) ⟨hz_blind D T n M _, by rw [← hcl]; exact va_recv hK.1 hR.1 hc hw, fun U hU hW => ⟨rfl, by rw [hU]; exact hR, hz_K.moved hW hK, by rw [hU]; exact hz_ext.moved hW (hext.kept hS.2.1)⟩⟩ rfl (by simpa using hna) (hl.1.trans hlen) (by simp [hz_tr]) (lv_room (hz_sum hsum)) d hcap (locs := locs) (H := H) (cells := kc) (slots := ks) (e := e) (below := below) (meth := meth)
  refine hz_cont hrun hS (fun H1 locs1 hR1 hS1 => ?_)
  have h9 := kk H1 locs1 hR1 hS1 lsA hl
  rw [List.map_append] at h9
  cases r <;> exact h9
theorem hz_callU (C : hz_C X y) {a c N : Nat} {rr : vw_C} (E : hz_Ev y0 T n M (.ref a :: as) mc ms r T' n' M') (hn : hz_new X n n') (Y : hz_FY y0 na) {owner : String} {x : MethodName} (F : hz_FU y.1.cls ix rr.1 owner x y0) (hna : as.length = na) (d : decode y.2.1 pc = .ok (.invokevirtual ix, 3)) (hT : T a = (c, N)) (hc : vwCl[c]? = some rr) (ha : a ≠ 0 ∧ a ≤ n) (hst : stk = as.reverse ++ .ref a :: st) (hlen : ls.length = y.2.2.1) (hsum : (st.map Value.category).sum ≤ 8) (hd : y0.2.2.2.2 + 1 ≤ y.2.2.2.2) (hcap : hz_cap X (kc + mc) (ks + ms)) (kk : hz_G X T' n' M' (kc + mc) (ks + ms) (pc + 3) ls (r.toList ++ st)) : hz_G X T n M kc ks pc ls stk := by
  obtain ⟨p, l, e, R, s, m, args, below, meth, cd, D, Q⟩ := X
  obtain ⟨hx, hb, hml, hown, hts, hK, hext, hfr, hlo, -⟩ := C
  obtain ⟨hy1, hy2, hy3, hy4, hy5⟩ := Y
  obtain ⟨hf1, hf2, hf3, hf4, hf5, ⟨b0, m0, r0, hf6⟩, hf7, hf8⟩ := F
  intro H locs hR hS lsA hl
  subst hst
  have hw := hz_W_obj D M ha.1 ha.2 hT (List.getElem?_eq_some_iff.mp hc).1
  have hg : GoodIn hz_tbl (va_wsO y.1.cls ix rr.1 owner x y0.1 (hz_ws y0)) := by
    unfold va_wsO
    refine hz_goodA (fun w h => ?_) (hz_goodY hy1)
    simp only [List.mem_cons, List.not_mem_nil, or_false] at h
    rcases h with rfl | rfl | rfl | rfl | rfl | rfl <;> assumption
  have hrun := va_runU (As := as.map (hz_tr D.2.2.1)) (rest := st.map (hz_tr D.2.2.1)) (g := F0 m pc lsA ((as.reverse ++ .ref a :: st).map (hz_tr D.2.2.1))) (b := D.2.2.1 a) ⟨hx, hb, hml, hown, hts⟩ (E l D hn) (va_cwO na hts hg rfl rfl rfl hf6 ⟨(hz_nmh_spec hf7).1, (hz_nmh_spec hf7).2, by rw [hf8]; exact hy4⟩ (hz_room hfr hlo hd hy5)) ⟨hz_blind D T n M _, va_recv hK.1 hR.1 hc hw, fun U hU hW => ⟨rfl, by rw [hU]; exact hR, hz_K.moved hW hK, by rw [hU]; exact hz_ext.moved hW (hext.kept hS.2.1)⟩⟩ rfl (by simpa using hna) (hl.1.trans hlen) (by simp [hz_tr]) (lv_room (hz_sum hsum)) d hcap (locs := locs) (H := H) (cells := kc) (slots := ks) (e := e) (below := below) (meth := meth)
  refine hz_cont hrun hS (fun H1 locs1 hR1 hS1 => ?_)
  have h9 := kk H1 locs1 hR1 hS1 lsA hl
  rw [List.map_append] at h9
  cases r <;> exact h9
theorem hz_callSU (C : hz_C X y) {a c N : Nat} {rr : vw_C} (E : hz_Ev y0 T n M (.ref a :: as) mc ms r T' n' M') (hn : hz_new X n n') (Y : hz_FY y0 na) (F : hz_FSU y.1.cls ix y0) (hna : as.length = na) (d : decode y.2.1 pc = .ok (.invokespecial ix, 3)) (hT : T a = (c, N)) (hc : vwCl[c]? = some rr) (ha : a ≠ 0 ∧ a ≤ n) (hst : stk = as.reverse ++ .ref a :: st) (hlen : ls.length = y.2.2.1) (hsum : (st.map Value.category).sum ≤ 8) (hd : y0.2.2.2.2 + 1 ≤ y.2.2.2.2) (hcap : hz_cap X (kc + mc) (ks + ms)) (kk : hz_G X T' n' M' (kc + mc) (ks + ms) (pc + 3) ls (r.toList ++ st)) : hz_G X T n M kc ks pc ls stk := by
  obtain ⟨p, l, e, R, s, m, args, below, meth, cd, D, Q⟩ := X
  obtain ⟨hx, hb, hml, hown, hts, hK, hext, hfr, hlo, -⟩ := C
  obtain ⟨hy1, hy2, hy3, hy4, hy5⟩ := Y
  obtain ⟨hf1, hf2, hf3, hf4, hf5⟩ := F
  intro H locs hR hS lsA hl
  subst hst
  have hw := hz_W_obj D M ha.1 ha.2 hT (List.getElem?_eq_some_iff.mp hc).1
  have hg : GoodIn hz_tbl (va_wsSU y.1.cls ix y0.1 (hz_ws y0)) := by
    unfold va_wsSU
    refine hz_goodA (fun w h => ?_) (hz_goodY hy1)
    simp only [List.mem_cons, List.not_mem_nil, or_false] at h
    rcases h with rfl | rfl | rfl | rfl | rfl <;> assumption
  have hrun := va_runSU (As := as.map (hz_tr D.2.2.1)) (rest := st.map (hz_tr D.2.2.1)) (g := F0 m pc lsA ((as.reverse ++ .ref a :: st).map (hz_tr D.2.2.1))) (b := D.2.2.1 a) (hK.1.1 c rr hc).2 ⟨hx, hb, hml, hown, hts⟩ (E l D hn) (va_cwSU na hts hg rfl rfl rfl ⟨hf5, hy4⟩ (hz_room hfr hlo hd hy5)) ⟨hz_blind D T n M _, va_recv hK.1 hR.1 hc hw, fun U hU hW => ⟨rfl, by rw [hU]; exact hR, hz_K.moved hW hK, by rw [hU]; exact hz_ext.moved hW (hext.kept hS.2.1)⟩⟩ rfl (by simpa using hna) (hl.1.trans hlen) (by simp [hz_tr]) (lv_room (hz_sum hsum)) d hcap (locs := locs) (H := H) (cells := kc) (slots := ks) (e := e) (below := below) (meth := meth)
  refine hz_cont hrun hS (fun H1 locs1 hR1 hS1 => ?_)
  have h9 := kk H1 locs1 hR1 hS1 lsA hl
  rw [List.map_append] at h9
  cases r <;> exact h9
theorem hz_callS (C : hz_C X y) (E : hz_Ev y0 T n M as mc ms r T' n' M') (hn : hz_new X n n') (Y : hz_FY y0 na) (F : hz_FS y.1.cls ix y0) (hna : as.length = na) (d : decode y.2.1 pc = .ok (.invokestatic ix, 3)) (hst : stk = as.reverse ++ st) (hlen : ls.length = y.2.2.1) (hsum : (st.map Value.category).sum ≤ 8) (hd : y0.2.2.2.2 + 1 ≤ y.2.2.2.2) (hcap : hz_cap X (kc + mc) (ks + ms)) (kk : hz_G X T' n' M' (kc + mc) (ks + ms) (pc + 3) ls (r.toList ++ st)) : hz_G X T n M kc ks pc ls stk := by
  obtain ⟨p, l, e, R, s, m, args, below, meth, cd, D, Q⟩ := X
  obtain ⟨hx, hb, hml, hown, hts, hK, hext, hfr, hlo, -⟩ := C
  obtain ⟨hy1, hy2, hy3, hy4, hy5⟩ := Y
  obtain ⟨hf1, hf2⟩ := F
  intro H locs hR hS lsA hl
  subst hst
  have hg : GoodIn hz_tbl (va_wsS y.1.cls ix y0.1 (hz_ws y0)) := by
    unfold va_wsS
    refine hz_goodA (fun w h => ?_) (hz_goodY hy1)
    simp only [List.mem_cons, List.not_mem_nil, or_false] at h
    rcases h with rfl | rfl | rfl <;> assumption
  have hrun := va_runS (As := as.map (hz_tr D.2.2.1)) (rest := st.map (hz_tr D.2.2.1)) (g := F0 m pc lsA ((as.reverse ++ st).map (hz_tr D.2.2.1))) ⟨hx, hb, hml, hown, hts⟩ (E l D hn) (va_cwS na hts hg rfl rfl rfl ⟨(hz_nmh_spec hy3).1, (hz_nmh_spec hy3).2, hy4⟩ (hz_room hfr hlo hd hy5)) ⟨hz_blind D T n M _, fun U hU hW => ⟨rfl, by rw [hU]; exact hR, hz_K.moved hW hK, by rw [hU]; exact hz_ext.moved hW (hext.kept hS.2.1)⟩⟩ rfl (by simpa using hna) (hl.1.trans hlen) (by simp [hz_tr]) (lv_room (hz_sum hsum)) d hcap (locs := locs) (H := H) (cells := kc) (slots := ks) (e := e) (below := below) (meth := meth)
  refine hz_cont hrun hS (fun H1 locs1 hR1 hS1 => ?_)
  have h9 := kk H1 locs1 hR1 hS1 lsA hl
  rw [List.map_append] at h9
  cases r <;> exact h9
theorem hz_callSN (C : hz_C X y) (E : hz_Ev y0 T n M as mc ms r T' n' M') (hn : hz_new X n n') (Y : hz_FY y0 na) {host : String} (F : hz_FSN y.1.cls ix y0 host) (hna : as.length = na) (d : decode y.2.1 pc = .ok (.invokestatic ix, 3)) (hst : stk = as.reverse ++ st) (hlen : ls.length = y.2.2.1) (hsum : (st.map Value.category).sum ≤ 8) (hd : y0.2.2.2.2 + 1 ≤ y.2.2.2.2) (hcap : hz_cap X (kc + mc) (ks + ms)) (kk : hz_G X T' n' M' (kc + mc) (ks + ms) (pc + 3) ls (r.toList ++ st)) : hz_G X T n M kc ks pc ls stk := by
  obtain ⟨p, l, e, R, s, m, args, below, meth, cd, D, Q⟩ := X
  obtain ⟨hx, hb, hml, hown, hts, hK, hext, hfr, hlo, -⟩ := C
  obtain ⟨hy1, hy2, hy3, hy4, hy5⟩ := Y
  obtain ⟨hf1, hf2⟩ := F
  intro H locs hR hS lsA hl
  subst hst
  have hrun := va_runSN (As := as.map (hz_tr D.2.2.1)) (rest := st.map (hz_tr D.2.2.1)) (g := F0 m pc lsA ((as.reverse ++ st).map (hz_tr D.2.2.1))) ⟨hx, hb, hml, hown, hts⟩ (E l D hn) ⟨va_cnB (host := host) na hts (hz_goodY hy1) rfl rfl rfl (hK.2 _ hf1) (hts _ hy2) ⟨(hz_nmh_spec hy3).1, (hz_nmh_spec hy3).2, hy4⟩ (hz_room hfr hlo hd hy5), hts _ hf2, trivial⟩ ⟨hz_blind D T n M _, fun U hU hW => ⟨rfl, by rw [hU]; exact hR, hz_K.moved hW hK, by rw [hU]; exact hz_ext.moved hW (hext.kept hS.2.1)⟩⟩ rfl (by simpa using hna) (hl.1.trans hlen) (by simp [hz_tr]) (lv_room (hz_sum hsum)) d hcap (locs := locs) (H := H) (cells := kc) (slots := ks) (e := e) (below := below) (meth := meth)
  refine hz_cont hrun hS (fun H1 locs1 hR1 hS1 => ?_)
  have h9 := kk H1 locs1 hR1 hS1 lsA hl
  rw [List.map_append] at h9
  cases r <;> exact h9
theorem hz_callI (C : hz_C X y) {a : Nat} (E : hz_Ev y0 T n M (.ref a :: as) mc ms r T' n' M') (hn : hz_new X n n') (Y : hz_FY y0 na) (F : hz_FI y.1.cls ix y0) (hna : as.length = na) (d : decode y.2.1 pc = .ok (.invokespecial ix, 3)) (hst : stk = as.reverse ++ .ref a :: st) (hlen : ls.length = y.2.2.1) (hsum : (st.map Value.category).sum ≤ 8) (hd : y0.2.2.2.2 + 1 ≤ y.2.2.2.2) (hcap : hz_cap X (kc + mc) (ks + ms)) (kk : hz_G X T' n' M' (kc + mc) (ks + ms) (pc + 3) ls (r.toList ++ st)) : hz_G X T n M kc ks pc ls stk := by
  obtain ⟨p, l, e, R, s, m, args, below, meth, cd, D, Q⟩ := X
  obtain ⟨hx, hb, hml, hown, hts, hK, hext, hfr, hlo, -⟩ := C
  obtain ⟨hy1, hy2, hy3, hy4, hy5⟩ := Y
  obtain ⟨hf1, hf2, hf3, hf4⟩ := F
  intro H locs hR hS lsA hl
  subst hst
  have hrun := va_runI (As := as.map (hz_tr D.2.2.1)) (rest := st.map (hz_tr D.2.2.1)) (g := F0 m pc lsA ((as.reverse ++ .ref a :: st).map (hz_tr D.2.2.1))) (b := D.2.2.1 a) ⟨hx, hb, hml, hown, hts⟩ (E l D hn) (cwI na hts (hz_goodY hy1) (by unfold hz_ws; rw [hf4]) rfl rfl (hts _ hy2) (hts _ hf1) (hts _ hf2) hf3 ⟨(hz_nmh_spec hy3).1, (hz_nmh_spec hy3).2, hy4⟩ (hz_room hfr hlo hd hy5)) ⟨hz_blind D T n M _, fun U hU hW => ⟨rfl, by rw [hU]; exact hR, hz_K.moved hW hK, by rw [hU]; exact hz_ext.moved hW (hext.kept hS.2.1)⟩⟩ rfl (by simpa using hna) (hl.1.trans hlen) (by simp [hz_tr]) (lv_room (hz_sum hsum)) d hcap (locs := locs) (H := H) (cells := kc) (slots := ks) (e := e) (below := below) (meth := meth)
  refine hz_cont hrun hS (fun H1 locs1 hR1 hS1 => ?_)
  have h9 := kk H1 locs1 hR1 hS1 lsA hl
  rw [List.map_append] at h9
  cases r <;> exact h9
theorem hz_callIN (C : hz_C X y) {a : Nat} (E : hz_Ev y0 T n M (.ref a :: as) mc ms r T' n' M') (hn : hz_new X n n') (Y : hz_FY y0 na) {host : String} (F : hz_FIN y.1.cls ix y0 host) (hna : as.length = na) (d : decode y.2.1 pc = .ok (.invokespecial ix, 3)) (hst : stk = as.reverse ++ .ref a :: st) (hlen : ls.length = y.2.2.1) (hsum : (st.map Value.category).sum ≤ 8) (hd : y0.2.2.2.2 + 1 ≤ y.2.2.2.2) (hcap : hz_cap X (kc + mc) (ks + ms)) (kk : hz_G X T' n' M' (kc + mc) (ks + ms) (pc + 3) ls (r.toList ++ st)) : hz_G X T n M kc ks pc ls stk := by
  obtain ⟨p, l, e, R, s, m, args, below, meth, cd, D, Q⟩ := X
  obtain ⟨hx, hb, hml, hown, hts, hK, hext, hfr, hlo, -⟩ := C
  obtain ⟨hy1, hy2, hy3, hy4, hy5⟩ := Y
  obtain ⟨hf1, hf2, hf3, hf4⟩ := F
  intro H locs hR hS lsA hl
  subst hst
  have hrun := va_runIN (As := as.map (hz_tr D.2.2.1)) (rest := st.map (hz_tr D.2.2.1)) (g := F0 m pc lsA ((as.reverse ++ .ref a :: st).map (hz_tr D.2.2.1))) (b := D.2.2.1 a) ⟨hx, hb, hml, hown, hts⟩ (E l D hn) ⟨va_cnB (host := host) na hts (hz_goodY hy1) (by unfold hz_ws; rw [hf4]) rfl rfl (hK.2 _ hf1) (hts _ hy2) ⟨(hz_nmh_spec hy3).1, (hz_nmh_spec hy3).2, hy4⟩ (hz_room hfr hlo hd hy5), hf3, hts _ hf2⟩ ⟨hz_blind D T n M _, fun U hU hW => ⟨rfl, by rw [hU]; exact hR, hz_K.moved hW hK, by rw [hU]; exact hz_ext.moved hW (hext.kept hS.2.1)⟩⟩ rfl (by simpa using hna) (hl.1.trans hlen) (by simp [hz_tr]) (lv_room (hz_sum hsum)) d hcap (locs := locs) (H := H) (cells := kc) (slots := ks) (e := e) (below := below) (meth := meth)
  refine hz_cont hrun hS (fun H1 locs1 hR1 hS1 => ?_)
  have h9 := kk H1 locs1 hR1 hS1 lsA hl
  rw [List.map_append] at h9
  cases r <;> exact h9
theorem hz_objInit (C : hz_C X y) {a : Nat} (F : Cond.methodLink y.1.cls ix objectInit ∈ hz_tbl ∧ Cond.instanceMethod objectInit ∈ hz_tbl ∧ Cond.code objectInit ⟨#[0xb1]⟩ 1 none ∈ hz_tbl) (d : decode y.2.1 pc = .ok (.invokespecial ix, 3)) (hlen : ls.length = y.2.2.1) (hsum : (st.map Value.category).sum ≤ 8) (hd : 1 ≤ y.2.2.2.2) (kk : hz_G X T n M kc ks (pc + 3) ls st) : hz_G X T n M kc ks pc ls (.ref a :: st) := by
  obtain ⟨p, l, e, R, s, m, args, below, meth, cd, D, Q⟩ := X
  obtain ⟨hx, hb, hml, hown, hts, hK, hext, hfr, hlo, -⟩ := C
  intro H locs hR hS lsA hl
  exact W.objInit hx hb hown (hts _ F.1) (hts _ F.2.1) (hts _ F.2.2) rfl (hl.1.trans (hlen.trans hml.symm)) rfl d (by omega) (by have h1 := hz_sum (ad := D.2.2.1) hsum; have h2 : (F0 m pc lsA ((Value.ref a :: st).map (hz_tr D.2.2.1))).monitorRoom = 0 := rfl; rw [h2]; omega) (kk H locs hR hS lsA hl)
end CALLS
section RETS
variable {X : hz_X} {y : hz_Y} {T : hz_T} {n : Nat} {M M0 : hz_M} {kc ks pc : Nat} {ls : List (Option Value)}
theorem hz_iret (C : hz_C X y) {v v0 : Int32} (Z : hz_Z X kc ks (some (.int v0)) T n M0) (hrt : y.2.2.2.1 = some .int) (d : decode y.2.1 pc = .ok (.ireturn, 1)) (hv : v = v0) (hM : M = M0) : hz_G X T n M kc ks pc ls [.int v] := by
  obtain ⟨p, l, e, R, s, m, args, below, meth, cd, D, Q⟩ := X
  obtain ⟨hx, hb, hml, hown, hts, hK, hext, hfr, hlo, hret, hlocks, -⟩ := C
  obtain ⟨rfl, -, -⟩ := Z
  subst hv
  subst hM
  intro H locs hR hS lsA hl
  exact W.iret hx hb (hret.trans hrt) (fun t ht hW => ⟨rfl, by rw [ht]; exact hR, hS.F ht⟩) hS.2.2 d hlocks
theorem hz_zret (C : hz_C X y) {v v0 : Int32} (Z : hz_Z X kc ks (some (.int v0)) T n M0) {ty : FieldType} (hrt : y.2.2.2.1 = some ty) (hn : narrow ty (.int v) = .int v) (d : decode y.2.1 pc = .ok (.ireturn, 1)) (hv : v = v0) (hM : M = M0) : hz_G X T n M kc ks pc ls [.int v] := by
  obtain ⟨p, l, e, R, s, m, args, below, meth, cd, D, Q⟩ := X
  obtain ⟨hx, hb, hml, hown, hts, hK, hext, hfr, hlo, hret, hlocks, -⟩ := C
  obtain ⟨rfl, -, -⟩ := Z
  subst hv
  subst hM
  intro H locs hR hS lsA hl
  exact W.zret hx hb (hret.trans hrt) hn (fun t ht hW => ⟨rfl, by rw [ht]; exact hR, hS.F ht⟩) hS.2.2 d hlocks
theorem hz_lret (C : hz_C X y) {v v0 : Int64} (Z : hz_Z X kc ks (some (.long v0)) T n M0) (hrt : y.2.2.2.1 = some .long) (d : decode y.2.1 pc = .ok (.lreturn, 1)) (hv : v = v0) (hM : M = M0) : hz_G X T n M kc ks pc ls [.long v] := by
  obtain ⟨p, l, e, R, s, m, args, below, meth, cd, D, Q⟩ := X
  obtain ⟨hx, hb, hml, hown, hts, hK, hext, hfr, hlo, hret, hlocks, -⟩ := C
  obtain ⟨rfl, -, -⟩ := Z
  subst hv
  subst hM
  intro H locs hR hS lsA hl
  exact W.lret hx hb (hret.trans hrt) (fun t ht hW => ⟨rfl, by rw [ht]; exact hR, hS.F ht⟩) hS.2.2 d hlocks
theorem hz_aret (C : hz_C X y) {v v0 : Nat} (Z : hz_Z X kc ks (some (.ref v0)) T n M0) {ty : FieldType} (hrt : y.2.2.2.1 = some ty) (ho : (∃ c, ty = .object c) ∨ ∃ t, ty = .array t) (d : decode y.2.1 pc = .ok (.areturn, 1)) (hv : v = v0) (hM : M = M0) : hz_G X T n M kc ks pc ls [.ref v] := by
  obtain ⟨p, l, e, R, s, m, args, below, meth, cd, D, Q⟩ := X
  obtain ⟨hx, hb, hml, hown, hts, hK, hext, hfr, hlo, hret, hlocks, -⟩ := C
  obtain ⟨rfl, -, -⟩ := Z
  subst hv
  subst hM
  intro H locs hR hS lsA hl
  exact W.aret hx hb (hret.trans hrt) ho (Or.inr ⟨_, rfl⟩) (fun t ht hW => ⟨rfl, by rw [ht]; exact hR, hS.F ht⟩) hS.2.2 d hlocks
theorem hz_vret (C : hz_C X y) (Z : hz_Z X kc ks none T n M0) (hrt : y.2.2.2.1 = none) (d : decode y.2.1 pc = .ok (.return_, 1)) (hM : M = M0) : hz_G X T n M kc ks pc ls [] := by
  obtain ⟨p, l, e, R, s, m, args, below, meth, cd, D, Q⟩ := X
  obtain ⟨hx, hb, hml, hown, hts, hK, hext, hfr, hlo, hret, hlocks, -⟩ := C
  obtain ⟨rfl, -, -⟩ := Z
  subst hM
  intro H locs hR hS lsA hl
  exact W.vret hx hb (hret.trans hrt) (fun t ht hW => ⟨rfl, by rw [ht]; exact hR, hS.F ht⟩) hS.2.2 d hlocks
theorem hz_widen {st : List Value} {a b : Nat} (h1 : kc ≤ a) (h2 : ks ≤ b) (kk : hz_G X T n M a b pc ls st) : hz_G X T n M kc ks pc ls st := by
  obtain ⟨p, l, e, R, s, m, args, below, meth, cd, D, Q⟩ := X
  intro H locs hR hS lsA hl
  exact W.widen h1 h2 (kk H locs hR hS lsA hl)
end RETS
/-- the locals at a method's start -/
def hz_sl (as : List Value) : List (Option Value) := as.flatMap fun v => if v.category = 2 then [some v, none] else [some v]
theorem hz_sl_args (ad : Nat → Nat) : ∀ (as : List Value) (i j : Nat) (v : Value), (hz_sl as)[j]? = some (some v) → (i + j, hz_tr ad v) ∈ lv_args i (as.map (hz_tr ad)) := by
  intro as
  induction as with
  | nil => intro i j v h; simp [hz_sl] at h
  | cons w as ih =>
    intro i j v h
    have e : hz_sl (w :: as) = (if w.category = 2 then [some w, none] else [some w]) ++ hz_sl as := rfl
    rw [e] at h
    show (i + j, hz_tr ad v) ∈ (i, hz_tr ad w) :: lv_args (if (hz_tr ad w).category = 2 then i + 2 else i + 1) (as.map (hz_tr ad))
    rw [hz_cat]
    by_cases hc : w.category = 2
    · rw [if_pos hc] at h ⊢
      match j, h with
      | 0, h => simp at h; subst h; exact List.mem_cons_self
      | 1, h => simp at h
      | j + 2, h =>
        have h2 : (hz_sl as)[j]? = some (some v) := by simpa using h
        have h3 := ih (i + 2) j v h2
        rw [show i + (j + 2) = i + 2 + j by omega]
        exact List.mem_cons_of_mem _ h3
    · rw [if_neg hc] at h ⊢
      match j, h with
      | 0, h => simp at h; subst h; exact List.mem_cons_self
      | j + 1, h =>
        have h2 : (hz_sl as)[j]? = some (some v) := by simpa using h
        have h3 := ih (i + 1) j v h2
        rw [show i + (j + 1) = i + 1 + j by omega]
        exact List.mem_cons_of_mem _ h3
theorem hz_sl_len (ad : Nat → Nat) (as : List Value) : (lg_sl (as.map (hz_tr ad))).length = (hz_sl as).length := by
  induction as with
  | nil => rfl
  | cons w as ih =>
    have e1 : hz_sl (w :: as) = (if w.category = 2 then [some w, none] else [some w]) ++ hz_sl as := rfl
    have e2 : lg_sl ((w :: as).map (hz_tr ad)) = (if (hz_tr ad w).category = 2 then [.val (hz_tr ad w), .second] else [.val (hz_tr ad w)]) ++ lg_sl (as.map (hz_tr ad)) := rfl
    rw [e1, e2, hz_cat, List.length_append, List.length_append, ih]
    by_cases hc : w.category = 2
    · rw [if_pos hc, if_pos hc]; rfl
    · rw [if_neg hc, if_neg hc]; rfl
theorem hz_entry (ad : Nat → Nat) (as : List Value) {nL : Nat} {ls : List (Option Value)} (hls : hz_sl as ++ List.replicate (nL - (hz_sl as).length) none = ls) (h : (hz_sl as).length ≤ nL) : hz_L ad ls ((lg_sl (as.map (hz_tr ad)) ++ List.replicate (nL - (lg_sl (as.map (hz_tr ad))).length) Slot.unset).toArray) := by
  have hl := lv_entry (as.map (hz_tr ad)) (n := nL) (by rw [hz_sl_len]; exact h)
  subst hls
  refine ⟨by rw [hl.1]; simp; omega, hl.2.1, fun i v hv => ?_⟩
  by_cases hi : i < (hz_sl as).length
  · rw [List.getElem?_append_left hi] at hv
    have h1 := hz_sl_args ad as 0 i v hv
    rw [Nat.zero_add] at h1
    exact hl.2.2 _ h1
  · rw [List.getElem?_append_right (by omega), List.getElem?_replicate] at hv
    split at hv <;> cases hv
theorem hz_Ev.intro {y : hz_Y} {T T' : hz_T} {n n' : Nat} {M M' : hz_M} {as : List Value} {mc ms : Nat} {r : Option Value} {ls : List (Option Value)} (hpl : plainName y.1.cls = true) (hls : hz_sl as ++ List.replicate (y.2.2.1 - (hz_sl as).length) none = ls) (hlen : (hz_sl as).length ≤ y.2.2.1)
    (body : ∀ X : hz_X, hz_C X y → hz_Z X mc ms r T' n' M' → hz_new X n n' → hz_G X T n M 0 0 0 ls []) : hz_Ev y T n M as mc ms r T' n' M' := by
  intro l D hok
  refine Met.ofW (cc := y.2.1) (maxL := y.2.2.1) (ret := y.2.2.2.1) hpl rfl ?_
  intro p e s m args below meth c s₁ B hml hv
  obtain ⟨rfl, hR, hK, hext⟩ := hv
  have hts := atoms_spec (ws := hz_ws y) B.pre
  have hb := body (p, l, e, (headSpec (hz_ws y) (hz_rm y.2.2.2.2 mc ms)).room, s, m, (as.map (hz_tr D.2.2.1)).toArray, below, meth, c, D, MQ below (hz_Qc D T' n' M' r) (as.map (hz_tr D.2.2.1)).toArray s mc ms (hz_A D))
    ⟨B.exec, B.bytes, hml, findClass_of_methodNamed B.named, fun w hw => hts w (List.mem_cons_of_mem _ hw), hK, hext, Nat.le_refl _, Nat.le_refl _, B.returns, B.notSynchronized, fun h => ((name_of_methodNamed B.named B.method).1).trans h, by rw [hR.2.2]; exact Nat.le_add_right _ _⟩ ⟨rfl, rfl, rfl⟩ hok
  rw [lg_entry_eq]
  exact hb s.heap [] hR va_S.rf _ (hz_entry D.2.2.1 as hls hlen)
theorem hz_mp {w : Cond} (i : Nat) (h : (lw_tbl[i]? == some w && goodWord w) = true) : w ∈ hz_tbl := by
  simp only [Bool.and_eq_true, beq_iff_eq] at h
  exact hz_mem (List.mem_of_getElem? h.1) h.2
theorem hz_mn {w : Cond} (i : Nat) (h : (lw_tbl[i]? == some w && hz_isN w) = true) : w ∈ hz_nst := by
  simp only [Bool.and_eq_true, beq_iff_eq] at h
  exact List.mem_filter.mpr ⟨List.mem_of_getElem? h.1, h.2⟩

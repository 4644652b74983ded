/-! making cells -/
/-- nothing is written yet at this cell -/
def hz_bl (M : hz_M) (a : Nat) : Prop := (∀ k, M.1 a k = 0) ∧ (∀ k, M.2.1 a k = 0) ∧ ∀ k, M.2.2 a k = 0
def hz_nof : FieldType → Bool
  | .float => false
  | .double => false
  | _ => true
theorem hz_fv_bl {ad : Nat → Nat} {M : hz_M} {ty : FieldType} {a k : Nat} (h : hz_nof ty = true) (hb : hz_bl M a) : hz_fv ad M ty a k = defaultValue ty := by
  obtain ⟨b1, b2, b3⟩ := hb
  cases ty <;> first | (exact absurd h (by decide)) | (simp [hz_fv, b1, b2, b3, hz_rf, hz_op, va_rf, defaultValue])
theorem hz_R.grow {D : hz_D} {T : hz_T} {n : Nat} {M : hz_M} {H H1 : Heap} (hR : hz_R D T n M H) (hn : D.2.2.1 (n + 1) + 1 = D.2.2.2 + (n + 1)) (hz : H1.size = H.size + 1) (ho : ∀ q : Nat, q < H.size → H1[q]? = H[q]?) (hc : va_at D.1 vwCl (H.size, hz_E D T M (n + 1)) H1) : hz_R D T (n + 1) M H1 := by
  have e : D.2.2.1 (n + 1) = H.size := by have := hR.2.2; omega
  have eW : hz_W D T (n + 1) M = hz_W D T n M ++ [(D.2.2.1 (n + 1), hz_E D T M (n + 1))] := by
    unfold hz_W
    rw [List.range_succ, List.map_append]
    rfl
  refine ⟨?_, ?_, by rw [hz, hR.2.2]; omega⟩
  · rw [eW]
    refine (hR.1.kept (fun k x hx => ho x.1 ((hR.1 k x hx).lt))).app (fun k x hx => ?_)
    have hk : k < 1 := (List.getElem?_eq_some_iff.mp hx).1
    rw [show k = 0 by omega] at hx
    cases hx
    rw [e]
    exact hc
  · rw [eW]
    exact hR.2.1.push hR.1 e (show D.2.2.2 ≤ D.2.2.1 (n + 1) by omega)
theorem hz_S_grow {A : Nat → Prop} {H0 H H1 : Heap} {locs : List Loc} (hS : va_S A H0 H locs) (hz : H1.size = H.size + 1) (ho : ∀ q : Nat, q < H.size → H1[q]? = H[q]?) : va_S A H0 H1 locs :=
  ⟨Nat.le_trans hS.1 (by omega), fun x h1 h2 => (ho x (Nat.lt_of_lt_of_le h1 hS.1)).trans (hS.2.1 x h1 h2), hS.2.2⟩
theorem hz_capZ {X : hz_X} {mc ms : Nat} {r : Option Value} {T : hz_T} {n : Nat} {M : hz_M} (Z : hz_Z X mc ms r T n M) {a b : Nat} (h1 : a ≤ mc) (h2 : b ≤ ms) : hz_cap X a b := by
  obtain ⟨p, l, e, R, s, m, args, below, meth, cd, D, Q⟩ := X
  obtain ⟨-, e1, e2⟩ := Z
  exact ⟨by rw [e1]; exact h1, by rw [e2]; exact h2⟩
theorem hz_new.sub {X : hz_X} {n n' a b : Nat} (h : hz_new X n n') (h1 : n ≤ a) (h2 : b ≤ n') : hz_new X a b := by
  obtain ⟨p, l, e, R, s, m, args, below, meth, cd, D, Q⟩ := X
  exact fun q h3 h4 => h q (by omega) (by omega)
/-- what the tables say of a class that is made -/
def hz_FN (own : String) (ix c : Nat) (rr : vw_C) : Prop := vwCl[c]? = some rr ∧ Cond.classLink own ix rr.1 ∈ hz_tbl ∧ Cond.instantiable rr.1 rr.2.2 ∈ hz_tbl ∧ Cond.initialized rr.1 ∈ hz_tbl ∧ (∀ w ∈ u_ws rr.1 rr.2.1 rr.2.2, w ∈ hz_tbl) ∧ (∀ k, k < rr.2.2 → parseFieldDescriptor (rr.2.1 k).2.2.1 = some (hz_ty c k)) ∧ (∀ k, k < rr.2.2 → hz_nof (hz_ty c k) = true) ∧ c < 12 ∧ rr.2.2 = hz_nf c
theorem hz_mws {C : String} {TF : u_T} {N : Nat} (is : List Nat) (h : (List.range N).all (fun k => lw_tbl[is.getD k 0]? == some (u_lay C TF k) && goodWord (u_lay C TF k)) = true) : ∀ w ∈ u_ws C TF N, w ∈ hz_tbl := by
  intro w hw
  obtain ⟨k, hk, rfl⟩ := List.mem_map.mp hw
  exact hz_mp _ (List.all_eq_true.mp h k hk)
section MAKE
variable {X : hz_X} {y : hz_Y} {T : hz_T} {n n' : Nat} {M : hz_M} {kc ks kc' ks' pc ix : Nat} {ls : List (Option Value)} {st : List Value}
theorem hz_newO (C : hz_C X y) {n1 c : Nat} {rr : vw_C} (hn1 : n + 1 = n1) (F : hz_FN y.1.cls ix c rr) (d : decode y.2.1 pc = .ok (.new ix, 3)) (hT : T n1 = (c, rr.2.2)) (hbl : hz_bl M n1) (hn : hz_new X n n1) (hk1 : kc + 1 = kc') (hk2 : ks + rr.2.2 = ks') (hcap : hz_cap X kc' ks') (kk : hz_G X T n1 M kc' ks' (pc + 3) ls (.ref n1 :: st)) : hz_G X T n M kc ks pc ls st := by
  subst hn1
  obtain ⟨p, l, e, R, s, m, args, below, meth, cd, D, Q⟩ := X
  obtain ⟨hx, hb, hml, hown, hts, hK, hext, -⟩ := C
  obtain ⟨f1, f2, f3, f4, f5, f6, f7, f8, f9⟩ := F
  subst hk1
  subst hk2
  intro H locs hR hS lsA hl
  have hKn := hK.1.1 c rr f1
  have hn2 := hn (n + 1) (by omega) (by omega)
  have hE : D.2.2.1 (n + 1) = H.size := by have h9 := hR.2.2; omega
  refine W.newcK hx hb hown (hts _ f2) (hts _ f3) (hts _ f4) rfl d hcap.1 hcap.2 hKn.2.1 rfl fun H1 kC hkC e1 z1 o1 => ?_
  have hR1 : hz_R D T (n + 1) M H1 := by
    refine hR.grow hn2 z1 o1 ?_
    have hEE : hz_E D T M (n + 1) = .inr (c, hz_fs D.2.2.1 M c (n + 1)) := by
      unfold hz_E
      rw [hT]
      exact if_pos f8
    rw [hEE]
    refine ⟨rr, f1, (u_born (hz_ty c) hts f5 hKn hkC e1 f6).to (fun j hj => ?_)⟩
    unfold vp_V
    rw [List.getD_eq_getElem?_getD, hz_fs_get _ _ _ _ (by rw [← f9]; exact hj)]
    exact (hz_fv_bl (f7 j hj) hbl).symm
  have h9 := kk H1 locs hR1 (hz_S_grow hS z1 o1) lsA hl
  show W p l e R s m args below meth cd H1 locs (kc + 1) (ks + rr.2.2) Q (F0 m (pc + 3) lsA (.ref H.size :: st.map (hz_tr D.2.2.1)))
  rw [← hE]
  exact h9
theorem hz_newA (C : hz_C X y) {at0 : ArrayType} {ty : FieldType} {n1 c N : Nat} {v : Int32} (hn1 : n + 1 = n1) (d : decode y.2.1 pc = .ok (.newarray at0, 2)) (hty : newarray.typeOf at0 = ty) (harr : Cond.arrayClass ty ∈ hz_tbl) (hk : ∀ D : hz_D, (hz_tys D)[c - 12]? = some (D.2.1 c, ty)) (hra : ∀ (U : State) (cA : ClassId), va_RA U cA ty → U.vm.findClass ("[" ++ ty.toString) = some cA) (hd : defaultValue ty = .int 0) (hc : 12 ≤ c ∧ c < 15) (hT : T n1 = (c, N)) (hv : v = nI N) (hN : N < 2 ^ 31) (hby : N * componentBytes ty ≤ 536870912) (hbl : hz_bl M n1) (hn : hz_new X n n1) (hk1 : kc + 1 = kc') (hk2 : ks + N = ks') (hcap : hz_cap X kc' ks') (kk : hz_G X T n1 M kc' ks' (pc + 2) ls (.ref n1 :: st)) : hz_G X T n M kc ks pc ls (.int v :: st) := by
  subst hn1
  obtain ⟨p, l, e, R, s, m, args, below, meth, cd, D, Q⟩ := X
  obtain ⟨hx, hb, hml, hown, hts, hK, hext, -⟩ := C
  subst hty
  subst hk1
  subst hk2
  intro H locs hR hS lsA hl
  have hn2 := hn (n + 1) (by omega) (by omega)
  have hE : D.2.2.1 (n + 1) = H.size := by have h9 := hR.2.2; omega
  have hcl : v.toNatClampNeg = N := by rw [hv, nI_clamp (by omega)]
  have h0 : ¬ v < 0 := by rw [hv]; exact nI_pos hN
  refine va_newaK hx hb (hts _ harr) rfl d rfl h0 hcl hby hcap.1 hcap.2 rfl fun H1 cA e1 z1 o1 hAr hNm => ?_
  have hcA : cA = D.2.1 c := Option.some.inj (hNm.symm.trans (hra s _ (hK.1.2 _ _ (hk D)).2))
  have hR1 : hz_R D T (n + 1) M H1 := by
    refine hR.grow hn2 z1 o1 ?_
    have hEE : hz_E D T M (n + 1) = .inl (D.2.1 c, N, .inl (M.1 (n + 1))) := by
      unfold hz_E
      rw [hT]
      rw [if_neg (show ¬ (c, N).1 < 12 from fun z => by have : c < 12 := z; omega), if_pos (show (c, N).1 < 15 from hc.2)]
    rw [hEE]
    show H1[H.size]? = some (vp_cell (D.2.1 c) (N, .inl (M.1 (n + 1))))
    rw [e1, hcA, vp_cell_i]
    congr 2
    funext j
    rw [hd, hbl.1 j]
  have h9 := kk H1 locs hR1 (hz_S_grow hS z1 o1) lsA hl
  show W p l e R s m args below meth cd H1 locs (kc + 1) (ks + N) Q (F0 m (pc + 2) lsA (.ref H.size :: st.map (hz_tr D.2.2.1)))
  rw [← hE]
  exact h9
theorem hz_newQ (C : hz_C X y) {E : String} {n1 c N : Nat} {v : Int32} (hn1 : n + 1 = n1) (d : decode y.2.1 pc = .ok (.anewarray ix, 3)) (hlk : Cond.classLink y.1.cls ix E ∈ hz_tbl) (hov : Cond.arrayOver (.object E) ∈ hz_nst) (hk : ∀ D : hz_D, (hz_tys D)[c - 12]? = some (D.2.1 c, .object E)) (hc : 15 ≤ c) (hT : T n1 = (c, N)) (hv : v = nI N) (hN : N < 2 ^ 20) (hbl : hz_bl M n1) (hn : hz_new X n n1) (hk1 : kc + 1 = kc') (hk2 : ks + N = ks') (hcap : hz_cap X kc' ks') (kk : hz_G X T n1 M kc' ks' (pc + 3) ls (.ref n1 :: st)) : hz_G X T n M kc ks pc ls (.int v :: st) := by
  subst hn1
  obtain ⟨p, l, e, R, s, m, args, below, meth, cd, D, Q⟩ := X
  obtain ⟨hx, hb, hml, hown, hts, hK, hext, -⟩ := C
  subst hk1
  subst hk2
  intro H locs hR hS lsA hl
  have hn2 := hn (n + 1) (by omega) (by omega)
  have hE : D.2.2.1 (n + 1) = H.size := by have h9 := hR.2.2; omega
  have hcl : v.toNatClampNeg = N := by rw [hv, nI_clamp (by omega)]
  have h0 : ¬ v < 0 := by rw [hv]; exact nI_pos (by omega)
  refine W.anew hx hb hown (hts _ hlk) (va_AO.use (hK.2 _ hov)) rfl d rfl h0 (by rw [hcl]; omega) hcap.1 (by rw [hcl]; exact hcap.2) fun cA kA comp f1 f2 f3 f4 => ?_
  rw [hcl]
  generalize hH1 : H.push ({ cls := cA, slots := Array.replicate N .null, vm := .none } : Cell) = H1
  have z1 : H1.size = H.size + 1 := by rw [← hH1, Array.size_push]
  have e1 : H1[H.size]? = some (arrV cA N (fun _ => .null)) := by rw [← hH1, Array.getElem?_push_size, ← arrV_new]
  have o1 : ∀ q : Nat, q < H.size → H1[q]? = H[q]? := fun q hq => by rw [← hH1, Array.getElem?_push, if_neg (Nat.ne_of_lt hq)]
  obtain ⟨kB, comp2, k1, k2, k3, k4⟩ := (hK.1.2 _ _ (hk D)).2
  have hcA : cA = D.2.1 c := Option.some.inj (f1.symm.trans k4)
  have hR1 : hz_R D T (n + 1) M H1 := by
    refine hR.grow hn2 z1 o1 ?_
    have hEE : hz_E D T M (n + 1) = .inl (D.2.1 c, N, .inr (.inr (.inr (.inr (fun j => hz_op D.2.2.1 (M.2.2 (n + 1) j)))))) := by
      unfold hz_E
      rw [hT]
      rw [if_neg (show ¬ (c, N).1 < 12 from fun z => by have : c < 12 := z; omega), if_neg (show ¬ (c, N).1 < 15 from fun z => by have : c < 15 := z; omega)]
    rw [hEE]
    show H1[H.size]? = some (vp_cell (D.2.1 c) (N, .inr (.inr (.inr (.inr (fun j => hz_op D.2.2.1 (M.2.2 (n + 1) j)))))))
    rw [e1, hcA, vp_cell_q]
    congr 2
    funext j
    rw [hbl.2.2 j]
    rfl
  have h9 := kk H1 locs hR1 (hz_S_grow hS z1 o1) lsA hl
  show W p l e R s m args below meth cd H1 locs (kc + 1) (ks + N) Q (F0 m (pc + 3) lsA (.ref H.size :: st.map (hz_tr D.2.2.1)))
  rw [← hE]
  exact h9
theorem hz_aastG (C : hz_C X y) {a v c cv N N' j : Nat} {i : Int32} {M' : hz_M} {rr : vw_C} {E : String} (hk : ∀ D : hz_D, (hz_tys D)[c - 12]? = some (D.2.1 c, .object E)) (hc : 15 ≤ c) (hcv : vwCl[cv]? = some rr) (has : rr.1 = E ∨ Cond.castable rr.1 E ∈ hz_nst) (d : decode y.2.1 pc = .ok (.aastore, 1)) (hT : T a = (c, N)) (ha : a ≠ 0 ∧ a ≤ n) (hTv : T v = (cv, N')) (hav : v ≠ 0 ∧ v ≤ n) (hi : i = nI j) (hj : j < N) (hN : N < 2 ^ 31) (hM : hz_uP M a j v = M') (kk : hz_G X T n M' kc ks (pc + 1) ls st) : hz_G X T n M kc ks pc ls (.ref v :: .int i :: .ref a :: st) := by
  obtain ⟨p, l, e, R, s, m, args, below, meth, cd, D, Q⟩ := X
  obtain ⟨hx, hb, hml, hown, hts, hK, hext, -⟩ := C
  intro H locs hR hS lsA hl
  have hw := hz_W_arq D M ha.1 ha.2 hT hc
  have hv := hz_W_obj D M hav.1 hav.2 hTv (List.getElem?_eq_some_iff.mp hcv).1
  have hcl : i.toNatClampNeg = j := by rw [hi, nI_clamp (by omega)]
  have hin : vp_in i N := by rw [hi]; exact vp_in_nI hj hN
  have h0 : ¬ i < 0 := fun q => hin (Or.inl q)
  obtain ⟨r', hr', cellV, g1, g2, g3, -⟩ := hR.1 (v - 1) _ hv
  have hcls := (hK.1.1 cv _ hcv).2
  obtain ⟨kA, comp, k1, k2, k3, -⟩ := (hK.1.2 _ _ (hk D)).2
  obtain ⟨kE, hkE, -⟩ := Vm.findClass_spec k3
  have hasg : s.vm.assignable (D.1.1 cv) comp = true := by
    rcases has with h9 | h9
    · have hcomp : comp = D.1.1 cv := Option.some.inj (k3.symm.trans (by rw [← h9]; exact hcls.1))
      rw [hcomp]
      exact va_assign hcls
    · obtain ⟨c0, t1, f1, f2, f3⟩ := Cond.castable_spec (va_Nw.use (A := args) rfl (hK.2 _ h9))
      cases hcls.1.symm.trans f1
      cases k3.symm.trans f2
      exact f3
  obtain ⟨kC, hkC, -⟩ := hcls.2
  refine W.aast hx hb (hR.1 (a - 1) _ hw) (fun q h => by cases h) (fun h => by cases h) k1 k2 rfl hkE ⟨h0, by show _ < (arrV _ _ _).slots.size; rw [arrV_size, hcl]; exact hj⟩ g1 (fun q h => by rw [g3] at h; cases h) (by rw [g2]; exact hkC) (by rw [g2]; exact hasg) rfl rfl d fun H1 e1 e2 e3 => ?_
  subst hM
  rw [hcl] at e1
  have hE : hz_E D T (hz_uP M a j v) a = .inl (D.2.1 c, N, .inr (.inr (.inr (.inr (fun k => hz_op D.2.2.1 ((hz_uP M a j v).2.2 a k)))))) := by
    unfold hz_E
    rw [hT]
    rw [if_neg (show ¬ (c, N).1 < 12 from fun z => by have : c < 12 := z; omega), if_neg (show ¬ (c, N).1 < 15 from fun z => by have : c < 15 := z; omega)]
  refine kk H1 _ ⟨?_, ?_, e2.trans hR.2.2⟩ (hS.put e2 e3 (hR.2.1.2 _ _ hw)) lsA hl
  · rw [← hz_W_set D T M (hz_uP M a j v) ha.1 rfl (hz_E_uP D T M a j v)]
    refine hR.1.set hR.2.1 hw ?_ e3
    rw [hE]
    show H1[D.2.2.1 a]? = some (vp_cell _ _)
    rw [e1, vp_cell_q, vp_cell_q, arrV_store]
    congr 2
    funext q
    by_cases hq : q = j
    · subst hq
      simp [updV, hz_uP, hz_up, va_up, hz_op, hav.1, va_rf, vp_nar]
    · simp [updV, hz_uP, hz_up, va_up, hq]
  · rw [← hz_W_set D T M (hz_uP M a j v) ha.1 rfl (hz_E_uP D T M a j v)]
    exact hR.2.1.set hw
/-- a constructor's call that makes cells -/
theorem hz_callIm {y0 : hz_Y} {M' : hz_M} {mc ms na a : Nat} {stk as : List Value} (C : hz_C X y) (E : hz_Ev y0 T n M (.ref a :: as) mc ms none T n' M') (hn : hz_new X n n') (Y : hz_FY y0 na) (F : hz_FI y.1.cls ix y0) (hna : as.length = na) (d : decode y.2.1 pc = .ok (.invokespecial ix, 3)) (hst : stk = as.reverse ++ .ref a :: st) (hlen : ls.length = y.2.2.1) (hsum : (st.map Value.category).sum ≤ 8) (hd : y0.2.2.2.2 + 1 ≤ y.2.2.2.2) (hk1 : kc + mc = kc') (hk2 : ks + ms = ks') (hcap : hz_cap X kc' ks') (kk : hz_G X T n' M' kc' ks' (pc + 3) ls st) : hz_G X T n M kc ks pc ls stk := by
  subst hk1
  subst hk2
  exact hz_callI C E hn Y F hna d hst hlen hsum hd hcap kk
theorem hz_callINm {y0 : hz_Y} {M' : hz_M} {mc ms na a : Nat} {stk as : List Value} {host : String} (C : hz_C X y) (E : hz_Ev y0 T n M (.ref a :: as) mc ms none T n' M') (hn : hz_new X n n') (Y : hz_FY y0 na) (F : hz_FIN y.1.cls ix y0 host) (hna : as.length = na) (d : decode y.2.1 pc = .ok (.invokespecial ix, 3)) (hst : stk = as.reverse ++ .ref a :: st) (hlen : ls.length = y.2.2.1) (hsum : (st.map Value.category).sum ≤ 8) (hd : y0.2.2.2.2 + 1 ≤ y.2.2.2.2) (hk1 : kc + mc = kc') (hk2 : ks + ms = ks') (hcap : hz_cap X kc' ks') (kk : hz_G X T n' M' kc' ks' (pc + 3) ls st) : hz_G X T n M kc ks pc ls stk := by
  subst hk1
  subst hk2
  exact hz_callIN C E hn Y F hna d hst hlen hsum hd hcap kk
end MAKE

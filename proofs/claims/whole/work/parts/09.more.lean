section MORE
variable {X : hz_X} {y : hz_Y} {T : hz_T} {n : Nat} {M : hz_M} {kc ks pc ix : Nat} {ls : List (Option Value)} {st : List Value}
theorem hz_mmin (C : hz_C X y) (F : hz_FS y.1.cls ix mJ9_min_7cf53) (hlen : ls.length = y.2.2.1) {x z : Int32} (d : decode y.2.1 pc = .ok (.invokestatic ix, 3)) (hsum : (st.map Value.category).sum ≤ 8) (hd : 1 ≤ y.2.2.2.2) (hcap : hz_cap X kc ks) (kk : hz_G X T n M kc ks (pc + 3) ls (.int (if z < x then z else x) :: st)) : hz_G X T n M kc ks pc ls (.int z :: .int x :: st) := by
  obtain ⟨p, l, e, R, s, m, args, below, meth, cd, D, Q⟩ := X
  obtain ⟨hx, hb, hml, hown, hts, hK, hext, hfr, hlo, -⟩ := C
  intro H locs hR hS lsA hl
  have h8 := hz_sum (ad := D.2.2.1) hsum
  exact va_mmin hx hb (hml.trans (hlen.symm.trans hl.1.symm)) hown (hts _ F.1) (hts _ F.2) (hts _ fyJ9_min_7cf53.2.1) (hts _ fyJ9_min_7cf53.1) (by omega) (by omega) hcap.1 hcap.2 d (kk H locs hR hS lsA hl)
theorem hz_mmax (C : hz_C X y) (F : hz_FS y.1.cls ix mJ9_max_7cf53) (hlen : ls.length = y.2.2.1) {x z : Int32} (d : decode y.2.1 pc = .ok (.invokestatic ix, 3)) (hsum : (st.map Value.category).sum ≤ 8) (hd : 1 ≤ y.2.2.2.2) (hcap : hz_cap X kc ks) (kk : hz_G X T n M kc ks (pc + 3) ls (.int (if x < z then z else x) :: st)) : hz_G X T n M kc ks pc ls (.int z :: .int x :: st) := by
  obtain ⟨p, l, e, R, s, m, args, below, meth, cd, D, Q⟩ := X
  obtain ⟨hx, hb, hml, hown, hts, hK, hext, hfr, hlo, -⟩ := C
  intro H locs hR hS lsA hl
  have h8 := hz_sum (ad := D.2.2.1) hsum
  exact va_mmax hx hb (hml.trans (hlen.symm.trans hl.1.symm)) hown (hts _ F.1) (hts _ F.2) (hts _ fyJ9_max_7cf53.2.1) (hts _ fyJ9_max_7cf53.1) (by omega) (by omega) hcap.1 hcap.2 d (kk H locs hR hS lsA hl)
theorem hz_cpy (C : hz_C X y) {a0 a N0 N1 : Nat} {sp dp len : Nat} {isp idp ilen : Int32} {M' : hz_M} (F : Cond.methodLink y.1.cls ix arraycopyName ∈ hz_tbl ∧ Cond.native arraycopyName ∈ hz_tbl ∧ Cond.static arraycopyName ∈ hz_tbl ∧ Cond.initialized "java/lang/System" ∈ hz_tbl) (hlen : ls.length = y.2.2.1) (hT0 : T a0 = (13, N0)) (ha0 : a0 ≠ 0 ∧ a0 ≤ n) (hT1 : T a = (13, N1)) (ha1 : a ≠ 0 ∧ a ≤ n) (e1 : isp = nI sp) (e2 : idp = nI dp) (e3 : ilen = nI len) (hb : sp < 2 ^ 31 ∧ dp < 2 ^ 31 ∧ len < 2 ^ 31) (h4 : sp + len ≤ N0) (h5 : dp + len ≤ N1) (d : decode y.2.1 pc = .ok (.invokestatic ix, 3)) (hsum : (st.map Value.category).sum ≤ 8) (hd : 1 ≤ y.2.2.2.2)
    (hM : ((fun b => if b = a then va_cpy (M.1 a0) (M.1 a) sp dp len else M.1 b), M.2.1, M.2.2) = M') (kk : hz_G X T n M' 0 ks (pc + 3) ls st) : hz_G X T n M 0 ks pc ls (.int ilen :: .int idp :: .ref a :: .int isp :: .ref a0 :: st) := by
  obtain ⟨p, l, e, R, s, m, args, below, meth, cd, D, Q⟩ := X
  obtain ⟨hx, hbb, hml, hown, hts, hK, hext, hfr, hlo, -⟩ := C
  intro H locs hR hS lsA hl
  have h8 := hz_sum (ad := D.2.2.1) hsum
  have w0 := hz_W_arr D M ha0.1 ha0.2 hT0 (by decide) (by decide)
  have w1 := hz_W_arr D M ha1.1 ha1.2 hT1 (by decide) (by decide)
  have hnw : nativeFrameWords "java/lang/System" "arraycopy" 5 ≤ 19 := by decide +kernel
  subst e1; subst e2; subst e3
  have hE : ∀ b, b ≠ a → hz_E D T M' b = hz_E D T M b := fun b hb2 => hz_E_ne D T M M' (by rw [← hM]; exact if_neg hb2) (by rw [← hM]) (by rw [← hM])
  have hEa : hz_E D T M' a = .inl (D.2.1 13, N1, .inl (va_cpy (M.1 a0) (M.1 a) sp dp len)) := by
    rw [← hM]; simp [hz_E, hT1]
  intro T0 hT0 X0
  have z0 : H.size = s.heap.size := by have z1 := X0.heapSize; rw [hT0] at z1; have z2 := hS.1; omega
  refine va_copyi hx hbb (hml.trans (hlen.symm.trans hl.1.symm)) hown (hts _ F.1) (hts _ F.2.1) (hts _ F.2.2.1) (hts _ F.2.2.2) hK.1 hR.1 hR.2.1 hS (a0 - 1) (a - 1) 1 1 w0 w1 rfl rfl rfl (nI_pos hb.1) (nI_pos hb.2.1) (nI_pos hb.2.2) (by rw [nI_clamp hb.1, nI_clamp hb.2.2]; exact h4) (by rw [nI_clamp hb.2.1, nI_clamp hb.2.2]; exact h5) (fun i _ => rfl) (by omega) (by omega) d (fun H1 locs1 hP1 hD1 hS1 => ?_) T0 hT0 X0
  rw [nI_clamp hb.1, nI_clamp hb.2.1, nI_clamp hb.2.2, hz_W_set D T M M' ha1.1 hEa hE] at hP1 hD1
  intro T1 hT1 X1
  have z1 : H1.size = s.heap.size := by have z1 := X1.heapSize; rw [hT1] at z1; have z2 := hS1.1; omega
  exact kk H1 locs1 ⟨hP1, hD1, by rw [z1, ← z0]; exact hR.2.2⟩ hS1 lsA hl T1 hT1 X1
/-- the table of the telling seconds: outside -/
theorem hz_tget (C : hz_C X y) (F : Cond.fieldLinkNest y.1.cls ix RX10 "TELLING_SECONDS" "[I" "BeepHouse" ∈ hz_nst) (d : decode y.2.1 pc = .ok (.getstatic ix, 3)) (kk : hz_G X T n M kc ks (pc + 3) ls (.ref 1000 :: st)) : hz_G X T n M kc ks pc ls st := by
  obtain ⟨p, l, e, R, s, m, args, below, meth, cd, D, Q⟩ := X
  obtain ⟨hx, hb, hml, hown, hts, hK, hext, hfr, hlo, -⟩ := C
  intro H locs hR hS lsA hl
  exact va_getsN hx hb hext.1 hS hown (va_Nw.use rfl (hK.2 _ F)) (fun _ h => h) d (kk H locs hR hS lsA hl)
theorem hz_tlen (C : hz_C X y) (d : decode y.2.1 pc = .ok (.arraylength, 1)) (kk : hz_G X T n M kc ks (pc + 1) ls (.int (nI 3) :: st)) : hz_G X T n M kc ks pc ls (.ref 1000 :: st) := by
  obtain ⟨p, l, e, R, s, m, args, below, meth, cd, D, Q⟩ := X
  obtain ⟨hx, hb, hml, hown, hts, hK, hext, hfr, hlo, -⟩ := C
  intro H locs hR hS lsA hl
  exact va_tlen hx hb hext.2.1 hS rfl d (kk H locs hR hS lsA hl)
theorem hz_tld (C : hz_C X y) {j : Nat} {v : Int32} (hj : j < 3) (hv : hz_tell j = .int v) (d : decode y.2.1 pc = .ok (.iaload, 1)) (kk : hz_G X T n M kc ks (pc + 1) ls (.int v :: st)) : hz_G X T n M kc ks pc ls (.int (nI j) :: .ref 1000 :: st) := by
  obtain ⟨p, l, e, R, s, m, args, below, meth, cd, D, Q⟩ := X
  obtain ⟨hx, hb, hml, hown, hts, hK, hext, hfr, hlo, -⟩ := C
  intro H locs hR hS lsA hl
  exact va_ti hx hb hext.2.1 hS (vp_in_nI hj (by decide)) (by rw [nI_clamp (by omega)]; exact hv) d (kk H locs hR hS lsA hl)
end MORE

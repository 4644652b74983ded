/-- the law's script: outside, at 2000 -/
def hz_scr (X : hz_X) (Ln : Nat) (xs : Nat → Int32) : Prop := match X with
  | (_, _, _, _, s, _, _, _, _, _, D, _) => va_X (D.2.2.1 2000) Ln xs s s.heap ∧ D.2.2.1 2000 < s.heap.size ∧ ¬ hz_A D (D.2.2.1 2000)
section LAW
variable {X : hz_X} {y : hz_Y} {T : hz_T} {n : Nat} {M : hz_M} {kc ks pc Ln : Nat} {ls : List (Option Value)} {st : List Value} {xs : Nat → Int32}
theorem hz_sld (C : hz_C X y) (hs : hz_scr X Ln xs) {j : Nat} {i : Int32} (hi : i = nI j) (hj : j < Ln) (hL : Ln < 2 ^ 31) (d : decode y.2.1 pc = .ok (.iaload, 1)) (kk : hz_G X T n M kc ks (pc + 1) ls (.int (xs j) :: st)) : hz_G X T n M kc ks pc ls (.int i :: .ref 2000 :: st) := by
  obtain ⟨p, l, e, R, s, m, args, below, meth, cd, D, Q⟩ := X
  obtain ⟨hx, hb, hml, hown, hts, hK, hext, hfr, hlo, -⟩ := C
  subst hi
  intro H locs hR hS lsA hl
  refine va_sld hx hb hs.1 hs.2.1 hs.2.2 hS (vp_in_nI hj hL) d ?_
  rw [nI_clamp (by omega)]
  exact kk H locs hR hS lsA hl
theorem hz_slen (C : hz_C X y) (hs : hz_scr X Ln xs) (d : decode y.2.1 pc = .ok (.arraylength, 1)) (kk : hz_G X T n M kc ks (pc + 1) ls (.int (nI Ln) :: st)) : hz_G X T n M kc ks pc ls (.ref 2000 :: st) := by
  obtain ⟨p, l, e, R, s, m, args, below, meth, cd, D, Q⟩ := X
  obtain ⟨hx, hb, hml, hown, hts, hK, hext, hfr, hlo, -⟩ := C
  intro H locs hR hS lsA hl
  exact va_slen hx hb hs.1 hs.2.1 hs.2.2 hS d (kk H locs hR hS lsA hl)
end LAW
theorem fx_0 : ∀ v ∈ ([] : List Value), fx v := fun v h => absurd h List.not_mem_nil
theorem fx_c {a : Int32} {as : List Value} (h : ∀ v ∈ as, fx v) : ∀ v ∈ (Value.int a :: as), fx v := fun v hv => by
  rcases List.mem_cons.mp hv with rfl | hv
  · exact fx_int _
  · exact h v hv
theorem tyv_int {y : hz_Y} {r : Value} (h : tyv y r = true) (hy : y.2.2.2.1 = some .int ∨ y.2.2.2.1 = some .boolean) : ∃ i, r = .int i := by
  unfold tyv at h
  rcases hy with e | e <;> rw [e] at h <;> cases r <;> first | exact ⟨_, rfl⟩ | (simp at h)
theorem tyv_long {y : hz_Y} {r : Value} (h : tyv y r = true) (hy : y.2.2.2.1 = some .long) : ∃ i, r = .long i := by
  unfold tyv at h
  rw [hy] at h
  cases r <;> first | exact ⟨_, rfl⟩ | (simp at h)
theorem cmp_rf (a : Int64) : lg_cmp a a = 0 := by
  unfold lg_cmp
  simp
theorem and63 (v : Int32) : ∃ c, c < 64 ∧ v &&& nI 63 = nI c := by
  refine ⟨(v &&& nI 63).toBitVec.toNat, ?_, ?_⟩
  · rw [Int32.toBitVec_and, BitVec.toNat_and]
    exact Nat.lt_of_le_of_lt Nat.and_le_right (by decide +kernel)
  · apply Int32.toBitVec_inj.mp
    show _ = BitVec.ofNat 32 _
    rw [BitVec.ofNat_toNat, BitVec.setWidth_eq]
/-- where the loop ends -/
theorem law_gt {Ln i : Nat} (hL : Ln ≤ 256) (hi : i ≤ 256) : nI Ln - nI 4 < nI i ↔ Ln < i + 4 := by
  have e : (nI Ln - nI 4).toInt = (Ln : Int) - 4 := by
    rw [Int32.toInt_sub, nI_toInt (by omega), nI_toInt (by omega)]
    exact Int.bmod_eq_of_le (by omega) (by omega)
  rw [Int32.lt_iff_toInt_lt, e, nI_toInt (by omega)]
  omega
set_option maxHeartbeats 4000000 in
set_option maxRecDepth 100000 in
theorem lwc_0 {X : hz_X} (C : hz_C X mL_law) {Ln kc ks i : Nat} {xs : Nat → Int32} (hs : hz_scr X Ln xs) (hL : Ln ≤ 256) (hi : i + 4 ≤ Ln) (hcap : hz_cap X kc ks) {M : hz_M} (hM : GOOD M) (kk : ∀ M1, GOOD M1 → hz_G X TT NN M1 kc ks 1132 [some (.ref 2000), some (.ref 1), some (.ref 146), some (.int (nI i))] []) : hz_G X TT NN M kc ks 192 [some (.ref 2000), some (.ref 1), some (.ref 146), some (.int (nI i))] [] := by
  obtain ⟨r, E, hr⟩ := ST.all (yC := mX10_house) (yM := mX11_house) (as := []) fx_0 (fun q I L u V => sp_house V) hM
  obtain ⟨v, rfl⟩ := tyv_int hr (Or.inl rfl)
  refine hz_aload_n (pc := 192) C dL_law_192 rfl ?_
  refine hz_callVx (pc := 193) C (as := []) (st := []) E fyX10_house fvL_13 rfl dL_law_193 hT1 rfl rfl hA1 rfl rfl (Nat.le_of_ble_eq_true rfl) (by decide) hcap (fun r1 M1 h1 => ?_)
  obtain ⟨rfl, E2⟩ := h1
  refine hz_aload_n (pc := 196) C dL_law_196 rfl ?_
  refine hz_callVx (pc := 197) C (as := []) (st := [.int v]) E2 fyX11_house fvL_17 rfl dL_law_197 hT146 rfl rfl hA146 rfl rfl (Nat.le_of_ble_eq_true rfl) (by decide) hcap (fun r2 M2 h2 => ?_)
  obtain ⟨rfl, hg⟩ := h2
  exact hz_ic_eq (pc := 200) C (tgt := 1132) dL_law_200 rfl (fun _ => kk M2 hg) (fun zzc => absurd rfl zzc)
set_option maxHeartbeats 4000000 in
set_option maxRecDepth 100000 in
theorem lwc_1 {X : hz_X} (C : hz_C X mL_law) {Ln kc ks i : Nat} {xs : Nat → Int32} (hs : hz_scr X Ln xs) (hL : Ln ≤ 256) (hi : i + 4 ≤ Ln) (hcap : hz_cap X kc ks) {M : hz_M} (hM : GOOD M) (kk : ∀ M1, GOOD M1 → hz_G X TT NN M1 kc ks 1132 [some (.ref 2000), some (.ref 1), some (.ref 146), some (.int (nI i))] []) : hz_G X TT NN M kc ks 205 [some (.ref 2000), some (.ref 1), some (.ref 146), some (.int (nI i))] [] := by
  obtain ⟨r, E, hr⟩ := ST.all (yC := mX10_door) (yM := mX11_door) (as := [.int (xs (i + 1)), .int (xs (i + 2)), .int (xs (i + 3))]) (fx_c (fx_c (fx_c fx_0))) (fun q I L u V => sp_door V (xs (i + 1)) (xs (i + 2)) (xs (i + 3))) hM
  obtain ⟨v, rfl⟩ := tyv_int hr (Or.inl rfl)
  refine hz_aload_n (pc := 205) C dL_law_205 rfl ?_
  refine hz_aload_n (pc := 206) C dL_law_206 rfl ?_
  refine hz_iload_n (pc := 207) C dL_law_207 rfl ?_
  refine hz_iconst (pc := 208) C (v := nI 1) dL_law_208 (by decide +kernel) ?_
  refine hz_iadd (pc := 209) C (v := nI (i + 1)) dL_law_209 (nI_add _ _) ?_
  refine hz_sld (pc := 210) C hs (j := i + 1) rfl (by omega) (by omega) dL_law_210 ?_
  refine hz_aload_n (pc := 211) C dL_law_211 rfl ?_
  refine hz_iload_n (pc := 212) C dL_law_212 rfl ?_
  refine hz_iconst (pc := 213) C (v := nI 2) dL_law_213 (by decide +kernel) ?_
  refine hz_iadd (pc := 214) C (v := nI (i + 2)) dL_law_214 (nI_add _ _) ?_
  refine hz_sld (pc := 215) C hs (j := i + 2) rfl (by omega) (by omega) dL_law_215 ?_
  refine hz_aload_n (pc := 216) C dL_law_216 rfl ?_
  refine hz_iload_n (pc := 217) C dL_law_217 rfl ?_
  refine hz_iconst (pc := 218) C (v := nI 3) dL_law_218 (by decide +kernel) ?_
  refine hz_iadd (pc := 219) C (v := nI (i + 3)) dL_law_219 (nI_add _ _) ?_
  refine hz_sld (pc := 220) C hs (j := i + 3) rfl (by omega) (by omega) dL_law_220 ?_
  refine hz_callVx (pc := 221) C (as := [.int (xs (i + 1)), .int (xs (i + 2)), .int (xs (i + 3))]) (st := []) E fyX10_door fvL_18 rfl dL_law_221 hT1 rfl rfl hA1 rfl rfl (Nat.le_of_ble_eq_true rfl) (by decide) hcap (fun r1 M1 h1 => ?_)
  obtain ⟨rfl, E2⟩ := h1
  refine hz_aload_n (pc := 224) C dL_law_224 rfl ?_
  refine hz_aload_n (pc := 225) C dL_law_225 rfl ?_
  refine hz_iload_n (pc := 226) C dL_law_226 rfl ?_
  refine hz_iconst (pc := 227) C (v := nI 1) dL_law_227 (by decide +kernel) ?_
  refine hz_iadd (pc := 228) C (v := nI (i + 1)) dL_law_228 (nI_add _ _) ?_
  refine hz_sld (pc := 229) C hs (j := i + 1) rfl (by omega) (by omega) dL_law_229 ?_
  refine hz_aload_n (pc := 230) C dL_law_230 rfl ?_
  refine hz_iload_n (pc := 231) C dL_law_231 rfl ?_
  refine hz_iconst (pc := 232) C (v := nI 2) dL_law_232 (by decide +kernel) ?_
  refine hz_iadd (pc := 233) C (v := nI (i + 2)) dL_law_233 (nI_add _ _) ?_
  refine hz_sld (pc := 234) C hs (j := i + 2) rfl (by omega) (by omega) dL_law_234 ?_
  refine hz_aload_n (pc := 235) C dL_law_235 rfl ?_
  refine hz_iload_n (pc := 236) C dL_law_236 rfl ?_
  refine hz_iconst (pc := 237) C (v := nI 3) dL_law_237 (by decide +kernel) ?_
  refine hz_iadd (pc := 238) C (v := nI (i + 3)) dL_law_238 (nI_add _ _) ?_
  refine hz_sld (pc := 239) C hs (j := i + 3) rfl (by omega) (by omega) dL_law_239 ?_
  refine hz_callVx (pc := 240) C (as := [.int (xs (i + 1)), .int (xs (i + 2)), .int (xs (i + 3))]) (st := [.int v]) E2 fyX11_door fvL_22 rfl dL_law_240 hT146 rfl rfl hA146 rfl rfl (Nat.le_of_ble_eq_true rfl) (by decide) hcap (fun r2 M2 h2 => ?_)
  obtain ⟨rfl, hg⟩ := h2
  exact hz_ic_eq (pc := 243) C (tgt := 1132) dL_law_243 rfl (fun _ => kk M2 hg) (fun zzc => absurd rfl zzc)
set_option maxHeartbeats 4000000 in
set_option maxRecDepth 100000 in
theorem lwc_2 {X : hz_X} (C : hz_C X mL_law) {Ln kc ks i : Nat} {xs : Nat → Int32} (hs : hz_scr X Ln xs) (hL : Ln ≤ 256) (hi : i + 4 ≤ Ln) (hcap : hz_cap X kc ks) {M : hz_M} (hM : GOOD M) (kk : ∀ M1, GOOD M1 → hz_G X TT NN M1 kc ks 1132 [some (.ref 2000), some (.ref 1), some (.ref 146), some (.int (nI i))] []) : hz_G X TT NN M kc ks 248 [some (.ref 2000), some (.ref 1), some (.ref 146), some (.int (nI i))] [] := by
  obtain ⟨r, E, hr⟩ := ST.all (yC := mX10_alarm) (yM := mX11_alarm) (as := [.int (xs (i + 1)), .int (xs (i + 2)), .int (xs (i + 3))]) (fx_c (fx_c (fx_c fx_0))) (fun q I L u V => sp_alarm V (xs (i + 1)) (xs (i + 2)) (xs (i + 3))) hM
  obtain ⟨v, rfl⟩ := tyv_int hr (Or.inl rfl)
  refine hz_aload_n (pc := 248) C dL_law_248 rfl ?_
  refine hz_aload_n (pc := 249) C dL_law_249 rfl ?_
  refine hz_iload_n (pc := 250) C dL_law_250 rfl ?_
  refine hz_iconst (pc := 251) C (v := nI 1) dL_law_251 (by decide +kernel) ?_
  refine hz_iadd (pc := 252) C (v := nI (i + 1)) dL_law_252 (nI_add _ _) ?_
  refine hz_sld (pc := 253) C hs (j := i + 1) rfl (by omega) (by omega) dL_law_253 ?_
  refine hz_aload_n (pc := 254) C dL_law_254 rfl ?_
  refine hz_iload_n (pc := 255) C dL_law_255 rfl ?_
  refine hz_iconst (pc := 256) C (v := nI 2) dL_law_256 (by decide +kernel) ?_
  refine hz_iadd (pc := 257) C (v := nI (i + 2)) dL_law_257 (nI_add _ _) ?_
  refine hz_sld (pc := 258) C hs (j := i + 2) rfl (by omega) (by omega) dL_law_258 ?_
  refine hz_aload_n (pc := 259) C dL_law_259 rfl ?_
  refine hz_iload_n (pc := 260) C dL_law_260 rfl ?_
  refine hz_iconst (pc := 261) C (v := nI 3) dL_law_261 (by decide +kernel) ?_
  refine hz_iadd (pc := 262) C (v := nI (i + 3)) dL_law_262 (nI_add _ _) ?_
  refine hz_sld (pc := 263) C hs (j := i + 3) rfl (by omega) (by omega) dL_law_263 ?_
  refine hz_callVx (pc := 264) C (as := [.int (xs (i + 1)), .int (xs (i + 2)), .int (xs (i + 3))]) (st := []) E fyX10_alarm fvL_23 rfl dL_law_264 hT1 rfl rfl hA1 rfl rfl (Nat.le_of_ble_eq_true rfl) (by decide) hcap (fun r1 M1 h1 => ?_)
  obtain ⟨rfl, E2⟩ := h1
  refine hz_aload_n (pc := 267) C dL_law_267 rfl ?_
  refine hz_aload_n (pc := 268) C dL_law_268 rfl ?_
  refine hz_iload_n (pc := 269) C dL_law_269 rfl ?_
  refine hz_iconst (pc := 270) C (v := nI 1) dL_law_270 (by decide +kernel) ?_
  refine hz_iadd (pc := 271) C (v := nI (i + 1)) dL_law_271 (nI_add _ _) ?_
  refine hz_sld (pc := 272) C hs (j := i + 1) rfl (by omega) (by omega) dL_law_272 ?_
  refine hz_aload_n (pc := 273) C dL_law_273 rfl ?_
  refine hz_iload_n (pc := 274) C dL_law_274 rfl ?_
  refine hz_iconst (pc := 275) C (v := nI 2) dL_law_275 (by decide +kernel) ?_
  refine hz_iadd (pc := 276) C (v := nI (i + 2)) dL_law_276 (nI_add _ _) ?_
  refine hz_sld (pc := 277) C hs (j := i + 2) rfl (by omega) (by omega) dL_law_277 ?_
  refine hz_aload_n (pc := 278) C dL_law_278 rfl ?_
  refine hz_iload_n (pc := 279) C dL_law_279 rfl ?_
  refine hz_iconst (pc := 280) C (v := nI 3) dL_law_280 (by decide +kernel) ?_
  refine hz_iadd (pc := 281) C (v := nI (i + 3)) dL_law_281 (nI_add _ _) ?_
  refine hz_sld (pc := 282) C hs (j := i + 3) rfl (by omega) (by omega) dL_law_282 ?_
  refine hz_callVx (pc := 283) C (as := [.int (xs (i + 1)), .int (xs (i + 2)), .int (xs (i + 3))]) (st := [.int v]) E2 fyX11_alarm fvL_26 rfl dL_law_283 hT146 rfl rfl hA146 rfl rfl (Nat.le_of_ble_eq_true rfl) (by decide) hcap (fun r2 M2 h2 => ?_)
  obtain ⟨rfl, hg⟩ := h2
  exact hz_ic_eq (pc := 286) C (tgt := 1132) dL_law_286 rfl (fun _ => kk M2 hg) (fun zzc => absurd rfl zzc)
set_option maxHeartbeats 4000000 in
set_option maxRecDepth 100000 in
theorem lwc_3 {X : hz_X} (C : hz_C X mL_law) {Ln kc ks i : Nat} {xs : Nat → Int32} (hs : hz_scr X Ln xs) (hL : Ln ≤ 256) (hi : i + 4 ≤ Ln) (hcap : hz_cap X kc ks) {M : hz_M} (hM : GOOD M) (kk : ∀ M1, GOOD M1 → hz_G X TT NN M1 kc ks 1132 [some (.ref 2000), some (.ref 1), some (.ref 146), some (.int (nI i))] []) : hz_G X TT NN M kc ks 291 [some (.ref 2000), some (.ref 1), some (.ref 146), some (.int (nI i))] [] := by
  obtain ⟨r, E, hr⟩ := ST.all (yC := mX10_type) (yM := mX11_type) (as := [.int (xs (i + 1))]) (fx_c fx_0) (fun q I L u V => sp_type V (xs (i + 1))) hM
  obtain ⟨v, rfl⟩ := tyv_int hr (Or.inl rfl)
  refine hz_aload_n (pc := 291) C dL_law_291 rfl ?_
  refine hz_aload_n (pc := 292) C dL_law_292 rfl ?_
  refine hz_iload_n (pc := 293) C dL_law_293 rfl ?_
  refine hz_iconst (pc := 294) C (v := nI 1) dL_law_294 (by decide +kernel) ?_
  refine hz_iadd (pc := 295) C (v := nI (i + 1)) dL_law_295 (nI_add _ _) ?_
  refine hz_sld (pc := 296) C hs (j := i + 1) rfl (by omega) (by omega) dL_law_296 ?_
  refine hz_callVx (pc := 297) C (as := [.int (xs (i + 1))]) (st := []) E fyX10_type fvL_27 rfl dL_law_297 hT1 rfl rfl hA1 rfl rfl (Nat.le_of_ble_eq_true rfl) (by decide) hcap (fun r1 M1 h1 => ?_)
  obtain ⟨rfl, E2⟩ := h1
  refine hz_aload_n (pc := 300) C dL_law_300 rfl ?_
  refine hz_aload_n (pc := 301) C dL_law_301 rfl ?_
  refine hz_iload_n (pc := 302) C dL_law_302 rfl ?_
  refine hz_iconst (pc := 303) C (v := nI 1) dL_law_303 (by decide +kernel) ?_
  refine hz_iadd (pc := 304) C (v := nI (i + 1)) dL_law_304 (nI_add _ _) ?_
  refine hz_sld (pc := 305) C hs (j := i + 1) rfl (by omega) (by omega) dL_law_305 ?_
  refine hz_callVx (pc := 306) C (as := [.int (xs (i + 1))]) (st := [.int v]) E2 fyX11_type fvL_31 rfl dL_law_306 hT146 rfl rfl hA146 rfl rfl (Nat.le_of_ble_eq_true rfl) (by decide) hcap (fun r2 M2 h2 => ?_)
  obtain ⟨rfl, hg⟩ := h2
  exact hz_ic_eq (pc := 309) C (tgt := 1132) dL_law_309 rfl (fun _ => kk M2 hg) (fun zzc => absurd rfl zzc)
set_option maxHeartbeats 4000000 in
set_option maxRecDepth 100000 in
theorem lwc_4 {X : hz_X} (C : hz_C X mL_law) {Ln kc ks i : Nat} {xs : Nat → Int32} (hs : hz_scr X Ln xs) (hL : Ln ≤ 256) (hi : i + 4 ≤ Ln) (hcap : hz_cap X kc ks) {M : hz_M} (hM : GOOD M) (kk : ∀ M1, GOOD M1 → hz_G X TT NN M1 kc ks 1132 [some (.ref 2000), some (.ref 1), some (.ref 146), some (.int (nI i))] []) : hz_G X TT NN M kc ks 314 [some (.ref 2000), some (.ref 1), some (.ref 146), some (.int (nI i))] [] := by
  obtain ⟨r, E, hr⟩ := ST.all (yC := mX10_clear) (yM := mX11_clear) (as := []) fx_0 (fun q I L u V => sp_clear V) hM
  obtain ⟨v, rfl⟩ := tyv_int hr (Or.inl rfl)
  refine hz_aload_n (pc := 314) C dL_law_314 rfl ?_
  refine hz_callVx (pc := 315) C (as := []) (st := []) E fyX10_clear fvL_32 rfl dL_law_315 hT1 rfl rfl hA1 rfl rfl (Nat.le_of_ble_eq_true rfl) (by decide) hcap (fun r1 M1 h1 => ?_)
  obtain ⟨rfl, E2⟩ := h1
  refine hz_aload_n (pc := 318) C dL_law_318 rfl ?_
  refine hz_callVx (pc := 319) C (as := []) (st := [.int v]) E2 fyX11_clear fvL_35 rfl dL_law_319 hT146 rfl rfl hA146 rfl rfl (Nat.le_of_ble_eq_true rfl) (by decide) hcap (fun r2 M2 h2 => ?_)
  obtain ⟨rfl, hg⟩ := h2
  exact hz_ic_eq (pc := 322) C (tgt := 1132) dL_law_322 rfl (fun _ => kk M2 hg) (fun zzc => absurd rfl zzc)
set_option maxHeartbeats 4000000 in
set_option maxRecDepth 100000 in
theorem lwc_5 {X : hz_X} (C : hz_C X mL_law) {Ln kc ks i : Nat} {xs : Nat → Int32} (hs : hz_scr X Ln xs) (hL : Ln ≤ 256) (hi : i + 4 ≤ Ln) (hcap : hz_cap X kc ks) {M : hz_M} (hM : GOOD M) (kk : ∀ M1, GOOD M1 → hz_G X TT NN M1 kc ks 1132 [some (.ref 2000), some (.ref 1), some (.ref 146), some (.int (nI i))] []) : hz_G X TT NN M kc ks 327 [some (.ref 2000), some (.ref 1), some (.ref 146), some (.int (nI i))] [] := by
  obtain ⟨r, E, hr⟩ := ST.all (yC := mX10_read) (yM := mX11_read) (as := []) fx_0 (fun q I L u V => sp_read V) hM
  obtain ⟨v, rfl⟩ := tyv_int hr (Or.inl rfl)
  refine hz_aload_n (pc := 327) C dL_law_327 rfl ?_
  refine hz_callVx (pc := 328) C (as := []) (st := []) E fyX10_read fvL_36 rfl dL_law_328 hT1 rfl rfl hA1 rfl rfl (Nat.le_of_ble_eq_true rfl) (by decide) hcap (fun r1 M1 h1 => ?_)
  obtain ⟨rfl, E2⟩ := h1
  refine hz_aload_n (pc := 331) C dL_law_331 rfl ?_
  refine hz_callVx (pc := 332) C (as := []) (st := [.int v]) E2 fyX11_read fvL_39 rfl dL_law_332 hT146 rfl rfl hA146 rfl rfl (Nat.le_of_ble_eq_true rfl) (by decide) hcap (fun r2 M2 h2 => ?_)
  obtain ⟨rfl, hg⟩ := h2
  exact hz_ic_eq (pc := 335) C (tgt := 1132) dL_law_335 rfl (fun _ => kk M2 hg) (fun zzc => absurd rfl zzc)
set_option maxHeartbeats 4000000 in
set_option maxRecDepth 100000 in
theorem lwc_6 {X : hz_X} (C : hz_C X mL_law) {Ln kc ks i : Nat} {xs : Nat → Int32} (hs : hz_scr X Ln xs) (hL : Ln ≤ 256) (hi : i + 4 ≤ Ln) (hcap : hz_cap X kc ks) {M : hz_M} (hM : GOOD M) (kk : ∀ M1, GOOD M1 → hz_G X TT NN M1 kc ks 1132 [some (.ref 2000), some (.ref 1), some (.ref 146), some (.int (nI i))] []) : hz_G X TT NN M kc ks 340 [some (.ref 2000), some (.ref 1), some (.ref 146), some (.int (nI i))] [] := by
  obtain ⟨r, E, hr⟩ := ST.all (yC := mX10_waits) (yM := mX11_waits) (as := [.int (xs (i + 1))]) (fx_c fx_0) (fun q I L u V => sp_waits V (xs (i + 1))) hM
  obtain ⟨v, rfl⟩ := tyv_int hr (Or.inl rfl)
  refine hz_aload_n (pc := 340) C dL_law_340 rfl ?_
  refine hz_aload_n (pc := 341) C dL_law_341 rfl ?_
  refine hz_iload_n (pc := 342) C dL_law_342 rfl ?_
  refine hz_iconst (pc := 343) C (v := nI 1) dL_law_343 (by decide +kernel) ?_
  refine hz_iadd (pc := 344) C (v := nI (i + 1)) dL_law_344 (nI_add _ _) ?_
  refine hz_sld (pc := 345) C hs (j := i + 1) rfl (by omega) (by omega) dL_law_345 ?_
  refine hz_callVx (pc := 346) C (as := [.int (xs (i + 1))]) (st := []) E fyX10_waits fvL_40 rfl dL_law_346 hT1 rfl rfl hA1 rfl rfl (Nat.le_of_ble_eq_true rfl) (by decide) hcap (fun r1 M1 h1 => ?_)
  obtain ⟨rfl, E2⟩ := h1
  refine hz_aload_n (pc := 349) C dL_law_349 rfl ?_
  refine hz_aload_n (pc := 350) C dL_law_350 rfl ?_
  refine hz_iload_n (pc := 351) C dL_law_351 rfl ?_
  refine hz_iconst (pc := 352) C (v := nI 1) dL_law_352 (by decide +kernel) ?_
  refine hz_iadd (pc := 353) C (v := nI (i + 1)) dL_law_353 (nI_add _ _) ?_
  refine hz_sld (pc := 354) C hs (j := i + 1) rfl (by omega) (by omega) dL_law_354 ?_
  refine hz_callVx (pc := 355) C (as := [.int (xs (i + 1))]) (st := [.int v]) E2 fyX11_waits fvL_43 rfl dL_law_355 hT146 rfl rfl hA146 rfl rfl (Nat.le_of_ble_eq_true rfl) (by decide) hcap (fun r2 M2 h2 => ?_)
  obtain ⟨rfl, hg⟩ := h2
  exact hz_ic_eq (pc := 358) C (tgt := 1132) dL_law_358 rfl (fun _ => kk M2 hg) (fun zzc => absurd rfl zzc)
set_option maxHeartbeats 4000000 in
set_option maxRecDepth 100000 in
theorem lwc_7 {X : hz_X} (C : hz_C X mL_law) {Ln kc ks i : Nat} {xs : Nat → Int32} (hs : hz_scr X Ln xs) (hL : Ln ≤ 256) (hi : i + 4 ≤ Ln) (hcap : hz_cap X kc ks) {M : hz_M} (hM : GOOD M) (kk : ∀ M1, GOOD M1 → hz_G X TT NN M1 kc ks 1132 [some (.ref 2000), some (.ref 1), some (.ref 146), some (.int (nI i))] []) : hz_G X TT NN M kc ks 363 [some (.ref 2000), some (.ref 1), some (.ref 146), some (.int (nI i))] [] := by
  obtain ⟨r, E, hr⟩ := ST.all (yC := mX10_walk) (yM := mX11_walk) (as := [.int (xs (i + 1))]) (fx_c fx_0) (fun q I L u V => sp_walk V (xs (i + 1))) hM
  obtain ⟨v, rfl⟩ := tyv_int hr (Or.inl rfl)
  refine hz_aload_n (pc := 363) C dL_law_363 rfl ?_
  refine hz_aload_n (pc := 364) C dL_law_364 rfl ?_
  refine hz_iload_n (pc := 365) C dL_law_365 rfl ?_
  refine hz_iconst (pc := 366) C (v := nI 1) dL_law_366 (by decide +kernel) ?_
  refine hz_iadd (pc := 367) C (v := nI (i + 1)) dL_law_367 (nI_add _ _) ?_
  refine hz_sld (pc := 368) C hs (j := i + 1) rfl (by omega) (by omega) dL_law_368 ?_
  refine hz_callVx (pc := 369) C (as := [.int (xs (i + 1))]) (st := []) E fyX10_walk fvL_44 rfl dL_law_369 hT1 rfl rfl hA1 rfl rfl (Nat.le_of_ble_eq_true rfl) (by decide) hcap (fun r1 M1 h1 => ?_)
  obtain ⟨rfl, E2⟩ := h1
  refine hz_aload_n (pc := 372) C dL_law_372 rfl ?_
  refine hz_aload_n (pc := 373) C dL_law_373 rfl ?_
  refine hz_iload_n (pc := 374) C dL_law_374 rfl ?_
  refine hz_iconst (pc := 375) C (v := nI 1) dL_law_375 (by decide +kernel) ?_
  refine hz_iadd (pc := 376) C (v := nI (i + 1)) dL_law_376 (nI_add _ _) ?_
  refine hz_sld (pc := 377) C hs (j := i + 1) rfl (by omega) (by omega) dL_law_377 ?_
  refine hz_callVx (pc := 378) C (as := [.int (xs (i + 1))]) (st := [.int v]) E2 fyX11_walk fvL_47 rfl dL_law_378 hT146 rfl rfl hA146 rfl rfl (Nat.le_of_ble_eq_true rfl) (by decide) hcap (fun r2 M2 h2 => ?_)
  obtain ⟨rfl, hg⟩ := h2
  exact hz_ic_eq (pc := 381) C (tgt := 1132) dL_law_381 rfl (fun _ => kk M2 hg) (fun zzc => absurd rfl zzc)
set_option maxHeartbeats 4000000 in
set_option maxRecDepth 100000 in
theorem lwc_8 {X : hz_X} (C : hz_C X mL_law) {Ln kc ks i : Nat} {xs : Nat → Int32} (hs : hz_scr X Ln xs) (hL : Ln ≤ 256) (hi : i + 4 ≤ Ln) (hcap : hz_cap X kc ks) {M : hz_M} (hM : GOOD M) (kk : ∀ M1, GOOD M1 → hz_G X TT NN M1 kc ks 1132 [some (.ref 2000), some (.ref 1), some (.ref 146), some (.int (nI i))] []) : hz_G X TT NN M kc ks 386 [some (.ref 2000), some (.ref 1), some (.ref 146), some (.int (nI i))] [] := by
  obtain ⟨r, E, hr⟩ := ST.all (yC := mX10_take) (yM := mX11_take) (as := [.int (xs (i + 1)), .int (xs (i + 2))]) (fx_c (fx_c fx_0)) (fun q I L u V => sp_take V (xs (i + 1)) (xs (i + 2))) hM
  obtain ⟨v, rfl⟩ := tyv_int hr (Or.inl rfl)
  refine hz_aload_n (pc := 386) C dL_law_386 rfl ?_
  refine hz_aload_n (pc := 387) C dL_law_387 rfl ?_
  refine hz_iload_n (pc := 388) C dL_law_388 rfl ?_
  refine hz_iconst (pc := 389) C (v := nI 1) dL_law_389 (by decide +kernel) ?_
  refine hz_iadd (pc := 390) C (v := nI (i + 1)) dL_law_390 (nI_add _ _) ?_
  refine hz_sld (pc := 391) C hs (j := i + 1) rfl (by omega) (by omega) dL_law_391 ?_
  refine hz_aload_n (pc := 392) C dL_law_392 rfl ?_
  refine hz_iload_n (pc := 393) C dL_law_393 rfl ?_
  refine hz_iconst (pc := 394) C (v := nI 2) dL_law_394 (by decide +kernel) ?_
  refine hz_iadd (pc := 395) C (v := nI (i + 2)) dL_law_395 (nI_add _ _) ?_
  refine hz_sld (pc := 396) C hs (j := i + 2) rfl (by omega) (by omega) dL_law_396 ?_
  refine hz_callVx (pc := 397) C (as := [.int (xs (i + 1)), .int (xs (i + 2))]) (st := []) E fyX10_take fvL_48 rfl dL_law_397 hT1 rfl rfl hA1 rfl rfl (Nat.le_of_ble_eq_true rfl) (by decide) hcap (fun r1 M1 h1 => ?_)
  obtain ⟨rfl, E2⟩ := h1
  refine hz_aload_n (pc := 400) C dL_law_400 rfl ?_
  refine hz_aload_n (pc := 401) C dL_law_401 rfl ?_
  refine hz_iload_n (pc := 402) C dL_law_402 rfl ?_
  refine hz_iconst (pc := 403) C (v := nI 1) dL_law_403 (by decide +kernel) ?_
  refine hz_iadd (pc := 404) C (v := nI (i + 1)) dL_law_404 (nI_add _ _) ?_
  refine hz_sld (pc := 405) C hs (j := i + 1) rfl (by omega) (by omega) dL_law_405 ?_
  refine hz_aload_n (pc := 406) C dL_law_406 rfl ?_
  refine hz_iload_n (pc := 407) C dL_law_407 rfl ?_
  refine hz_iconst (pc := 408) C (v := nI 2) dL_law_408 (by decide +kernel) ?_
  refine hz_iadd (pc := 409) C (v := nI (i + 2)) dL_law_409 (nI_add _ _) ?_
  refine hz_sld (pc := 410) C hs (j := i + 2) rfl (by omega) (by omega) dL_law_410 ?_
  refine hz_callVx (pc := 411) C (as := [.int (xs (i + 1)), .int (xs (i + 2))]) (st := [.int v]) E2 fyX11_take fvL_52 rfl dL_law_411 hT146 rfl rfl hA146 rfl rfl (Nat.le_of_ble_eq_true rfl) (by decide) hcap (fun r2 M2 h2 => ?_)
  obtain ⟨rfl, hg⟩ := h2
  exact hz_ic_eq (pc := 414) C (tgt := 1132) dL_law_414 rfl (fun _ => kk M2 hg) (fun zzc => absurd rfl zzc)
set_option maxHeartbeats 4000000 in
set_option maxRecDepth 100000 in
theorem lwc_9 {X : hz_X} (C : hz_C X mL_law) {Ln kc ks i : Nat} {xs : Nat → Int32} (hs : hz_scr X Ln xs) (hL : Ln ≤ 256) (hi : i + 4 ≤ Ln) (hcap : hz_cap X kc ks) {M : hz_M} (hM : GOOD M) (kk : ∀ M1, GOOD M1 → hz_G X TT NN M1 kc ks 1132 [some (.ref 2000), some (.ref 1), some (.ref 146), some (.int (nI i))] []) : hz_G X TT NN M kc ks 419 [some (.ref 2000), some (.ref 1), some (.ref 146), some (.int (nI i))] [] := by
  obtain ⟨r, E, hr⟩ := ST.all (yC := mX10_battery) (yM := mX11_battery) (as := [.int (xs (i + 1)), .int (xs (i + 2))]) (fx_c (fx_c fx_0)) (fun q I L u V => sp_battery V (xs (i + 1)) (xs (i + 2))) hM
  obtain ⟨v, rfl⟩ := tyv_int hr (Or.inl rfl)
  refine hz_aload_n (pc := 419) C dL_law_419 rfl ?_
  refine hz_aload_n (pc := 420) C dL_law_420 rfl ?_
  refine hz_iload_n (pc := 421) C dL_law_421 rfl ?_
  refine hz_iconst (pc := 422) C (v := nI 1) dL_law_422 (by decide +kernel) ?_
  refine hz_iadd (pc := 423) C (v := nI (i + 1)) dL_law_423 (nI_add _ _) ?_
  refine hz_sld (pc := 424) C hs (j := i + 1) rfl (by omega) (by omega) dL_law_424 ?_
  refine hz_aload_n (pc := 425) C dL_law_425 rfl ?_
  refine hz_iload_n (pc := 426) C dL_law_426 rfl ?_
  refine hz_iconst (pc := 427) C (v := nI 2) dL_law_427 (by decide +kernel) ?_
  refine hz_iadd (pc := 428) C (v := nI (i + 2)) dL_law_428 (nI_add _ _) ?_
  refine hz_sld (pc := 429) C hs (j := i + 2) rfl (by omega) (by omega) dL_law_429 ?_
  refine hz_callVx (pc := 430) C (as := [.int (xs (i + 1)), .int (xs (i + 2))]) (st := []) E fyX10_battery fvL_53 rfl dL_law_430 hT1 rfl rfl hA1 rfl rfl (Nat.le_of_ble_eq_true rfl) (by decide) hcap (fun r1 M1 h1 => ?_)
  obtain ⟨rfl, E2⟩ := h1
  refine hz_aload_n (pc := 433) C dL_law_433 rfl ?_
  refine hz_aload_n (pc := 434) C dL_law_434 rfl ?_
  refine hz_iload_n (pc := 435) C dL_law_435 rfl ?_
  refine hz_iconst (pc := 436) C (v := nI 1) dL_law_436 (by decide +kernel) ?_
  refine hz_iadd (pc := 437) C (v := nI (i + 1)) dL_law_437 (nI_add _ _) ?_
  refine hz_sld (pc := 438) C hs (j := i + 1) rfl (by omega) (by omega) dL_law_438 ?_
  refine hz_aload_n (pc := 439) C dL_law_439 rfl ?_
  refine hz_iload_n (pc := 440) C dL_law_440 rfl ?_
  refine hz_iconst (pc := 441) C (v := nI 2) dL_law_441 (by decide +kernel) ?_
  refine hz_iadd (pc := 442) C (v := nI (i + 2)) dL_law_442 (nI_add _ _) ?_
  refine hz_sld (pc := 443) C hs (j := i + 2) rfl (by omega) (by omega) dL_law_443 ?_
  refine hz_callVx (pc := 444) C (as := [.int (xs (i + 1)), .int (xs (i + 2))]) (st := [.int v]) E2 fyX11_battery fvL_56 rfl dL_law_444 hT146 rfl rfl hA146 rfl rfl (Nat.le_of_ble_eq_true rfl) (by decide) hcap (fun r2 M2 h2 => ?_)
  obtain ⟨rfl, hg⟩ := h2
  exact hz_ic_eq (pc := 447) C (tgt := 1132) dL_law_447 rfl (fun _ => kk M2 hg) (fun zzc => absurd rfl zzc)
set_option maxHeartbeats 4000000 in
set_option maxRecDepth 100000 in
theorem lwc_10 {X : hz_X} (C : hz_C X mL_law) {Ln kc ks i : Nat} {xs : Nat → Int32} (hs : hz_scr X Ln xs) (hL : Ln ≤ 256) (hi : i + 4 ≤ Ln) (hcap : hz_cap X kc ks) {M : hz_M} (hM : GOOD M) (kk : ∀ M1, GOOD M1 → hz_G X TT NN M1 kc ks 1132 [some (.ref 2000), some (.ref 1), some (.ref 146), some (.int (nI i))] []) : hz_G X TT NN M kc ks 452 [some (.ref 2000), some (.ref 1), some (.ref 146), some (.int (nI i))] [] := by
  obtain ⟨r, E, hr⟩ := ST.all (yC := mX10_cold) (yM := mX11_cold) (as := [.int (xs (i + 1))]) (fx_c fx_0) (fun q I L u V => sp_cold V (xs (i + 1))) hM
  obtain ⟨v, rfl⟩ := tyv_int hr (Or.inl rfl)
  refine hz_aload_n (pc := 452) C dL_law_452 rfl ?_
  refine hz_aload_n (pc := 453) C dL_law_453 rfl ?_
  refine hz_iload_n (pc := 454) C dL_law_454 rfl ?_
  refine hz_iconst (pc := 455) C (v := nI 1) dL_law_455 (by decide +kernel) ?_
  refine hz_iadd (pc := 456) C (v := nI (i + 1)) dL_law_456 (nI_add _ _) ?_
  refine hz_sld (pc := 457) C hs (j := i + 1) rfl (by omega) (by omega) dL_law_457 ?_
  refine hz_callVx (pc := 458) C (as := [.int (xs (i + 1))]) (st := []) E fyX10_cold fvL_57 rfl dL_law_458 hT1 rfl rfl hA1 rfl rfl (Nat.le_of_ble_eq_true rfl) (by decide) hcap (fun r1 M1 h1 => ?_)
  obtain ⟨rfl, E2⟩ := h1
  refine hz_aload_n (pc := 461) C dL_law_461 rfl ?_
  refine hz_aload_n (pc := 462) C dL_law_462 rfl ?_
  refine hz_iload_n (pc := 463) C dL_law_463 rfl ?_
  refine hz_iconst (pc := 464) C (v := nI 1) dL_law_464 (by decide +kernel) ?_
  refine hz_iadd (pc := 465) C (v := nI (i + 1)) dL_law_465 (nI_add _ _) ?_
  refine hz_sld (pc := 466) C hs (j := i + 1) rfl (by omega) (by omega) dL_law_466 ?_
  refine hz_callVx (pc := 467) C (as := [.int (xs (i + 1))]) (st := [.int v]) E2 fyX11_cold fvL_60 rfl dL_law_467 hT146 rfl rfl hA146 rfl rfl (Nat.le_of_ble_eq_true rfl) (by decide) hcap (fun r2 M2 h2 => ?_)
  obtain ⟨rfl, hg⟩ := h2
  exact hz_ic_eq (pc := 470) C (tgt := 1132) dL_law_470 rfl (fun _ => kk M2 hg) (fun zzc => absurd rfl zzc)
set_option maxHeartbeats 4000000 in
set_option maxRecDepth 100000 in
theorem lwc_11 {X : hz_X} (C : hz_C X mL_law) {Ln kc ks i : Nat} {xs : Nat → Int32} (hs : hz_scr X Ln xs) (hL : Ln ≤ 256) (hi : i + 4 ≤ Ln) (hcap : hz_cap X kc ks) {M : hz_M} (hM : GOOD M) (kk : ∀ M1, GOOD M1 → hz_G X TT NN M1 kc ks 1132 [some (.ref 2000), some (.ref 1), some (.ref 146), some (.int (nI i))] []) : hz_G X TT NN M kc ks 475 [some (.ref 2000), some (.ref 1), some (.ref 146), some (.int (nI i))] [] := by
  obtain ⟨r, E, hr⟩ := ST.all (yC := mX10_undo) (yM := mX11_undo) (as := []) fx_0 (fun q I L u V => sp_undo V) hM
  obtain ⟨v, rfl⟩ := tyv_int hr (Or.inl rfl)
  refine hz_aload_n (pc := 475) C dL_law_475 rfl ?_
  refine hz_callVx (pc := 476) C (as := []) (st := []) E fyX10_undo fvL_61 rfl dL_law_476 hT1 rfl rfl hA1 rfl rfl (Nat.le_of_ble_eq_true rfl) (by decide) hcap (fun r1 M1 h1 => ?_)
  obtain ⟨rfl, E2⟩ := h1
  refine hz_aload_n (pc := 479) C dL_law_479 rfl ?_
  refine hz_callVx (pc := 480) C (as := []) (st := [.int v]) E2 fyX11_undo fvL_64 rfl dL_law_480 hT146 rfl rfl hA146 rfl rfl (Nat.le_of_ble_eq_true rfl) (by decide) hcap (fun r2 M2 h2 => ?_)
  obtain ⟨rfl, hg⟩ := h2
  exact hz_ic_eq (pc := 483) C (tgt := 1132) dL_law_483 rfl (fun _ => kk M2 hg) (fun zzc => absurd rfl zzc)
set_option maxHeartbeats 4000000 in
set_option maxRecDepth 100000 in
theorem lwc_12 {X : hz_X} (C : hz_C X mL_law) {Ln kc ks i : Nat} {xs : Nat → Int32} (hs : hz_scr X Ln xs) (hL : Ln ≤ 256) (hi : i + 4 ≤ Ln) (hcap : hz_cap X kc ks) {M : hz_M} (hM : GOOD M) (kk : ∀ M1, GOOD M1 → hz_G X TT NN M1 kc ks 1132 [some (.ref 2000), some (.ref 1), some (.ref 146), some (.int (nI i))] []) : hz_G X TT NN M kc ks 488 [some (.ref 2000), some (.ref 1), some (.ref 146), some (.int (nI i))] [] := by
  obtain ⟨r, E, hr⟩ := ST.all (yC := mX10_of) (yM := mX11_of) (as := [.int (xs (i + 1)), .int (xs (i + 2))]) (fx_c (fx_c fx_0)) (fun q I L u V => sp_of V (xs (i + 1)) (xs (i + 2))) hM
  obtain ⟨v, rfl⟩ := tyv_int hr (Or.inl rfl)
  refine hz_aload_n (pc := 488) C dL_law_488 rfl ?_
  refine hz_aload_n (pc := 489) C dL_law_489 rfl ?_
  refine hz_iload_n (pc := 490) C dL_law_490 rfl ?_
  refine hz_iconst (pc := 491) C (v := nI 1) dL_law_491 (by decide +kernel) ?_
  refine hz_iadd (pc := 492) C (v := nI (i + 1)) dL_law_492 (nI_add _ _) ?_
  refine hz_sld (pc := 493) C hs (j := i + 1) rfl (by omega) (by omega) dL_law_493 ?_
  refine hz_aload_n (pc := 494) C dL_law_494 rfl ?_
  refine hz_iload_n (pc := 495) C dL_law_495 rfl ?_
  refine hz_iconst (pc := 496) C (v := nI 2) dL_law_496 (by decide +kernel) ?_
  refine hz_iadd (pc := 497) C (v := nI (i + 2)) dL_law_497 (nI_add _ _) ?_
  refine hz_sld (pc := 498) C hs (j := i + 2) rfl (by omega) (by omega) dL_law_498 ?_
  refine hz_callVx (pc := 499) C (as := [.int (xs (i + 1)), .int (xs (i + 2))]) (st := []) E fyX10_of fvL_65 rfl dL_law_499 hT1 rfl rfl hA1 rfl rfl (Nat.le_of_ble_eq_true rfl) (by decide) hcap (fun r1 M1 h1 => ?_)
  obtain ⟨rfl, E2⟩ := h1
  refine hz_aload_n (pc := 502) C dL_law_502 rfl ?_
  refine hz_aload_n (pc := 503) C dL_law_503 rfl ?_
  refine hz_iload_n (pc := 504) C dL_law_504 rfl ?_
  refine hz_iconst (pc := 505) C (v := nI 1) dL_law_505 (by decide +kernel) ?_
  refine hz_iadd (pc := 506) C (v := nI (i + 1)) dL_law_506 (nI_add _ _) ?_
  refine hz_sld (pc := 507) C hs (j := i + 1) rfl (by omega) (by omega) dL_law_507 ?_
  refine hz_aload_n (pc := 508) C dL_law_508 rfl ?_
  refine hz_iload_n (pc := 509) C dL_law_509 rfl ?_
  refine hz_iconst (pc := 510) C (v := nI 2) dL_law_510 (by decide +kernel) ?_
  refine hz_iadd (pc := 511) C (v := nI (i + 2)) dL_law_511 (nI_add _ _) ?_
  refine hz_sld (pc := 512) C hs (j := i + 2) rfl (by omega) (by omega) dL_law_512 ?_
  refine hz_callVx (pc := 513) C (as := [.int (xs (i + 1)), .int (xs (i + 2))]) (st := [.int v]) E2 fyX11_of fvL_68 rfl dL_law_513 hT146 rfl rfl hA146 rfl rfl (Nat.le_of_ble_eq_true rfl) (by decide) hcap (fun r2 M2 h2 => ?_)
  obtain ⟨rfl, hg⟩ := h2
  exact hz_ic_eq (pc := 516) C (tgt := 1132) dL_law_516 rfl (fun _ => kk M2 hg) (fun zzc => absurd rfl zzc)
set_option maxHeartbeats 4000000 in
set_option maxRecDepth 100000 in
theorem lwc_13 {X : hz_X} (C : hz_C X mL_law) {Ln kc ks i : Nat} {xs : Nat → Int32} (hs : hz_scr X Ln xs) (hL : Ln ≤ 256) (hi : i + 4 ≤ Ln) (hcap : hz_cap X kc ks) {M : hz_M} (hM : GOOD M) (kk : ∀ M1, GOOD M1 → hz_G X TT NN M1 kc ks 1132 [some (.ref 2000), some (.ref 1), some (.ref 146), some (.int (nI i))] []) : hz_G X TT NN M kc ks 521 [some (.ref 2000), some (.ref 1), some (.ref 146), some (.int (nI i))] [] := by
  obtain ⟨r, E, hr⟩ := ST.all (yC := mX10_far) (yM := mX11_far) (as := [.int (xs (i + 1)), .int (xs (i + 2))]) (fx_c (fx_c fx_0)) (fun q I L u V => sp_far V (xs (i + 1)) (xs (i + 2))) hM
  obtain ⟨v, rfl⟩ := tyv_int hr (Or.inl rfl)
  refine hz_aload_n (pc := 521) C dL_law_521 rfl ?_
  refine hz_aload_n (pc := 522) C dL_law_522 rfl ?_
  refine hz_iload_n (pc := 523) C dL_law_523 rfl ?_
  refine hz_iconst (pc := 524) C (v := nI 1) dL_law_524 (by decide +kernel) ?_
  refine hz_iadd (pc := 525) C (v := nI (i + 1)) dL_law_525 (nI_add _ _) ?_
  refine hz_sld (pc := 526) C hs (j := i + 1) rfl (by omega) (by omega) dL_law_526 ?_
  refine hz_aload_n (pc := 527) C dL_law_527 rfl ?_
  refine hz_iload_n (pc := 528) C dL_law_528 rfl ?_
  refine hz_iconst (pc := 529) C (v := nI 2) dL_law_529 (by decide +kernel) ?_
  refine hz_iadd (pc := 530) C (v := nI (i + 2)) dL_law_530 (nI_add _ _) ?_
  refine hz_sld (pc := 531) C hs (j := i + 2) rfl (by omega) (by omega) dL_law_531 ?_
  refine hz_callVx (pc := 532) C (as := [.int (xs (i + 1)), .int (xs (i + 2))]) (st := []) E fyX10_far fvL_69 rfl dL_law_532 hT1 rfl rfl hA1 rfl rfl (Nat.le_of_ble_eq_true rfl) (by decide) hcap (fun r1 M1 h1 => ?_)
  obtain ⟨rfl, E2⟩ := h1
  refine hz_aload_n (pc := 535) C dL_law_535 rfl ?_
  refine hz_aload_n (pc := 536) C dL_law_536 rfl ?_
  refine hz_iload_n (pc := 537) C dL_law_537 rfl ?_
  refine hz_iconst (pc := 538) C (v := nI 1) dL_law_538 (by decide +kernel) ?_
  refine hz_iadd (pc := 539) C (v := nI (i + 1)) dL_law_539 (nI_add _ _) ?_
  refine hz_sld (pc := 540) C hs (j := i + 1) rfl (by omega) (by omega) dL_law_540 ?_
  refine hz_aload_n (pc := 541) C dL_law_541 rfl ?_
  refine hz_iload_n (pc := 542) C dL_law_542 rfl ?_
  refine hz_iconst (pc := 543) C (v := nI 2) dL_law_543 (by decide +kernel) ?_
  refine hz_iadd (pc := 544) C (v := nI (i + 2)) dL_law_544 (nI_add _ _) ?_
  refine hz_sld (pc := 545) C hs (j := i + 2) rfl (by omega) (by omega) dL_law_545 ?_
  refine hz_callVx (pc := 546) C (as := [.int (xs (i + 1)), .int (xs (i + 2))]) (st := [.int v]) E2 fyX11_far fvL_72 rfl dL_law_546 hT146 rfl rfl hA146 rfl rfl (Nat.le_of_ble_eq_true rfl) (by decide) hcap (fun r2 M2 h2 => ?_)
  obtain ⟨rfl, hg⟩ := h2
  exact hz_ic_eq (pc := 549) C (tgt := 1132) dL_law_549 rfl (fun _ => kk M2 hg) (fun zzc => absurd rfl zzc)
set_option maxHeartbeats 4000000 in
set_option maxRecDepth 100000 in
theorem lwc_14 {X : hz_X} (C : hz_C X mL_law) {Ln kc ks i : Nat} {xs : Nat → Int32} (hs : hz_scr X Ln xs) (hL : Ln ≤ 256) (hi : i + 4 ≤ Ln) (hcap : hz_cap X kc ks) {M : hz_M} (hM : GOOD M) (kk : ∀ M1, GOOD M1 → hz_G X TT NN M1 kc ks 1132 [some (.ref 2000), some (.ref 1), some (.ref 146), some (.int (nI i))] []) : hz_G X TT NN M kc ks 554 [some (.ref 2000), some (.ref 1), some (.ref 146), some (.int (nI i))] [] := by
  obtain ⟨r, E, hr⟩ := ST.all (yC := mX10_beeps) (yM := mX11_beeps) (as := [.int (xs (i + 1)), .int (xs (i + 2))]) (fx_c (fx_c fx_0)) (fun q I L u V => sp_beeps V (xs (i + 1)) (xs (i + 2))) hM
  obtain ⟨v, rfl⟩ := tyv_int hr (Or.inl rfl)
  refine hz_aload_n (pc := 554) C dL_law_554 rfl ?_
  refine hz_aload_n (pc := 555) C dL_law_555 rfl ?_
  refine hz_iload_n (pc := 556) C dL_law_556 rfl ?_
  refine hz_iconst (pc := 557) C (v := nI 1) dL_law_557 (by decide +kernel) ?_
  refine hz_iadd (pc := 558) C (v := nI (i + 1)) dL_law_558 (nI_add _ _) ?_
  refine hz_sld (pc := 559) C hs (j := i + 1) rfl (by omega) (by omega) dL_law_559 ?_
  refine hz_aload_n (pc := 560) C dL_law_560 rfl ?_
  refine hz_iload_n (pc := 561) C dL_law_561 rfl ?_
  refine hz_iconst (pc := 562) C (v := nI 2) dL_law_562 (by decide +kernel) ?_
  refine hz_iadd (pc := 563) C (v := nI (i + 2)) dL_law_563 (nI_add _ _) ?_
  refine hz_sld (pc := 564) C hs (j := i + 2) rfl (by omega) (by omega) dL_law_564 ?_
  refine hz_callVx (pc := 565) C (as := [.int (xs (i + 1)), .int (xs (i + 2))]) (st := []) E fyX10_beeps fvL_73 rfl dL_law_565 hT1 rfl rfl hA1 rfl rfl (Nat.le_of_ble_eq_true rfl) (by decide) hcap (fun r1 M1 h1 => ?_)
  obtain ⟨rfl, E2⟩ := h1
  refine hz_aload_n (pc := 568) C dL_law_568 rfl ?_
  refine hz_aload_n (pc := 569) C dL_law_569 rfl ?_
  refine hz_iload_n (pc := 570) C dL_law_570 rfl ?_
  refine hz_iconst (pc := 571) C (v := nI 1) dL_law_571 (by decide +kernel) ?_
  refine hz_iadd (pc := 572) C (v := nI (i + 1)) dL_law_572 (nI_add _ _) ?_
  refine hz_sld (pc := 573) C hs (j := i + 1) rfl (by omega) (by omega) dL_law_573 ?_
  refine hz_aload_n (pc := 574) C dL_law_574 rfl ?_
  refine hz_iload_n (pc := 575) C dL_law_575 rfl ?_
  refine hz_iconst (pc := 576) C (v := nI 2) dL_law_576 (by decide +kernel) ?_
  refine hz_iadd (pc := 577) C (v := nI (i + 2)) dL_law_577 (nI_add _ _) ?_
  refine hz_sld (pc := 578) C hs (j := i + 2) rfl (by omega) (by omega) dL_law_578 ?_
  refine hz_callVx (pc := 579) C (as := [.int (xs (i + 1)), .int (xs (i + 2))]) (st := [.int v]) E2 fyX11_beeps fvL_76 rfl dL_law_579 hT146 rfl rfl hA146 rfl rfl (Nat.le_of_ble_eq_true rfl) (by decide) hcap (fun r2 M2 h2 => ?_)
  obtain ⟨rfl, hg⟩ := h2
  exact hz_ic_eq (pc := 582) C (tgt := 1132) dL_law_582 rfl (fun _ => kk M2 hg) (fun zzc => absurd rfl zzc)
set_option maxHeartbeats 4000000 in
set_option maxRecDepth 100000 in
theorem lwc_15 {X : hz_X} (C : hz_C X mL_law) {Ln kc ks i : Nat} {xs : Nat → Int32} (hs : hz_scr X Ln xs) (hL : Ln ≤ 256) (hi : i + 4 ≤ Ln) (hcap : hz_cap X kc ks) {M : hz_M} (hM : GOOD M) (kk : ∀ M1, GOOD M1 → hz_G X TT NN M1 kc ks 1132 [some (.ref 2000), some (.ref 1), some (.ref 146), some (.int (nI i))] []) : hz_G X TT NN M kc ks 587 [some (.ref 2000), some (.ref 1), some (.ref 146), some (.int (nI i))] [] := by
  obtain ⟨r, E, hr⟩ := ST.all (yC := mX10_heard) (yM := mX11_heard) (as := [.int (xs (i + 1)), .int (xs (i + 2))]) (fx_c (fx_c fx_0)) (fun q I L u V => sp_heard V (xs (i + 1)) (xs (i + 2))) hM
  obtain ⟨v, rfl⟩ := tyv_int hr (Or.inl rfl)
  refine hz_aload_n (pc := 587) C dL_law_587 rfl ?_
  refine hz_aload_n (pc := 588) C dL_law_588 rfl ?_
  refine hz_iload_n (pc := 589) C dL_law_589 rfl ?_
  refine hz_iconst (pc := 590) C (v := nI 1) dL_law_590 (by decide +kernel) ?_
  refine hz_iadd (pc := 591) C (v := nI (i + 1)) dL_law_591 (nI_add _ _) ?_
  refine hz_sld (pc := 592) C hs (j := i + 1) rfl (by omega) (by omega) dL_law_592 ?_
  refine hz_aload_n (pc := 593) C dL_law_593 rfl ?_
  refine hz_iload_n (pc := 594) C dL_law_594 rfl ?_
  refine hz_iconst (pc := 595) C (v := nI 2) dL_law_595 (by decide +kernel) ?_
  refine hz_iadd (pc := 596) C (v := nI (i + 2)) dL_law_596 (nI_add _ _) ?_
  refine hz_sld (pc := 597) C hs (j := i + 2) rfl (by omega) (by omega) dL_law_597 ?_
  refine hz_callVx (pc := 598) C (as := [.int (xs (i + 1)), .int (xs (i + 2))]) (st := []) E fyX10_heard fvL_77 rfl dL_law_598 hT1 rfl rfl hA1 rfl rfl (Nat.le_of_ble_eq_true rfl) (by decide) hcap (fun r1 M1 h1 => ?_)
  obtain ⟨rfl, E2⟩ := h1
  refine hz_aload_n (pc := 601) C dL_law_601 rfl ?_
  refine hz_aload_n (pc := 602) C dL_law_602 rfl ?_
  refine hz_iload_n (pc := 603) C dL_law_603 rfl ?_
  refine hz_iconst (pc := 604) C (v := nI 1) dL_law_604 (by decide +kernel) ?_
  refine hz_iadd (pc := 605) C (v := nI (i + 1)) dL_law_605 (nI_add _ _) ?_
  refine hz_sld (pc := 606) C hs (j := i + 1) rfl (by omega) (by omega) dL_law_606 ?_
  refine hz_aload_n (pc := 607) C dL_law_607 rfl ?_
  refine hz_iload_n (pc := 608) C dL_law_608 rfl ?_
  refine hz_iconst (pc := 609) C (v := nI 2) dL_law_609 (by decide +kernel) ?_
  refine hz_iadd (pc := 610) C (v := nI (i + 2)) dL_law_610 (nI_add _ _) ?_
  refine hz_sld (pc := 611) C hs (j := i + 2) rfl (by omega) (by omega) dL_law_611 ?_
  refine hz_callVx (pc := 612) C (as := [.int (xs (i + 1)), .int (xs (i + 2))]) (st := [.int v]) E2 fyX11_heard fvL_80 rfl dL_law_612 hT146 rfl rfl hA146 rfl rfl (Nat.le_of_ble_eq_true rfl) (by decide) hcap (fun r2 M2 h2 => ?_)
  obtain ⟨rfl, hg⟩ := h2
  exact hz_ic_eq (pc := 615) C (tgt := 1132) dL_law_615 rfl (fun _ => kk M2 hg) (fun zzc => absurd rfl zzc)
set_option maxHeartbeats 4000000 in
set_option maxRecDepth 100000 in
theorem lwc_16 {X : hz_X} (C : hz_C X mL_law) {Ln kc ks i : Nat} {xs : Nat → Int32} (hs : hz_scr X Ln xs) (hL : Ln ≤ 256) (hi : i + 4 ≤ Ln) (hcap : hz_cap X kc ks) {M : hz_M} (hM : GOOD M) (kk : ∀ M1, GOOD M1 → hz_G X TT NN M1 kc ks 1132 [some (.ref 2000), some (.ref 1), some (.ref 146), some (.int (nI i))] []) : hz_G X TT NN M kc ks 620 [some (.ref 2000), some (.ref 1), some (.ref 146), some (.int (nI i))] [] := by
  obtain ⟨r, E, hr⟩ := ST.all (yC := mX10_through) (yM := mX11_through) (as := [.int (xs (i + 1)), .int (xs (i + 2))]) (fx_c (fx_c fx_0)) (fun q I L u V => sp_through V (xs (i + 1)) (xs (i + 2))) hM
  obtain ⟨v, rfl⟩ := tyv_int hr (Or.inl rfl)
  refine hz_aload_n (pc := 620) C dL_law_620 rfl ?_
  refine hz_aload_n (pc := 621) C dL_law_621 rfl ?_
  refine hz_iload_n (pc := 622) C dL_law_622 rfl ?_
  refine hz_iconst (pc := 623) C (v := nI 1) dL_law_623 (by decide +kernel) ?_
  refine hz_iadd (pc := 624) C (v := nI (i + 1)) dL_law_624 (nI_add _ _) ?_
  refine hz_sld (pc := 625) C hs (j := i + 1) rfl (by omega) (by omega) dL_law_625 ?_
  refine hz_aload_n (pc := 626) C dL_law_626 rfl ?_
  refine hz_iload_n (pc := 627) C dL_law_627 rfl ?_
  refine hz_iconst (pc := 628) C (v := nI 2) dL_law_628 (by decide +kernel) ?_
  refine hz_iadd (pc := 629) C (v := nI (i + 2)) dL_law_629 (nI_add _ _) ?_
  refine hz_sld (pc := 630) C hs (j := i + 2) rfl (by omega) (by omega) dL_law_630 ?_
  refine hz_callVx (pc := 631) C (as := [.int (xs (i + 1)), .int (xs (i + 2))]) (st := []) E fyX10_through fvL_81 rfl dL_law_631 hT1 rfl rfl hA1 rfl rfl (Nat.le_of_ble_eq_true rfl) (by decide) hcap (fun r1 M1 h1 => ?_)
  obtain ⟨rfl, E2⟩ := h1
  refine hz_aload_n (pc := 634) C dL_law_634 rfl ?_
  refine hz_aload_n (pc := 635) C dL_law_635 rfl ?_
  refine hz_iload_n (pc := 636) C dL_law_636 rfl ?_
  refine hz_iconst (pc := 637) C (v := nI 1) dL_law_637 (by decide +kernel) ?_
  refine hz_iadd (pc := 638) C (v := nI (i + 1)) dL_law_638 (nI_add _ _) ?_
  refine hz_sld (pc := 639) C hs (j := i + 1) rfl (by omega) (by omega) dL_law_639 ?_
  refine hz_aload_n (pc := 640) C dL_law_640 rfl ?_
  refine hz_iload_n (pc := 641) C dL_law_641 rfl ?_
  refine hz_iconst (pc := 642) C (v := nI 2) dL_law_642 (by decide +kernel) ?_
  refine hz_iadd (pc := 643) C (v := nI (i + 2)) dL_law_643 (nI_add _ _) ?_
  refine hz_sld (pc := 644) C hs (j := i + 2) rfl (by omega) (by omega) dL_law_644 ?_
  refine hz_callVx (pc := 645) C (as := [.int (xs (i + 1)), .int (xs (i + 2))]) (st := [.int v]) E2 fyX11_through fvL_84 rfl dL_law_645 hT146 rfl rfl hA146 rfl rfl (Nat.le_of_ble_eq_true rfl) (by decide) hcap (fun r2 M2 h2 => ?_)
  obtain ⟨rfl, hg⟩ := h2
  exact hz_ic_eq (pc := 648) C (tgt := 1132) dL_law_648 rfl (fun _ => kk M2 hg) (fun zzc => absurd rfl zzc)
set_option maxHeartbeats 4000000 in
set_option maxRecDepth 100000 in
theorem lwc_17 {X : hz_X} (C : hz_C X mL_law) {Ln kc ks i : Nat} {xs : Nat → Int32} (hs : hz_scr X Ln xs) (hL : Ln ≤ 256) (hi : i + 4 ≤ Ln) (hcap : hz_cap X kc ks) {M : hz_M} (hM : GOOD M) (kk : ∀ M1, GOOD M1 → hz_G X TT NN M1 kc ks 1132 [some (.ref 2000), some (.ref 1), some (.ref 146), some (.int (nI i))] []) : hz_G X TT NN M kc ks 653 [some (.ref 2000), some (.ref 1), some (.ref 146), some (.int (nI i))] [] := by
  obtain ⟨r, E, hr⟩ := ST.all (yC := mX10_next) (yM := mX11_next) (as := [.int (xs (i + 1)), .int (xs (i + 2))]) (fx_c (fx_c fx_0)) (fun q I L u V => sp_next V (xs (i + 1)) (xs (i + 2))) hM
  obtain ⟨v, rfl⟩ := tyv_int hr (Or.inl rfl)
  refine hz_aload_n (pc := 653) C dL_law_653 rfl ?_
  refine hz_aload_n (pc := 654) C dL_law_654 rfl ?_
  refine hz_iload_n (pc := 655) C dL_law_655 rfl ?_
  refine hz_iconst (pc := 656) C (v := nI 1) dL_law_656 (by decide +kernel) ?_
  refine hz_iadd (pc := 657) C (v := nI (i + 1)) dL_law_657 (nI_add _ _) ?_
  refine hz_sld (pc := 658) C hs (j := i + 1) rfl (by omega) (by omega) dL_law_658 ?_
  refine hz_aload_n (pc := 659) C dL_law_659 rfl ?_
  refine hz_iload_n (pc := 660) C dL_law_660 rfl ?_
  refine hz_iconst (pc := 661) C (v := nI 2) dL_law_661 (by decide +kernel) ?_
  refine hz_iadd (pc := 662) C (v := nI (i + 2)) dL_law_662 (nI_add _ _) ?_
  refine hz_sld (pc := 663) C hs (j := i + 2) rfl (by omega) (by omega) dL_law_663 ?_
  refine hz_callVx (pc := 664) C (as := [.int (xs (i + 1)), .int (xs (i + 2))]) (st := []) E fyX10_next fvL_85 rfl dL_law_664 hT1 rfl rfl hA1 rfl rfl (Nat.le_of_ble_eq_true rfl) (by decide) hcap (fun r1 M1 h1 => ?_)
  obtain ⟨rfl, E2⟩ := h1
  refine hz_aload_n (pc := 667) C dL_law_667 rfl ?_
  refine hz_aload_n (pc := 668) C dL_law_668 rfl ?_
  refine hz_iload_n (pc := 669) C dL_law_669 rfl ?_
  refine hz_iconst (pc := 670) C (v := nI 1) dL_law_670 (by decide +kernel) ?_
  refine hz_iadd (pc := 671) C (v := nI (i + 1)) dL_law_671 (nI_add _ _) ?_
  refine hz_sld (pc := 672) C hs (j := i + 1) rfl (by omega) (by omega) dL_law_672 ?_
  refine hz_aload_n (pc := 673) C dL_law_673 rfl ?_
  refine hz_iload_n (pc := 674) C dL_law_674 rfl ?_
  refine hz_iconst (pc := 675) C (v := nI 2) dL_law_675 (by decide +kernel) ?_
  refine hz_iadd (pc := 676) C (v := nI (i + 2)) dL_law_676 (nI_add _ _) ?_
  refine hz_sld (pc := 677) C hs (j := i + 2) rfl (by omega) (by omega) dL_law_677 ?_
  refine hz_callVx (pc := 678) C (as := [.int (xs (i + 1)), .int (xs (i + 2))]) (st := [.int v]) E2 fyX11_next fvL_88 rfl dL_law_678 hT146 rfl rfl hA146 rfl rfl (Nat.le_of_ble_eq_true rfl) (by decide) hcap (fun r2 M2 h2 => ?_)
  obtain ⟨rfl, hg⟩ := h2
  exact hz_ic_eq (pc := 681) C (tgt := 1132) dL_law_681 rfl (fun _ => kk M2 hg) (fun zzc => absurd rfl zzc)
set_option maxHeartbeats 4000000 in
set_option maxRecDepth 100000 in
theorem lwc_18 {X : hz_X} (C : hz_C X mL_law) {Ln kc ks i : Nat} {xs : Nat → Int32} (hs : hz_scr X Ln xs) (hL : Ln ≤ 256) (hi : i + 4 ≤ Ln) (hcap : hz_cap X kc ks) {M : hz_M} (hM : GOOD M) (kk : ∀ M1, GOOD M1 → hz_G X TT NN M1 kc ks 1132 [some (.ref 2000), some (.ref 1), some (.ref 146), some (.int (nI i))] []) : hz_G X TT NN M kc ks 686 [some (.ref 2000), some (.ref 1), some (.ref 146), some (.int (nI i))] [] := by
  obtain ⟨r, E, hr⟩ := ST.all (yC := mX10_coldest) (yM := mX11_coldest) (as := [.int (xs (i + 1))]) (fx_c fx_0) (fun q I L u V => sp_coldest V (xs (i + 1))) hM
  obtain ⟨v, rfl⟩ := tyv_int hr (Or.inl rfl)
  refine hz_aload_n (pc := 686) C dL_law_686 rfl ?_
  refine hz_aload_n (pc := 687) C dL_law_687 rfl ?_
  refine hz_iload_n (pc := 688) C dL_law_688 rfl ?_
  refine hz_iconst (pc := 689) C (v := nI 1) dL_law_689 (by decide +kernel) ?_
  refine hz_iadd (pc := 690) C (v := nI (i + 1)) dL_law_690 (nI_add _ _) ?_
  refine hz_sld (pc := 691) C hs (j := i + 1) rfl (by omega) (by omega) dL_law_691 ?_
  refine hz_callVx (pc := 692) C (as := [.int (xs (i + 1))]) (st := []) E fyX10_coldest fvL_89 rfl dL_law_692 hT1 rfl rfl hA1 rfl rfl (Nat.le_of_ble_eq_true rfl) (by decide) hcap (fun r1 M1 h1 => ?_)
  obtain ⟨rfl, E2⟩ := h1
  refine hz_aload_n (pc := 695) C dL_law_695 rfl ?_
  refine hz_aload_n (pc := 696) C dL_law_696 rfl ?_
  refine hz_iload_n (pc := 697) C dL_law_697 rfl ?_
  refine hz_iconst (pc := 698) C (v := nI 1) dL_law_698 (by decide +kernel) ?_
  refine hz_iadd (pc := 699) C (v := nI (i + 1)) dL_law_699 (nI_add _ _) ?_
  refine hz_sld (pc := 700) C hs (j := i + 1) rfl (by omega) (by omega) dL_law_700 ?_
  refine hz_callVx (pc := 701) C (as := [.int (xs (i + 1))]) (st := [.int v]) E2 fyX11_coldest fvL_92 rfl dL_law_701 hT146 rfl rfl hA146 rfl rfl (Nat.le_of_ble_eq_true rfl) (by decide) hcap (fun r2 M2 h2 => ?_)
  obtain ⟨rfl, hg⟩ := h2
  exact hz_ic_eq (pc := 704) C (tgt := 1132) dL_law_704 rfl (fun _ => kk M2 hg) (fun zzc => absurd rfl zzc)
set_option maxHeartbeats 4000000 in
set_option maxRecDepth 100000 in
theorem lwc_19 {X : hz_X} (C : hz_C X mL_law) {Ln kc ks i : Nat} {xs : Nat → Int32} (hs : hz_scr X Ln xs) (hL : Ln ≤ 256) (hi : i + 4 ≤ Ln) (hcap : hz_cap X kc ks) {M : hz_M} (hM : GOOD M) (kk : ∀ M1, GOOD M1 → hz_G X TT NN M1 kc ks 1132 [some (.ref 2000), some (.ref 1), some (.ref 146), some (.int (nI i))] []) : hz_G X TT NN M kc ks 709 [some (.ref 2000), some (.ref 1), some (.ref 146), some (.int (nI i))] [] := by
  obtain ⟨r, E, hr⟩ := ST.all (yC := mX10_sure) (yM := mX11_sure) (as := [.int (xs (i + 1)), .int (xs (i + 2))]) (fx_c (fx_c fx_0)) (fun q I L u V => sp_sure V (xs (i + 1)) (xs (i + 2))) hM
  obtain ⟨v, rfl⟩ := tyv_int hr (Or.inl rfl)
  refine hz_aload_n (pc := 709) C dL_law_709 rfl ?_
  refine hz_aload_n (pc := 710) C dL_law_710 rfl ?_
  refine hz_iload_n (pc := 711) C dL_law_711 rfl ?_
  refine hz_iconst (pc := 712) C (v := nI 1) dL_law_712 (by decide +kernel) ?_
  refine hz_iadd (pc := 713) C (v := nI (i + 1)) dL_law_713 (nI_add _ _) ?_
  refine hz_sld (pc := 714) C hs (j := i + 1) rfl (by omega) (by omega) dL_law_714 ?_
  refine hz_aload_n (pc := 715) C dL_law_715 rfl ?_
  refine hz_iload_n (pc := 716) C dL_law_716 rfl ?_
  refine hz_iconst (pc := 717) C (v := nI 2) dL_law_717 (by decide +kernel) ?_
  refine hz_iadd (pc := 718) C (v := nI (i + 2)) dL_law_718 (nI_add _ _) ?_
  refine hz_sld (pc := 719) C hs (j := i + 2) rfl (by omega) (by omega) dL_law_719 ?_
  refine hz_callVx (pc := 720) C (as := [.int (xs (i + 1)), .int (xs (i + 2))]) (st := []) E fyX10_sure fvL_93 rfl dL_law_720 hT1 rfl rfl hA1 rfl rfl (Nat.le_of_ble_eq_true rfl) (by decide) hcap (fun r1 M1 h1 => ?_)
  obtain ⟨rfl, E2⟩ := h1
  refine hz_aload_n (pc := 723) C dL_law_723 rfl ?_
  refine hz_aload_n (pc := 724) C dL_law_724 rfl ?_
  refine hz_iload_n (pc := 725) C dL_law_725 rfl ?_
  refine hz_iconst (pc := 726) C (v := nI 1) dL_law_726 (by decide +kernel) ?_
  refine hz_iadd (pc := 727) C (v := nI (i + 1)) dL_law_727 (nI_add _ _) ?_
  refine hz_sld (pc := 728) C hs (j := i + 1) rfl (by omega) (by omega) dL_law_728 ?_
  refine hz_aload_n (pc := 729) C dL_law_729 rfl ?_
  refine hz_iload_n (pc := 730) C dL_law_730 rfl ?_
  refine hz_iconst (pc := 731) C (v := nI 2) dL_law_731 (by decide +kernel) ?_
  refine hz_iadd (pc := 732) C (v := nI (i + 2)) dL_law_732 (nI_add _ _) ?_
  refine hz_sld (pc := 733) C hs (j := i + 2) rfl (by omega) (by omega) dL_law_733 ?_
  refine hz_callVx (pc := 734) C (as := [.int (xs (i + 1)), .int (xs (i + 2))]) (st := [.int v]) E2 fyX11_sure fvL_96 rfl dL_law_734 hT146 rfl rfl hA146 rfl rfl (Nat.le_of_ble_eq_true rfl) (by decide) hcap (fun r2 M2 h2 => ?_)
  obtain ⟨rfl, hg⟩ := h2
  exact hz_ic_eq (pc := 737) C (tgt := 1132) dL_law_737 rfl (fun _ => kk M2 hg) (fun zzc => absurd rfl zzc)
set_option maxHeartbeats 4000000 in
set_option maxRecDepth 100000 in
theorem lwc_20 {X : hz_X} (C : hz_C X mL_law) {Ln kc ks i : Nat} {xs : Nat → Int32} (hs : hz_scr X Ln xs) (hL : Ln ≤ 256) (hi : i + 4 ≤ Ln) (hcap : hz_cap X kc ks) {M : hz_M} (hM : GOOD M) (kk : ∀ M1, GOOD M1 → hz_G X TT NN M1 kc ks 1132 [some (.ref 2000), some (.ref 1), some (.ref 146), some (.int (nI i))] []) : hz_G X TT NN M kc ks 742 [some (.ref 2000), some (.ref 1), some (.ref 146), some (.int (nI i))] [] := by
  obtain ⟨r, E, hr⟩ := ST.all (yC := mX10_way) (yM := mX11_way) (as := [.int (xs (i + 1))]) (fx_c fx_0) (fun q I L u V => sp_way V (xs (i + 1))) hM
  obtain ⟨v, rfl⟩ := tyv_int hr (Or.inl rfl)
  refine hz_aload_n (pc := 742) C dL_law_742 rfl ?_
  refine hz_aload_n (pc := 743) C dL_law_743 rfl ?_
  refine hz_iload_n (pc := 744) C dL_law_744 rfl ?_
  refine hz_iconst (pc := 745) C (v := nI 1) dL_law_745 (by decide +kernel) ?_
  refine hz_iadd (pc := 746) C (v := nI (i + 1)) dL_law_746 (nI_add _ _) ?_
  refine hz_sld (pc := 747) C hs (j := i + 1) rfl (by omega) (by omega) dL_law_747 ?_
  refine hz_callVx (pc := 748) C (as := [.int (xs (i + 1))]) (st := []) E fyX10_way fvL_97 rfl dL_law_748 hT1 rfl rfl hA1 rfl rfl (Nat.le_of_ble_eq_true rfl) (by decide) hcap (fun r1 M1 h1 => ?_)
  obtain ⟨rfl, E2⟩ := h1
  refine hz_aload_n (pc := 751) C dL_law_751 rfl ?_
  refine hz_aload_n (pc := 752) C dL_law_752 rfl ?_
  refine hz_iload_n (pc := 753) C dL_law_753 rfl ?_
  refine hz_iconst (pc := 754) C (v := nI 1) dL_law_754 (by decide +kernel) ?_
  refine hz_iadd (pc := 755) C (v := nI (i + 1)) dL_law_755 (nI_add _ _) ?_
  refine hz_sld (pc := 756) C hs (j := i + 1) rfl (by omega) (by omega) dL_law_756 ?_
  refine hz_callVx (pc := 757) C (as := [.int (xs (i + 1))]) (st := [.int v]) E2 fyX11_way fvL_100 rfl dL_law_757 hT146 rfl rfl hA146 rfl rfl (Nat.le_of_ble_eq_true rfl) (by decide) hcap (fun r2 M2 h2 => ?_)
  obtain ⟨rfl, hg⟩ := h2
  exact hz_ic_eq (pc := 760) C (tgt := 1132) dL_law_760 rfl (fun _ => kk M2 hg) (fun zzc => absurd rfl zzc)
set_option maxHeartbeats 4000000 in
set_option maxRecDepth 100000 in
theorem lwc_21 {X : hz_X} (C : hz_C X mL_law) {Ln kc ks i : Nat} {xs : Nat → Int32} (hs : hz_scr X Ln xs) (hL : Ln ≤ 256) (hi : i + 4 ≤ Ln) (hcap : hz_cap X kc ks) {M : hz_M} (hM : GOOD M) (kk : ∀ M1, GOOD M1 → hz_G X TT NN M1 kc ks 1132 [some (.ref 2000), some (.ref 1), some (.ref 146), some (.int (nI i))] []) : hz_G X TT NN M kc ks 765 [some (.ref 2000), some (.ref 1), some (.ref 146), some (.int (nI i))] [] := by
  obtain ⟨r, E, hr⟩ := ST.all (yC := mX10_two) (yM := mX11_two) (as := [.int (xs (i + 1)), .int (xs (i + 2))]) (fx_c (fx_c fx_0)) (fun q I L u V => sp_two V (xs (i + 1)) (xs (i + 2))) hM
  obtain ⟨v, rfl⟩ := tyv_int hr (Or.inl rfl)
  refine hz_aload_n (pc := 765) C dL_law_765 rfl ?_
  refine hz_aload_n (pc := 766) C dL_law_766 rfl ?_
  refine hz_iload_n (pc := 767) C dL_law_767 rfl ?_
  refine hz_iconst (pc := 768) C (v := nI 1) dL_law_768 (by decide +kernel) ?_
  refine hz_iadd (pc := 769) C (v := nI (i + 1)) dL_law_769 (nI_add _ _) ?_
  refine hz_sld (pc := 770) C hs (j := i + 1) rfl (by omega) (by omega) dL_law_770 ?_
  refine hz_aload_n (pc := 771) C dL_law_771 rfl ?_
  refine hz_iload_n (pc := 772) C dL_law_772 rfl ?_
  refine hz_iconst (pc := 773) C (v := nI 2) dL_law_773 (by decide +kernel) ?_
  refine hz_iadd (pc := 774) C (v := nI (i + 2)) dL_law_774 (nI_add _ _) ?_
  refine hz_sld (pc := 775) C hs (j := i + 2) rfl (by omega) (by omega) dL_law_775 ?_
  refine hz_callVx (pc := 776) C (as := [.int (xs (i + 1)), .int (xs (i + 2))]) (st := []) E fyX10_two fvL_101 rfl dL_law_776 hT1 rfl rfl hA1 rfl rfl (Nat.le_of_ble_eq_true rfl) (by decide) hcap (fun r1 M1 h1 => ?_)
  obtain ⟨rfl, E2⟩ := h1
  refine hz_aload_n (pc := 779) C dL_law_779 rfl ?_
  refine hz_aload_n (pc := 780) C dL_law_780 rfl ?_
  refine hz_iload_n (pc := 781) C dL_law_781 rfl ?_
  refine hz_iconst (pc := 782) C (v := nI 1) dL_law_782 (by decide +kernel) ?_
  refine hz_iadd (pc := 783) C (v := nI (i + 1)) dL_law_783 (nI_add _ _) ?_
  refine hz_sld (pc := 784) C hs (j := i + 1) rfl (by omega) (by omega) dL_law_784 ?_
  refine hz_aload_n (pc := 785) C dL_law_785 rfl ?_
  refine hz_iload_n (pc := 786) C dL_law_786 rfl ?_
  refine hz_iconst (pc := 787) C (v := nI 2) dL_law_787 (by decide +kernel) ?_
  refine hz_iadd (pc := 788) C (v := nI (i + 2)) dL_law_788 (nI_add _ _) ?_
  refine hz_sld (pc := 789) C hs (j := i + 2) rfl (by omega) (by omega) dL_law_789 ?_
  refine hz_callVx (pc := 790) C (as := [.int (xs (i + 1)), .int (xs (i + 2))]) (st := [.int v]) E2 fyX11_two fvL_104 rfl dL_law_790 hT146 rfl rfl hA146 rfl rfl (Nat.le_of_ble_eq_true rfl) (by decide) hcap (fun r2 M2 h2 => ?_)
  obtain ⟨rfl, hg⟩ := h2
  exact hz_ic_eq (pc := 793) C (tgt := 1132) dL_law_793 rfl (fun _ => kk M2 hg) (fun zzc => absurd rfl zzc)
set_option maxHeartbeats 4000000 in
set_option maxRecDepth 100000 in
theorem lwc_22 {X : hz_X} (C : hz_C X mL_law) {Ln kc ks i : Nat} {xs : Nat → Int32} (hs : hz_scr X Ln xs) (hL : Ln ≤ 256) (hi : i + 4 ≤ Ln) (hcap : hz_cap X kc ks) {M : hz_M} (hM : GOOD M) (kk : ∀ M1, GOOD M1 → hz_G X TT NN M1 kc ks 1132 [some (.ref 2000), some (.ref 1), some (.ref 146), some (.int (nI i))] []) : hz_G X TT NN M kc ks 798 [some (.ref 2000), some (.ref 1), some (.ref 146), some (.int (nI i))] [] := by
  obtain ⟨r, E, hr⟩ := ST.all (yC := mX10_beside) (yM := mX11_beside) (as := []) fx_0 (fun q I L u V => sp_beside V) hM
  obtain ⟨v, rfl⟩ := tyv_int hr (Or.inl rfl)
  refine hz_aload_n (pc := 798) C dL_law_798 rfl ?_
  refine hz_callVx (pc := 799) C (as := []) (st := []) E fyX10_beside fvL_105 rfl dL_law_799 hT1 rfl rfl hA1 rfl rfl (Nat.le_of_ble_eq_true rfl) (by decide) hcap (fun r1 M1 h1 => ?_)
  obtain ⟨rfl, E2⟩ := h1
  refine hz_aload_n (pc := 802) C dL_law_802 rfl ?_
  refine hz_callVx (pc := 803) C (as := []) (st := [.int v]) E2 fyX11_beside fvL_108 rfl dL_law_803 hT146 rfl rfl hA146 rfl rfl (Nat.le_of_ble_eq_true rfl) (by decide) hcap (fun r2 M2 h2 => ?_)
  obtain ⟨rfl, hg⟩ := h2
  exact hz_ic_eq (pc := 806) C (tgt := 1132) dL_law_806 rfl (fun _ => kk M2 hg) (fun zzc => absurd rfl zzc)
set_option maxHeartbeats 4000000 in
set_option maxRecDepth 100000 in
theorem lwc_23 {X : hz_X} (C : hz_C X mL_law) {Ln kc ks i : Nat} {xs : Nat → Int32} (hs : hz_scr X Ln xs) (hL : Ln ≤ 256) (hi : i + 4 ≤ Ln) (hcap : hz_cap X kc ks) {M : hz_M} (hM : GOOD M) (kk : ∀ M1, GOOD M1 → hz_G X TT NN M1 kc ks 1132 [some (.ref 2000), some (.ref 1), some (.ref 146), some (.int (nI i))] []) : hz_G X TT NN M kc ks 811 [some (.ref 2000), some (.ref 1), some (.ref 146), some (.int (nI i))] [] := by
  obtain ⟨r, E, hr⟩ := ST.all (yC := mX10_note) (yM := mX11_note) (as := [.int (xs (i + 1)), .int (xs (i + 2))]) (fx_c (fx_c fx_0)) (fun q I L u V => sp_note V (xs (i + 1)) (xs (i + 2))) hM
  obtain ⟨v, rfl⟩ := tyv_int hr (Or.inl rfl)
  refine hz_aload_n (pc := 811) C dL_law_811 rfl ?_
  refine hz_aload_n (pc := 812) C dL_law_812 rfl ?_
  refine hz_iload_n (pc := 813) C dL_law_813 rfl ?_
  refine hz_iconst (pc := 814) C (v := nI 1) dL_law_814 (by decide +kernel) ?_
  refine hz_iadd (pc := 815) C (v := nI (i + 1)) dL_law_815 (nI_add _ _) ?_
  refine hz_sld (pc := 816) C hs (j := i + 1) rfl (by omega) (by omega) dL_law_816 ?_
  refine hz_aload_n (pc := 817) C dL_law_817 rfl ?_
  refine hz_iload_n (pc := 818) C dL_law_818 rfl ?_
  refine hz_iconst (pc := 819) C (v := nI 2) dL_law_819 (by decide +kernel) ?_
  refine hz_iadd (pc := 820) C (v := nI (i + 2)) dL_law_820 (nI_add _ _) ?_
  refine hz_sld (pc := 821) C hs (j := i + 2) rfl (by omega) (by omega) dL_law_821 ?_
  refine hz_callVx (pc := 822) C (as := [.int (xs (i + 1)), .int (xs (i + 2))]) (st := []) E fyX10_note fvL_109 rfl dL_law_822 hT1 rfl rfl hA1 rfl rfl (Nat.le_of_ble_eq_true rfl) (by decide) hcap (fun r1 M1 h1 => ?_)
  obtain ⟨rfl, E2⟩ := h1
  refine hz_aload_n (pc := 825) C dL_law_825 rfl ?_
  refine hz_aload_n (pc := 826) C dL_law_826 rfl ?_
  refine hz_iload_n (pc := 827) C dL_law_827 rfl ?_
  refine hz_iconst (pc := 828) C (v := nI 1) dL_law_828 (by decide +kernel) ?_
  refine hz_iadd (pc := 829) C (v := nI (i + 1)) dL_law_829 (nI_add _ _) ?_
  refine hz_sld (pc := 830) C hs (j := i + 1) rfl (by omega) (by omega) dL_law_830 ?_
  refine hz_aload_n (pc := 831) C dL_law_831 rfl ?_
  refine hz_iload_n (pc := 832) C dL_law_832 rfl ?_
  refine hz_iconst (pc := 833) C (v := nI 2) dL_law_833 (by decide +kernel) ?_
  refine hz_iadd (pc := 834) C (v := nI (i + 2)) dL_law_834 (nI_add _ _) ?_
  refine hz_sld (pc := 835) C hs (j := i + 2) rfl (by omega) (by omega) dL_law_835 ?_
  refine hz_callVx (pc := 836) C (as := [.int (xs (i + 1)), .int (xs (i + 2))]) (st := [.int v]) E2 fyX11_note fvL_112 rfl dL_law_836 hT146 rfl rfl hA146 rfl rfl (Nat.le_of_ble_eq_true rfl) (by decide) hcap (fun r2 M2 h2 => ?_)
  obtain ⟨rfl, hg⟩ := h2
  exact hz_ic_eq (pc := 839) C (tgt := 1132) dL_law_839 rfl (fun _ => kk M2 hg) (fun zzc => absurd rfl zzc)
set_option maxHeartbeats 4000000 in
set_option maxRecDepth 100000 in
theorem lwc_24 {X : hz_X} (C : hz_C X mL_law) {Ln kc ks i : Nat} {xs : Nat → Int32} (hs : hz_scr X Ln xs) (hL : Ln ≤ 256) (hi : i + 4 ≤ Ln) (hcap : hz_cap X kc ks) {M : hz_M} (hM : GOOD M) (kk : ∀ M1, GOOD M1 → hz_G X TT NN M1 kc ks 1132 [some (.ref 2000), some (.ref 1), some (.ref 146), some (.int (nI i))] []) : hz_G X TT NN M kc ks 844 [some (.ref 2000), some (.ref 1), some (.ref 146), some (.int (nI i))] [] := by
  obtain ⟨r, E, hr⟩ := ST.all (yC := mX10_forget) (yM := mX11_forget) (as := []) fx_0 (fun q I L u V => sp_forget V) hM
  obtain ⟨v, rfl⟩ := tyv_int hr (Or.inl rfl)
  refine hz_aload_n (pc := 844) C dL_law_844 rfl ?_
  refine hz_callVx (pc := 845) C (as := []) (st := []) E fyX10_forget fvL_113 rfl dL_law_845 hT1 rfl rfl hA1 rfl rfl (Nat.le_of_ble_eq_true rfl) (by decide) hcap (fun r1 M1 h1 => ?_)
  obtain ⟨rfl, E2⟩ := h1
  refine hz_aload_n (pc := 848) C dL_law_848 rfl ?_
  refine hz_callVx (pc := 849) C (as := []) (st := [.int v]) E2 fyX11_forget fvL_116 rfl dL_law_849 hT146 rfl rfl hA146 rfl rfl (Nat.le_of_ble_eq_true rfl) (by decide) hcap (fun r2 M2 h2 => ?_)
  obtain ⟨rfl, hg⟩ := h2
  exact hz_ic_eq (pc := 852) C (tgt := 1132) dL_law_852 rfl (fun _ => kk M2 hg) (fun zzc => absurd rfl zzc)
set_option maxHeartbeats 4000000 in
set_option maxRecDepth 100000 in
theorem lwc_25 {X : hz_X} (C : hz_C X mL_law) {Ln kc ks i : Nat} {xs : Nat → Int32} (hs : hz_scr X Ln xs) (hL : Ln ≤ 256) (hi : i + 4 ≤ Ln) (hcap : hz_cap X kc ks) {M : hz_M} (hM : GOOD M) (kk : ∀ M1, GOOD M1 → hz_G X TT NN M1 kc ks 1132 [some (.ref 2000), some (.ref 1), some (.ref 146), some (.int (nI i))] []) : hz_G X TT NN M kc ks 857 [some (.ref 2000), some (.ref 1), some (.ref 146), some (.int (nI i))] [] := by
  obtain ⟨r, E, hr⟩ := ST.all (yC := mX10_which) (yM := mX11_which) (as := []) fx_0 (fun q I L u V => sp_which V) hM
  obtain ⟨v, rfl⟩ := tyv_int hr (Or.inl rfl)
  refine hz_aload_n (pc := 857) C dL_law_857 rfl ?_
  refine hz_callVx (pc := 858) C (as := []) (st := []) E fyX10_which fvL_117 rfl dL_law_858 hT1 rfl rfl hA1 rfl rfl (Nat.le_of_ble_eq_true rfl) (by decide) hcap (fun r1 M1 h1 => ?_)
  obtain ⟨rfl, E2⟩ := h1
  refine hz_aload_n (pc := 861) C dL_law_861 rfl ?_
  refine hz_callVx (pc := 862) C (as := []) (st := [.int v]) E2 fyX11_which fvL_120 rfl dL_law_862 hT146 rfl rfl hA146 rfl rfl (Nat.le_of_ble_eq_true rfl) (by decide) hcap (fun r2 M2 h2 => ?_)
  obtain ⟨rfl, hg⟩ := h2
  exact hz_ic_eq (pc := 865) C (tgt := 1132) dL_law_865 rfl (fun _ => kk M2 hg) (fun zzc => absurd rfl zzc)
set_option maxHeartbeats 4000000 in
set_option maxRecDepth 100000 in
theorem lwc_26 {X : hz_X} (C : hz_C X mL_law) {Ln kc ks i : Nat} {xs : Nat → Int32} (hs : hz_scr X Ln xs) (hL : Ln ≤ 256) (hi : i + 4 ≤ Ln) (hcap : hz_cap X kc ks) {M : hz_M} (hM : GOOD M) (kk : ∀ M1, GOOD M1 → hz_G X TT NN M1 kc ks 1132 [some (.ref 2000), some (.ref 1), some (.ref 146), some (.int (nI i))] []) : hz_G X TT NN M kc ks 870 [some (.ref 2000), some (.ref 1), some (.ref 146), some (.int (nI i))] [] := by
  obtain ⟨r, E, hr⟩ := ST.all (yC := mX10_stand) (yM := mX11_stand) (as := []) fx_0 (fun q I L u V => sp_stand V) hM
  obtain ⟨v, rfl⟩ := tyv_int hr (Or.inl rfl)
  refine hz_aload_n (pc := 870) C dL_law_870 rfl ?_
  refine hz_callVx (pc := 871) C (as := []) (st := []) E fyX10_stand fvL_121 rfl dL_law_871 hT1 rfl rfl hA1 rfl rfl (Nat.le_of_ble_eq_true rfl) (by decide) hcap (fun r1 M1 h1 => ?_)
  obtain ⟨rfl, E2⟩ := h1
  refine hz_aload_n (pc := 874) C dL_law_874 rfl ?_
  refine hz_callVx (pc := 875) C (as := []) (st := [.int v]) E2 fyX11_stand fvL_124 rfl dL_law_875 hT146 rfl rfl hA146 rfl rfl (Nat.le_of_ble_eq_true rfl) (by decide) hcap (fun r2 M2 h2 => ?_)
  obtain ⟨rfl, hg⟩ := h2
  exact hz_ic_eq (pc := 878) C (tgt := 1132) dL_law_878 rfl (fun _ => kk M2 hg) (fun zzc => absurd rfl zzc)
set_option maxHeartbeats 4000000 in
set_option maxRecDepth 100000 in
theorem lwc_27 {X : hz_X} (C : hz_C X mL_law) {Ln kc ks i : Nat} {xs : Nat → Int32} (hs : hz_scr X Ln xs) (hL : Ln ≤ 256) (hi : i + 4 ≤ Ln) (hcap : hz_cap X kc ks) {M : hz_M} (hM : GOOD M) (kk : ∀ M1, GOOD M1 → hz_G X TT NN M1 kc ks 1132 [some (.ref 2000), some (.ref 1), some (.ref 146), some (.int (nI i))] []) : hz_G X TT NN M kc ks 883 [some (.ref 2000), some (.ref 1), some (.ref 146), some (.int (nI i))] [] := by
  obtain ⟨r, E, hr⟩ := ST.all (yC := mX10_is) (yM := mX11_is) (as := [.int (xs (i + 1)), .int (xs (i + 2)), .int (xs (i + 3))]) (fx_c (fx_c (fx_c fx_0))) (fun q I L u V => sp_is V (xs (i + 1)) (xs (i + 2)) (xs (i + 3))) hM
  obtain ⟨v, rfl⟩ := tyv_int hr (Or.inl rfl)
  refine hz_aload_n (pc := 883) C dL_law_883 rfl ?_
  refine hz_aload_n (pc := 884) C dL_law_884 rfl ?_
  refine hz_iload_n (pc := 885) C dL_law_885 rfl ?_
  refine hz_iconst (pc := 886) C (v := nI 1) dL_law_886 (by decide +kernel) ?_
  refine hz_iadd (pc := 887) C (v := nI (i + 1)) dL_law_887 (nI_add _ _) ?_
  refine hz_sld (pc := 888) C hs (j := i + 1) rfl (by omega) (by omega) dL_law_888 ?_
  refine hz_aload_n (pc := 889) C dL_law_889 rfl ?_
  refine hz_iload_n (pc := 890) C dL_law_890 rfl ?_
  refine hz_iconst (pc := 891) C (v := nI 2) dL_law_891 (by decide +kernel) ?_
  refine hz_iadd (pc := 892) C (v := nI (i + 2)) dL_law_892 (nI_add _ _) ?_
  refine hz_sld (pc := 893) C hs (j := i + 2) rfl (by omega) (by omega) dL_law_893 ?_
  refine hz_aload_n (pc := 894) C dL_law_894 rfl ?_
  refine hz_iload_n (pc := 895) C dL_law_895 rfl ?_
  refine hz_iconst (pc := 896) C (v := nI 3) dL_law_896 (by decide +kernel) ?_
  refine hz_iadd (pc := 897) C (v := nI (i + 3)) dL_law_897 (nI_add _ _) ?_
  refine hz_sld (pc := 898) C hs (j := i + 3) rfl (by omega) (by omega) dL_law_898 ?_
  refine hz_callVx (pc := 899) C (as := [.int (xs (i + 1)), .int (xs (i + 2)), .int (xs (i + 3))]) (st := []) E fyX10_is fvL_125 rfl dL_law_899 hT1 rfl rfl hA1 rfl rfl (Nat.le_of_ble_eq_true rfl) (by decide) hcap (fun r1 M1 h1 => ?_)
  obtain ⟨rfl, E2⟩ := h1
  refine hz_aload_n (pc := 902) C dL_law_902 rfl ?_
  refine hz_aload_n (pc := 903) C dL_law_903 rfl ?_
  refine hz_iload_n (pc := 904) C dL_law_904 rfl ?_
  refine hz_iconst (pc := 905) C (v := nI 1) dL_law_905 (by decide +kernel) ?_
  refine hz_iadd (pc := 906) C (v := nI (i + 1)) dL_law_906 (nI_add _ _) ?_
  refine hz_sld (pc := 907) C hs (j := i + 1) rfl (by omega) (by omega) dL_law_907 ?_
  refine hz_aload_n (pc := 908) C dL_law_908 rfl ?_
  refine hz_iload_n (pc := 909) C dL_law_909 rfl ?_
  refine hz_iconst (pc := 910) C (v := nI 2) dL_law_910 (by decide +kernel) ?_
  refine hz_iadd (pc := 911) C (v := nI (i + 2)) dL_law_911 (nI_add _ _) ?_
  refine hz_sld (pc := 912) C hs (j := i + 2) rfl (by omega) (by omega) dL_law_912 ?_
  refine hz_aload_n (pc := 913) C dL_law_913 rfl ?_
  refine hz_iload_n (pc := 914) C dL_law_914 rfl ?_
  refine hz_iconst (pc := 915) C (v := nI 3) dL_law_915 (by decide +kernel) ?_
  refine hz_iadd (pc := 916) C (v := nI (i + 3)) dL_law_916 (nI_add _ _) ?_
  refine hz_sld (pc := 917) C hs (j := i + 3) rfl (by omega) (by omega) dL_law_917 ?_
  refine hz_callVx (pc := 918) C (as := [.int (xs (i + 1)), .int (xs (i + 2)), .int (xs (i + 3))]) (st := [.int v]) E2 fyX11_is fvL_128 rfl dL_law_918 hT146 rfl rfl hA146 rfl rfl (Nat.le_of_ble_eq_true rfl) (by decide) hcap (fun r2 M2 h2 => ?_)
  obtain ⟨rfl, hg⟩ := h2
  exact hz_ic_eq (pc := 921) C (tgt := 1132) dL_law_921 rfl (fun _ => kk M2 hg) (fun zzc => absurd rfl zzc)
set_option maxHeartbeats 4000000 in
set_option maxRecDepth 100000 in
theorem lwc_28 {X : hz_X} (C : hz_C X mL_law) {Ln kc ks i : Nat} {xs : Nat → Int32} (hs : hz_scr X Ln xs) (hL : Ln ≤ 256) (hi : i + 4 ≤ Ln) (hcap : hz_cap X kc ks) {M : hz_M} (hM : GOOD M) (kk : ∀ M1, GOOD M1 → hz_G X TT NN M1 kc ks 1132 [some (.ref 2000), some (.ref 1), some (.ref 146), some (.int (nI i))] []) : hz_G X TT NN M kc ks 926 [some (.ref 2000), some (.ref 1), some (.ref 146), some (.int (nI i))] [] := by
  obtain ⟨r, E, hr⟩ := ST.all (yC := mX10_missed) (yM := mX11_missed) (as := [.int (xs (i + 1)), .int (xs (i + 2)), .int (xs (i + 3))]) (fx_c (fx_c (fx_c fx_0))) (fun q I L u V => sp_missed V (xs (i + 1)) (xs (i + 2)) (xs (i + 3))) hM
  obtain ⟨v, rfl⟩ := tyv_int hr (Or.inl rfl)
  refine hz_aload_n (pc := 926) C dL_law_926 rfl ?_
  refine hz_aload_n (pc := 927) C dL_law_927 rfl ?_
  refine hz_iload_n (pc := 928) C dL_law_928 rfl ?_
  refine hz_iconst (pc := 929) C (v := nI 1) dL_law_929 (by decide +kernel) ?_
  refine hz_iadd (pc := 930) C (v := nI (i + 1)) dL_law_930 (nI_add _ _) ?_
  refine hz_sld (pc := 931) C hs (j := i + 1) rfl (by omega) (by omega) dL_law_931 ?_
  refine hz_aload_n (pc := 932) C dL_law_932 rfl ?_
  refine hz_iload_n (pc := 933) C dL_law_933 rfl ?_
  refine hz_iconst (pc := 934) C (v := nI 2) dL_law_934 (by decide +kernel) ?_
  refine hz_iadd (pc := 935) C (v := nI (i + 2)) dL_law_935 (nI_add _ _) ?_
  refine hz_sld (pc := 936) C hs (j := i + 2) rfl (by omega) (by omega) dL_law_936 ?_
  refine hz_aload_n (pc := 937) C dL_law_937 rfl ?_
  refine hz_iload_n (pc := 938) C dL_law_938 rfl ?_
  refine hz_iconst (pc := 939) C (v := nI 3) dL_law_939 (by decide +kernel) ?_
  refine hz_iadd (pc := 940) C (v := nI (i + 3)) dL_law_940 (nI_add _ _) ?_
  refine hz_sld (pc := 941) C hs (j := i + 3) rfl (by omega) (by omega) dL_law_941 ?_
  refine hz_callVx (pc := 942) C (as := [.int (xs (i + 1)), .int (xs (i + 2)), .int (xs (i + 3))]) (st := []) E fyX10_missed fvL_129 rfl dL_law_942 hT1 rfl rfl hA1 rfl rfl (Nat.le_of_ble_eq_true rfl) (by decide) hcap (fun r1 M1 h1 => ?_)
  obtain ⟨rfl, E2⟩ := h1
  refine hz_aload_n (pc := 945) C dL_law_945 rfl ?_
  refine hz_aload_n (pc := 946) C dL_law_946 rfl ?_
  refine hz_iload_n (pc := 947) C dL_law_947 rfl ?_
  refine hz_iconst (pc := 948) C (v := nI 1) dL_law_948 (by decide +kernel) ?_
  refine hz_iadd (pc := 949) C (v := nI (i + 1)) dL_law_949 (nI_add _ _) ?_
  refine hz_sld (pc := 950) C hs (j := i + 1) rfl (by omega) (by omega) dL_law_950 ?_
  refine hz_aload_n (pc := 951) C dL_law_951 rfl ?_
  refine hz_iload_n (pc := 952) C dL_law_952 rfl ?_
  refine hz_iconst (pc := 953) C (v := nI 2) dL_law_953 (by decide +kernel) ?_
  refine hz_iadd (pc := 954) C (v := nI (i + 2)) dL_law_954 (nI_add _ _) ?_
  refine hz_sld (pc := 955) C hs (j := i + 2) rfl (by omega) (by omega) dL_law_955 ?_
  refine hz_aload_n (pc := 956) C dL_law_956 rfl ?_
  refine hz_iload_n (pc := 957) C dL_law_957 rfl ?_
  refine hz_iconst (pc := 958) C (v := nI 3) dL_law_958 (by decide +kernel) ?_
  refine hz_iadd (pc := 959) C (v := nI (i + 3)) dL_law_959 (nI_add _ _) ?_
  refine hz_sld (pc := 960) C hs (j := i + 3) rfl (by omega) (by omega) dL_law_960 ?_
  refine hz_callVx (pc := 961) C (as := [.int (xs (i + 1)), .int (xs (i + 2)), .int (xs (i + 3))]) (st := [.int v]) E2 fyX11_missed fvL_132 rfl dL_law_961 hT146 rfl rfl hA146 rfl rfl (Nat.le_of_ble_eq_true rfl) (by decide) hcap (fun r2 M2 h2 => ?_)
  obtain ⟨rfl, hg⟩ := h2
  exact hz_ic_eq (pc := 964) C (tgt := 1132) dL_law_964 rfl (fun _ => kk M2 hg) (fun zzc => absurd rfl zzc)
set_option maxHeartbeats 4000000 in
set_option maxRecDepth 100000 in
theorem lwc_29 {X : hz_X} (C : hz_C X mL_law) {Ln kc ks i : Nat} {xs : Nat → Int32} (hs : hz_scr X Ln xs) (hL : Ln ≤ 256) (hi : i + 4 ≤ Ln) (hcap : hz_cap X kc ks) {M : hz_M} (hM : GOOD M) (kk : ∀ M1, GOOD M1 → hz_G X TT NN M1 kc ks 1132 [some (.ref 2000), some (.ref 1), some (.ref 146), some (.int (nI i))] []) : hz_G X TT NN M kc ks 969 [some (.ref 2000), some (.ref 1), some (.ref 146), some (.int (nI i))] [] := by
  obtain ⟨r, E, hr⟩ := ST.all (yC := mX10_nights) (yM := mX11_nights) (as := [.int (xs (i + 1)), .int (xs (i + 2))]) (fx_c (fx_c fx_0)) (fun q I L u V => sp_nights V (xs (i + 1)) (xs (i + 2))) hM
  obtain ⟨v, rfl⟩ := tyv_int hr (Or.inl rfl)
  refine hz_aload_n (pc := 969) C dL_law_969 rfl ?_
  refine hz_aload_n (pc := 970) C dL_law_970 rfl ?_
  refine hz_iload_n (pc := 971) C dL_law_971 rfl ?_
  refine hz_iconst (pc := 972) C (v := nI 1) dL_law_972 (by decide +kernel) ?_
  refine hz_iadd (pc := 973) C (v := nI (i + 1)) dL_law_973 (nI_add _ _) ?_
  refine hz_sld (pc := 974) C hs (j := i + 1) rfl (by omega) (by omega) dL_law_974 ?_
  refine hz_aload_n (pc := 975) C dL_law_975 rfl ?_
  refine hz_iload_n (pc := 976) C dL_law_976 rfl ?_
  refine hz_iconst (pc := 977) C (v := nI 2) dL_law_977 (by decide +kernel) ?_
  refine hz_iadd (pc := 978) C (v := nI (i + 2)) dL_law_978 (nI_add _ _) ?_
  refine hz_sld (pc := 979) C hs (j := i + 2) rfl (by omega) (by omega) dL_law_979 ?_
  refine hz_callVx (pc := 980) C (as := [.int (xs (i + 1)), .int (xs (i + 2))]) (st := []) E fyX10_nights fvL_133 rfl dL_law_980 hT1 rfl rfl hA1 rfl rfl (Nat.le_of_ble_eq_true rfl) (by decide) hcap (fun r1 M1 h1 => ?_)
  obtain ⟨rfl, E2⟩ := h1
  refine hz_aload_n (pc := 983) C dL_law_983 rfl ?_
  refine hz_aload_n (pc := 984) C dL_law_984 rfl ?_
  refine hz_iload_n (pc := 985) C dL_law_985 rfl ?_
  refine hz_iconst (pc := 986) C (v := nI 1) dL_law_986 (by decide +kernel) ?_
  refine hz_iadd (pc := 987) C (v := nI (i + 1)) dL_law_987 (nI_add _ _) ?_
  refine hz_sld (pc := 988) C hs (j := i + 1) rfl (by omega) (by omega) dL_law_988 ?_
  refine hz_aload_n (pc := 989) C dL_law_989 rfl ?_
  refine hz_iload_n (pc := 990) C dL_law_990 rfl ?_
  refine hz_iconst (pc := 991) C (v := nI 2) dL_law_991 (by decide +kernel) ?_
  refine hz_iadd (pc := 992) C (v := nI (i + 2)) dL_law_992 (nI_add _ _) ?_
  refine hz_sld (pc := 993) C hs (j := i + 2) rfl (by omega) (by omega) dL_law_993 ?_
  refine hz_callVx (pc := 994) C (as := [.int (xs (i + 1)), .int (xs (i + 2))]) (st := [.int v]) E2 fyX11_nights fvL_136 rfl dL_law_994 hT146 rfl rfl hA146 rfl rfl (Nat.le_of_ble_eq_true rfl) (by decide) hcap (fun r2 M2 h2 => ?_)
  obtain ⟨rfl, hg⟩ := h2
  exact hz_ic_eq (pc := 997) C (tgt := 1132) dL_law_997 rfl (fun _ => kk M2 hg) (fun zzc => absurd rfl zzc)
set_option maxHeartbeats 4000000 in
set_option maxRecDepth 100000 in
theorem lwc_30 {X : hz_X} (C : hz_C X mL_law) {Ln kc ks i : Nat} {xs : Nat → Int32} (hs : hz_scr X Ln xs) (hL : Ln ≤ 256) (hi : i + 4 ≤ Ln) (hcap : hz_cap X kc ks) {M : hz_M} (hM : GOOD M) (kk : ∀ M1, GOOD M1 → hz_G X TT NN M1 kc ks 1132 [some (.ref 2000), some (.ref 1), some (.ref 146), some (.int (nI i))] []) : hz_G X TT NN M kc ks 1002 [some (.ref 2000), some (.ref 1), some (.ref 146), some (.int (nI i))] [] := by
  obtain ⟨r, E, hr⟩ := ST.all (yC := mX10_part) (yM := mX11_part) (as := [.int (xs (i + 1))]) (fx_c fx_0) (fun q I L u V => sp_part V (xs (i + 1))) hM
  obtain ⟨v, rfl⟩ := tyv_long hr rfl
  refine hz_aload_n (pc := 1002) C dL_law_1002 rfl ?_
  refine hz_aload_n (pc := 1003) C dL_law_1003 rfl ?_
  refine hz_iload_n (pc := 1004) C dL_law_1004 rfl ?_
  refine hz_iconst (pc := 1005) C (v := nI 1) dL_law_1005 (by decide +kernel) ?_
  refine hz_iadd (pc := 1006) C (v := nI (i + 1)) dL_law_1006 (nI_add _ _) ?_
  refine hz_sld (pc := 1007) C hs (j := i + 1) rfl (by omega) (by omega) dL_law_1007 ?_
  refine hz_callVx (pc := 1008) C (as := [.int (xs (i + 1))]) (st := []) E fyX10_part fvL_137 rfl dL_law_1008 hT1 rfl rfl hA1 rfl rfl (Nat.le_of_ble_eq_true rfl) (by decide) hcap (fun r1 M1 h1 => ?_)
  obtain ⟨rfl, E2⟩ := h1
  refine hz_aload_n (pc := 1011) C dL_law_1011 rfl ?_
  refine hz_aload_n (pc := 1012) C dL_law_1012 rfl ?_
  refine hz_iload_n (pc := 1013) C dL_law_1013 rfl ?_
  refine hz_iconst (pc := 1014) C (v := nI 1) dL_law_1014 (by decide +kernel) ?_
  refine hz_iadd (pc := 1015) C (v := nI (i + 1)) dL_law_1015 (nI_add _ _) ?_
  refine hz_sld (pc := 1016) C hs (j := i + 1) rfl (by omega) (by omega) dL_law_1016 ?_
  refine hz_callVx (pc := 1017) C (as := [.int (xs (i + 1))]) (st := [.long v]) E2 fyX11_part fvL_141 rfl dL_law_1017 hT146 rfl rfl hA146 rfl rfl (Nat.le_of_ble_eq_true rfl) (by decide) hcap (fun r2 M2 h2 => ?_)
  obtain ⟨rfl, hg⟩ := h2
  refine hz_lcmp (pc := 1020) C dL_law_1020 ?_
  exact hz_if_eq (pc := 1021) C (tgt := 1132) dL_law_1021 rfl (fun _ => kk M2 hg) (fun zzc => absurd (cmp_rf _) zzc)
set_option maxHeartbeats 4000000 in
set_option maxRecDepth 100000 in
theorem lwc_31 {X : hz_X} (C : hz_C X mL_law) {Ln kc ks i : Nat} {xs : Nat → Int32} (hs : hz_scr X Ln xs) (hL : Ln ≤ 256) (hi : i + 4 ≤ Ln) (hcap : hz_cap X kc ks) {M : hz_M} (hM : GOOD M) (kk : ∀ M1, GOOD M1 → hz_G X TT NN M1 kc ks 1132 [some (.ref 2000), some (.ref 1), some (.ref 146), some (.int (nI i))] []) : hz_G X TT NN M kc ks 1026 [some (.ref 2000), some (.ref 1), some (.ref 146), some (.int (nI i))] [] := by
  obtain ⟨r, E, hr⟩ := ST.all (yC := mX10_image) (yM := mX11_image) (as := [.int (xs (i + 1))]) (fx_c fx_0) (fun q I L u V => sp_image V (xs (i + 1))) hM
  obtain ⟨v, rfl⟩ := tyv_int hr (Or.inl rfl)
  refine hz_aload_n (pc := 1026) C dL_law_1026 rfl ?_
  refine hz_aload_n (pc := 1027) C dL_law_1027 rfl ?_
  refine hz_iload_n (pc := 1028) C dL_law_1028 rfl ?_
  refine hz_iconst (pc := 1029) C (v := nI 1) dL_law_1029 (by decide +kernel) ?_
  refine hz_iadd (pc := 1030) C (v := nI (i + 1)) dL_law_1030 (nI_add _ _) ?_
  refine hz_sld (pc := 1031) C hs (j := i + 1) rfl (by omega) (by omega) dL_law_1031 ?_
  refine hz_callVx (pc := 1032) C (as := [.int (xs (i + 1))]) (st := []) E fyX10_image fvL_142 rfl dL_law_1032 hT1 rfl rfl hA1 rfl rfl (Nat.le_of_ble_eq_true rfl) (by decide) hcap (fun r1 M1 h1 => ?_)
  obtain ⟨rfl, E2⟩ := h1
  refine hz_aload_n (pc := 1035) C dL_law_1035 rfl ?_
  refine hz_aload_n (pc := 1036) C dL_law_1036 rfl ?_
  refine hz_iload_n (pc := 1037) C dL_law_1037 rfl ?_
  refine hz_iconst (pc := 1038) C (v := nI 1) dL_law_1038 (by decide +kernel) ?_
  refine hz_iadd (pc := 1039) C (v := nI (i + 1)) dL_law_1039 (nI_add _ _) ?_
  refine hz_sld (pc := 1040) C hs (j := i + 1) rfl (by omega) (by omega) dL_law_1040 ?_
  refine hz_callVx (pc := 1041) C (as := [.int (xs (i + 1))]) (st := [.int v]) E2 fyX11_image fvL_145 rfl dL_law_1041 hT146 rfl rfl hA146 rfl rfl (Nat.le_of_ble_eq_true rfl) (by decide) hcap (fun r2 M2 h2 => ?_)
  obtain ⟨rfl, hg⟩ := h2
  exact hz_ic_eq (pc := 1044) C (tgt := 1132) dL_law_1044 rfl (fun _ => kk M2 hg) (fun zzc => absurd rfl zzc)
set_option maxHeartbeats 4000000 in
set_option maxRecDepth 100000 in
theorem lwc_32 {X : hz_X} (C : hz_C X mL_law) {Ln kc ks i : Nat} {xs : Nat → Int32} (hs : hz_scr X Ln xs) (hL : Ln ≤ 256) (hi : i + 4 ≤ Ln) (hcap : hz_cap X kc ks) {M : hz_M} (hM : GOOD M) (kk : ∀ M1, GOOD M1 → hz_G X TT NN M1 kc ks 1132 [some (.ref 2000), some (.ref 1), some (.ref 146), some (.int (nI i))] []) : hz_G X TT NN M kc ks 1049 [some (.ref 2000), some (.ref 1), some (.ref 146), some (.int (nI i))] [] := by
  obtain ⟨r, E, hr⟩ := ST.all (yC := mX10_from) (yM := mX11_from) (as := [.int (xs (i + 1))]) (fx_c fx_0) (fun q I L u V => sp_from V (xs (i + 1))) hM
  obtain ⟨v, rfl⟩ := tyv_int hr (Or.inl rfl)
  refine hz_aload_n (pc := 1049) C dL_law_1049 rfl ?_
  refine hz_aload_n (pc := 1050) C dL_law_1050 rfl ?_
  refine hz_iload_n (pc := 1051) C dL_law_1051 rfl ?_
  refine hz_iconst (pc := 1052) C (v := nI 1) dL_law_1052 (by decide +kernel) ?_
  refine hz_iadd (pc := 1053) C (v := nI (i + 1)) dL_law_1053 (nI_add _ _) ?_
  refine hz_sld (pc := 1054) C hs (j := i + 1) rfl (by omega) (by omega) dL_law_1054 ?_
  refine hz_callVx (pc := 1055) C (as := [.int (xs (i + 1))]) (st := []) E fyX10_from fvL_146 rfl dL_law_1055 hT1 rfl rfl hA1 rfl rfl (Nat.le_of_ble_eq_true rfl) (by decide) hcap (fun r1 M1 h1 => ?_)
  obtain ⟨rfl, E2⟩ := h1
  refine hz_aload_n (pc := 1058) C dL_law_1058 rfl ?_
  refine hz_aload_n (pc := 1059) C dL_law_1059 rfl ?_
  refine hz_iload_n (pc := 1060) C dL_law_1060 rfl ?_
  refine hz_iconst (pc := 1061) C (v := nI 1) dL_law_1061 (by decide +kernel) ?_
  refine hz_iadd (pc := 1062) C (v := nI (i + 1)) dL_law_1062 (nI_add _ _) ?_
  refine hz_sld (pc := 1063) C hs (j := i + 1) rfl (by omega) (by omega) dL_law_1063 ?_
  refine hz_callVx (pc := 1064) C (as := [.int (xs (i + 1))]) (st := [.int v]) E2 fyX11_from fvL_149 rfl dL_law_1064 hT146 rfl rfl hA146 rfl rfl (Nat.le_of_ble_eq_true rfl) (by decide) hcap (fun r2 M2 h2 => ?_)
  obtain ⟨rfl, hg⟩ := h2
  exact hz_ic_eq (pc := 1067) C (tgt := 1132) dL_law_1067 rfl (fun _ => kk M2 hg) (fun zzc => absurd rfl zzc)
set_option maxHeartbeats 4000000 in
set_option maxRecDepth 100000 in
theorem lwc_33 {X : hz_X} (C : hz_C X mL_law) {Ln kc ks i : Nat} {xs : Nat → Int32} (hs : hz_scr X Ln xs) (hL : Ln ≤ 256) (hi : i + 4 ≤ Ln) (hcap : hz_cap X kc ks) {M : hz_M} (hM : GOOD M) (kk : ∀ M1, GOOD M1 → hz_G X TT NN M1 kc ks 1132 [some (.ref 2000), some (.ref 1), some (.ref 146), some (.int (nI i))] []) : hz_G X TT NN M kc ks 1072 [some (.ref 2000), some (.ref 1), some (.ref 146), some (.int (nI i))] [] := by
  obtain ⟨r, E, hr⟩ := ST.all (yC := mX10_status) (yM := mX11_status) (as := [.int (xs (i + 1))]) (fx_c fx_0) (fun q I L u V => sp_status V (xs (i + 1))) hM
  obtain ⟨v, rfl⟩ := tyv_int hr (Or.inl rfl)
  refine hz_aload_n (pc := 1072) C dL_law_1072 rfl ?_
  refine hz_aload_n (pc := 1073) C dL_law_1073 rfl ?_
  refine hz_iload_n (pc := 1074) C dL_law_1074 rfl ?_
  refine hz_iconst (pc := 1075) C (v := nI 1) dL_law_1075 (by decide +kernel) ?_
  refine hz_iadd (pc := 1076) C (v := nI (i + 1)) dL_law_1076 (nI_add _ _) ?_
  refine hz_sld (pc := 1077) C hs (j := i + 1) rfl (by omega) (by omega) dL_law_1077 ?_
  refine hz_callVx (pc := 1078) C (as := [.int (xs (i + 1))]) (st := []) E fyX10_status fvL_150 rfl dL_law_1078 hT1 rfl rfl hA1 rfl rfl (Nat.le_of_ble_eq_true rfl) (by decide) hcap (fun r1 M1 h1 => ?_)
  obtain ⟨rfl, E2⟩ := h1
  refine hz_aload_n (pc := 1081) C dL_law_1081 rfl ?_
  refine hz_aload_n (pc := 1082) C dL_law_1082 rfl ?_
  refine hz_iload_n (pc := 1083) C dL_law_1083 rfl ?_
  refine hz_iconst (pc := 1084) C (v := nI 1) dL_law_1084 (by decide +kernel) ?_
  refine hz_iadd (pc := 1085) C (v := nI (i + 1)) dL_law_1085 (nI_add _ _) ?_
  refine hz_sld (pc := 1086) C hs (j := i + 1) rfl (by omega) (by omega) dL_law_1086 ?_
  refine hz_callVx (pc := 1087) C (as := [.int (xs (i + 1))]) (st := [.int v]) E2 fyX11_status fvL_153 rfl dL_law_1087 hT146 rfl rfl hA146 rfl rfl (Nat.le_of_ble_eq_true rfl) (by decide) hcap (fun r2 M2 h2 => ?_)
  obtain ⟨rfl, hg⟩ := h2
  exact hz_ic_eq (pc := 1090) C (tgt := 1132) dL_law_1090 rfl (fun _ => kk M2 hg) (fun zzc => absurd rfl zzc)
set_option maxHeartbeats 4000000 in
set_option maxRecDepth 100000 in
theorem lwc_34 {X : hz_X} (C : hz_C X mL_law) {Ln kc ks i : Nat} {xs : Nat → Int32} (hs : hz_scr X Ln xs) (hL : Ln ≤ 256) (hi : i + 4 ≤ Ln) (hcap : hz_cap X kc ks) {M : hz_M} (hM : GOOD M) (kk : ∀ M1, GOOD M1 → hz_G X TT NN M1 kc ks 1132 [some (.ref 2000), some (.ref 1), some (.ref 146), some (.int (nI i))] []) : hz_G X TT NN M kc ks 1095 [some (.ref 2000), some (.ref 1), some (.ref 146), some (.int (nI i))] [] := by
  obtain ⟨r, E, hr⟩ := ST.all (yC := mX10_count) (yM := mX11_count) (as := [.int (xs (i + 1))]) (fx_c fx_0) (fun q I L u V => sp_count V (xs (i + 1))) hM
  obtain ⟨v, rfl⟩ := tyv_int hr (Or.inl rfl)
  refine hz_aload_n (pc := 1095) C dL_law_1095 rfl ?_
  refine hz_aload_n (pc := 1096) C dL_law_1096 rfl ?_
  refine hz_iload_n (pc := 1097) C dL_law_1097 rfl ?_
  refine hz_iconst (pc := 1098) C (v := nI 1) dL_law_1098 (by decide +kernel) ?_
  refine hz_iadd (pc := 1099) C (v := nI (i + 1)) dL_law_1099 (nI_add _ _) ?_
  refine hz_sld (pc := 1100) C hs (j := i + 1) rfl (by omega) (by omega) dL_law_1100 ?_
  refine hz_callVx (pc := 1101) C (as := [.int (xs (i + 1))]) (st := []) E fyX10_count fvL_154 rfl dL_law_1101 hT1 rfl rfl hA1 rfl rfl (Nat.le_of_ble_eq_true rfl) (by decide) hcap (fun r1 M1 h1 => ?_)
  obtain ⟨rfl, E2⟩ := h1
  refine hz_aload_n (pc := 1104) C dL_law_1104 rfl ?_
  refine hz_aload_n (pc := 1105) C dL_law_1105 rfl ?_
  refine hz_iload_n (pc := 1106) C dL_law_1106 rfl ?_
  refine hz_iconst (pc := 1107) C (v := nI 1) dL_law_1107 (by decide +kernel) ?_
  refine hz_iadd (pc := 1108) C (v := nI (i + 1)) dL_law_1108 (nI_add _ _) ?_
  refine hz_sld (pc := 1109) C hs (j := i + 1) rfl (by omega) (by omega) dL_law_1109 ?_
  refine hz_callVx (pc := 1110) C (as := [.int (xs (i + 1))]) (st := [.int v]) E2 fyX11_count fvL_157 rfl dL_law_1110 hT146 rfl rfl hA146 rfl rfl (Nat.le_of_ble_eq_true rfl) (by decide) hcap (fun r2 M2 h2 => ?_)
  obtain ⟨rfl, hg⟩ := h2
  exact hz_ic_eq (pc := 1113) C (tgt := 1132) dL_law_1113 rfl (fun _ => kk M2 hg) (fun zzc => absurd rfl zzc)
set_option maxHeartbeats 4000000 in
set_option maxRecDepth 100000 in
theorem lwc_35 {X : hz_X} (C : hz_C X mL_law) {Ln kc ks i : Nat} {xs : Nat → Int32} (hs : hz_scr X Ln xs) (hL : Ln ≤ 256) (hi : i + 4 ≤ Ln) (hcap : hz_cap X kc ks) {M : hz_M} (hM : GOOD M) (kk : ∀ M1, GOOD M1 → hz_G X TT NN M1 kc ks 1132 [some (.ref 2000), some (.ref 1), some (.ref 146), some (.int (nI i))] []) : hz_G X TT NN M kc ks 1118 [some (.ref 2000), some (.ref 1), some (.ref 146), some (.int (nI i))] [] := by
  obtain ⟨r, E, hr⟩ := ST.all (yC := mX10_digest) (yM := mX11_digest) (as := []) fx_0 (fun q I L u V => sp_digest V) hM
  obtain ⟨v, rfl⟩ := tyv_long hr rfl
  refine hz_aload_n (pc := 1118) C dL_law_1118 rfl ?_
  refine hz_callVx (pc := 1119) C (as := []) (st := []) E fyX10_digest fvL_158 rfl dL_law_1119 hT1 rfl rfl hA1 rfl rfl (Nat.le_of_ble_eq_true rfl) (by decide) hcap (fun r1 M1 h1 => ?_)
  obtain ⟨rfl, E2⟩ := h1
  refine hz_aload_n (pc := 1122) C dL_law_1122 rfl ?_
  refine hz_callVx (pc := 1123) C (as := []) (st := [.long v]) E2 fyX11_digest fvL_162 rfl dL_law_1123 hT146 rfl rfl hA146 rfl rfl (Nat.le_of_ble_eq_true rfl) (by decide) hcap (fun r2 M2 h2 => ?_)
  obtain ⟨rfl, hg⟩ := h2
  refine hz_lcmp (pc := 1126) C dL_law_1126 ?_
  exact hz_if_eq (pc := 1127) C (tgt := 1132) dL_law_1127 rfl (fun _ => kk M2 hg) (fun zzc => absurd (cmp_rf _) zzc)
set_option maxHeartbeats 4000000 in
set_option maxRecDepth 100000 in
theorem law_loop {X : hz_X} (C : hz_C X mL_law) {Ln kc ks : Nat} {xs : Nat → Int32} (hs : hz_scr X Ln xs) (hL : Ln ≤ 256) (hcap : hz_cap X kc ks) (kk : ∀ (M : hz_M) (ls : List (Option Value)), GOOD M → hz_G X TT NN M kc ks 1138 ls []) : ∀ (f i : Nat) (M : hz_M), Ln < i + f → i ≤ 256 → GOOD M → hz_G X TT NN M kc ks 18 [some (.ref 2000), some (.ref 1), some (.ref 146), some (.int (nI i))] [] := by
  intro f
  induction f with
  | zero =>
    intro i M hf hi hM
    refine hz_iload_n (pc := 18) C dL_law_18 rfl ?_
    refine hz_aload_n (pc := 19) C dL_law_19 rfl ?_
    refine hz_slen (pc := 20) C hs dL_law_20 ?_
    refine hz_iconst (pc := 21) C (v := nI 4) dL_law_21 (by decide +kernel) ?_
    refine hz_isub (pc := 22) C (v := nI Ln - nI 4) dL_law_22 rfl ?_
    exact hz_ic_gt (pc := 23) C (tgt := 1138) dL_law_23 rfl (fun _ => kk M _ hM) (fun zzc => absurd ((law_gt hL hi).mpr (by omega)) zzc)
  | succ f ih =>
    intro i M hf hi hM
    refine hz_iload_n (pc := 18) C dL_law_18 rfl ?_
    refine hz_aload_n (pc := 19) C dL_law_19 rfl ?_
    refine hz_slen (pc := 20) C hs dL_law_20 ?_
    refine hz_iconst (pc := 21) C (v := nI 4) dL_law_21 (by decide +kernel) ?_
    refine hz_isub (pc := 22) C (v := nI Ln - nI 4) dL_law_22 rfl ?_
    refine hz_ic_gt (pc := 23) C (tgt := 1138) dL_law_23 rfl (fun _ => kk M _ hM) (fun zzc => ?_)
    have hi4 : i + 4 ≤ Ln := Nat.le_of_not_lt fun z => zzc ((law_gt hL hi).mpr z)
    have hk : ∀ M1, GOOD M1 → hz_G X TT NN M1 kc ks 1132 [some (.ref 2000), some (.ref 1), some (.ref 146), some (.int (nI i))] [] := by
      intro M1 hM1
      refine hz_iinc (pc := 1132) C (v := nI (i + 4)) (ls' := [some (.ref 2000), some (.ref 1), some (.ref 146), some (.int (nI (i + 4)))]) dL_law_1132 rfl (nI_add _ 4) rfl ?_
      refine hz_goto (pc := 1135) C (tgt := 18) dL_law_1135 rfl ?_
      exact ih (i + 4) M1 (by omega) (by omega) hM1
    refine hz_aload_n (pc := 26) C dL_law_26 rfl ?_
    refine hz_iload_n (pc := 27) C dL_law_27 rfl ?_
    refine hz_sld (pc := 28) C hs (j := i) rfl (by omega) (by omega) dL_law_28 ?_
    refine hz_bipush (pc := 29) C (v := nI 63) dL_law_29 (by decide +kernel) ?_
    obtain ⟨zzk, zzk1, zzk2⟩ := and63 (xs i)
    refine hz_iand (pc := 31) C (v := nI zzk) dL_law_31 zzk2 ?_
    by_cases zze0 : zzk = 0
    · subst zze0
      refine hz_swIn (pc := 32) C (tgt := 192) dL_law_32 (by decide +kernel) (by decide +kernel) (by rfl) (by decide +kernel) ?_
      exact lwc_0 C hs hL hi4 hcap hM hk
    by_cases zze1 : zzk = 1
    · subst zze1
      refine hz_swIn (pc := 32) C (tgt := 205) dL_law_32 (by decide +kernel) (by decide +kernel) (by rfl) (by decide +kernel) ?_
      exact lwc_1 C hs hL hi4 hcap hM hk
    by_cases zze2 : zzk = 2
    · subst zze2
      refine hz_swIn (pc := 32) C (tgt := 248) dL_law_32 (by decide +kernel) (by decide +kernel) (by rfl) (by decide +kernel) ?_
      exact lwc_2 C hs hL hi4 hcap hM hk
    by_cases zze3 : zzk = 3
    · subst zze3
      refine hz_swIn (pc := 32) C (tgt := 291) dL_law_32 (by decide +kernel) (by decide +kernel) (by rfl) (by decide +kernel) ?_
      exact lwc_3 C hs hL hi4 hcap hM hk
    by_cases zze4 : zzk = 4
    · subst zze4
      refine hz_swIn (pc := 32) C (tgt := 314) dL_law_32 (by decide +kernel) (by decide +kernel) (by rfl) (by decide +kernel) ?_
      exact lwc_4 C hs hL hi4 hcap hM hk
    by_cases zze5 : zzk = 5
    · subst zze5
      refine hz_swIn (pc := 32) C (tgt := 327) dL_law_32 (by decide +kernel) (by decide +kernel) (by rfl) (by decide +kernel) ?_
      exact lwc_5 C hs hL hi4 hcap hM hk
    by_cases zze6 : zzk = 6
    · subst zze6
      refine hz_swIn (pc := 32) C (tgt := 340) dL_law_32 (by decide +kernel) (by decide +kernel) (by rfl) (by decide +kernel) ?_
      exact lwc_6 C hs hL hi4 hcap hM hk
    by_cases zze7 : zzk = 7
    · subst zze7
      refine hz_swIn (pc := 32) C (tgt := 363) dL_law_32 (by decide +kernel) (by decide +kernel) (by rfl) (by decide +kernel) ?_
      exact lwc_7 C hs hL hi4 hcap hM hk
    by_cases zze8 : zzk = 8
    · subst zze8
      refine hz_swIn (pc := 32) C (tgt := 386) dL_law_32 (by decide +kernel) (by decide +kernel) (by rfl) (by decide +kernel) ?_
      exact lwc_8 C hs hL hi4 hcap hM hk
    by_cases zze9 : zzk = 9
    · subst zze9
      refine hz_swIn (pc := 32) C (tgt := 419) dL_law_32 (by decide +kernel) (by decide +kernel) (by rfl) (by decide +kernel) ?_
      exact lwc_9 C hs hL hi4 hcap hM hk
    by_cases zze10 : zzk = 10
    · subst zze10
      refine hz_swIn (pc := 32) C (tgt := 452) dL_law_32 (by decide +kernel) (by decide +kernel) (by rfl) (by decide +kernel) ?_
      exact lwc_10 C hs hL hi4 hcap hM hk
    by_cases zze11 : zzk = 11
    · subst zze11
      refine hz_swIn (pc := 32) C (tgt := 475) dL_law_32 (by decide +kernel) (by decide +kernel) (by rfl) (by decide +kernel) ?_
      exact lwc_11 C hs hL hi4 hcap hM hk
    by_cases zze12 : zzk = 12
    · subst zze12
      refine hz_swIn (pc := 32) C (tgt := 488) dL_law_32 (by decide +kernel) (by decide +kernel) (by rfl) (by decide +kernel) ?_
      exact lwc_12 C hs hL hi4 hcap hM hk
    by_cases zze13 : zzk = 13
    · subst zze13
      refine hz_swIn (pc := 32) C (tgt := 521) dL_law_32 (by decide +kernel) (by decide +kernel) (by rfl) (by decide +kernel) ?_
      exact lwc_13 C hs hL hi4 hcap hM hk
    by_cases zze14 : zzk = 14
    · subst zze14
      refine hz_swIn (pc := 32) C (tgt := 554) dL_law_32 (by decide +kernel) (by decide +kernel) (by rfl) (by decide +kernel) ?_
      exact lwc_14 C hs hL hi4 hcap hM hk
    by_cases zze15 : zzk = 15
    · subst zze15
      refine hz_swIn (pc := 32) C (tgt := 587) dL_law_32 (by decide +kernel) (by decide +kernel) (by rfl) (by decide +kernel) ?_
      exact lwc_15 C hs hL hi4 hcap hM hk
    by_cases zze16 : zzk = 16
    · subst zze16
      refine hz_swIn (pc := 32) C (tgt := 620) dL_law_32 (by decide +kernel) (by decide +kernel) (by rfl) (by decide +kernel) ?_
      exact lwc_16 C hs hL hi4 hcap hM hk
    by_cases zze17 : zzk = 17
    · subst zze17
      refine hz_swIn (pc := 32) C (tgt := 653) dL_law_32 (by decide +kernel) (by decide +kernel) (by rfl) (by decide +kernel) ?_
      exact lwc_17 C hs hL hi4 hcap hM hk
    by_cases zze18 : zzk = 18
    · subst zze18
      refine hz_swIn (pc := 32) C (tgt := 686) dL_law_32 (by decide +kernel) (by decide +kernel) (by rfl) (by decide +kernel) ?_
      exact lwc_18 C hs hL hi4 hcap hM hk
    by_cases zze19 : zzk = 19
    · subst zze19
      refine hz_swIn (pc := 32) C (tgt := 709) dL_law_32 (by decide +kernel) (by decide +kernel) (by rfl) (by decide +kernel) ?_
      exact lwc_19 C hs hL hi4 hcap hM hk
    by_cases zze20 : zzk = 20
    · subst zze20
      refine hz_swIn (pc := 32) C (tgt := 742) dL_law_32 (by decide +kernel) (by decide +kernel) (by rfl) (by decide +kernel) ?_
      exact lwc_20 C hs hL hi4 hcap hM hk
    by_cases zze21 : zzk = 21
    · subst zze21
      refine hz_swIn (pc := 32) C (tgt := 765) dL_law_32 (by decide +kernel) (by decide +kernel) (by rfl) (by decide +kernel) ?_
      exact lwc_21 C hs hL hi4 hcap hM hk
    by_cases zze22 : zzk = 22
    · subst zze22
      refine hz_swIn (pc := 32) C (tgt := 798) dL_law_32 (by decide +kernel) (by decide +kernel) (by rfl) (by decide +kernel) ?_
      exact lwc_22 C hs hL hi4 hcap hM hk
    by_cases zze23 : zzk = 23
    · subst zze23
      refine hz_swIn (pc := 32) C (tgt := 811) dL_law_32 (by decide +kernel) (by decide +kernel) (by rfl) (by decide +kernel) ?_
      exact lwc_23 C hs hL hi4 hcap hM hk
    by_cases zze24 : zzk = 24
    · subst zze24
      refine hz_swIn (pc := 32) C (tgt := 844) dL_law_32 (by decide +kernel) (by decide +kernel) (by rfl) (by decide +kernel) ?_
      exact lwc_24 C hs hL hi4 hcap hM hk
    by_cases zze25 : zzk = 25
    · subst zze25
      refine hz_swIn (pc := 32) C (tgt := 857) dL_law_32 (by decide +kernel) (by decide +kernel) (by rfl) (by decide +kernel) ?_
      exact lwc_25 C hs hL hi4 hcap hM hk
    by_cases zze26 : zzk = 26
    · subst zze26
      refine hz_swIn (pc := 32) C (tgt := 870) dL_law_32 (by decide +kernel) (by decide +kernel) (by rfl) (by decide +kernel) ?_
      exact lwc_26 C hs hL hi4 hcap hM hk
    by_cases zze27 : zzk = 27
    · subst zze27
      refine hz_swIn (pc := 32) C (tgt := 883) dL_law_32 (by decide +kernel) (by decide +kernel) (by rfl) (by decide +kernel) ?_
      exact lwc_27 C hs hL hi4 hcap hM hk
    by_cases zze28 : zzk = 28
    · subst zze28
      refine hz_swIn (pc := 32) C (tgt := 926) dL_law_32 (by decide +kernel) (by decide +kernel) (by rfl) (by decide +kernel) ?_
      exact lwc_28 C hs hL hi4 hcap hM hk
    by_cases zze29 : zzk = 29
    · subst zze29
      refine hz_swIn (pc := 32) C (tgt := 969) dL_law_32 (by decide +kernel) (by decide +kernel) (by rfl) (by decide +kernel) ?_
      exact lwc_29 C hs hL hi4 hcap hM hk
    by_cases zze30 : zzk = 30
    · subst zze30
      refine hz_swIn (pc := 32) C (tgt := 1002) dL_law_32 (by decide +kernel) (by decide +kernel) (by rfl) (by decide +kernel) ?_
      exact lwc_30 C hs hL hi4 hcap hM hk
    by_cases zze31 : zzk = 31
    · subst zze31
      refine hz_swIn (pc := 32) C (tgt := 1026) dL_law_32 (by decide +kernel) (by decide +kernel) (by rfl) (by decide +kernel) ?_
      exact lwc_31 C hs hL hi4 hcap hM hk
    by_cases zze32 : zzk = 32
    · subst zze32
      refine hz_swIn (pc := 32) C (tgt := 1049) dL_law_32 (by decide +kernel) (by decide +kernel) (by rfl) (by decide +kernel) ?_
      exact lwc_32 C hs hL hi4 hcap hM hk
    by_cases zze33 : zzk = 33
    · subst zze33
      refine hz_swIn (pc := 32) C (tgt := 1072) dL_law_32 (by decide +kernel) (by decide +kernel) (by rfl) (by decide +kernel) ?_
      exact lwc_33 C hs hL hi4 hcap hM hk
    by_cases zze34 : zzk = 34
    · subst zze34
      refine hz_swIn (pc := 32) C (tgt := 1095) dL_law_32 (by decide +kernel) (by decide +kernel) (by rfl) (by decide +kernel) ?_
      exact lwc_34 C hs hL hi4 hcap hM hk
    by_cases zze35 : zzk = 35
    · subst zze35
      refine hz_swIn (pc := 32) C (tgt := 1118) dL_law_32 (by decide +kernel) (by decide +kernel) (by rfl) (by decide +kernel) ?_
      exact lwc_35 C hs hL hi4 hcap hM hk
    refine hz_swOut (pc := 32) C (tgt := 1132) dL_law_32 (Or.inr (by rw [nI_toInt (by omega)]; omega)) (by decide +kernel) ?_
    exact hk M hM

section STR
variable {X : hz_X} {y y0 : hz_Y} {T T' : hz_T} {n n' : Nat} {M M' : hz_M} {kc ks pc mc ms ix na : Nat} {ls : List (Option Value)} {st stk as : List Value} {r : Option Value}
theorem hz_callT (C : hz_C X y) {i : Nat} (hi : i < 4) (E : hz_Ev y0 T n M (.ref (1001 + i) :: as) mc ms r T' n' M') (hn : hz_new X n n') (Y : hz_FY y0 na) (F : hz_FV y.1.cls ix y0) (hna : as.length = na) (d : decode y.2.1 pc = .ok (.invokevirtual ix, 3)) (hcl : y0.1.cls = "java/lang/String") (hst : stk = as.reverse ++ .ref (1001 + i) :: st) (hlen : ls.length = y.2.2.1) (hsum : (st.map Value.category).sum ≤ 8) (hd : y0.2.2.2.2 + 1 ≤ y.2.2.2.2) (hcap : hz_cap X (kc + mc) (ks + ms)) (kk : hz_G X T' n' M' (kc + mc) (ks + ms) (pc + 3) ls (r.toList ++ st)) : hz_G X T n M kc ks pc ls stk := by
  obtain ⟨p, l, e, R, s, m, args, below, meth, cd, D, Q⟩ := X
  obtain ⟨hx, hb, hml, hown, hts, hK, hext, hfr, hlo, -⟩ := C
  obtain ⟨hy1, hy2, hy3, hy4, hy5⟩ := Y
  obtain ⟨hf1, hf2, hf3⟩ := F
  intro H locs hR hS lsA hl
  subst hst
  have hg : GoodIn hz_tbl (wsV y.1.cls ix y0.1.cls y0.1 (hz_ws y0)) := by
    unfold wsV
    refine hz_goodA (fun w h => ?_) (hz_goodY hy1)
    simp only [List.mem_cons, List.not_mem_nil, or_false] at h
    rcases h with rfl | rfl | rfl | rfl <;> assumption
  have hrun := va_runV (As := as.map (hz_tr D.2.2.1)) (rest := st.map (hz_tr D.2.2.1)) (g := F0 m pc lsA ((as.reverse ++ .ref (1001 + i) :: st).map (hz_tr D.2.2.1))) (b := D.2.2.1 (1001 + i)) ⟨hx, hb, hml, hown, hts⟩ (E l D hn) (cwV na hts hg rfl rfl rfl ⟨rfl, (hz_nmh_spec hy3).1, (hz_nmh_spec hy3).2, hy4⟩ (hz_room hfr hlo hd hy5)) ⟨hz_blind D T n M _, by rw [hcl]; exact vk_recv (adK := fun i => D.2.2.1 (1001 + i)) (i := i) hext.2.2.1 hi hS, fun U hU hW => ⟨rfl, by rw [hU]; exact hR, hz_K.moved hW hK, by rw [hU]; exact hz_ext.moved hW (hext.kept hS.2.1)⟩⟩ rfl (by simpa using hna) (hl.1.trans hlen) (by simp [hz_tr]) (lv_room (hz_sum hsum)) d hcap (locs := locs) (H := H) (cells := kc) (slots := ks) (e := e) (below := below) (meth := meth)
  refine hz_cont hrun hS (fun H1 locs1 hR1 hS1 => ?_)
  have h9 := kk H1 locs1 hR1 hS1 lsA hl
  rw [List.map_append] at h9
  cases r <;> exact h9
theorem hz_ldcS (C : hz_C X y) {a : Nat} {t : String} (hw : ∀ (D : hz_D) (U : State) (H : Heap), hz_ext D U H → vk_R y.1.cls ix t (D.2.2.1 a) U) (d : decode y.2.1 pc = .ok (.ldc ix, 2)) (kk : hz_G X T n M kc ks (pc + 2) ls (.ref a :: st)) : hz_G X T n M kc ks pc ls st := by
  obtain ⟨p, l, e, R, s, m, args, below, meth, cd, D, Q⟩ := X
  obtain ⟨hx, hb, hml, hown, hts, hK, hext, hfr, hlo, -⟩ := C
  intro H locs hR hS lsA hl
  exact va_ldcS hx hb hown (hw D s s.heap hext) d (kk H locs hR hS lsA hl)
theorem hz_getSv (C : hz_C X y) {i : Nat} (hi : i < 4) (F : Cond.fieldLink y.1.cls ix "java/lang/String" "value" "[B" ∈ hz_tbl) (d : decode y.2.1 pc = .ok (.getfield ix, 3)) (kk : hz_G X T n M kc ks (pc + 3) ls (.ref (1005 + i) :: st)) : hz_G X T n M kc ks pc ls (.ref (1001 + i) :: st) := by
  obtain ⟨p, l, e, R, s, m, args, below, meth, cd, D, Q⟩ := X
  obtain ⟨hx, hb, hml, hown, hts, hK, hext, hfr, hlo, -⟩ := C
  intro H locs hR hS lsA hl
  exact vk_getf hx hb (hext.2.2.1.1 i hi).2.2.1 hS hown (hts _ F) (fun _ h => h) d (kk H locs hR hS lsA hl)
theorem hz_getSc (C : hz_C X y) {i : Nat} (hi : i < 4) (F : Cond.fieldLink y.1.cls ix "java/lang/String" "coder" "B" ∈ hz_tbl) (d : decode y.2.1 pc = .ok (.getfield ix, 3)) (kk : hz_G X T n M kc ks (pc + 3) ls (.int 0 :: st)) : hz_G X T n M kc ks pc ls (.ref (1001 + i) :: st) := by
  obtain ⟨p, l, e, R, s, m, args, below, meth, cd, D, Q⟩ := X
  obtain ⟨hx, hb, hml, hown, hts, hK, hext, hfr, hlo, -⟩ := C
  intro H locs hR hS lsA hl
  exact vk_getf hx hb (hext.2.2.1.1 i hi).2.1 hS hown (hts _ F) (fun _ h => h) d (kk H locs hR hS lsA hl)
theorem hz_lenS (C : hz_C X y) {i : Nat} (hi : i < 4) (d : decode y.2.1 pc = .ok (.arraylength, 1)) (kk : hz_G X T n M kc ks (pc + 1) ls (.int (nI (hz_wl.getD i 0)) :: st)) : hz_G X T n M kc ks pc ls (.ref (1005 + i) :: st) := by
  obtain ⟨p, l, e, R, s, m, args, below, meth, cd, D, Q⟩ := X
  obtain ⟨hx, hb, hml, hown, hts, hK, hext, hfr, hlo, -⟩ := C
  intro H locs hR hS lsA hl
  exact va_tlen hx hb (hext.2.2.1.1 i hi).2.2.2 hS rfl d (kk H locs hR hS lsA hl)
theorem hz_bldS (C : hz_C X y) {i k : Nat} (hi : i < 4) (hk : k < hz_wl.getD i 0) (hk2 : k < 2 ^ 31) (h9 : hz_wl.getD i 0 < 2 ^ 31) (d : decode y.2.1 pc = .ok (.baload, 1)) (kk : hz_G X T n M kc ks (pc + 1) ls (.int ((hz_wb.getD i []).getD k 0) :: st)) : hz_G X T n M kc ks pc ls (.int (nI k) :: .ref (1005 + i) :: st) := by
  obtain ⟨p, l, e, R, s, m, args, below, meth, cd, D, Q⟩ := X
  obtain ⟨hx, hb, hml, hown, hts, hK, hext, hfr, hlo, -⟩ := C
  intro H locs hR hS lsA hl
  exact va_tb hx hb (hext.2.2.1.1 i hi).2.2.2 hS (vp_in_nI hk h9) (by rw [nI_clamp hk2]; rfl) d (kk H locs hR hS lsA hl)
theorem hz_cget (C : hz_C X y) (F : Cond.fieldLink y.1.cls ix "java/lang/String" "COMPACT_STRINGS" "Z" ∈ hz_tbl) (d : decode y.2.1 pc = .ok (.getstatic ix, 3)) (kk : hz_G X T n M kc ks (pc + 3) ls (.int 1 :: st)) : hz_G X T n M kc ks pc ls st := by
  obtain ⟨p, l, e, R, s, m, args, below, meth, cd, D, Q⟩ := X
  obtain ⟨hx, hb, hml, hown, hts, hK, hext, hfr, hlo, -⟩ := C
  intro H locs hR hS lsA hl
  exact va_gets hx hb hext.2.2.2.1 hS hown (hts _ F) (fun _ h => h) d (kk H locs hR hS lsA hl)
theorem hz_fget (C : hz_C X y) (F : Cond.fieldLink y.1.cls ix "jdk/internal/util/Preconditions" "SIOOBE_FORMATTER" "Ljava/util/function/BiFunction;" ∈ hz_tbl) (d : decode y.2.1 pc = .ok (.getstatic ix, 3)) (kn : hz_G X T n M kc ks (pc + 3) ls (.null :: st)) (kk : hz_G X T n M kc ks (pc + 3) ls (.ref 1009 :: st)) : hz_G X T n M kc ks pc ls st := by
  obtain ⟨p, l, e, R, s, m, args, below, meth, cd, D, Q⟩ := X
  obtain ⟨hx, hb, hml, hown, hts, hK, hext, hfr, hlo, -⟩ := C
  intro H locs hR hS lsA hl
  rcases hext.2.2.2.2.1 with hz | hz
  · exact va_gets hx hb hz hS hown (hts _ F) (fun _ h => h) d (kn H locs hR hS lsA hl)
  · exact va_gets hx hb hz hS hown (hts _ F) (fun _ h => h) d (kk H locs hR hS lsA hl)
end STR
abbrev mJ3c : hz_Y := (yJ3_checkIndex_8e157, cJ3_checkIndex_8e157, 3, some .int, 0)
abbrev mJ1c : hz_Y := (yJ1_charAt_3b067, cJ1_charAt_3b067, 2, some .char, 2)
theorem fyJ3c : hz_FY mJ3c 3 := ⟨hz_mp 433 (by decide +kernel), hz_mp 70 (by decide +kernel), by decide +kernel, by decide +kernel, by decide⟩
theorem fyJ1c : hz_FY mJ1c 2 := ⟨hz_mp 425 (by decide +kernel), hz_mp 69 (by decide +kernel), by decide +kernel, by decide +kernel, by decide⟩
/-- the letters of the words -/
def wch (i k : Nat) : Nat := ([[104, 111, 117, 115, 101], [100, 111, 111, 114], [97, 108, 97, 114, 109], [100, 111, 119, 110]].getD i []).getD k 0
theorem wl_lt (i : Nat) : hz_wl.getD i 0 ≤ 5 := by
  by_cases h : i < 4
  · have h9 : ∀ i, i < 4 → hz_wl.getD i 0 ≤ 5 := by decide +kernel
    exact h9 i h
  · rw [List.getD_eq_getElem?_getD, List.getElem?_eq_none (by simp [hz_wl]; omega)]; exact Nat.zero_le _
theorem wch_c {i k : Nat} (hi : i < 4) (hk : k < hz_wl.getD i 0) : (((hz_wb.getD i []).getD k 0 &&& nI 255).toUInt32 % 65536).toInt32 = nI (wch i k) ∧ narrow .char (.int (nI (wch i k))) = .int (nI (wch i k)) ∧ wch i k < 128 := by
  have h9 : ∀ i, i < 4 → ∀ k, k < hz_wl.getD i 0 → (((hz_wb.getD i []).getD k 0 &&& nI 255).toUInt32 % 65536).toInt32 = nI (wch i k) ∧ wch i k < 128 := by decide +kernel
  have h8 : ∀ c, c < 128 → narrow .char (.int (nI c)) = .int (nI c) := by decide +kernel
  obtain ⟨q1, q2⟩ := h9 i hi k hk
  exact ⟨q1, h8 _ q2, q2⟩
section STE
variable {T : hz_T} {n : Nat} (M : hz_M)
theorem ev_coder {i : Nat} (hi : i < 4) : hz_Ev mJ0_coder_7d493 T n M [.ref (1001 + i)] 0 0 (some (.int 0)) T n M := by
  refine hz_Ev.intro (ls := [some (.ref (1001 + i))]) (by decide +kernel) rfl (Nat.le_of_ble_eq_true rfl) (fun X C Z _ => ?_)
  refine hz_cget (pc := 0) C (hz_mp 413 (by decide +kernel)) dJ0_coder_7d493_0 ?_
  refine hz_if_eq (pc := 3) C (tgt := 13) dJ0_coder_7d493_3 rfl (fun cq => absurd cq (by decide)) (fun _ => ?_)
  refine hz_aload_n (pc := 6) C dJ0_coder_7d493_6 rfl ?_
  refine hz_getSc (pc := 7) C hi (hz_mp 1270 (by decide +kernel)) dJ0_coder_7d493_7 ?_
  refine hz_goto (pc := 10) C (tgt := 14) dJ0_coder_7d493_10 rfl ?_
  exact hz_zret C Z rfl (by decide +kernel) dJ0_coder_7d493_14 rfl rfl
theorem ev_latin {i : Nat} (hi : i < 4) : hz_Ev mJ0_isLatin1_aae02 T n M [.ref (1001 + i)] 0 0 (some (.int 1)) T n M := by
  refine hz_Ev.intro (ls := [some (.ref (1001 + i))]) (by decide +kernel) rfl (Nat.le_of_ble_eq_true rfl) (fun X C Z _ => ?_)
  refine hz_cget (pc := 0) C (hz_mp 413 (by decide +kernel)) dJ0_isLatin1_aae02_0 ?_
  refine hz_if_eq (pc := 3) C (tgt := 17) dJ0_isLatin1_aae02_3 rfl (fun cq => absurd cq (by decide)) (fun _ => ?_)
  refine hz_aload_n (pc := 6) C dJ0_isLatin1_aae02_6 rfl ?_
  refine hz_getSc (pc := 7) C hi (hz_mp 1270 (by decide +kernel)) dJ0_isLatin1_aae02_7 ?_
  refine hz_if_ne (pc := 10) C (tgt := 17) dJ0_isLatin1_aae02_10 rfl (fun cq => absurd rfl cq) (fun _ => ?_)
  refine hz_iconst (pc := 13) C (v := 1) dJ0_isLatin1_aae02_13 (by decide +kernel) ?_
  refine hz_goto (pc := 14) C (tgt := 18) dJ0_isLatin1_aae02_14 rfl ?_
  exact hz_zret C Z rfl (by decide +kernel) dJ0_isLatin1_aae02_18 rfl rfl
theorem shr_wl (i : Nat) : nI (hz_wl.getD i 0) >>> ((0 : Int32) &&& 31) = nI (hz_wl.getD i 0) := by
  have h9 : ∀ k, k < 6 → nI k >>> ((0 : Int32) &&& 31) = nI k := by decide +kernel
  exact h9 _ (by have := wl_lt i; omega)
theorem ev_strLen {i : Nat} (hi : i < 4) : hz_Ev mJ0_length_8abf5 T n M [.ref (1001 + i)] 0 0 (some (.int (nI (hz_wl.getD i 0)))) T n M := by
  refine hz_Ev.intro (ls := [some (.ref (1001 + i))]) (by decide +kernel) rfl (Nat.le_of_ble_eq_true rfl) (fun X C Z _ => ?_)
  refine hz_aload_n (pc := 0) C dJ0_length_8abf5_0 rfl ?_
  refine hz_getSv (pc := 1) C hi (hz_mp 1269 (by decide +kernel)) dJ0_length_8abf5_1 ?_
  refine hz_lenS (pc := 4) C hi dJ0_length_8abf5_4 ?_
  refine hz_aload_n (pc := 5) C dJ0_length_8abf5_5 rfl ?_
  refine hz_callT (pc := 6) C hi (as := []) (st := [.int (nI (hz_wl.getD i 0))]) (ev_coder M hi) (hz_new0 _ _) fyJ0_coder_7d493 ⟨hz_mp 409 (by decide +kernel), hz_mp 410 (by decide +kernel), hz_mp 411 (by decide +kernel)⟩ rfl dJ0_length_8abf5_6 rfl rfl rfl (Nat.le_of_ble_eq_true rfl) (by decide) (hz_cap0 _) ?_
  refine hz_ishr (pc := 9) C (v := nI (hz_wl.getD i 0)) dJ0_length_8abf5_9 (shr_wl i) ?_
  exact hz_iret C Z rfl dJ0_length_8abf5_10 rfl rfl
theorem ev_pre {k m : Nat} (hk : k < m) (hm : m < 2 ^ 31) : hz_Ev mJ3c T n M [.int (nI k), .int (nI m), .ref 1009] 0 0 (some (.int (nI k))) T n M := by
  refine hz_Ev.intro (ls := [some (.int (nI k)), some (.int (nI m)), some (.ref 1009)]) (by decide +kernel) rfl (Nat.le_of_ble_eq_true rfl) (fun X C Z _ => ?_)
  refine hz_iload_n (pc := 0) C dJ3_checkIndex_8e157_0 rfl ?_
  refine hz_if_lt (pc := 1) C (tgt := 9) dJ3_checkIndex_8e157_1 rfl (fun cq => absurd cq (nI_pos (by omega))) (fun _ => ?_)
  refine hz_iload_n (pc := 4) C dJ3_checkIndex_8e157_4 rfl ?_
  refine hz_iload_n (pc := 5) C dJ3_checkIndex_8e157_5 rfl ?_
  refine hz_ic_lt (pc := 6) C (tgt := 16) dJ3_checkIndex_8e157_6 rfl (fun _ => ?_) (fun cq => absurd (nI_lt hk hm) cq)
  refine hz_iload_n (pc := 16) C dJ3_checkIndex_8e157_16 rfl ?_
  exact hz_iret C Z rfl dJ3_checkIndex_8e157_17 rfl rfl
theorem ev_preN {k m : Nat} (hk : k < m) (hm : m < 2 ^ 31) : hz_Ev mJ3c T n M [.int (nI k), .int (nI m), .null] 0 0 (some (.int (nI k))) T n M := by
  refine hz_Ev.intro (ls := [some (.int (nI k)), some (.int (nI m)), some (.null)]) (by decide +kernel) rfl (Nat.le_of_ble_eq_true rfl) (fun X C Z _ => ?_)
  refine hz_iload_n (pc := 0) C dJ3_checkIndex_8e157_0 rfl ?_
  refine hz_if_lt (pc := 1) C (tgt := 9) dJ3_checkIndex_8e157_1 rfl (fun cq => absurd cq (nI_pos (by omega))) (fun _ => ?_)
  refine hz_iload_n (pc := 4) C dJ3_checkIndex_8e157_4 rfl ?_
  refine hz_iload_n (pc := 5) C dJ3_checkIndex_8e157_5 rfl ?_
  refine hz_ic_lt (pc := 6) C (tgt := 16) dJ3_checkIndex_8e157_6 rfl (fun _ => ?_) (fun cq => absurd (nI_lt hk hm) cq)
  refine hz_iload_n (pc := 16) C dJ3_checkIndex_8e157_16 rfl ?_
  exact hz_iret C Z rfl dJ3_checkIndex_8e157_17 rfl rfl
theorem ev_chk {k m : Nat} (hk : k < m) (hm : m < 2 ^ 31) : hz_Ev mJ0_checkIndex_df160 T n M [.int (nI k), .int (nI m)] 0 0 none T n M := by
  refine hz_Ev.intro (ls := [some (.int (nI k)), some (.int (nI m))]) (by decide +kernel) rfl (Nat.le_of_ble_eq_true rfl) (fun X C Z _ => ?_)
  refine hz_iload_n (pc := 0) C dJ0_checkIndex_df160_0 rfl ?_
  refine hz_iload_n (pc := 1) C dJ0_checkIndex_df160_1 rfl ?_
  refine hz_fget (pc := 2) C (hz_mp 429 (by decide +kernel)) dJ0_checkIndex_df160_2 ?_ ?_
  · refine hz_callSs (pc := 5) C (as := [.int (nI k), .int (nI m), .null]) (st := []) (ev_preN M hk hm) (hz_new0 _ _) fyJ3c ⟨hz_mp 431 (by decide +kernel), hz_mp 432 (by decide +kernel)⟩ rfl dJ0_checkIndex_df160_5 rfl rfl (Nat.le_of_ble_eq_true rfl) (by decide) (hz_cap0 _) ?_
    refine hz_pop (pc := 8) C dJ0_checkIndex_df160_8 rfl ?_
    exact hz_vret C Z rfl dJ0_checkIndex_df160_9 rfl
  · refine hz_callSs (pc := 5) C (as := [.int (nI k), .int (nI m), .ref 1009]) (st := []) (ev_pre M hk hm) (hz_new0 _ _) fyJ3c ⟨hz_mp 431 (by decide +kernel), hz_mp 432 (by decide +kernel)⟩ rfl dJ0_checkIndex_df160_5 rfl rfl (Nat.le_of_ble_eq_true rfl) (by decide) (hz_cap0 _) ?_
    refine hz_pop (pc := 8) C dJ0_checkIndex_df160_8 rfl ?_
    exact hz_vret C Z rfl dJ0_checkIndex_df160_9 rfl
theorem ev_lat {i k : Nat} (hi : i < 4) (hk : k < hz_wl.getD i 0) : hz_Ev mJ1c T n M [.ref (1005 + i), .int (nI k)] 0 0 (some (.int (nI (wch i k)))) T n M := by
  have hw := wl_lt i
  refine hz_Ev.intro (ls := [some (.ref (1005 + i)), some (.int (nI k))]) (by decide +kernel) rfl (Nat.le_of_ble_eq_true rfl) (fun X C Z _ => ?_)
  refine hz_iload_n (pc := 0) C dJ1_charAt_3b067_0 rfl ?_
  refine hz_aload_n (pc := 1) C dJ1_charAt_3b067_1 rfl ?_
  refine hz_lenS (pc := 2) C hi dJ1_charAt_3b067_2 ?_
  refine hz_callSv (pc := 3) C (as := [.int (nI k), .int (nI (hz_wl.getD i 0))]) (st := []) (ev_chk M hk (by omega)) (hz_new0 _ _) fyJ0_checkIndex_df160 ⟨hz_mp 426 (by decide +kernel), hz_mp 427 (by decide +kernel)⟩ rfl dJ1_charAt_3b067_3 rfl rfl (Nat.le_of_ble_eq_true rfl) (by decide) (hz_cap0 _) ?_
  refine hz_aload_n (pc := 6) C dJ1_charAt_3b067_6 rfl ?_
  refine hz_iload_n (pc := 7) C dJ1_charAt_3b067_7 rfl ?_
  refine hz_bldS (pc := 8) C hi hk (by omega) (by omega) dJ1_charAt_3b067_8 ?_
  refine hz_sipush (pc := 9) C (v := nI 255) dJ1_charAt_3b067_9 (by decide +kernel) ?_
  refine hz_iand (pc := 12) C dJ1_charAt_3b067_12 rfl ?_
  refine hz_i2c (pc := 13) C (v := nI (wch i k)) dJ1_charAt_3b067_13 (wch_c hi hk).1 ?_
  exact hz_zret C Z rfl (wch_c hi hk).2.1 dJ1_charAt_3b067_14 rfl rfl
theorem ev_strAt {i k : Nat} (hi : i < 4) (hk : k < hz_wl.getD i 0) : hz_Ev mJ0_charAt_5068e T n M [.ref (1001 + i), .int (nI k)] 0 0 (some (.int (nI (wch i k)))) T n M := by
  refine hz_Ev.intro (ls := [some (.ref (1001 + i)), some (.int (nI k))]) (by decide +kernel) rfl (Nat.le_of_ble_eq_true rfl) (fun X C Z _ => ?_)
  refine hz_aload_n (pc := 0) C dJ0_charAt_5068e_0 rfl ?_
  refine hz_callT (pc := 1) C hi (as := []) (st := []) (ev_latin M hi) (hz_new0 _ _) fyJ0_isLatin1_aae02 ⟨hz_mp 419 (by decide +kernel), hz_mp 420 (by decide +kernel), hz_mp 421 (by decide +kernel)⟩ rfl dJ0_charAt_5068e_1 rfl rfl rfl (Nat.le_of_ble_eq_true rfl) (by decide) (hz_cap0 _) ?_
  refine hz_if_eq (pc := 4) C (tgt := 16) dJ0_charAt_5068e_4 rfl (fun cq => absurd cq (by decide)) (fun _ => ?_)
  refine hz_aload_n (pc := 7) C dJ0_charAt_5068e_7 rfl ?_
  refine hz_getSv (pc := 8) C hi (hz_mp 1269 (by decide +kernel)) dJ0_charAt_5068e_8 ?_
  refine hz_iload_n (pc := 11) C dJ0_charAt_5068e_11 rfl ?_
  refine hz_callSs (pc := 12) C (as := [.ref (1005 + i), .int (nI k)]) (st := []) (ev_lat M hi hk) (hz_new0 _ _) fyJ1c ⟨hz_mp 423 (by decide +kernel), hz_mp 424 (by decide +kernel)⟩ rfl dJ0_charAt_5068e_12 rfl rfl (Nat.le_of_ble_eq_true rfl) (by decide) (hz_cap0 _) ?_
  exact hz_zret C Z rfl (wch_c hi hk).2.1 dJ0_charAt_5068e_15 rfl rfl
end STE
theorem fvX8_100 : hz_FV RX8 100 mJ0_length_8abf5 := ⟨hz_mp 405 (by decide +kernel), hz_mp 406 (by decide +kernel), hz_mp 407 (by decide +kernel)⟩
theorem fvX8_105 : hz_FV RX8 105 mJ0_charAt_5068e := ⟨hz_mp 415 (by decide +kernel), hz_mp 416 (by decide +kernel), hz_mp 417 (by decide +kernel)⟩
/-- the token is the w-th word -/
def wd (t : Nat) (x : Nat → Nat) (s w : Nat) : Bool := decide (kc t x s = 1) && (decide (nxe t x s - bgn t x s = hz_wl.getD w 0) && allb (fun k => decide (x (bgn t x s + k) = wch w k)) (hz_wl.getD w 0))
theorem allb_i {f : Nat → Bool} : ∀ {n : Nat}, allb f n = true ↔ ∀ k, k < n → f k = true := by
  intro n
  induction n with
  | zero => exact ⟨fun _ k hk => absurd hk (Nat.not_lt_zero _), fun _ => rfl⟩
  | succ n ih =>
    simp only [allb, Bool.and_eq_true]
    rw [ih]
    refine ⟨fun h k hk => ?_, fun h => ⟨fun k hk => h k (by omega), h n (by omega)⟩⟩
    by_cases hz : k = n
    · rw [hz]; exact h.2
    · exact h.1 k (by omega)
theorem wd_i {t : Nat} {x : Nat → Nat} {s w : Nat} : wd t x s w = true ↔ kc t x s = 1 ∧ nxe t x s - bgn t x s = hz_wl.getD w 0 ∧ ∀ k, k < hz_wl.getD w 0 → x (bgn t x s + k) = wch w k := by
  unfold wd
  simp only [Bool.and_eq_true, decide_eq_true_eq, allb_i]
theorem nxe_ok {t : Nat} (x : Nat → Nat) {s : Nat} (hs : s ≤ t) : s ≤ bgn t x s ∧ bgn t x s ≤ nxe t x s ∧ nxe t x s ≤ t ∧ (kc t x s ≠ 0 → bgn t x s < nxe t x s) := by
  obtain ⟨h1, h2, -⟩ := rn_ok t x 32 32 hs
  have h1' : s ≤ bgn t x s := h1
  have h2' : bgn t x s ≤ t := h2
  unfold nxe
  by_cases zzk0 : kc t x s = 0
  · rw [if_pos zzk0]; exact ⟨h1', Nat.le_refl _, h2', fun z => absurd zzk0 z⟩
  · have hb : bgn t x s < t := Nat.lt_of_not_le fun z => zzk0 (if_pos z)
    rw [if_neg zzk0]
    by_cases zzk1 : kc t x s = 1
    · rw [if_pos zzk1]
      have hin : 97 ≤ x (bgn t x s) ∧ x (bgn t x s) ≤ 122 := Classical.byContradiction fun z => by
        have h9 := zzk1
        unfold kc at h9
        rw [if_neg (by omega), if_neg z] at h9
        split at h9
        · omega
        · split at h9 <;> omega
      obtain ⟨q1, q2, -⟩ := rn_ok t x 97 122 (p := bgn t x s + 1) (by omega)
      rw [rn_s hb hin]
      exact ⟨h1', by omega, q2, fun _ => by omega⟩
    · rw [if_neg zzk1]
      by_cases zzk2 : kc t x s = 2
      · rw [if_pos zzk2]
        have hin : 48 ≤ x (bgn t x s) ∧ x (bgn t x s) ≤ 57 := Classical.byContradiction fun z => by
          have h9 := zzk2
          unfold kc at h9
          rw [if_neg (by omega)] at h9
          split at h9
          · omega
          · split at h9 <;> omega
        obtain ⟨q1, q2, -⟩ := rn_ok t x 48 57 (p := bgn t x s + 1) (by omega)
        rw [rn_s hb hin]
        exact ⟨h1', by omega, q2, fun _ => by omega⟩
      · rw [if_neg zzk2]
        exact ⟨h1', by omega, by omega, fun _ => by omega⟩
theorem kc_le (t : Nat) (x : Nat → Nat) (s : Nat) : kc t x s ≤ 4 := by
  unfold kc
  split
  · omega
  · split
    · omega
    · split
      · omega
      · split <;> omega
set_option maxHeartbeats 4000000 in
set_option maxRecDepth 100000 in
theorem lp_sy {X : hz_X} (C : hz_C X mX8_says) {J : Nat → Nat → Int32} {L : Nat → Nat → Int64} {q : Nat → Nat → Nat} {t : Nat} {x : Nat → Nat} (X0 : tx J t x) {s : Nat} (hs : s ≤ t) (S0 : tS J t x s) {w : Nat} (hw : w < 4) (h1 : kc t x s = 1) (h2 : nxe t x s - bgn t x s = hz_wl.getD w 0) (Z : hz_Z X 0 0 (some (.int (hz_b (wd t x s w = true)))) TT NN (J, L, PP q))  : ∀ (n i : Nat) , i + n = hz_wl.getD w 0 → (∀ k, k < i → x (bgn t x s + k) = wch w k) → hz_G X TT NN (J, L, PP q) 0 0 28 [some (.ref 2), some (.ref (1001 + w)), some (.int (nI i))] [] := by
  intro n
  induction n with
  | zero =>
    intro i  hi hf
    obtain rfl : hz_wl.getD w 0 = i := by omega
    have h150 := X0.1
    have hn := nxe_ok x hs
    have hwl := wl_lt w
    have hkl := kc_le t x s
    refine hz_iload_n (pc := 28) C dX8_says_28 rfl ?_
    refine hz_aload_n (pc := 29) C dX8_says_29 rfl ?_
    refine hz_callT (pc := 30) C hw (as := []) (st := [.int (nI (hz_wl.getD w 0))]) (ev_strLen (J, L, PP q) hw) (hz_new0 _ _) fyJ0_length_8abf5 fvX8_100 rfl dX8_says_30 rfl rfl rfl (Nat.le_of_ble_eq_true rfl) (by decide) (hz_cap0 _) ?_
    refine hz_ic_ge (pc := 33) C (tgt := 63) dX8_says_33 rfl (fun _ => ?_) (fun cq => absurd (nI_le (by omega) (by omega)) cq)
    refine hz_iconst (pc := 63) C (v := nI 1) dX8_says_63 (by decide +kernel) ?_
    exact hz_zret C Z rfl (by decide +kernel) dX8_says_64 (hz_b1 (wd_i.mpr ⟨h1, h2, fun k hk => hf k hk⟩)).symm rfl
  | succ n ih =>
    intro i  hi hf
    have h150 := X0.1
    have hn := nxe_ok x hs
    have hwl := wl_lt w
    have hkl := kc_le t x s
    have hxi := (X0.2.2 (bgn t x s + i) (by omega)).1
    have hwc := (wch_c hw (k := i) (by omega)).2.2
    refine hz_iload_n (pc := 28) C dX8_says_28 rfl ?_
    refine hz_aload_n (pc := 29) C dX8_says_29 rfl ?_
    refine hz_callT (pc := 30) C hw (as := []) (st := [.int (nI i)]) (ev_strLen (J, L, PP q) hw) (hz_new0 _ _) fyJ0_length_8abf5 fvX8_100 rfl dX8_says_30 rfl rfl rfl (Nat.le_of_ble_eq_true rfl) (by decide) (hz_cap0 _) ?_
    refine hz_ic_ge (pc := 33) C (tgt := 63) dX8_says_33 rfl (fun cq => absurd cq (nI_ge (by omega) (by omega))) (fun _ => ?_)
    refine hz_aload_n (pc := 36) C dX8_says_36 rfl ?_
    refine hz_getP (pc := 37) C (v := 3) ffX8_9 dX8_says_37 hT2 hA2 rfl (hP2_0 q) (by decide) ?_
    refine hz_aload_n (pc := 40) C dX8_says_40 rfl ?_
    refine hz_getI (pc := 41) C (v := nI (bgn t x s)) ffX8_32 dX8_says_41 hT2 hA2 rfl S0.2.1 ?_
    refine hz_iload_n (pc := 44) C dX8_says_44 rfl ?_
    refine hz_iadd (pc := 45) C (v := nI ((bgn t x s) + i)) dX8_says_45 (nI_add _ _) ?_
    refine hz_cald (pc := 46) C (v := nI (x ((bgn t x s) + i))) (j := (bgn t x s) + i) dX8_says_46 hT3 hA3 rfl (by omega) (by decide) (X0.2.2 _ (by omega)).2 ?_
    refine hz_aload_n (pc := 47) C dX8_says_47 rfl ?_
    refine hz_iload_n (pc := 48) C dX8_says_48 rfl ?_
    refine hz_callT (pc := 49) C hw (as := [.int (nI i)]) (st := [.int (nI (x ((bgn t x s) + i)))]) (ev_strAt (J, L, PP q) hw (k := i) (by omega)) (hz_new0 _ _) fyJ0_charAt_5068e fvX8_105 rfl dX8_says_49 rfl rfl rfl (Nat.le_of_ble_eq_true rfl) (by decide) (hz_cap0 _) ?_
    refine hz_ic_eq (pc := 52) C (tgt := 57) dX8_says_52 rfl (fun zzc1 => ?_) (fun zzc1 => ?_)
    · refine hz_iinc (pc := 57) C (v := nI (i + 1)) (ls' := [some (.ref 2), some (.ref (1001 + w)), some (.int (nI (i + 1)))]) dX8_says_57 rfl (nI_add _ 1) rfl ?_
      refine hz_goto (pc := 60) C (tgt := 28) dX8_says_60 rfl ?_
      exact ih (i + 1) (by omega) (fun k hk => by
        by_cases hz : k = i
        · subst hz; exact (nI_eq (by omega) (by omega)).mp zzc1
        · exact hf k (by omega))
    · refine hz_iconst (pc := 55) C (v := nI 0) dX8_says_55 (by decide +kernel) ?_
      exact hz_zret C Z rfl (by decide +kernel) dX8_says_56 (hz_b0 (fun z => zzc1 (congrArg nI ((wd_i.mp z).2.2 i (by omega))))).symm rfl
set_option maxHeartbeats 4000000 in
set_option maxRecDepth 100000 in
theorem ev_says {J : Nat → Nat → Int32} {L : Nat → Nat → Int64} {q : Nat → Nat → Nat} {t : Nat} {x : Nat → Nat} (X0 : tx J t x) {s : Nat} (hs : s ≤ t) (S0 : tS J t x s) {w : Nat} (hw : w < 4) : hz_Ev mX8_says TT NN (J, L, PP q) [.ref 2, .ref (1001 + w)] 0 0 (some (.int (hz_b (wd t x s w = true)))) TT NN (J, L, PP q) := by
  have h150 := X0.1
  have hn := nxe_ok x hs
  have hwl := wl_lt w
  have hkl := kc_le t x s
  refine hz_Ev.intro (ls := [some (.ref 2), some (.ref (1001 + w)), none]) (by decide +kernel) rfl (Nat.le_of_ble_eq_true rfl) (fun X C Z _ => ?_)
  refine hz_aload_n (pc := 0) C dX8_says_0 rfl ?_
  refine hz_getI (pc := 1) C (v := nI (kc t x s)) ffX8_25 dX8_says_1 hT2 hA2 rfl S0.1 ?_
  refine hz_iconst (pc := 4) C (v := nI 1) dX8_says_4 (by decide +kernel) ?_
  refine hz_ic_ne (pc := 5) C (tgt := 24) dX8_says_5 rfl (fun zzc1 => ?_) (fun zzc1 => ?_)
  · refine hz_iconst (pc := 24) C (v := nI 0) dX8_says_24 (by decide +kernel) ?_
    exact hz_zret C Z rfl (by decide +kernel) dX8_says_25 (hz_b0 (fun z => zzc1 (congrArg nI (wd_i.mp z).1))).symm rfl
  · refine hz_aload_n (pc := 8) C dX8_says_8 rfl ?_
    refine hz_getI (pc := 9) C (v := nI (nxe t x s)) ffX8_19 dX8_says_9 hT2 hA2 rfl S0.2.2.1 ?_
    refine hz_aload_n (pc := 12) C dX8_says_12 rfl ?_
    refine hz_getI (pc := 13) C (v := nI (bgn t x s)) ffX8_32 dX8_says_13 hT2 hA2 rfl S0.2.1 ?_
    refine hz_isub (pc := 16) C (v := nI (nxe t x s - bgn t x s)) dX8_says_16 (pk_sub (by omega)) ?_
    refine hz_aload_n (pc := 17) C dX8_says_17 rfl ?_
    refine hz_callT (pc := 18) C hw (as := []) (st := [.int (nI (nxe t x s - bgn t x s))]) (ev_strLen (J, L, PP q) hw) (hz_new0 _ _) fyJ0_length_8abf5 fvX8_100 rfl dX8_says_18 rfl rfl rfl (Nat.le_of_ble_eq_true rfl) (by decide) (hz_cap0 _) ?_
    refine hz_ic_eq (pc := 21) C (tgt := 26) dX8_says_21 rfl (fun zzc2 => ?_) (fun zzc2 => ?_)
    · refine hz_iconst (pc := 26) C (v := nI 0) dX8_says_26 (by decide +kernel) ?_
      refine hz_istore_n (pc := 27) C (ls' := [some (.ref 2), some (.ref (1001 + w)), some (.int (nI 0))]) dX8_says_27 (Nat.le_of_ble_eq_true rfl) rfl ?_
      exact lp_sy C X0 hs S0 hw ((nI_eq (by omega) (by omega)).mp zzc1) ((nI_eq (by omega) (by omega)).mp zzc2) Z (hz_wl.getD w 0) 0 (by omega) (fun k hk => absurd hk (Nat.not_lt_zero _))
    · refine hz_iconst (pc := 24) C (v := nI 0) dX8_says_24 (by decide +kernel) ?_
      exact hz_zret C Z rfl (by decide +kernel) dX8_says_25 (hz_b0 (fun z => zzc2 (congrArg nI (wd_i.mp z).2.1))).symm rfl

/-- locals: a store, of one place or two -/
def hz_cl (ls : List (Option Value)) (i : Nat) : List (Option Value) := match i with
  | 0 => ls
  | j + 1 => match ls[j]? with
    | some (some v) => if v.category = 2 then ls.set j none else ls
    | _ => ls
def hz_s1 (ls : List (Option Value)) (i : Nat) (v : Value) : List (Option Value) := (hz_cl ls i).set i (some v)
def hz_s2 (ls : List (Option Value)) (i : Nat) (v : Value) : List (Option Value) := ((hz_cl ls i).set i (some v)).set (i + 1) none
def hz_al (ad : Nat → Nat) (ls : List (Option Value)) : List (Nat × Value) := (List.range ls.length).filterMap fun i => match ls[i]? with
  | some (some v) => some (i, hz_tr ad v)
  | _ => none
theorem hz_cat (ad : Nat → Nat) (v : Value) : (hz_tr ad v).category = v.category := by cases v <;> rfl
theorem hz_al_mem {ad : Nat → Nat} {ls : List (Option Value)} {i : Nat} {v : Value} (h : ls[i]? = some (some v)) : (i, hz_tr ad v) ∈ hz_al ad ls := by
  refine List.mem_filterMap.mpr ⟨i, List.mem_range.mpr (List.getElem?_eq_some_iff.mp h).1, ?_⟩
  simp only [h]
theorem hz_al_spec {ad : Nat → Nat} {ls : List (Option Value)} {q : Nat × Value} (h : q ∈ hz_al ad ls) : ∃ v, ls[q.1]? = some (some v) ∧ q.2 = hz_tr ad v := by
  obtain ⟨i, -, h⟩ := List.mem_filterMap.mp h
  cases hv : ls[i]? with
  | none => simp [hv] at h
  | some o =>
    cases o with
    | none => simp [hv] at h
    | some v =>
      simp only [hv, Option.some.injEq] at h
      subst h
      exact ⟨v, hv, rfl⟩
theorem hz_L_has {ad : Nat → Nat} {ls : List (Option Value)} {lsA : Array Slot} (h : hz_L ad ls lsA) : lv_has lsA ls.length (hz_al ad ls) := by
  refine ⟨h.1, h.2.1, fun q hq => ?_⟩
  obtain ⟨v, h1, h2⟩ := hz_al_spec hq
  rw [h2]
  exact h.2.2 _ _ h1
theorem hz_cl_len (ls : List (Option Value)) (i : Nat) : (hz_cl ls i).length = ls.length := by
  unfold hz_cl
  split
  · rfl
  · split
    · split
      · simp
      · rfl
    · rfl
theorem hz_cl_get {ls : List (Option Value)} {i j : Nat} {w : Value} (h : (hz_cl ls i)[j]? = some (some w)) : ls[j]? = some (some w) ∧ ¬ (j + 1 = i ∧ w.category = 2) := by
  unfold hz_cl at h
  split at h
  · exact ⟨h, by omega⟩
  · rename_i i j0
    split at h
    · rename_i v hv
      split at h
      · rename_i hc
        by_cases e : j = j0
        · subst e
          rw [List.getElem?_set_self (List.getElem?_eq_some_iff.mp hv).1] at h
          cases h
        · rw [List.getElem?_set_ne (Ne.symm e)] at h
          exact ⟨h, fun q => e (by omega)⟩
      · rename_i hc
        refine ⟨h, fun q => ?_⟩
        have e : j = j0 := by omega
        subst e
        rw [hv] at h
        cases h
        exact hc q.2
    · rename_i hv
      refine ⟨h, fun q => ?_⟩
      have e : j = j0 := by omega
      subst e
      exact hv w h
theorem hz_L_s1 {ad : Nat → Nat} {ls : List (Option Value)} {ls' : Array Slot} {i : Nat} {v : Value} (h : lv_has ls' ls.length ((i, hz_tr ad v) :: (hz_al ad ls).filter (fun q => !(q.1 == i) && !(q.1 + 1 == i && q.2.category == 2)))) (hi : i < ls.length) : hz_L ad (hz_s1 ls i v) ls' := by
  refine ⟨by rw [h.1]; simp [hz_s1, hz_cl_len], h.2.1, fun j w hj => ?_⟩
  unfold hz_s1 at hj
  by_cases e : j = i
  · subst e
    rw [List.getElem?_set_self (by rw [hz_cl_len]; exact hi)] at hj
    cases hj
    exact h.2.2 (j, _) List.mem_cons_self
  · rw [List.getElem?_set_ne (Ne.symm e)] at hj
    obtain ⟨h1, h2⟩ := hz_cl_get hj
    refine h.2.2 (j, _) (List.mem_cons_of_mem _ (List.mem_filter.mpr ⟨hz_al_mem h1, ?_⟩))
    simp only [Bool.and_eq_true, Bool.not_eq_true', beq_eq_false_iff_ne, ne_eq, e, not_false_eq_true, true_and, Bool.and_eq_false_iff]
    by_cases e2 : j + 1 = i
    · exact Or.inr fun z => h2 ⟨e2, (hz_cat ad w).symm.trans z⟩
    · exact Or.inl e2
theorem hz_L_s2 {ad : Nat → Nat} {ls : List (Option Value)} {ls' : Array Slot} {i : Nat} {v : Value} (h : lv_has ls' ls.length ((i, hz_tr ad v) :: (hz_al ad ls).filter (fun q => !(q.1 == i) && (!(q.1 == i + 1) && !(q.1 + 1 == i && q.2.category == 2))))) (hi : i < ls.length) : hz_L ad (hz_s2 ls i v) ls' := by
  refine ⟨by rw [h.1]; simp [hz_s2, hz_cl_len], h.2.1, fun j w hj => ?_⟩
  unfold hz_s2 at hj
  by_cases e1 : j = i + 1
  · subst e1
    by_cases hl : i + 1 < ls.length
    · rw [List.getElem?_set_self (by simp [hz_cl_len, hl])] at hj
      cases hj
    · rw [List.getElem?_eq_none (by simp [hz_cl_len]; omega)] at hj
      cases hj
  · rw [List.getElem?_set_ne (Ne.symm e1)] at hj
    by_cases e : j = i
    · subst e
      rw [List.getElem?_set_self (by rw [hz_cl_len]; exact hi)] at hj
      cases hj
      exact h.2.2 (j, _) List.mem_cons_self
    · rw [List.getElem?_set_ne (Ne.symm e)] at hj
      obtain ⟨h1, h2⟩ := hz_cl_get hj
      refine h.2.2 (j, _) (List.mem_cons_of_mem _ (List.mem_filter.mpr ⟨hz_al_mem h1, ?_⟩))
      simp only [Bool.and_eq_true, Bool.not_eq_true', beq_eq_false_iff_ne, ne_eq, e, e1, not_false_eq_true, true_and, Bool.and_eq_false_iff]
      by_cases e2 : j + 1 = i
      · exact Or.inr fun z => h2 ⟨e2, (hz_cat ad w).symm.trans z⟩
      · exact Or.inl e2
section RULES
variable {X : hz_X} {y : hz_Y} {T : hz_T} {n : Nat} {M : hz_M} {kc ks pc : Nat} {ls : List (Option Value)} {st : List Value}
theorem hz_iconst (C : hz_C X y) {z : Int} {v : Int32} (d : decode y.2.1 pc = .ok (.iconst z, 1)) (hv : Int32.ofInt z = v) (kk : hz_G X T n M kc ks (pc + 1) ls (.int v :: st)) : hz_G X T n M kc ks pc ls (st) := by
  obtain ⟨p, l, e, R, s, m, args, below, meth, cd, D, Q⟩ := X
  obtain ⟨hx, hb, hml, hown, hts, hK, hext, -⟩ := C
  intro H locs hR hS lsA hl
  exact lv_iconst hx hb d hv (kk H locs hR hS lsA hl)
theorem hz_bipush (C : hz_C X y) {z : Int} {v : Int32} (d : decode y.2.1 pc = .ok (.bipush z, 2)) (hv : (Int8.ofInt z).toInt32 = v) (kk : hz_G X T n M kc ks (pc + 2) ls (.int v :: st)) : hz_G X T n M kc ks pc ls (st) := by
  obtain ⟨p, l, e, R, s, m, args, below, meth, cd, D, Q⟩ := X
  obtain ⟨hx, hb, hml, hown, hts, hK, hext, -⟩ := C
  intro H locs hR hS lsA hl
  exact lv_bipush hx hb d hv (kk H locs hR hS lsA hl)
theorem hz_sipush (C : hz_C X y) {z : Int} {v : Int32} (d : decode y.2.1 pc = .ok (.sipush z, 3)) (hv : (Int16.ofInt z).toInt32 = v) (kk : hz_G X T n M kc ks (pc + 3) ls (.int v :: st)) : hz_G X T n M kc ks pc ls (st) := by
  obtain ⟨p, l, e, R, s, m, args, below, meth, cd, D, Q⟩ := X
  obtain ⟨hx, hb, hml, hown, hts, hK, hext, -⟩ := C
  intro H locs hR hS lsA hl
  exact lv_sipush hx hb d hv (kk H locs hR hS lsA hl)
theorem hz_lconst (C : hz_C X y) {z : Fin 2} {v : Int64} (d : decode y.2.1 pc = .ok (.lconst z, 1)) (hv : Int64.ofNat (z : Nat) = v) (kk : hz_G X T n M kc ks (pc + 1) ls (.long v :: st)) : hz_G X T n M kc ks pc ls (st) := by
  obtain ⟨p, l, e, R, s, m, args, below, meth, cd, D, Q⟩ := X
  obtain ⟨hx, hb, hml, hown, hts, hK, hext, -⟩ := C
  intro H locs hR hS lsA hl
  exact lv_lconst hx hb d hv (kk H locs hR hS lsA hl)
theorem hz_ldc (C : hz_C X y) {ix : Nat} {v : Int32} (d : decode y.2.1 pc = .ok (.ldc ix, 2)) (hw : Cond.constant y.1.cls ix v ∈ hz_tbl) (kk : hz_G X T n M kc ks (pc + 2) ls (.int v :: st)) : hz_G X T n M kc ks pc ls (st) := by
  obtain ⟨p, l, e, R, s, m, args, below, meth, cd, D, Q⟩ := X
  obtain ⟨hx, hb, hml, hown, hts, hK, hext, -⟩ := C
  intro H locs hR hS lsA hl
  exact lv_ldc hx hb hown (hts _ hw) d (kk H locs hR hS lsA hl)
theorem hz_ldcw (C : hz_C X y) {ix : Nat} {v : Int32} (d : decode y.2.1 pc = .ok (.ldc_w ix, 3)) (hw : Cond.constant y.1.cls ix v ∈ hz_tbl) (kk : hz_G X T n M kc ks (pc + 3) ls (.int v :: st)) : hz_G X T n M kc ks pc ls (st) := by
  obtain ⟨p, l, e, R, s, m, args, below, meth, cd, D, Q⟩ := X
  obtain ⟨hx, hb, hml, hown, hts, hK, hext, -⟩ := C
  intro H locs hR hS lsA hl
  exact lv_ldcw hx hb hown (hts _ hw) d (kk H locs hR hS lsA hl)
theorem hz_ldc2 (C : hz_C X y) {ix : Nat} {v : Int64} (d : decode y.2.1 pc = .ok (.ldc2_w ix, 3)) (hw : Cond.constantLong y.1.cls ix v ∈ hz_tbl) (kk : hz_G X T n M kc ks (pc + 3) ls (.long v :: st)) : hz_G X T n M kc ks pc ls (st) := by
  obtain ⟨p, l, e, R, s, m, args, below, meth, cd, D, Q⟩ := X
  obtain ⟨hx, hb, hml, hown, hts, hK, hext, -⟩ := C
  intro H locs hR hS lsA hl
  exact lv_ldc2 hx hb hown (hts _ hw) d (kk H locs hR hS lsA hl)
theorem hz_iload_n (C : hz_C X y) {j : Fin 4} {x : Int32} (d : decode y.2.1 pc = .ok (.iload_n j, 1)) (h : ls[(j : Nat)]? = some (some (.int x))) (kk : hz_G X T n M kc ks (pc + 1) ls (.int x :: st)) : hz_G X T n M kc ks pc ls (st) := by
  obtain ⟨p, l, e, R, s, m, args, below, meth, cd, D, Q⟩ := X
  obtain ⟨hx, hb, hml, hown, hts, hK, hext, -⟩ := C
  intro H locs hR hS lsA hl
  exact lv_iload_n hx hb d rfl (hl.2.2 _ _ h) (kk H locs hR hS lsA hl)
theorem hz_iload (C : hz_C X y) {i : Nat} {x : Int32} (d : decode y.2.1 pc = .ok (.iload i, 2)) (h : ls[i]? = some (some (.int x))) (kk : hz_G X T n M kc ks (pc + 2) ls (.int x :: st)) : hz_G X T n M kc ks pc ls (st) := by
  obtain ⟨p, l, e, R, s, m, args, below, meth, cd, D, Q⟩ := X
  obtain ⟨hx, hb, hml, hown, hts, hK, hext, -⟩ := C
  intro H locs hR hS lsA hl
  exact lv_iload hx hb d (hl.2.2 _ _ h) (kk H locs hR hS lsA hl)
theorem hz_lload_n (C : hz_C X y) {j : Fin 4} {x : Int64} (d : decode y.2.1 pc = .ok (.lload_n j, 1)) (h : ls[(j : Nat)]? = some (some (.long x))) (kk : hz_G X T n M kc ks (pc + 1) ls (.long x :: st)) : hz_G X T n M kc ks pc ls (st) := by
  obtain ⟨p, l, e, R, s, m, args, below, meth, cd, D, Q⟩ := X
  obtain ⟨hx, hb, hml, hown, hts, hK, hext, -⟩ := C
  intro H locs hR hS lsA hl
  exact lv_lload_n hx hb d rfl (hl.2.2 _ _ h) (kk H locs hR hS lsA hl)
theorem hz_lload (C : hz_C X y) {i : Nat} {x : Int64} (d : decode y.2.1 pc = .ok (.lload i, 2)) (h : ls[i]? = some (some (.long x))) (kk : hz_G X T n M kc ks (pc + 2) ls (.long x :: st)) : hz_G X T n M kc ks pc ls (st) := by
  obtain ⟨p, l, e, R, s, m, args, below, meth, cd, D, Q⟩ := X
  obtain ⟨hx, hb, hml, hown, hts, hK, hext, -⟩ := C
  intro H locs hR hS lsA hl
  exact lv_lload hx hb d (hl.2.2 _ _ h) (kk H locs hR hS lsA hl)
theorem hz_aload_n (C : hz_C X y) {j : Fin 4} {x : Nat} (d : decode y.2.1 pc = .ok (.aload_n j, 1)) (h : ls[(j : Nat)]? = some (some (.ref x))) (kk : hz_G X T n M kc ks (pc + 1) ls (.ref x :: st)) : hz_G X T n M kc ks pc ls (st) := by
  obtain ⟨p, l, e, R, s, m, args, below, meth, cd, D, Q⟩ := X
  obtain ⟨hx, hb, hml, hown, hts, hK, hext, -⟩ := C
  intro H locs hR hS lsA hl
  exact lv_aload_n hx hb d rfl (hl.2.2 _ _ h) (kk H locs hR hS lsA hl)
theorem hz_iadd (C : hz_C X y) {x z v : Int32} (d : decode y.2.1 pc = .ok (.iadd, 1)) (hv : x + z = v) (kk : hz_G X T n M kc ks (pc + 1) ls (.int v :: st)) : hz_G X T n M kc ks pc ls (.int z :: .int x :: st) := by
  obtain ⟨p, l, e, R, s, m, args, below, meth, cd, D, Q⟩ := X
  obtain ⟨hx, hb, hml, hown, hts, hK, hext, -⟩ := C
  intro H locs hR hS lsA hl
  exact lv_iadd hx hb d (by rw [hv]; exact (kk H locs hR hS lsA hl))
theorem hz_isub (C : hz_C X y) {x z v : Int32} (d : decode y.2.1 pc = .ok (.isub, 1)) (hv : x - z = v) (kk : hz_G X T n M kc ks (pc + 1) ls (.int v :: st)) : hz_G X T n M kc ks pc ls (.int z :: .int x :: st) := by
  obtain ⟨p, l, e, R, s, m, args, below, meth, cd, D, Q⟩ := X
  obtain ⟨hx, hb, hml, hown, hts, hK, hext, -⟩ := C
  intro H locs hR hS lsA hl
  exact lv_isub hx hb d (by rw [hv]; exact (kk H locs hR hS lsA hl))
theorem hz_imul (C : hz_C X y) {x z v : Int32} (d : decode y.2.1 pc = .ok (.imul, 1)) (hv : x * z = v) (kk : hz_G X T n M kc ks (pc + 1) ls (.int v :: st)) : hz_G X T n M kc ks pc ls (.int z :: .int x :: st) := by
  obtain ⟨p, l, e, R, s, m, args, below, meth, cd, D, Q⟩ := X
  obtain ⟨hx, hb, hml, hown, hts, hK, hext, -⟩ := C
  intro H locs hR hS lsA hl
  exact lv_imul hx hb d (by rw [hv]; exact (kk H locs hR hS lsA hl))
theorem hz_iand (C : hz_C X y) {x z v : Int32} (d : decode y.2.1 pc = .ok (.iand, 1)) (hv : x &&& z = v) (kk : hz_G X T n M kc ks (pc + 1) ls (.int v :: st)) : hz_G X T n M kc ks pc ls (.int z :: .int x :: st) := by
  obtain ⟨p, l, e, R, s, m, args, below, meth, cd, D, Q⟩ := X
  obtain ⟨hx, hb, hml, hown, hts, hK, hext, -⟩ := C
  intro H locs hR hS lsA hl
  exact lv_iand hx hb d (by rw [hv]; exact (kk H locs hR hS lsA hl))
theorem hz_ior (C : hz_C X y) {x z v : Int32} (d : decode y.2.1 pc = .ok (.ior, 1)) (hv : x ||| z = v) (kk : hz_G X T n M kc ks (pc + 1) ls (.int v :: st)) : hz_G X T n M kc ks pc ls (.int z :: .int x :: st) := by
  obtain ⟨p, l, e, R, s, m, args, below, meth, cd, D, Q⟩ := X
  obtain ⟨hx, hb, hml, hown, hts, hK, hext, -⟩ := C
  intro H locs hR hS lsA hl
  exact lv_ior hx hb d (by rw [hv]; exact (kk H locs hR hS lsA hl))
theorem hz_ixor (C : hz_C X y) {x z v : Int32} (d : decode y.2.1 pc = .ok (.ixor, 1)) (hv : x ^^^ z = v) (kk : hz_G X T n M kc ks (pc + 1) ls (.int v :: st)) : hz_G X T n M kc ks pc ls (.int z :: .int x :: st) := by
  obtain ⟨p, l, e, R, s, m, args, below, meth, cd, D, Q⟩ := X
  obtain ⟨hx, hb, hml, hown, hts, hK, hext, -⟩ := C
  intro H locs hR hS lsA hl
  exact lv_ixor hx hb d (by rw [hv]; exact (kk H locs hR hS lsA hl))
theorem hz_ishl (C : hz_C X y) {x z v : Int32} (d : decode y.2.1 pc = .ok (.ishl, 1)) (hv : x <<< (z &&& 31) = v) (kk : hz_G X T n M kc ks (pc + 1) ls (.int v :: st)) : hz_G X T n M kc ks pc ls (.int z :: .int x :: st) := by
  obtain ⟨p, l, e, R, s, m, args, below, meth, cd, D, Q⟩ := X
  obtain ⟨hx, hb, hml, hown, hts, hK, hext, -⟩ := C
  intro H locs hR hS lsA hl
  exact lv_ishl hx hb d (by rw [hv]; exact (kk H locs hR hS lsA hl))
theorem hz_ishr (C : hz_C X y) {x z v : Int32} (d : decode y.2.1 pc = .ok (.ishr, 1)) (hv : x >>> (z &&& 31) = v) (kk : hz_G X T n M kc ks (pc + 1) ls (.int v :: st)) : hz_G X T n M kc ks pc ls (.int z :: .int x :: st) := by
  obtain ⟨p, l, e, R, s, m, args, below, meth, cd, D, Q⟩ := X
  obtain ⟨hx, hb, hml, hown, hts, hK, hext, -⟩ := C
  intro H locs hR hS lsA hl
  exact lv_ishr hx hb d (by rw [hv]; exact (kk H locs hR hS lsA hl))
theorem hz_iushr (C : hz_C X y) {x z v : Int32} (d : decode y.2.1 pc = .ok (.iushr, 1)) (hv : (x.toUInt32 >>> (z.toUInt32 &&& Int32.toUInt32 31)).toInt32 = v) (kk : hz_G X T n M kc ks (pc + 1) ls (.int v :: st)) : hz_G X T n M kc ks pc ls (.int z :: .int x :: st) := by
  obtain ⟨p, l, e, R, s, m, args, below, meth, cd, D, Q⟩ := X
  obtain ⟨hx, hb, hml, hown, hts, hK, hext, -⟩ := C
  intro H locs hR hS lsA hl
  exact lv_iushr hx hb d hv (kk H locs hR hS lsA hl)
theorem hz_ladd (C : hz_C X y) {x z v : Int64} (d : decode y.2.1 pc = .ok (.ladd, 1)) (hv : x + z = v) (kk : hz_G X T n M kc ks (pc + 1) ls (.long v :: st)) : hz_G X T n M kc ks pc ls (.long z :: .long x :: st) := by
  obtain ⟨p, l, e, R, s, m, args, below, meth, cd, D, Q⟩ := X
  obtain ⟨hx, hb, hml, hown, hts, hK, hext, -⟩ := C
  intro H locs hR hS lsA hl
  exact lv_ladd hx hb d (by rw [hv]; exact (kk H locs hR hS lsA hl))
theorem hz_lsub (C : hz_C X y) {x z v : Int64} (d : decode y.2.1 pc = .ok (.lsub, 1)) (hv : x - z = v) (kk : hz_G X T n M kc ks (pc + 1) ls (.long v :: st)) : hz_G X T n M kc ks pc ls (.long z :: .long x :: st) := by
  obtain ⟨p, l, e, R, s, m, args, below, meth, cd, D, Q⟩ := X
  obtain ⟨hx, hb, hml, hown, hts, hK, hext, -⟩ := C
  intro H locs hR hS lsA hl
  exact lv_lsub hx hb d (by rw [hv]; exact (kk H locs hR hS lsA hl))
theorem hz_lmul (C : hz_C X y) {x z v : Int64} (d : decode y.2.1 pc = .ok (.lmul, 1)) (hv : x * z = v) (kk : hz_G X T n M kc ks (pc + 1) ls (.long v :: st)) : hz_G X T n M kc ks pc ls (.long z :: .long x :: st) := by
  obtain ⟨p, l, e, R, s, m, args, below, meth, cd, D, Q⟩ := X
  obtain ⟨hx, hb, hml, hown, hts, hK, hext, -⟩ := C
  intro H locs hR hS lsA hl
  exact lv_lmul hx hb d (by rw [hv]; exact (kk H locs hR hS lsA hl))
theorem hz_idiv (C : hz_C X y) {x z v : Int32} (d : decode y.2.1 pc = .ok (.idiv, 1)) (h0 : ¬ z = 0) (hv : x / z = v) (kk : hz_G X T n M kc ks (pc + 1) ls (.int v :: st)) : hz_G X T n M kc ks pc ls (.int z :: .int x :: st) := by
  obtain ⟨p, l, e, R, s, m, args, below, meth, cd, D, Q⟩ := X
  obtain ⟨hx, hb, hml, hown, hts, hK, hext, -⟩ := C
  intro H locs hR hS lsA hl
  exact lv_idiv hx hb d h0 (by rw [hv]; exact (kk H locs hR hS lsA hl))
theorem hz_irem (C : hz_C X y) {x z v : Int32} (d : decode y.2.1 pc = .ok (.irem, 1)) (h0 : ¬ z = 0) (hv : x - x / z * z = v) (kk : hz_G X T n M kc ks (pc + 1) ls (.int v :: st)) : hz_G X T n M kc ks pc ls (.int z :: .int x :: st) := by
  obtain ⟨p, l, e, R, s, m, args, below, meth, cd, D, Q⟩ := X
  obtain ⟨hx, hb, hml, hown, hts, hK, hext, -⟩ := C
  intro H locs hR hS lsA hl
  exact lv_irem hx hb d h0 (by rw [hv]; exact (kk H locs hR hS lsA hl))
theorem hz_ldiv (C : hz_C X y) {x z v : Int64} (d : decode y.2.1 pc = .ok (.ldiv, 1)) (h0 : ¬ z = 0) (hv : x / z = v) (kk : hz_G X T n M kc ks (pc + 1) ls (.long v :: st)) : hz_G X T n M kc ks pc ls (.long z :: .long x :: st) := by
  obtain ⟨p, l, e, R, s, m, args, below, meth, cd, D, Q⟩ := X
  obtain ⟨hx, hb, hml, hown, hts, hK, hext, -⟩ := C
  intro H locs hR hS lsA hl
  exact lv_ldiv hx hb d h0 (by rw [hv]; exact (kk H locs hR hS lsA hl))
theorem hz_lrem (C : hz_C X y) {x z v : Int64} (d : decode y.2.1 pc = .ok (.lrem, 1)) (h0 : ¬ z = 0) (hv : x - x / z * z = v) (kk : hz_G X T n M kc ks (pc + 1) ls (.long v :: st)) : hz_G X T n M kc ks pc ls (.long z :: .long x :: st) := by
  obtain ⟨p, l, e, R, s, m, args, below, meth, cd, D, Q⟩ := X
  obtain ⟨hx, hb, hml, hown, hts, hK, hext, -⟩ := C
  intro H locs hR hS lsA hl
  exact lv_lrem hx hb d h0 (by rw [hv]; exact (kk H locs hR hS lsA hl))
theorem hz_lcmp (C : hz_C X y) {x z : Int64} (d : decode y.2.1 pc = .ok (.lcmp, 1))  (kk : hz_G X T n M kc ks (pc + 1) ls (.int (lg_cmp x z) :: st)) : hz_G X T n M kc ks pc ls (.long z :: .long x :: st) := by
  obtain ⟨p, l, e, R, s, m, args, below, meth, cd, D, Q⟩ := X
  obtain ⟨hx, hb, hml, hown, hts, hK, hext, -⟩ := C
  intro H locs hR hS lsA hl
  exact W.lcmp hx hb d (kk H locs hR hS lsA hl)
theorem hz_i2l (C : hz_C X y) {x : Int32} {v : Int64} (d : decode y.2.1 pc = .ok (.i2l, 1)) (hv : x.toInt64 = v) (kk : hz_G X T n M kc ks (pc + 1) ls (.long v :: st)) : hz_G X T n M kc ks pc ls (.int x :: st) := by
  obtain ⟨p, l, e, R, s, m, args, below, meth, cd, D, Q⟩ := X
  obtain ⟨hx, hb, hml, hown, hts, hK, hext, -⟩ := C
  intro H locs hR hS lsA hl
  exact lv_i2l hx hb d hv (kk H locs hR hS lsA hl)
theorem hz_l2i (C : hz_C X y) {x : Int64} {v : Int32} (d : decode y.2.1 pc = .ok (.l2i, 1)) (hv : x.toInt32 = v) (kk : hz_G X T n M kc ks (pc + 1) ls (.int v :: st)) : hz_G X T n M kc ks pc ls (.long x :: st) := by
  obtain ⟨p, l, e, R, s, m, args, below, meth, cd, D, Q⟩ := X
  obtain ⟨hx, hb, hml, hown, hts, hK, hext, -⟩ := C
  intro H locs hR hS lsA hl
  exact lv_l2i hx hb d hv (kk H locs hR hS lsA hl)
theorem hz_i2c (C : hz_C X y) {x v : Int32} (d : decode y.2.1 pc = .ok (.i2c, 1)) (hv : (x.toUInt32 % 65536).toInt32 = v) (kk : hz_G X T n M kc ks (pc + 1) ls (.int v :: st)) : hz_G X T n M kc ks pc ls (.int x :: st) := by
  obtain ⟨p, l, e, R, s, m, args, below, meth, cd, D, Q⟩ := X
  obtain ⟨hx, hb, hml, hown, hts, hK, hext, -⟩ := C
  intro H locs hR hS lsA hl
  exact lv_i2c hx hb d hv (kk H locs hR hS lsA hl)
theorem hz_dup (C : hz_C X y) {v : Value} (d : decode y.2.1 pc = .ok (.dup, 1)) (h : v.category = 1) (kk : hz_G X T n M kc ks (pc + 1) ls (v :: v :: st)) : hz_G X T n M kc ks pc ls (v :: st) := by
  obtain ⟨p, l, e, R, s, m, args, below, meth, cd, D, Q⟩ := X
  obtain ⟨hx, hb, hml, hown, hts, hK, hext, -⟩ := C
  intro H locs hR hS lsA hl
  exact lv_dup hx hb d ((hz_cat _ v).trans h) (kk H locs hR hS lsA hl)
theorem hz_pop (C : hz_C X y) {v : Value} (d : decode y.2.1 pc = .ok (.pop, 1)) (h : v.category = 1) (kk : hz_G X T n M kc ks (pc + 1) ls (st)) : hz_G X T n M kc ks pc ls (v :: st) := by
  obtain ⟨p, l, e, R, s, m, args, below, meth, cd, D, Q⟩ := X
  obtain ⟨hx, hb, hml, hown, hts, hK, hext, -⟩ := C
  intro H locs hR hS lsA hl
  exact lv_pop hx hb d ((hz_cat _ v).trans h) (kk H locs hR hS lsA hl)
theorem hz_dup2 (C : hz_C X y) {v u : Value} (d : decode y.2.1 pc = .ok (.dup2, 1)) (h : v.category = 1) (g : u.category = 1) (kk : hz_G X T n M kc ks (pc + 1) ls (v :: u :: v :: u :: st)) : hz_G X T n M kc ks pc ls (v :: u :: st) := by
  obtain ⟨p, l, e, R, s, m, args, below, meth, cd, D, Q⟩ := X
  obtain ⟨hx, hb, hml, hown, hts, hK, hext, -⟩ := C
  intro H locs hR hS lsA hl
  exact lv_dup2_11 hx hb d ((hz_cat _ v).trans h) ((hz_cat _ u).trans g) (kk H locs hR hS lsA hl)
theorem hz_dup2L (C : hz_C X y) {v : Value} (d : decode y.2.1 pc = .ok (.dup2, 1)) (h : v.category = 2) (kk : hz_G X T n M kc ks (pc + 1) ls (v :: v :: st)) : hz_G X T n M kc ks pc ls (v :: st) := by
  obtain ⟨p, l, e, R, s, m, args, below, meth, cd, D, Q⟩ := X
  obtain ⟨hx, hb, hml, hown, hts, hK, hext, -⟩ := C
  intro H locs hR hS lsA hl
  exact lv_dup2_2 hx hb d ((hz_cat _ v).trans h) (kk H locs hR hS lsA hl)
theorem hz_goto (C : hz_C X y) {off : Int} {tgt : Nat} (d : decode y.2.1 pc = .ok (.goto off, 3)) (ht : (pc : Int) + off = (tgt : Int)) (kk : hz_G X T n M kc ks tgt ls st) : hz_G X T n M kc ks pc ls st := by
  obtain ⟨p, l, e, R, s, m, args, below, meth, cd, D, Q⟩ := X
  obtain ⟨hx, hb, hml, hown, hts, hK, hext, -⟩ := C
  intro H locs hR hS lsA hl
  exact lv_goto hx hb d ht (kk H locs hR hS lsA hl)
theorem hz_if_eq (C : hz_C X y) {x : Int32} {off : Int} {tgt : Nat} (d : decode y.2.1 pc = .ok (.ifCond .eq off, 3)) (ht : (pc : Int) + off = (tgt : Int)) (kt : x = 0 → hz_G X T n M kc ks tgt ls st) (kf : ¬ (x = 0) → hz_G X T n M kc ks (pc + 3) ls st) : hz_G X T n M kc ks pc ls (.int x :: st) := by
  obtain ⟨p, l, e, R, s, m, args, below, meth, cd, D, Q⟩ := X
  obtain ⟨hx, hb, hml, hown, hts, hK, hext, -⟩ := C
  intro H locs hR hS lsA hl
  exact lv_if_eq hx hb d ht (fun h => kt h H locs hR hS lsA hl) (fun h => kf h H locs hR hS lsA hl)
theorem hz_if_lt (C : hz_C X y) {x : Int32} {off : Int} {tgt : Nat} (d : decode y.2.1 pc = .ok (.ifCond .lt off, 3)) (ht : (pc : Int) + off = (tgt : Int)) (kt : x < 0 → hz_G X T n M kc ks tgt ls st) (kf : ¬ (x < 0) → hz_G X T n M kc ks (pc + 3) ls st) : hz_G X T n M kc ks pc ls (.int x :: st) := by
  obtain ⟨p, l, e, R, s, m, args, below, meth, cd, D, Q⟩ := X
  obtain ⟨hx, hb, hml, hown, hts, hK, hext, -⟩ := C
  intro H locs hR hS lsA hl
  exact lv_if_lt hx hb d ht (fun h => kt h H locs hR hS lsA hl) (fun h => kf h H locs hR hS lsA hl)
theorem hz_if_ge (C : hz_C X y) {x : Int32} {off : Int} {tgt : Nat} (d : decode y.2.1 pc = .ok (.ifCond .ge off, 3)) (ht : (pc : Int) + off = (tgt : Int)) (kt : 0 ≤ x → hz_G X T n M kc ks tgt ls st) (kf : ¬ (0 ≤ x) → hz_G X T n M kc ks (pc + 3) ls st) : hz_G X T n M kc ks pc ls (.int x :: st) := by
  obtain ⟨p, l, e, R, s, m, args, below, meth, cd, D, Q⟩ := X
  obtain ⟨hx, hb, hml, hown, hts, hK, hext, -⟩ := C
  intro H locs hR hS lsA hl
  exact lv_if_ge hx hb d ht (fun h => kt h H locs hR hS lsA hl) (fun h => kf h H locs hR hS lsA hl)
theorem hz_if_gt (C : hz_C X y) {x : Int32} {off : Int} {tgt : Nat} (d : decode y.2.1 pc = .ok (.ifCond .gt off, 3)) (ht : (pc : Int) + off = (tgt : Int)) (kt : 0 < x → hz_G X T n M kc ks tgt ls st) (kf : ¬ (0 < x) → hz_G X T n M kc ks (pc + 3) ls st) : hz_G X T n M kc ks pc ls (.int x :: st) := by
  obtain ⟨p, l, e, R, s, m, args, below, meth, cd, D, Q⟩ := X
  obtain ⟨hx, hb, hml, hown, hts, hK, hext, -⟩ := C
  intro H locs hR hS lsA hl
  exact lv_if_gt hx hb d ht (fun h => kt h H locs hR hS lsA hl) (fun h => kf h H locs hR hS lsA hl)
theorem hz_if_le (C : hz_C X y) {x : Int32} {off : Int} {tgt : Nat} (d : decode y.2.1 pc = .ok (.ifCond .le off, 3)) (ht : (pc : Int) + off = (tgt : Int)) (kt : x ≤ 0 → hz_G X T n M kc ks tgt ls st) (kf : ¬ (x ≤ 0) → hz_G X T n M kc ks (pc + 3) ls st) : hz_G X T n M kc ks pc ls (.int x :: st) := by
  obtain ⟨p, l, e, R, s, m, args, below, meth, cd, D, Q⟩ := X
  obtain ⟨hx, hb, hml, hown, hts, hK, hext, -⟩ := C
  intro H locs hR hS lsA hl
  exact lv_if_le hx hb d ht (fun h => kt h H locs hR hS lsA hl) (fun h => kf h H locs hR hS lsA hl)
theorem hz_if_ne (C : hz_C X y) {x : Int32} {off : Int} {tgt : Nat} (d : decode y.2.1 pc = .ok (.ifCond .ne off, 3)) (ht : (pc : Int) + off = (tgt : Int)) (kt : ¬ x = 0 → hz_G X T n M kc ks tgt ls st) (kf : x = 0 → hz_G X T n M kc ks (pc + 3) ls st) : hz_G X T n M kc ks pc ls (.int x :: st) := by
  obtain ⟨p, l, e, R, s, m, args, below, meth, cd, D, Q⟩ := X
  obtain ⟨hx, hb, hml, hown, hts, hK, hext, -⟩ := C
  intro H locs hR hS lsA hl
  exact lv_if_ne hx hb d ht (fun h => kt h H locs hR hS lsA hl) (fun h => kf h H locs hR hS lsA hl)
theorem hz_ic_ne (C : hz_C X y) {x z : Int32} {off : Int} {tgt : Nat} (d : decode y.2.1 pc = .ok (.if_icmp .ne off, 3)) (ht : (pc : Int) + off = (tgt : Int)) (kt : ¬ x = z → hz_G X T n M kc ks tgt ls st) (kf : x = z → hz_G X T n M kc ks (pc + 3) ls st) : hz_G X T n M kc ks pc ls (.int z :: .int x :: st) := by
  obtain ⟨p, l, e, R, s, m, args, below, meth, cd, D, Q⟩ := X
  obtain ⟨hx, hb, hml, hown, hts, hK, hext, -⟩ := C
  intro H locs hR hS lsA hl
  exact lv_icmp_ne hx hb d ht (fun h => kt h H locs hR hS lsA hl) (fun h => kf h H locs hR hS lsA hl)
theorem hz_ic_eq (C : hz_C X y) {x z : Int32} {off : Int} {tgt : Nat} (d : decode y.2.1 pc = .ok (.if_icmp .eq off, 3)) (ht : (pc : Int) + off = (tgt : Int)) (kt : x = z → hz_G X T n M kc ks tgt ls st) (kf : ¬ (x = z) → hz_G X T n M kc ks (pc + 3) ls st) : hz_G X T n M kc ks pc ls (.int z :: .int x :: st) := by
  obtain ⟨p, l, e, R, s, m, args, below, meth, cd, D, Q⟩ := X
  obtain ⟨hx, hb, hml, hown, hts, hK, hext, -⟩ := C
  intro H locs hR hS lsA hl
  exact lv_icmp_eq hx hb d ht (fun h => kt h H locs hR hS lsA hl) (fun h => kf h H locs hR hS lsA hl)
theorem hz_ic_lt (C : hz_C X y) {x z : Int32} {off : Int} {tgt : Nat} (d : decode y.2.1 pc = .ok (.if_icmp .lt off, 3)) (ht : (pc : Int) + off = (tgt : Int)) (kt : x < z → hz_G X T n M kc ks tgt ls st) (kf : ¬ (x < z) → hz_G X T n M kc ks (pc + 3) ls st) : hz_G X T n M kc ks pc ls (.int z :: .int x :: st) := by
  obtain ⟨p, l, e, R, s, m, args, below, meth, cd, D, Q⟩ := X
  obtain ⟨hx, hb, hml, hown, hts, hK, hext, -⟩ := C
  intro H locs hR hS lsA hl
  exact lv_icmp_lt hx hb d ht (fun h => kt h H locs hR hS lsA hl) (fun h => kf h H locs hR hS lsA hl)
theorem hz_ic_ge (C : hz_C X y) {x z : Int32} {off : Int} {tgt : Nat} (d : decode y.2.1 pc = .ok (.if_icmp .ge off, 3)) (ht : (pc : Int) + off = (tgt : Int)) (kt : z ≤ x → hz_G X T n M kc ks tgt ls st) (kf : ¬ (z ≤ x) → hz_G X T n M kc ks (pc + 3) ls st) : hz_G X T n M kc ks pc ls (.int z :: .int x :: st) := by
  obtain ⟨p, l, e, R, s, m, args, below, meth, cd, D, Q⟩ := X
  obtain ⟨hx, hb, hml, hown, hts, hK, hext, -⟩ := C
  intro H locs hR hS lsA hl
  exact lv_icmp_ge hx hb d ht (fun h => kt h H locs hR hS lsA hl) (fun h => kf h H locs hR hS lsA hl)
theorem hz_ic_gt (C : hz_C X y) {x z : Int32} {off : Int} {tgt : Nat} (d : decode y.2.1 pc = .ok (.if_icmp .gt off, 3)) (ht : (pc : Int) + off = (tgt : Int)) (kt : z < x → hz_G X T n M kc ks tgt ls st) (kf : ¬ (z < x) → hz_G X T n M kc ks (pc + 3) ls st) : hz_G X T n M kc ks pc ls (.int z :: .int x :: st) := by
  obtain ⟨p, l, e, R, s, m, args, below, meth, cd, D, Q⟩ := X
  obtain ⟨hx, hb, hml, hown, hts, hK, hext, -⟩ := C
  intro H locs hR hS lsA hl
  exact lv_icmp_gt hx hb d ht (fun h => kt h H locs hR hS lsA hl) (fun h => kf h H locs hR hS lsA hl)
theorem hz_ic_le (C : hz_C X y) {x z : Int32} {off : Int} {tgt : Nat} (d : decode y.2.1 pc = .ok (.if_icmp .le off, 3)) (ht : (pc : Int) + off = (tgt : Int)) (kt : x ≤ z → hz_G X T n M kc ks tgt ls st) (kf : ¬ (x ≤ z) → hz_G X T n M kc ks (pc + 3) ls st) : hz_G X T n M kc ks pc ls (.int z :: .int x :: st) := by
  obtain ⟨p, l, e, R, s, m, args, below, meth, cd, D, Q⟩ := X
  obtain ⟨hx, hb, hml, hown, hts, hK, hext, -⟩ := C
  intro H locs hR hS lsA hl
  exact lv_icmp_le hx hb d ht (fun h => kt h H locs hR hS lsA hl) (fun h => kf h H locs hR hS lsA hl)
theorem hz_swIn (C : hz_C X y) {dflt lo hi : Int} {offs : Array Int} {len : Nat} {x : Int32} {off : Int} {tgt : Nat} (d : decode y.2.1 pc = .ok (.tableswitch dflt lo hi offs, len)) (h1 : ¬ x.toInt < lo) (h2 : ¬ hi < x.toInt) (ho : offs[(x.toInt - lo).toNat]? = some off) (ht : (pc : Int) + off = (tgt : Int)) (kk : hz_G X T n M kc ks tgt ls st) : hz_G X T n M kc ks pc ls (.int x :: st) := by
  obtain ⟨p, l, e, R, s, m, args, below, meth, cd, D, Q⟩ := X
  obtain ⟨hx, hb, hml, hown, hts, hK, hext, -⟩ := C
  intro H locs hR hS lsA hl
  exact lv_tableIn hx hb d h1 h2 ho ht (kk H locs hR hS lsA hl)
theorem hz_swOut (C : hz_C X y) {dflt lo hi : Int} {offs : Array Int} {len : Nat} {x : Int32} {tgt : Nat} (d : decode y.2.1 pc = .ok (.tableswitch dflt lo hi offs, len)) (h : x.toInt < lo ∨ hi < x.toInt) (ht : (pc : Int) + dflt = (tgt : Int)) (kk : hz_G X T n M kc ks tgt ls st) : hz_G X T n M kc ks pc ls (.int x :: st) := by
  obtain ⟨p, l, e, R, s, m, args, below, meth, cd, D, Q⟩ := X
  obtain ⟨hx, hb, hml, hown, hts, hK, hext, -⟩ := C
  intro H locs hR hS lsA hl
  exact lv_tableOut hx hb d h ht (kk H locs hR hS lsA hl)
theorem hz_istore_n (C : hz_C X y) {j : Fin 4} {x : Int32} {ls' : List (Option Value)} (d : decode y.2.1 pc = .ok (.istore_n j, 1)) (hi : (j : Nat) < ls.length) (h : hz_s1 ls (j : Nat) (.int x) = ls') (kk : hz_G X T n M kc ks (pc + 1) ls' st) : hz_G X T n M kc ks pc ls (.int x :: st) := by
  obtain ⟨p, l, e, R, s, m, args, below, meth, cd, D, Q⟩ := X
  obtain ⟨hx, hb, hml, hown, hts, hK, hext, -⟩ := C
  intro H locs hR hS lsA hl
  subst h
  exact lv_istore_n hx hb d rfl (hz_L_has hl) hi rfl (fun lsB hB => kk H locs hR hS lsB (hz_L_s1 hB hi))
theorem hz_istore (C : hz_C X y) {i : Nat} {x : Int32} {ls' : List (Option Value)} (d : decode y.2.1 pc = .ok (.istore i, 2)) (hi : i < ls.length) (h : hz_s1 ls i (.int x) = ls') (kk : hz_G X T n M kc ks (pc + 2) ls' st) : hz_G X T n M kc ks pc ls (.int x :: st) := by
  obtain ⟨p, l, e, R, s, m, args, below, meth, cd, D, Q⟩ := X
  obtain ⟨hx, hb, hml, hown, hts, hK, hext, -⟩ := C
  intro H locs hR hS lsA hl
  subst h
  exact lv_istore hx hb d (hz_L_has hl) hi rfl (fun lsB hB => kk H locs hR hS lsB (hz_L_s1 hB hi))
theorem hz_lstore_n (C : hz_C X y) {j : Fin 4} {x : Int64} {ls' : List (Option Value)} (d : decode y.2.1 pc = .ok (.lstore_n j, 1)) (hi : (j : Nat) + 1 < ls.length) (h : hz_s2 ls (j : Nat) (.long x) = ls') (kk : hz_G X T n M kc ks (pc + 1) ls' st) : hz_G X T n M kc ks pc ls (.long x :: st) := by
  obtain ⟨p, l, e, R, s, m, args, below, meth, cd, D, Q⟩ := X
  obtain ⟨hx, hb, hml, hown, hts, hK, hext, -⟩ := C
  intro H locs hR hS lsA hl
  subst h
  exact lv_lstore_n hx hb d rfl (hz_L_has hl) hi rfl (fun lsB hB => kk H locs hR hS lsB (hz_L_s2 hB (Nat.lt_of_succ_lt hi)))
theorem hz_lstore (C : hz_C X y) {i : Nat} {x : Int64} {ls' : List (Option Value)} (d : decode y.2.1 pc = .ok (.lstore i, 2)) (hi : i + 1 < ls.length) (h : hz_s2 ls i (.long x) = ls') (kk : hz_G X T n M kc ks (pc + 2) ls' st) : hz_G X T n M kc ks pc ls (.long x :: st) := by
  obtain ⟨p, l, e, R, s, m, args, below, meth, cd, D, Q⟩ := X
  obtain ⟨hx, hb, hml, hown, hts, hK, hext, -⟩ := C
  intro H locs hR hS lsA hl
  subst h
  exact lv_lstore hx hb d (hz_L_has hl) hi rfl (fun lsB hB => kk H locs hR hS lsB (hz_L_s2 hB (Nat.lt_of_succ_lt hi)))
theorem hz_astore_n (C : hz_C X y) {j : Fin 4} {x : Nat} {ls' : List (Option Value)} (d : decode y.2.1 pc = .ok (.astore_n j, 1)) (hi : (j : Nat) < ls.length) (h : hz_s1 ls (j : Nat) (.ref x) = ls') (kk : hz_G X T n M kc ks (pc + 1) ls' st) : hz_G X T n M kc ks pc ls (.ref x :: st) := by
  obtain ⟨p, l, e, R, s, m, args, below, meth, cd, D, Q⟩ := X
  obtain ⟨hx, hb, hml, hown, hts, hK, hext, -⟩ := C
  intro H locs hR hS lsA hl
  subst h
  exact lv_astore_n hx hb d rfl (hz_L_has hl) hi rfl (fun lsB hB => kk H locs hR hS lsB (hz_L_s1 hB hi))
theorem hz_iinc (C : hz_C X y) {i : Nat} {z : Int} {x v : Int32} {ls' : List (Option Value)} (d : decode y.2.1 pc = .ok (.iinc i z, 3)) (h0 : ls[i]? = some (some (.int x))) (hv : x + Int32.ofInt z = v) (h : hz_s1 ls i (.int v) = ls') (kk : hz_G X T n M kc ks (pc + 3) ls' st) : hz_G X T n M kc ks pc ls st := by
  obtain ⟨p, l, e, R, s, m, args, below, meth, cd, D, Q⟩ := X
  obtain ⟨hx, hb, hml, hown, hts, hK, hext, -⟩ := C
  intro H locs hR hS lsA hl
  subst h
  obtain ⟨q, hq⟩ := List.getElem?_of_mem (hz_al_mem (ad := D.2.2.1) h0)
  have hi : i < ls.length := (List.getElem?_eq_some_iff.mp h0).1
  exact lv_iinc hx hb d (hz_L_has hl) (k := q) hq hv hi rfl (fun lsB hB => kk H locs hR hS lsB (hz_L_s1 hB hi))
def hz_so (ty : FieldType) : Nat := match ty with
  | .long => 1
  | .object _ => 2
  | .array _ => 2
  | _ => 0
theorem hz_fv0 {ad : Nat → Nat} {M : hz_M} {ty : FieldType} {a k : Nat} (h : hz_so ty = 0) : hz_fv ad M ty a k = .int (M.1 a k) := by cases ty <;> first | rfl | (simp [hz_so] at h)
theorem hz_fv1 {ad : Nat → Nat} {M : hz_M} {ty : FieldType} {a k : Nat} (h : hz_so ty = 1) : hz_fv ad M ty a k = .long (M.2.1 a k) := by cases ty <;> first | rfl | (simp [hz_so] at h)
theorem hz_fv2 {ad : Nat → Nat} {M : hz_M} {ty : FieldType} {a k : Nat} (h : hz_so ty = 2) : hz_fv ad M ty a k = hz_rf ad (M.2.2 a k) := by cases ty <;> first | rfl | (simp [hz_so] at h)
/-- a field as the tables link it -/
def hz_F (own : String) (idx c k : Nat) : Prop := ∃ r : vw_C, vwCl[c]? = some r ∧ k < r.2.2 ∧ Cond.fieldLink own idx (r.2.1 k).1 (r.2.1 k).2.1 (r.2.1 k).2.2.1 ∈ hz_tbl
def hz_fin (c k : Nat) : Bool := match vwCl[c]? with
  | some r => (r.2.1 k).2.2.2
  | none => true
theorem hz_R.put {D : hz_D} {T : hz_T} {n : Nat} {M M' : hz_M} {H H1 : Heap} {a : Nat} {E' : va_E} (hR : hz_R D T n M H) (h0 : a ≠ 0) (he : hz_E D T M' a = E') (ho : ∀ b, b ≠ a → hz_E D T M' b = hz_E D T M b) (hP : va_P D.1 vwCl ((hz_W D T n M).set (a - 1) (D.2.2.1 a, E')) H1) (hD : va_D (hz_A D) ((hz_W D T n M).set (a - 1) (D.2.2.1 a, E'))) (hz : H1.size = H.size) : hz_R D T n M' H1 := by
  rw [hz_W_set D T M M' h0 he ho] at hP hD
  exact ⟨hP, hD, hz.trans hR.2.2⟩
theorem hz_getI (C : hz_C X y) {ix c k a N : Nat} {v : Int32} (F : hz_F y.1.cls ix c k) (d : decode y.2.1 pc = .ok (.getfield ix, 3)) (hT : T a = (c, N)) (ha : a ≠ 0 ∧ a ≤ n) (ht : hz_so (hz_ty c k) = 0) (hv : M.1 a k = v) (kk : hz_G X T n M kc ks (pc + 3) ls (.int v :: st)) : hz_G X T n M kc ks pc ls (.ref a :: st) := by
  obtain ⟨p, l, e, R, s, m, args, below, meth, cd, D, Q⟩ := X
  obtain ⟨hx, hb, hml, hown, hts, hK, hext, -⟩ := C
  intro H locs hR hS lsA hl
  obtain ⟨r, hr, hk, hw⟩ := F
  refine va_get (C := r.1) (T := r.2.1) (N := r.2.2) (v := .int v) hx hb hts (hz_lay hr) hown hK.1 hR.1 (a - 1) (hz_W_obj D M ha.1 ha.2 hT (List.getElem?_eq_some_iff.mp hr).1) hr k hk (hts _ hw) (fun _ h => h) ?_ d (kk H locs hR hS lsA hl)
  rw [hz_fs_get _ _ _ _ (by rw [hz_nf_eq hr]; exact hk), hz_fv0 ht, hv]
theorem hz_getL (C : hz_C X y) {ix c k a N : Nat} {v : Int64} (F : hz_F y.1.cls ix c k) (d : decode y.2.1 pc = .ok (.getfield ix, 3)) (hT : T a = (c, N)) (ha : a ≠ 0 ∧ a ≤ n) (ht : hz_so (hz_ty c k) = 1) (hv : M.2.1 a k = v) (kk : hz_G X T n M kc ks (pc + 3) ls (.long v :: st)) : hz_G X T n M kc ks pc ls (.ref a :: st) := by
  obtain ⟨p, l, e, R, s, m, args, below, meth, cd, D, Q⟩ := X
  obtain ⟨hx, hb, hml, hown, hts, hK, hext, -⟩ := C
  intro H locs hR hS lsA hl
  obtain ⟨r, hr, hk, hw⟩ := F
  refine va_get (C := r.1) (T := r.2.1) (N := r.2.2) (v := .long v) hx hb hts (hz_lay hr) hown hK.1 hR.1 (a - 1) (hz_W_obj D M ha.1 ha.2 hT (List.getElem?_eq_some_iff.mp hr).1) hr k hk (hts _ hw) (fun _ h => h) ?_ d (kk H locs hR hS lsA hl)
  rw [hz_fs_get _ _ _ _ (by rw [hz_nf_eq hr]; exact hk), hz_fv1 ht, hv]
theorem hz_getP (C : hz_C X y) {ix c k a N : Nat} {v : Nat} (F : hz_F y.1.cls ix c k) (d : decode y.2.1 pc = .ok (.getfield ix, 3)) (hT : T a = (c, N)) (ha : a ≠ 0 ∧ a ≤ n) (ht : hz_so (hz_ty c k) = 2) (hv : M.2.2 a k = v) (hv0 : v ≠ 0) (kk : hz_G X T n M kc ks (pc + 3) ls (.ref v :: st)) : hz_G X T n M kc ks pc ls (.ref a :: st) := by
  obtain ⟨p, l, e, R, s, m, args, below, meth, cd, D, Q⟩ := X
  obtain ⟨hx, hb, hml, hown, hts, hK, hext, -⟩ := C
  intro H locs hR hS lsA hl
  obtain ⟨r, hr, hk, hw⟩ := F
  refine va_get (C := r.1) (T := r.2.1) (N := r.2.2) (v := .ref (D.2.2.1 v)) hx hb hts (hz_lay hr) hown hK.1 hR.1 (a - 1) (hz_W_obj D M ha.1 ha.2 hT (List.getElem?_eq_some_iff.mp hr).1) hr k hk (hts _ hw) (fun _ h => h) ?_ d (kk H locs hR hS lsA hl)
  rw [hz_fs_get _ _ _ _ (by rw [hz_nf_eq hr]; exact hk), hz_fv2 ht, hv]; rw [hz_rf_ref hv0]
theorem hz_putV (C : hz_C X y) {ix c k a N : Nat} {v : Value} {M' : hz_M} (F : hz_F y.1.cls ix c k) (d : decode y.2.1 pc = .ok (.putfield ix, 3)) (hT : T a = (c, N)) (ha : a ≠ 0 ∧ a ≤ n) (hf : hz_fin c k = false) (hn : ∀ ad, narrow (hz_ty c k) (hz_tr ad v) = hz_tr ad v ∧ fits (hz_ty c k) (hz_tr ad v) = true) (hv : ∀ ad, hz_fv ad M' (hz_ty c k) a k = hz_tr ad v) (ho : ∀ ad j, j ≠ k → hz_fv ad M' (hz_ty c j) a j = hz_fv ad M (hz_ty c j) a j) (hE : ∀ D b, b ≠ a → hz_E D T M' b = hz_E D T M b) (kk : hz_G X T n M' kc ks (pc + 3) ls st) : hz_G X T n M kc ks pc ls (v :: .ref a :: st) := by
  obtain ⟨p, l, e, R, s, m, args, below, meth, cd, D, Q⟩ := X
  obtain ⟨hx, hb, hml, hown, hts, hK, hext, -⟩ := C
  intro H locs hR hS lsA hl
  obtain ⟨r, hr, hk, hw⟩ := F
  have hc : c < 12 := (List.getElem?_eq_some_iff.mp hr).1
  have hin := hz_lay hr
  have hty := hz_tyok c hc r hr
  obtain ⟨r', h1, cell, q1, q2, q3, q4⟩ := hR.1 (a - 1) _ (hz_W_obj D M ha.1 ha.2 hT hc)
  cases hr.symm.trans h1
  have hap := va_apart (own := y.1.cls) hts hin (hz_ty c) hty (hz_nmok c hc r hr) hK.1 hr
  obtain ⟨hSl, hfc, kC, hkC, hkind⟩ := hK.1.1 c _ hr
  obtain ⟨cf, kf, fi, f, hi, hsl⟩ := hSl k hk
  have hlay := hts _ (hin _ (u_in_lay hk))
  unfold u_lay at hlay
  have hst := (u_facts hfc hkC (u_lays hts hin hk) hi).1
  have hf2 : (r.2.1 k).2.2.2 = false := by simpa only [hz_fin, hr] using hf
  rw [if_neg (by rw [hf2]; decide)] at hlay
  have h6 := u_store hfc hkC hkind hlay hi (hty k hk) (hn D.2.2.1).1 (hn D.2.2.1).2
  refine W.putK hx hb (f := f) ⟨hown, hts _ hw, ⟨_, _, _, hi⟩, hst⟩ (by rw [q2]; exact h6) q1 q3 (by rw [hsl]; exact k2_hasslot (q4 k hk)) rfl rfl d fun H' e1 e2 e3 => ?_
  rw [hsl] at e1 ⊢
  refine kk H' _ ⟨?_, ?_, e2.trans hR.2.2⟩ (hS.put e2 e3 (hR.2.1.2 _ _ (hz_W_obj D M ha.1 ha.2 hT hc))) lsA hl
  · rw [← hz_W_set D T M M' ha.1 rfl (hE D)]
    refine hR.1.set hR.2.1 (hz_W_get D T M ha.1 ha.2) ?_ e3
    rw [show hz_E D T M' a = .inr (c, hz_fs D.2.2.1 M' c a) by simp [hz_E, hT, hc]]
    refine ⟨_, hr, t_OB.to (V := updV (vp_V (hz_fs D.2.2.1 M c a)) k (hz_tr D.2.2.1 v)) ⟨_, e1, q2, q3, t_set q4 hap hk _⟩ (fun j hj => ?_)⟩
    have hj2 : j < hz_nf c := by rw [hz_nf_eq hr]; exact hj
    by_cases hjk : j = k
    · subst hjk
      simp [updV, vp_V, List.getD_eq_getElem?_getD, hz_fs_get _ _ _ _ hj2, hv]
    · simp [updV, vp_V, hjk, List.getD_eq_getElem?_getD, hz_fs_get _ _ _ _ hj2, ho _ j hjk]
  · rw [← hz_W_set D T M M' ha.1 rfl (hE D)]
    exact hR.2.1.set (hz_W_get D T M ha.1 ha.2)
theorem hz_putVF (C : hz_C X y) {ix c k a N : Nat} {v : Value} {M' : hz_M} (F : hz_F y.1.cls ix c k) (d : decode y.2.1 pc = .ok (.putfield ix, 3)) (hT : T a = (c, N)) (ha : a ≠ 0 ∧ a ≤ n) (hf : hz_fin c k = true) (hini : y.1.name = "<init>") (hdc : ∀ r, vwCl[c]? = some r → (r.2.1 k).1 = y.1.cls) (hn : ∀ ad, narrow (hz_ty c k) (hz_tr ad v) = hz_tr ad v ∧ fits (hz_ty c k) (hz_tr ad v) = true) (hv : ∀ ad, hz_fv ad M' (hz_ty c k) a k = hz_tr ad v) (ho : ∀ ad j, j ≠ k → hz_fv ad M' (hz_ty c j) a j = hz_fv ad M (hz_ty c j) a j) (hE : ∀ D b, b ≠ a → hz_E D T M' b = hz_E D T M b) (kk : hz_G X T n M' kc ks (pc + 3) ls st) : hz_G X T n M kc ks pc ls (v :: .ref a :: st) := by
  obtain ⟨p, l, e, R, s, m, args, below, meth, cd, D, Q⟩ := X
  obtain ⟨hx, hb, hml, hown, hts, hK, hext, -, -, -, -, hin0, -⟩ := C
  intro H locs hR hS lsA hl
  obtain ⟨r, hr, hk, hw⟩ := F
  have hc : c < 12 := (List.getElem?_eq_some_iff.mp hr).1
  have hin := hz_lay hr
  have hty := hz_tyok c hc r hr
  obtain ⟨r', h1, cell, q1, q2, q3, q4⟩ := hR.1 (a - 1) _ (hz_W_obj D M ha.1 ha.2 hT hc)
  cases hr.symm.trans h1
  have hap := va_apart (own := y.1.cls) hts hin (hz_ty c) hty (hz_nmok c hc r hr) hK.1 hr
  obtain ⟨hSl, hfc, kC, hkC, hkind⟩ := hK.1.1 c _ hr
  obtain ⟨cf, kf, fi, f, hi, hsl⟩ := hSl k hk
  have hlay := hts _ (hin _ (u_in_lay hk))
  unfold u_lay at hlay
  have hst := (u_facts hfc hkC (u_lays hts hin hk) hi).1
  have hf2 : (r.2.1 k).2.2.2 = true := by simpa only [hz_fin, hr] using hf
  rw [if_pos hf2] at hlay
  have hcf : m.cls = cf := by
    obtain ⟨_, _, c', _, _, _, -, -, hf', -, -, -, hown2, -⟩ := Cond.laysFinal_spec hlay
    have e1 : c' = cf := by have := hi.symm.trans hf'; simp at this; exact this.1.symm
    rw [hdc r hr] at hown2
    rw [← e1]; exact Option.some.inj (hown.symm.trans hown2)
  have h6 := u_fits hfc hkC hkind (Or.inr hlay) hi (hty k hk) (hn D.2.2.1).1 (hn D.2.2.1).2
  refine W.putFinK hx hb hown (hts _ hw) hi hst hcf (hin0 hini) (by rw [q2]; exact h6) q1 q3 (by rw [hsl]; exact k2_hasslot (q4 k hk)) rfl rfl d fun H' e1 e2 e3 => ?_
  rw [hsl] at e1 ⊢
  refine kk H' _ ⟨?_, ?_, e2.trans hR.2.2⟩ (hS.put e2 e3 (hR.2.1.2 _ _ (hz_W_obj D M ha.1 ha.2 hT hc))) lsA hl
  · rw [← hz_W_set D T M M' ha.1 rfl (hE D)]
    refine hR.1.set hR.2.1 (hz_W_get D T M ha.1 ha.2) ?_ e3
    rw [show hz_E D T M' a = .inr (c, hz_fs D.2.2.1 M' c a) by simp [hz_E, hT, hc]]
    refine ⟨_, hr, t_OB.to (V := updV (vp_V (hz_fs D.2.2.1 M c a)) k (hz_tr D.2.2.1 v)) ⟨_, e1, q2, q3, t_set q4 hap hk _⟩ (fun j hj => ?_)⟩
    have hj2 : j < hz_nf c := by rw [hz_nf_eq hr]; exact hj
    by_cases hjk : j = k
    · subst hjk
      simp [updV, vp_V, List.getD_eq_getElem?_getD, hz_fs_get _ _ _ _ hj2, hv]
    · simp [updV, vp_V, hjk, List.getD_eq_getElem?_getD, hz_fs_get _ _ _ _ hj2, ho _ j hjk]
  · rw [← hz_W_set D T M M' ha.1 rfl (hE D)]
    exact hR.2.1.set (hz_W_get D T M ha.1 ha.2)
theorem hz_putI (C : hz_C X y) {ix c k a N : Nat} {v : Int32} {M' : hz_M} (F : hz_F y.1.cls ix c k) (d : decode y.2.1 pc = .ok (.putfield ix, 3)) (hT : T a = (c, N)) (ha : a ≠ 0 ∧ a ≤ n) (ht : hz_so (hz_ty c k) = 0) (hf : hz_fin c k = false) (hn : narrow (hz_ty c k) (.int v) = .int v ∧ fits (hz_ty c k) (.int v) = true) (hM : hz_uI M a k v = M') (kk : hz_G X T n M' kc ks (pc + 3) ls st) : hz_G X T n M kc ks pc ls (.int v :: .ref a :: st) := by
  subst hM
  exact hz_putV C F d hT ha hf (fun _ => hn) (fun ad => by rw [hz_fv0 ht]; exact congrArg Value.int (hz_up_self _ _ _ _)) (fun ad j hj => hz_fv_uI ad M _ a k j v hj) (fun D b hb => hz_E_uI D T M a k v b hb) kk
theorem hz_putIF (C : hz_C X y) {ix c k a N : Nat} {v : Int32} {M' : hz_M} (F : hz_F y.1.cls ix c k) (d : decode y.2.1 pc = .ok (.putfield ix, 3)) (hT : T a = (c, N)) (ha : a ≠ 0 ∧ a ≤ n) (ht : hz_so (hz_ty c k) = 0) (hf : hz_fin c k = true) (hini : y.1.name = "<init>") (hdc : ∀ r, vwCl[c]? = some r → (r.2.1 k).1 = y.1.cls) (hn : narrow (hz_ty c k) (.int v) = .int v ∧ fits (hz_ty c k) (.int v) = true) (hM : hz_uI M a k v = M') (kk : hz_G X T n M' kc ks (pc + 3) ls st) : hz_G X T n M kc ks pc ls (.int v :: .ref a :: st) := by
  subst hM
  exact hz_putVF C F d hT ha hf hini hdc (fun _ => hn) (fun ad => by rw [hz_fv0 ht]; exact congrArg Value.int (hz_up_self _ _ _ _)) (fun ad j hj => hz_fv_uI ad M _ a k j v hj) (fun D b hb => hz_E_uI D T M a k v b hb) kk
theorem hz_putL (C : hz_C X y) {ix c k a N : Nat} {v : Int64} {M' : hz_M} (F : hz_F y.1.cls ix c k) (d : decode y.2.1 pc = .ok (.putfield ix, 3)) (hT : T a = (c, N)) (ha : a ≠ 0 ∧ a ≤ n) (ht : hz_so (hz_ty c k) = 1) (hf : hz_fin c k = false) (hn : ∀ z : Int64, narrow (hz_ty c k) (.long z) = .long z ∧ fits (hz_ty c k) (.long z) = true) (hM : hz_uL M a k v = M') (kk : hz_G X T n M' kc ks (pc + 3) ls st) : hz_G X T n M kc ks pc ls (.long v :: .ref a :: st) := by
  subst hM
  exact hz_putV C F d hT ha hf (fun _ => hn v) (fun ad => by rw [hz_fv1 ht]; exact congrArg Value.long (hz_up_self _ _ _ _)) (fun ad j hj => hz_fv_uL ad M _ a k j v hj) (fun D b hb => hz_E_uL D T M a k v b hb) kk
theorem hz_putLF (C : hz_C X y) {ix c k a N : Nat} {v : Int64} {M' : hz_M} (F : hz_F y.1.cls ix c k) (d : decode y.2.1 pc = .ok (.putfield ix, 3)) (hT : T a = (c, N)) (ha : a ≠ 0 ∧ a ≤ n) (ht : hz_so (hz_ty c k) = 1) (hf : hz_fin c k = true) (hini : y.1.name = "<init>") (hdc : ∀ r, vwCl[c]? = some r → (r.2.1 k).1 = y.1.cls) (hn : ∀ z : Int64, narrow (hz_ty c k) (.long z) = .long z ∧ fits (hz_ty c k) (.long z) = true) (hM : hz_uL M a k v = M') (kk : hz_G X T n M' kc ks (pc + 3) ls st) : hz_G X T n M kc ks pc ls (.long v :: .ref a :: st) := by
  subst hM
  exact hz_putVF C F d hT ha hf hini hdc (fun _ => hn v) (fun ad => by rw [hz_fv1 ht]; exact congrArg Value.long (hz_up_self _ _ _ _)) (fun ad j hj => hz_fv_uL ad M _ a k j v hj) (fun D b hb => hz_E_uL D T M a k v b hb) kk
theorem hz_putP (C : hz_C X y) {ix c k a N : Nat} {v : Nat} {M' : hz_M} (F : hz_F y.1.cls ix c k) (d : decode y.2.1 pc = .ok (.putfield ix, 3)) (hT : T a = (c, N)) (ha : a ≠ 0 ∧ a ≤ n) (ht : hz_so (hz_ty c k) = 2) (hf : hz_fin c k = false) (hn : ∀ z : Nat, narrow (hz_ty c k) (.ref z) = .ref z ∧ fits (hz_ty c k) (.ref z) = true) (hv0 : v ≠ 0) (hM : hz_uP M a k v = M') (kk : hz_G X T n M' kc ks (pc + 3) ls st) : hz_G X T n M kc ks pc ls (.ref v :: .ref a :: st) := by
  subst hM
  exact hz_putV C F d hT ha hf (fun _ => hn _) (fun ad => by rw [hz_fv2 ht, show (hz_uP M a k v).2.2 a k = v from hz_up_self _ _ _ _, hz_rf_ref hv0]; rfl) (fun ad j hj => hz_fv_uP ad M _ a k j v hj) (fun D b hb => hz_E_uP D T M a k v b hb) kk
theorem hz_putPF (C : hz_C X y) {ix c k a N : Nat} {v : Nat} {M' : hz_M} (F : hz_F y.1.cls ix c k) (d : decode y.2.1 pc = .ok (.putfield ix, 3)) (hT : T a = (c, N)) (ha : a ≠ 0 ∧ a ≤ n) (ht : hz_so (hz_ty c k) = 2) (hf : hz_fin c k = true) (hini : y.1.name = "<init>") (hdc : ∀ r, vwCl[c]? = some r → (r.2.1 k).1 = y.1.cls) (hn : ∀ z : Nat, narrow (hz_ty c k) (.ref z) = .ref z ∧ fits (hz_ty c k) (.ref z) = true) (hv0 : v ≠ 0) (hM : hz_uP M a k v = M') (kk : hz_G X T n M' kc ks (pc + 3) ls st) : hz_G X T n M kc ks pc ls (.ref v :: .ref a :: st) := by
  subst hM
  exact hz_putVF C F d hT ha hf hini hdc (fun _ => hn _) (fun ad => by rw [hz_fv2 ht, show (hz_uP M a k v).2.2 a k = v from hz_up_self _ _ _ _, hz_rf_ref hv0]; rfl) (fun ad j hj => hz_fv_uP ad M _ a k j v hj) (fun D b hb => hz_E_uP D T M a k v b hb) kk
theorem hz_iald (C : hz_C X y) {a N j : Nat} {i v : Int32} (d : decode y.2.1 pc = .ok (.iaload, 1)) (hT : T a = (13, N)) (ha : a ≠ 0 ∧ a ≤ n) (hi : i = nI j) (hj : j < N) (hN : N < 2 ^ 31) (hv : M.1 a j = v) (kk : hz_G X T n M kc ks (pc + 1) ls (.int v :: st)) : hz_G X T n M kc ks pc ls (.int i :: .ref a :: st) := by
  obtain ⟨p, l, e, R, s, m, args, below, meth, cd, D, Q⟩ := X
  obtain ⟨hx, hb, hml, hown, hts, hK, hext, -⟩ := C
  intro H locs hR hS lsA hl
  refine va_iald hx hb hK.1 hR.1 (a - 1) 1 (hz_W_arr D M ha.1 ha.2 hT (by decide) (by decide)) rfl (by rw [hi]; exact vp_in_nI hj hN) d ?_
  rw [hi, nI_clamp (by omega), hv]
  exact kk H locs hR hS lsA hl
theorem hz_cald (C : hz_C X y) {a N j : Nat} {i v : Int32} (d : decode y.2.1 pc = .ok (.caload, 1)) (hT : T a = (12, N)) (ha : a ≠ 0 ∧ a ≤ n) (hi : i = nI j) (hj : j < N) (hN : N < 2 ^ 31) (hv : M.1 a j = v) (kk : hz_G X T n M kc ks (pc + 1) ls (.int v :: st)) : hz_G X T n M kc ks pc ls (.int i :: .ref a :: st) := by
  obtain ⟨p, l, e, R, s, m, args, below, meth, cd, D, Q⟩ := X
  obtain ⟨hx, hb, hml, hown, hts, hK, hext, -⟩ := C
  intro H locs hR hS lsA hl
  refine va_cald hx hb hK.1 hR.1 (a - 1) 0 (hz_W_arr D M ha.1 ha.2 hT (by decide) (by decide)) rfl (by rw [hi]; exact vp_in_nI hj hN) d ?_
  rw [hi, nI_clamp (by omega), hv]
  exact kk H locs hR hS lsA hl
theorem hz_zald (C : hz_C X y) {a N j : Nat} {i v : Int32} (d : decode y.2.1 pc = .ok (.baload, 1)) (hT : T a = (14, N)) (ha : a ≠ 0 ∧ a ≤ n) (hi : i = nI j) (hj : j < N) (hN : N < 2 ^ 31) (hv : M.1 a j = v) (kk : hz_G X T n M kc ks (pc + 1) ls (.int v :: st)) : hz_G X T n M kc ks pc ls (.int i :: .ref a :: st) := by
  obtain ⟨p, l, e, R, s, m, args, below, meth, cd, D, Q⟩ := X
  obtain ⟨hx, hb, hml, hown, hts, hK, hext, -⟩ := C
  intro H locs hR hS lsA hl
  refine va_zald hx hb hK.1 hR.1 (a - 1) 2 (hz_W_arr D M ha.1 ha.2 hT (by decide) (by decide)) rfl (by rw [hi]; exact vp_in_nI hj hN) d ?_
  rw [hi, nI_clamp (by omega), hv]
  exact kk H locs hR hS lsA hl
theorem hz_aald (C : hz_C X y) {a c N j v : Nat} {i : Int32} (d : decode y.2.1 pc = .ok (.aaload, 1)) (hT : T a = (c, N)) (hc : c = 15 ∨ c = 16 ∨ c = 17) (ha : a ≠ 0 ∧ a ≤ n) (hi : i = nI j) (hj : j < N) (hN : N < 2 ^ 31) (hv : M.2.2 a j = v) (hv0 : v ≠ 0) (kk : hz_G X T n M kc ks (pc + 1) ls (.ref v :: st)) : hz_G X T n M kc ks pc ls (.int i :: .ref a :: st) := by
  obtain ⟨p, l, e, R, s, m, args, below, meth, cd, D, Q⟩ := X
  obtain ⟨hx, hb, hml, hown, hts, hK, hext, -⟩ := C
  intro H locs hR hS lsA hl
  have key : ∀ (t0 : Nat) (E : String), (hz_tys D)[t0]? = some (D.2.1 c, .object E) → W p l e R s m args below meth cd H locs kc ks Q (F0 m pc lsA ((.int i :: .ref a :: st).map (hz_tr D.2.2.1))) := by
    intro t0 E ht
    refine va_aldq (C := E) hx hb hK.1 hR.1 (a - 1) t0 (hz_W_arq D M ha.1 ha.2 hT (by omega)) ht (by rw [hi]; exact vp_in_nI hj hN) d ?_
    rw [hi, nI_clamp (by omega), hv, show hz_op D.2.2.1 v = some (D.2.2.1 v) from if_neg hv0]
    exact kk H locs hR hS lsA hl
  rcases hc with rfl | rfl | rfl
  · exact key 3 _ rfl
  · exact key 4 _ rfl
  · exact key 5 _ rfl
theorem hz_alen (C : hz_C X y) {a c N : Nat} {v : Int32} (d : decode y.2.1 pc = .ok (.arraylength, 1)) (hT : T a = (c, N)) (hc : 12 ≤ c ∧ c < 15) (ha : a ≠ 0 ∧ a ≤ n) (hv : nI N = v) (kk : hz_G X T n M kc ks (pc + 1) ls (.int v :: st)) : hz_G X T n M kc ks pc ls (.ref a :: st) := by
  obtain ⟨p, l, e, R, s, m, args, below, meth, cd, D, Q⟩ := X
  obtain ⟨hx, hb, hml, hown, hts, hK, hext, -⟩ := C
  intro H locs hR hS lsA hl
  have hw := hz_W_arr D M ha.1 ha.2 hT hc.1 hc.2
  rcases (show c = 12 ∨ c = 13 ∨ c = 14 by omega) with rfl | rfl | rfl
  · exact va_alen hx hb hK.1 hR.1 (a - 1) 0 hw rfl hv d (kk H locs hR hS lsA hl)
  · exact va_alen hx hb hK.1 hR.1 (a - 1) 1 hw rfl hv d (kk H locs hR hS lsA hl)
  · exact va_alen hx hb hK.1 hR.1 (a - 1) 2 hw rfl hv d (kk H locs hR hS lsA hl)
theorem hz_iast (C : hz_C X y) {a N j : Nat} {i x v : Int32} {M' : hz_M} (d : decode y.2.1 pc = .ok (.iastore, 1)) (hT : T a = (13, N)) (ha : a ≠ 0 ∧ a ≤ n) (hi : i = nI j) (hj : j < N) (hN : N < 2 ^ 31) (hv : x = v) (hM : hz_uI M a j v = M') (kk : hz_G X T n M' kc ks (pc + 1) ls st) : hz_G X T n M kc ks pc ls (.int x :: .int i :: .ref a :: st) := by
  obtain ⟨p, l, e, R, s, m, args, below, meth, cd, D, Q⟩ := X
  obtain ⟨hx, hb, hml, hown, hts, hK, hext, -⟩ := C
  intro H locs hR hS lsA hl
  have hw := hz_W_arr D M ha.1 ha.2 hT (by decide) (by decide)
  have hcl : i.toNatClampNeg = j := by rw [hi, nI_clamp (by omega)]
  refine W.iast hx hb (hR.1 (a - 1) _ hw) ((hK.1.2 1 _ rfl).1 N (fun q => .int (M.1 a q))) (fun q => by cases q) (by show ¬ (i < 0 ∨ (arrV _ _ _).slots.size ≤ _); rw [arrV_size, hi]; exact vp_in_nI hj hN) rfl rfl d fun H1 e1 e2 e3 => ?_
  subst hM
  rw [hcl] at e1 ⊢
  refine kk H1 _ ⟨?_, ?_, e2.trans hR.2.2⟩ (hS.put e2 e3 (hR.2.1.2 _ _ hw)) lsA hl
  · rw [← hz_W_set D T M (hz_uI M a j v) ha.1 rfl (hz_E_uI D T M a j v)]
    refine hR.1.set hR.2.1 hw ?_ e3
    rw [show hz_E D T (hz_uI M a j v) a = .inl (D.2.1 13, N, .inl ((hz_uI M a j v).1 a)) by simp [hz_E, hT]]
    show H1[D.2.2.1 a]? = some (vp_cell _ _)
    rw [e1, vp_cell_i, vp_cell_i, arrV_store]
    congr 2
    funext q
    by_cases hq : q = j
    · subst hq
      simp [updV, hz_uI, hz_up, va_up, ← hv, vp_nar]
      try rfl
    · simp [updV, hz_uI, hz_up, va_up, hq]
  · rw [← hz_W_set D T M (hz_uI M a j v) ha.1 rfl (hz_E_uI D T M a j v)]
    exact hR.2.1.set hw
theorem hz_cast (C : hz_C X y) {a N j : Nat} {i x v : Int32} {M' : hz_M} (d : decode y.2.1 pc = .ok (.castore, 1)) (hT : T a = (12, N)) (ha : a ≠ 0 ∧ a ≤ n) (hi : i = nI j) (hj : j < N) (hN : N < 2 ^ 31) (hv : vp_nar .char x = v) (hM : hz_uI M a j v = M') (kk : hz_G X T n M' kc ks (pc + 1) ls st) : hz_G X T n M kc ks pc ls (.int x :: .int i :: .ref a :: st) := by
  obtain ⟨p, l, e, R, s, m, args, below, meth, cd, D, Q⟩ := X
  obtain ⟨hx, hb, hml, hown, hts, hK, hext, -⟩ := C
  intro H locs hR hS lsA hl
  have hw := hz_W_arr D M ha.1 ha.2 hT (by decide) (by decide)
  have hcl : i.toNatClampNeg = j := by rw [hi, nI_clamp (by omega)]
  refine W.cast hx hb (hR.1 (a - 1) _ hw) ((hK.1.2 0 _ rfl).1 N (fun q => .int (M.1 a q))) (fun q => by cases q) (by show ¬ (i < 0 ∨ (arrV _ _ _).slots.size ≤ _); rw [arrV_size, hi]; exact vp_in_nI hj hN) rfl rfl d fun H1 e1 e2 e3 => ?_
  subst hM
  rw [hcl] at e1 ⊢
  refine kk H1 _ ⟨?_, ?_, e2.trans hR.2.2⟩ (hS.put e2 e3 (hR.2.1.2 _ _ hw)) lsA hl
  · rw [← hz_W_set D T M (hz_uI M a j v) ha.1 rfl (hz_E_uI D T M a j v)]
    refine hR.1.set hR.2.1 hw ?_ e3
    rw [show hz_E D T (hz_uI M a j v) a = .inl (D.2.1 12, N, .inl ((hz_uI M a j v).1 a)) by simp [hz_E, hT]]
    show H1[D.2.2.1 a]? = some (vp_cell _ _)
    rw [e1, vp_cell_i, vp_cell_i, arrV_store]
    congr 2
    funext q
    by_cases hq : q = j
    · subst hq
      simp [updV, hz_uI, hz_up, va_up, ← hv, vp_nar]
      try rfl
    · simp [updV, hz_uI, hz_up, va_up, hq]
  · rw [← hz_W_set D T M (hz_uI M a j v) ha.1 rfl (hz_E_uI D T M a j v)]
    exact hR.2.1.set hw
theorem hz_zast (C : hz_C X y) {a N j : Nat} {i x v : Int32} {M' : hz_M} (d : decode y.2.1 pc = .ok (.bastore, 1)) (hT : T a = (14, N)) (ha : a ≠ 0 ∧ a ≤ n) (hi : i = nI j) (hj : j < N) (hN : N < 2 ^ 31) (hv : vp_nar .boolean x = v) (hM : hz_uI M a j v = M') (kk : hz_G X T n M' kc ks (pc + 1) ls st) : hz_G X T n M kc ks pc ls (.int x :: .int i :: .ref a :: st) := by
  obtain ⟨p, l, e, R, s, m, args, below, meth, cd, D, Q⟩ := X
  obtain ⟨hx, hb, hml, hown, hts, hK, hext, -⟩ := C
  intro H locs hR hS lsA hl
  have hw := hz_W_arr D M ha.1 ha.2 hT (by decide) (by decide)
  have hcl : i.toNatClampNeg = j := by rw [hi, nI_clamp (by omega)]
  refine W.zast hx hb (hR.1 (a - 1) _ hw) ((hK.1.2 2 _ rfl).1 N (fun q => .int (M.1 a q))) (fun q => by cases q) (by show ¬ (i < 0 ∨ (arrV _ _ _).slots.size ≤ _); rw [arrV_size, hi]; exact vp_in_nI hj hN) rfl rfl d fun H1 e1 e2 e3 => ?_
  subst hM
  rw [hcl] at e1 ⊢
  refine kk H1 _ ⟨?_, ?_, e2.trans hR.2.2⟩ (hS.put e2 e3 (hR.2.1.2 _ _ hw)) lsA hl
  · rw [← hz_W_set D T M (hz_uI M a j v) ha.1 rfl (hz_E_uI D T M a j v)]
    refine hR.1.set hR.2.1 hw ?_ e3
    rw [show hz_E D T (hz_uI M a j v) a = .inl (D.2.1 14, N, .inl ((hz_uI M a j v).1 a)) by simp [hz_E, hT]]
    show H1[D.2.2.1 a]? = some (vp_cell _ _)
    rw [e1, vp_cell_i, vp_cell_i, arrV_store]
    congr 2
    funext q
    by_cases hq : q = j
    · subst hq
      simp [updV, hz_uI, hz_up, va_up, ← hv, vp_nar]
      try rfl
    · simp [updV, hz_uI, hz_up, va_up, hq]
  · rw [← hz_W_set D T M (hz_uI M a j v) ha.1 rfl (hz_E_uI D T M a j v)]
    exact hR.2.1.set hw
end RULES

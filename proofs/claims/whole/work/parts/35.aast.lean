variable {X : hz_X} {y : hz_Y} {T : hz_T} {n : Nat} {M : hz_M} {kc ks pc : Nat} {ls : List (Option Value)} {st : List Value} in
theorem hz_aast3 (C : hz_C X y) {a v N N' j : Nat} {i : Int32} {M' : hz_M} (d : decode y.2.1 pc = .ok (.aastore, 1)) (hT : T a = (16, N)) (ha : a ≠ 0 ∧ a ≤ n) (hTv : T v = (3, N')) (hav : v ≠ 0 ∧ v ≤ n) (hi : i = nI j) (hj : j < N) (hN : N < 2 ^ 31) (hM : hz_uP M a j v = M') (kk : hz_G X T n M' kc ks (pc + 1) ls st) : hz_G X T n M kc ks pc ls (.ref v :: .int i :: .ref a :: st) := by
  obtain ⟨p, l, e, R, s, m, args, below, meth, cd, D, Q⟩ := X
  obtain ⟨hx, hb, hml, hown, hts, hK, hext, -⟩ := C
  intro H locs hR hS lsA hl
  have hw := hz_W_arq D M ha.1 ha.2 hT (by decide)
  have hv := hz_W_obj D M hav.1 hav.2 hTv (by decide)
  have hcl : i.toNatClampNeg = j := by rw [hi, nI_clamp (by omega)]
  have hin : vp_in i N := by rw [hi]; exact vp_in_nI hj hN
  have h0 : ¬ i < 0 := fun q => hin (Or.inl q)
  obtain ⟨r', hr', cellV, g1, g2, g3, -⟩ := hR.1 (v - 1) _ hv
  have hcls := (hK.1.1 3 _ rfl).2
  obtain ⟨kA, comp, k1, k2, k3, -⟩ := (hK.1.2 4 _ rfl).2
  have hcomp : comp = D.1.1 3 := Option.some.inj (k3.symm.trans hcls.1)
  subst hcomp
  obtain ⟨kC, hkC, -⟩ := hcls.2
  refine W.aast hx hb (hR.1 (a - 1) _ hw) (fun q h => by cases h) (fun h => by cases h) k1 k2 rfl hkC ⟨h0, by show _ < (arrV _ _ _).slots.size; rw [arrV_size, hcl]; exact hj⟩ g1 (fun q h => by rw [g3] at h; cases h) (by rw [g2]; exact hkC) (by rw [g2]; exact va_assign hcls) rfl rfl d fun H1 e1 e2 e3 => ?_
  subst hM
  rw [hcl] at e1
  have hE : hz_E D T (hz_uP M a j v) a = .inl (D.2.1 16, N, .inr (.inr (.inr (.inr (fun k => hz_op D.2.2.1 ((hz_uP M a j v).2.2 a k)))))) := by simp [hz_E, hT]
  refine kk H1 _ ⟨?_, ?_, e2.trans hR.2.2⟩ (hS.put e2 e3 (hR.2.1.2 _ _ hw)) lsA hl
  · rw [← hz_W_set D T M (hz_uP M a j v) ha.1 rfl (hz_E_uP D T M a j v)]
    refine hR.1.set hR.2.1 hw ?_ e3
    rw [hE]
    show H1[D.2.2.1 a]? = some (vp_cell _ _)
    rw [e1, vp_cell_q, vp_cell_q, arrV_store]
    congr 2
    funext q
    by_cases hq : q = j
    · subst hq
      simp [updV, hz_uP, hz_up, va_up, hz_op, hav.1, va_rf, vp_nar]
    · simp [updV, hz_uP, hz_up, va_up, hq]
  · rw [← hz_W_set D T M (hz_uP M a j v) ha.1 rfl (hz_E_uP D T M a j v)]
    exact hR.2.1.set hw

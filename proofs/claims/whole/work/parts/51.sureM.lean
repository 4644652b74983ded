theorem SV_0 (u : Nat → Nat) : SV u 0 = (0, 0) := rfl
theorem dI_0 (u : Nat → Nat) : dI (SV u 0).1 = nI 0 := rfl
theorem MF.cong {I K : Nat → Nat → Int32} {u : Nat → Nat} (V : MF I u) (zze1 : K 147 = I 147) (zze2 : K 153 = I 153) : MF K u := ⟨V.1.cong zze1, fun a b ha hb => by rw [zze2]; exact V.2 a b ha hb⟩
def lS (u : Nat → Nat) (I K : Nat → Nat → Int32) (s : Nat) : Prop := (∀ a, a ≠ 154 → a ≠ 155 → K a = I a) ∧ ∀ p, p < s → K 154 p = dI (SV u p).1 ∧ K 155 p = nI (SV u p).2
def lR (u : Nat → Nat) (I K : Nat → Nat → Int32) (s r : Nat) : Prop := lS u I K s ∧ K 154 s = dI (sfold u (SV u) s r).1 ∧ K 155 s = nI (sfold u (SV u) s r).2
theorem lS.mf {u : Nat → Nat} {I K : Nat → Nat → Int32} {s : Nat} (h : lS u I K s) (V : MF I u) : MF K u := V.cong (h.1 _ (by omega) (by omega)) (h.1 _ (by omega) (by omega))
theorem lS.up {u : Nat → Nat} {I K : Nat → Nat → Int32} {s : Nat} (h : lS u I K s) (x y : Int32) : lS u I (hz_up (hz_up K 155 s x) 154 s y) s := by
  refine ⟨fun a h1 h2 => by rw [hz_up_ne _ _ _ _ h1, hz_up_ne _ _ _ _ h2]; exact h.1 a h1 h2, fun p hp => ?_⟩
  rw [hz_up_nk _ _ _ _ (by omega), hz_up_ne _ _ _ _ (by omega), hz_up_ne _ _ _ _ (by omega), hz_up_nk _ _ _ _ (by omega)]
  exact h.2 p hp
theorem lS.up2 {u : Nat → Nat} {I K : Nat → Nat → Int32} {s : Nat} (h : lS u I K s) (x y : Int32) : lS u I (hz_up (hz_up K 154 s x) 155 s y) s := by
  refine ⟨fun a h1 h2 => by rw [hz_up_ne _ _ _ _ h2, hz_up_ne _ _ _ _ h1]; exact h.1 a h1 h2, fun p hp => ?_⟩
  rw [hz_up_ne _ _ _ _ (by omega), hz_up_nk _ _ _ _ (by omega), hz_up_nk _ _ _ _ (by omega), hz_up_ne _ _ _ _ (by omega)]
  exact h.2 p hp
theorem lR.put {u : Nat → Nat} {I K : Nat → Nat → Int32} {s r : Nat} (h : lS u I K s) {x y : Int32} (hx : x = nI (sfold u (SV u) s r).2) (hy : y = dI (sfold u (SV u) s r).1) : lR u I (hz_up (hz_up K 155 s x) 154 s y) s r := ⟨h.up x y, by rw [hz_up_self]; exact hy, by rw [hz_up_ne _ _ _ _ (by omega), hz_up_self]; exact hx⟩
theorem lR.fin {u : Nat → Nat} (U : WU u) {I K : Nat → Nat → Int32} {s : Nat} (hs : s < 2 ^ u 64) (hc : ¬ csum (bt s) 6 < 2) (h : lR u I K s 8) : lS u I K (s + 1) := by
  refine ⟨h.1.1, fun p hp => ?_⟩
  by_cases hz : p = s
  · subst hz
    rw [SV_eq U hs, cell, if_neg hc]
    exact h.2
  · exact h.1.2 p (by omega)
theorem lS.one {u : Nat → Nat} (U : WU u) {I K : Nat → Nat → Int32} {s : Nat} (hs : s < 2 ^ u 64) (hc : csum (bt s) 6 < 2) (h : lS u I K s) : lS u I (hz_up (hz_up K 154 s (nI 0)) 155 s (nI 0)) (s + 1) := by
  refine ⟨(h.up2 _ _).1, fun p hp => ?_⟩
  by_cases hz : p = s
  · subst hz
    rw [SV_eq U hs, cell, if_pos hc, hz_up_ne _ _ _ _ (by omega), hz_up_self, hz_up_self]
    exact ⟨rfl, rfl⟩
  · exact (h.up2 _ _).2 p (by omega)
theorem rb_le {u : Nat → Nat} (U : WU u) {s : Nat} (hs : s < 2 ^ u 64) (r : Nat) : ∀ k, mxf (rb u (SV u) s r) k ≤ 999 := mxf_le fun j => by
  unfold rb
  split
  · split
    · omega
    · have h1 := pa_le U hs r j
      have h2 := pw64 U hs
      rcases SV_ok U (s := pa u s r j) (bsum_lt _ _) with h | h <;> omega
  · omega
set_option maxHeartbeats 4000000 in
set_option maxRecDepth 100000 in
theorem lp_lk {X : hz_X} (C : hz_C X mX11_laySure) {I : Nat → Nat → Int32} {L : Nat → Nat → Int64} {q : Nat → Nat → Nat} {u : Nat → Nat} (V : MF I u) (U : WU u) {s : Nat} (hs : s < 2 ^ u 64) (h0 : 0 < s) {r : Nat} (hr : r < 8) {K : Nat → Nat → Int32} (hK : lS u I K s) (kk : ∀ (zzw5 zzw6 : Option Value), hz_G X TT NN (K, L, PP q) 0 0 148 [some (.ref 146), some (.int (nI s)), some (.int (nI r)), some (.int (nI (mxf (rb u (SV u) s r) (u 64)))), some (.int (nI (u 64))), zzw5, zzw6] []) : ∀ (n k : Nat) (zzw5 zzw6 : Option Value), k + n = u 64 → hz_G X TT NN (K, L, PP q) 0 0 62 [some (.ref 146), some (.int (nI s)), some (.int (nI r)), some (.int (nI (mxf (rb u (SV u) s r) k))), some (.int (nI k)), zzw5, zzw6] [] := by
  intro n
  induction n with
  | zero =>
    intro k zzw5 zzw6 hi 
    obtain rfl : u 64 = k := by omega
    have hal := wu_al U
    refine hz_iload (pc := 62) C dX11_laySure_62 rfl ?_
    refine hz_aload_n (pc := 64) C dX11_laySure_64 rfl ?_
    refine hz_getP (pc := 65) C (v := 147) ffX11_7 dX11_laySure_65 hT146 hA146 rfl (hP146_0 q) (by decide) ?_
    refine hz_bipush (pc := 68) C (v := nI 64) dX11_laySure_68 (by decide +kernel) ?_
    refine hz_iald (pc := 70) C (v := nI (u 64)) (j := 64) dX11_laySure_70 hT147 hA147 rfl (by decide) (by decide) (mg (hK.mf V).1 (by omega) (by omega)) ?_
    refine hz_ic_ge (pc := 71) C (tgt := 148) dX11_laySure_71 rfl (fun _ => ?_) (fun cq => absurd (nI_le (by omega) (by omega)) cq)
    exact kk zzw5 zzw6
  | succ n ih =>
    intro k zzw5 zzw6 hi 
    have hal := wu_al U
    have h64 := pw64 U hs
    have hpl := pa_le U hs r k
    have hsb : (SV u (pa u s r k)).1 ≤ 100 := by
      rcases SV_ok U (s := pa u s r k) (bsum_lt _ _) with h | h <;> omega
    have hmb : mxf (rb u (SV u) s r) k ≤ 999 := rb_le U hs r k
    refine hz_iload (pc := 62) C dX11_laySure_62 rfl ?_
    refine hz_aload_n (pc := 64) C dX11_laySure_64 rfl ?_
    refine hz_getP (pc := 65) C (v := 147) ffX11_7 dX11_laySure_65 hT146 hA146 rfl (hP146_0 q) (by decide) ?_
    refine hz_bipush (pc := 68) C (v := nI 64) dX11_laySure_68 (by decide +kernel) ?_
    refine hz_iald (pc := 70) C (v := nI (u 64)) (j := 64) dX11_laySure_70 hT147 hA147 rfl (by decide) (by decide) (mg (hK.mf V).1 (by omega) (by omega)) ?_
    refine hz_ic_ge (pc := 71) C (tgt := 148) dX11_laySure_71 rfl (fun cq => absurd cq (nI_ge (by omega) (by omega))) (fun _ => ?_)
    refine hz_iload_n (pc := 74) C dX11_laySure_74 rfl ?_
    refine hz_iload (pc := 75) C dX11_laySure_75 rfl ?_
    refine hz_callSs (pc := 77) C (as := [.int (nI s), .int (nI k)]) (st := []) (ev_hasM _ (pw64 U hs) (by omega)) (hz_new0 _ _) fyX11_has fsX11_166 rfl dX11_laySure_77 rfl rfl (Nat.le_of_ble_eq_true rfl) (by decide) (hz_cap0 _) ?_
    refine hz_ifb_eq (pc := 80) C (tgt := 94) dX11_laySure_80 rfl (fun zzc1 => ?_) (fun zzc1 => ?_)
    · refine hz_iconst (pc := 94) C (v := nI 0) dX11_laySure_94 (by decide +kernel) ?_
      refine hz_istore (pc := 95) C (ls' := [some (.ref 146), some (.int (nI s)), some (.int (nI r)), some (.int (nI (mxf (rb u (SV u) s r) k))), some (.int (nI k)), some (.int (nI 0)), zzw6]) dX11_laySure_95 (Nat.le_of_ble_eq_true rfl) rfl ?_
      refine hz_iload (pc := 97) C dX11_laySure_97 rfl ?_
      refine hz_iload_n (pc := 99) C dX11_laySure_99 rfl ?_
      refine hz_ic_eq (pc := 100) C (tgt := 114) dX11_laySure_100 rfl (fun cq => absurd ((nI_eq (by omega) (by omega)).mp cq) (by omega)) (fun _ => ?_)
      refine hz_aload_n (pc := 103) C dX11_laySure_103 rfl ?_
      refine hz_getP (pc := 104) C (v := 154) ffX11_36 dX11_laySure_104 hT146 hA146 rfl (hP146_16 q) (by decide) ?_
      refine hz_iload (pc := 107) C dX11_laySure_107 rfl ?_
      refine hz_iald (pc := 109) C (v := nI 0) (j := 0) dX11_laySure_109 hT154 hA154 rfl (by decide) (by decide) ((hK.2 0 h0).1.trans (dI_0 u)) ?_
      refine hz_iconst (pc := 110) C (v := (-1 : Int32)) dX11_laySure_110 (by decide +kernel) ?_
      refine hz_ic_ne (pc := 111) C (tgt := 120) dX11_laySure_111 rfl (fun _ => ?_) (fun cq => absurd cq (nm1 (by decide)))
      refine hz_aload_n (pc := 120) C dX11_laySure_120 rfl ?_
      refine hz_getP (pc := 121) C (v := 154) ffX11_36 dX11_laySure_121 hT146 hA146 rfl (hP146_16 q) (by decide) ?_
      refine hz_iload (pc := 124) C dX11_laySure_124 rfl ?_
      refine hz_iald (pc := 126) C (v := nI 0) (j := 0) dX11_laySure_126 hT154 hA154 rfl (by decide) (by decide) ((hK.2 0 h0).1.trans (dI_0 u)) ?_
      refine hz_istore (pc := 127) C (ls' := [some (.ref 146), some (.int (nI s)), some (.int (nI r)), some (.int (nI (mxf (rb u (SV u) s r) k))), some (.int (nI k)), some (.int (nI 0)), some (.int (nI 0))]) dX11_laySure_127 (Nat.le_of_ble_eq_true rfl) rfl ?_
      refine hz_iload (pc := 129) C dX11_laySure_129 rfl ?_
      refine hz_iload_n (pc := 131) C dX11_laySure_131 rfl ?_
      refine hz_ic_le (pc := 132) C (tgt := 140) dX11_laySure_132 rfl (fun _ => ?_) (fun cq => absurd (nI_le (by omega) (by omega)) cq)
      refine hz_iload_n (pc := 140) C dX11_laySure_140 rfl ?_
      refine hz_istore_n (pc := 141) C (ls' := [some (.ref 146), some (.int (nI s)), some (.int (nI r)), some (.int (nI (mxf (rb u (SV u) s r) k))), some (.int (nI k)), some (.int (nI 0)), some (.int (nI 0))]) dX11_laySure_141 (Nat.le_of_ble_eq_true rfl) rfl ?_
      refine hz_iinc (pc := 142) C (v := nI (k + 1)) (ls' := [some (.ref 146), some (.int (nI s)), some (.int (nI r)), some (.int (nI (mxf (rb u (SV u) s r) k))), some (.int (nI (k + 1))), some (.int (nI 0)), some (.int (nI 0))]) dX11_laySure_142 rfl (nI_add _ 1) rfl ?_
      refine hz_goto (pc := 145) C (tgt := 62) dX11_laySure_145 rfl ?_
      have h9 := ih (k + 1) (some (.int (nI 0))) (some (.int (nI 0))) (by omega)
      rw [show mxf (rb u (SV u) s r) (k + 1) = mxf (rb u (SV u) s r) k by show max _ (rb u (SV u) s r k) = _; rw [show rb u (SV u) s r k = 0 from if_neg zzc1]; omega] at h9
      exact h9
    · refine hz_aload_n (pc := 83) C dX11_laySure_83 rfl ?_
      refine hz_iload_n (pc := 84) C dX11_laySure_84 rfl ?_
      refine hz_iload_n (pc := 85) C dX11_laySure_85 rfl ?_
      refine hz_iload (pc := 86) C dX11_laySure_86 rfl ?_
      refine hz_callVs (pc := 88) C (as := [.int (nI r), .int (nI s), .int (nI k)]) (st := []) (ev_alikeBy (hK.mf V) U (r := r) (d := s) (k := k) hr (pw64 U hs) (by omega)) (hz_new0 _ _) fyX11_alikeBy fvX11_191 rfl dX11_laySure_88 hT146 rfl rfl hA146 rfl rfl (Nat.le_of_ble_eq_true rfl) (by decide) (hz_cap0 _) ?_
      refine hz_goto (pc := 91) C (tgt := 95) dX11_laySure_91 rfl ?_
      refine hz_istore (pc := 95) C (ls' := [some (.ref 146), some (.int (nI s)), some (.int (nI r)), some (.int (nI (mxf (rb u (SV u) s r) k))), some (.int (nI k)), some (.int (nI (pa u s r k))), zzw6]) dX11_laySure_95 (Nat.le_of_ble_eq_true rfl) rfl ?_
      refine hz_iload (pc := 97) C dX11_laySure_97 rfl ?_
      refine hz_iload_n (pc := 99) C dX11_laySure_99 rfl ?_
      refine hz_ic_eq (pc := 100) C (tgt := 114) dX11_laySure_100 rfl (fun zzc2 => ?_) (fun zzc2 => ?_)
      · refine hz_sipush (pc := 114) C (v := nI 999) dX11_laySure_114 (by decide +kernel) ?_
        refine hz_goto (pc := 117) C (tgt := 127) dX11_laySure_117 rfl ?_
        refine hz_istore (pc := 127) C (ls' := [some (.ref 146), some (.int (nI s)), some (.int (nI r)), some (.int (nI (mxf (rb u (SV u) s r) k))), some (.int (nI k)), some (.int (nI (pa u s r k))), some (.int (nI 999))]) dX11_laySure_127 (Nat.le_of_ble_eq_true rfl) rfl ?_
        refine hz_iload (pc := 129) C dX11_laySure_129 rfl ?_
        refine hz_iload_n (pc := 131) C dX11_laySure_131 rfl ?_
        refine hz_ic_le (pc := 132) C (tgt := 140) dX11_laySure_132 rfl (fun zzc3 => ?_) (fun zzc3 => ?_)
        · refine hz_iload_n (pc := 140) C dX11_laySure_140 rfl ?_
          refine hz_istore_n (pc := 141) C (ls' := [some (.ref 146), some (.int (nI s)), some (.int (nI r)), some (.int (nI (mxf (rb u (SV u) s r) k))), some (.int (nI k)), some (.int (nI (pa u s r k))), some (.int (nI 999))]) dX11_laySure_141 (Nat.le_of_ble_eq_true rfl) rfl ?_
          refine hz_iinc (pc := 142) C (v := nI (k + 1)) (ls' := [some (.ref 146), some (.int (nI s)), some (.int (nI r)), some (.int (nI (mxf (rb u (SV u) s r) k))), some (.int (nI (k + 1))), some (.int (nI (pa u s r k))), some (.int (nI 999))]) dX11_laySure_142 rfl (nI_add _ 1) rfl ?_
          refine hz_goto (pc := 145) C (tgt := 62) dX11_laySure_145 rfl ?_
          have hby : rb u (SV u) s r k = 999 := (if_pos zzc1).trans (if_pos (Or.inl ((nI_eq (by omega) (by omega)).mp zzc2)))
          have h9 := ih (k + 1) (some (.int (nI (pa u s r k)))) (some (.int (nI 999))) (by omega)
          rw [show mxf (rb u (SV u) s r) (k + 1) = mxf (rb u (SV u) s r) k by show max _ (rb u (SV u) s r k) = _; rw [hby]; exact Nat.max_eq_left (Nat.le_of_not_lt fun z => nI_ge z (by omega) zzc3)] at h9
          exact h9
        · refine hz_iload (pc := 135) C dX11_laySure_135 rfl ?_
          refine hz_goto (pc := 137) C (tgt := 141) dX11_laySure_137 rfl ?_
          refine hz_istore_n (pc := 141) C (ls' := [some (.ref 146), some (.int (nI s)), some (.int (nI r)), some (.int (nI 999)), some (.int (nI k)), some (.int (nI (pa u s r k))), some (.int (nI 999))]) dX11_laySure_141 (Nat.le_of_ble_eq_true rfl) rfl ?_
          refine hz_iinc (pc := 142) C (v := nI (k + 1)) (ls' := [some (.ref 146), some (.int (nI s)), some (.int (nI r)), some (.int (nI 999)), some (.int (nI (k + 1))), some (.int (nI (pa u s r k))), some (.int (nI 999))]) dX11_laySure_142 rfl (nI_add _ 1) rfl ?_
          refine hz_goto (pc := 145) C (tgt := 62) dX11_laySure_145 rfl ?_
          have hby : rb u (SV u) s r k = 999 := (if_pos zzc1).trans (if_pos (Or.inl ((nI_eq (by omega) (by omega)).mp zzc2)))
          have h9 := ih (k + 1) (some (.int (nI (pa u s r k)))) (some (.int (nI 999))) (by omega)
          rw [show mxf (rb u (SV u) s r) (k + 1) = 999 by show max _ (rb u (SV u) s r k) = _; rw [hby]; exact Nat.max_eq_right (Nat.le_of_not_lt fun z => zzc3 (nI_le (by omega) (by omega)))] at h9
          exact h9
      · have hlt : pa u s r k < s := by have hne : pa u s r k ≠ s := fun z => zzc2 ((nI_eq (by omega) (by omega)).mpr z); omega
        refine hz_aload_n (pc := 103) C dX11_laySure_103 rfl ?_
        refine hz_getP (pc := 104) C (v := 154) ffX11_36 dX11_laySure_104 hT146 hA146 rfl (hP146_16 q) (by decide) ?_
        refine hz_iload (pc := 107) C dX11_laySure_107 rfl ?_
        refine hz_iald (pc := 109) C (v := dI (SV u (pa u s r k)).1) (j := pa u s r k) dX11_laySure_109 hT154 hA154 rfl (by omega) (by decide) (hK.2 _ hlt).1 ?_
        refine hz_iconst (pc := 110) C (v := (-1 : Int32)) dX11_laySure_110 (by decide +kernel) ?_
        refine hz_ic_ne (pc := 111) C (tgt := 120) dX11_laySure_111 rfl (fun zzc4 => ?_) (fun zzc4 => ?_)
        · refine hz_aload_n (pc := 120) C dX11_laySure_120 rfl ?_
          refine hz_getP (pc := 121) C (v := 154) ffX11_36 dX11_laySure_121 hT146 hA146 rfl (hP146_16 q) (by decide) ?_
          refine hz_iload (pc := 124) C dX11_laySure_124 rfl ?_
          refine hz_iald (pc := 126) C (v := nI ((SV u (pa u s r k)).1)) (j := pa u s r k) dX11_laySure_126 hT154 hA154 rfl (by omega) (by decide) ((hK.2 _ hlt).1.trans (dI_f (fun z => zzc4 (dI_m1.mpr z)))) ?_
          refine hz_istore (pc := 127) C (ls' := [some (.ref 146), some (.int (nI s)), some (.int (nI r)), some (.int (nI (mxf (rb u (SV u) s r) k))), some (.int (nI k)), some (.int (nI (pa u s r k))), some (.int (nI ((SV u (pa u s r k)).1)))]) dX11_laySure_127 (Nat.le_of_ble_eq_true rfl) rfl ?_
          refine hz_iload (pc := 129) C dX11_laySure_129 rfl ?_
          refine hz_iload_n (pc := 131) C dX11_laySure_131 rfl ?_
          refine hz_ic_le (pc := 132) C (tgt := 140) dX11_laySure_132 rfl (fun zzc5 => ?_) (fun zzc5 => ?_)
          · refine hz_iload_n (pc := 140) C dX11_laySure_140 rfl ?_
            refine hz_istore_n (pc := 141) C (ls' := [some (.ref 146), some (.int (nI s)), some (.int (nI r)), some (.int (nI (mxf (rb u (SV u) s r) k))), some (.int (nI k)), some (.int (nI (pa u s r k))), some (.int (nI ((SV u (pa u s r k)).1)))]) dX11_laySure_141 (Nat.le_of_ble_eq_true rfl) rfl ?_
            refine hz_iinc (pc := 142) C (v := nI (k + 1)) (ls' := [some (.ref 146), some (.int (nI s)), some (.int (nI r)), some (.int (nI (mxf (rb u (SV u) s r) k))), some (.int (nI (k + 1))), some (.int (nI (pa u s r k))), some (.int (nI ((SV u (pa u s r k)).1)))]) dX11_laySure_142 rfl (nI_add _ 1) rfl ?_
            refine hz_goto (pc := 145) C (tgt := 62) dX11_laySure_145 rfl ?_
            have hby : rb u (SV u) s r k = (SV u (pa u s r k)).1 := (if_pos zzc1).trans (if_neg (fun z => z.elim (fun z => zzc2 ((nI_eq (by omega) (by omega)).mpr z)) (fun z => zzc4 (dI_m1.mpr z))))
            have h9 := ih (k + 1) (some (.int (nI (pa u s r k)))) (some (.int (nI ((SV u (pa u s r k)).1)))) (by omega)
            rw [show mxf (rb u (SV u) s r) (k + 1) = mxf (rb u (SV u) s r) k by show max _ (rb u (SV u) s r k) = _; rw [hby]; exact Nat.max_eq_left (Nat.le_of_not_lt fun z => nI_ge z (by omega) zzc5)] at h9
            exact h9
          · refine hz_iload (pc := 135) C dX11_laySure_135 rfl ?_
            refine hz_goto (pc := 137) C (tgt := 141) dX11_laySure_137 rfl ?_
            refine hz_istore_n (pc := 141) C (ls' := [some (.ref 146), some (.int (nI s)), some (.int (nI r)), some (.int (nI ((SV u (pa u s r k)).1))), some (.int (nI k)), some (.int (nI (pa u s r k))), some (.int (nI ((SV u (pa u s r k)).1)))]) dX11_laySure_141 (Nat.le_of_ble_eq_true rfl) rfl ?_
            refine hz_iinc (pc := 142) C (v := nI (k + 1)) (ls' := [some (.ref 146), some (.int (nI s)), some (.int (nI r)), some (.int (nI ((SV u (pa u s r k)).1))), some (.int (nI (k + 1))), some (.int (nI (pa u s r k))), some (.int (nI ((SV u (pa u s r k)).1)))]) dX11_laySure_142 rfl (nI_add _ 1) rfl ?_
            refine hz_goto (pc := 145) C (tgt := 62) dX11_laySure_145 rfl ?_
            have hby : rb u (SV u) s r k = (SV u (pa u s r k)).1 := (if_pos zzc1).trans (if_neg (fun z => z.elim (fun z => zzc2 ((nI_eq (by omega) (by omega)).mpr z)) (fun z => zzc4 (dI_m1.mpr z))))
            have h9 := ih (k + 1) (some (.int (nI (pa u s r k)))) (some (.int (nI ((SV u (pa u s r k)).1)))) (by omega)
            rw [show mxf (rb u (SV u) s r) (k + 1) = (SV u (pa u s r k)).1 by show max _ (rb u (SV u) s r k) = _; rw [hby]; exact Nat.max_eq_right (Nat.le_of_not_lt fun z => zzc5 (nI_le (by omega) (by omega)))] at h9
            exact h9
        · refine hz_sipush (pc := 114) C (v := nI 999) dX11_laySure_114 (by decide +kernel) ?_
          refine hz_goto (pc := 117) C (tgt := 127) dX11_laySure_117 rfl ?_
          refine hz_istore (pc := 127) C (ls' := [some (.ref 146), some (.int (nI s)), some (.int (nI r)), some (.int (nI (mxf (rb u (SV u) s r) k))), some (.int (nI k)), some (.int (nI (pa u s r k))), some (.int (nI 999))]) dX11_laySure_127 (Nat.le_of_ble_eq_true rfl) rfl ?_
          refine hz_iload (pc := 129) C dX11_laySure_129 rfl ?_
          refine hz_iload_n (pc := 131) C dX11_laySure_131 rfl ?_
          refine hz_ic_le (pc := 132) C (tgt := 140) dX11_laySure_132 rfl (fun zzc6 => ?_) (fun zzc6 => ?_)
          · refine hz_iload_n (pc := 140) C dX11_laySure_140 rfl ?_
            refine hz_istore_n (pc := 141) C (ls' := [some (.ref 146), some (.int (nI s)), some (.int (nI r)), some (.int (nI (mxf (rb u (SV u) s r) k))), some (.int (nI k)), some (.int (nI (pa u s r k))), some (.int (nI 999))]) dX11_laySure_141 (Nat.le_of_ble_eq_true rfl) rfl ?_
            refine hz_iinc (pc := 142) C (v := nI (k + 1)) (ls' := [some (.ref 146), some (.int (nI s)), some (.int (nI r)), some (.int (nI (mxf (rb u (SV u) s r) k))), some (.int (nI (k + 1))), some (.int (nI (pa u s r k))), some (.int (nI 999))]) dX11_laySure_142 rfl (nI_add _ 1) rfl ?_
            refine hz_goto (pc := 145) C (tgt := 62) dX11_laySure_145 rfl ?_
            have hby : rb u (SV u) s r k = 999 := (if_pos zzc1).trans (if_pos (Or.inr (dI_m1.mp zzc4)))
            have h9 := ih (k + 1) (some (.int (nI (pa u s r k)))) (some (.int (nI 999))) (by omega)
            rw [show mxf (rb u (SV u) s r) (k + 1) = mxf (rb u (SV u) s r) k by show max _ (rb u (SV u) s r k) = _; rw [hby]; exact Nat.max_eq_left (Nat.le_of_not_lt fun z => nI_ge z (by omega) zzc6)] at h9
            exact h9
          · refine hz_iload (pc := 135) C dX11_laySure_135 rfl ?_
            refine hz_goto (pc := 137) C (tgt := 141) dX11_laySure_137 rfl ?_
            refine hz_istore_n (pc := 141) C (ls' := [some (.ref 146), some (.int (nI s)), some (.int (nI r)), some (.int (nI 999)), some (.int (nI k)), some (.int (nI (pa u s r k))), some (.int (nI 999))]) dX11_laySure_141 (Nat.le_of_ble_eq_true rfl) rfl ?_
            refine hz_iinc (pc := 142) C (v := nI (k + 1)) (ls' := [some (.ref 146), some (.int (nI s)), some (.int (nI r)), some (.int (nI 999)), some (.int (nI (k + 1))), some (.int (nI (pa u s r k))), some (.int (nI 999))]) dX11_laySure_142 rfl (nI_add _ 1) rfl ?_
            refine hz_goto (pc := 145) C (tgt := 62) dX11_laySure_145 rfl ?_
            have hby : rb u (SV u) s r k = 999 := (if_pos zzc1).trans (if_pos (Or.inr (dI_m1.mp zzc4)))
            have h9 := ih (k + 1) (some (.int (nI (pa u s r k)))) (some (.int (nI 999))) (by omega)
            rw [show mxf (rb u (SV u) s r) (k + 1) = 999 by show max _ (rb u (SV u) s r k) = _; rw [hby]; exact Nat.max_eq_right (Nat.le_of_not_lt fun z => zzc6 (nI_le (by omega) (by omega)))] at h9
            exact h9
set_option maxHeartbeats 4000000 in
set_option maxRecDepth 100000 in
theorem lp_lr {X : hz_X} (C : hz_C X mX11_laySure) {I : Nat → Nat → Int32} {L : Nat → Nat → Int64} {q : Nat → Nat → Nat} {u : Nat → Nat} (V : MF I u) (U : WU u) {s : Nat} (hs : s < 2 ^ u 64) (h0 : 0 < s) (hc : 2 ≤ csum (bt s) 6) (kk : ∀ (K : Nat → Nat → Int32) (zzw3 zzw4 zzw5 zzw6 : Option Value), lR u I K s 8 → hz_G X TT NN (K, L, PP q) 0 0 234 [some (.ref 146), some (.int (nI s)), some (.int (nI 8)), zzw3, zzw4, zzw5, zzw6] []) : ∀ (n r : Nat) (K : Nat → Nat → Int32) (zzw3 zzw4 zzw5 zzw6 : Option Value), r + n = 8 → lR u I K s r → hz_G X TT NN (K, L, PP q) 0 0 43 [some (.ref 146), some (.int (nI s)), some (.int (nI r)), zzw3, zzw4, zzw5, zzw6] [] := by
  intro n
  induction n with
  | zero =>
    intro r K zzw3 zzw4 zzw5 zzw6 hi hK
    obtain rfl : 8 = r := by omega
    refine hz_iload_n (pc := 43) C dX11_laySure_43 rfl ?_
    refine hz_bipush (pc := 44) C (v := nI 8) dX11_laySure_44 (by decide +kernel) ?_
    refine hz_ic_ge (pc := 46) C (tgt := 234) dX11_laySure_46 rfl (fun _ => ?_) (fun cq => absurd (nI_le (by omega) (by omega)) cq)
    exact kk K zzw3 zzw4 zzw5 zzw6 hK
  | succ n ih =>
    intro r K zzw3 zzw4 zzw5 zzw6 hi hK
    have hal := wu_al U
    have h64 := pw64 U hs
    have hB := SV_bd U s (by omega)
    have hsf := sfold_bd U hs hB h0 r
    have hmo := rb_le U hs r (u 64)
    have hcl := csum_le (bt s) 6
    refine hz_iload_n (pc := 43) C dX11_laySure_43 rfl ?_
    refine hz_bipush (pc := 44) C (v := nI 8) dX11_laySure_44 (by decide +kernel) ?_
    refine hz_ic_ge (pc := 46) C (tgt := 234) dX11_laySure_46 rfl (fun cq => absurd cq (nI_ge (by omega) (by omega))) (fun _ => ?_)
    refine hz_iload_n (pc := 49) C dX11_laySure_49 rfl ?_
    refine hz_callSs (pc := 50) C (as := [.int (nI s)]) (st := []) (ev_bitsM _ (pw64 U hs)) (hz_new0 _ _) fyX11_bits fsX11_188 rfl dX11_laySure_50 rfl rfl (Nat.le_of_ble_eq_true rfl) (by decide) (hz_cap0 _) ?_
    refine hz_iconst (pc := 53) C (v := nI 1) dX11_laySure_53 (by decide +kernel) ?_
    refine hz_ic_le (pc := 54) C (tgt := 234) dX11_laySure_54 rfl (fun cq => absurd cq (nI_ge (by omega) (by omega))) (fun _ => ?_)
    refine hz_iconst (pc := 57) C (v := nI 0) dX11_laySure_57 (by decide +kernel) ?_
    refine hz_istore_n (pc := 58) C (ls' := [some (.ref 146), some (.int (nI s)), some (.int (nI r)), some (.int (nI 0)), zzw4, zzw5, zzw6]) dX11_laySure_58 (Nat.le_of_ble_eq_true rfl) rfl ?_
    refine hz_iconst (pc := 59) C (v := nI 0) dX11_laySure_59 (by decide +kernel) ?_
    refine hz_istore (pc := 60) C (ls' := [some (.ref 146), some (.int (nI s)), some (.int (nI r)), some (.int (nI 0)), some (.int (nI 0)), zzw5, zzw6]) dX11_laySure_60 (Nat.le_of_ble_eq_true rfl) rfl ?_
    refine lp_lk C V U hs h0 (r := r) (by omega) hK.1 (fun zzw5 zzw6 => ?_) (u 64) 0 _ _ (by omega)
    refine hz_iload_n (pc := 148) C dX11_laySure_148 rfl ?_
    refine hz_sipush (pc := 149) C (v := nI 999) dX11_laySure_149 (by decide +kernel) ?_
    refine hz_ic_ge (pc := 152) C (tgt := 181) dX11_laySure_152 rfl (fun zzc1 => ?_) (fun zzc1 => ?_)
    · refine hz_iconst (pc := 181) C (v := nI 0) dX11_laySure_181 (by decide +kernel) ?_
      refine hz_istore (pc := 182) C (ls' := [some (.ref 146), some (.int (nI s)), some (.int (nI r)), some (.int (nI (mxf (rb u (SV u) s r) (u 64)))), some (.int (nI 0)), zzw5, zzw6]) dX11_laySure_182 (Nat.le_of_ble_eq_true rfl) rfl ?_
      refine hz_aload_n (pc := 184) C dX11_laySure_184 rfl ?_
      refine hz_getP (pc := 185) C (v := 155) ffX11_39 dX11_laySure_185 hT146 hA146 rfl (hP146_17 q) (by decide) ?_
      refine hz_iload_n (pc := 188) C dX11_laySure_188 rfl ?_
      refine hz_iload (pc := 189) C dX11_laySure_189 rfl ?_
      refine hz_if_eq (pc := 191) C (tgt := 198) dX11_laySure_191 rfl (fun _ => ?_) (fun cq => absurd (by decide +kernel) cq)
      refine hz_aload_n (pc := 198) C dX11_laySure_198 rfl ?_
      refine hz_getP (pc := 199) C (v := 155) ffX11_39 dX11_laySure_199 hT146 hA146 rfl (hP146_17 q) (by decide) ?_
      refine hz_iload_n (pc := 202) C dX11_laySure_202 rfl ?_
      refine hz_iald (pc := 203) C (v := nI (sfold u (SV u) s r).2) (j := s) dX11_laySure_203 hT155 hA155 rfl (by omega) (by decide) hK.2.2 ?_
      refine hz_iast (pc := 204) C (v := nI (sfold u (SV u) s r).2) (j := s) (M' := (hz_up K 155 s (nI (sfold u (SV u) s r).2), L, PP q)) dX11_laySure_204 hT155 hA155 rfl (by omega) (by decide) rfl rfl ?_
      refine hz_aload_n (pc := 205) C dX11_laySure_205 rfl ?_
      refine hz_getP (pc := 206) C (v := 154) ffX11_36 dX11_laySure_206 hT146 hA146 rfl (hP146_16 q) (by decide) ?_
      refine hz_iload_n (pc := 209) C dX11_laySure_209 rfl ?_
      refine hz_iload (pc := 210) C dX11_laySure_210 rfl ?_
      refine hz_if_eq (pc := 212) C (tgt := 221) dX11_laySure_212 rfl (fun _ => ?_) (fun cq => absurd (by decide +kernel) cq)
      refine hz_aload_n (pc := 221) C dX11_laySure_221 rfl ?_
      refine hz_getP (pc := 222) C (v := 154) ffX11_36 dX11_laySure_222 hT146 hA146 rfl (hP146_16 q) (by decide) ?_
      refine hz_iload_n (pc := 225) C dX11_laySure_225 rfl ?_
      refine hz_iald (pc := 226) C (v := dI (sfold u (SV u) s r).1) (j := s) dX11_laySure_226 hT154 hA154 rfl (by omega) (by decide) hK.2.1 ?_
      refine hz_iast (pc := 227) C (v := dI (sfold u (SV u) s r).1) (j := s) (M' := (hz_up (hz_up K 155 s (nI (sfold u (SV u) s r).2)) 154 s (dI (sfold u (SV u) s r).1), L, PP q)) dX11_laySure_227 hT154 hA154 rfl (by omega) (by decide) rfl rfl ?_
      refine hz_iinc (pc := 228) C (v := nI (r + 1)) (ls' := [some (.ref 146), some (.int (nI s)), some (.int (nI (r + 1))), some (.int (nI (mxf (rb u (SV u) s r) (u 64)))), some (.int (nI 0)), zzw5, zzw6]) dX11_laySure_228 rfl (nI_add _ 1) rfl ?_
      refine hz_goto (pc := 231) C (tgt := 43) dX11_laySure_231 rfl ?_
      have hf := sf_no1 U hs hB h0 (Nat.le_of_not_lt fun z => nI_ge z (by omega) zzc1)
      exact ih (r + 1) _ (some (.int (nI (mxf (rb u (SV u) s r) (u 64))))) (some (.int (nI 0))) zzw5 zzw6 (by omega) (lR.put hK.1 (by rw [hf]) (by rw [hf]))
    · refine hz_aload_n (pc := 155) C dX11_laySure_155 rfl ?_
      refine hz_getP (pc := 156) C (v := 154) ffX11_36 dX11_laySure_156 hT146 hA146 rfl (hP146_16 q) (by decide) ?_
      refine hz_iload_n (pc := 159) C dX11_laySure_159 rfl ?_
      refine hz_iald (pc := 160) C (v := dI (sfold u (SV u) s r).1) (j := s) dX11_laySure_160 hT154 hA154 rfl (by omega) (by decide) hK.2.1 ?_
      refine hz_iconst (pc := 161) C (v := (-1 : Int32)) dX11_laySure_161 (by decide +kernel) ?_
      refine hz_ic_eq (pc := 162) C (tgt := 177) dX11_laySure_162 rfl (fun zzc2 => ?_) (fun zzc2 => ?_)
      · refine hz_iconst (pc := 177) C (v := nI 1) dX11_laySure_177 (by decide +kernel) ?_
        refine hz_goto (pc := 178) C (tgt := 182) dX11_laySure_178 rfl ?_
        refine hz_istore (pc := 182) C (ls' := [some (.ref 146), some (.int (nI s)), some (.int (nI r)), some (.int (nI (mxf (rb u (SV u) s r) (u 64)))), some (.int (nI 1)), zzw5, zzw6]) dX11_laySure_182 (Nat.le_of_ble_eq_true rfl) rfl ?_
        refine hz_aload_n (pc := 184) C dX11_laySure_184 rfl ?_
        refine hz_getP (pc := 185) C (v := 155) ffX11_39 dX11_laySure_185 hT146 hA146 rfl (hP146_17 q) (by decide) ?_
        refine hz_iload_n (pc := 188) C dX11_laySure_188 rfl ?_
        refine hz_iload (pc := 189) C dX11_laySure_189 rfl ?_
        refine hz_if_eq (pc := 191) C (tgt := 198) dX11_laySure_191 rfl (fun cq => absurd cq (by decide +kernel)) (fun _ => ?_)
        refine hz_iload_n (pc := 194) C dX11_laySure_194 rfl ?_
        refine hz_goto (pc := 195) C (tgt := 204) dX11_laySure_195 rfl ?_
        refine hz_iast (pc := 204) C (v := nI r) (j := s) (M' := (hz_up K 155 s (nI r), L, PP q)) dX11_laySure_204 hT155 hA155 rfl (by omega) (by decide) rfl rfl ?_
        refine hz_aload_n (pc := 205) C dX11_laySure_205 rfl ?_
        refine hz_getP (pc := 206) C (v := 154) ffX11_36 dX11_laySure_206 hT146 hA146 rfl (hP146_16 q) (by decide) ?_
        refine hz_iload_n (pc := 209) C dX11_laySure_209 rfl ?_
        refine hz_iload (pc := 210) C dX11_laySure_210 rfl ?_
        refine hz_if_eq (pc := 212) C (tgt := 221) dX11_laySure_212 rfl (fun cq => absurd cq (by decide +kernel)) (fun _ => ?_)
        refine hz_iconst (pc := 215) C (v := nI 1) dX11_laySure_215 (by decide +kernel) ?_
        refine hz_iload_n (pc := 216) C dX11_laySure_216 rfl ?_
        refine hz_iadd (pc := 217) C (v := nI (1 + (mxf (rb u (SV u) s r) (u 64)))) dX11_laySure_217 (nI_add _ _) ?_
        refine hz_goto (pc := 218) C (tgt := 227) dX11_laySure_218 rfl ?_
        refine hz_iast (pc := 227) C (v := nI (1 + (mxf (rb u (SV u) s r) (u 64)))) (j := s) (M' := (hz_up (hz_up K 155 s (nI r)) 154 s (nI (1 + (mxf (rb u (SV u) s r) (u 64)))), L, PP q)) dX11_laySure_227 hT154 hA154 rfl (by omega) (by decide) rfl rfl ?_
        refine hz_iinc (pc := 228) C (v := nI (r + 1)) (ls' := [some (.ref 146), some (.int (nI s)), some (.int (nI (r + 1))), some (.int (nI (mxf (rb u (SV u) s r) (u 64)))), some (.int (nI 1)), zzw5, zzw6]) dX11_laySure_228 rfl (nI_add _ 1) rfl ?_
        refine hz_goto (pc := 231) C (tgt := 43) dX11_laySure_231 rfl ?_
        have hf := sf_yes U hs hB h0 (Nat.lt_of_not_le fun z => zzc1 (nI_le z (by omega))) (Or.inl (dI_m1.mp zzc2))
        exact ih (r + 1) _ (some (.int (nI (mxf (rb u (SV u) s r) (u 64))))) (some (.int (nI 1))) zzw5 zzw6 (by omega) (lR.put hK.1 (by rw [hf]) (by rw [hf]; exact (dI_f (by have := wp_bd U hs hB h0 r; have h8 := rb_lo U hs (Nat.lt_of_not_le fun z => zzc1 (nI_le z (by omega))); have h7 := rb_sm (Nat.lt_of_not_le fun z => zzc1 (nI_le z (by omega))); omega)).symm))
      · refine hz_iconst (pc := 165) C (v := nI 1) dX11_laySure_165 (by decide +kernel) ?_
        refine hz_iload_n (pc := 166) C dX11_laySure_166 rfl ?_
        refine hz_iadd (pc := 167) C (v := nI (1 + (mxf (rb u (SV u) s r) (u 64)))) dX11_laySure_167 (nI_add _ _) ?_
        refine hz_aload_n (pc := 168) C dX11_laySure_168 rfl ?_
        refine hz_getP (pc := 169) C (v := 154) ffX11_36 dX11_laySure_169 hT146 hA146 rfl (hP146_16 q) (by decide) ?_
        refine hz_iload_n (pc := 172) C dX11_laySure_172 rfl ?_
        refine hz_iald (pc := 173) C (v := nI ((sfold u (SV u) s r).1)) (j := s) dX11_laySure_173 hT154 hA154 rfl (by omega) (by decide) (hK.2.1.trans (dI_f (fun z => zzc2 (dI_m1.mpr z)))) ?_
        refine hz_ic_ge (pc := 174) C (tgt := 181) dX11_laySure_174 rfl (fun zzc3 => ?_) (fun zzc3 => ?_)
        · refine hz_iconst (pc := 181) C (v := nI 0) dX11_laySure_181 (by decide +kernel) ?_
          refine hz_istore (pc := 182) C (ls' := [some (.ref 146), some (.int (nI s)), some (.int (nI r)), some (.int (nI (mxf (rb u (SV u) s r) (u 64)))), some (.int (nI 0)), zzw5, zzw6]) dX11_laySure_182 (Nat.le_of_ble_eq_true rfl) rfl ?_
          refine hz_aload_n (pc := 184) C dX11_laySure_184 rfl ?_
          refine hz_getP (pc := 185) C (v := 155) ffX11_39 dX11_laySure_185 hT146 hA146 rfl (hP146_17 q) (by decide) ?_
          refine hz_iload_n (pc := 188) C dX11_laySure_188 rfl ?_
          refine hz_iload (pc := 189) C dX11_laySure_189 rfl ?_
          refine hz_if_eq (pc := 191) C (tgt := 198) dX11_laySure_191 rfl (fun _ => ?_) (fun cq => absurd (by decide +kernel) cq)
          refine hz_aload_n (pc := 198) C dX11_laySure_198 rfl ?_
          refine hz_getP (pc := 199) C (v := 155) ffX11_39 dX11_laySure_199 hT146 hA146 rfl (hP146_17 q) (by decide) ?_
          refine hz_iload_n (pc := 202) C dX11_laySure_202 rfl ?_
          refine hz_iald (pc := 203) C (v := nI (sfold u (SV u) s r).2) (j := s) dX11_laySure_203 hT155 hA155 rfl (by omega) (by decide) hK.2.2 ?_
          refine hz_iast (pc := 204) C (v := nI (sfold u (SV u) s r).2) (j := s) (M' := (hz_up K 155 s (nI (sfold u (SV u) s r).2), L, PP q)) dX11_laySure_204 hT155 hA155 rfl (by omega) (by decide) rfl rfl ?_
          refine hz_aload_n (pc := 205) C dX11_laySure_205 rfl ?_
          refine hz_getP (pc := 206) C (v := 154) ffX11_36 dX11_laySure_206 hT146 hA146 rfl (hP146_16 q) (by decide) ?_
          refine hz_iload_n (pc := 209) C dX11_laySure_209 rfl ?_
          refine hz_iload (pc := 210) C dX11_laySure_210 rfl ?_
          refine hz_if_eq (pc := 212) C (tgt := 221) dX11_laySure_212 rfl (fun _ => ?_) (fun cq => absurd (by decide +kernel) cq)
          refine hz_aload_n (pc := 221) C dX11_laySure_221 rfl ?_
          refine hz_getP (pc := 222) C (v := 154) ffX11_36 dX11_laySure_222 hT146 hA146 rfl (hP146_16 q) (by decide) ?_
          refine hz_iload_n (pc := 225) C dX11_laySure_225 rfl ?_
          refine hz_iald (pc := 226) C (v := dI (sfold u (SV u) s r).1) (j := s) dX11_laySure_226 hT154 hA154 rfl (by omega) (by decide) hK.2.1 ?_
          refine hz_iast (pc := 227) C (v := dI (sfold u (SV u) s r).1) (j := s) (M' := (hz_up (hz_up K 155 s (nI (sfold u (SV u) s r).2)) 154 s (dI (sfold u (SV u) s r).1), L, PP q)) dX11_laySure_227 hT154 hA154 rfl (by omega) (by decide) rfl rfl ?_
          refine hz_iinc (pc := 228) C (v := nI (r + 1)) (ls' := [some (.ref 146), some (.int (nI s)), some (.int (nI (r + 1))), some (.int (nI (mxf (rb u (SV u) s r) (u 64)))), some (.int (nI 0)), zzw5, zzw6]) dX11_laySure_228 rfl (nI_add _ 1) rfl ?_
          refine hz_goto (pc := 231) C (tgt := 43) dX11_laySure_231 rfl ?_
          have hf := sf_no2 U hs (Nat.lt_of_not_le fun z => zzc1 (nI_le z (by omega))) (Nat.le_of_not_lt fun z => nI_ge z (by omega) zzc3)
          exact ih (r + 1) _ (some (.int (nI (mxf (rb u (SV u) s r) (u 64))))) (some (.int (nI 0))) zzw5 zzw6 (by omega) (lR.put hK.1 (by rw [hf]) (by rw [hf]))
        · refine hz_iconst (pc := 177) C (v := nI 1) dX11_laySure_177 (by decide +kernel) ?_
          refine hz_goto (pc := 178) C (tgt := 182) dX11_laySure_178 rfl ?_
          refine hz_istore (pc := 182) C (ls' := [some (.ref 146), some (.int (nI s)), some (.int (nI r)), some (.int (nI (mxf (rb u (SV u) s r) (u 64)))), some (.int (nI 1)), zzw5, zzw6]) dX11_laySure_182 (Nat.le_of_ble_eq_true rfl) rfl ?_
          refine hz_aload_n (pc := 184) C dX11_laySure_184 rfl ?_
          refine hz_getP (pc := 185) C (v := 155) ffX11_39 dX11_laySure_185 hT146 hA146 rfl (hP146_17 q) (by decide) ?_
          refine hz_iload_n (pc := 188) C dX11_laySure_188 rfl ?_
          refine hz_iload (pc := 189) C dX11_laySure_189 rfl ?_
          refine hz_if_eq (pc := 191) C (tgt := 198) dX11_laySure_191 rfl (fun cq => absurd cq (by decide +kernel)) (fun _ => ?_)
          refine hz_iload_n (pc := 194) C dX11_laySure_194 rfl ?_
          refine hz_goto (pc := 195) C (tgt := 204) dX11_laySure_195 rfl ?_
          refine hz_iast (pc := 204) C (v := nI r) (j := s) (M' := (hz_up K 155 s (nI r), L, PP q)) dX11_laySure_204 hT155 hA155 rfl (by omega) (by decide) rfl rfl ?_
          refine hz_aload_n (pc := 205) C dX11_laySure_205 rfl ?_
          refine hz_getP (pc := 206) C (v := 154) ffX11_36 dX11_laySure_206 hT146 hA146 rfl (hP146_16 q) (by decide) ?_
          refine hz_iload_n (pc := 209) C dX11_laySure_209 rfl ?_
          refine hz_iload (pc := 210) C dX11_laySure_210 rfl ?_
          refine hz_if_eq (pc := 212) C (tgt := 221) dX11_laySure_212 rfl (fun cq => absurd cq (by decide +kernel)) (fun _ => ?_)
          refine hz_iconst (pc := 215) C (v := nI 1) dX11_laySure_215 (by decide +kernel) ?_
          refine hz_iload_n (pc := 216) C dX11_laySure_216 rfl ?_
          refine hz_iadd (pc := 217) C (v := nI (1 + (mxf (rb u (SV u) s r) (u 64)))) dX11_laySure_217 (nI_add _ _) ?_
          refine hz_goto (pc := 218) C (tgt := 227) dX11_laySure_218 rfl ?_
          refine hz_iast (pc := 227) C (v := nI (1 + (mxf (rb u (SV u) s r) (u 64)))) (j := s) (M' := (hz_up (hz_up K 155 s (nI r)) 154 s (nI (1 + (mxf (rb u (SV u) s r) (u 64)))), L, PP q)) dX11_laySure_227 hT154 hA154 rfl (by omega) (by decide) rfl rfl ?_
          refine hz_iinc (pc := 228) C (v := nI (r + 1)) (ls' := [some (.ref 146), some (.int (nI s)), some (.int (nI (r + 1))), some (.int (nI (mxf (rb u (SV u) s r) (u 64)))), some (.int (nI 1)), zzw5, zzw6]) dX11_laySure_228 rfl (nI_add _ 1) rfl ?_
          refine hz_goto (pc := 231) C (tgt := 43) dX11_laySure_231 rfl ?_
          have hf := sf_yes U hs hB h0 (Nat.lt_of_not_le fun z => zzc1 (nI_le z (by omega))) (Or.inr (Nat.lt_of_not_le fun z => zzc3 (nI_le z (by omega))))
          exact ih (r + 1) _ (some (.int (nI (mxf (rb u (SV u) s r) (u 64))))) (some (.int (nI 1))) zzw5 zzw6 (by omega) (lR.put hK.1 (by rw [hf]) (by rw [hf]; exact (dI_f (by have := wp_bd U hs hB h0 r; have h8 := rb_lo U hs (Nat.lt_of_not_le fun z => zzc1 (nI_le z (by omega))); have h7 := rb_sm (Nat.lt_of_not_le fun z => zzc1 (nI_le z (by omega))); omega)).symm))
set_option maxHeartbeats 4000000 in
set_option maxRecDepth 100000 in
theorem lp_ls {X : hz_X} (C : hz_C X mX11_laySure) {I : Nat → Nat → Int32} {L : Nat → Nat → Int64} {q : Nat → Nat → Nat} {u : Nat → Nat} (V : MF I u) (U : WU u) (kk : ∀ (K : Nat → Nat → Int32) (zzw2 zzw3 zzw4 zzw5 zzw6 : Option Value), lS u I K (2 ^ u 64) → hz_G X TT NN (K, L, PP q) 0 0 240 [some (.ref 146), some (.int (nI (2 ^ u 64))), zzw2, zzw3, zzw4, zzw5, zzw6] []) : ∀ (n s : Nat) (K : Nat → Nat → Int32) (zzw2 zzw3 zzw4 zzw5 zzw6 : Option Value), s + n = 2 ^ u 64 → lS u I K s → hz_G X TT NN (K, L, PP q) 0 0 2 [some (.ref 146), some (.int (nI s)), zzw2, zzw3, zzw4, zzw5, zzw6] [] := by
  intro n
  induction n with
  | zero =>
    intro s K zzw2 zzw3 zzw4 zzw5 zzw6 hi hK
    obtain rfl : 2 ^ u 64 = s := by omega
    have h2p : 2 ^ u 64 ≤ 64 := Nat.pow_le_pow_right (n := 2) (i := u 64) (j := 6) (by decide) (wu_al U)
    refine hz_iload_n (pc := 2) C dX11_laySure_2 rfl ?_
    refine hz_iconst (pc := 3) C (v := nI 1) dX11_laySure_3 (by decide +kernel) ?_
    refine hz_aload_n (pc := 4) C dX11_laySure_4 rfl ?_
    refine hz_getP (pc := 5) C (v := 147) ffX11_7 dX11_laySure_5 hT146 hA146 rfl (hP146_0 q) (by decide) ?_
    refine hz_bipush (pc := 8) C (v := nI 64) dX11_laySure_8 (by decide +kernel) ?_
    refine hz_iald (pc := 10) C (v := nI (u 64)) (j := 64) dX11_laySure_10 hT147 hA147 rfl (by decide) (by decide) (mg (hK.mf V).1 (by omega) (by omega)) ?_
    refine hz_ishl (pc := 11) C (v := nI (2 ^ u 64)) dX11_laySure_11 (bsh7 (wu_al U)) ?_
    refine hz_ic_ge (pc := 12) C (tgt := 240) dX11_laySure_12 rfl (fun _ => ?_) (fun cq => absurd (nI_le (by omega) (by omega)) cq)
    exact kk K zzw2 zzw3 zzw4 zzw5 zzw6 hK
  | succ n ih =>
    intro s K zzw2 zzw3 zzw4 zzw5 zzw6 hi hK
    have hal := wu_al U
    have hsl : s < 2 ^ u 64 := by omega
    have h64 := pw64 U hsl
    have h2p : 2 ^ u 64 ≤ 64 := Nat.pow_le_pow_right (n := 2) (i := u 64) (j := 6) (by decide) (wu_al U)
    have hcl := csum_le (bt s) 6
    refine hz_iload_n (pc := 2) C dX11_laySure_2 rfl ?_
    refine hz_iconst (pc := 3) C (v := nI 1) dX11_laySure_3 (by decide +kernel) ?_
    refine hz_aload_n (pc := 4) C dX11_laySure_4 rfl ?_
    refine hz_getP (pc := 5) C (v := 147) ffX11_7 dX11_laySure_5 hT146 hA146 rfl (hP146_0 q) (by decide) ?_
    refine hz_bipush (pc := 8) C (v := nI 64) dX11_laySure_8 (by decide +kernel) ?_
    refine hz_iald (pc := 10) C (v := nI (u 64)) (j := 64) dX11_laySure_10 hT147 hA147 rfl (by decide) (by decide) (mg (hK.mf V).1 (by omega) (by omega)) ?_
    refine hz_ishl (pc := 11) C (v := nI (2 ^ u 64)) dX11_laySure_11 (bsh7 (wu_al U)) ?_
    refine hz_ic_ge (pc := 12) C (tgt := 240) dX11_laySure_12 rfl (fun cq => absurd cq (nI_ge (by omega) (by omega))) (fun _ => ?_)
    refine hz_aload_n (pc := 15) C dX11_laySure_15 rfl ?_
    refine hz_getP (pc := 16) C (v := 154) ffX11_36 dX11_laySure_16 hT146 hA146 rfl (hP146_16 q) (by decide) ?_
    refine hz_iload_n (pc := 19) C dX11_laySure_19 rfl ?_
    refine hz_iload_n (pc := 20) C dX11_laySure_20 rfl ?_
    refine hz_callSs (pc := 21) C (as := [.int (nI s)]) (st := [.int (nI s), .ref 154]) (ev_bitsM _ (d := s) (by omega)) (hz_new0 _ _) fyX11_bits fsX11_188 rfl dX11_laySure_21 rfl rfl (Nat.le_of_ble_eq_true rfl) (by decide) (hz_cap0 _) ?_
    refine hz_iconst (pc := 24) C (v := nI 2) dX11_laySure_24 (by decide +kernel) ?_
    refine hz_ic_ge (pc := 25) C (tgt := 32) dX11_laySure_25 rfl (fun zzc1 => ?_) (fun zzc1 => ?_)
    · refine hz_iconst (pc := 32) C (v := (-1 : Int32)) dX11_laySure_32 (by decide +kernel) ?_
      refine hz_iast (pc := 33) C (v := (-1 : Int32)) (j := s) (M' := (hz_up K 154 s (-1 : Int32), L, PP q)) dX11_laySure_33 hT154 hA154 rfl (by omega) (by decide) rfl rfl ?_
      refine hz_aload_n (pc := 34) C dX11_laySure_34 rfl ?_
      refine hz_getP (pc := 35) C (v := 155) ffX11_39 dX11_laySure_35 hT146 hA146 rfl (hP146_17 q) (by decide) ?_
      refine hz_iload_n (pc := 38) C dX11_laySure_38 rfl ?_
      refine hz_iconst (pc := 39) C (v := nI 0) dX11_laySure_39 (by decide +kernel) ?_
      refine hz_iast (pc := 40) C (v := nI 0) (j := s) (M' := (hz_up (hz_up K 154 s (-1 : Int32)) 155 s (nI 0), L, PP q)) dX11_laySure_40 hT155 hA155 rfl (by omega) (by decide) rfl rfl ?_
      refine hz_iconst (pc := 41) C (v := nI 0) dX11_laySure_41 (by decide +kernel) ?_
      refine hz_istore_n (pc := 42) C (ls' := [some (.ref 146), some (.int (nI s)), some (.int (nI 0)), zzw3, zzw4, zzw5, zzw6]) dX11_laySure_42 (Nat.le_of_ble_eq_true rfl) rfl ?_
      have hc2 : 2 ≤ csum (bt s) 6 := Nat.le_of_not_lt fun z => nI_ge z (by omega) zzc1
      have hs0 : 0 < s := Nat.pos_of_ne_zero fun z => by subst z; exact absurd hc2 (by decide)
      refine lp_lr C V U hsl hs0 hc2 (fun K zzw3 zzw4 zzw5 zzw6 hK => ?_) 8 0 _ zzw3 zzw4 zzw5 zzw6 (by omega) ⟨hK.up2 _ _, by rw [hz_up_ne _ _ _ _ (by omega), hz_up_self]; rfl, by rw [hz_up_self]; rfl⟩
      refine hz_iinc (pc := 234) C (v := nI (s + 1)) (ls' := [some (.ref 146), some (.int (nI (s + 1))), some (.int (nI 8)), zzw3, zzw4, zzw5, zzw6]) dX11_laySure_234 rfl (nI_add _ 1) rfl ?_
      refine hz_goto (pc := 237) C (tgt := 2) dX11_laySure_237 rfl ?_
      exact ih (s + 1) K (some (.int (nI 8))) zzw3 zzw4 zzw5 zzw6 (by omega) (hK.fin U hsl (by omega))
    · refine hz_iconst (pc := 28) C (v := nI 0) dX11_laySure_28 (by decide +kernel) ?_
      refine hz_goto (pc := 29) C (tgt := 33) dX11_laySure_29 rfl ?_
      refine hz_iast (pc := 33) C (v := nI 0) (j := s) (M' := (hz_up K 154 s (nI 0), L, PP q)) dX11_laySure_33 hT154 hA154 rfl (by omega) (by decide) rfl rfl ?_
      refine hz_aload_n (pc := 34) C dX11_laySure_34 rfl ?_
      refine hz_getP (pc := 35) C (v := 155) ffX11_39 dX11_laySure_35 hT146 hA146 rfl (hP146_17 q) (by decide) ?_
      refine hz_iload_n (pc := 38) C dX11_laySure_38 rfl ?_
      refine hz_iconst (pc := 39) C (v := nI 0) dX11_laySure_39 (by decide +kernel) ?_
      refine hz_iast (pc := 40) C (v := nI 0) (j := s) (M' := (hz_up (hz_up K 154 s (nI 0)) 155 s (nI 0), L, PP q)) dX11_laySure_40 hT155 hA155 rfl (by omega) (by decide) rfl rfl ?_
      refine hz_iconst (pc := 41) C (v := nI 0) dX11_laySure_41 (by decide +kernel) ?_
      refine hz_istore_n (pc := 42) C (ls' := [some (.ref 146), some (.int (nI s)), some (.int (nI 0)), zzw3, zzw4, zzw5, zzw6]) dX11_laySure_42 (Nat.le_of_ble_eq_true rfl) rfl ?_
      refine hz_iload_n (pc := 43) C dX11_laySure_43 rfl ?_
      refine hz_bipush (pc := 44) C (v := nI 8) dX11_laySure_44 (by decide +kernel) ?_
      refine hz_ic_ge (pc := 46) C (tgt := 234) dX11_laySure_46 rfl (fun cq => absurd cq (by decide +kernel)) (fun _ => ?_)
      refine hz_iload_n (pc := 49) C dX11_laySure_49 rfl ?_
      refine hz_callSs (pc := 50) C (as := [.int (nI s)]) (st := []) (ev_bitsM _ (d := s) (by omega)) (hz_new0 _ _) fyX11_bits fsX11_188 rfl dX11_laySure_50 rfl rfl (Nat.le_of_ble_eq_true rfl) (by decide) (hz_cap0 _) ?_
      refine hz_iconst (pc := 53) C (v := nI 1) dX11_laySure_53 (by decide +kernel) ?_
      refine hz_ic_le (pc := 54) C (tgt := 234) dX11_laySure_54 rfl (fun _ => ?_) (fun cq => absurd (nI_le (show csum (bt s) 6 ≤ 1 from Nat.le_of_not_lt fun z => zzc1 (nI_le z (by omega))) (by omega)) cq)
      refine hz_iinc (pc := 234) C (v := nI (s + 1)) (ls' := [some (.ref 146), some (.int (nI (s + 1))), some (.int (nI 0)), zzw3, zzw4, zzw5, zzw6]) dX11_laySure_234 rfl (nI_add _ 1) rfl ?_
      refine hz_goto (pc := 237) C (tgt := 2) dX11_laySure_237 rfl ?_
      exact ih (s + 1) _ (some (.int (nI 0))) zzw3 zzw4 zzw5 zzw6 (by omega) (hK.one U hsl (Nat.lt_of_not_le fun z => zzc1 (nI_le z (by omega))))
set_option maxHeartbeats 4000000 in
set_option maxRecDepth 100000 in
theorem ex_laySure {I : Nat → Nat → Int32} {L : Nat → Nat → Int64} {q : Nat → Nat → Nat} {u : Nat → Nat} (V : MF I u) (U : WU u) : hz_Ex mX11_laySure TT NN (I, L, PP q) [.ref 146] (hz_PI L (PP q) none (fun K => lS u I K (2 ^ u 64))) := by
  refine hz_Ex.intro (ls := [some (.ref 146), none, none, none, none, none, none]) (by decide +kernel) rfl (Nat.le_of_ble_eq_true rfl) (fun X C Z => ?_)
  refine hz_iconst (pc := 0) C (v := nI 0) dX11_laySure_0 (by decide +kernel) ?_
  refine hz_istore_n (pc := 1) C (ls' := [some (.ref 146), some (.int (nI 0)), none, none, none, none, none]) dX11_laySure_1 (Nat.le_of_ble_eq_true rfl) rfl ?_
  refine lp_ls C V U (fun K zzw2 zzw3 zzw4 zzw5 zzw6 hK => ?_) (2 ^ u 64) 0 I _ _ _ _ _ (by omega) ⟨fun _ _ _ => rfl, fun p hp => absurd hp (by omega)⟩
  exact hz_vretx C Z rfl dX11_laySure_240 ⟨K, rfl, rfl, hK⟩
set_option maxHeartbeats 4000000 in
set_option maxRecDepth 100000 in
theorem ex_sureM {I : Nat → Nat → Int32} {L : Nat → Nat → Int64} {q : Nat → Nat → Nat} {u : Nat → Nat} (V : MV I u) (U : WU u) {a x : Nat} (ha1 : 1 ≤ a) (ha : a < 2 ^ u 64) (hx : x ≤ 1) : hz_Ex mX11_sure TT NN (I, L, PP q) [.ref 146, .int (nI a), .int (nI x)] (hz_PI L (PP q) (some (.int (sans u a x))) (fun K => MV K (u) ∧ kpM I K)) := by
  have hal := wu_al U
  have h64 := pw64 U ha
  have h2p : 2 ^ u 64 ≤ 64 := Nat.pow_le_pow_right (n := 2) (i := u 64) (j := 6) (by decide) (wu_al U)
  refine hz_Ex.intro (ls := [some (.ref 146), some (.int (nI a)), some (.int (nI x))]) (by decide +kernel) rfl (Nat.le_of_ble_eq_true rfl) (fun X C Z => ?_)
  refine hz_iload_n (pc := 0) C dX11_sure_0 rfl ?_
  refine hz_iconst (pc := 1) C (v := nI 1) dX11_sure_1 (by decide +kernel) ?_
  refine hz_iconst (pc := 2) C (v := nI 1) dX11_sure_2 (by decide +kernel) ?_
  refine hz_aload_n (pc := 3) C dX11_sure_3 rfl ?_
  refine hz_getP (pc := 4) C (v := 147) ffX11_7 dX11_sure_4 hT146 hA146 rfl (hP146_0 q) (by decide) ?_
  refine hz_bipush (pc := 7) C (v := nI 64) dX11_sure_7 (by decide +kernel) ?_
  refine hz_iald (pc := 9) C (v := nI (u 64)) (j := 64) dX11_sure_9 hT147 hA147 rfl (by decide) (by decide) (mg V (by omega) (by omega)) ?_
  refine hz_ishl (pc := 10) C (v := nI (2 ^ u 64)) dX11_sure_10 (bsh7 (wu_al U)) ?_
  refine hz_iconst (pc := 11) C (v := nI 1) dX11_sure_11 (by decide +kernel) ?_
  refine hz_isub (pc := 12) C dX11_sure_12 rfl ?_
  refine hz_callSs (pc := 13) C (as := [.int (nI a), .int (nI 1), .int ((nI (2 ^ u 64)) - (nI 1))]) (st := []) (ev_in _ (nI a) (nI 1) ((nI (2 ^ u 64)) - (nI 1))) (hz_new0 _ _) fyX11_in fsX11_52 rfl dX11_sure_13 rfl rfl (Nat.le_of_ble_eq_true rfl) (by decide) (hz_cap0 _) ?_
  refine hz_ifb_eq (pc := 16) C (tgt := 28) dX11_sure_16 rfl (fun cq => absurd (v_all ha ha1 h2p) cq) (fun _ => ?_)
  refine hz_iload_n (pc := 19) C dX11_sure_19 rfl ?_
  refine hz_iconst (pc := 20) C (v := nI 0) dX11_sure_20 (by decide +kernel) ?_
  refine hz_iconst (pc := 21) C (v := nI 1) dX11_sure_21 (by decide +kernel) ?_
  refine hz_callSs (pc := 22) C (as := [.int (nI x), .int (nI 0), .int (nI 1)]) (st := []) (ev_in _ (nI x) (nI 0) (nI 1)) (hz_new0 _ _) fyX11_in fsX11_52 rfl dX11_sure_22 rfl rfl (Nat.le_of_ble_eq_true rfl) (by decide) (hz_cap0 _) ?_
  refine hz_ifb_ne (pc := 25) C (tgt := 33) dX11_sure_25 rfl (fun _ => ?_) (fun cq => absurd (vin (Nat.zero_le _) hx (by decide)) cq)
  refine hz_aload_n (pc := 33) C dX11_sure_33 rfl ?_
  refine hz_callVv (pc := 34) C (as := []) (st := []) (ev_layFar V U) (hz_new0 _ _) fyX11_layFar fvX11_146 rfl dX11_sure_34 hT146 rfl rfl hA146 rfl rfl (Nat.le_of_ble_eq_true rfl) (by decide) (hz_cap0 _) ?_
  refine hz_aload_n (pc := 37) C dX11_sure_37 rfl ?_
  refine hz_callVxv (pc := 38) C (as := []) (st := []) (ex_laySure (mf_lm V) U) fyX11_laySure fvX11_194 rfl dX11_sure_38 hT146 rfl rfl hA146 rfl rfl (Nat.le_of_ble_eq_true rfl) (by decide) (hz_cap0 _) (fun K1 h1 => ?_)
  have hSa := h1.2 a ha
  refine hz_aload_n (pc := 41) C dX11_sure_41 rfl ?_
  refine hz_getP (pc := 42) C (v := 154) ffX11_36 dX11_sure_42 hT146 hA146 rfl (hP146_16 q) (by decide) ?_
  refine hz_iload_n (pc := 45) C dX11_sure_45 rfl ?_
  refine hz_iald (pc := 46) C (v := dI (SV u a).1) (j := a) dX11_sure_46 hT154 hA154 rfl (by omega) (by decide) hSa.1 ?_
  refine hz_iconst (pc := 47) C (v := (-1 : Int32)) dX11_sure_47 (by decide +kernel) ?_
  refine hz_ic_ne (pc := 48) C (tgt := 55) dX11_sure_48 rfl (fun zzc1 => ?_) (fun zzc1 => ?_)
  · refine hz_iload_n (pc := 55) C dX11_sure_55 rfl ?_
    refine hz_if_ne (pc := 56) C (tgt := 68) dX11_sure_56 rfl (fun zzc2 => ?_) (fun zzc2 => ?_)
    · refine hz_aload_n (pc := 68) C dX11_sure_68 rfl ?_
      refine hz_getP (pc := 69) C (v := 155) ffX11_39 dX11_sure_69 hT146 hA146 rfl (hP146_17 q) (by decide) ?_
      refine hz_iload_n (pc := 72) C dX11_sure_72 rfl ?_
      refine hz_iald (pc := 73) C (v := nI (SV u a).2) (j := a) dX11_sure_73 hT155 hA155 rfl (by omega) (by decide) hSa.2 ?_
      exact hz_iretx C Z rfl dX11_sure_74 ⟨K1, congrArg (fun z => some (Value.int z)) ((if_neg (fun z => zzc1 (dI_m1.mpr z))).trans (if_neg (fun z => zzc2 (by rw [z, nI_0])))).symm, rfl, V.cong ((h1.1 147 (by omega) (by omega)).trans (by rw [lm, sa_ne _ _ _ (by omega)])), (kpM.lM u I).tr ⟨fun b hb => h1.1 b (by omega) (by omega), by rw [h1.1 146 (by omega) (by omega)]⟩⟩
    · refine hz_aload_n (pc := 59) C dX11_sure_59 rfl ?_
      refine hz_getP (pc := 60) C (v := 154) ffX11_36 dX11_sure_60 hT146 hA146 rfl (hP146_16 q) (by decide) ?_
      refine hz_iload_n (pc := 63) C dX11_sure_63 rfl ?_
      refine hz_iald (pc := 64) C (v := nI (SV u a).1) (j := a) dX11_sure_64 hT154 hA154 rfl (by omega) (by decide) (hSa.1.trans (dI_f (fun z => zzc1 (dI_m1.mpr z)))) ?_
      refine hz_goto (pc := 65) C (tgt := 74) dX11_sure_65 rfl ?_
      exact hz_iretx C Z rfl dX11_sure_74 ⟨K1, congrArg (fun z => some (Value.int z)) ((if_neg (fun z => zzc1 (dI_m1.mpr z))).trans (if_pos ((nI_eq (by omega) (by omega)).mp (zzc2.trans nI_0.symm)))).symm, rfl, V.cong ((h1.1 147 (by omega) (by omega)).trans (by rw [lm, sa_ne _ _ _ (by omega)])), (kpM.lM u I).tr ⟨fun b hb => h1.1 b (by omega) (by omega), by rw [h1.1 146 (by omega) (by omega)]⟩⟩
  · refine hz_iconst (pc := 51) C (v := (-1 : Int32)) dX11_sure_51 (by decide +kernel) ?_
    refine hz_goto (pc := 52) C (tgt := 74) dX11_sure_52 rfl ?_
    exact hz_iretx C Z rfl dX11_sure_74 ⟨K1, congrArg (fun z => some (Value.int z)) (if_pos (dI_m1.mp zzc1)).symm, rfl, V.cong ((h1.1 147 (by omega) (by omega)).trans (by rw [lm, sa_ne _ _ _ (by omega)])), (kpM.lM u I).tr ⟨fun b hb => h1.1 b (by omega) (by omega), by rw [h1.1 146 (by omega) (by omega)]⟩⟩
theorem sp_sure {q : Nat → Nat → Nat} {I : Nat → Nat → Int32} {L : Nat → Nat → Int64} {u : Nat → Nat} (V : INV q I L u) (zzv1 zzv2 : Int32) : ST mX10_sure mX11_sure (I, L, PP q) [.int zzv1, .int zzv2] := by
  by_cases hb : (¬ zzv1 < nI 1 ∧ ¬ nI (2 ^ u 64) - nI 1 < zzv1) ∧ (¬ zzv2 < nI 0 ∧ ¬ nI 1 < zzv2)
  · obtain ⟨a, ha1, ha, rfl⟩ := v_all_ex (wu_al V.2.1) hb.1
    obtain ⟨x, hx, rfl⟩ := vin_ex (b := 1) (by decide) hb.2
    exact st_of V V.2.1 (ex_sure V.1 V.2.1 ha1 ha hx) (fun q' J hJ => ex_sureM hJ V.2.1 ha1 ha hx)
  · exact st_ref (k := 0) (by omega) V (ev_sureX V.1 V.2.1 _ _ hb) (fun J hJ => ev_sureXM hJ V.2.1 _ _ hb)

theorem bc_6 {d : Nat} (h : d < 64) : hz_bc32 (nI d) = nI (csum (bt d) 6) := by
  have e : ∀ d, d < 64 → hz_bc32 (nI d) = nI (csum (bt d) 6) := by decide +kernel
  exact e d h
/-- tenths in lowest terms -/
def tg (t : Nat) : Nat := Nat.gcd t 10
set_option maxHeartbeats 4000000 in
set_option maxRecDepth 100000 in
theorem ev_setTenths {I : Nat → Nat → Int32} {L : Nat → Nat → Int64} {q : Nat → Nat → Nat} {t : Nat} (ht : t < 61) : hz_Ev mX10_setTenths TT NN (I, L, PP q) [.ref 1, .int (nI t)] 0 0 none TT NN (I, hz_up (hz_up L 1 6 (lN (t / tg t))) 1 7 (lN (10 / tg t)), PP q) := by
  refine hz_Ev.intro (ls := [some (.ref 1), some (.int (nI t)), none]) (by decide +kernel) rfl (Nat.le_of_ble_eq_true rfl) (fun X C Z _ => ?_)
  refine hz_bipush (pc := 0) C (v := nI 10) dX10_setTenths_0 (by decide +kernel) ?_
  refine hz_istore_n (pc := 2) C (ls' := [some (.ref 1), some (.int (nI t)), some (.int (nI 10))]) dX10_setTenths_2 (Nat.le_of_ble_eq_true rfl) rfl ?_
  refine hz_iload_n (pc := 3) C dX10_setTenths_3 rfl ?_
  refine hz_if_le (pc := 4) C (tgt := 44) dX10_setTenths_4 rfl (fun cq => absurd cq (by decide +kernel)) (fun _ => ?_)
  refine hz_bipush (pc := 7) C (v := nI 10) dX10_setTenths_7 (by decide +kernel) ?_
  refine hz_iload_n (pc := 9) C dX10_setTenths_9 rfl ?_
  refine hz_irem (pc := 10) C (v := nI 0) dX10_setTenths_10 (by decide +kernel) (by decide +kernel) ?_
  refine hz_if_ne (pc := 11) C (tgt := 38) dX10_setTenths_11 rfl (fun cq => absurd (by decide +kernel) cq) (fun _ => ?_)
  refine hz_iload_n (pc := 14) C dX10_setTenths_14 rfl ?_
  refine hz_iload_n (pc := 15) C dX10_setTenths_15 rfl ?_
  refine hz_irem (pc := 16) C (v := hz_rem (nI t) (nI 10)) dX10_setTenths_16 (by decide +kernel) rfl ?_
  refine hz_if_ne (pc := 17) C (tgt := 38) dX10_setTenths_17 rfl (fun c1 => ?_) (fun c1 => ?_)
  · refine hz_iinc (pc := 38) C (v := nI 9) (ls' := [some (.ref 1), some (.int (nI t)), some (.int (nI 9))]) dX10_setTenths_38 rfl (by decide +kernel) rfl ?_
    refine hz_goto (pc := 41) C (tgt := 3) dX10_setTenths_41 rfl ?_
    refine hz_iload_n (pc := 3) C dX10_setTenths_3 rfl ?_
    refine hz_if_le (pc := 4) C (tgt := 44) dX10_setTenths_4 rfl (fun cq => absurd cq (by decide +kernel)) (fun _ => ?_)
    refine hz_bipush (pc := 7) C (v := nI 10) dX10_setTenths_7 (by decide +kernel) ?_
    refine hz_iload_n (pc := 9) C dX10_setTenths_9 rfl ?_
    refine hz_irem (pc := 10) C (v := nI 1) dX10_setTenths_10 (by decide +kernel) (by decide +kernel) ?_
    refine hz_if_ne (pc := 11) C (tgt := 38) dX10_setTenths_11 rfl (fun _ => ?_) (fun cq => absurd cq (by decide +kernel))
    refine hz_iinc (pc := 38) C (v := nI 8) (ls' := [some (.ref 1), some (.int (nI t)), some (.int (nI 8))]) dX10_setTenths_38 rfl (by decide +kernel) rfl ?_
    refine hz_goto (pc := 41) C (tgt := 3) dX10_setTenths_41 rfl ?_
    refine hz_iload_n (pc := 3) C dX10_setTenths_3 rfl ?_
    refine hz_if_le (pc := 4) C (tgt := 44) dX10_setTenths_4 rfl (fun cq => absurd cq (by decide +kernel)) (fun _ => ?_)
    refine hz_bipush (pc := 7) C (v := nI 10) dX10_setTenths_7 (by decide +kernel) ?_
    refine hz_iload_n (pc := 9) C dX10_setTenths_9 rfl ?_
    refine hz_irem (pc := 10) C (v := nI 2) dX10_setTenths_10 (by decide +kernel) (by decide +kernel) ?_
    refine hz_if_ne (pc := 11) C (tgt := 38) dX10_setTenths_11 rfl (fun _ => ?_) (fun cq => absurd cq (by decide +kernel))
    refine hz_iinc (pc := 38) C (v := nI 7) (ls' := [some (.ref 1), some (.int (nI t)), some (.int (nI 7))]) dX10_setTenths_38 rfl (by decide +kernel) rfl ?_
    refine hz_goto (pc := 41) C (tgt := 3) dX10_setTenths_41 rfl ?_
    refine hz_iload_n (pc := 3) C dX10_setTenths_3 rfl ?_
    refine hz_if_le (pc := 4) C (tgt := 44) dX10_setTenths_4 rfl (fun cq => absurd cq (by decide +kernel)) (fun _ => ?_)
    refine hz_bipush (pc := 7) C (v := nI 10) dX10_setTenths_7 (by decide +kernel) ?_
    refine hz_iload_n (pc := 9) C dX10_setTenths_9 rfl ?_
    refine hz_irem (pc := 10) C (v := nI 3) dX10_setTenths_10 (by decide +kernel) (by decide +kernel) ?_
    refine hz_if_ne (pc := 11) C (tgt := 38) dX10_setTenths_11 rfl (fun _ => ?_) (fun cq => absurd cq (by decide +kernel))
    refine hz_iinc (pc := 38) C (v := nI 6) (ls' := [some (.ref 1), some (.int (nI t)), some (.int (nI 6))]) dX10_setTenths_38 rfl (by decide +kernel) rfl ?_
    refine hz_goto (pc := 41) C (tgt := 3) dX10_setTenths_41 rfl ?_
    refine hz_iload_n (pc := 3) C dX10_setTenths_3 rfl ?_
    refine hz_if_le (pc := 4) C (tgt := 44) dX10_setTenths_4 rfl (fun cq => absurd cq (by decide +kernel)) (fun _ => ?_)
    refine hz_bipush (pc := 7) C (v := nI 10) dX10_setTenths_7 (by decide +kernel) ?_
    refine hz_iload_n (pc := 9) C dX10_setTenths_9 rfl ?_
    refine hz_irem (pc := 10) C (v := nI 4) dX10_setTenths_10 (by decide +kernel) (by decide +kernel) ?_
    refine hz_if_ne (pc := 11) C (tgt := 38) dX10_setTenths_11 rfl (fun _ => ?_) (fun cq => absurd cq (by decide +kernel))
    refine hz_iinc (pc := 38) C (v := nI 5) (ls' := [some (.ref 1), some (.int (nI t)), some (.int (nI 5))]) dX10_setTenths_38 rfl (by decide +kernel) rfl ?_
    refine hz_goto (pc := 41) C (tgt := 3) dX10_setTenths_41 rfl ?_
    refine hz_iload_n (pc := 3) C dX10_setTenths_3 rfl ?_
    refine hz_if_le (pc := 4) C (tgt := 44) dX10_setTenths_4 rfl (fun cq => absurd cq (by decide +kernel)) (fun _ => ?_)
    refine hz_bipush (pc := 7) C (v := nI 10) dX10_setTenths_7 (by decide +kernel) ?_
    refine hz_iload_n (pc := 9) C dX10_setTenths_9 rfl ?_
    refine hz_irem (pc := 10) C (v := nI 0) dX10_setTenths_10 (by decide +kernel) (by decide +kernel) ?_
    refine hz_if_ne (pc := 11) C (tgt := 38) dX10_setTenths_11 rfl (fun cq => absurd (by decide +kernel) cq) (fun _ => ?_)
    refine hz_iload_n (pc := 14) C dX10_setTenths_14 rfl ?_
    refine hz_iload_n (pc := 15) C dX10_setTenths_15 rfl ?_
    refine hz_irem (pc := 16) C (v := hz_rem (nI t) (nI 5)) dX10_setTenths_16 (by decide +kernel) rfl ?_
    refine hz_if_ne (pc := 17) C (tgt := 38) dX10_setTenths_17 rfl (fun c2 => ?_) (fun c2 => ?_)
    · refine hz_iinc (pc := 38) C (v := nI 4) (ls' := [some (.ref 1), some (.int (nI t)), some (.int (nI 4))]) dX10_setTenths_38 rfl (by decide +kernel) rfl ?_
      refine hz_goto (pc := 41) C (tgt := 3) dX10_setTenths_41 rfl ?_
      refine hz_iload_n (pc := 3) C dX10_setTenths_3 rfl ?_
      refine hz_if_le (pc := 4) C (tgt := 44) dX10_setTenths_4 rfl (fun cq => absurd cq (by decide +kernel)) (fun _ => ?_)
      refine hz_bipush (pc := 7) C (v := nI 10) dX10_setTenths_7 (by decide +kernel) ?_
      refine hz_iload_n (pc := 9) C dX10_setTenths_9 rfl ?_
      refine hz_irem (pc := 10) C (v := nI 2) dX10_setTenths_10 (by decide +kernel) (by decide +kernel) ?_
      refine hz_if_ne (pc := 11) C (tgt := 38) dX10_setTenths_11 rfl (fun _ => ?_) (fun cq => absurd cq (by decide +kernel))
      refine hz_iinc (pc := 38) C (v := nI 3) (ls' := [some (.ref 1), some (.int (nI t)), some (.int (nI 3))]) dX10_setTenths_38 rfl (by decide +kernel) rfl ?_
      refine hz_goto (pc := 41) C (tgt := 3) dX10_setTenths_41 rfl ?_
      refine hz_iload_n (pc := 3) C dX10_setTenths_3 rfl ?_
      refine hz_if_le (pc := 4) C (tgt := 44) dX10_setTenths_4 rfl (fun cq => absurd cq (by decide +kernel)) (fun _ => ?_)
      refine hz_bipush (pc := 7) C (v := nI 10) dX10_setTenths_7 (by decide +kernel) ?_
      refine hz_iload_n (pc := 9) C dX10_setTenths_9 rfl ?_
      refine hz_irem (pc := 10) C (v := nI 1) dX10_setTenths_10 (by decide +kernel) (by decide +kernel) ?_
      refine hz_if_ne (pc := 11) C (tgt := 38) dX10_setTenths_11 rfl (fun _ => ?_) (fun cq => absurd cq (by decide +kernel))
      refine hz_iinc (pc := 38) C (v := nI 2) (ls' := [some (.ref 1), some (.int (nI t)), some (.int (nI 2))]) dX10_setTenths_38 rfl (by decide +kernel) rfl ?_
      refine hz_goto (pc := 41) C (tgt := 3) dX10_setTenths_41 rfl ?_
      refine hz_iload_n (pc := 3) C dX10_setTenths_3 rfl ?_
      refine hz_if_le (pc := 4) C (tgt := 44) dX10_setTenths_4 rfl (fun cq => absurd cq (by decide +kernel)) (fun _ => ?_)
      refine hz_bipush (pc := 7) C (v := nI 10) dX10_setTenths_7 (by decide +kernel) ?_
      refine hz_iload_n (pc := 9) C dX10_setTenths_9 rfl ?_
      refine hz_irem (pc := 10) C (v := nI 0) dX10_setTenths_10 (by decide +kernel) (by decide +kernel) ?_
      refine hz_if_ne (pc := 11) C (tgt := 38) dX10_setTenths_11 rfl (fun cq => absurd (by decide +kernel) cq) (fun _ => ?_)
      refine hz_iload_n (pc := 14) C dX10_setTenths_14 rfl ?_
      refine hz_iload_n (pc := 15) C dX10_setTenths_15 rfl ?_
      refine hz_irem (pc := 16) C (v := hz_rem (nI t) (nI 2)) dX10_setTenths_16 (by decide +kernel) rfl ?_
      refine hz_if_ne (pc := 17) C (tgt := 38) dX10_setTenths_17 rfl (fun c3 => ?_) (fun c3 => ?_)
      · refine hz_iinc (pc := 38) C (v := nI 1) (ls' := [some (.ref 1), some (.int (nI t)), some (.int (nI 1))]) dX10_setTenths_38 rfl (by decide +kernel) rfl ?_
        refine hz_goto (pc := 41) C (tgt := 3) dX10_setTenths_41 rfl ?_
        refine hz_iload_n (pc := 3) C dX10_setTenths_3 rfl ?_
        refine hz_if_le (pc := 4) C (tgt := 44) dX10_setTenths_4 rfl (fun cq => absurd cq (by decide +kernel)) (fun _ => ?_)
        refine hz_bipush (pc := 7) C (v := nI 10) dX10_setTenths_7 (by decide +kernel) ?_
        refine hz_iload_n (pc := 9) C dX10_setTenths_9 rfl ?_
        refine hz_irem (pc := 10) C (v := nI 0) dX10_setTenths_10 (by decide +kernel) (by decide +kernel) ?_
        refine hz_if_ne (pc := 11) C (tgt := 38) dX10_setTenths_11 rfl (fun cq => absurd (by decide +kernel) cq) (fun _ => ?_)
        refine hz_iload_n (pc := 14) C dX10_setTenths_14 rfl ?_
        refine hz_iload_n (pc := 15) C dX10_setTenths_15 rfl ?_
        refine hz_irem (pc := 16) C (v := hz_rem (nI t) (nI 1)) dX10_setTenths_16 (by decide +kernel) rfl ?_
        refine hz_if_ne (pc := 17) C (tgt := 38) dX10_setTenths_17 rfl (fun c4 => ?_) (fun c4 => ?_)
        · refine hz_iinc (pc := 38) C (v := nI 0) (ls' := [some (.ref 1), some (.int (nI t)), some (.int (nI 0))]) dX10_setTenths_38 rfl (by decide +kernel) rfl ?_
          refine hz_goto (pc := 41) C (tgt := 3) dX10_setTenths_41 rfl ?_
          refine hz_iload_n (pc := 3) C dX10_setTenths_3 rfl ?_
          refine hz_if_le (pc := 4) C (tgt := 44) dX10_setTenths_4 rfl (fun _ => ?_) (fun cq => absurd (by decide +kernel) cq)
          exact hz_vret C Z rfl dX10_setTenths_44 (absurd (show hz_rem (nI t) (nI 1) = 0 from (show ∀ t, t < 61 → hz_rem (nI t) (nI 1) = 0 by decide +kernel) t ht) c4)
        · refine hz_aload_n (pc := 20) C dX10_setTenths_20 rfl ?_
          refine hz_iload_n (pc := 21) C dX10_setTenths_21 rfl ?_
          refine hz_iload_n (pc := 22) C dX10_setTenths_22 rfl ?_
          refine hz_idiv (pc := 23) C (v := (nI t) / (nI 1)) dX10_setTenths_23 (by decide +kernel) rfl ?_
          refine hz_i2l (pc := 24) C dX10_setTenths_24 rfl ?_
          refine hz_putL (pc := 25) C (M' := (I, hz_up L 1 6 (((nI t) / (nI 1)).toInt64), PP q)) ffX10_41 dX10_setTenths_25 hT1 hA1 rfl rfl (fun _ => ⟨rfl, rfl⟩) rfl ?_
          refine hz_aload_n (pc := 28) C dX10_setTenths_28 rfl ?_
          refine hz_bipush (pc := 29) C (v := nI 10) dX10_setTenths_29 (by decide +kernel) ?_
          refine hz_iload_n (pc := 31) C dX10_setTenths_31 rfl ?_
          refine hz_idiv (pc := 32) C (v := nI 10) dX10_setTenths_32 (by decide +kernel) (by decide +kernel) ?_
          refine hz_i2l (pc := 33) C dX10_setTenths_33 rfl ?_
          refine hz_putL (pc := 34) C (M' := (I, hz_up (hz_up L 1 6 (((nI t) / (nI 1)).toInt64)) 1 7 ((nI 10).toInt64), PP q)) ffX10_45 dX10_setTenths_34 hT1 hA1 rfl rfl (fun _ => ⟨rfl, rfl⟩) rfl ?_
          exact hz_vret C Z rfl dX10_setTenths_37 (by have e9 := (show ∀ t, t < 61 → ¬ hz_rem (nI t) (nI 10) = 0 → ¬ hz_rem (nI t) (nI 5) = 0 → ¬ hz_rem (nI t) (nI 2) = 0 → (nI t / nI 1).toInt64 = lN (t / tg t) ∧ (nI 10).toInt64 = lN (10 / tg t) by decide +kernel) t ht c1 c2 c3; rw [e9.1, e9.2])
      · refine hz_aload_n (pc := 20) C dX10_setTenths_20 rfl ?_
        refine hz_iload_n (pc := 21) C dX10_setTenths_21 rfl ?_
        refine hz_iload_n (pc := 22) C dX10_setTenths_22 rfl ?_
        refine hz_idiv (pc := 23) C (v := (nI t) / (nI 2)) dX10_setTenths_23 (by decide +kernel) rfl ?_
        refine hz_i2l (pc := 24) C dX10_setTenths_24 rfl ?_
        refine hz_putL (pc := 25) C (M' := (I, hz_up L 1 6 (((nI t) / (nI 2)).toInt64), PP q)) ffX10_41 dX10_setTenths_25 hT1 hA1 rfl rfl (fun _ => ⟨rfl, rfl⟩) rfl ?_
        refine hz_aload_n (pc := 28) C dX10_setTenths_28 rfl ?_
        refine hz_bipush (pc := 29) C (v := nI 10) dX10_setTenths_29 (by decide +kernel) ?_
        refine hz_iload_n (pc := 31) C dX10_setTenths_31 rfl ?_
        refine hz_idiv (pc := 32) C (v := nI 5) dX10_setTenths_32 (by decide +kernel) (by decide +kernel) ?_
        refine hz_i2l (pc := 33) C dX10_setTenths_33 rfl ?_
        refine hz_putL (pc := 34) C (M' := (I, hz_up (hz_up L 1 6 (((nI t) / (nI 2)).toInt64)) 1 7 ((nI 5).toInt64), PP q)) ffX10_45 dX10_setTenths_34 hT1 hA1 rfl rfl (fun _ => ⟨rfl, rfl⟩) rfl ?_
        exact hz_vret C Z rfl dX10_setTenths_37 (by have e9 := (show ∀ t, t < 61 → ¬ hz_rem (nI t) (nI 10) = 0 → ¬ hz_rem (nI t) (nI 5) = 0 → hz_rem (nI t) (nI 2) = 0 → (nI t / nI 2).toInt64 = lN (t / tg t) ∧ (nI 5).toInt64 = lN (10 / tg t) by decide +kernel) t ht c1 c2 c3; rw [e9.1, e9.2])
    · refine hz_aload_n (pc := 20) C dX10_setTenths_20 rfl ?_
      refine hz_iload_n (pc := 21) C dX10_setTenths_21 rfl ?_
      refine hz_iload_n (pc := 22) C dX10_setTenths_22 rfl ?_
      refine hz_idiv (pc := 23) C (v := (nI t) / (nI 5)) dX10_setTenths_23 (by decide +kernel) rfl ?_
      refine hz_i2l (pc := 24) C dX10_setTenths_24 rfl ?_
      refine hz_putL (pc := 25) C (M' := (I, hz_up L 1 6 (((nI t) / (nI 5)).toInt64), PP q)) ffX10_41 dX10_setTenths_25 hT1 hA1 rfl rfl (fun _ => ⟨rfl, rfl⟩) rfl ?_
      refine hz_aload_n (pc := 28) C dX10_setTenths_28 rfl ?_
      refine hz_bipush (pc := 29) C (v := nI 10) dX10_setTenths_29 (by decide +kernel) ?_
      refine hz_iload_n (pc := 31) C dX10_setTenths_31 rfl ?_
      refine hz_idiv (pc := 32) C (v := nI 2) dX10_setTenths_32 (by decide +kernel) (by decide +kernel) ?_
      refine hz_i2l (pc := 33) C dX10_setTenths_33 rfl ?_
      refine hz_putL (pc := 34) C (M' := (I, hz_up (hz_up L 1 6 (((nI t) / (nI 5)).toInt64)) 1 7 ((nI 2).toInt64), PP q)) ffX10_45 dX10_setTenths_34 hT1 hA1 rfl rfl (fun _ => ⟨rfl, rfl⟩) rfl ?_
      exact hz_vret C Z rfl dX10_setTenths_37 (by have e9 := (show ∀ t, t < 61 → ¬ hz_rem (nI t) (nI 10) = 0 → hz_rem (nI t) (nI 5) = 0 → (nI t / nI 5).toInt64 = lN (t / tg t) ∧ (nI 2).toInt64 = lN (10 / tg t) by decide +kernel) t ht c1 c2; rw [e9.1, e9.2])
  · refine hz_aload_n (pc := 20) C dX10_setTenths_20 rfl ?_
    refine hz_iload_n (pc := 21) C dX10_setTenths_21 rfl ?_
    refine hz_iload_n (pc := 22) C dX10_setTenths_22 rfl ?_
    refine hz_idiv (pc := 23) C (v := (nI t) / (nI 10)) dX10_setTenths_23 (by decide +kernel) rfl ?_
    refine hz_i2l (pc := 24) C dX10_setTenths_24 rfl ?_
    refine hz_putL (pc := 25) C (M' := (I, hz_up L 1 6 (((nI t) / (nI 10)).toInt64), PP q)) ffX10_41 dX10_setTenths_25 hT1 hA1 rfl rfl (fun _ => ⟨rfl, rfl⟩) rfl ?_
    refine hz_aload_n (pc := 28) C dX10_setTenths_28 rfl ?_
    refine hz_bipush (pc := 29) C (v := nI 10) dX10_setTenths_29 (by decide +kernel) ?_
    refine hz_iload_n (pc := 31) C dX10_setTenths_31 rfl ?_
    refine hz_idiv (pc := 32) C (v := nI 1) dX10_setTenths_32 (by decide +kernel) (by decide +kernel) ?_
    refine hz_i2l (pc := 33) C dX10_setTenths_33 rfl ?_
    refine hz_putL (pc := 34) C (M' := (I, hz_up (hz_up L 1 6 (((nI t) / (nI 10)).toInt64)) 1 7 ((nI 1).toInt64), PP q)) ffX10_45 dX10_setTenths_34 hT1 hA1 rfl rfl (fun _ => ⟨rfl, rfl⟩) rfl ?_
    exact hz_vret C Z rfl dX10_setTenths_37 (by have e9 := (show ∀ t, t < 61 → hz_rem (nI t) (nI 10) = 0 → (nI t / nI 10).toInt64 = lN (t / tg t) ∧ (nI 1).toInt64 = lN (10 / tg t) by decide +kernel) t ht c1; rw [e9.1, e9.2])
set_option maxHeartbeats 4000000 in
set_option maxRecDepth 100000 in
theorem ev_missed {I : Nat → Nat → Int32} {L : Nat → Nat → Int64} {q : Nat → Nat → Nat} {u : Nat → Nat} (V : HV 12 q I u) (U : WU u) {r s c : Nat} (hr : r < 8) (hs : s ≤ 9999) (hc : c ≤ 10)  : hz_Ev mX10_missed TT NN (I, L, PP q) [.ref 1, .int (nI r), .int (nI s), .int (nI c)] 0 0 (some (.int (nI 1))) TT NN (msb (anyb (fun k => sin u k (nI s)) (u 64)) u I, hz_up (hz_up L 1 6 (lN (csum (bt (bsum (fun k => sin u k (nI s) && rch u r k) (u 64))) 6 * (10 - c) / tg (csum (bt (bsum (fun k => sin u k (nI s) && rch u r k) (u 64))) 6 * (10 - c))))) 1 7 (lN (10 / tg (csum (bt (bsum (fun k => sin u k (nI s) && rch u r k) (u 64))) 6 * (10 - c)))), PP q) := by
  have hal := wu_al U
  have hco := wu_co U
  have hbs := bs64 (fun k => sin u k (nI s) && rch u r k) hal
  have hpn := csum_le (bt (bsum (fun k => sin u k (nI s) && rch u r k) (u 64))) 6
  have htn : csum (bt (bsum (fun k => sin u k (nI s) && rch u r k) (u 64))) 6 * (10 - c) < 61 := Nat.lt_of_le_of_lt (Nat.mul_le_mul hpn (Nat.sub_le 10 c)) (by decide)
  refine hz_Ev.intro (ls := [some (.ref 1), some (.int (nI r)), some (.int (nI s)), some (.int (nI c))]) (by decide +kernel) rfl (Nat.le_of_ble_eq_true rfl) (fun X C Z _ => ?_)
  refine hz_iload_n (pc := 0) C dX10_missed_0 rfl ?_
  refine hz_callSs (pc := 1) C (as := [.int (nI r)]) (st := []) (ev_isRoom _ (nI r)) (hz_new0 _ _) fyX10_isRoom fsX10_55 rfl dX10_missed_1 rfl rfl (Nat.le_of_ble_eq_true rfl) (by decide) (hz_cap0 _) ?_
  refine hz_ifb_eq (pc := 4) C (tgt := 24) dX10_missed_4 rfl (fun cq => absurd (vr hr) cq) (fun _ => ?_)
  refine hz_iload_n (pc := 7) C dX10_missed_7 rfl ?_
  refine hz_callSs (pc := 8) C (as := [.int (nI s)]) (st := []) (ev_isSecond _ (nI s)) (hz_new0 _ _) fyX10_isSecond fsX10_161 rfl dX10_missed_8 rfl rfl (Nat.le_of_ble_eq_true rfl) (by decide) (hz_cap0 _) ?_
  refine hz_ifb_eq (pc := 11) C (tgt := 24) dX10_missed_11 rfl (fun cq => absurd (vs hs) cq) (fun _ => ?_)
  refine hz_iload_n (pc := 14) C dX10_missed_14 rfl ?_
  refine hz_iconst (pc := 15) C (v := nI 0) dX10_missed_15 (by decide +kernel) ?_
  refine hz_bipush (pc := 16) C (v := nI 10) dX10_missed_16 (by decide +kernel) ?_
  refine hz_callSs (pc := 18) C (as := [.int (nI c), .int (nI 0), .int (nI 10)]) (st := []) (ev_within _ (nI c) (nI 0) (nI 10)) (hz_new0 _ _) fyX10_within fsX10_59 rfl dX10_missed_18 rfl rfl (Nat.le_of_ble_eq_true rfl) (by decide) (hz_cap0 _) ?_
  refine hz_ifb_ne (pc := 21) C (tgt := 29) dX10_missed_21 rfl (fun _ => ?_) (fun cq => absurd (vin (Nat.zero_le _) hc (by decide)) cq)
  refine hz_aload_n (pc := 29) C dX10_missed_29 rfl ?_
  refine hz_aload_n (pc := 30) C dX10_missed_30 rfl ?_
  refine hz_getP (pc := 31) C (v := 12) ffX10_26 dX10_missed_31 hT1 hA1 rfl (hP1_4 q) (by decide) ?_
  refine hz_iload_n (pc := 34) C dX10_missed_34 rfl ?_
  refine hz_iload_n (pc := 35) C dX10_missed_35 rfl ?_
  refine hz_callVs (pc := 36) C (as := [.int (nI r), .int (nI s)]) (st := [.ref 1]) (ev_bitsHeard (L := L) V U (r := r) (by omega) (nI s)) (hz_new0 _ _) fyX2_bitsHeard fvX10_114 rfl dX10_missed_36 hT12 rfl rfl hA12 rfl rfl (Nat.le_of_ble_eq_true rfl) (by decide) (hz_cap0 _) ?_
  refine hz_callSs (pc := 39) C (as := [.int (nI (bsum (fun k => sin u k (nI s) && rch u r k) (u 64)))]) (st := [.ref 1]) (by have h9 := ev_bitCount (T := TT) (n := NN) (msb (anyb (fun k => sin u k (nI s)) (u 64)) u I, L, PP q) (nI (bsum (fun k => sin u k (nI s) && rch u r k) (u 64))); rw [bc_6 hbs] at h9; exact h9) (hz_new0 _ _) fyJ6_bitCount_0f7a4 fsX10_238 rfl dX10_missed_39 rfl rfl (Nat.le_of_ble_eq_true rfl) (by decide) (hz_cap0 _) ?_
  refine hz_bipush (pc := 42) C (v := nI 10) dX10_missed_42 (by decide +kernel) ?_
  refine hz_iload_n (pc := 44) C dX10_missed_44 rfl ?_
  refine hz_isub (pc := 45) C dX10_missed_45 rfl ?_
  refine hz_imul (pc := 46) C (v := nI (csum (bt (bsum (fun k => sin u k (nI s) && rch u r k) (u 64))) 6 * (10 - c))) dX10_missed_46 (by rw [pk_sub hc, pk_mul]) ?_
  refine hz_callVv (pc := 47) C (as := [.int (nI (csum (bt (bsum (fun k => sin u k (nI s) && rch u r k) (u 64))) 6 * (10 - c)))]) (st := []) (ev_setTenths (I := msb (anyb (fun k => sin u k (nI s)) (u 64)) u I) (L := L) (q := q) htn) (hz_new0 _ _) fyX10_setTenths fvX10_243 rfl dX10_missed_47 hT1 rfl rfl hA1 rfl rfl (Nat.le_of_ble_eq_true rfl) (by decide) (hz_cap0 _) ?_
  refine hz_iconst (pc := 50) C (v := nI 1) dX10_missed_50 (by decide +kernel) ?_
  exact hz_iret C Z rfl dX10_missed_51 rfl rfl
theorem cmp_0 {b : Nat} (h : b < 2 ^ 31) : lg_cmp (lN b) 0 ≤ 0 ↔ b = 0 := by
  unfold lg_cmp
  by_cases e : b = 0
  · subst e
    exact ⟨fun _ => rfl, fun _ => by decide +kernel⟩
  · have h1 : lN b > 0 := by
      show lN 0 < lN b
      exact (lN_lt (by decide) h).mpr (by omega)
    rw [if_pos h1]
    exact ⟨fun z => absurd z (by decide), fun z => absurd z e⟩
set_option maxHeartbeats 4000000 in
set_option maxRecDepth 100000 in
theorem lp_eu {X : hz_X} (C : hz_C X mX11_missed) {I : Nat → Nat → Int32} {L : Nat → Nat → Int64} {q : Nat → Nat → Nat} {u : Nat → Nat} {r s c : Nat} (hr : r < 8) (hs : s ≤ 9999) (hc : c ≤ 10)  {g : Nat} (kk : ∀ w10 : Option Value, hz_G X TT NN (I, L, PP q) 0 0 97 [some (.ref 146), some (.int (nI r)), some (.int (nI s)), some (.int (nI c)), some (.long (lN (csum (bt (bsum (fun k => sin u k (nI s) && rch u r k) (u 64))) 6 * (10 - c)))), none, some (.long (lN g)), none, some (.long (lN 0)), none, w10, none] []) : ∀ (b a : Nat) (w10 : Option Value), a < 61 → b < 61 → Nat.gcd a b = g → hz_G X TT NN (I, L, PP q) 0 0 72 [some (.ref 146), some (.int (nI r)), some (.int (nI s)), some (.int (nI c)), some (.long (lN (csum (bt (bsum (fun k => sin u k (nI s) && rch u r k) (u 64))) 6 * (10 - c)))), none, some (.long (lN a)), none, some (.long (lN b)), none, w10, none] [] := by
  intro b
  induction b using Nat.strongRecOn with
  | ind b ih =>
    intro a w10 ha hb hg
    by_cases h0 : b = 0
    · refine hz_lload (pc := 72) C dX11_missed_72 rfl ?_
      refine hz_lconst (pc := 74) C (v := 0) dX11_missed_74 (by decide +kernel) ?_
      refine hz_lcmp (pc := 75) C dX11_missed_75 ?_
      refine hz_if_le (pc := 76) C (tgt := 97) dX11_missed_76 rfl (fun _ => ?_) (fun cq => absurd ((cmp_0 (by omega)).mpr h0) cq)
      rw [h0] at hg ⊢
      rw [Nat.gcd_zero_right] at hg
      rw [hg]
      exact kk _
    · refine hz_lload (pc := 72) C dX11_missed_72 rfl ?_
      refine hz_lconst (pc := 74) C (v := 0) dX11_missed_74 (by decide +kernel) ?_
      refine hz_lcmp (pc := 75) C dX11_missed_75 ?_
      refine hz_if_le (pc := 76) C (tgt := 97) dX11_missed_76 rfl (fun cq => absurd ((cmp_0 (by omega)).mp cq) h0) (fun _ => ?_)
      refine hz_lload (pc := 79) C dX11_missed_79 rfl ?_
      refine hz_lload (pc := 81) C dX11_missed_81 rfl ?_
      refine hz_lrem (pc := 83) C (v := lN (a % b)) dX11_missed_83 (fun z => h0 ((lN_eq (by omega) (by decide)).mp z)) (pk_lRem (by omega) (by omega) (by omega)) ?_
      refine hz_lstore (pc := 84) C (ls' := [some (.ref 146), some (.int (nI r)), some (.int (nI s)), some (.int (nI c)), some (.long (lN (csum (bt (bsum (fun k => sin u k (nI s) && rch u r k) (u 64))) 6 * (10 - c)))), none, some (.long (lN a)), none, some (.long (lN b)), none, some (.long (lN (a % b))), none]) dX11_missed_84 (Nat.le_of_ble_eq_true rfl) rfl ?_
      refine hz_lload (pc := 86) C dX11_missed_86 rfl ?_
      refine hz_lstore (pc := 88) C (ls' := [some (.ref 146), some (.int (nI r)), some (.int (nI s)), some (.int (nI c)), some (.long (lN (csum (bt (bsum (fun k => sin u k (nI s) && rch u r k) (u 64))) 6 * (10 - c)))), none, some (.long (lN b)), none, some (.long (lN b)), none, some (.long (lN (a % b))), none]) dX11_missed_88 (Nat.le_of_ble_eq_true rfl) rfl ?_
      refine hz_lload (pc := 90) C dX11_missed_90 rfl ?_
      refine hz_lstore (pc := 92) C (ls' := [some (.ref 146), some (.int (nI r)), some (.int (nI s)), some (.int (nI c)), some (.long (lN (csum (bt (bsum (fun k => sin u k (nI s) && rch u r k) (u 64))) 6 * (10 - c)))), none, some (.long (lN b)), none, some (.long (lN (a % b))), none, some (.long (lN (a % b))), none]) dX11_missed_92 (Nat.le_of_ble_eq_true rfl) rfl ?_
      refine hz_goto (pc := 94) C (tgt := 72) dX11_missed_94 rfl ?_
      exact ih (a % b) (Nat.mod_lt a (by omega)) b _ hb (by have := Nat.mod_lt a (show 0 < b by omega); omega) (by rw [← hg, Nat.gcd_comm b, ← Nat.gcd_rec, Nat.gcd_comm])
theorem tg_pos (t : Nat) : 0 < tg t := Nat.gcd_pos_of_pos_right t (by decide)
theorem tg_le (t : Nat) : tg t ≤ 10 := Nat.gcd_le_right t (by decide)
set_option maxHeartbeats 4000000 in
set_option maxRecDepth 100000 in
theorem ev_missedM {I : Nat → Nat → Int32} {L : Nat → Nat → Int64} {q : Nat → Nat → Nat} {u : Nat → Nat} (V : MV I u) (U : WU u) {r s c : Nat} (hr : r < 8) (hs : s ≤ 9999) (hc : c ≤ 10)  : hz_Ev mX11_missed TT NN (I, L, PP q) [.ref 146, .int (nI r), .int (nI s), .int (nI c)] 0 0 (some (.int (nI 1))) TT NN (lm u I, hz_up (hz_up L 146 5 (lN (csum (bt (bsum (fun k => sin u k (nI s) && rch u r k) (u 64))) 6 * (10 - c) / tg (csum (bt (bsum (fun k => sin u k (nI s) && rch u r k) (u 64))) 6 * (10 - c))))) 146 6 (lN (10 / tg (csum (bt (bsum (fun k => sin u k (nI s) && rch u r k) (u 64))) 6 * (10 - c)))), PP q) := by
  have hal := wu_al U
  have hco := wu_co U
  have hbs := bs64 (fun k => sin u k (nI s) && rch u r k) hal
  have hpn := csum_le (bt (bsum (fun k => sin u k (nI s) && rch u r k) (u 64))) 6
  have htn : csum (bt (bsum (fun k => sin u k (nI s) && rch u r k) (u 64))) 6 * (10 - c) < 61 := Nat.lt_of_le_of_lt (Nat.mul_le_mul hpn (Nat.sub_le 10 c)) (by decide)
  refine hz_Ev.intro (ls := [some (.ref 146), some (.int (nI r)), some (.int (nI s)), some (.int (nI c)), none, none, none, none, none, none, none, none]) (by decide +kernel) rfl (Nat.le_of_ble_eq_true rfl) (fun X C Z _ => ?_)
  refine hz_iload_n (pc := 0) C dX11_missed_0 rfl ?_
  refine hz_callSs (pc := 1) C (as := [.int (nI r)]) (st := []) (ev_isRoomM _ (nI r)) (hz_new0 _ _) fyX11_isRoom fsX11_56 rfl dX11_missed_1 rfl rfl (Nat.le_of_ble_eq_true rfl) (by decide) (hz_cap0 _) ?_
  refine hz_ifb_eq (pc := 4) C (tgt := 28) dX11_missed_4 rfl (fun cq => absurd (vr hr) cq) (fun _ => ?_)
  refine hz_iload_n (pc := 7) C dX11_missed_7 rfl ?_
  refine hz_iconst (pc := 8) C (v := nI 0) dX11_missed_8 (by decide +kernel) ?_
  refine hz_sipush (pc := 9) C (v := nI 9999) dX11_missed_9 (by decide +kernel) ?_
  refine hz_callSs (pc := 12) C (as := [.int (nI s), .int (nI 0), .int (nI 9999)]) (st := []) (ev_in _ (nI s) (nI 0) (nI 9999)) (hz_new0 _ _) fyX11_in fsX11_52 rfl dX11_missed_12 rfl rfl (Nat.le_of_ble_eq_true rfl) (by decide) (hz_cap0 _) ?_
  refine hz_ifb_eq (pc := 15) C (tgt := 28) dX11_missed_15 rfl (fun cq => absurd (vs hs) cq) (fun _ => ?_)
  refine hz_iload_n (pc := 18) C dX11_missed_18 rfl ?_
  refine hz_iconst (pc := 19) C (v := nI 0) dX11_missed_19 (by decide +kernel) ?_
  refine hz_bipush (pc := 20) C (v := nI 10) dX11_missed_20 (by decide +kernel) ?_
  refine hz_callSs (pc := 22) C (as := [.int (nI c), .int (nI 0), .int (nI 10)]) (st := []) (ev_in _ (nI c) (nI 0) (nI 10)) (hz_new0 _ _) fyX11_in fsX11_52 rfl dX11_missed_22 rfl rfl (Nat.le_of_ble_eq_true rfl) (by decide) (hz_cap0 _) ?_
  refine hz_ifb_ne (pc := 25) C (tgt := 33) dX11_missed_25 rfl (fun _ => ?_) (fun cq => absurd (vin (Nat.zero_le _) hc (by decide)) cq)
  refine hz_aload_n (pc := 33) C dX11_missed_33 rfl ?_
  refine hz_callVv (pc := 34) C (as := []) (st := []) (ev_layFar V U) (hz_new0 _ _) fyX11_layFar fvX11_146 rfl dX11_missed_34 hT146 rfl rfl hA146 rfl rfl (Nat.le_of_ble_eq_true rfl) (by decide) (hz_cap0 _) ?_
  refine hz_aload_n (pc := 37) C dX11_missed_37 rfl ?_
  refine hz_iload_n (pc := 38) C dX11_missed_38 rfl ?_
  refine hz_iload_n (pc := 39) C dX11_missed_39 rfl ?_
  refine hz_aload_n (pc := 40) C dX11_missed_40 rfl ?_
  refine hz_getP (pc := 41) C (v := 147) ffX11_7 dX11_missed_41 hT146 hA146 rfl (hP146_0 q) (by decide) ?_
  refine hz_bipush (pc := 44) C (v := nI 92) dX11_missed_44 (by decide +kernel) ?_
  refine hz_iald (pc := 46) C (v := nI (u 92)) (j := 92) dX11_missed_46 hT147 hA147 rfl (by decide) (by decide) (mg (mf_lm V).1 (by omega) (by omega)) ?_
  refine hz_callVs (pc := 47) C (as := [.int (nI r), .int (nI s), .int (nI (u 92))]) (st := []) (ev_heardBy (mf_lm V) U (r := r) (by omega) (nI s) (c := u 92) (by omega)) (hz_new0 _ _) fyX11_heardBy fvX11_149 rfl dX11_missed_47 hT146 rfl rfl hA146 rfl rfl (Nat.le_of_ble_eq_true rfl) (by decide) (hz_cap0 _) ?_
  refine hz_callSs (pc := 50) C (as := [.int (nI (bsum (fun k => sin u k (nI s) && rch u r k) (u 64)))]) (st := []) (ev_bitsM _ (d := bsum (fun k => sin u k (nI s) && rch u r k) (u 64)) (by omega)) (hz_new0 _ _) fyX11_bits fsX11_188 rfl dX11_missed_50 rfl rfl (Nat.le_of_ble_eq_true rfl) (by decide) (hz_cap0 _) ?_
  refine hz_i2l (pc := 53) C dX11_missed_53 rfl ?_
  refine hz_ldc2 (pc := 54) C (v := 10) dX11_missed_54 (hz_mp 1220 (by decide +kernel)) ?_
  refine hz_iload_n (pc := 57) C dX11_missed_57 rfl ?_
  refine hz_i2l (pc := 58) C dX11_missed_58 rfl ?_
  refine hz_lsub (pc := 59) C dX11_missed_59 rfl ?_
  refine hz_lmul (pc := 60) C (v := lN (csum (bt (bsum (fun k => sin u k (nI s) && rch u r k) (u 64))) 6 * (10 - c))) dX11_missed_60 (by rw [nI_l (by omega), nI_l (by omega), show (10 : Int64) = lN 10 from rfl, lN_sub hc, lN_mul]) ?_
  refine hz_lstore (pc := 61) C (ls' := [some (.ref 146), some (.int (nI r)), some (.int (nI s)), some (.int (nI c)), some (.long (lN (csum (bt (bsum (fun k => sin u k (nI s) && rch u r k) (u 64))) 6 * (10 - c)))), none, none, none, none, none, none, none]) dX11_missed_61 (Nat.le_of_ble_eq_true rfl) rfl ?_
  refine hz_lload (pc := 63) C dX11_missed_63 rfl ?_
  refine hz_lstore (pc := 65) C (ls' := [some (.ref 146), some (.int (nI r)), some (.int (nI s)), some (.int (nI c)), some (.long (lN (csum (bt (bsum (fun k => sin u k (nI s) && rch u r k) (u 64))) 6 * (10 - c)))), none, some (.long (lN (csum (bt (bsum (fun k => sin u k (nI s) && rch u r k) (u 64))) 6 * (10 - c)))), none, none, none, none, none]) dX11_missed_65 (Nat.le_of_ble_eq_true rfl) rfl ?_
  refine hz_ldc2 (pc := 67) C (v := 10) dX11_missed_67 (hz_mp 1220 (by decide +kernel)) ?_
  refine hz_lstore (pc := 70) C (ls' := [some (.ref 146), some (.int (nI r)), some (.int (nI s)), some (.int (nI c)), some (.long (lN (csum (bt (bsum (fun k => sin u k (nI s) && rch u r k) (u 64))) 6 * (10 - c)))), none, some (.long (lN (csum (bt (bsum (fun k => sin u k (nI s) && rch u r k) (u 64))) 6 * (10 - c)))), none, some (.long (10 : Int64)), none, none, none]) dX11_missed_70 (Nat.le_of_ble_eq_true rfl) rfl ?_
  refine lp_eu C hr hs hc (g := tg (csum (bt (bsum (fun k => sin u k (nI s) && rch u r k) (u 64))) 6 * (10 - c))) (fun w10 => ?_) 10 (csum (bt (bsum (fun k => sin u k (nI s) && rch u r k) (u 64))) 6 * (10 - c)) none htn (by decide) rfl
  refine hz_aload_n (pc := 97) C dX11_missed_97 rfl ?_
  refine hz_lload (pc := 98) C dX11_missed_98 rfl ?_
  refine hz_lload (pc := 100) C dX11_missed_100 rfl ?_
  refine hz_ldiv (pc := 102) C (v := lN (csum (bt (bsum (fun k => sin u k (nI s) && rch u r k) (u 64))) 6 * (10 - c) / tg (csum (bt (bsum (fun k => sin u k (nI s) && rch u r k) (u 64))) 6 * (10 - c)))) dX11_missed_102 (fun z => Nat.ne_of_gt (tg_pos _) ((lN_eq (by have := tg_le (csum (bt (bsum (fun k => sin u k (nI s) && rch u r k) (u 64))) 6 * (10 - c)); omega) (by decide)).mp z)) (pk_lDiv (by omega) (tg_pos _) (by have := tg_le (csum (bt (bsum (fun k => sin u k (nI s) && rch u r k) (u 64))) 6 * (10 - c)); omega)) ?_
  refine hz_putL (pc := 103) C (M' := (lm u I, hz_up L 146 5 (lN (csum (bt (bsum (fun k => sin u k (nI s) && rch u r k) (u 64))) 6 * (10 - c) / tg (csum (bt (bsum (fun k => sin u k (nI s) && rch u r k) (u 64))) 6 * (10 - c)))), PP q)) ffX11_214 dX11_missed_103 hT146 hA146 rfl rfl (fun _ => ⟨rfl, rfl⟩) rfl ?_
  refine hz_aload_n (pc := 106) C dX11_missed_106 rfl ?_
  refine hz_ldc2 (pc := 107) C (v := 10) dX11_missed_107 (hz_mp 1220 (by decide +kernel)) ?_
  refine hz_lload (pc := 110) C dX11_missed_110 rfl ?_
  refine hz_ldiv (pc := 112) C (v := lN (10 / tg (csum (bt (bsum (fun k => sin u k (nI s) && rch u r k) (u 64))) 6 * (10 - c)))) dX11_missed_112 (fun z => Nat.ne_of_gt (tg_pos _) ((lN_eq (by have := tg_le (csum (bt (bsum (fun k => sin u k (nI s) && rch u r k) (u 64))) 6 * (10 - c)); omega) (by decide)).mp z)) (pk_lDiv (a := 10) (by decide) (tg_pos _) (by have := tg_le (csum (bt (bsum (fun k => sin u k (nI s) && rch u r k) (u 64))) 6 * (10 - c)); omega)) ?_
  refine hz_putL (pc := 113) C (M' := (lm u I, hz_up (hz_up L 146 5 (lN (csum (bt (bsum (fun k => sin u k (nI s) && rch u r k) (u 64))) 6 * (10 - c) / tg (csum (bt (bsum (fun k => sin u k (nI s) && rch u r k) (u 64))) 6 * (10 - c))))) 146 6 (lN (10 / tg (csum (bt (bsum (fun k => sin u k (nI s) && rch u r k) (u 64))) 6 * (10 - c)))), PP q)) ffX11_26 dX11_missed_113 hT146 hA146 rfl rfl (fun _ => ⟨rfl, rfl⟩) rfl ?_
  refine hz_iconst (pc := 116) C (v := nI 1) dX11_missed_116 (by decide +kernel) ?_
  exact hz_iret C Z rfl dX11_missed_117 rfl rfl

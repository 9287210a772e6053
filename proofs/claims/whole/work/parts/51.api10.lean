def sI (i : Nat) : Prop := i = 30 ∨ i = 32 ∨ i = 34 ∨ i = 36
theorem sI_sh {i : Nat} (h : sI i) : shps[i]? = some (.inl (2, [none, none, none, some (i + 1)])) := by
  rcases h with rfl | rfl | rfl | rfl <;> decide +kernel
theorem sI_a {i : Nat} (h : sI i) : shps[i + 1]? = some (.inr (.inl (0, 40))) := by
  rcases h with rfl | rfl | rfl | rfl <;> decide +kernel
theorem sI_r {i : Nat} (h : sI i) : rOk i RX2 := Or.inl ⟨2, _, _, sI_sh h, rfl, rfl⟩
theorem Inv_sheet {S S' : PS} (hI : InvS S) (h : ∀ j, (j < 30 ∨ 38 ≤ j) → j ≠ 63 → j ≠ 64 → j ≠ 65 → S'.1 j = S.1 j) (hn : ∀ k, k < 4 → I6 S' k) : InvS S' := by
  obtain ⟨a, ⟨b, c⟩, ⟨m, tp, f⟩, e, ⟨m2, sp, sv, f2⟩, g, i, j⟩ := hI
  have q : ∀ j, ((j < 30 ∨ 38 ≤ j) ∧ j ≠ 63 ∧ j ≠ 64 ∧ j ≠ 65) → S'.1 j = S.1 j := fun j hj => h j hj.1 hj.2.1 hj.2.2.1 hj.2.2.2
  refine ⟨I1.k (fun j hj => q j (by omega)) a, ⟨I2.k (by omega) (fun j hj => q j (by omega)) (by rw [q 22 (by omega)]) (by rw [q 62 (by omega)]) (fun k _ _ => by rw [q 55 (by omega)]) b, I2.k (by omega) (fun j hj => q j (by omega)) (by rw [q 22 (by omega)]) (by rw [q 62 (by omega)]) (fun k _ _ => by rw [q 55 (by omega)]) c⟩, ⟨m, tp, I3.k (fun j hj => q j (by omega)) (by rw [q 54 (by omega)]) f⟩, ?_, ⟨m2, sp, sv, I5.k (fun j hj => q j (by omega)) (by rw [q 54 (by omega)]) f2⟩, hn, ?_, I8.k (fun j hj => q j (by omega)) j⟩
  · rw [q 25 (by omega), q 54 (by omega)]; exact e
  · rw [q 0 (by omega), q 54 (by omega)]; exact i
theorem I6.of {S S' : PS} {k : Nat} (h0 : S'.1 (30 + 2 * k) = S.1 (30 + 2 * k)) (h1 : S'.1 (31 + 2 * k) = S.1 (31 + 2 * k)) (h2 : S'.1 63 k = S.1 63 k) (h3 : S'.1 64 k = S.1 64 k) (h4 : ∀ i, i < 40 → S'.1 65 (40 * k + i) = S.1 65 (40 * k + i)) (hi : I6 S k) : I6 S' k := by
  unfold I6 at hi ⊢
  rw [h0, h1, h2, h3]
  rcases hi with a | ⟨l, n, a, b, c, d, e, f, g, h⟩
  · exact Or.inl a
  · exact Or.inr ⟨l, n, a, b, c, d, e, f, g, fun i hi => by rw [h4 i (by omega)]; exact h i hi⟩
theorem lp_renew {sc : PSc} {i : Nat} {x1 x2 : Int32} {S0 : PS} {Q : PQ} (hi : sI i) (k : ∀ S' : PS, (∀ q, q < 40 → S'.1 (i + 1) q = nI 0) → S'.2 = S0.2 → (∀ j, j ≠ i + 1 → S'.1 j = S0.1 j) → Q none S') : ∀ (n j : Nat) (S : PS), j ≤ 40 → 40 - j < n → (∀ q, q < j → S.1 (i + 1) q = nI 0) → S.2 = S0.2 → (∀ j, j ≠ i + 1 → S.1 j = S0.1 j) → E sc mX2_renew 17 [.ref i, .int x1, .int x2, .int (nI j)] [] S Q := by
  intro n
  induction n with
  | zero => intro j S hj hn; exact absurd hn (by omega)
  | succ n ih =>
    intro j S hj hn hz h2 hf
    refine e_iload_n (pc := 17) (i := 3) dX2_renew_17 rfl rfl ?_
    refine e_bipush' (pc := 18) (nI 40) dX2_renew_18 (by decide) ?_
    refine e_icmp_ge (pc := 20) (tgt := 36) dX2_renew_20 (by decide) (fun h20 => ?_) (fun h20 => ?_)
    · replace h20 := (nI_leI (by omega) (by omega)).mp h20
      obtain rfl : j = 40 := by omega
      refine e_vret (pc := 36) (st := []) dX2_renew_36 rfl ?_
      exact k S hz h2 hf
    · replace h20 := mt (nI_leI (by omega) (by omega)).mpr h20
      refine e_aload_n (pc := 23) (i := 0) dX2_renew_23 rfl rfl ?_
      refine e_getR (pc := 24) dX2_renew_24 (fX2_9 rfl) (sI_sh hi) rfl ?_
      refine e_iload_n (pc := 27) (i := 3) dX2_renew_27 rfl rfl ?_
      refine e_iconst' (pc := 28) (nI 0) dX2_renew_28 (by decide) ?_
      refine e_iast (pc := 29) dX2_renew_29 (sI_a hi) (vp_in_nI (by omega) (by omega)) ?_
      refine e_iinc' (pc := 30) (nI (j + 1)) dX2_renew_30 rfl (by decide) rfl (nI_1 _) ?_
      refine e_goto (pc := 33) (tgt := 17) dX2_renew_33 (by decide) ?_
      rw [nI_clamp (show j < 2 ^ 31 by omega)]
      refine ih (j + 1) _ (by omega) (by omega) (fun q hq => ?_) h2 (fun m hm => ?_)
      · show up2 S.1 (i + 1) j (nI 0) (i + 1) q = _
        rw [up2_at]
        by_cases e : q = j
        · exact if_pos e
        · exact (if_neg e).trans (hz q (by omega))
      · show up2 S.1 (i + 1) j (nI 0) m = _; rw [up2_ne _ _ _ hm]; exact hf m hm
theorem sp_renew {sc : PSc} {i : Nat} {x1 x2 : Int32} {S : PS} {Q : PQ} (hi : sI i) (k : ∀ S' : PS, S'.1 i 0 = nI 1 → S'.1 i 1 = x1 → S'.1 i 2 = x2 → (∀ q, q < 40 → S'.1 (i + 1) q = nI 0) → Fr i 2 S S' → Q none S') : E sc mX2_renew 0 (pL0 mX2_renew [.ref i, .int x1, .int x2]) [] S Q := by
  show E sc mX2_renew 0 [.ref i, .int x1, .int x2, .null] [] S Q
  refine e_aload_n (pc := 0) (i := 0) dX2_renew_0 rfl rfl ?_
  refine e_iconst' (pc := 1) (nI 1) dX2_renew_1 (by decide) ?_
  refine e_putI (pc := 2) dX2_renew_2 (pX2_13 rfl) (sI_sh hi) rfl (fun _ => by decide) ?_
  refine e_aload_n (pc := 5) (i := 0) dX2_renew_5 rfl rfl ?_
  refine e_iload_n (pc := 6) (i := 1) dX2_renew_6 rfl rfl ?_
  refine e_putI (pc := 7) dX2_renew_7 (pX2_17 rfl) (sI_sh hi) rfl (fun h => by cases h) ?_
  refine e_aload_n (pc := 10) (i := 0) dX2_renew_10 rfl rfl ?_
  refine e_iload_n (pc := 11) (i := 2) dX2_renew_11 rfl rfl ?_
  refine e_putI (pc := 12) dX2_renew_12 (pX2_21 rfl) (sI_sh hi) rfl (fun h => by cases h) ?_
  refine e_iconst' (pc := 15) (nI 0) dX2_renew_15 (by decide) ?_
  refine e_istore_n (pc := 16) (i := 3) dX2_renew_16 rfl (by decide) rfl ?_
  refine lp_renew hi (fun S' a b c => ?_) 41 0 _ (by omega) (by omega) (fun q hq => by omega) rfl (fun _ _ => rfl)
  have e : S'.1 i = up2 (up2 (up2 S.1 i 0 (nI 1)) i 1 x1) i 2 x2 i := c i (by omega)
  refine k S' ?_ ?_ ?_ a ⟨b, fun j hj => ?_⟩
  · rw [e]; simp [up2]
  · rw [e]; simp [up2]
  · rw [e]; simp [up2]
  · rw [c j (by omega)]; show up2 (up2 (up2 S.1 i 0 (nI 1)) i 1 x1) i 2 x2 j = _; rw [up2_ne _ _ _ (by omega), up2_ne _ _ _ (by omega), up2_ne _ _ _ (by omega)]
/-- what the machine would find at a cell of a sheet -/
theorem sp_faultNull {sc : PSc} {i : Nat} {x1 x2 : Int32} {S : PS} {Q : PQ} (hi : sI i) (h0 : S.1 i 0 = nI 0) (k : Q (some (.int (nI 1))) S) : E sc mX2_faultAt 0 (pL0 mX2_faultAt [.ref i, .int x1, .int x2]) [] S Q := by
  show E sc mX2_faultAt 0 [.ref i, .int x1, .int x2] [] S Q
  refine e_aload_n (pc := 0) (i := 0) dX2_faultAt_0 rfl rfl ?_
  refine e_getI (pc := 1) dX2_faultAt_1 (fX2_13 rfl) (sI_sh hi) rfl ?_
  refine E.it (nI 0) h0 ?_
  refine e_if_ne (pc := 4) (tgt := 9) dX2_faultAt_4 (by decide) (fun h4 => absurd (by decide) h4) (fun h4 => ?_)
  refine e_iconst' (pc := 7) (nI 1) dX2_faultAt_7 (by decide) ?_
  refine e_iret (pc := 8) (st := []) (ty := .int) dX2_faultAt_8 rfl rfl ?_
  exact k
theorem sp_faultCast {sc : PSc} {i l : Nat} {x1 x2 : Int32} {S : PS} {Q : PQ} (hi : sI i) (h0 : S.1 i 0 = nI 1) (h1 : S.1 i 1 = nI l) (hx : ¬ x1 = nI l) (k : Q (some (.int (nI 3))) S) : E sc mX2_faultAt 0 (pL0 mX2_faultAt [.ref i, .int x1, .int x2]) [] S Q := by
  show E sc mX2_faultAt 0 [.ref i, .int x1, .int x2] [] S Q
  refine e_aload_n (pc := 0) (i := 0) dX2_faultAt_0 rfl rfl ?_
  refine e_getI (pc := 1) dX2_faultAt_1 (fX2_13 rfl) (sI_sh hi) rfl ?_
  refine E.it (nI 1) h0 ?_
  refine e_if_ne (pc := 4) (tgt := 9) dX2_faultAt_4 (by decide) (fun h4 => ?_) (fun h4 => absurd h4 (by decide))
  refine e_iload_n (pc := 9) (i := 1) dX2_faultAt_9 rfl rfl ?_
  refine e_aload_n (pc := 10) (i := 0) dX2_faultAt_10 rfl rfl ?_
  refine e_getI (pc := 11) dX2_faultAt_11 (fX2_17 rfl) (sI_sh hi) rfl ?_
  refine E.it (nI l) h1 ?_
  refine e_icmp_eq (pc := 14) (tgt := 19) dX2_faultAt_14 (by decide) (fun h14 => absurd h14 hx) (fun h14 => ?_)
  refine e_iconst' (pc := 17) (nI 3) dX2_faultAt_17 (by decide) ?_
  refine e_iret (pc := 18) (st := []) (ty := .int) dX2_faultAt_18 rfl rfl ?_
  exact k
theorem sp_faultIn {sc : PSc} {i l n b : Nat} {S : PS} {Q : PQ} (hi : sI i) (h0 : S.1 i 0 = nI 1) (h1 : S.1 i 1 = nI l) (h2 : S.1 i 2 = nI n) (hn : n ≤ 40) (hb : b < n) (k : Q (some (.int (nI 0))) S) : E sc mX2_faultAt 0 (pL0 mX2_faultAt [.ref i, .int (nI l), .int (nI b)]) [] S Q := by
  show E sc mX2_faultAt 0 [.ref i, .int (nI l), .int (nI b)] [] S Q
  refine e_aload_n (pc := 0) (i := 0) dX2_faultAt_0 rfl rfl ?_
  refine e_getI (pc := 1) dX2_faultAt_1 (fX2_13 rfl) (sI_sh hi) rfl ?_
  refine E.it (nI 1) h0 ?_
  refine e_if_ne (pc := 4) (tgt := 9) dX2_faultAt_4 (by decide) (fun h4 => ?_) (fun h4 => absurd h4 (by decide))
  refine e_iload_n (pc := 9) (i := 1) dX2_faultAt_9 rfl rfl ?_
  refine e_aload_n (pc := 10) (i := 0) dX2_faultAt_10 rfl rfl ?_
  refine e_getI (pc := 11) dX2_faultAt_11 (fX2_17 rfl) (sI_sh hi) rfl ?_
  refine E.it (nI l) h1 ?_
  refine e_icmp_eq (pc := 14) (tgt := 19) dX2_faultAt_14 (by decide) (fun h14 => ?_) (fun h14 => absurd rfl h14)
  refine e_iload_n (pc := 19) (i := 2) dX2_faultAt_19 rfl rfl ?_
  refine e_iconst' (pc := 20) (nI 0) dX2_faultAt_20 (by decide) ?_
  refine e_aload_n (pc := 21) (i := 0) dX2_faultAt_21 rfl rfl ?_
  refine e_getI (pc := 22) dX2_faultAt_22 (fX2_21 rfl) (sI_sh hi) rfl ?_
  refine E.it (nI n) h2 ?_
  refine e_iconst' (pc := 25) (nI 1) dX2_faultAt_25 (by decide) ?_
  refine e_isub (pc := 26) dX2_faultAt_26 ?_
  refine E.it (nI (n - 1)) (pk_sub (by omega)) ?_
  refine e_callS3 (pc := 27) (M' := mX5_within) dX2_faultAt_27 jX5_within lkX2_24 (by decide) (Nat.le_of_ble_eq_true rfl) (Nat.le_of_ble_eq_true rfl) ?_
  refine sp_winY (by omega) (by omega) (by omega) ?_
  refine e_if_eq (pc := 30) (tgt := 37) dX2_faultAt_30 (by decide) (fun h30 => absurd h30 (by decide)) (fun h30 => ?_)
  refine e_iconst' (pc := 33) (nI 0) dX2_faultAt_33 (by decide) ?_
  refine e_goto (pc := 34) (tgt := 38) dX2_faultAt_34 (by decide) ?_
  refine e_iret (pc := 38) (st := []) (ty := .int) dX2_faultAt_38 rfl rfl ?_
  exact k
theorem sp_faultOut {sc : PSc} {i l n : Nat} {x2 : Int32} {S : PS} {Q : PQ} (hi : sI i) (h0 : S.1 i 0 = nI 1) (h1 : S.1 i 1 = nI l) (h2 : S.1 i 2 = nI n) (hn : n ≤ 40) (hb : ¬ inw x2 n) (k : Q (some (.int (nI 2))) S) : E sc mX2_faultAt 0 (pL0 mX2_faultAt [.ref i, .int (nI l), .int x2]) [] S Q := by
  show E sc mX2_faultAt 0 [.ref i, .int (nI l), .int x2] [] S Q
  refine e_aload_n (pc := 0) (i := 0) dX2_faultAt_0 rfl rfl ?_
  refine e_getI (pc := 1) dX2_faultAt_1 (fX2_13 rfl) (sI_sh hi) rfl ?_
  refine E.it (nI 1) h0 ?_
  refine e_if_ne (pc := 4) (tgt := 9) dX2_faultAt_4 (by decide) (fun h4 => ?_) (fun h4 => absurd h4 (by decide))
  refine e_iload_n (pc := 9) (i := 1) dX2_faultAt_9 rfl rfl ?_
  refine e_aload_n (pc := 10) (i := 0) dX2_faultAt_10 rfl rfl ?_
  refine e_getI (pc := 11) dX2_faultAt_11 (fX2_17 rfl) (sI_sh hi) rfl ?_
  refine E.it (nI l) h1 ?_
  refine e_icmp_eq (pc := 14) (tgt := 19) dX2_faultAt_14 (by decide) (fun h14 => ?_) (fun h14 => absurd rfl h14)
  refine e_iload_n (pc := 19) (i := 2) dX2_faultAt_19 rfl rfl ?_
  refine e_iconst' (pc := 20) (nI 0) dX2_faultAt_20 (by decide) ?_
  refine e_aload_n (pc := 21) (i := 0) dX2_faultAt_21 rfl rfl ?_
  refine e_getI (pc := 22) dX2_faultAt_22 (fX2_21 rfl) (sI_sh hi) rfl ?_
  refine E.it (nI n) h2 ?_
  refine e_iconst' (pc := 25) (nI 1) dX2_faultAt_25 (by decide) ?_
  refine e_isub (pc := 26) dX2_faultAt_26 ?_
  refine e_callS3 (pc := 27) (M' := mX5_within) dX2_faultAt_27 jX5_within lkX2_24 (by decide) (Nat.le_of_ble_eq_true rfl) (Nat.le_of_ble_eq_true rfl) ?_
  refine sp_within _ _ _ (fun q1 q2 => (hb ?_).elim) (fun _ => ?_)
  · have e0 : ¬ x2 < 0 := fun q => absurd (nI_0 ▸ q1) (Int32.not_le.mpr q)
    obtain ⟨b, hb2, rfl⟩ := nI_of e0
    have e1 : (nI n).toInt = (n : Int) := nI_toInt (by omega)
    have e2 : (nI 1).toInt = 1 := by decide
    rw [fa_le, fb_subI (by rw [e1, e2]; omega) (by rw [e1, e2]; omega), e1, e2, nI_toInt hb2] at q2
    exact ⟨b, rfl, by omega⟩
  refine e_if_eq (pc := 30) (tgt := 37) dX2_faultAt_30 (by decide) (fun h30 => ?_) (fun h30 => absurd (by decide) h30)
  refine e_iconst' (pc := 37) (nI 2) dX2_faultAt_37 (by decide) ?_
  refine e_iret (pc := 38) (st := []) (ty := .int) dX2_faultAt_38 rfl rfl ?_
  exact k
theorem sp_put {sc : PSc} {i l b : Nat} {v : Int32} {S : PS} {Q : PQ} (hi : sI i) (h1 : S.1 i 1 = nI l) (hl : l < 3) (hb : b < 40) (k : Q none (up2 S.1 (i + 1) b (if l = 0 then v.toInt8.toInt32 else if l = 1 then v.toInt16.toInt32 else v), S.2)) : E sc mX2_put 0 (pL0 mX2_put [.ref i, .int (nI b), .int v]) [] S Q := by
  show E sc mX2_put 0 [.ref i, .int (nI b), .int v] [] S Q
  have hcl : (nI b).toNatClampNeg = b := nI_clamp (by omega)
  refine e_aload_n (pc := 0) (i := 0) dX2_put_0 rfl rfl ?_
  refine e_getI (pc := 1) dX2_put_1 (fX2_17 rfl) (sI_sh hi) rfl ?_
  refine E.it (nI l) h1 ?_
  rcases (show l = 0 ∨ l = 1 ∨ l = 2 by omega) with rfl | rfl | rfl
  · refine e_lookup (pc := 4) (tgt := 32) dX2_put_4 (by decide) (by decide) ?_
    refine e_aload_n (pc := 32) (i := 0) dX2_put_32 rfl rfl ?_
    refine e_getR (pc := 33) dX2_put_33 (fX2_9 rfl) (sI_sh hi) rfl ?_
    refine e_iload_n (pc := 36) (i := 1) dX2_put_36 rfl rfl ?_
    refine e_iload_n (pc := 37) (i := 2) dX2_put_37 rfl rfl ?_
    refine e_i2b (pc := 38) dX2_put_38 ?_
    refine e_iast (pc := 39) dX2_put_39 (sI_a hi) (vp_in_nI (by omega) (by omega)) ?_
    refine e_goto (pc := 40) (tgt := 61) dX2_put_40 (by decide) ?_
    refine e_vret (pc := 61) (st := []) dX2_put_61 rfl ?_
    rw [hcl]; exact k
  · refine e_lookup (pc := 4) (tgt := 43) dX2_put_4 (by decide) (by decide) ?_
    refine e_aload_n (pc := 43) (i := 0) dX2_put_43 rfl rfl ?_
    refine e_getR (pc := 44) dX2_put_44 (fX2_9 rfl) (sI_sh hi) rfl ?_
    refine e_iload_n (pc := 47) (i := 1) dX2_put_47 rfl rfl ?_
    refine e_iload_n (pc := 48) (i := 2) dX2_put_48 rfl rfl ?_
    refine e_i2s (pc := 49) dX2_put_49 ?_
    refine e_iast (pc := 50) dX2_put_50 (sI_a hi) (vp_in_nI (by omega) (by omega)) ?_
    refine e_goto (pc := 51) (tgt := 61) dX2_put_51 (by decide) ?_
    refine e_vret (pc := 61) (st := []) dX2_put_61 rfl ?_
    rw [hcl]; exact k
  · refine e_lookup (pc := 4) (tgt := 54) dX2_put_4 (by decide) (by decide) ?_
    refine e_aload_n (pc := 54) (i := 0) dX2_put_54 rfl rfl ?_
    refine e_getR (pc := 55) dX2_put_55 (fX2_9 rfl) (sI_sh hi) rfl ?_
    refine e_iload_n (pc := 58) (i := 1) dX2_put_58 rfl rfl ?_
    refine e_iload_n (pc := 59) (i := 2) dX2_put_59 rfl rfl ?_
    refine e_iast (pc := 60) dX2_put_60 (sI_a hi) (vp_in_nI (by omega) (by omega)) ?_
    refine e_vret (pc := 61) (st := []) dX2_put_61 rfl ?_
    rw [hcl]; exact k
def bt (x : Int32) (i : Nat) : Bool := x.toBitVec.getLsbD i
theorem b_ext {x y : Int32} (h : ∀ i, i < 32 → bt x i = bt y i) : x = y := Int32.toBitVec_inj.mp (BitVec.eq_of_getLsbD_eq (fun i hi => h i hi))
theorem s_l : ∀ n, n < 32 → ((nI n &&& 31).toBitVec.smod 32).toNat = n := by decide +kernel
theorem b_shl (n : Nat) (hn : n < 32) (x : Int32) {i : Nat} (hi : i < 32) : bt (x <<< (nI n &&& 31)) i = (decide (n ≤ i) && bt x (i - n)) := by
  unfold bt
  rw [Int32.toBitVec_shiftLeft]
  show (x.toBitVec <<< ((nI n &&& 31).toBitVec.smod 32).toNat).getLsbD i = _
  rw [s_l n hn, BitVec.getLsbD_shiftLeft]
  rcases Nat.lt_or_ge i n with h | h
  · simp [h, Nat.not_le.mpr h]
  · simp [hi, h, Nat.not_lt.mpr h]
theorem b_sshr (n : Nat) (hn : n < 32) (x : Int32) {i : Nat} (hi : i < 32) : bt (x >>> (nI n &&& 31)) i = if n + i < 32 then bt x (n + i) else bt x 31 := by
  unfold bt
  rw [Int32.toBitVec_shiftRight]
  show (x.toBitVec.sshiftRight ((nI n &&& 31).toBitVec.smod 32).toNat).getLsbD i = _
  rw [s_l n hn, BitVec.getLsbD_sshiftRight, BitVec.msb_eq_getLsbD_last]
  simp [hi]
theorem sx8 (v : Int32) {i : Nat} (hi : i < 32) : bt v.toInt8.toInt32 i = if i < 8 then bt v i else bt v 7 := by
  unfold bt
  rw [Int8.toBitVec_toInt32, Int32.toBitVec_toInt8, BitVec.getLsbD_signExtend]
  by_cases z : i < 8
  · rw [if_pos z, if_pos z, BitVec.getLsbD_signExtend, if_pos hi]
    simp [hi, z]
  · rw [if_neg z, if_neg z, BitVec.msb_eq_getLsbD_last, BitVec.getLsbD_signExtend]
    simp [hi]
theorem sx16 (v : Int32) {i : Nat} (hi : i < 32) : bt v.toInt16.toInt32 i = if i < 16 then bt v i else bt v 15 := by
  unfold bt
  rw [Int16.toBitVec_toInt32, Int32.toBitVec_toInt16, BitVec.getLsbD_signExtend]
  by_cases z : i < 16
  · rw [if_pos z, if_pos z, BitVec.getLsbD_signExtend, if_pos hi]
    simp [hi, z]
  · rw [if_neg z, if_neg z, BitVec.msb_eq_getLsbD_last, BitVec.getLsbD_signExtend]
    simp [hi]
theorem sh24 (v : Int32) : (v <<< (nI 24 &&& 31)) >>> (nI 24 &&& 31) = v.toInt8.toInt32 := b_ext (fun i hi => by
  rw [b_sshr 24 (by omega) _ hi, sx8 v hi]
  by_cases z : i < 8
  · rw [if_pos z, if_pos (by omega), b_shl 24 (by omega) _ (by omega), Nat.add_sub_cancel_left]; simp
  · rw [if_neg z, if_neg (by omega), b_shl 24 (by omega) _ (by omega)]; rfl)
theorem sh16 (v : Int32) : (v <<< (nI 16 &&& 31)) >>> (nI 16 &&& 31) = v.toInt16.toInt32 := b_ext (fun i hi => by
  rw [b_sshr 16 (by omega) _ hi, sx16 v hi]
  by_cases z : i < 16
  · rw [if_pos z, if_pos (by omega), b_shl 16 (by omega) _ (by omega), Nat.add_sub_cancel_left]; simp
  · rw [if_neg z, if_neg (by omega), b_shl 16 (by omega) _ (by omega)]; rfl)

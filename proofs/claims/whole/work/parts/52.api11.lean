theorem lm_sheet {sc : PSc} {k : Nat} {x1 x2 x3 : Int32} {S0 : PS} {Q : PQ} (hk : k < 4) (kk : ∀ S' : PS, (∀ q, q < 40 → S'.1 65 (40 * k + q) = nI 0) → (∀ q, (q < 40 * k ∨ 40 * k + 40 ≤ q) → S'.1 65 q = S0.1 65 q) → (∀ j, j ≠ 65 → S'.1 j = S0.1 j) → Q (some (.int (nI 1))) S') : ∀ (n j : Nat) (S : PS), j ≤ 40 → 40 - j < n → (∀ q, q < j → S.1 65 (40 * k + q) = nI 0) → (∀ q, (q < 40 * k ∨ 40 * k + 40 ≤ q) → S.1 65 q = S0.1 65 q) → (∀ j, j ≠ 65 → S.1 j = S0.1 j) → E sc mX6_sheet 56 [.ref 54, .int (nI k), .int x2, .int x3, .int (nI j)] [] S Q := by
  intro n
  induction n with
  | zero => intro j S hj hn; exact absurd hn (by omega)
  | succ n ih =>
    intro j S hj hn hz ho hf
    refine e_iload (pc := 56) dX6_sheet_56 rfl ?_
    refine e_bipush' (pc := 58) (nI 40) dX6_sheet_58 (by decide) ?_
    refine e_icmp_ge (pc := 60) (tgt := 82) dX6_sheet_60 (by decide) (fun h60 => ?_) (fun h60 => ?_)
    · replace h60 := (nI_leI (by omega) (by omega)).mp h60
      obtain rfl : j = 40 := by omega
      refine e_iconst' (pc := 82) (nI 1) dX6_sheet_82 (by decide) ?_
      refine e_iret (pc := 83) (st := []) (ty := .int) dX6_sheet_83 rfl rfl ?_
      exact kk S hz ho hf
    · replace h60 := mt (nI_leI (by omega) (by omega)).mpr h60
      refine e_aload_n (pc := 63) (i := 0) dX6_sheet_63 rfl rfl ?_
      refine e_getR (pc := 64) dX6_sheet_64 (fX6_41 rfl) sh_54 rfl ?_
      refine e_bipush' (pc := 67) (nI 40) dX6_sheet_67 (by decide) ?_
      refine e_iload_n (pc := 69) (i := 1) dX6_sheet_69 rfl rfl ?_
      refine e_imul (pc := 70) dX6_sheet_70 ?_
      refine E.it (nI (40 * k)) (pk_mul _ _) ?_
      refine e_iload (pc := 71) dX6_sheet_71 rfl ?_
      refine e_iadd (pc := 73) dX6_sheet_73 ?_
      refine E.it (nI (40 * k + j)) (nI_add _ _) ?_
      refine e_iconst' (pc := 74) (nI 0) dX6_sheet_74 (by decide) ?_
      refine e_iast (pc := 75) dX6_sheet_75 sh_65 (vp_in_nI (by omega) (by omega)) ?_
      refine e_iinc' (pc := 76) (nI (j + 1)) dX6_sheet_76 rfl (by decide) rfl (nI_1 _) ?_
      refine e_goto (pc := 79) (tgt := 56) dX6_sheet_79 (by decide) ?_
      rw [nI_clamp (show 40 * k + j < 2 ^ 31 by omega)]
      refine ih (j + 1) _ (by omega) (by omega) (fun q hq => ?_) (fun q hq => ?_) (fun m hm => ?_)
      · show up2 S.1 65 (40 * k + j) (nI 0) 65 (40 * k + q) = _
        rw [up2_at]
        by_cases e : q = j
        · exact if_pos (by omega)
        · exact (if_neg (by omega)).trans (hz q (by omega))
      · show up2 S.1 65 (40 * k + j) (nI 0) 65 q = _; rw [up2_at]; exact (if_neg (by omega)).trans (ho q hq)
      · show up2 S.1 65 (40 * k + j) (nI 0) m = _; rw [up2_ne _ _ _ hm]; exact hf m hm
theorem gt40 {x : Int32} (h : ¬ x ≤ nI 40) (m : Nat) (e : x = nI m) (hm : m ≤ 40) : False := h (by rw [e]; exact nI_le hm (by omega))
theorem n40 {x : Int32} (h : x ≤ nI 40) (h0 : ¬ x < 0) : ∃ m, x = nI m ∧ m ≤ 40 := by
  obtain ⟨m, hm, rfl⟩ := nI_of h0
  exact ⟨m, rfl, (nI_leI hm (by omega)).mp h⟩
theorem b_sheet {sc : PSc} {S : PS} (hI : InvS S) (x y z : Int32) : Bth sc mX5_sheet mX6_sheet [.int x, .int y, .int z] S := by
  obtain ⟨R, hv, hc, hr, hp⟩ := hI.1
  have hv5 := hv.1
  rcases Classical.em (inr x 0 3) with ⟨sk, rfl, -, hk⟩ | hn
  · rcases Classical.em (inr y 0 2) with ⟨l, rfl, -, hl⟩ | hn
    · by_cases h40 : z ≤ nI 40
      · by_cases hz0 : z < 0
        · refine ask_both (-14) hI (fun Q k => ?_) (fun S1 h1 Q k => ?_)
          · show E sc mX5_sheet 0 [.ref 0, .int (nI sk), .int (nI l), .int z] [] S Q
            refine e_iload_n (pc := 0) (i := 1) dX5_sheet_0 rfl rfl ?_
            refine e_iconst' (pc := 1) (nI 0) dX5_sheet_1 (by decide) ?_
            refine e_iconst' (pc := 2) (nI 3) dX5_sheet_2 (by decide) ?_
            refine e_callS3 (pc := 3) (M' := mX5_within) dX5_sheet_3 jX5_within lkX5_70 (by decide) (Nat.le_of_ble_eq_true rfl) (Nat.le_of_ble_eq_true rfl) ?_
            refine sp_winY (by omega) (by omega) (by omega) ?_
            refine e_if_eq (pc := 6) (tgt := 24) dX5_sheet_6 (by decide) (fun h6 => absurd h6 (by decide)) (fun h6 => ?_)
            refine e_iload_n (pc := 9) (i := 2) dX5_sheet_9 rfl rfl ?_
            refine e_iconst' (pc := 10) (nI 0) dX5_sheet_10 (by decide) ?_
            refine e_iconst' (pc := 11) (nI 2) dX5_sheet_11 (by decide) ?_
            refine e_callS3 (pc := 12) (M' := mX5_within) dX5_sheet_12 jX5_within lkX5_70 (by decide) (Nat.le_of_ble_eq_true rfl) (Nat.le_of_ble_eq_true rfl) ?_
            refine sp_winY (by omega) (by omega) (by omega) ?_
            refine e_if_eq (pc := 15) (tgt := 24) dX5_sheet_15 (by decide) (fun h15 => absurd h15 (by decide)) (fun h15 => ?_)
            refine e_iload_n (pc := 18) (i := 3) dX5_sheet_18 rfl rfl ?_
            refine e_bipush' (pc := 19) (nI 40) dX5_sheet_19 (by decide) ?_
            refine e_icmp_le (pc := 21) (tgt := 26) dX5_sheet_21 (by decide) (fun h21 => ?_) (fun h21 => absurd h40 h21)
            refine e_iload_n (pc := 26) (i := 3) dX5_sheet_26 rfl rfl ?_
            refine e_if_ge (pc := 27) (tgt := 33) dX5_sheet_27 (by decide) (fun h27 => absurd h27 (Int32.not_le.mpr hz0)) (fun h27 => ?_)
            refine e_bipush' (pc := 30) (-14) dX5_sheet_30 (by decide) ?_
            refine e_iret (pc := 32) (st := []) (ty := .int) dX5_sheet_32 rfl rfl ?_
            exact k _ Same.rf
          · show E sc mX6_sheet 0 [.ref 54, .int (nI sk), .int (nI l), .int z, .null] [] S1 Q
            have hp := h1.pg (by omega) hv hp
            have hr := h1.row (by omega) hr
            refine e_iload_n (pc := 0) (i := 1) dX6_sheet_0 rfl rfl ?_
            refine e_i2l (pc := 1) dX6_sheet_1 ?_
            refine e_lconst' (pc := 2) (lN 0) dX6_sheet_2 (by decide) ?_
            refine e_ldc2 (pc := 3) dX6_sheet_3 (klX6_148 rfl) ?_
            refine e_callS3 (pc := 6) (M' := mX6_in) dX6_sheet_6 jX6_in lkX6_46 (by decide) (Nat.le_of_ble_eq_true rfl) (Nat.le_of_ble_eq_true rfl) ?_
            refine sp_inY (lo := 0) (hi := 3) (by decide) (by decide) (by omega) (by omega) (by omega) ?_
            refine e_if_eq (pc := 9) (tgt := 30) dX6_sheet_9 (by decide) (fun h9 => absurd h9 (by decide)) (fun h9 => ?_)
            refine e_iload_n (pc := 12) (i := 2) dX6_sheet_12 rfl rfl ?_
            refine e_i2l (pc := 13) dX6_sheet_13 ?_
            refine e_lconst' (pc := 14) (lN 0) dX6_sheet_14 (by decide) ?_
            refine e_ldc2 (pc := 15) dX6_sheet_15 (klX6_150 rfl) ?_
            refine e_callS3 (pc := 18) (M' := mX6_in) dX6_sheet_18 jX6_in lkX6_46 (by decide) (Nat.le_of_ble_eq_true rfl) (Nat.le_of_ble_eq_true rfl) ?_
            refine sp_inY (lo := 0) (hi := 2) (by decide) (by decide) (by omega) (by omega) (by omega) ?_
            refine e_if_eq (pc := 21) (tgt := 30) dX6_sheet_21 (by decide) (fun h21 => absurd h21 (by decide)) (fun h21 => ?_)
            refine e_iload_n (pc := 24) (i := 3) dX6_sheet_24 rfl rfl ?_
            refine e_bipush' (pc := 25) (nI 40) dX6_sheet_25 (by decide) ?_
            refine e_icmp_le (pc := 27) (tgt := 32) dX6_sheet_27 (by decide) (fun h27 => ?_) (fun h27 => absurd h40 h27)
            refine e_iload_n (pc := 32) (i := 3) dX6_sheet_32 rfl rfl ?_
            refine e_if_ge (pc := 33) (tgt := 39) dX6_sheet_33 (by decide) (fun h33 => absurd h33 (Int32.not_le.mpr hz0)) (fun h33 => ?_)
            refine e_bipush' (pc := 36) (-14) dX6_sheet_36 (by decide) ?_
            refine e_iret (pc := 38) (st := []) (ty := .int) dX6_sheet_38 rfl rfl ?_
            exact k _ Same.rf
        · obtain ⟨m, rfl, hm⟩ := n40 h40 hz0
          rcases (show sk = 0 ∨ sk = 1 ∨ sk = 2 ∨ sk = 3 by omega) with rfl | rfl | rfl | rfl
          · show E sc mX5_sheet 0 [.ref 0, .int (nI 0), .int (nI l), .int (nI m)] [] S _
            refine e_iload_n (pc := 0) (i := 1) dX5_sheet_0 rfl rfl ?_
            refine e_iconst' (pc := 1) (nI 0) dX5_sheet_1 (by decide) ?_
            refine e_iconst' (pc := 2) (nI 3) dX5_sheet_2 (by decide) ?_
            refine e_callS3 (pc := 3) (M' := mX5_within) dX5_sheet_3 jX5_within lkX5_70 (by decide) (Nat.le_of_ble_eq_true rfl) (Nat.le_of_ble_eq_true rfl) ?_
            refine sp_winY (by omega) (by omega) (by omega) ?_
            refine e_if_eq (pc := 6) (tgt := 24) dX5_sheet_6 (by decide) (fun h6 => absurd h6 (by decide)) (fun h6 => ?_)
            refine e_iload_n (pc := 9) (i := 2) dX5_sheet_9 rfl rfl ?_
            refine e_iconst' (pc := 10) (nI 0) dX5_sheet_10 (by decide) ?_
            refine e_iconst' (pc := 11) (nI 2) dX5_sheet_11 (by decide) ?_
            refine e_callS3 (pc := 12) (M' := mX5_within) dX5_sheet_12 jX5_within lkX5_70 (by decide) (Nat.le_of_ble_eq_true rfl) (Nat.le_of_ble_eq_true rfl) ?_
            refine sp_winY (by omega) (by omega) (by omega) ?_
            refine e_if_eq (pc := 15) (tgt := 24) dX5_sheet_15 (by decide) (fun h15 => absurd h15 (by decide)) (fun h15 => ?_)
            refine e_iload_n (pc := 18) (i := 3) dX5_sheet_18 rfl rfl ?_
            refine e_bipush' (pc := 19) (nI 40) dX5_sheet_19 (by decide) ?_
            refine e_icmp_le (pc := 21) (tgt := 26) dX5_sheet_21 (by decide) (fun h21 => ?_) (fun h21 => absurd h40 h21)
            refine e_iload_n (pc := 26) (i := 3) dX5_sheet_26 rfl rfl ?_
            refine e_if_ge (pc := 27) (tgt := 33) dX5_sheet_27 (by decide) (fun h27 => ?_) (fun h27 => absurd (nI_pos' (by omega)) h27)
            refine e_aload_n (pc := 33) (i := 0) dX5_sheet_33 rfl rfl ?_
            refine e_getR (pc := 34) dX5_sheet_34 (fX5_49 rfl) sh_0 rfl ?_
            refine e_iload_n (pc := 37) (i := 1) dX5_sheet_37 rfl rfl ?_
            refine e_aald (pc := 38) (r := 30) dX5_sheet_38 sh_29 (vp_in_nI (by decide) (by decide)) (by decide) ?_
            refine e_iload_n (pc := 39) (i := 2) dX5_sheet_39 rfl rfl ?_
            refine e_iload_n (pc := 40) (i := 3) dX5_sheet_40 rfl rfl ?_
            refine e_callV2 (pc := 41) (M' := mX2_renew) dX5_sheet_41 iX2_renew lkX5_221 (by decide) (sI_r (Or.inl rfl)) (Nat.le_of_ble_eq_true rfl) (Nat.le_of_ble_eq_true rfl) ?_
            refine sp_renew (i := 30) (Or.inl rfl) (fun S1 q0 q1 q2 q3 c => ?_)
            refine e_iconst' (pc := 44) (nI 1) dX5_sheet_44 (by decide) ?_
            refine e_iret (pc := 45) (st := []) (ty := .int) dX5_sheet_45 rfl rfl ?_
            refine ⟨_, rfl, ?_⟩
            show E sc mX6_sheet 0 [.ref 54, .int (nI 0), .int (nI l), .int (nI m), .null] [] _ _
            refine e_iload_n (pc := 0) (i := 1) dX6_sheet_0 rfl rfl ?_
            refine e_i2l (pc := 1) dX6_sheet_1 ?_
            refine e_lconst' (pc := 2) (lN 0) dX6_sheet_2 (by decide) ?_
            refine e_ldc2 (pc := 3) dX6_sheet_3 (klX6_148 rfl) ?_
            refine e_callS3 (pc := 6) (M' := mX6_in) dX6_sheet_6 jX6_in lkX6_46 (by decide) (Nat.le_of_ble_eq_true rfl) (Nat.le_of_ble_eq_true rfl) ?_
            refine sp_inY (lo := 0) (hi := 3) (by decide) (by decide) (by omega) (by omega) (by omega) ?_
            refine e_if_eq (pc := 9) (tgt := 30) dX6_sheet_9 (by decide) (fun h9 => absurd h9 (by decide)) (fun h9 => ?_)
            refine e_iload_n (pc := 12) (i := 2) dX6_sheet_12 rfl rfl ?_
            refine e_i2l (pc := 13) dX6_sheet_13 ?_
            refine e_lconst' (pc := 14) (lN 0) dX6_sheet_14 (by decide) ?_
            refine e_ldc2 (pc := 15) dX6_sheet_15 (klX6_150 rfl) ?_
            refine e_callS3 (pc := 18) (M' := mX6_in) dX6_sheet_18 jX6_in lkX6_46 (by decide) (Nat.le_of_ble_eq_true rfl) (Nat.le_of_ble_eq_true rfl) ?_
            refine sp_inY (lo := 0) (hi := 2) (by decide) (by decide) (by omega) (by omega) (by omega) ?_
            refine e_if_eq (pc := 21) (tgt := 30) dX6_sheet_21 (by decide) (fun h21 => absurd h21 (by decide)) (fun h21 => ?_)
            refine e_iload_n (pc := 24) (i := 3) dX6_sheet_24 rfl rfl ?_
            refine e_bipush' (pc := 25) (nI 40) dX6_sheet_25 (by decide) ?_
            refine e_icmp_le (pc := 27) (tgt := 32) dX6_sheet_27 (by decide) (fun h27 => ?_) (fun h27 => absurd h40 h27)
            refine e_iload_n (pc := 32) (i := 3) dX6_sheet_32 rfl rfl ?_
            refine e_if_ge (pc := 33) (tgt := 39) dX6_sheet_33 (by decide) (fun h33 => ?_) (fun h33 => absurd (nI_pos' (by omega)) h33)
            refine e_aload_n (pc := 39) (i := 0) dX6_sheet_39 rfl rfl ?_
            refine e_getR (pc := 40) dX6_sheet_40 (fX6_35 rfl) sh_54 rfl ?_
            refine e_iload_n (pc := 43) (i := 1) dX6_sheet_43 rfl rfl ?_
            refine e_iload_n (pc := 44) (i := 2) dX6_sheet_44 rfl rfl ?_
            refine e_iast (pc := 45) dX6_sheet_45 sh_63 (vp_in_nI (by decide) (by decide)) ?_
            refine e_aload_n (pc := 46) (i := 0) dX6_sheet_46 rfl rfl ?_
            refine e_getR (pc := 47) dX6_sheet_47 (fX6_38 rfl) sh_54 rfl ?_
            refine e_iload_n (pc := 50) (i := 1) dX6_sheet_50 rfl rfl ?_
            refine e_iload_n (pc := 51) (i := 3) dX6_sheet_51 rfl rfl ?_
            refine e_iast (pc := 52) dX6_sheet_52 sh_64 (vp_in_nI (by decide) (by decide)) ?_
            refine e_iconst' (pc := 53) (nI 0) dX6_sheet_53 (by decide) ?_
            refine e_istore (pc := 54) dX6_sheet_54 (by decide) rfl ?_
            have hcl : (nI 0).toNatClampNeg = 0 := by decide
            rw [hcl]
            refine lm_sheet (x1 := 0) (k := 0) (by omega) (fun S2 hz ho hf => ?_) 41 0 _ (by omega) (by omega) (fun q hq => by omega) (fun _ _ => rfl) (fun _ _ => rfl)
            have hS : ∀ j, j ≠ 65 → S2.1 j = up2 (up2 S1.1 63 0 (nI l)) 64 0 (nI m) j := hf
            have hq : ∀ j, (j < 30 ∨ 32 ≤ j) → j ≠ 63 → j ≠ 64 → j ≠ 65 → S2.1 j = S.1 j := fun j h1 h2 h3 h4 => by rw [hS j h4, up2_ne _ _ _ h3, up2_ne _ _ _ h2]; exact c.2 j (by omega)
            have e63 : ∀ q, S2.1 63 q = if q = 0 then nI l else S.1 63 q := fun q => by rw [hS 63 (by omega), up2_ne _ _ _ (by decide), up2_at]; show (if q = 0 then nI l else S1.1 63 q) = _; rw [c.2 63 (by omega)]
            have e64 : ∀ q, S2.1 64 q = if q = 0 then nI m else S.1 64 q := fun q => by rw [hS 64 (by omega), up2_at]; show (if q = 0 then nI m else S1.1 64 q) = _; rw [c.2 64 (by omega)]
            have e30 : S2.1 30 = S1.1 30 := by rw [hS 30 (by omega)]; rfl
            have e31 : S2.1 31 = S1.1 31 := by rw [hS 31 (by omega)]; rfl
            refine ⟨rfl, Inv_sheet hI (fun j h1 h2 h3 h4 => hq j (by omega) h2 h3 h4) (fun q hq4 => ?_)⟩
            by_cases e : q = 0
            · subst e
              refine Or.inr ⟨l, m, by omega, hm, ?_, ?_, ?_, ?_, ?_, fun x hx => ?_⟩
              · show S2.1 30 0 = _; rw [e30]; exact q0
              · show S2.1 30 1 = _; rw [e30]; exact q1
              · show S2.1 30 2 = _; rw [e30]; exact q2
              · rw [e63]; rfl
              · rw [e64]; rfl
              · show S2.1 31 x = S2.1 65 (0 + x); rw [e31]; exact (q3 x (by omega)).trans (hz x (by omega)).symm
            · exact (hI.2.2.2.2.2.1 q hq4).of (hq _ (by omega) (by omega) (by omega) (by omega)) (hq _ (by omega) (by omega) (by omega) (by omega)) (by rw [e63, if_neg e]) (by rw [e64, if_neg e]) (fun x hx => by rw [ho _ (by omega)]; show S1.1 65 _ = _; rw [c.2 65 (by omega)])
          · show E sc mX5_sheet 0 [.ref 0, .int (nI 1), .int (nI l), .int (nI m)] [] S _
            refine e_iload_n (pc := 0) (i := 1) dX5_sheet_0 rfl rfl ?_
            refine e_iconst' (pc := 1) (nI 0) dX5_sheet_1 (by decide) ?_
            refine e_iconst' (pc := 2) (nI 3) dX5_sheet_2 (by decide) ?_
            refine e_callS3 (pc := 3) (M' := mX5_within) dX5_sheet_3 jX5_within lkX5_70 (by decide) (Nat.le_of_ble_eq_true rfl) (Nat.le_of_ble_eq_true rfl) ?_
            refine sp_winY (by omega) (by omega) (by omega) ?_
            refine e_if_eq (pc := 6) (tgt := 24) dX5_sheet_6 (by decide) (fun h6 => absurd h6 (by decide)) (fun h6 => ?_)
            refine e_iload_n (pc := 9) (i := 2) dX5_sheet_9 rfl rfl ?_
            refine e_iconst' (pc := 10) (nI 0) dX5_sheet_10 (by decide) ?_
            refine e_iconst' (pc := 11) (nI 2) dX5_sheet_11 (by decide) ?_
            refine e_callS3 (pc := 12) (M' := mX5_within) dX5_sheet_12 jX5_within lkX5_70 (by decide) (Nat.le_of_ble_eq_true rfl) (Nat.le_of_ble_eq_true rfl) ?_
            refine sp_winY (by omega) (by omega) (by omega) ?_
            refine e_if_eq (pc := 15) (tgt := 24) dX5_sheet_15 (by decide) (fun h15 => absurd h15 (by decide)) (fun h15 => ?_)
            refine e_iload_n (pc := 18) (i := 3) dX5_sheet_18 rfl rfl ?_
            refine e_bipush' (pc := 19) (nI 40) dX5_sheet_19 (by decide) ?_
            refine e_icmp_le (pc := 21) (tgt := 26) dX5_sheet_21 (by decide) (fun h21 => ?_) (fun h21 => absurd h40 h21)
            refine e_iload_n (pc := 26) (i := 3) dX5_sheet_26 rfl rfl ?_
            refine e_if_ge (pc := 27) (tgt := 33) dX5_sheet_27 (by decide) (fun h27 => ?_) (fun h27 => absurd (nI_pos' (by omega)) h27)
            refine e_aload_n (pc := 33) (i := 0) dX5_sheet_33 rfl rfl ?_
            refine e_getR (pc := 34) dX5_sheet_34 (fX5_49 rfl) sh_0 rfl ?_
            refine e_iload_n (pc := 37) (i := 1) dX5_sheet_37 rfl rfl ?_
            refine e_aald (pc := 38) (r := 32) dX5_sheet_38 sh_29 (vp_in_nI (by decide) (by decide)) (by decide) ?_
            refine e_iload_n (pc := 39) (i := 2) dX5_sheet_39 rfl rfl ?_
            refine e_iload_n (pc := 40) (i := 3) dX5_sheet_40 rfl rfl ?_
            refine e_callV2 (pc := 41) (M' := mX2_renew) dX5_sheet_41 iX2_renew lkX5_221 (by decide) (sI_r (Or.inr (Or.inl rfl))) (Nat.le_of_ble_eq_true rfl) (Nat.le_of_ble_eq_true rfl) ?_
            refine sp_renew (i := 32) (Or.inr (Or.inl rfl)) (fun S1 q0 q1 q2 q3 c => ?_)
            refine e_iconst' (pc := 44) (nI 1) dX5_sheet_44 (by decide) ?_
            refine e_iret (pc := 45) (st := []) (ty := .int) dX5_sheet_45 rfl rfl ?_
            refine ⟨_, rfl, ?_⟩
            show E sc mX6_sheet 0 [.ref 54, .int (nI 1), .int (nI l), .int (nI m), .null] [] _ _
            refine e_iload_n (pc := 0) (i := 1) dX6_sheet_0 rfl rfl ?_
            refine e_i2l (pc := 1) dX6_sheet_1 ?_
            refine e_lconst' (pc := 2) (lN 0) dX6_sheet_2 (by decide) ?_
            refine e_ldc2 (pc := 3) dX6_sheet_3 (klX6_148 rfl) ?_
            refine e_callS3 (pc := 6) (M' := mX6_in) dX6_sheet_6 jX6_in lkX6_46 (by decide) (Nat.le_of_ble_eq_true rfl) (Nat.le_of_ble_eq_true rfl) ?_
            refine sp_inY (lo := 0) (hi := 3) (by decide) (by decide) (by omega) (by omega) (by omega) ?_
            refine e_if_eq (pc := 9) (tgt := 30) dX6_sheet_9 (by decide) (fun h9 => absurd h9 (by decide)) (fun h9 => ?_)
            refine e_iload_n (pc := 12) (i := 2) dX6_sheet_12 rfl rfl ?_
            refine e_i2l (pc := 13) dX6_sheet_13 ?_
            refine e_lconst' (pc := 14) (lN 0) dX6_sheet_14 (by decide) ?_
            refine e_ldc2 (pc := 15) dX6_sheet_15 (klX6_150 rfl) ?_
            refine e_callS3 (pc := 18) (M' := mX6_in) dX6_sheet_18 jX6_in lkX6_46 (by decide) (Nat.le_of_ble_eq_true rfl) (Nat.le_of_ble_eq_true rfl) ?_
            refine sp_inY (lo := 0) (hi := 2) (by decide) (by decide) (by omega) (by omega) (by omega) ?_
            refine e_if_eq (pc := 21) (tgt := 30) dX6_sheet_21 (by decide) (fun h21 => absurd h21 (by decide)) (fun h21 => ?_)
            refine e_iload_n (pc := 24) (i := 3) dX6_sheet_24 rfl rfl ?_
            refine e_bipush' (pc := 25) (nI 40) dX6_sheet_25 (by decide) ?_
            refine e_icmp_le (pc := 27) (tgt := 32) dX6_sheet_27 (by decide) (fun h27 => ?_) (fun h27 => absurd h40 h27)
            refine e_iload_n (pc := 32) (i := 3) dX6_sheet_32 rfl rfl ?_
            refine e_if_ge (pc := 33) (tgt := 39) dX6_sheet_33 (by decide) (fun h33 => ?_) (fun h33 => absurd (nI_pos' (by omega)) h33)
            refine e_aload_n (pc := 39) (i := 0) dX6_sheet_39 rfl rfl ?_
            refine e_getR (pc := 40) dX6_sheet_40 (fX6_35 rfl) sh_54 rfl ?_
            refine e_iload_n (pc := 43) (i := 1) dX6_sheet_43 rfl rfl ?_
            refine e_iload_n (pc := 44) (i := 2) dX6_sheet_44 rfl rfl ?_
            refine e_iast (pc := 45) dX6_sheet_45 sh_63 (vp_in_nI (by decide) (by decide)) ?_
            refine e_aload_n (pc := 46) (i := 0) dX6_sheet_46 rfl rfl ?_
            refine e_getR (pc := 47) dX6_sheet_47 (fX6_38 rfl) sh_54 rfl ?_
            refine e_iload_n (pc := 50) (i := 1) dX6_sheet_50 rfl rfl ?_
            refine e_iload_n (pc := 51) (i := 3) dX6_sheet_51 rfl rfl ?_
            refine e_iast (pc := 52) dX6_sheet_52 sh_64 (vp_in_nI (by decide) (by decide)) ?_
            refine e_iconst' (pc := 53) (nI 0) dX6_sheet_53 (by decide) ?_
            refine e_istore (pc := 54) dX6_sheet_54 (by decide) rfl ?_
            have hcl : (nI 1).toNatClampNeg = 1 := by decide
            rw [hcl]
            refine lm_sheet (x1 := 0) (k := 1) (by omega) (fun S2 hz ho hf => ?_) 41 0 _ (by omega) (by omega) (fun q hq => by omega) (fun _ _ => rfl) (fun _ _ => rfl)
            have hS : ∀ j, j ≠ 65 → S2.1 j = up2 (up2 S1.1 63 1 (nI l)) 64 1 (nI m) j := hf
            have hq : ∀ j, (j < 32 ∨ 34 ≤ j) → j ≠ 63 → j ≠ 64 → j ≠ 65 → S2.1 j = S.1 j := fun j h1 h2 h3 h4 => by rw [hS j h4, up2_ne _ _ _ h3, up2_ne _ _ _ h2]; exact c.2 j (by omega)
            have e63 : ∀ q, S2.1 63 q = if q = 1 then nI l else S.1 63 q := fun q => by rw [hS 63 (by omega), up2_ne _ _ _ (by decide), up2_at]; show (if q = 1 then nI l else S1.1 63 q) = _; rw [c.2 63 (by omega)]
            have e64 : ∀ q, S2.1 64 q = if q = 1 then nI m else S.1 64 q := fun q => by rw [hS 64 (by omega), up2_at]; show (if q = 1 then nI m else S1.1 64 q) = _; rw [c.2 64 (by omega)]
            have e30 : S2.1 32 = S1.1 32 := by rw [hS 32 (by omega)]; rfl
            have e31 : S2.1 33 = S1.1 33 := by rw [hS 33 (by omega)]; rfl
            refine ⟨rfl, Inv_sheet hI (fun j h1 h2 h3 h4 => hq j (by omega) h2 h3 h4) (fun q hq4 => ?_)⟩
            by_cases e : q = 1
            · subst e
              refine Or.inr ⟨l, m, by omega, hm, ?_, ?_, ?_, ?_, ?_, fun x hx => ?_⟩
              · show S2.1 32 0 = _; rw [e30]; exact q0
              · show S2.1 32 1 = _; rw [e30]; exact q1
              · show S2.1 32 2 = _; rw [e30]; exact q2
              · rw [e63]; rfl
              · rw [e64]; rfl
              · show S2.1 33 x = S2.1 65 (40 + x); rw [e31]; exact (q3 x (by omega)).trans (hz x (by omega)).symm
            · exact (hI.2.2.2.2.2.1 q hq4).of (hq _ (by omega) (by omega) (by omega) (by omega)) (hq _ (by omega) (by omega) (by omega) (by omega)) (by rw [e63, if_neg e]) (by rw [e64, if_neg e]) (fun x hx => by rw [ho _ (by omega)]; show S1.1 65 _ = _; rw [c.2 65 (by omega)])
          · show E sc mX5_sheet 0 [.ref 0, .int (nI 2), .int (nI l), .int (nI m)] [] S _
            refine e_iload_n (pc := 0) (i := 1) dX5_sheet_0 rfl rfl ?_
            refine e_iconst' (pc := 1) (nI 0) dX5_sheet_1 (by decide) ?_
            refine e_iconst' (pc := 2) (nI 3) dX5_sheet_2 (by decide) ?_
            refine e_callS3 (pc := 3) (M' := mX5_within) dX5_sheet_3 jX5_within lkX5_70 (by decide) (Nat.le_of_ble_eq_true rfl) (Nat.le_of_ble_eq_true rfl) ?_
            refine sp_winY (by omega) (by omega) (by omega) ?_
            refine e_if_eq (pc := 6) (tgt := 24) dX5_sheet_6 (by decide) (fun h6 => absurd h6 (by decide)) (fun h6 => ?_)
            refine e_iload_n (pc := 9) (i := 2) dX5_sheet_9 rfl rfl ?_
            refine e_iconst' (pc := 10) (nI 0) dX5_sheet_10 (by decide) ?_
            refine e_iconst' (pc := 11) (nI 2) dX5_sheet_11 (by decide) ?_
            refine e_callS3 (pc := 12) (M' := mX5_within) dX5_sheet_12 jX5_within lkX5_70 (by decide) (Nat.le_of_ble_eq_true rfl) (Nat.le_of_ble_eq_true rfl) ?_
            refine sp_winY (by omega) (by omega) (by omega) ?_
            refine e_if_eq (pc := 15) (tgt := 24) dX5_sheet_15 (by decide) (fun h15 => absurd h15 (by decide)) (fun h15 => ?_)
            refine e_iload_n (pc := 18) (i := 3) dX5_sheet_18 rfl rfl ?_
            refine e_bipush' (pc := 19) (nI 40) dX5_sheet_19 (by decide) ?_
            refine e_icmp_le (pc := 21) (tgt := 26) dX5_sheet_21 (by decide) (fun h21 => ?_) (fun h21 => absurd h40 h21)
            refine e_iload_n (pc := 26) (i := 3) dX5_sheet_26 rfl rfl ?_
            refine e_if_ge (pc := 27) (tgt := 33) dX5_sheet_27 (by decide) (fun h27 => ?_) (fun h27 => absurd (nI_pos' (by omega)) h27)
            refine e_aload_n (pc := 33) (i := 0) dX5_sheet_33 rfl rfl ?_
            refine e_getR (pc := 34) dX5_sheet_34 (fX5_49 rfl) sh_0 rfl ?_
            refine e_iload_n (pc := 37) (i := 1) dX5_sheet_37 rfl rfl ?_
            refine e_aald (pc := 38) (r := 34) dX5_sheet_38 sh_29 (vp_in_nI (by decide) (by decide)) (by decide) ?_
            refine e_iload_n (pc := 39) (i := 2) dX5_sheet_39 rfl rfl ?_
            refine e_iload_n (pc := 40) (i := 3) dX5_sheet_40 rfl rfl ?_
            refine e_callV2 (pc := 41) (M' := mX2_renew) dX5_sheet_41 iX2_renew lkX5_221 (by decide) (sI_r (Or.inr (Or.inr (Or.inl rfl)))) (Nat.le_of_ble_eq_true rfl) (Nat.le_of_ble_eq_true rfl) ?_
            refine sp_renew (i := 34) (Or.inr (Or.inr (Or.inl rfl))) (fun S1 q0 q1 q2 q3 c => ?_)
            refine e_iconst' (pc := 44) (nI 1) dX5_sheet_44 (by decide) ?_
            refine e_iret (pc := 45) (st := []) (ty := .int) dX5_sheet_45 rfl rfl ?_
            refine ⟨_, rfl, ?_⟩
            show E sc mX6_sheet 0 [.ref 54, .int (nI 2), .int (nI l), .int (nI m), .null] [] _ _
            refine e_iload_n (pc := 0) (i := 1) dX6_sheet_0 rfl rfl ?_
            refine e_i2l (pc := 1) dX6_sheet_1 ?_
            refine e_lconst' (pc := 2) (lN 0) dX6_sheet_2 (by decide) ?_
            refine e_ldc2 (pc := 3) dX6_sheet_3 (klX6_148 rfl) ?_
            refine e_callS3 (pc := 6) (M' := mX6_in) dX6_sheet_6 jX6_in lkX6_46 (by decide) (Nat.le_of_ble_eq_true rfl) (Nat.le_of_ble_eq_true rfl) ?_
            refine sp_inY (lo := 0) (hi := 3) (by decide) (by decide) (by omega) (by omega) (by omega) ?_
            refine e_if_eq (pc := 9) (tgt := 30) dX6_sheet_9 (by decide) (fun h9 => absurd h9 (by decide)) (fun h9 => ?_)
            refine e_iload_n (pc := 12) (i := 2) dX6_sheet_12 rfl rfl ?_
            refine e_i2l (pc := 13) dX6_sheet_13 ?_
            refine e_lconst' (pc := 14) (lN 0) dX6_sheet_14 (by decide) ?_
            refine e_ldc2 (pc := 15) dX6_sheet_15 (klX6_150 rfl) ?_
            refine e_callS3 (pc := 18) (M' := mX6_in) dX6_sheet_18 jX6_in lkX6_46 (by decide) (Nat.le_of_ble_eq_true rfl) (Nat.le_of_ble_eq_true rfl) ?_
            refine sp_inY (lo := 0) (hi := 2) (by decide) (by decide) (by omega) (by omega) (by omega) ?_
            refine e_if_eq (pc := 21) (tgt := 30) dX6_sheet_21 (by decide) (fun h21 => absurd h21 (by decide)) (fun h21 => ?_)
            refine e_iload_n (pc := 24) (i := 3) dX6_sheet_24 rfl rfl ?_
            refine e_bipush' (pc := 25) (nI 40) dX6_sheet_25 (by decide) ?_
            refine e_icmp_le (pc := 27) (tgt := 32) dX6_sheet_27 (by decide) (fun h27 => ?_) (fun h27 => absurd h40 h27)
            refine e_iload_n (pc := 32) (i := 3) dX6_sheet_32 rfl rfl ?_
            refine e_if_ge (pc := 33) (tgt := 39) dX6_sheet_33 (by decide) (fun h33 => ?_) (fun h33 => absurd (nI_pos' (by omega)) h33)
            refine e_aload_n (pc := 39) (i := 0) dX6_sheet_39 rfl rfl ?_
            refine e_getR (pc := 40) dX6_sheet_40 (fX6_35 rfl) sh_54 rfl ?_
            refine e_iload_n (pc := 43) (i := 1) dX6_sheet_43 rfl rfl ?_
            refine e_iload_n (pc := 44) (i := 2) dX6_sheet_44 rfl rfl ?_
            refine e_iast (pc := 45) dX6_sheet_45 sh_63 (vp_in_nI (by decide) (by decide)) ?_
            refine e_aload_n (pc := 46) (i := 0) dX6_sheet_46 rfl rfl ?_
            refine e_getR (pc := 47) dX6_sheet_47 (fX6_38 rfl) sh_54 rfl ?_
            refine e_iload_n (pc := 50) (i := 1) dX6_sheet_50 rfl rfl ?_
            refine e_iload_n (pc := 51) (i := 3) dX6_sheet_51 rfl rfl ?_
            refine e_iast (pc := 52) dX6_sheet_52 sh_64 (vp_in_nI (by decide) (by decide)) ?_
            refine e_iconst' (pc := 53) (nI 0) dX6_sheet_53 (by decide) ?_
            refine e_istore (pc := 54) dX6_sheet_54 (by decide) rfl ?_
            have hcl : (nI 2).toNatClampNeg = 2 := by decide
            rw [hcl]
            refine lm_sheet (x1 := 0) (k := 2) (by omega) (fun S2 hz ho hf => ?_) 41 0 _ (by omega) (by omega) (fun q hq => by omega) (fun _ _ => rfl) (fun _ _ => rfl)
            have hS : ∀ j, j ≠ 65 → S2.1 j = up2 (up2 S1.1 63 2 (nI l)) 64 2 (nI m) j := hf
            have hq : ∀ j, (j < 34 ∨ 36 ≤ j) → j ≠ 63 → j ≠ 64 → j ≠ 65 → S2.1 j = S.1 j := fun j h1 h2 h3 h4 => by rw [hS j h4, up2_ne _ _ _ h3, up2_ne _ _ _ h2]; exact c.2 j (by omega)
            have e63 : ∀ q, S2.1 63 q = if q = 2 then nI l else S.1 63 q := fun q => by rw [hS 63 (by omega), up2_ne _ _ _ (by decide), up2_at]; show (if q = 2 then nI l else S1.1 63 q) = _; rw [c.2 63 (by omega)]
            have e64 : ∀ q, S2.1 64 q = if q = 2 then nI m else S.1 64 q := fun q => by rw [hS 64 (by omega), up2_at]; show (if q = 2 then nI m else S1.1 64 q) = _; rw [c.2 64 (by omega)]
            have e30 : S2.1 34 = S1.1 34 := by rw [hS 34 (by omega)]; rfl
            have e31 : S2.1 35 = S1.1 35 := by rw [hS 35 (by omega)]; rfl
            refine ⟨rfl, Inv_sheet hI (fun j h1 h2 h3 h4 => hq j (by omega) h2 h3 h4) (fun q hq4 => ?_)⟩
            by_cases e : q = 2
            · subst e
              refine Or.inr ⟨l, m, by omega, hm, ?_, ?_, ?_, ?_, ?_, fun x hx => ?_⟩
              · show S2.1 34 0 = _; rw [e30]; exact q0
              · show S2.1 34 1 = _; rw [e30]; exact q1
              · show S2.1 34 2 = _; rw [e30]; exact q2
              · rw [e63]; rfl
              · rw [e64]; rfl
              · show S2.1 35 x = S2.1 65 (80 + x); rw [e31]; exact (q3 x (by omega)).trans (hz x (by omega)).symm
            · exact (hI.2.2.2.2.2.1 q hq4).of (hq _ (by omega) (by omega) (by omega) (by omega)) (hq _ (by omega) (by omega) (by omega) (by omega)) (by rw [e63, if_neg e]) (by rw [e64, if_neg e]) (fun x hx => by rw [ho _ (by omega)]; show S1.1 65 _ = _; rw [c.2 65 (by omega)])
          · show E sc mX5_sheet 0 [.ref 0, .int (nI 3), .int (nI l), .int (nI m)] [] S _
            refine e_iload_n (pc := 0) (i := 1) dX5_sheet_0 rfl rfl ?_
            refine e_iconst' (pc := 1) (nI 0) dX5_sheet_1 (by decide) ?_
            refine e_iconst' (pc := 2) (nI 3) dX5_sheet_2 (by decide) ?_
            refine e_callS3 (pc := 3) (M' := mX5_within) dX5_sheet_3 jX5_within lkX5_70 (by decide) (Nat.le_of_ble_eq_true rfl) (Nat.le_of_ble_eq_true rfl) ?_
            refine sp_winY (by omega) (by omega) (by omega) ?_
            refine e_if_eq (pc := 6) (tgt := 24) dX5_sheet_6 (by decide) (fun h6 => absurd h6 (by decide)) (fun h6 => ?_)
            refine e_iload_n (pc := 9) (i := 2) dX5_sheet_9 rfl rfl ?_
            refine e_iconst' (pc := 10) (nI 0) dX5_sheet_10 (by decide) ?_
            refine e_iconst' (pc := 11) (nI 2) dX5_sheet_11 (by decide) ?_
            refine e_callS3 (pc := 12) (M' := mX5_within) dX5_sheet_12 jX5_within lkX5_70 (by decide) (Nat.le_of_ble_eq_true rfl) (Nat.le_of_ble_eq_true rfl) ?_
            refine sp_winY (by omega) (by omega) (by omega) ?_
            refine e_if_eq (pc := 15) (tgt := 24) dX5_sheet_15 (by decide) (fun h15 => absurd h15 (by decide)) (fun h15 => ?_)
            refine e_iload_n (pc := 18) (i := 3) dX5_sheet_18 rfl rfl ?_
            refine e_bipush' (pc := 19) (nI 40) dX5_sheet_19 (by decide) ?_
            refine e_icmp_le (pc := 21) (tgt := 26) dX5_sheet_21 (by decide) (fun h21 => ?_) (fun h21 => absurd h40 h21)
            refine e_iload_n (pc := 26) (i := 3) dX5_sheet_26 rfl rfl ?_
            refine e_if_ge (pc := 27) (tgt := 33) dX5_sheet_27 (by decide) (fun h27 => ?_) (fun h27 => absurd (nI_pos' (by omega)) h27)
            refine e_aload_n (pc := 33) (i := 0) dX5_sheet_33 rfl rfl ?_
            refine e_getR (pc := 34) dX5_sheet_34 (fX5_49 rfl) sh_0 rfl ?_
            refine e_iload_n (pc := 37) (i := 1) dX5_sheet_37 rfl rfl ?_
            refine e_aald (pc := 38) (r := 36) dX5_sheet_38 sh_29 (vp_in_nI (by decide) (by decide)) (by decide) ?_
            refine e_iload_n (pc := 39) (i := 2) dX5_sheet_39 rfl rfl ?_
            refine e_iload_n (pc := 40) (i := 3) dX5_sheet_40 rfl rfl ?_
            refine e_callV2 (pc := 41) (M' := mX2_renew) dX5_sheet_41 iX2_renew lkX5_221 (by decide) (sI_r (Or.inr (Or.inr (Or.inr rfl)))) (Nat.le_of_ble_eq_true rfl) (Nat.le_of_ble_eq_true rfl) ?_
            refine sp_renew (i := 36) (Or.inr (Or.inr (Or.inr rfl))) (fun S1 q0 q1 q2 q3 c => ?_)
            refine e_iconst' (pc := 44) (nI 1) dX5_sheet_44 (by decide) ?_
            refine e_iret (pc := 45) (st := []) (ty := .int) dX5_sheet_45 rfl rfl ?_
            refine ⟨_, rfl, ?_⟩
            show E sc mX6_sheet 0 [.ref 54, .int (nI 3), .int (nI l), .int (nI m), .null] [] _ _
            refine e_iload_n (pc := 0) (i := 1) dX6_sheet_0 rfl rfl ?_
            refine e_i2l (pc := 1) dX6_sheet_1 ?_
            refine e_lconst' (pc := 2) (lN 0) dX6_sheet_2 (by decide) ?_
            refine e_ldc2 (pc := 3) dX6_sheet_3 (klX6_148 rfl) ?_
            refine e_callS3 (pc := 6) (M' := mX6_in) dX6_sheet_6 jX6_in lkX6_46 (by decide) (Nat.le_of_ble_eq_true rfl) (Nat.le_of_ble_eq_true rfl) ?_
            refine sp_inY (lo := 0) (hi := 3) (by decide) (by decide) (by omega) (by omega) (by omega) ?_
            refine e_if_eq (pc := 9) (tgt := 30) dX6_sheet_9 (by decide) (fun h9 => absurd h9 (by decide)) (fun h9 => ?_)
            refine e_iload_n (pc := 12) (i := 2) dX6_sheet_12 rfl rfl ?_
            refine e_i2l (pc := 13) dX6_sheet_13 ?_
            refine e_lconst' (pc := 14) (lN 0) dX6_sheet_14 (by decide) ?_
            refine e_ldc2 (pc := 15) dX6_sheet_15 (klX6_150 rfl) ?_
            refine e_callS3 (pc := 18) (M' := mX6_in) dX6_sheet_18 jX6_in lkX6_46 (by decide) (Nat.le_of_ble_eq_true rfl) (Nat.le_of_ble_eq_true rfl) ?_
            refine sp_inY (lo := 0) (hi := 2) (by decide) (by decide) (by omega) (by omega) (by omega) ?_
            refine e_if_eq (pc := 21) (tgt := 30) dX6_sheet_21 (by decide) (fun h21 => absurd h21 (by decide)) (fun h21 => ?_)
            refine e_iload_n (pc := 24) (i := 3) dX6_sheet_24 rfl rfl ?_
            refine e_bipush' (pc := 25) (nI 40) dX6_sheet_25 (by decide) ?_
            refine e_icmp_le (pc := 27) (tgt := 32) dX6_sheet_27 (by decide) (fun h27 => ?_) (fun h27 => absurd h40 h27)
            refine e_iload_n (pc := 32) (i := 3) dX6_sheet_32 rfl rfl ?_
            refine e_if_ge (pc := 33) (tgt := 39) dX6_sheet_33 (by decide) (fun h33 => ?_) (fun h33 => absurd (nI_pos' (by omega)) h33)
            refine e_aload_n (pc := 39) (i := 0) dX6_sheet_39 rfl rfl ?_
            refine e_getR (pc := 40) dX6_sheet_40 (fX6_35 rfl) sh_54 rfl ?_
            refine e_iload_n (pc := 43) (i := 1) dX6_sheet_43 rfl rfl ?_
            refine e_iload_n (pc := 44) (i := 2) dX6_sheet_44 rfl rfl ?_
            refine e_iast (pc := 45) dX6_sheet_45 sh_63 (vp_in_nI (by decide) (by decide)) ?_
            refine e_aload_n (pc := 46) (i := 0) dX6_sheet_46 rfl rfl ?_
            refine e_getR (pc := 47) dX6_sheet_47 (fX6_38 rfl) sh_54 rfl ?_
            refine e_iload_n (pc := 50) (i := 1) dX6_sheet_50 rfl rfl ?_
            refine e_iload_n (pc := 51) (i := 3) dX6_sheet_51 rfl rfl ?_
            refine e_iast (pc := 52) dX6_sheet_52 sh_64 (vp_in_nI (by decide) (by decide)) ?_
            refine e_iconst' (pc := 53) (nI 0) dX6_sheet_53 (by decide) ?_
            refine e_istore (pc := 54) dX6_sheet_54 (by decide) rfl ?_
            have hcl : (nI 3).toNatClampNeg = 3 := by decide
            rw [hcl]
            refine lm_sheet (x1 := 0) (k := 3) (by omega) (fun S2 hz ho hf => ?_) 41 0 _ (by omega) (by omega) (fun q hq => by omega) (fun _ _ => rfl) (fun _ _ => rfl)
            have hS : ∀ j, j ≠ 65 → S2.1 j = up2 (up2 S1.1 63 3 (nI l)) 64 3 (nI m) j := hf
            have hq : ∀ j, (j < 36 ∨ 38 ≤ j) → j ≠ 63 → j ≠ 64 → j ≠ 65 → S2.1 j = S.1 j := fun j h1 h2 h3 h4 => by rw [hS j h4, up2_ne _ _ _ h3, up2_ne _ _ _ h2]; exact c.2 j (by omega)
            have e63 : ∀ q, S2.1 63 q = if q = 3 then nI l else S.1 63 q := fun q => by rw [hS 63 (by omega), up2_ne _ _ _ (by decide), up2_at]; show (if q = 3 then nI l else S1.1 63 q) = _; rw [c.2 63 (by omega)]
            have e64 : ∀ q, S2.1 64 q = if q = 3 then nI m else S.1 64 q := fun q => by rw [hS 64 (by omega), up2_at]; show (if q = 3 then nI m else S1.1 64 q) = _; rw [c.2 64 (by omega)]
            have e30 : S2.1 36 = S1.1 36 := by rw [hS 36 (by omega)]; rfl
            have e31 : S2.1 37 = S1.1 37 := by rw [hS 37 (by omega)]; rfl
            refine ⟨rfl, Inv_sheet hI (fun j h1 h2 h3 h4 => hq j (by omega) h2 h3 h4) (fun q hq4 => ?_)⟩
            by_cases e : q = 3
            · subst e
              refine Or.inr ⟨l, m, by omega, hm, ?_, ?_, ?_, ?_, ?_, fun x hx => ?_⟩
              · show S2.1 36 0 = _; rw [e30]; exact q0
              · show S2.1 36 1 = _; rw [e30]; exact q1
              · show S2.1 36 2 = _; rw [e30]; exact q2
              · rw [e63]; rfl
              · rw [e64]; rfl
              · show S2.1 37 x = S2.1 65 (120 + x); rw [e31]; exact (q3 x (by omega)).trans (hz x (by omega)).symm
            · exact (hI.2.2.2.2.2.1 q hq4).of (hq _ (by omega) (by omega) (by omega) (by omega)) (hq _ (by omega) (by omega) (by omega) (by omega)) (by rw [e63, if_neg e]) (by rw [e64, if_neg e]) (fun x hx => by rw [ho _ (by omega)]; show S1.1 65 _ = _; rw [c.2 65 (by omega)])
      · refine ask_both (-1) hI (fun Q k => ?_) (fun S1 h1 Q k => ?_)
        · show E sc mX5_sheet 0 [.ref 0, .int (nI sk), .int (nI l), .int z] [] S Q
          refine e_iload_n (pc := 0) (i := 1) dX5_sheet_0 rfl rfl ?_
          refine e_iconst' (pc := 1) (nI 0) dX5_sheet_1 (by decide) ?_
          refine e_iconst' (pc := 2) (nI 3) dX5_sheet_2 (by decide) ?_
          refine e_callS3 (pc := 3) (M' := mX5_within) dX5_sheet_3 jX5_within lkX5_70 (by decide) (Nat.le_of_ble_eq_true rfl) (Nat.le_of_ble_eq_true rfl) ?_
          refine sp_winY (by omega) (by omega) (by omega) ?_
          refine e_if_eq (pc := 6) (tgt := 24) dX5_sheet_6 (by decide) (fun h6 => absurd h6 (by decide)) (fun h6 => ?_)
          refine e_iload_n (pc := 9) (i := 2) dX5_sheet_9 rfl rfl ?_
          refine e_iconst' (pc := 10) (nI 0) dX5_sheet_10 (by decide) ?_
          refine e_iconst' (pc := 11) (nI 2) dX5_sheet_11 (by decide) ?_
          refine e_callS3 (pc := 12) (M' := mX5_within) dX5_sheet_12 jX5_within lkX5_70 (by decide) (Nat.le_of_ble_eq_true rfl) (Nat.le_of_ble_eq_true rfl) ?_
          refine sp_winY (by omega) (by omega) (by omega) ?_
          refine e_if_eq (pc := 15) (tgt := 24) dX5_sheet_15 (by decide) (fun h15 => absurd h15 (by decide)) (fun h15 => ?_)
          refine e_iload_n (pc := 18) (i := 3) dX5_sheet_18 rfl rfl ?_
          refine e_bipush' (pc := 19) (nI 40) dX5_sheet_19 (by decide) ?_
          refine e_icmp_le (pc := 21) (tgt := 26) dX5_sheet_21 (by decide) (fun h21 => absurd h21 h40) (fun h21 => ?_)
          refine e_iconst' (pc := 24) (-1) dX5_sheet_24 (by decide) ?_
          refine e_iret (pc := 25) (st := []) (ty := .int) dX5_sheet_25 rfl rfl ?_
          exact k _ Same.rf
        · show E sc mX6_sheet 0 [.ref 54, .int (nI sk), .int (nI l), .int z, .null] [] S1 Q
          have hp := h1.pg (by omega) hv hp
          have hr := h1.row (by omega) hr
          refine e_iload_n (pc := 0) (i := 1) dX6_sheet_0 rfl rfl ?_
          refine e_i2l (pc := 1) dX6_sheet_1 ?_
          refine e_lconst' (pc := 2) (lN 0) dX6_sheet_2 (by decide) ?_
          refine e_ldc2 (pc := 3) dX6_sheet_3 (klX6_148 rfl) ?_
          refine e_callS3 (pc := 6) (M' := mX6_in) dX6_sheet_6 jX6_in lkX6_46 (by decide) (Nat.le_of_ble_eq_true rfl) (Nat.le_of_ble_eq_true rfl) ?_
          refine sp_inY (lo := 0) (hi := 3) (by decide) (by decide) (by omega) (by omega) (by omega) ?_
          refine e_if_eq (pc := 9) (tgt := 30) dX6_sheet_9 (by decide) (fun h9 => absurd h9 (by decide)) (fun h9 => ?_)
          refine e_iload_n (pc := 12) (i := 2) dX6_sheet_12 rfl rfl ?_
          refine e_i2l (pc := 13) dX6_sheet_13 ?_
          refine e_lconst' (pc := 14) (lN 0) dX6_sheet_14 (by decide) ?_
          refine e_ldc2 (pc := 15) dX6_sheet_15 (klX6_150 rfl) ?_
          refine e_callS3 (pc := 18) (M' := mX6_in) dX6_sheet_18 jX6_in lkX6_46 (by decide) (Nat.le_of_ble_eq_true rfl) (Nat.le_of_ble_eq_true rfl) ?_
          refine sp_inY (lo := 0) (hi := 2) (by decide) (by decide) (by omega) (by omega) (by omega) ?_
          refine e_if_eq (pc := 21) (tgt := 30) dX6_sheet_21 (by decide) (fun h21 => absurd h21 (by decide)) (fun h21 => ?_)
          refine e_iload_n (pc := 24) (i := 3) dX6_sheet_24 rfl rfl ?_
          refine e_bipush' (pc := 25) (nI 40) dX6_sheet_25 (by decide) ?_
          refine e_icmp_le (pc := 27) (tgt := 32) dX6_sheet_27 (by decide) (fun h27 => absurd h27 h40) (fun h27 => ?_)
          refine e_iconst' (pc := 30) (-1) dX6_sheet_30 (by decide) ?_
          refine e_iret (pc := 31) (st := []) (ty := .int) dX6_sheet_31 rfl rfl ?_
          exact k _ Same.rf
    · refine ask_both (-1) hI (fun Q k => ?_) (fun S1 h1 Q k => ?_)
      · show E sc mX5_sheet 0 [.ref 0, .int (nI sk), .int y, .int z] [] S Q
        refine e_iload_n (pc := 0) (i := 1) dX5_sheet_0 rfl rfl ?_
        refine e_iconst' (pc := 1) (nI 0) dX5_sheet_1 (by decide) ?_
        refine e_iconst' (pc := 2) (nI 3) dX5_sheet_2 (by decide) ?_
        refine e_callS3 (pc := 3) (M' := mX5_within) dX5_sheet_3 jX5_within lkX5_70 (by decide) (Nat.le_of_ble_eq_true rfl) (Nat.le_of_ble_eq_true rfl) ?_
        refine sp_winY (by omega) (by omega) (by omega) ?_
        refine e_if_eq (pc := 6) (tgt := 24) dX5_sheet_6 (by decide) (fun h6 => absurd h6 (by decide)) (fun h6 => ?_)
        refine e_iload_n (pc := 9) (i := 2) dX5_sheet_9 rfl rfl ?_
        refine e_iconst' (pc := 10) (nI 0) dX5_sheet_10 (by decide) ?_
        refine e_iconst' (pc := 11) (nI 2) dX5_sheet_11 (by decide) ?_
        refine e_callS3 (pc := 12) (M' := mX5_within) dX5_sheet_12 jX5_within lkX5_70 (by decide) (Nat.le_of_ble_eq_true rfl) (Nat.le_of_ble_eq_true rfl) ?_
        refine sp_winX hn (by omega) (by omega) ?_
        refine e_if_eq (pc := 15) (tgt := 24) dX5_sheet_15 (by decide) (fun h15 => ?_) (fun h15 => absurd (by decide) h15)
        refine e_iconst' (pc := 24) (-1) dX5_sheet_24 (by decide) ?_
        refine e_iret (pc := 25) (st := []) (ty := .int) dX5_sheet_25 rfl rfl ?_
        exact k _ Same.rf
      · show E sc mX6_sheet 0 [.ref 54, .int (nI sk), .int y, .int z, .null] [] S1 Q
        have hp := h1.pg (by omega) hv hp
        have hr := h1.row (by omega) hr
        refine e_iload_n (pc := 0) (i := 1) dX6_sheet_0 rfl rfl ?_
        refine e_i2l (pc := 1) dX6_sheet_1 ?_
        refine e_lconst' (pc := 2) (lN 0) dX6_sheet_2 (by decide) ?_
        refine e_ldc2 (pc := 3) dX6_sheet_3 (klX6_148 rfl) ?_
        refine e_callS3 (pc := 6) (M' := mX6_in) dX6_sheet_6 jX6_in lkX6_46 (by decide) (Nat.le_of_ble_eq_true rfl) (Nat.le_of_ble_eq_true rfl) ?_
        refine sp_inY (lo := 0) (hi := 3) (by decide) (by decide) (by omega) (by omega) (by omega) ?_
        refine e_if_eq (pc := 9) (tgt := 30) dX6_sheet_9 (by decide) (fun h9 => absurd h9 (by decide)) (fun h9 => ?_)
        refine e_iload_n (pc := 12) (i := 2) dX6_sheet_12 rfl rfl ?_
        refine e_i2l (pc := 13) dX6_sheet_13 ?_
        refine e_lconst' (pc := 14) (lN 0) dX6_sheet_14 (by decide) ?_
        refine e_ldc2 (pc := 15) dX6_sheet_15 (klX6_150 rfl) ?_
        refine e_callS3 (pc := 18) (M' := mX6_in) dX6_sheet_18 jX6_in lkX6_46 (by decide) (Nat.le_of_ble_eq_true rfl) (Nat.le_of_ble_eq_true rfl) ?_
        refine sp_inX (lo := 0) (hi := 2) (by decide) (by decide) hn ?_
        refine e_if_eq (pc := 21) (tgt := 30) dX6_sheet_21 (by decide) (fun h21 => ?_) (fun h21 => absurd (by decide) h21)
        refine e_iconst' (pc := 30) (-1) dX6_sheet_30 (by decide) ?_
        refine e_iret (pc := 31) (st := []) (ty := .int) dX6_sheet_31 rfl rfl ?_
        exact k _ Same.rf
  · refine ask_both (-1) hI (fun Q k => ?_) (fun S1 h1 Q k => ?_)
    · show E sc mX5_sheet 0 [.ref 0, .int x, .int y, .int z] [] S Q
      refine e_iload_n (pc := 0) (i := 1) dX5_sheet_0 rfl rfl ?_
      refine e_iconst' (pc := 1) (nI 0) dX5_sheet_1 (by decide) ?_
      refine e_iconst' (pc := 2) (nI 3) dX5_sheet_2 (by decide) ?_
      refine e_callS3 (pc := 3) (M' := mX5_within) dX5_sheet_3 jX5_within lkX5_70 (by decide) (Nat.le_of_ble_eq_true rfl) (Nat.le_of_ble_eq_true rfl) ?_
      refine sp_winX hn (by omega) (by omega) ?_
      refine e_if_eq (pc := 6) (tgt := 24) dX5_sheet_6 (by decide) (fun h6 => ?_) (fun h6 => absurd (by decide) h6)
      refine e_iconst' (pc := 24) (-1) dX5_sheet_24 (by decide) ?_
      refine e_iret (pc := 25) (st := []) (ty := .int) dX5_sheet_25 rfl rfl ?_
      exact k _ Same.rf
    · show E sc mX6_sheet 0 [.ref 54, .int x, .int y, .int z, .null] [] S1 Q
      have hp := h1.pg (by omega) hv hp
      have hr := h1.row (by omega) hr
      refine e_iload_n (pc := 0) (i := 1) dX6_sheet_0 rfl rfl ?_
      refine e_i2l (pc := 1) dX6_sheet_1 ?_
      refine e_lconst' (pc := 2) (lN 0) dX6_sheet_2 (by decide) ?_
      refine e_ldc2 (pc := 3) dX6_sheet_3 (klX6_148 rfl) ?_
      refine e_callS3 (pc := 6) (M' := mX6_in) dX6_sheet_6 jX6_in lkX6_46 (by decide) (Nat.le_of_ble_eq_true rfl) (Nat.le_of_ble_eq_true rfl) ?_
      refine sp_inX (lo := 0) (hi := 3) (by decide) (by decide) hn ?_
      refine e_if_eq (pc := 9) (tgt := 30) dX6_sheet_9 (by decide) (fun h9 => ?_) (fun h9 => absurd (by decide) h9)
      refine e_iconst' (pc := 30) (-1) dX6_sheet_30 (by decide) ?_
      refine e_iret (pc := 31) (st := []) (ty := .int) dX6_sheet_31 rfl rfl ?_
      exact k _ Same.rf
theorem b_lay {sc : PSc} {S : PS} (hI : InvS S) (x y z : Int32) : Bth sc mX5_lay mX6_lay [.int x, .int y, .int z] S := by
  obtain ⟨R, hv, hc, hr, hp⟩ := hI.1
  have hv5 := hv.1
  rcases Classical.em (inr x 0 3) with ⟨sk, rfl, -, hk⟩ | hn
  · rcases (show sk = 0 ∨ sk = 1 ∨ sk = 2 ∨ sk = 3 by omega) with rfl | rfl | rfl | rfl
    · rcases hI.2.2.2.2.2.1 0 (by omega) with ⟨e0, f0⟩ | ⟨l, m, hl, hm, e0, e1, e2, f0, f1, ec⟩
      · refine ask_both (-11) hI (fun Q k => ?_) (fun S1 h1 Q k => ?_)
        · show E sc mX5_lay 0 [.ref 0, .int (nI 0), .int y, .int z, .null] [] S Q
          refine e_iload_n (pc := 0) (i := 1) dX5_lay_0 rfl rfl ?_
          refine e_iconst' (pc := 1) (nI 0) dX5_lay_1 (by decide) ?_
          refine e_iconst' (pc := 2) (nI 3) dX5_lay_2 (by decide) ?_
          refine e_callS3 (pc := 3) (M' := mX5_within) dX5_lay_3 jX5_within lkX5_70 (by decide) (Nat.le_of_ble_eq_true rfl) (Nat.le_of_ble_eq_true rfl) ?_
          refine sp_winY (by omega) (by omega) (by omega) ?_
          refine e_if_ne (pc := 6) (tgt := 11) dX5_lay_6 (by decide) (fun h6 => ?_) (fun h6 => absurd h6 (by decide))
          refine e_aload_n (pc := 11) (i := 0) dX5_lay_11 rfl rfl ?_
          refine e_getR (pc := 12) dX5_lay_12 (fX5_49 rfl) sh_0 rfl ?_
          refine e_iload_n (pc := 15) (i := 1) dX5_lay_15 rfl rfl ?_
          refine e_aald (pc := 16) (r := 30) dX5_lay_16 sh_29 (vp_in_nI (by decide) (by decide)) (by decide) ?_
          refine e_aload_n (pc := 17) (i := 0) dX5_lay_17 rfl rfl ?_
          refine e_getR (pc := 18) dX5_lay_18 (fX5_49 rfl) sh_0 rfl ?_
          refine e_iload_n (pc := 21) (i := 1) dX5_lay_21 rfl rfl ?_
          refine e_aald (pc := 22) (r := 30) dX5_lay_22 sh_29 (vp_in_nI (by decide) (by decide)) (by decide) ?_
          refine e_getI (pc := 23) dX5_lay_23 (fX5_224 rfl) (sI_sh (Or.inl rfl)) rfl ?_
          refine e_iload_n (pc := 26) (i := 2) dX5_lay_26 rfl rfl ?_
          refine e_callV2 (pc := 27) (M' := mX2_faultAt) dX5_lay_27 iX2_faultAt lkX5_227 (by decide) (sI_r (Or.inl rfl)) (Nat.le_of_ble_eq_true rfl) (Nat.le_of_ble_eq_true rfl) ?_
          refine sp_faultNull (i := 30) (Or.inl rfl) e0 ?_
          refine e_istore (pc := 30) dX5_lay_30 (by decide) rfl ?_
          refine e_iload (pc := 32) dX5_lay_32 rfl ?_
          refine e_if_eq (pc := 34) (tgt := 43) dX5_lay_34 (by decide) (fun h34 => absurd h34 (by decide)) (fun h34 => ?_)
          refine e_bipush' (pc := 37) (-10) dX5_lay_37 (by decide) ?_
          refine e_iload (pc := 39) dX5_lay_39 rfl ?_
          refine e_isub (pc := 41) dX5_lay_41 ?_
          refine E.it (-11) (by decide) ?_
          refine e_iret (pc := 42) (st := []) (ty := .int) dX5_lay_42 rfl rfl ?_
          exact k _ Same.rf
        · show E sc mX6_lay 0 [.ref 54, .int (nI 0), .int y, .int z] [] S1 Q
          have hp := h1.pg (by omega) hv hp
          have hr := h1.row (by omega) hr
          refine e_iload_n (pc := 0) (i := 1) dX6_lay_0 rfl rfl ?_
          refine e_i2l (pc := 1) dX6_lay_1 ?_
          refine e_lconst' (pc := 2) (lN 0) dX6_lay_2 (by decide) ?_
          refine e_ldc2 (pc := 3) dX6_lay_3 (klX6_148 rfl) ?_
          refine e_callS3 (pc := 6) (M' := mX6_in) dX6_lay_6 jX6_in lkX6_46 (by decide) (Nat.le_of_ble_eq_true rfl) (Nat.le_of_ble_eq_true rfl) ?_
          refine sp_inY (lo := 0) (hi := 3) (by decide) (by decide) (by omega) (by omega) (by omega) ?_
          refine e_if_ne (pc := 9) (tgt := 14) dX6_lay_9 (by decide) (fun h9 => ?_) (fun h9 => absurd h9 (by decide))
          refine e_aload_n (pc := 14) (i := 0) dX6_lay_14 rfl rfl ?_
          refine e_getR (pc := 15) dX6_lay_15 (fX6_35 rfl) sh_54 rfl ?_
          refine e_iload_n (pc := 18) (i := 1) dX6_lay_18 rfl rfl ?_
          refine e_iald (pc := 19) dX6_lay_19 sh_63 (vp_in_nI (by decide) (by decide)) ?_
          refine E.it (-4) (by show S1.1 63 0 = _; rw [h1.2.2.2 63 (by omega)]; exact f0) ?_
          refine e_bipush' (pc := 20) (-4) dX6_lay_20 (by decide) ?_
          refine e_icmp_ne (pc := 22) (tgt := 28) dX6_lay_22 (by decide) (fun h22 => absurd rfl h22) (fun h22 => ?_)
          refine e_bipush' (pc := 25) (-11) dX6_lay_25 (by decide) ?_
          refine e_iret (pc := 27) (st := []) (ty := .int) dX6_lay_27 rfl rfl ?_
          exact k _ Same.rf
      · rcases Classical.em (inw y m) with ⟨b, rfl, hb⟩ | hn
        · rcases (show l = 0 ∨ l = 1 ∨ l = 2 by omega) with rfl | rfl | rfl
          · show E sc mX5_lay 0 [.ref 0, .int (nI 0), .int (nI b), .int z, .null] [] S _
            refine e_iload_n (pc := 0) (i := 1) dX5_lay_0 rfl rfl ?_
            refine e_iconst' (pc := 1) (nI 0) dX5_lay_1 (by decide) ?_
            refine e_iconst' (pc := 2) (nI 3) dX5_lay_2 (by decide) ?_
            refine e_callS3 (pc := 3) (M' := mX5_within) dX5_lay_3 jX5_within lkX5_70 (by decide) (Nat.le_of_ble_eq_true rfl) (Nat.le_of_ble_eq_true rfl) ?_
            refine sp_winY (by omega) (by omega) (by omega) ?_
            refine e_if_ne (pc := 6) (tgt := 11) dX5_lay_6 (by decide) (fun h6 => ?_) (fun h6 => absurd h6 (by decide))
            refine e_aload_n (pc := 11) (i := 0) dX5_lay_11 rfl rfl ?_
            refine e_getR (pc := 12) dX5_lay_12 (fX5_49 rfl) sh_0 rfl ?_
            refine e_iload_n (pc := 15) (i := 1) dX5_lay_15 rfl rfl ?_
            refine e_aald (pc := 16) (r := 30) dX5_lay_16 sh_29 (vp_in_nI (by decide) (by decide)) (by decide) ?_
            refine e_aload_n (pc := 17) (i := 0) dX5_lay_17 rfl rfl ?_
            refine e_getR (pc := 18) dX5_lay_18 (fX5_49 rfl) sh_0 rfl ?_
            refine e_iload_n (pc := 21) (i := 1) dX5_lay_21 rfl rfl ?_
            refine e_aald (pc := 22) (r := 30) dX5_lay_22 sh_29 (vp_in_nI (by decide) (by decide)) (by decide) ?_
            refine e_getI (pc := 23) dX5_lay_23 (fX5_224 rfl) (sI_sh (Or.inl rfl)) rfl ?_
            refine E.it (nI 0) e1 ?_
            refine e_iload_n (pc := 26) (i := 2) dX5_lay_26 rfl rfl ?_
            refine e_callV2 (pc := 27) (M' := mX2_faultAt) dX5_lay_27 iX2_faultAt lkX5_227 (by decide) (sI_r (Or.inl rfl)) (Nat.le_of_ble_eq_true rfl) (Nat.le_of_ble_eq_true rfl) ?_
            refine sp_faultIn (i := 30) (Or.inl rfl) e0 e1 e2 hm hb ?_
            refine e_istore (pc := 30) dX5_lay_30 (by decide) rfl ?_
            refine e_iload (pc := 32) dX5_lay_32 rfl ?_
            refine e_if_eq (pc := 34) (tgt := 43) dX5_lay_34 (by decide) (fun h34 => ?_) (fun h34 => absurd (by decide) h34)
            refine e_aload_n (pc := 43) (i := 0) dX5_lay_43 rfl rfl ?_
            refine e_getR (pc := 44) dX5_lay_44 (fX5_49 rfl) sh_0 rfl ?_
            refine e_iload_n (pc := 47) (i := 1) dX5_lay_47 rfl rfl ?_
            refine e_aald (pc := 48) (r := 30) dX5_lay_48 sh_29 (vp_in_nI (by decide) (by decide)) (by decide) ?_
            refine e_iload_n (pc := 49) (i := 2) dX5_lay_49 rfl rfl ?_
            refine e_iload_n (pc := 50) (i := 3) dX5_lay_50 rfl rfl ?_
            refine e_callV2 (pc := 51) (M' := mX2_put) dX5_lay_51 iX2_put lkX5_230 (by decide) (sI_r (Or.inl rfl)) (Nat.le_of_ble_eq_true rfl) (Nat.le_of_ble_eq_true rfl) ?_
            refine sp_put (i := 30) (Or.inl rfl) e1 (by omega) (by omega) ?_
            refine e_iconst' (pc := 54) (nI 1) dX5_lay_54 (by decide) ?_
            refine e_iret (pc := 55) (st := []) (ty := .int) dX5_lay_55 rfl rfl ?_
            refine ⟨_, rfl, ?_⟩
            show E sc mX6_lay 0 [.ref 54, .int (nI 0), .int (nI b), .int z] [] _ _
            refine e_iload_n (pc := 0) (i := 1) dX6_lay_0 rfl rfl ?_
            refine e_i2l (pc := 1) dX6_lay_1 ?_
            refine e_lconst' (pc := 2) (lN 0) dX6_lay_2 (by decide) ?_
            refine e_ldc2 (pc := 3) dX6_lay_3 (klX6_148 rfl) ?_
            refine e_callS3 (pc := 6) (M' := mX6_in) dX6_lay_6 jX6_in lkX6_46 (by decide) (Nat.le_of_ble_eq_true rfl) (Nat.le_of_ble_eq_true rfl) ?_
            refine sp_inY (lo := 0) (hi := 3) (by decide) (by decide) (by omega) (by omega) (by omega) ?_
            refine e_if_ne (pc := 9) (tgt := 14) dX6_lay_9 (by decide) (fun h9 => ?_) (fun h9 => absurd h9 (by decide))
            refine e_aload_n (pc := 14) (i := 0) dX6_lay_14 rfl rfl ?_
            refine e_getR (pc := 15) dX6_lay_15 (fX6_35 rfl) sh_54 rfl ?_
            refine e_iload_n (pc := 18) (i := 1) dX6_lay_18 rfl rfl ?_
            refine e_iald (pc := 19) dX6_lay_19 sh_63 (vp_in_nI (by decide) (by decide)) ?_
            refine E.it (nI 0) f0 ?_
            refine e_bipush' (pc := 20) (-4) dX6_lay_20 (by decide) ?_
            refine e_icmp_ne (pc := 22) (tgt := 28) dX6_lay_22 (by decide) (fun h22 => ?_) (fun h22 => absurd h22 (by decide))
            refine e_iload_n (pc := 28) (i := 2) dX6_lay_28 rfl rfl ?_
            refine e_i2l (pc := 29) dX6_lay_29 ?_
            refine e_lconst' (pc := 30) (lN 0) dX6_lay_30 (by decide) ?_
            refine e_aload_n (pc := 31) (i := 0) dX6_lay_31 rfl rfl ?_
            refine e_getR (pc := 32) dX6_lay_32 (fX6_38 rfl) sh_54 rfl ?_
            refine e_iload_n (pc := 35) (i := 1) dX6_lay_35 rfl rfl ?_
            refine e_iald (pc := 36) dX6_lay_36 sh_64 (vp_in_nI (by decide) (by decide)) ?_
            refine E.it (nI m) f1 ?_
            refine e_iconst' (pc := 37) (nI 1) dX6_lay_37 (by decide) ?_
            refine e_isub (pc := 38) dX6_lay_38 ?_
            refine e_i2l (pc := 39) dX6_lay_39 ?_
            refine e_callS3 (pc := 40) (M' := mX6_in) dX6_lay_40 jX6_in lkX6_46 (by decide) (Nat.le_of_ble_eq_true rfl) (Nat.le_of_ble_eq_true rfl) ?_
            refine sp_inI (lo := 0) (hi := (m : Int) - 1) (by decide) (by rw [Int32.toInt_toInt64, pk_sub_toInt (by omega) (by decide)]; rfl) (fun _ _ _ _ _ => ?_) (fun h => (h b (by omega) rfl (by omega) (by omega)).elim)
            refine e_if_ne (pc := 43) (tgt := 49) dX6_lay_43 (by decide) (fun h43 => ?_) (fun h43 => absurd h43 (by decide))
            refine e_aload_n (pc := 49) (i := 0) dX6_lay_49 rfl rfl ?_
            refine e_getR (pc := 50) dX6_lay_50 (fX6_41 rfl) sh_54 rfl ?_
            refine e_bipush' (pc := 53) (nI 40) dX6_lay_53 (by decide) ?_
            refine e_iload_n (pc := 55) (i := 1) dX6_lay_55 rfl rfl ?_
            refine e_imul (pc := 56) dX6_lay_56 ?_
            refine E.it (nI 0) (pk_mul _ _) ?_
            refine e_iload_n (pc := 57) (i := 2) dX6_lay_57 rfl rfl ?_
            refine e_iadd (pc := 58) dX6_lay_58 ?_
            refine E.it (nI (0 + b)) (nI_add _ _) ?_
            refine e_aload_n (pc := 59) (i := 0) dX6_lay_59 rfl rfl ?_
            refine e_getR (pc := 60) dX6_lay_60 (fX6_35 rfl) sh_54 rfl ?_
            refine e_iload_n (pc := 63) (i := 1) dX6_lay_63 rfl rfl ?_
            refine e_iald (pc := 64) dX6_lay_64 sh_63 (vp_in_nI (by decide) (by decide)) ?_
            refine E.it (nI 0) f0 ?_
            refine e_if_ne (pc := 65) (tgt := 78) dX6_lay_65 (by decide) (fun h65 => absurd (by decide) h65) (fun h65 => ?_)
            refine e_iload_n (pc := 68) (i := 3) dX6_lay_68 rfl rfl ?_
            refine e_bipush' (pc := 69) (nI 24) dX6_lay_69 (by decide) ?_
            refine e_ishl (pc := 71) dX6_lay_71 ?_
            refine e_bipush' (pc := 72) (nI 24) dX6_lay_72 (by decide) ?_
            refine e_ishr (pc := 74) dX6_lay_74 ?_
            refine E.it (z.toInt8.toInt32) (sh24 z) ?_
            refine e_goto (pc := 75) (tgt := 99) dX6_lay_75 (by decide) ?_
            refine e_iast (pc := 99) dX6_lay_99 sh_65 (vp_in_nI (by omega) (by omega)) ?_
            refine e_iconst' (pc := 100) (nI 1) dX6_lay_100 (by decide) ?_
            refine e_iret (pc := 101) (st := []) (ty := .int) dX6_lay_101 rfl rfl ?_
            rw [nI_clamp (show 0 + b < 2 ^ 31 by omega)]
            refine ⟨rfl, Inv_sheet hI (fun j h1 h2 h3 h4 => ?_) (fun q hq4 => ?_)⟩
            · show up2 (up2 S.1 31 b z.toInt8.toInt32) 65 (0 + b) _ j = _; rw [up2_ne _ _ _ h4, up2_ne _ _ _ (by omega)]
            · by_cases e : q = 0
              · subst e
                refine Or.inr ⟨0, m, hl, hm, e0, e1, e2, f0, f1, fun x hx => ?_⟩
                have g1 : up2 (up2 S.1 31 b z.toInt8.toInt32) 65 (0 + b) z.toInt8.toInt32 31 x = if x = b then z.toInt8.toInt32 else S.1 31 x := by rw [up2_ne _ _ _ (by decide), up2_at]
                have g2 : up2 (up2 S.1 31 b z.toInt8.toInt32) 65 (0 + b) z.toInt8.toInt32 65 (0 + x) = if 0 + x = 0 + b then z.toInt8.toInt32 else S.1 65 (0 + x) := by rw [up2_at]; rfl
                refine Eq.trans g1 (Eq.trans ?_ g2.symm)
                by_cases ex : x = b
                · rw [if_pos ex, if_pos (by omega)]
                · rw [if_neg ex, if_neg (by omega)]; exact ec x hx
              · refine I6.of (S := S) ?_ ?_ rfl rfl (fun x hx => ?_) (hI.2.2.2.2.2.1 q hq4)
                · show up2 (up2 S.1 31 b z.toInt8.toInt32) 65 (0 + b) z.toInt8.toInt32 (30 + 2 * q) = _; rw [up2_ne _ _ _ (by omega), up2_ne _ _ _ (by omega)]
                · show up2 (up2 S.1 31 b z.toInt8.toInt32) 65 (0 + b) z.toInt8.toInt32 (31 + 2 * q) = _; rw [up2_ne _ _ _ (by omega), up2_ne _ _ _ (by omega)]
                · show up2 (up2 S.1 31 b z.toInt8.toInt32) 65 (0 + b) z.toInt8.toInt32 65 (40 * q + x) = _; rw [up2_at]; exact (if_neg (by omega)).trans rfl
          · show E sc mX5_lay 0 [.ref 0, .int (nI 0), .int (nI b), .int z, .null] [] S _
            refine e_iload_n (pc := 0) (i := 1) dX5_lay_0 rfl rfl ?_
            refine e_iconst' (pc := 1) (nI 0) dX5_lay_1 (by decide) ?_
            refine e_iconst' (pc := 2) (nI 3) dX5_lay_2 (by decide) ?_
            refine e_callS3 (pc := 3) (M' := mX5_within) dX5_lay_3 jX5_within lkX5_70 (by decide) (Nat.le_of_ble_eq_true rfl) (Nat.le_of_ble_eq_true rfl) ?_
            refine sp_winY (by omega) (by omega) (by omega) ?_
            refine e_if_ne (pc := 6) (tgt := 11) dX5_lay_6 (by decide) (fun h6 => ?_) (fun h6 => absurd h6 (by decide))
            refine e_aload_n (pc := 11) (i := 0) dX5_lay_11 rfl rfl ?_
            refine e_getR (pc := 12) dX5_lay_12 (fX5_49 rfl) sh_0 rfl ?_
            refine e_iload_n (pc := 15) (i := 1) dX5_lay_15 rfl rfl ?_
            refine e_aald (pc := 16) (r := 30) dX5_lay_16 sh_29 (vp_in_nI (by decide) (by decide)) (by decide) ?_
            refine e_aload_n (pc := 17) (i := 0) dX5_lay_17 rfl rfl ?_
            refine e_getR (pc := 18) dX5_lay_18 (fX5_49 rfl) sh_0 rfl ?_
            refine e_iload_n (pc := 21) (i := 1) dX5_lay_21 rfl rfl ?_
            refine e_aald (pc := 22) (r := 30) dX5_lay_22 sh_29 (vp_in_nI (by decide) (by decide)) (by decide) ?_
            refine e_getI (pc := 23) dX5_lay_23 (fX5_224 rfl) (sI_sh (Or.inl rfl)) rfl ?_
            refine E.it (nI 1) e1 ?_
            refine e_iload_n (pc := 26) (i := 2) dX5_lay_26 rfl rfl ?_
            refine e_callV2 (pc := 27) (M' := mX2_faultAt) dX5_lay_27 iX2_faultAt lkX5_227 (by decide) (sI_r (Or.inl rfl)) (Nat.le_of_ble_eq_true rfl) (Nat.le_of_ble_eq_true rfl) ?_
            refine sp_faultIn (i := 30) (Or.inl rfl) e0 e1 e2 hm hb ?_
            refine e_istore (pc := 30) dX5_lay_30 (by decide) rfl ?_
            refine e_iload (pc := 32) dX5_lay_32 rfl ?_
            refine e_if_eq (pc := 34) (tgt := 43) dX5_lay_34 (by decide) (fun h34 => ?_) (fun h34 => absurd (by decide) h34)
            refine e_aload_n (pc := 43) (i := 0) dX5_lay_43 rfl rfl ?_
            refine e_getR (pc := 44) dX5_lay_44 (fX5_49 rfl) sh_0 rfl ?_
            refine e_iload_n (pc := 47) (i := 1) dX5_lay_47 rfl rfl ?_
            refine e_aald (pc := 48) (r := 30) dX5_lay_48 sh_29 (vp_in_nI (by decide) (by decide)) (by decide) ?_
            refine e_iload_n (pc := 49) (i := 2) dX5_lay_49 rfl rfl ?_
            refine e_iload_n (pc := 50) (i := 3) dX5_lay_50 rfl rfl ?_
            refine e_callV2 (pc := 51) (M' := mX2_put) dX5_lay_51 iX2_put lkX5_230 (by decide) (sI_r (Or.inl rfl)) (Nat.le_of_ble_eq_true rfl) (Nat.le_of_ble_eq_true rfl) ?_
            refine sp_put (i := 30) (Or.inl rfl) e1 (by omega) (by omega) ?_
            refine e_iconst' (pc := 54) (nI 1) dX5_lay_54 (by decide) ?_
            refine e_iret (pc := 55) (st := []) (ty := .int) dX5_lay_55 rfl rfl ?_
            refine ⟨_, rfl, ?_⟩
            show E sc mX6_lay 0 [.ref 54, .int (nI 0), .int (nI b), .int z] [] _ _
            refine e_iload_n (pc := 0) (i := 1) dX6_lay_0 rfl rfl ?_
            refine e_i2l (pc := 1) dX6_lay_1 ?_
            refine e_lconst' (pc := 2) (lN 0) dX6_lay_2 (by decide) ?_
            refine e_ldc2 (pc := 3) dX6_lay_3 (klX6_148 rfl) ?_
            refine e_callS3 (pc := 6) (M' := mX6_in) dX6_lay_6 jX6_in lkX6_46 (by decide) (Nat.le_of_ble_eq_true rfl) (Nat.le_of_ble_eq_true rfl) ?_
            refine sp_inY (lo := 0) (hi := 3) (by decide) (by decide) (by omega) (by omega) (by omega) ?_
            refine e_if_ne (pc := 9) (tgt := 14) dX6_lay_9 (by decide) (fun h9 => ?_) (fun h9 => absurd h9 (by decide))
            refine e_aload_n (pc := 14) (i := 0) dX6_lay_14 rfl rfl ?_
            refine e_getR (pc := 15) dX6_lay_15 (fX6_35 rfl) sh_54 rfl ?_
            refine e_iload_n (pc := 18) (i := 1) dX6_lay_18 rfl rfl ?_
            refine e_iald (pc := 19) dX6_lay_19 sh_63 (vp_in_nI (by decide) (by decide)) ?_
            refine E.it (nI 1) f0 ?_
            refine e_bipush' (pc := 20) (-4) dX6_lay_20 (by decide) ?_
            refine e_icmp_ne (pc := 22) (tgt := 28) dX6_lay_22 (by decide) (fun h22 => ?_) (fun h22 => absurd h22 (by decide))
            refine e_iload_n (pc := 28) (i := 2) dX6_lay_28 rfl rfl ?_
            refine e_i2l (pc := 29) dX6_lay_29 ?_
            refine e_lconst' (pc := 30) (lN 0) dX6_lay_30 (by decide) ?_
            refine e_aload_n (pc := 31) (i := 0) dX6_lay_31 rfl rfl ?_
            refine e_getR (pc := 32) dX6_lay_32 (fX6_38 rfl) sh_54 rfl ?_
            refine e_iload_n (pc := 35) (i := 1) dX6_lay_35 rfl rfl ?_
            refine e_iald (pc := 36) dX6_lay_36 sh_64 (vp_in_nI (by decide) (by decide)) ?_
            refine E.it (nI m) f1 ?_
            refine e_iconst' (pc := 37) (nI 1) dX6_lay_37 (by decide) ?_
            refine e_isub (pc := 38) dX6_lay_38 ?_
            refine e_i2l (pc := 39) dX6_lay_39 ?_
            refine e_callS3 (pc := 40) (M' := mX6_in) dX6_lay_40 jX6_in lkX6_46 (by decide) (Nat.le_of_ble_eq_true rfl) (Nat.le_of_ble_eq_true rfl) ?_
            refine sp_inI (lo := 0) (hi := (m : Int) - 1) (by decide) (by rw [Int32.toInt_toInt64, pk_sub_toInt (by omega) (by decide)]; rfl) (fun _ _ _ _ _ => ?_) (fun h => (h b (by omega) rfl (by omega) (by omega)).elim)
            refine e_if_ne (pc := 43) (tgt := 49) dX6_lay_43 (by decide) (fun h43 => ?_) (fun h43 => absurd h43 (by decide))
            refine e_aload_n (pc := 49) (i := 0) dX6_lay_49 rfl rfl ?_
            refine e_getR (pc := 50) dX6_lay_50 (fX6_41 rfl) sh_54 rfl ?_
            refine e_bipush' (pc := 53) (nI 40) dX6_lay_53 (by decide) ?_
            refine e_iload_n (pc := 55) (i := 1) dX6_lay_55 rfl rfl ?_
            refine e_imul (pc := 56) dX6_lay_56 ?_
            refine E.it (nI 0) (pk_mul _ _) ?_
            refine e_iload_n (pc := 57) (i := 2) dX6_lay_57 rfl rfl ?_
            refine e_iadd (pc := 58) dX6_lay_58 ?_
            refine E.it (nI (0 + b)) (nI_add _ _) ?_
            refine e_aload_n (pc := 59) (i := 0) dX6_lay_59 rfl rfl ?_
            refine e_getR (pc := 60) dX6_lay_60 (fX6_35 rfl) sh_54 rfl ?_
            refine e_iload_n (pc := 63) (i := 1) dX6_lay_63 rfl rfl ?_
            refine e_iald (pc := 64) dX6_lay_64 sh_63 (vp_in_nI (by decide) (by decide)) ?_
            refine E.it (nI 1) f0 ?_
            refine e_if_ne (pc := 65) (tgt := 78) dX6_lay_65 (by decide) (fun h65 => ?_) (fun h65 => absurd h65 (by decide))
            refine e_aload_n (pc := 78) (i := 0) dX6_lay_78 rfl rfl ?_
            refine e_getR (pc := 79) dX6_lay_79 (fX6_35 rfl) sh_54 rfl ?_
            refine e_iload_n (pc := 82) (i := 1) dX6_lay_82 rfl rfl ?_
            refine e_iald (pc := 83) dX6_lay_83 sh_63 (vp_in_nI (by decide) (by decide)) ?_
            refine E.it (nI 1) f0 ?_
            refine e_iconst' (pc := 84) (nI 1) dX6_lay_84 (by decide) ?_
            refine e_icmp_ne (pc := 85) (tgt := 98) dX6_lay_85 (by decide) (fun h85 => absurd (by decide) h85) (fun h85 => ?_)
            refine e_iload_n (pc := 88) (i := 3) dX6_lay_88 rfl rfl ?_
            refine e_bipush' (pc := 89) (nI 16) dX6_lay_89 (by decide) ?_
            refine e_ishl (pc := 91) dX6_lay_91 ?_
            refine e_bipush' (pc := 92) (nI 16) dX6_lay_92 (by decide) ?_
            refine e_ishr (pc := 94) dX6_lay_94 ?_
            refine E.it (z.toInt16.toInt32) (sh16 z) ?_
            refine e_goto (pc := 95) (tgt := 99) dX6_lay_95 (by decide) ?_
            refine e_iast (pc := 99) dX6_lay_99 sh_65 (vp_in_nI (by omega) (by omega)) ?_
            refine e_iconst' (pc := 100) (nI 1) dX6_lay_100 (by decide) ?_
            refine e_iret (pc := 101) (st := []) (ty := .int) dX6_lay_101 rfl rfl ?_
            rw [nI_clamp (show 0 + b < 2 ^ 31 by omega)]
            refine ⟨rfl, Inv_sheet hI (fun j h1 h2 h3 h4 => ?_) (fun q hq4 => ?_)⟩
            · show up2 (up2 S.1 31 b z.toInt16.toInt32) 65 (0 + b) _ j = _; rw [up2_ne _ _ _ h4, up2_ne _ _ _ (by omega)]
            · by_cases e : q = 0
              · subst e
                refine Or.inr ⟨1, m, hl, hm, e0, e1, e2, f0, f1, fun x hx => ?_⟩
                have g1 : up2 (up2 S.1 31 b z.toInt16.toInt32) 65 (0 + b) z.toInt16.toInt32 31 x = if x = b then z.toInt16.toInt32 else S.1 31 x := by rw [up2_ne _ _ _ (by decide), up2_at]
                have g2 : up2 (up2 S.1 31 b z.toInt16.toInt32) 65 (0 + b) z.toInt16.toInt32 65 (0 + x) = if 0 + x = 0 + b then z.toInt16.toInt32 else S.1 65 (0 + x) := by rw [up2_at]; rfl
                refine Eq.trans g1 (Eq.trans ?_ g2.symm)
                by_cases ex : x = b
                · rw [if_pos ex, if_pos (by omega)]
                · rw [if_neg ex, if_neg (by omega)]; exact ec x hx
              · refine I6.of (S := S) ?_ ?_ rfl rfl (fun x hx => ?_) (hI.2.2.2.2.2.1 q hq4)
                · show up2 (up2 S.1 31 b z.toInt16.toInt32) 65 (0 + b) z.toInt16.toInt32 (30 + 2 * q) = _; rw [up2_ne _ _ _ (by omega), up2_ne _ _ _ (by omega)]
                · show up2 (up2 S.1 31 b z.toInt16.toInt32) 65 (0 + b) z.toInt16.toInt32 (31 + 2 * q) = _; rw [up2_ne _ _ _ (by omega), up2_ne _ _ _ (by omega)]
                · show up2 (up2 S.1 31 b z.toInt16.toInt32) 65 (0 + b) z.toInt16.toInt32 65 (40 * q + x) = _; rw [up2_at]; exact (if_neg (by omega)).trans rfl
          · show E sc mX5_lay 0 [.ref 0, .int (nI 0), .int (nI b), .int z, .null] [] S _
            refine e_iload_n (pc := 0) (i := 1) dX5_lay_0 rfl rfl ?_
            refine e_iconst' (pc := 1) (nI 0) dX5_lay_1 (by decide) ?_
            refine e_iconst' (pc := 2) (nI 3) dX5_lay_2 (by decide) ?_
            refine e_callS3 (pc := 3) (M' := mX5_within) dX5_lay_3 jX5_within lkX5_70 (by decide) (Nat.le_of_ble_eq_true rfl) (Nat.le_of_ble_eq_true rfl) ?_
            refine sp_winY (by omega) (by omega) (by omega) ?_
            refine e_if_ne (pc := 6) (tgt := 11) dX5_lay_6 (by decide) (fun h6 => ?_) (fun h6 => absurd h6 (by decide))
            refine e_aload_n (pc := 11) (i := 0) dX5_lay_11 rfl rfl ?_
            refine e_getR (pc := 12) dX5_lay_12 (fX5_49 rfl) sh_0 rfl ?_
            refine e_iload_n (pc := 15) (i := 1) dX5_lay_15 rfl rfl ?_
            refine e_aald (pc := 16) (r := 30) dX5_lay_16 sh_29 (vp_in_nI (by decide) (by decide)) (by decide) ?_
            refine e_aload_n (pc := 17) (i := 0) dX5_lay_17 rfl rfl ?_
            refine e_getR (pc := 18) dX5_lay_18 (fX5_49 rfl) sh_0 rfl ?_
            refine e_iload_n (pc := 21) (i := 1) dX5_lay_21 rfl rfl ?_
            refine e_aald (pc := 22) (r := 30) dX5_lay_22 sh_29 (vp_in_nI (by decide) (by decide)) (by decide) ?_
            refine e_getI (pc := 23) dX5_lay_23 (fX5_224 rfl) (sI_sh (Or.inl rfl)) rfl ?_
            refine E.it (nI 2) e1 ?_
            refine e_iload_n (pc := 26) (i := 2) dX5_lay_26 rfl rfl ?_
            refine e_callV2 (pc := 27) (M' := mX2_faultAt) dX5_lay_27 iX2_faultAt lkX5_227 (by decide) (sI_r (Or.inl rfl)) (Nat.le_of_ble_eq_true rfl) (Nat.le_of_ble_eq_true rfl) ?_
            refine sp_faultIn (i := 30) (Or.inl rfl) e0 e1 e2 hm hb ?_
            refine e_istore (pc := 30) dX5_lay_30 (by decide) rfl ?_
            refine e_iload (pc := 32) dX5_lay_32 rfl ?_
            refine e_if_eq (pc := 34) (tgt := 43) dX5_lay_34 (by decide) (fun h34 => ?_) (fun h34 => absurd (by decide) h34)
            refine e_aload_n (pc := 43) (i := 0) dX5_lay_43 rfl rfl ?_
            refine e_getR (pc := 44) dX5_lay_44 (fX5_49 rfl) sh_0 rfl ?_
            refine e_iload_n (pc := 47) (i := 1) dX5_lay_47 rfl rfl ?_
            refine e_aald (pc := 48) (r := 30) dX5_lay_48 sh_29 (vp_in_nI (by decide) (by decide)) (by decide) ?_
            refine e_iload_n (pc := 49) (i := 2) dX5_lay_49 rfl rfl ?_
            refine e_iload_n (pc := 50) (i := 3) dX5_lay_50 rfl rfl ?_
            refine e_callV2 (pc := 51) (M' := mX2_put) dX5_lay_51 iX2_put lkX5_230 (by decide) (sI_r (Or.inl rfl)) (Nat.le_of_ble_eq_true rfl) (Nat.le_of_ble_eq_true rfl) ?_
            refine sp_put (i := 30) (Or.inl rfl) e1 (by omega) (by omega) ?_
            refine e_iconst' (pc := 54) (nI 1) dX5_lay_54 (by decide) ?_
            refine e_iret (pc := 55) (st := []) (ty := .int) dX5_lay_55 rfl rfl ?_
            refine ⟨_, rfl, ?_⟩
            show E sc mX6_lay 0 [.ref 54, .int (nI 0), .int (nI b), .int z] [] _ _
            refine e_iload_n (pc := 0) (i := 1) dX6_lay_0 rfl rfl ?_
            refine e_i2l (pc := 1) dX6_lay_1 ?_
            refine e_lconst' (pc := 2) (lN 0) dX6_lay_2 (by decide) ?_
            refine e_ldc2 (pc := 3) dX6_lay_3 (klX6_148 rfl) ?_
            refine e_callS3 (pc := 6) (M' := mX6_in) dX6_lay_6 jX6_in lkX6_46 (by decide) (Nat.le_of_ble_eq_true rfl) (Nat.le_of_ble_eq_true rfl) ?_
            refine sp_inY (lo := 0) (hi := 3) (by decide) (by decide) (by omega) (by omega) (by omega) ?_
            refine e_if_ne (pc := 9) (tgt := 14) dX6_lay_9 (by decide) (fun h9 => ?_) (fun h9 => absurd h9 (by decide))
            refine e_aload_n (pc := 14) (i := 0) dX6_lay_14 rfl rfl ?_
            refine e_getR (pc := 15) dX6_lay_15 (fX6_35 rfl) sh_54 rfl ?_
            refine e_iload_n (pc := 18) (i := 1) dX6_lay_18 rfl rfl ?_
            refine e_iald (pc := 19) dX6_lay_19 sh_63 (vp_in_nI (by decide) (by decide)) ?_
            refine E.it (nI 2) f0 ?_
            refine e_bipush' (pc := 20) (-4) dX6_lay_20 (by decide) ?_
            refine e_icmp_ne (pc := 22) (tgt := 28) dX6_lay_22 (by decide) (fun h22 => ?_) (fun h22 => absurd h22 (by decide))
            refine e_iload_n (pc := 28) (i := 2) dX6_lay_28 rfl rfl ?_
            refine e_i2l (pc := 29) dX6_lay_29 ?_
            refine e_lconst' (pc := 30) (lN 0) dX6_lay_30 (by decide) ?_
            refine e_aload_n (pc := 31) (i := 0) dX6_lay_31 rfl rfl ?_
            refine e_getR (pc := 32) dX6_lay_32 (fX6_38 rfl) sh_54 rfl ?_
            refine e_iload_n (pc := 35) (i := 1) dX6_lay_35 rfl rfl ?_
            refine e_iald (pc := 36) dX6_lay_36 sh_64 (vp_in_nI (by decide) (by decide)) ?_
            refine E.it (nI m) f1 ?_
            refine e_iconst' (pc := 37) (nI 1) dX6_lay_37 (by decide) ?_
            refine e_isub (pc := 38) dX6_lay_38 ?_
            refine e_i2l (pc := 39) dX6_lay_39 ?_
            refine e_callS3 (pc := 40) (M' := mX6_in) dX6_lay_40 jX6_in lkX6_46 (by decide) (Nat.le_of_ble_eq_true rfl) (Nat.le_of_ble_eq_true rfl) ?_
            refine sp_inI (lo := 0) (hi := (m : Int) - 1) (by decide) (by rw [Int32.toInt_toInt64, pk_sub_toInt (by omega) (by decide)]; rfl) (fun _ _ _ _ _ => ?_) (fun h => (h b (by omega) rfl (by omega) (by omega)).elim)
            refine e_if_ne (pc := 43) (tgt := 49) dX6_lay_43 (by decide) (fun h43 => ?_) (fun h43 => absurd h43 (by decide))
            refine e_aload_n (pc := 49) (i := 0) dX6_lay_49 rfl rfl ?_
            refine e_getR (pc := 50) dX6_lay_50 (fX6_41 rfl) sh_54 rfl ?_
            refine e_bipush' (pc := 53) (nI 40) dX6_lay_53 (by decide) ?_
            refine e_iload_n (pc := 55) (i := 1) dX6_lay_55 rfl rfl ?_
            refine e_imul (pc := 56) dX6_lay_56 ?_
            refine E.it (nI 0) (pk_mul _ _) ?_
            refine e_iload_n (pc := 57) (i := 2) dX6_lay_57 rfl rfl ?_
            refine e_iadd (pc := 58) dX6_lay_58 ?_
            refine E.it (nI (0 + b)) (nI_add _ _) ?_
            refine e_aload_n (pc := 59) (i := 0) dX6_lay_59 rfl rfl ?_
            refine e_getR (pc := 60) dX6_lay_60 (fX6_35 rfl) sh_54 rfl ?_
            refine e_iload_n (pc := 63) (i := 1) dX6_lay_63 rfl rfl ?_
            refine e_iald (pc := 64) dX6_lay_64 sh_63 (vp_in_nI (by decide) (by decide)) ?_
            refine E.it (nI 2) f0 ?_
            refine e_if_ne (pc := 65) (tgt := 78) dX6_lay_65 (by decide) (fun h65 => ?_) (fun h65 => absurd h65 (by decide))
            refine e_aload_n (pc := 78) (i := 0) dX6_lay_78 rfl rfl ?_
            refine e_getR (pc := 79) dX6_lay_79 (fX6_35 rfl) sh_54 rfl ?_
            refine e_iload_n (pc := 82) (i := 1) dX6_lay_82 rfl rfl ?_
            refine e_iald (pc := 83) dX6_lay_83 sh_63 (vp_in_nI (by decide) (by decide)) ?_
            refine E.it (nI 2) f0 ?_
            refine e_iconst' (pc := 84) (nI 1) dX6_lay_84 (by decide) ?_
            refine e_icmp_ne (pc := 85) (tgt := 98) dX6_lay_85 (by decide) (fun h85 => ?_) (fun h85 => absurd h85 (by decide))
            refine e_iload_n (pc := 98) (i := 3) dX6_lay_98 rfl rfl ?_
            refine e_iast (pc := 99) dX6_lay_99 sh_65 (vp_in_nI (by omega) (by omega)) ?_
            refine e_iconst' (pc := 100) (nI 1) dX6_lay_100 (by decide) ?_
            refine e_iret (pc := 101) (st := []) (ty := .int) dX6_lay_101 rfl rfl ?_
            rw [nI_clamp (show 0 + b < 2 ^ 31 by omega)]
            refine ⟨rfl, Inv_sheet hI (fun j h1 h2 h3 h4 => ?_) (fun q hq4 => ?_)⟩
            · show up2 (up2 S.1 31 b z) 65 (0 + b) _ j = _; rw [up2_ne _ _ _ h4, up2_ne _ _ _ (by omega)]
            · by_cases e : q = 0
              · subst e
                refine Or.inr ⟨2, m, hl, hm, e0, e1, e2, f0, f1, fun x hx => ?_⟩
                have g1 : up2 (up2 S.1 31 b z) 65 (0 + b) z 31 x = if x = b then z else S.1 31 x := by rw [up2_ne _ _ _ (by decide), up2_at]
                have g2 : up2 (up2 S.1 31 b z) 65 (0 + b) z 65 (0 + x) = if 0 + x = 0 + b then z else S.1 65 (0 + x) := by rw [up2_at]; rfl
                refine Eq.trans g1 (Eq.trans ?_ g2.symm)
                by_cases ex : x = b
                · rw [if_pos ex, if_pos (by omega)]
                · rw [if_neg ex, if_neg (by omega)]; exact ec x hx
              · refine I6.of (S := S) ?_ ?_ rfl rfl (fun x hx => ?_) (hI.2.2.2.2.2.1 q hq4)
                · show up2 (up2 S.1 31 b z) 65 (0 + b) z (30 + 2 * q) = _; rw [up2_ne _ _ _ (by omega), up2_ne _ _ _ (by omega)]
                · show up2 (up2 S.1 31 b z) 65 (0 + b) z (31 + 2 * q) = _; rw [up2_ne _ _ _ (by omega), up2_ne _ _ _ (by omega)]
                · show up2 (up2 S.1 31 b z) 65 (0 + b) z 65 (40 * q + x) = _; rw [up2_at]; exact (if_neg (by omega)).trans rfl
        · refine ask_both (-12) hI (fun Q k => ?_) (fun S1 h1 Q k => ?_)
          · show E sc mX5_lay 0 [.ref 0, .int (nI 0), .int y, .int z, .null] [] S Q
            refine e_iload_n (pc := 0) (i := 1) dX5_lay_0 rfl rfl ?_
            refine e_iconst' (pc := 1) (nI 0) dX5_lay_1 (by decide) ?_
            refine e_iconst' (pc := 2) (nI 3) dX5_lay_2 (by decide) ?_
            refine e_callS3 (pc := 3) (M' := mX5_within) dX5_lay_3 jX5_within lkX5_70 (by decide) (Nat.le_of_ble_eq_true rfl) (Nat.le_of_ble_eq_true rfl) ?_
            refine sp_winY (by omega) (by omega) (by omega) ?_
            refine e_if_ne (pc := 6) (tgt := 11) dX5_lay_6 (by decide) (fun h6 => ?_) (fun h6 => absurd h6 (by decide))
            refine e_aload_n (pc := 11) (i := 0) dX5_lay_11 rfl rfl ?_
            refine e_getR (pc := 12) dX5_lay_12 (fX5_49 rfl) sh_0 rfl ?_
            refine e_iload_n (pc := 15) (i := 1) dX5_lay_15 rfl rfl ?_
            refine e_aald (pc := 16) (r := 30) dX5_lay_16 sh_29 (vp_in_nI (by decide) (by decide)) (by decide) ?_
            refine e_aload_n (pc := 17) (i := 0) dX5_lay_17 rfl rfl ?_
            refine e_getR (pc := 18) dX5_lay_18 (fX5_49 rfl) sh_0 rfl ?_
            refine e_iload_n (pc := 21) (i := 1) dX5_lay_21 rfl rfl ?_
            refine e_aald (pc := 22) (r := 30) dX5_lay_22 sh_29 (vp_in_nI (by decide) (by decide)) (by decide) ?_
            refine e_getI (pc := 23) dX5_lay_23 (fX5_224 rfl) (sI_sh (Or.inl rfl)) rfl ?_
            refine E.it (nI l) e1 ?_
            refine e_iload_n (pc := 26) (i := 2) dX5_lay_26 rfl rfl ?_
            refine e_callV2 (pc := 27) (M' := mX2_faultAt) dX5_lay_27 iX2_faultAt lkX5_227 (by decide) (sI_r (Or.inl rfl)) (Nat.le_of_ble_eq_true rfl) (Nat.le_of_ble_eq_true rfl) ?_
            refine sp_faultOut (i := 30) (Or.inl rfl) e0 e1 e2 hm hn ?_
            refine e_istore (pc := 30) dX5_lay_30 (by decide) rfl ?_
            refine e_iload (pc := 32) dX5_lay_32 rfl ?_
            refine e_if_eq (pc := 34) (tgt := 43) dX5_lay_34 (by decide) (fun h34 => absurd h34 (by decide)) (fun h34 => ?_)
            refine e_bipush' (pc := 37) (-10) dX5_lay_37 (by decide) ?_
            refine e_iload (pc := 39) dX5_lay_39 rfl ?_
            refine e_isub (pc := 41) dX5_lay_41 ?_
            refine E.it (-12) (by decide) ?_
            refine e_iret (pc := 42) (st := []) (ty := .int) dX5_lay_42 rfl rfl ?_
            exact k _ Same.rf
          · show E sc mX6_lay 0 [.ref 54, .int (nI 0), .int y, .int z] [] S1 Q
            have hp := h1.pg (by omega) hv hp
            have hr := h1.row (by omega) hr
            refine e_iload_n (pc := 0) (i := 1) dX6_lay_0 rfl rfl ?_
            refine e_i2l (pc := 1) dX6_lay_1 ?_
            refine e_lconst' (pc := 2) (lN 0) dX6_lay_2 (by decide) ?_
            refine e_ldc2 (pc := 3) dX6_lay_3 (klX6_148 rfl) ?_
            refine e_callS3 (pc := 6) (M' := mX6_in) dX6_lay_6 jX6_in lkX6_46 (by decide) (Nat.le_of_ble_eq_true rfl) (Nat.le_of_ble_eq_true rfl) ?_
            refine sp_inY (lo := 0) (hi := 3) (by decide) (by decide) (by omega) (by omega) (by omega) ?_
            refine e_if_ne (pc := 9) (tgt := 14) dX6_lay_9 (by decide) (fun h9 => ?_) (fun h9 => absurd h9 (by decide))
            refine e_aload_n (pc := 14) (i := 0) dX6_lay_14 rfl rfl ?_
            refine e_getR (pc := 15) dX6_lay_15 (fX6_35 rfl) sh_54 rfl ?_
            refine e_iload_n (pc := 18) (i := 1) dX6_lay_18 rfl rfl ?_
            refine e_iald (pc := 19) dX6_lay_19 sh_63 (vp_in_nI (by decide) (by decide)) ?_
            refine E.it (nI l) (by show S1.1 63 0 = _; rw [h1.2.2.2 63 (by omega)]; exact f0) ?_
            refine e_bipush' (pc := 20) (-4) dX6_lay_20 (by decide) ?_
            refine e_icmp_ne (pc := 22) (tgt := 28) dX6_lay_22 (by decide) (fun h22 => ?_) (fun h22 => absurd h22 (fun q => absurd (congrArg Int32.toInt q) (by rw [nI_toInt (by omega)]; show ¬ (l : Int) = -4; omega)))
            refine e_iload_n (pc := 28) (i := 2) dX6_lay_28 rfl rfl ?_
            refine e_i2l (pc := 29) dX6_lay_29 ?_
            refine e_lconst' (pc := 30) (lN 0) dX6_lay_30 (by decide) ?_
            refine e_aload_n (pc := 31) (i := 0) dX6_lay_31 rfl rfl ?_
            refine e_getR (pc := 32) dX6_lay_32 (fX6_38 rfl) sh_54 rfl ?_
            refine e_iload_n (pc := 35) (i := 1) dX6_lay_35 rfl rfl ?_
            refine e_iald (pc := 36) dX6_lay_36 sh_64 (vp_in_nI (by decide) (by decide)) ?_
            refine E.it (nI m) (by show S1.1 64 0 = _; rw [h1.2.2.2 64 (by omega)]; exact f1) ?_
            refine e_iconst' (pc := 37) (nI 1) dX6_lay_37 (by decide) ?_
            refine e_isub (pc := 38) dX6_lay_38 ?_
            refine e_i2l (pc := 39) dX6_lay_39 ?_
            refine e_callS3 (pc := 40) (M' := mX6_in) dX6_lay_40 jX6_in lkX6_46 (by decide) (Nat.le_of_ble_eq_true rfl) (Nat.le_of_ble_eq_true rfl) ?_
            refine sp_inI (lo := 0) (hi := (m : Int) - 1) (by decide) (by rw [Int32.toInt_toInt64, pk_sub_toInt (by omega) (by decide)]; rfl) (fun b hb e g1 g2 => (hn ⟨b, e, by omega⟩).elim) (fun _ => ?_)
            refine e_if_ne (pc := 43) (tgt := 49) dX6_lay_43 (by decide) (fun h43 => absurd (by decide) h43) (fun h43 => ?_)
            refine e_bipush' (pc := 46) (-12) dX6_lay_46 (by decide) ?_
            refine e_iret (pc := 48) (st := []) (ty := .int) dX6_lay_48 rfl rfl ?_
            exact k _ Same.rf
    · rcases hI.2.2.2.2.2.1 1 (by omega) with ⟨e0, f0⟩ | ⟨l, m, hl, hm, e0, e1, e2, f0, f1, ec⟩
      · refine ask_both (-11) hI (fun Q k => ?_) (fun S1 h1 Q k => ?_)
        · show E sc mX5_lay 0 [.ref 0, .int (nI 1), .int y, .int z, .null] [] S Q
          refine e_iload_n (pc := 0) (i := 1) dX5_lay_0 rfl rfl ?_
          refine e_iconst' (pc := 1) (nI 0) dX5_lay_1 (by decide) ?_
          refine e_iconst' (pc := 2) (nI 3) dX5_lay_2 (by decide) ?_
          refine e_callS3 (pc := 3) (M' := mX5_within) dX5_lay_3 jX5_within lkX5_70 (by decide) (Nat.le_of_ble_eq_true rfl) (Nat.le_of_ble_eq_true rfl) ?_
          refine sp_winY (by omega) (by omega) (by omega) ?_
          refine e_if_ne (pc := 6) (tgt := 11) dX5_lay_6 (by decide) (fun h6 => ?_) (fun h6 => absurd h6 (by decide))
          refine e_aload_n (pc := 11) (i := 0) dX5_lay_11 rfl rfl ?_
          refine e_getR (pc := 12) dX5_lay_12 (fX5_49 rfl) sh_0 rfl ?_
          refine e_iload_n (pc := 15) (i := 1) dX5_lay_15 rfl rfl ?_
          refine e_aald (pc := 16) (r := 32) dX5_lay_16 sh_29 (vp_in_nI (by decide) (by decide)) (by decide) ?_
          refine e_aload_n (pc := 17) (i := 0) dX5_lay_17 rfl rfl ?_
          refine e_getR (pc := 18) dX5_lay_18 (fX5_49 rfl) sh_0 rfl ?_
          refine e_iload_n (pc := 21) (i := 1) dX5_lay_21 rfl rfl ?_
          refine e_aald (pc := 22) (r := 32) dX5_lay_22 sh_29 (vp_in_nI (by decide) (by decide)) (by decide) ?_
          refine e_getI (pc := 23) dX5_lay_23 (fX5_224 rfl) (sI_sh (Or.inr (Or.inl rfl))) rfl ?_
          refine e_iload_n (pc := 26) (i := 2) dX5_lay_26 rfl rfl ?_
          refine e_callV2 (pc := 27) (M' := mX2_faultAt) dX5_lay_27 iX2_faultAt lkX5_227 (by decide) (sI_r (Or.inr (Or.inl rfl))) (Nat.le_of_ble_eq_true rfl) (Nat.le_of_ble_eq_true rfl) ?_
          refine sp_faultNull (i := 32) (Or.inr (Or.inl rfl)) e0 ?_
          refine e_istore (pc := 30) dX5_lay_30 (by decide) rfl ?_
          refine e_iload (pc := 32) dX5_lay_32 rfl ?_
          refine e_if_eq (pc := 34) (tgt := 43) dX5_lay_34 (by decide) (fun h34 => absurd h34 (by decide)) (fun h34 => ?_)
          refine e_bipush' (pc := 37) (-10) dX5_lay_37 (by decide) ?_
          refine e_iload (pc := 39) dX5_lay_39 rfl ?_
          refine e_isub (pc := 41) dX5_lay_41 ?_
          refine E.it (-11) (by decide) ?_
          refine e_iret (pc := 42) (st := []) (ty := .int) dX5_lay_42 rfl rfl ?_
          exact k _ Same.rf
        · show E sc mX6_lay 0 [.ref 54, .int (nI 1), .int y, .int z] [] S1 Q
          have hp := h1.pg (by omega) hv hp
          have hr := h1.row (by omega) hr
          refine e_iload_n (pc := 0) (i := 1) dX6_lay_0 rfl rfl ?_
          refine e_i2l (pc := 1) dX6_lay_1 ?_
          refine e_lconst' (pc := 2) (lN 0) dX6_lay_2 (by decide) ?_
          refine e_ldc2 (pc := 3) dX6_lay_3 (klX6_148 rfl) ?_
          refine e_callS3 (pc := 6) (M' := mX6_in) dX6_lay_6 jX6_in lkX6_46 (by decide) (Nat.le_of_ble_eq_true rfl) (Nat.le_of_ble_eq_true rfl) ?_
          refine sp_inY (lo := 0) (hi := 3) (by decide) (by decide) (by omega) (by omega) (by omega) ?_
          refine e_if_ne (pc := 9) (tgt := 14) dX6_lay_9 (by decide) (fun h9 => ?_) (fun h9 => absurd h9 (by decide))
          refine e_aload_n (pc := 14) (i := 0) dX6_lay_14 rfl rfl ?_
          refine e_getR (pc := 15) dX6_lay_15 (fX6_35 rfl) sh_54 rfl ?_
          refine e_iload_n (pc := 18) (i := 1) dX6_lay_18 rfl rfl ?_
          refine e_iald (pc := 19) dX6_lay_19 sh_63 (vp_in_nI (by decide) (by decide)) ?_
          refine E.it (-4) (by show S1.1 63 1 = _; rw [h1.2.2.2 63 (by omega)]; exact f0) ?_
          refine e_bipush' (pc := 20) (-4) dX6_lay_20 (by decide) ?_
          refine e_icmp_ne (pc := 22) (tgt := 28) dX6_lay_22 (by decide) (fun h22 => absurd rfl h22) (fun h22 => ?_)
          refine e_bipush' (pc := 25) (-11) dX6_lay_25 (by decide) ?_
          refine e_iret (pc := 27) (st := []) (ty := .int) dX6_lay_27 rfl rfl ?_
          exact k _ Same.rf
      · rcases Classical.em (inw y m) with ⟨b, rfl, hb⟩ | hn
        · rcases (show l = 0 ∨ l = 1 ∨ l = 2 by omega) with rfl | rfl | rfl
          · show E sc mX5_lay 0 [.ref 0, .int (nI 1), .int (nI b), .int z, .null] [] S _
            refine e_iload_n (pc := 0) (i := 1) dX5_lay_0 rfl rfl ?_
            refine e_iconst' (pc := 1) (nI 0) dX5_lay_1 (by decide) ?_
            refine e_iconst' (pc := 2) (nI 3) dX5_lay_2 (by decide) ?_
            refine e_callS3 (pc := 3) (M' := mX5_within) dX5_lay_3 jX5_within lkX5_70 (by decide) (Nat.le_of_ble_eq_true rfl) (Nat.le_of_ble_eq_true rfl) ?_
            refine sp_winY (by omega) (by omega) (by omega) ?_
            refine e_if_ne (pc := 6) (tgt := 11) dX5_lay_6 (by decide) (fun h6 => ?_) (fun h6 => absurd h6 (by decide))
            refine e_aload_n (pc := 11) (i := 0) dX5_lay_11 rfl rfl ?_
            refine e_getR (pc := 12) dX5_lay_12 (fX5_49 rfl) sh_0 rfl ?_
            refine e_iload_n (pc := 15) (i := 1) dX5_lay_15 rfl rfl ?_
            refine e_aald (pc := 16) (r := 32) dX5_lay_16 sh_29 (vp_in_nI (by decide) (by decide)) (by decide) ?_
            refine e_aload_n (pc := 17) (i := 0) dX5_lay_17 rfl rfl ?_
            refine e_getR (pc := 18) dX5_lay_18 (fX5_49 rfl) sh_0 rfl ?_
            refine e_iload_n (pc := 21) (i := 1) dX5_lay_21 rfl rfl ?_
            refine e_aald (pc := 22) (r := 32) dX5_lay_22 sh_29 (vp_in_nI (by decide) (by decide)) (by decide) ?_
            refine e_getI (pc := 23) dX5_lay_23 (fX5_224 rfl) (sI_sh (Or.inr (Or.inl rfl))) rfl ?_
            refine E.it (nI 0) e1 ?_
            refine e_iload_n (pc := 26) (i := 2) dX5_lay_26 rfl rfl ?_
            refine e_callV2 (pc := 27) (M' := mX2_faultAt) dX5_lay_27 iX2_faultAt lkX5_227 (by decide) (sI_r (Or.inr (Or.inl rfl))) (Nat.le_of_ble_eq_true rfl) (Nat.le_of_ble_eq_true rfl) ?_
            refine sp_faultIn (i := 32) (Or.inr (Or.inl rfl)) e0 e1 e2 hm hb ?_
            refine e_istore (pc := 30) dX5_lay_30 (by decide) rfl ?_
            refine e_iload (pc := 32) dX5_lay_32 rfl ?_
            refine e_if_eq (pc := 34) (tgt := 43) dX5_lay_34 (by decide) (fun h34 => ?_) (fun h34 => absurd (by decide) h34)
            refine e_aload_n (pc := 43) (i := 0) dX5_lay_43 rfl rfl ?_
            refine e_getR (pc := 44) dX5_lay_44 (fX5_49 rfl) sh_0 rfl ?_
            refine e_iload_n (pc := 47) (i := 1) dX5_lay_47 rfl rfl ?_
            refine e_aald (pc := 48) (r := 32) dX5_lay_48 sh_29 (vp_in_nI (by decide) (by decide)) (by decide) ?_
            refine e_iload_n (pc := 49) (i := 2) dX5_lay_49 rfl rfl ?_
            refine e_iload_n (pc := 50) (i := 3) dX5_lay_50 rfl rfl ?_
            refine e_callV2 (pc := 51) (M' := mX2_put) dX5_lay_51 iX2_put lkX5_230 (by decide) (sI_r (Or.inr (Or.inl rfl))) (Nat.le_of_ble_eq_true rfl) (Nat.le_of_ble_eq_true rfl) ?_
            refine sp_put (i := 32) (Or.inr (Or.inl rfl)) e1 (by omega) (by omega) ?_
            refine e_iconst' (pc := 54) (nI 1) dX5_lay_54 (by decide) ?_
            refine e_iret (pc := 55) (st := []) (ty := .int) dX5_lay_55 rfl rfl ?_
            refine ⟨_, rfl, ?_⟩
            show E sc mX6_lay 0 [.ref 54, .int (nI 1), .int (nI b), .int z] [] _ _
            refine e_iload_n (pc := 0) (i := 1) dX6_lay_0 rfl rfl ?_
            refine e_i2l (pc := 1) dX6_lay_1 ?_
            refine e_lconst' (pc := 2) (lN 0) dX6_lay_2 (by decide) ?_
            refine e_ldc2 (pc := 3) dX6_lay_3 (klX6_148 rfl) ?_
            refine e_callS3 (pc := 6) (M' := mX6_in) dX6_lay_6 jX6_in lkX6_46 (by decide) (Nat.le_of_ble_eq_true rfl) (Nat.le_of_ble_eq_true rfl) ?_
            refine sp_inY (lo := 0) (hi := 3) (by decide) (by decide) (by omega) (by omega) (by omega) ?_
            refine e_if_ne (pc := 9) (tgt := 14) dX6_lay_9 (by decide) (fun h9 => ?_) (fun h9 => absurd h9 (by decide))
            refine e_aload_n (pc := 14) (i := 0) dX6_lay_14 rfl rfl ?_
            refine e_getR (pc := 15) dX6_lay_15 (fX6_35 rfl) sh_54 rfl ?_
            refine e_iload_n (pc := 18) (i := 1) dX6_lay_18 rfl rfl ?_
            refine e_iald (pc := 19) dX6_lay_19 sh_63 (vp_in_nI (by decide) (by decide)) ?_
            refine E.it (nI 0) f0 ?_
            refine e_bipush' (pc := 20) (-4) dX6_lay_20 (by decide) ?_
            refine e_icmp_ne (pc := 22) (tgt := 28) dX6_lay_22 (by decide) (fun h22 => ?_) (fun h22 => absurd h22 (by decide))
            refine e_iload_n (pc := 28) (i := 2) dX6_lay_28 rfl rfl ?_
            refine e_i2l (pc := 29) dX6_lay_29 ?_
            refine e_lconst' (pc := 30) (lN 0) dX6_lay_30 (by decide) ?_
            refine e_aload_n (pc := 31) (i := 0) dX6_lay_31 rfl rfl ?_
            refine e_getR (pc := 32) dX6_lay_32 (fX6_38 rfl) sh_54 rfl ?_
            refine e_iload_n (pc := 35) (i := 1) dX6_lay_35 rfl rfl ?_
            refine e_iald (pc := 36) dX6_lay_36 sh_64 (vp_in_nI (by decide) (by decide)) ?_
            refine E.it (nI m) f1 ?_
            refine e_iconst' (pc := 37) (nI 1) dX6_lay_37 (by decide) ?_
            refine e_isub (pc := 38) dX6_lay_38 ?_
            refine e_i2l (pc := 39) dX6_lay_39 ?_
            refine e_callS3 (pc := 40) (M' := mX6_in) dX6_lay_40 jX6_in lkX6_46 (by decide) (Nat.le_of_ble_eq_true rfl) (Nat.le_of_ble_eq_true rfl) ?_
            refine sp_inI (lo := 0) (hi := (m : Int) - 1) (by decide) (by rw [Int32.toInt_toInt64, pk_sub_toInt (by omega) (by decide)]; rfl) (fun _ _ _ _ _ => ?_) (fun h => (h b (by omega) rfl (by omega) (by omega)).elim)
            refine e_if_ne (pc := 43) (tgt := 49) dX6_lay_43 (by decide) (fun h43 => ?_) (fun h43 => absurd h43 (by decide))
            refine e_aload_n (pc := 49) (i := 0) dX6_lay_49 rfl rfl ?_
            refine e_getR (pc := 50) dX6_lay_50 (fX6_41 rfl) sh_54 rfl ?_
            refine e_bipush' (pc := 53) (nI 40) dX6_lay_53 (by decide) ?_
            refine e_iload_n (pc := 55) (i := 1) dX6_lay_55 rfl rfl ?_
            refine e_imul (pc := 56) dX6_lay_56 ?_
            refine E.it (nI 40) (pk_mul _ _) ?_
            refine e_iload_n (pc := 57) (i := 2) dX6_lay_57 rfl rfl ?_
            refine e_iadd (pc := 58) dX6_lay_58 ?_
            refine E.it (nI (40 + b)) (nI_add _ _) ?_
            refine e_aload_n (pc := 59) (i := 0) dX6_lay_59 rfl rfl ?_
            refine e_getR (pc := 60) dX6_lay_60 (fX6_35 rfl) sh_54 rfl ?_
            refine e_iload_n (pc := 63) (i := 1) dX6_lay_63 rfl rfl ?_
            refine e_iald (pc := 64) dX6_lay_64 sh_63 (vp_in_nI (by decide) (by decide)) ?_
            refine E.it (nI 0) f0 ?_
            refine e_if_ne (pc := 65) (tgt := 78) dX6_lay_65 (by decide) (fun h65 => absurd (by decide) h65) (fun h65 => ?_)
            refine e_iload_n (pc := 68) (i := 3) dX6_lay_68 rfl rfl ?_
            refine e_bipush' (pc := 69) (nI 24) dX6_lay_69 (by decide) ?_
            refine e_ishl (pc := 71) dX6_lay_71 ?_
            refine e_bipush' (pc := 72) (nI 24) dX6_lay_72 (by decide) ?_
            refine e_ishr (pc := 74) dX6_lay_74 ?_
            refine E.it (z.toInt8.toInt32) (sh24 z) ?_
            refine e_goto (pc := 75) (tgt := 99) dX6_lay_75 (by decide) ?_
            refine e_iast (pc := 99) dX6_lay_99 sh_65 (vp_in_nI (by omega) (by omega)) ?_
            refine e_iconst' (pc := 100) (nI 1) dX6_lay_100 (by decide) ?_
            refine e_iret (pc := 101) (st := []) (ty := .int) dX6_lay_101 rfl rfl ?_
            rw [nI_clamp (show 40 + b < 2 ^ 31 by omega)]
            refine ⟨rfl, Inv_sheet hI (fun j h1 h2 h3 h4 => ?_) (fun q hq4 => ?_)⟩
            · show up2 (up2 S.1 33 b z.toInt8.toInt32) 65 (40 + b) _ j = _; rw [up2_ne _ _ _ h4, up2_ne _ _ _ (by omega)]
            · by_cases e : q = 1
              · subst e
                refine Or.inr ⟨0, m, hl, hm, e0, e1, e2, f0, f1, fun x hx => ?_⟩
                have g1 : up2 (up2 S.1 33 b z.toInt8.toInt32) 65 (40 + b) z.toInt8.toInt32 33 x = if x = b then z.toInt8.toInt32 else S.1 33 x := by rw [up2_ne _ _ _ (by decide), up2_at]
                have g2 : up2 (up2 S.1 33 b z.toInt8.toInt32) 65 (40 + b) z.toInt8.toInt32 65 (40 + x) = if 40 + x = 40 + b then z.toInt8.toInt32 else S.1 65 (40 + x) := by rw [up2_at]; rfl
                refine Eq.trans g1 (Eq.trans ?_ g2.symm)
                by_cases ex : x = b
                · rw [if_pos ex, if_pos (by omega)]
                · rw [if_neg ex, if_neg (by omega)]; exact ec x hx
              · refine I6.of (S := S) ?_ ?_ rfl rfl (fun x hx => ?_) (hI.2.2.2.2.2.1 q hq4)
                · show up2 (up2 S.1 33 b z.toInt8.toInt32) 65 (40 + b) z.toInt8.toInt32 (30 + 2 * q) = _; rw [up2_ne _ _ _ (by omega), up2_ne _ _ _ (by omega)]
                · show up2 (up2 S.1 33 b z.toInt8.toInt32) 65 (40 + b) z.toInt8.toInt32 (31 + 2 * q) = _; rw [up2_ne _ _ _ (by omega), up2_ne _ _ _ (by omega)]
                · show up2 (up2 S.1 33 b z.toInt8.toInt32) 65 (40 + b) z.toInt8.toInt32 65 (40 * q + x) = _; rw [up2_at]; exact (if_neg (by omega)).trans rfl
          · show E sc mX5_lay 0 [.ref 0, .int (nI 1), .int (nI b), .int z, .null] [] S _
            refine e_iload_n (pc := 0) (i := 1) dX5_lay_0 rfl rfl ?_
            refine e_iconst' (pc := 1) (nI 0) dX5_lay_1 (by decide) ?_
            refine e_iconst' (pc := 2) (nI 3) dX5_lay_2 (by decide) ?_
            refine e_callS3 (pc := 3) (M' := mX5_within) dX5_lay_3 jX5_within lkX5_70 (by decide) (Nat.le_of_ble_eq_true rfl) (Nat.le_of_ble_eq_true rfl) ?_
            refine sp_winY (by omega) (by omega) (by omega) ?_
            refine e_if_ne (pc := 6) (tgt := 11) dX5_lay_6 (by decide) (fun h6 => ?_) (fun h6 => absurd h6 (by decide))
            refine e_aload_n (pc := 11) (i := 0) dX5_lay_11 rfl rfl ?_
            refine e_getR (pc := 12) dX5_lay_12 (fX5_49 rfl) sh_0 rfl ?_
            refine e_iload_n (pc := 15) (i := 1) dX5_lay_15 rfl rfl ?_
            refine e_aald (pc := 16) (r := 32) dX5_lay_16 sh_29 (vp_in_nI (by decide) (by decide)) (by decide) ?_
            refine e_aload_n (pc := 17) (i := 0) dX5_lay_17 rfl rfl ?_
            refine e_getR (pc := 18) dX5_lay_18 (fX5_49 rfl) sh_0 rfl ?_
            refine e_iload_n (pc := 21) (i := 1) dX5_lay_21 rfl rfl ?_
            refine e_aald (pc := 22) (r := 32) dX5_lay_22 sh_29 (vp_in_nI (by decide) (by decide)) (by decide) ?_
            refine e_getI (pc := 23) dX5_lay_23 (fX5_224 rfl) (sI_sh (Or.inr (Or.inl rfl))) rfl ?_
            refine E.it (nI 1) e1 ?_
            refine e_iload_n (pc := 26) (i := 2) dX5_lay_26 rfl rfl ?_
            refine e_callV2 (pc := 27) (M' := mX2_faultAt) dX5_lay_27 iX2_faultAt lkX5_227 (by decide) (sI_r (Or.inr (Or.inl rfl))) (Nat.le_of_ble_eq_true rfl) (Nat.le_of_ble_eq_true rfl) ?_
            refine sp_faultIn (i := 32) (Or.inr (Or.inl rfl)) e0 e1 e2 hm hb ?_
            refine e_istore (pc := 30) dX5_lay_30 (by decide) rfl ?_
            refine e_iload (pc := 32) dX5_lay_32 rfl ?_
            refine e_if_eq (pc := 34) (tgt := 43) dX5_lay_34 (by decide) (fun h34 => ?_) (fun h34 => absurd (by decide) h34)
            refine e_aload_n (pc := 43) (i := 0) dX5_lay_43 rfl rfl ?_
            refine e_getR (pc := 44) dX5_lay_44 (fX5_49 rfl) sh_0 rfl ?_
            refine e_iload_n (pc := 47) (i := 1) dX5_lay_47 rfl rfl ?_
            refine e_aald (pc := 48) (r := 32) dX5_lay_48 sh_29 (vp_in_nI (by decide) (by decide)) (by decide) ?_
            refine e_iload_n (pc := 49) (i := 2) dX5_lay_49 rfl rfl ?_
            refine e_iload_n (pc := 50) (i := 3) dX5_lay_50 rfl rfl ?_
            refine e_callV2 (pc := 51) (M' := mX2_put) dX5_lay_51 iX2_put lkX5_230 (by decide) (sI_r (Or.inr (Or.inl rfl))) (Nat.le_of_ble_eq_true rfl) (Nat.le_of_ble_eq_true rfl) ?_
            refine sp_put (i := 32) (Or.inr (Or.inl rfl)) e1 (by omega) (by omega) ?_
            refine e_iconst' (pc := 54) (nI 1) dX5_lay_54 (by decide) ?_
            refine e_iret (pc := 55) (st := []) (ty := .int) dX5_lay_55 rfl rfl ?_
            refine ⟨_, rfl, ?_⟩
            show E sc mX6_lay 0 [.ref 54, .int (nI 1), .int (nI b), .int z] [] _ _
            refine e_iload_n (pc := 0) (i := 1) dX6_lay_0 rfl rfl ?_
            refine e_i2l (pc := 1) dX6_lay_1 ?_
            refine e_lconst' (pc := 2) (lN 0) dX6_lay_2 (by decide) ?_
            refine e_ldc2 (pc := 3) dX6_lay_3 (klX6_148 rfl) ?_
            refine e_callS3 (pc := 6) (M' := mX6_in) dX6_lay_6 jX6_in lkX6_46 (by decide) (Nat.le_of_ble_eq_true rfl) (Nat.le_of_ble_eq_true rfl) ?_
            refine sp_inY (lo := 0) (hi := 3) (by decide) (by decide) (by omega) (by omega) (by omega) ?_
            refine e_if_ne (pc := 9) (tgt := 14) dX6_lay_9 (by decide) (fun h9 => ?_) (fun h9 => absurd h9 (by decide))
            refine e_aload_n (pc := 14) (i := 0) dX6_lay_14 rfl rfl ?_
            refine e_getR (pc := 15) dX6_lay_15 (fX6_35 rfl) sh_54 rfl ?_
            refine e_iload_n (pc := 18) (i := 1) dX6_lay_18 rfl rfl ?_
            refine e_iald (pc := 19) dX6_lay_19 sh_63 (vp_in_nI (by decide) (by decide)) ?_
            refine E.it (nI 1) f0 ?_
            refine e_bipush' (pc := 20) (-4) dX6_lay_20 (by decide) ?_
            refine e_icmp_ne (pc := 22) (tgt := 28) dX6_lay_22 (by decide) (fun h22 => ?_) (fun h22 => absurd h22 (by decide))
            refine e_iload_n (pc := 28) (i := 2) dX6_lay_28 rfl rfl ?_
            refine e_i2l (pc := 29) dX6_lay_29 ?_
            refine e_lconst' (pc := 30) (lN 0) dX6_lay_30 (by decide) ?_
            refine e_aload_n (pc := 31) (i := 0) dX6_lay_31 rfl rfl ?_
            refine e_getR (pc := 32) dX6_lay_32 (fX6_38 rfl) sh_54 rfl ?_
            refine e_iload_n (pc := 35) (i := 1) dX6_lay_35 rfl rfl ?_
            refine e_iald (pc := 36) dX6_lay_36 sh_64 (vp_in_nI (by decide) (by decide)) ?_
            refine E.it (nI m) f1 ?_
            refine e_iconst' (pc := 37) (nI 1) dX6_lay_37 (by decide) ?_
            refine e_isub (pc := 38) dX6_lay_38 ?_
            refine e_i2l (pc := 39) dX6_lay_39 ?_
            refine e_callS3 (pc := 40) (M' := mX6_in) dX6_lay_40 jX6_in lkX6_46 (by decide) (Nat.le_of_ble_eq_true rfl) (Nat.le_of_ble_eq_true rfl) ?_
            refine sp_inI (lo := 0) (hi := (m : Int) - 1) (by decide) (by rw [Int32.toInt_toInt64, pk_sub_toInt (by omega) (by decide)]; rfl) (fun _ _ _ _ _ => ?_) (fun h => (h b (by omega) rfl (by omega) (by omega)).elim)
            refine e_if_ne (pc := 43) (tgt := 49) dX6_lay_43 (by decide) (fun h43 => ?_) (fun h43 => absurd h43 (by decide))
            refine e_aload_n (pc := 49) (i := 0) dX6_lay_49 rfl rfl ?_
            refine e_getR (pc := 50) dX6_lay_50 (fX6_41 rfl) sh_54 rfl ?_
            refine e_bipush' (pc := 53) (nI 40) dX6_lay_53 (by decide) ?_
            refine e_iload_n (pc := 55) (i := 1) dX6_lay_55 rfl rfl ?_
            refine e_imul (pc := 56) dX6_lay_56 ?_
            refine E.it (nI 40) (pk_mul _ _) ?_
            refine e_iload_n (pc := 57) (i := 2) dX6_lay_57 rfl rfl ?_
            refine e_iadd (pc := 58) dX6_lay_58 ?_
            refine E.it (nI (40 + b)) (nI_add _ _) ?_
            refine e_aload_n (pc := 59) (i := 0) dX6_lay_59 rfl rfl ?_
            refine e_getR (pc := 60) dX6_lay_60 (fX6_35 rfl) sh_54 rfl ?_
            refine e_iload_n (pc := 63) (i := 1) dX6_lay_63 rfl rfl ?_
            refine e_iald (pc := 64) dX6_lay_64 sh_63 (vp_in_nI (by decide) (by decide)) ?_
            refine E.it (nI 1) f0 ?_
            refine e_if_ne (pc := 65) (tgt := 78) dX6_lay_65 (by decide) (fun h65 => ?_) (fun h65 => absurd h65 (by decide))
            refine e_aload_n (pc := 78) (i := 0) dX6_lay_78 rfl rfl ?_
            refine e_getR (pc := 79) dX6_lay_79 (fX6_35 rfl) sh_54 rfl ?_
            refine e_iload_n (pc := 82) (i := 1) dX6_lay_82 rfl rfl ?_
            refine e_iald (pc := 83) dX6_lay_83 sh_63 (vp_in_nI (by decide) (by decide)) ?_
            refine E.it (nI 1) f0 ?_
            refine e_iconst' (pc := 84) (nI 1) dX6_lay_84 (by decide) ?_
            refine e_icmp_ne (pc := 85) (tgt := 98) dX6_lay_85 (by decide) (fun h85 => absurd (by decide) h85) (fun h85 => ?_)
            refine e_iload_n (pc := 88) (i := 3) dX6_lay_88 rfl rfl ?_
            refine e_bipush' (pc := 89) (nI 16) dX6_lay_89 (by decide) ?_
            refine e_ishl (pc := 91) dX6_lay_91 ?_
            refine e_bipush' (pc := 92) (nI 16) dX6_lay_92 (by decide) ?_
            refine e_ishr (pc := 94) dX6_lay_94 ?_
            refine E.it (z.toInt16.toInt32) (sh16 z) ?_
            refine e_goto (pc := 95) (tgt := 99) dX6_lay_95 (by decide) ?_
            refine e_iast (pc := 99) dX6_lay_99 sh_65 (vp_in_nI (by omega) (by omega)) ?_
            refine e_iconst' (pc := 100) (nI 1) dX6_lay_100 (by decide) ?_
            refine e_iret (pc := 101) (st := []) (ty := .int) dX6_lay_101 rfl rfl ?_
            rw [nI_clamp (show 40 + b < 2 ^ 31 by omega)]
            refine ⟨rfl, Inv_sheet hI (fun j h1 h2 h3 h4 => ?_) (fun q hq4 => ?_)⟩
            · show up2 (up2 S.1 33 b z.toInt16.toInt32) 65 (40 + b) _ j = _; rw [up2_ne _ _ _ h4, up2_ne _ _ _ (by omega)]
            · by_cases e : q = 1
              · subst e
                refine Or.inr ⟨1, m, hl, hm, e0, e1, e2, f0, f1, fun x hx => ?_⟩
                have g1 : up2 (up2 S.1 33 b z.toInt16.toInt32) 65 (40 + b) z.toInt16.toInt32 33 x = if x = b then z.toInt16.toInt32 else S.1 33 x := by rw [up2_ne _ _ _ (by decide), up2_at]
                have g2 : up2 (up2 S.1 33 b z.toInt16.toInt32) 65 (40 + b) z.toInt16.toInt32 65 (40 + x) = if 40 + x = 40 + b then z.toInt16.toInt32 else S.1 65 (40 + x) := by rw [up2_at]; rfl
                refine Eq.trans g1 (Eq.trans ?_ g2.symm)
                by_cases ex : x = b
                · rw [if_pos ex, if_pos (by omega)]
                · rw [if_neg ex, if_neg (by omega)]; exact ec x hx
              · refine I6.of (S := S) ?_ ?_ rfl rfl (fun x hx => ?_) (hI.2.2.2.2.2.1 q hq4)
                · show up2 (up2 S.1 33 b z.toInt16.toInt32) 65 (40 + b) z.toInt16.toInt32 (30 + 2 * q) = _; rw [up2_ne _ _ _ (by omega), up2_ne _ _ _ (by omega)]
                · show up2 (up2 S.1 33 b z.toInt16.toInt32) 65 (40 + b) z.toInt16.toInt32 (31 + 2 * q) = _; rw [up2_ne _ _ _ (by omega), up2_ne _ _ _ (by omega)]
                · show up2 (up2 S.1 33 b z.toInt16.toInt32) 65 (40 + b) z.toInt16.toInt32 65 (40 * q + x) = _; rw [up2_at]; exact (if_neg (by omega)).trans rfl
          · show E sc mX5_lay 0 [.ref 0, .int (nI 1), .int (nI b), .int z, .null] [] S _
            refine e_iload_n (pc := 0) (i := 1) dX5_lay_0 rfl rfl ?_
            refine e_iconst' (pc := 1) (nI 0) dX5_lay_1 (by decide) ?_
            refine e_iconst' (pc := 2) (nI 3) dX5_lay_2 (by decide) ?_
            refine e_callS3 (pc := 3) (M' := mX5_within) dX5_lay_3 jX5_within lkX5_70 (by decide) (Nat.le_of_ble_eq_true rfl) (Nat.le_of_ble_eq_true rfl) ?_
            refine sp_winY (by omega) (by omega) (by omega) ?_
            refine e_if_ne (pc := 6) (tgt := 11) dX5_lay_6 (by decide) (fun h6 => ?_) (fun h6 => absurd h6 (by decide))
            refine e_aload_n (pc := 11) (i := 0) dX5_lay_11 rfl rfl ?_
            refine e_getR (pc := 12) dX5_lay_12 (fX5_49 rfl) sh_0 rfl ?_
            refine e_iload_n (pc := 15) (i := 1) dX5_lay_15 rfl rfl ?_
            refine e_aald (pc := 16) (r := 32) dX5_lay_16 sh_29 (vp_in_nI (by decide) (by decide)) (by decide) ?_
            refine e_aload_n (pc := 17) (i := 0) dX5_lay_17 rfl rfl ?_
            refine e_getR (pc := 18) dX5_lay_18 (fX5_49 rfl) sh_0 rfl ?_
            refine e_iload_n (pc := 21) (i := 1) dX5_lay_21 rfl rfl ?_
            refine e_aald (pc := 22) (r := 32) dX5_lay_22 sh_29 (vp_in_nI (by decide) (by decide)) (by decide) ?_
            refine e_getI (pc := 23) dX5_lay_23 (fX5_224 rfl) (sI_sh (Or.inr (Or.inl rfl))) rfl ?_
            refine E.it (nI 2) e1 ?_
            refine e_iload_n (pc := 26) (i := 2) dX5_lay_26 rfl rfl ?_
            refine e_callV2 (pc := 27) (M' := mX2_faultAt) dX5_lay_27 iX2_faultAt lkX5_227 (by decide) (sI_r (Or.inr (Or.inl rfl))) (Nat.le_of_ble_eq_true rfl) (Nat.le_of_ble_eq_true rfl) ?_
            refine sp_faultIn (i := 32) (Or.inr (Or.inl rfl)) e0 e1 e2 hm hb ?_
            refine e_istore (pc := 30) dX5_lay_30 (by decide) rfl ?_
            refine e_iload (pc := 32) dX5_lay_32 rfl ?_
            refine e_if_eq (pc := 34) (tgt := 43) dX5_lay_34 (by decide) (fun h34 => ?_) (fun h34 => absurd (by decide) h34)
            refine e_aload_n (pc := 43) (i := 0) dX5_lay_43 rfl rfl ?_
            refine e_getR (pc := 44) dX5_lay_44 (fX5_49 rfl) sh_0 rfl ?_
            refine e_iload_n (pc := 47) (i := 1) dX5_lay_47 rfl rfl ?_
            refine e_aald (pc := 48) (r := 32) dX5_lay_48 sh_29 (vp_in_nI (by decide) (by decide)) (by decide) ?_
            refine e_iload_n (pc := 49) (i := 2) dX5_lay_49 rfl rfl ?_
            refine e_iload_n (pc := 50) (i := 3) dX5_lay_50 rfl rfl ?_
            refine e_callV2 (pc := 51) (M' := mX2_put) dX5_lay_51 iX2_put lkX5_230 (by decide) (sI_r (Or.inr (Or.inl rfl))) (Nat.le_of_ble_eq_true rfl) (Nat.le_of_ble_eq_true rfl) ?_
            refine sp_put (i := 32) (Or.inr (Or.inl rfl)) e1 (by omega) (by omega) ?_
            refine e_iconst' (pc := 54) (nI 1) dX5_lay_54 (by decide) ?_
            refine e_iret (pc := 55) (st := []) (ty := .int) dX5_lay_55 rfl rfl ?_
            refine ⟨_, rfl, ?_⟩
            show E sc mX6_lay 0 [.ref 54, .int (nI 1), .int (nI b), .int z] [] _ _
            refine e_iload_n (pc := 0) (i := 1) dX6_lay_0 rfl rfl ?_
            refine e_i2l (pc := 1) dX6_lay_1 ?_
            refine e_lconst' (pc := 2) (lN 0) dX6_lay_2 (by decide) ?_
            refine e_ldc2 (pc := 3) dX6_lay_3 (klX6_148 rfl) ?_
            refine e_callS3 (pc := 6) (M' := mX6_in) dX6_lay_6 jX6_in lkX6_46 (by decide) (Nat.le_of_ble_eq_true rfl) (Nat.le_of_ble_eq_true rfl) ?_
            refine sp_inY (lo := 0) (hi := 3) (by decide) (by decide) (by omega) (by omega) (by omega) ?_
            refine e_if_ne (pc := 9) (tgt := 14) dX6_lay_9 (by decide) (fun h9 => ?_) (fun h9 => absurd h9 (by decide))
            refine e_aload_n (pc := 14) (i := 0) dX6_lay_14 rfl rfl ?_
            refine e_getR (pc := 15) dX6_lay_15 (fX6_35 rfl) sh_54 rfl ?_
            refine e_iload_n (pc := 18) (i := 1) dX6_lay_18 rfl rfl ?_
            refine e_iald (pc := 19) dX6_lay_19 sh_63 (vp_in_nI (by decide) (by decide)) ?_
            refine E.it (nI 2) f0 ?_
            refine e_bipush' (pc := 20) (-4) dX6_lay_20 (by decide) ?_
            refine e_icmp_ne (pc := 22) (tgt := 28) dX6_lay_22 (by decide) (fun h22 => ?_) (fun h22 => absurd h22 (by decide))
            refine e_iload_n (pc := 28) (i := 2) dX6_lay_28 rfl rfl ?_
            refine e_i2l (pc := 29) dX6_lay_29 ?_
            refine e_lconst' (pc := 30) (lN 0) dX6_lay_30 (by decide) ?_
            refine e_aload_n (pc := 31) (i := 0) dX6_lay_31 rfl rfl ?_
            refine e_getR (pc := 32) dX6_lay_32 (fX6_38 rfl) sh_54 rfl ?_
            refine e_iload_n (pc := 35) (i := 1) dX6_lay_35 rfl rfl ?_
            refine e_iald (pc := 36) dX6_lay_36 sh_64 (vp_in_nI (by decide) (by decide)) ?_
            refine E.it (nI m) f1 ?_
            refine e_iconst' (pc := 37) (nI 1) dX6_lay_37 (by decide) ?_
            refine e_isub (pc := 38) dX6_lay_38 ?_
            refine e_i2l (pc := 39) dX6_lay_39 ?_
            refine e_callS3 (pc := 40) (M' := mX6_in) dX6_lay_40 jX6_in lkX6_46 (by decide) (Nat.le_of_ble_eq_true rfl) (Nat.le_of_ble_eq_true rfl) ?_
            refine sp_inI (lo := 0) (hi := (m : Int) - 1) (by decide) (by rw [Int32.toInt_toInt64, pk_sub_toInt (by omega) (by decide)]; rfl) (fun _ _ _ _ _ => ?_) (fun h => (h b (by omega) rfl (by omega) (by omega)).elim)
            refine e_if_ne (pc := 43) (tgt := 49) dX6_lay_43 (by decide) (fun h43 => ?_) (fun h43 => absurd h43 (by decide))
            refine e_aload_n (pc := 49) (i := 0) dX6_lay_49 rfl rfl ?_
            refine e_getR (pc := 50) dX6_lay_50 (fX6_41 rfl) sh_54 rfl ?_
            refine e_bipush' (pc := 53) (nI 40) dX6_lay_53 (by decide) ?_
            refine e_iload_n (pc := 55) (i := 1) dX6_lay_55 rfl rfl ?_
            refine e_imul (pc := 56) dX6_lay_56 ?_
            refine E.it (nI 40) (pk_mul _ _) ?_
            refine e_iload_n (pc := 57) (i := 2) dX6_lay_57 rfl rfl ?_
            refine e_iadd (pc := 58) dX6_lay_58 ?_
            refine E.it (nI (40 + b)) (nI_add _ _) ?_
            refine e_aload_n (pc := 59) (i := 0) dX6_lay_59 rfl rfl ?_
            refine e_getR (pc := 60) dX6_lay_60 (fX6_35 rfl) sh_54 rfl ?_
            refine e_iload_n (pc := 63) (i := 1) dX6_lay_63 rfl rfl ?_
            refine e_iald (pc := 64) dX6_lay_64 sh_63 (vp_in_nI (by decide) (by decide)) ?_
            refine E.it (nI 2) f0 ?_
            refine e_if_ne (pc := 65) (tgt := 78) dX6_lay_65 (by decide) (fun h65 => ?_) (fun h65 => absurd h65 (by decide))
            refine e_aload_n (pc := 78) (i := 0) dX6_lay_78 rfl rfl ?_
            refine e_getR (pc := 79) dX6_lay_79 (fX6_35 rfl) sh_54 rfl ?_
            refine e_iload_n (pc := 82) (i := 1) dX6_lay_82 rfl rfl ?_
            refine e_iald (pc := 83) dX6_lay_83 sh_63 (vp_in_nI (by decide) (by decide)) ?_
            refine E.it (nI 2) f0 ?_
            refine e_iconst' (pc := 84) (nI 1) dX6_lay_84 (by decide) ?_
            refine e_icmp_ne (pc := 85) (tgt := 98) dX6_lay_85 (by decide) (fun h85 => ?_) (fun h85 => absurd h85 (by decide))
            refine e_iload_n (pc := 98) (i := 3) dX6_lay_98 rfl rfl ?_
            refine e_iast (pc := 99) dX6_lay_99 sh_65 (vp_in_nI (by omega) (by omega)) ?_
            refine e_iconst' (pc := 100) (nI 1) dX6_lay_100 (by decide) ?_
            refine e_iret (pc := 101) (st := []) (ty := .int) dX6_lay_101 rfl rfl ?_
            rw [nI_clamp (show 40 + b < 2 ^ 31 by omega)]
            refine ⟨rfl, Inv_sheet hI (fun j h1 h2 h3 h4 => ?_) (fun q hq4 => ?_)⟩
            · show up2 (up2 S.1 33 b z) 65 (40 + b) _ j = _; rw [up2_ne _ _ _ h4, up2_ne _ _ _ (by omega)]
            · by_cases e : q = 1
              · subst e
                refine Or.inr ⟨2, m, hl, hm, e0, e1, e2, f0, f1, fun x hx => ?_⟩
                have g1 : up2 (up2 S.1 33 b z) 65 (40 + b) z 33 x = if x = b then z else S.1 33 x := by rw [up2_ne _ _ _ (by decide), up2_at]
                have g2 : up2 (up2 S.1 33 b z) 65 (40 + b) z 65 (40 + x) = if 40 + x = 40 + b then z else S.1 65 (40 + x) := by rw [up2_at]; rfl
                refine Eq.trans g1 (Eq.trans ?_ g2.symm)
                by_cases ex : x = b
                · rw [if_pos ex, if_pos (by omega)]
                · rw [if_neg ex, if_neg (by omega)]; exact ec x hx
              · refine I6.of (S := S) ?_ ?_ rfl rfl (fun x hx => ?_) (hI.2.2.2.2.2.1 q hq4)
                · show up2 (up2 S.1 33 b z) 65 (40 + b) z (30 + 2 * q) = _; rw [up2_ne _ _ _ (by omega), up2_ne _ _ _ (by omega)]
                · show up2 (up2 S.1 33 b z) 65 (40 + b) z (31 + 2 * q) = _; rw [up2_ne _ _ _ (by omega), up2_ne _ _ _ (by omega)]
                · show up2 (up2 S.1 33 b z) 65 (40 + b) z 65 (40 * q + x) = _; rw [up2_at]; exact (if_neg (by omega)).trans rfl
        · refine ask_both (-12) hI (fun Q k => ?_) (fun S1 h1 Q k => ?_)
          · show E sc mX5_lay 0 [.ref 0, .int (nI 1), .int y, .int z, .null] [] S Q
            refine e_iload_n (pc := 0) (i := 1) dX5_lay_0 rfl rfl ?_
            refine e_iconst' (pc := 1) (nI 0) dX5_lay_1 (by decide) ?_
            refine e_iconst' (pc := 2) (nI 3) dX5_lay_2 (by decide) ?_
            refine e_callS3 (pc := 3) (M' := mX5_within) dX5_lay_3 jX5_within lkX5_70 (by decide) (Nat.le_of_ble_eq_true rfl) (Nat.le_of_ble_eq_true rfl) ?_
            refine sp_winY (by omega) (by omega) (by omega) ?_
            refine e_if_ne (pc := 6) (tgt := 11) dX5_lay_6 (by decide) (fun h6 => ?_) (fun h6 => absurd h6 (by decide))
            refine e_aload_n (pc := 11) (i := 0) dX5_lay_11 rfl rfl ?_
            refine e_getR (pc := 12) dX5_lay_12 (fX5_49 rfl) sh_0 rfl ?_
            refine e_iload_n (pc := 15) (i := 1) dX5_lay_15 rfl rfl ?_
            refine e_aald (pc := 16) (r := 32) dX5_lay_16 sh_29 (vp_in_nI (by decide) (by decide)) (by decide) ?_
            refine e_aload_n (pc := 17) (i := 0) dX5_lay_17 rfl rfl ?_
            refine e_getR (pc := 18) dX5_lay_18 (fX5_49 rfl) sh_0 rfl ?_
            refine e_iload_n (pc := 21) (i := 1) dX5_lay_21 rfl rfl ?_
            refine e_aald (pc := 22) (r := 32) dX5_lay_22 sh_29 (vp_in_nI (by decide) (by decide)) (by decide) ?_
            refine e_getI (pc := 23) dX5_lay_23 (fX5_224 rfl) (sI_sh (Or.inr (Or.inl rfl))) rfl ?_
            refine E.it (nI l) e1 ?_
            refine e_iload_n (pc := 26) (i := 2) dX5_lay_26 rfl rfl ?_
            refine e_callV2 (pc := 27) (M' := mX2_faultAt) dX5_lay_27 iX2_faultAt lkX5_227 (by decide) (sI_r (Or.inr (Or.inl rfl))) (Nat.le_of_ble_eq_true rfl) (Nat.le_of_ble_eq_true rfl) ?_
            refine sp_faultOut (i := 32) (Or.inr (Or.inl rfl)) e0 e1 e2 hm hn ?_
            refine e_istore (pc := 30) dX5_lay_30 (by decide) rfl ?_
            refine e_iload (pc := 32) dX5_lay_32 rfl ?_
            refine e_if_eq (pc := 34) (tgt := 43) dX5_lay_34 (by decide) (fun h34 => absurd h34 (by decide)) (fun h34 => ?_)
            refine e_bipush' (pc := 37) (-10) dX5_lay_37 (by decide) ?_
            refine e_iload (pc := 39) dX5_lay_39 rfl ?_
            refine e_isub (pc := 41) dX5_lay_41 ?_
            refine E.it (-12) (by decide) ?_
            refine e_iret (pc := 42) (st := []) (ty := .int) dX5_lay_42 rfl rfl ?_
            exact k _ Same.rf
          · show E sc mX6_lay 0 [.ref 54, .int (nI 1), .int y, .int z] [] S1 Q
            have hp := h1.pg (by omega) hv hp
            have hr := h1.row (by omega) hr
            refine e_iload_n (pc := 0) (i := 1) dX6_lay_0 rfl rfl ?_
            refine e_i2l (pc := 1) dX6_lay_1 ?_
            refine e_lconst' (pc := 2) (lN 0) dX6_lay_2 (by decide) ?_
            refine e_ldc2 (pc := 3) dX6_lay_3 (klX6_148 rfl) ?_
            refine e_callS3 (pc := 6) (M' := mX6_in) dX6_lay_6 jX6_in lkX6_46 (by decide) (Nat.le_of_ble_eq_true rfl) (Nat.le_of_ble_eq_true rfl) ?_
            refine sp_inY (lo := 0) (hi := 3) (by decide) (by decide) (by omega) (by omega) (by omega) ?_
            refine e_if_ne (pc := 9) (tgt := 14) dX6_lay_9 (by decide) (fun h9 => ?_) (fun h9 => absurd h9 (by decide))
            refine e_aload_n (pc := 14) (i := 0) dX6_lay_14 rfl rfl ?_
            refine e_getR (pc := 15) dX6_lay_15 (fX6_35 rfl) sh_54 rfl ?_
            refine e_iload_n (pc := 18) (i := 1) dX6_lay_18 rfl rfl ?_
            refine e_iald (pc := 19) dX6_lay_19 sh_63 (vp_in_nI (by decide) (by decide)) ?_
            refine E.it (nI l) (by show S1.1 63 1 = _; rw [h1.2.2.2 63 (by omega)]; exact f0) ?_
            refine e_bipush' (pc := 20) (-4) dX6_lay_20 (by decide) ?_
            refine e_icmp_ne (pc := 22) (tgt := 28) dX6_lay_22 (by decide) (fun h22 => ?_) (fun h22 => absurd h22 (fun q => absurd (congrArg Int32.toInt q) (by rw [nI_toInt (by omega)]; show ¬ (l : Int) = -4; omega)))
            refine e_iload_n (pc := 28) (i := 2) dX6_lay_28 rfl rfl ?_
            refine e_i2l (pc := 29) dX6_lay_29 ?_
            refine e_lconst' (pc := 30) (lN 0) dX6_lay_30 (by decide) ?_
            refine e_aload_n (pc := 31) (i := 0) dX6_lay_31 rfl rfl ?_
            refine e_getR (pc := 32) dX6_lay_32 (fX6_38 rfl) sh_54 rfl ?_
            refine e_iload_n (pc := 35) (i := 1) dX6_lay_35 rfl rfl ?_
            refine e_iald (pc := 36) dX6_lay_36 sh_64 (vp_in_nI (by decide) (by decide)) ?_
            refine E.it (nI m) (by show S1.1 64 1 = _; rw [h1.2.2.2 64 (by omega)]; exact f1) ?_
            refine e_iconst' (pc := 37) (nI 1) dX6_lay_37 (by decide) ?_
            refine e_isub (pc := 38) dX6_lay_38 ?_
            refine e_i2l (pc := 39) dX6_lay_39 ?_
            refine e_callS3 (pc := 40) (M' := mX6_in) dX6_lay_40 jX6_in lkX6_46 (by decide) (Nat.le_of_ble_eq_true rfl) (Nat.le_of_ble_eq_true rfl) ?_
            refine sp_inI (lo := 0) (hi := (m : Int) - 1) (by decide) (by rw [Int32.toInt_toInt64, pk_sub_toInt (by omega) (by decide)]; rfl) (fun b hb e g1 g2 => (hn ⟨b, e, by omega⟩).elim) (fun _ => ?_)
            refine e_if_ne (pc := 43) (tgt := 49) dX6_lay_43 (by decide) (fun h43 => absurd (by decide) h43) (fun h43 => ?_)
            refine e_bipush' (pc := 46) (-12) dX6_lay_46 (by decide) ?_
            refine e_iret (pc := 48) (st := []) (ty := .int) dX6_lay_48 rfl rfl ?_
            exact k _ Same.rf
    · rcases hI.2.2.2.2.2.1 2 (by omega) with ⟨e0, f0⟩ | ⟨l, m, hl, hm, e0, e1, e2, f0, f1, ec⟩
      · refine ask_both (-11) hI (fun Q k => ?_) (fun S1 h1 Q k => ?_)
        · show E sc mX5_lay 0 [.ref 0, .int (nI 2), .int y, .int z, .null] [] S Q
          refine e_iload_n (pc := 0) (i := 1) dX5_lay_0 rfl rfl ?_
          refine e_iconst' (pc := 1) (nI 0) dX5_lay_1 (by decide) ?_
          refine e_iconst' (pc := 2) (nI 3) dX5_lay_2 (by decide) ?_
          refine e_callS3 (pc := 3) (M' := mX5_within) dX5_lay_3 jX5_within lkX5_70 (by decide) (Nat.le_of_ble_eq_true rfl) (Nat.le_of_ble_eq_true rfl) ?_
          refine sp_winY (by omega) (by omega) (by omega) ?_
          refine e_if_ne (pc := 6) (tgt := 11) dX5_lay_6 (by decide) (fun h6 => ?_) (fun h6 => absurd h6 (by decide))
          refine e_aload_n (pc := 11) (i := 0) dX5_lay_11 rfl rfl ?_
          refine e_getR (pc := 12) dX5_lay_12 (fX5_49 rfl) sh_0 rfl ?_
          refine e_iload_n (pc := 15) (i := 1) dX5_lay_15 rfl rfl ?_
          refine e_aald (pc := 16) (r := 34) dX5_lay_16 sh_29 (vp_in_nI (by decide) (by decide)) (by decide) ?_
          refine e_aload_n (pc := 17) (i := 0) dX5_lay_17 rfl rfl ?_
          refine e_getR (pc := 18) dX5_lay_18 (fX5_49 rfl) sh_0 rfl ?_
          refine e_iload_n (pc := 21) (i := 1) dX5_lay_21 rfl rfl ?_
          refine e_aald (pc := 22) (r := 34) dX5_lay_22 sh_29 (vp_in_nI (by decide) (by decide)) (by decide) ?_
          refine e_getI (pc := 23) dX5_lay_23 (fX5_224 rfl) (sI_sh (Or.inr (Or.inr (Or.inl rfl)))) rfl ?_
          refine e_iload_n (pc := 26) (i := 2) dX5_lay_26 rfl rfl ?_
          refine e_callV2 (pc := 27) (M' := mX2_faultAt) dX5_lay_27 iX2_faultAt lkX5_227 (by decide) (sI_r (Or.inr (Or.inr (Or.inl rfl)))) (Nat.le_of_ble_eq_true rfl) (Nat.le_of_ble_eq_true rfl) ?_
          refine sp_faultNull (i := 34) (Or.inr (Or.inr (Or.inl rfl))) e0 ?_
          refine e_istore (pc := 30) dX5_lay_30 (by decide) rfl ?_
          refine e_iload (pc := 32) dX5_lay_32 rfl ?_
          refine e_if_eq (pc := 34) (tgt := 43) dX5_lay_34 (by decide) (fun h34 => absurd h34 (by decide)) (fun h34 => ?_)
          refine e_bipush' (pc := 37) (-10) dX5_lay_37 (by decide) ?_
          refine e_iload (pc := 39) dX5_lay_39 rfl ?_
          refine e_isub (pc := 41) dX5_lay_41 ?_
          refine E.it (-11) (by decide) ?_
          refine e_iret (pc := 42) (st := []) (ty := .int) dX5_lay_42 rfl rfl ?_
          exact k _ Same.rf
        · show E sc mX6_lay 0 [.ref 54, .int (nI 2), .int y, .int z] [] S1 Q
          have hp := h1.pg (by omega) hv hp
          have hr := h1.row (by omega) hr
          refine e_iload_n (pc := 0) (i := 1) dX6_lay_0 rfl rfl ?_
          refine e_i2l (pc := 1) dX6_lay_1 ?_
          refine e_lconst' (pc := 2) (lN 0) dX6_lay_2 (by decide) ?_
          refine e_ldc2 (pc := 3) dX6_lay_3 (klX6_148 rfl) ?_
          refine e_callS3 (pc := 6) (M' := mX6_in) dX6_lay_6 jX6_in lkX6_46 (by decide) (Nat.le_of_ble_eq_true rfl) (Nat.le_of_ble_eq_true rfl) ?_
          refine sp_inY (lo := 0) (hi := 3) (by decide) (by decide) (by omega) (by omega) (by omega) ?_
          refine e_if_ne (pc := 9) (tgt := 14) dX6_lay_9 (by decide) (fun h9 => ?_) (fun h9 => absurd h9 (by decide))
          refine e_aload_n (pc := 14) (i := 0) dX6_lay_14 rfl rfl ?_
          refine e_getR (pc := 15) dX6_lay_15 (fX6_35 rfl) sh_54 rfl ?_
          refine e_iload_n (pc := 18) (i := 1) dX6_lay_18 rfl rfl ?_
          refine e_iald (pc := 19) dX6_lay_19 sh_63 (vp_in_nI (by decide) (by decide)) ?_
          refine E.it (-4) (by show S1.1 63 2 = _; rw [h1.2.2.2 63 (by omega)]; exact f0) ?_
          refine e_bipush' (pc := 20) (-4) dX6_lay_20 (by decide) ?_
          refine e_icmp_ne (pc := 22) (tgt := 28) dX6_lay_22 (by decide) (fun h22 => absurd rfl h22) (fun h22 => ?_)
          refine e_bipush' (pc := 25) (-11) dX6_lay_25 (by decide) ?_
          refine e_iret (pc := 27) (st := []) (ty := .int) dX6_lay_27 rfl rfl ?_
          exact k _ Same.rf
      · rcases Classical.em (inw y m) with ⟨b, rfl, hb⟩ | hn
        · rcases (show l = 0 ∨ l = 1 ∨ l = 2 by omega) with rfl | rfl | rfl
          · show E sc mX5_lay 0 [.ref 0, .int (nI 2), .int (nI b), .int z, .null] [] S _
            refine e_iload_n (pc := 0) (i := 1) dX5_lay_0 rfl rfl ?_
            refine e_iconst' (pc := 1) (nI 0) dX5_lay_1 (by decide) ?_
            refine e_iconst' (pc := 2) (nI 3) dX5_lay_2 (by decide) ?_
            refine e_callS3 (pc := 3) (M' := mX5_within) dX5_lay_3 jX5_within lkX5_70 (by decide) (Nat.le_of_ble_eq_true rfl) (Nat.le_of_ble_eq_true rfl) ?_
            refine sp_winY (by omega) (by omega) (by omega) ?_
            refine e_if_ne (pc := 6) (tgt := 11) dX5_lay_6 (by decide) (fun h6 => ?_) (fun h6 => absurd h6 (by decide))
            refine e_aload_n (pc := 11) (i := 0) dX5_lay_11 rfl rfl ?_
            refine e_getR (pc := 12) dX5_lay_12 (fX5_49 rfl) sh_0 rfl ?_
            refine e_iload_n (pc := 15) (i := 1) dX5_lay_15 rfl rfl ?_
            refine e_aald (pc := 16) (r := 34) dX5_lay_16 sh_29 (vp_in_nI (by decide) (by decide)) (by decide) ?_
            refine e_aload_n (pc := 17) (i := 0) dX5_lay_17 rfl rfl ?_
            refine e_getR (pc := 18) dX5_lay_18 (fX5_49 rfl) sh_0 rfl ?_
            refine e_iload_n (pc := 21) (i := 1) dX5_lay_21 rfl rfl ?_
            refine e_aald (pc := 22) (r := 34) dX5_lay_22 sh_29 (vp_in_nI (by decide) (by decide)) (by decide) ?_
            refine e_getI (pc := 23) dX5_lay_23 (fX5_224 rfl) (sI_sh (Or.inr (Or.inr (Or.inl rfl)))) rfl ?_
            refine E.it (nI 0) e1 ?_
            refine e_iload_n (pc := 26) (i := 2) dX5_lay_26 rfl rfl ?_
            refine e_callV2 (pc := 27) (M' := mX2_faultAt) dX5_lay_27 iX2_faultAt lkX5_227 (by decide) (sI_r (Or.inr (Or.inr (Or.inl rfl)))) (Nat.le_of_ble_eq_true rfl) (Nat.le_of_ble_eq_true rfl) ?_
            refine sp_faultIn (i := 34) (Or.inr (Or.inr (Or.inl rfl))) e0 e1 e2 hm hb ?_
            refine e_istore (pc := 30) dX5_lay_30 (by decide) rfl ?_
            refine e_iload (pc := 32) dX5_lay_32 rfl ?_
            refine e_if_eq (pc := 34) (tgt := 43) dX5_lay_34 (by decide) (fun h34 => ?_) (fun h34 => absurd (by decide) h34)
            refine e_aload_n (pc := 43) (i := 0) dX5_lay_43 rfl rfl ?_
            refine e_getR (pc := 44) dX5_lay_44 (fX5_49 rfl) sh_0 rfl ?_
            refine e_iload_n (pc := 47) (i := 1) dX5_lay_47 rfl rfl ?_
            refine e_aald (pc := 48) (r := 34) dX5_lay_48 sh_29 (vp_in_nI (by decide) (by decide)) (by decide) ?_
            refine e_iload_n (pc := 49) (i := 2) dX5_lay_49 rfl rfl ?_
            refine e_iload_n (pc := 50) (i := 3) dX5_lay_50 rfl rfl ?_
            refine e_callV2 (pc := 51) (M' := mX2_put) dX5_lay_51 iX2_put lkX5_230 (by decide) (sI_r (Or.inr (Or.inr (Or.inl rfl)))) (Nat.le_of_ble_eq_true rfl) (Nat.le_of_ble_eq_true rfl) ?_
            refine sp_put (i := 34) (Or.inr (Or.inr (Or.inl rfl))) e1 (by omega) (by omega) ?_
            refine e_iconst' (pc := 54) (nI 1) dX5_lay_54 (by decide) ?_
            refine e_iret (pc := 55) (st := []) (ty := .int) dX5_lay_55 rfl rfl ?_
            refine ⟨_, rfl, ?_⟩
            show E sc mX6_lay 0 [.ref 54, .int (nI 2), .int (nI b), .int z] [] _ _
            refine e_iload_n (pc := 0) (i := 1) dX6_lay_0 rfl rfl ?_
            refine e_i2l (pc := 1) dX6_lay_1 ?_
            refine e_lconst' (pc := 2) (lN 0) dX6_lay_2 (by decide) ?_
            refine e_ldc2 (pc := 3) dX6_lay_3 (klX6_148 rfl) ?_
            refine e_callS3 (pc := 6) (M' := mX6_in) dX6_lay_6 jX6_in lkX6_46 (by decide) (Nat.le_of_ble_eq_true rfl) (Nat.le_of_ble_eq_true rfl) ?_
            refine sp_inY (lo := 0) (hi := 3) (by decide) (by decide) (by omega) (by omega) (by omega) ?_
            refine e_if_ne (pc := 9) (tgt := 14) dX6_lay_9 (by decide) (fun h9 => ?_) (fun h9 => absurd h9 (by decide))
            refine e_aload_n (pc := 14) (i := 0) dX6_lay_14 rfl rfl ?_
            refine e_getR (pc := 15) dX6_lay_15 (fX6_35 rfl) sh_54 rfl ?_
            refine e_iload_n (pc := 18) (i := 1) dX6_lay_18 rfl rfl ?_
            refine e_iald (pc := 19) dX6_lay_19 sh_63 (vp_in_nI (by decide) (by decide)) ?_
            refine E.it (nI 0) f0 ?_
            refine e_bipush' (pc := 20) (-4) dX6_lay_20 (by decide) ?_
            refine e_icmp_ne (pc := 22) (tgt := 28) dX6_lay_22 (by decide) (fun h22 => ?_) (fun h22 => absurd h22 (by decide))
            refine e_iload_n (pc := 28) (i := 2) dX6_lay_28 rfl rfl ?_
            refine e_i2l (pc := 29) dX6_lay_29 ?_
            refine e_lconst' (pc := 30) (lN 0) dX6_lay_30 (by decide) ?_
            refine e_aload_n (pc := 31) (i := 0) dX6_lay_31 rfl rfl ?_
            refine e_getR (pc := 32) dX6_lay_32 (fX6_38 rfl) sh_54 rfl ?_
            refine e_iload_n (pc := 35) (i := 1) dX6_lay_35 rfl rfl ?_
            refine e_iald (pc := 36) dX6_lay_36 sh_64 (vp_in_nI (by decide) (by decide)) ?_
            refine E.it (nI m) f1 ?_
            refine e_iconst' (pc := 37) (nI 1) dX6_lay_37 (by decide) ?_
            refine e_isub (pc := 38) dX6_lay_38 ?_
            refine e_i2l (pc := 39) dX6_lay_39 ?_
            refine e_callS3 (pc := 40) (M' := mX6_in) dX6_lay_40 jX6_in lkX6_46 (by decide) (Nat.le_of_ble_eq_true rfl) (Nat.le_of_ble_eq_true rfl) ?_
            refine sp_inI (lo := 0) (hi := (m : Int) - 1) (by decide) (by rw [Int32.toInt_toInt64, pk_sub_toInt (by omega) (by decide)]; rfl) (fun _ _ _ _ _ => ?_) (fun h => (h b (by omega) rfl (by omega) (by omega)).elim)
            refine e_if_ne (pc := 43) (tgt := 49) dX6_lay_43 (by decide) (fun h43 => ?_) (fun h43 => absurd h43 (by decide))
            refine e_aload_n (pc := 49) (i := 0) dX6_lay_49 rfl rfl ?_
            refine e_getR (pc := 50) dX6_lay_50 (fX6_41 rfl) sh_54 rfl ?_
            refine e_bipush' (pc := 53) (nI 40) dX6_lay_53 (by decide) ?_
            refine e_iload_n (pc := 55) (i := 1) dX6_lay_55 rfl rfl ?_
            refine e_imul (pc := 56) dX6_lay_56 ?_
            refine E.it (nI 80) (pk_mul _ _) ?_
            refine e_iload_n (pc := 57) (i := 2) dX6_lay_57 rfl rfl ?_
            refine e_iadd (pc := 58) dX6_lay_58 ?_
            refine E.it (nI (80 + b)) (nI_add _ _) ?_
            refine e_aload_n (pc := 59) (i := 0) dX6_lay_59 rfl rfl ?_
            refine e_getR (pc := 60) dX6_lay_60 (fX6_35 rfl) sh_54 rfl ?_
            refine e_iload_n (pc := 63) (i := 1) dX6_lay_63 rfl rfl ?_
            refine e_iald (pc := 64) dX6_lay_64 sh_63 (vp_in_nI (by decide) (by decide)) ?_
            refine E.it (nI 0) f0 ?_
            refine e_if_ne (pc := 65) (tgt := 78) dX6_lay_65 (by decide) (fun h65 => absurd (by decide) h65) (fun h65 => ?_)
            refine e_iload_n (pc := 68) (i := 3) dX6_lay_68 rfl rfl ?_
            refine e_bipush' (pc := 69) (nI 24) dX6_lay_69 (by decide) ?_
            refine e_ishl (pc := 71) dX6_lay_71 ?_
            refine e_bipush' (pc := 72) (nI 24) dX6_lay_72 (by decide) ?_
            refine e_ishr (pc := 74) dX6_lay_74 ?_
            refine E.it (z.toInt8.toInt32) (sh24 z) ?_
            refine e_goto (pc := 75) (tgt := 99) dX6_lay_75 (by decide) ?_
            refine e_iast (pc := 99) dX6_lay_99 sh_65 (vp_in_nI (by omega) (by omega)) ?_
            refine e_iconst' (pc := 100) (nI 1) dX6_lay_100 (by decide) ?_
            refine e_iret (pc := 101) (st := []) (ty := .int) dX6_lay_101 rfl rfl ?_
            rw [nI_clamp (show 80 + b < 2 ^ 31 by omega)]
            refine ⟨rfl, Inv_sheet hI (fun j h1 h2 h3 h4 => ?_) (fun q hq4 => ?_)⟩
            · show up2 (up2 S.1 35 b z.toInt8.toInt32) 65 (80 + b) _ j = _; rw [up2_ne _ _ _ h4, up2_ne _ _ _ (by omega)]
            · by_cases e : q = 2
              · subst e
                refine Or.inr ⟨0, m, hl, hm, e0, e1, e2, f0, f1, fun x hx => ?_⟩
                have g1 : up2 (up2 S.1 35 b z.toInt8.toInt32) 65 (80 + b) z.toInt8.toInt32 35 x = if x = b then z.toInt8.toInt32 else S.1 35 x := by rw [up2_ne _ _ _ (by decide), up2_at]
                have g2 : up2 (up2 S.1 35 b z.toInt8.toInt32) 65 (80 + b) z.toInt8.toInt32 65 (80 + x) = if 80 + x = 80 + b then z.toInt8.toInt32 else S.1 65 (80 + x) := by rw [up2_at]; rfl
                refine Eq.trans g1 (Eq.trans ?_ g2.symm)
                by_cases ex : x = b
                · rw [if_pos ex, if_pos (by omega)]
                · rw [if_neg ex, if_neg (by omega)]; exact ec x hx
              · refine I6.of (S := S) ?_ ?_ rfl rfl (fun x hx => ?_) (hI.2.2.2.2.2.1 q hq4)
                · show up2 (up2 S.1 35 b z.toInt8.toInt32) 65 (80 + b) z.toInt8.toInt32 (30 + 2 * q) = _; rw [up2_ne _ _ _ (by omega), up2_ne _ _ _ (by omega)]
                · show up2 (up2 S.1 35 b z.toInt8.toInt32) 65 (80 + b) z.toInt8.toInt32 (31 + 2 * q) = _; rw [up2_ne _ _ _ (by omega), up2_ne _ _ _ (by omega)]
                · show up2 (up2 S.1 35 b z.toInt8.toInt32) 65 (80 + b) z.toInt8.toInt32 65 (40 * q + x) = _; rw [up2_at]; exact (if_neg (by omega)).trans rfl
          · show E sc mX5_lay 0 [.ref 0, .int (nI 2), .int (nI b), .int z, .null] [] S _
            refine e_iload_n (pc := 0) (i := 1) dX5_lay_0 rfl rfl ?_
            refine e_iconst' (pc := 1) (nI 0) dX5_lay_1 (by decide) ?_
            refine e_iconst' (pc := 2) (nI 3) dX5_lay_2 (by decide) ?_
            refine e_callS3 (pc := 3) (M' := mX5_within) dX5_lay_3 jX5_within lkX5_70 (by decide) (Nat.le_of_ble_eq_true rfl) (Nat.le_of_ble_eq_true rfl) ?_
            refine sp_winY (by omega) (by omega) (by omega) ?_
            refine e_if_ne (pc := 6) (tgt := 11) dX5_lay_6 (by decide) (fun h6 => ?_) (fun h6 => absurd h6 (by decide))
            refine e_aload_n (pc := 11) (i := 0) dX5_lay_11 rfl rfl ?_
            refine e_getR (pc := 12) dX5_lay_12 (fX5_49 rfl) sh_0 rfl ?_
            refine e_iload_n (pc := 15) (i := 1) dX5_lay_15 rfl rfl ?_
            refine e_aald (pc := 16) (r := 34) dX5_lay_16 sh_29 (vp_in_nI (by decide) (by decide)) (by decide) ?_
            refine e_aload_n (pc := 17) (i := 0) dX5_lay_17 rfl rfl ?_
            refine e_getR (pc := 18) dX5_lay_18 (fX5_49 rfl) sh_0 rfl ?_
            refine e_iload_n (pc := 21) (i := 1) dX5_lay_21 rfl rfl ?_
            refine e_aald (pc := 22) (r := 34) dX5_lay_22 sh_29 (vp_in_nI (by decide) (by decide)) (by decide) ?_
            refine e_getI (pc := 23) dX5_lay_23 (fX5_224 rfl) (sI_sh (Or.inr (Or.inr (Or.inl rfl)))) rfl ?_
            refine E.it (nI 1) e1 ?_
            refine e_iload_n (pc := 26) (i := 2) dX5_lay_26 rfl rfl ?_
            refine e_callV2 (pc := 27) (M' := mX2_faultAt) dX5_lay_27 iX2_faultAt lkX5_227 (by decide) (sI_r (Or.inr (Or.inr (Or.inl rfl)))) (Nat.le_of_ble_eq_true rfl) (Nat.le_of_ble_eq_true rfl) ?_
            refine sp_faultIn (i := 34) (Or.inr (Or.inr (Or.inl rfl))) e0 e1 e2 hm hb ?_
            refine e_istore (pc := 30) dX5_lay_30 (by decide) rfl ?_
            refine e_iload (pc := 32) dX5_lay_32 rfl ?_
            refine e_if_eq (pc := 34) (tgt := 43) dX5_lay_34 (by decide) (fun h34 => ?_) (fun h34 => absurd (by decide) h34)
            refine e_aload_n (pc := 43) (i := 0) dX5_lay_43 rfl rfl ?_
            refine e_getR (pc := 44) dX5_lay_44 (fX5_49 rfl) sh_0 rfl ?_
            refine e_iload_n (pc := 47) (i := 1) dX5_lay_47 rfl rfl ?_
            refine e_aald (pc := 48) (r := 34) dX5_lay_48 sh_29 (vp_in_nI (by decide) (by decide)) (by decide) ?_
            refine e_iload_n (pc := 49) (i := 2) dX5_lay_49 rfl rfl ?_
            refine e_iload_n (pc := 50) (i := 3) dX5_lay_50 rfl rfl ?_
            refine e_callV2 (pc := 51) (M' := mX2_put) dX5_lay_51 iX2_put lkX5_230 (by decide) (sI_r (Or.inr (Or.inr (Or.inl rfl)))) (Nat.le_of_ble_eq_true rfl) (Nat.le_of_ble_eq_true rfl) ?_
            refine sp_put (i := 34) (Or.inr (Or.inr (Or.inl rfl))) e1 (by omega) (by omega) ?_
            refine e_iconst' (pc := 54) (nI 1) dX5_lay_54 (by decide) ?_
            refine e_iret (pc := 55) (st := []) (ty := .int) dX5_lay_55 rfl rfl ?_
            refine ⟨_, rfl, ?_⟩
            show E sc mX6_lay 0 [.ref 54, .int (nI 2), .int (nI b), .int z] [] _ _
            refine e_iload_n (pc := 0) (i := 1) dX6_lay_0 rfl rfl ?_
            refine e_i2l (pc := 1) dX6_lay_1 ?_
            refine e_lconst' (pc := 2) (lN 0) dX6_lay_2 (by decide) ?_
            refine e_ldc2 (pc := 3) dX6_lay_3 (klX6_148 rfl) ?_
            refine e_callS3 (pc := 6) (M' := mX6_in) dX6_lay_6 jX6_in lkX6_46 (by decide) (Nat.le_of_ble_eq_true rfl) (Nat.le_of_ble_eq_true rfl) ?_
            refine sp_inY (lo := 0) (hi := 3) (by decide) (by decide) (by omega) (by omega) (by omega) ?_
            refine e_if_ne (pc := 9) (tgt := 14) dX6_lay_9 (by decide) (fun h9 => ?_) (fun h9 => absurd h9 (by decide))
            refine e_aload_n (pc := 14) (i := 0) dX6_lay_14 rfl rfl ?_
            refine e_getR (pc := 15) dX6_lay_15 (fX6_35 rfl) sh_54 rfl ?_
            refine e_iload_n (pc := 18) (i := 1) dX6_lay_18 rfl rfl ?_
            refine e_iald (pc := 19) dX6_lay_19 sh_63 (vp_in_nI (by decide) (by decide)) ?_
            refine E.it (nI 1) f0 ?_
            refine e_bipush' (pc := 20) (-4) dX6_lay_20 (by decide) ?_
            refine e_icmp_ne (pc := 22) (tgt := 28) dX6_lay_22 (by decide) (fun h22 => ?_) (fun h22 => absurd h22 (by decide))
            refine e_iload_n (pc := 28) (i := 2) dX6_lay_28 rfl rfl ?_
            refine e_i2l (pc := 29) dX6_lay_29 ?_
            refine e_lconst' (pc := 30) (lN 0) dX6_lay_30 (by decide) ?_
            refine e_aload_n (pc := 31) (i := 0) dX6_lay_31 rfl rfl ?_
            refine e_getR (pc := 32) dX6_lay_32 (fX6_38 rfl) sh_54 rfl ?_
            refine e_iload_n (pc := 35) (i := 1) dX6_lay_35 rfl rfl ?_
            refine e_iald (pc := 36) dX6_lay_36 sh_64 (vp_in_nI (by decide) (by decide)) ?_
            refine E.it (nI m) f1 ?_
            refine e_iconst' (pc := 37) (nI 1) dX6_lay_37 (by decide) ?_
            refine e_isub (pc := 38) dX6_lay_38 ?_
            refine e_i2l (pc := 39) dX6_lay_39 ?_
            refine e_callS3 (pc := 40) (M' := mX6_in) dX6_lay_40 jX6_in lkX6_46 (by decide) (Nat.le_of_ble_eq_true rfl) (Nat.le_of_ble_eq_true rfl) ?_
            refine sp_inI (lo := 0) (hi := (m : Int) - 1) (by decide) (by rw [Int32.toInt_toInt64, pk_sub_toInt (by omega) (by decide)]; rfl) (fun _ _ _ _ _ => ?_) (fun h => (h b (by omega) rfl (by omega) (by omega)).elim)
            refine e_if_ne (pc := 43) (tgt := 49) dX6_lay_43 (by decide) (fun h43 => ?_) (fun h43 => absurd h43 (by decide))
            refine e_aload_n (pc := 49) (i := 0) dX6_lay_49 rfl rfl ?_
            refine e_getR (pc := 50) dX6_lay_50 (fX6_41 rfl) sh_54 rfl ?_
            refine e_bipush' (pc := 53) (nI 40) dX6_lay_53 (by decide) ?_
            refine e_iload_n (pc := 55) (i := 1) dX6_lay_55 rfl rfl ?_
            refine e_imul (pc := 56) dX6_lay_56 ?_
            refine E.it (nI 80) (pk_mul _ _) ?_
            refine e_iload_n (pc := 57) (i := 2) dX6_lay_57 rfl rfl ?_
            refine e_iadd (pc := 58) dX6_lay_58 ?_
            refine E.it (nI (80 + b)) (nI_add _ _) ?_
            refine e_aload_n (pc := 59) (i := 0) dX6_lay_59 rfl rfl ?_
            refine e_getR (pc := 60) dX6_lay_60 (fX6_35 rfl) sh_54 rfl ?_
            refine e_iload_n (pc := 63) (i := 1) dX6_lay_63 rfl rfl ?_
            refine e_iald (pc := 64) dX6_lay_64 sh_63 (vp_in_nI (by decide) (by decide)) ?_
            refine E.it (nI 1) f0 ?_
            refine e_if_ne (pc := 65) (tgt := 78) dX6_lay_65 (by decide) (fun h65 => ?_) (fun h65 => absurd h65 (by decide))
            refine e_aload_n (pc := 78) (i := 0) dX6_lay_78 rfl rfl ?_
            refine e_getR (pc := 79) dX6_lay_79 (fX6_35 rfl) sh_54 rfl ?_
            refine e_iload_n (pc := 82) (i := 1) dX6_lay_82 rfl rfl ?_
            refine e_iald (pc := 83) dX6_lay_83 sh_63 (vp_in_nI (by decide) (by decide)) ?_
            refine E.it (nI 1) f0 ?_
            refine e_iconst' (pc := 84) (nI 1) dX6_lay_84 (by decide) ?_
            refine e_icmp_ne (pc := 85) (tgt := 98) dX6_lay_85 (by decide) (fun h85 => absurd (by decide) h85) (fun h85 => ?_)
            refine e_iload_n (pc := 88) (i := 3) dX6_lay_88 rfl rfl ?_
            refine e_bipush' (pc := 89) (nI 16) dX6_lay_89 (by decide) ?_
            refine e_ishl (pc := 91) dX6_lay_91 ?_
            refine e_bipush' (pc := 92) (nI 16) dX6_lay_92 (by decide) ?_
            refine e_ishr (pc := 94) dX6_lay_94 ?_
            refine E.it (z.toInt16.toInt32) (sh16 z) ?_
            refine e_goto (pc := 95) (tgt := 99) dX6_lay_95 (by decide) ?_
            refine e_iast (pc := 99) dX6_lay_99 sh_65 (vp_in_nI (by omega) (by omega)) ?_
            refine e_iconst' (pc := 100) (nI 1) dX6_lay_100 (by decide) ?_
            refine e_iret (pc := 101) (st := []) (ty := .int) dX6_lay_101 rfl rfl ?_
            rw [nI_clamp (show 80 + b < 2 ^ 31 by omega)]
            refine ⟨rfl, Inv_sheet hI (fun j h1 h2 h3 h4 => ?_) (fun q hq4 => ?_)⟩
            · show up2 (up2 S.1 35 b z.toInt16.toInt32) 65 (80 + b) _ j = _; rw [up2_ne _ _ _ h4, up2_ne _ _ _ (by omega)]
            · by_cases e : q = 2
              · subst e
                refine Or.inr ⟨1, m, hl, hm, e0, e1, e2, f0, f1, fun x hx => ?_⟩
                have g1 : up2 (up2 S.1 35 b z.toInt16.toInt32) 65 (80 + b) z.toInt16.toInt32 35 x = if x = b then z.toInt16.toInt32 else S.1 35 x := by rw [up2_ne _ _ _ (by decide), up2_at]
                have g2 : up2 (up2 S.1 35 b z.toInt16.toInt32) 65 (80 + b) z.toInt16.toInt32 65 (80 + x) = if 80 + x = 80 + b then z.toInt16.toInt32 else S.1 65 (80 + x) := by rw [up2_at]; rfl
                refine Eq.trans g1 (Eq.trans ?_ g2.symm)
                by_cases ex : x = b
                · rw [if_pos ex, if_pos (by omega)]
                · rw [if_neg ex, if_neg (by omega)]; exact ec x hx
              · refine I6.of (S := S) ?_ ?_ rfl rfl (fun x hx => ?_) (hI.2.2.2.2.2.1 q hq4)
                · show up2 (up2 S.1 35 b z.toInt16.toInt32) 65 (80 + b) z.toInt16.toInt32 (30 + 2 * q) = _; rw [up2_ne _ _ _ (by omega), up2_ne _ _ _ (by omega)]
                · show up2 (up2 S.1 35 b z.toInt16.toInt32) 65 (80 + b) z.toInt16.toInt32 (31 + 2 * q) = _; rw [up2_ne _ _ _ (by omega), up2_ne _ _ _ (by omega)]
                · show up2 (up2 S.1 35 b z.toInt16.toInt32) 65 (80 + b) z.toInt16.toInt32 65 (40 * q + x) = _; rw [up2_at]; exact (if_neg (by omega)).trans rfl
          · show E sc mX5_lay 0 [.ref 0, .int (nI 2), .int (nI b), .int z, .null] [] S _
            refine e_iload_n (pc := 0) (i := 1) dX5_lay_0 rfl rfl ?_
            refine e_iconst' (pc := 1) (nI 0) dX5_lay_1 (by decide) ?_
            refine e_iconst' (pc := 2) (nI 3) dX5_lay_2 (by decide) ?_
            refine e_callS3 (pc := 3) (M' := mX5_within) dX5_lay_3 jX5_within lkX5_70 (by decide) (Nat.le_of_ble_eq_true rfl) (Nat.le_of_ble_eq_true rfl) ?_
            refine sp_winY (by omega) (by omega) (by omega) ?_
            refine e_if_ne (pc := 6) (tgt := 11) dX5_lay_6 (by decide) (fun h6 => ?_) (fun h6 => absurd h6 (by decide))
            refine e_aload_n (pc := 11) (i := 0) dX5_lay_11 rfl rfl ?_
            refine e_getR (pc := 12) dX5_lay_12 (fX5_49 rfl) sh_0 rfl ?_
            refine e_iload_n (pc := 15) (i := 1) dX5_lay_15 rfl rfl ?_
            refine e_aald (pc := 16) (r := 34) dX5_lay_16 sh_29 (vp_in_nI (by decide) (by decide)) (by decide) ?_
            refine e_aload_n (pc := 17) (i := 0) dX5_lay_17 rfl rfl ?_
            refine e_getR (pc := 18) dX5_lay_18 (fX5_49 rfl) sh_0 rfl ?_
            refine e_iload_n (pc := 21) (i := 1) dX5_lay_21 rfl rfl ?_
            refine e_aald (pc := 22) (r := 34) dX5_lay_22 sh_29 (vp_in_nI (by decide) (by decide)) (by decide) ?_
            refine e_getI (pc := 23) dX5_lay_23 (fX5_224 rfl) (sI_sh (Or.inr (Or.inr (Or.inl rfl)))) rfl ?_
            refine E.it (nI 2) e1 ?_
            refine e_iload_n (pc := 26) (i := 2) dX5_lay_26 rfl rfl ?_
            refine e_callV2 (pc := 27) (M' := mX2_faultAt) dX5_lay_27 iX2_faultAt lkX5_227 (by decide) (sI_r (Or.inr (Or.inr (Or.inl rfl)))) (Nat.le_of_ble_eq_true rfl) (Nat.le_of_ble_eq_true rfl) ?_
            refine sp_faultIn (i := 34) (Or.inr (Or.inr (Or.inl rfl))) e0 e1 e2 hm hb ?_
            refine e_istore (pc := 30) dX5_lay_30 (by decide) rfl ?_
            refine e_iload (pc := 32) dX5_lay_32 rfl ?_
            refine e_if_eq (pc := 34) (tgt := 43) dX5_lay_34 (by decide) (fun h34 => ?_) (fun h34 => absurd (by decide) h34)
            refine e_aload_n (pc := 43) (i := 0) dX5_lay_43 rfl rfl ?_
            refine e_getR (pc := 44) dX5_lay_44 (fX5_49 rfl) sh_0 rfl ?_
            refine e_iload_n (pc := 47) (i := 1) dX5_lay_47 rfl rfl ?_
            refine e_aald (pc := 48) (r := 34) dX5_lay_48 sh_29 (vp_in_nI (by decide) (by decide)) (by decide) ?_
            refine e_iload_n (pc := 49) (i := 2) dX5_lay_49 rfl rfl ?_
            refine e_iload_n (pc := 50) (i := 3) dX5_lay_50 rfl rfl ?_
            refine e_callV2 (pc := 51) (M' := mX2_put) dX5_lay_51 iX2_put lkX5_230 (by decide) (sI_r (Or.inr (Or.inr (Or.inl rfl)))) (Nat.le_of_ble_eq_true rfl) (Nat.le_of_ble_eq_true rfl) ?_
            refine sp_put (i := 34) (Or.inr (Or.inr (Or.inl rfl))) e1 (by omega) (by omega) ?_
            refine e_iconst' (pc := 54) (nI 1) dX5_lay_54 (by decide) ?_
            refine e_iret (pc := 55) (st := []) (ty := .int) dX5_lay_55 rfl rfl ?_
            refine ⟨_, rfl, ?_⟩
            show E sc mX6_lay 0 [.ref 54, .int (nI 2), .int (nI b), .int z] [] _ _
            refine e_iload_n (pc := 0) (i := 1) dX6_lay_0 rfl rfl ?_
            refine e_i2l (pc := 1) dX6_lay_1 ?_
            refine e_lconst' (pc := 2) (lN 0) dX6_lay_2 (by decide) ?_
            refine e_ldc2 (pc := 3) dX6_lay_3 (klX6_148 rfl) ?_
            refine e_callS3 (pc := 6) (M' := mX6_in) dX6_lay_6 jX6_in lkX6_46 (by decide) (Nat.le_of_ble_eq_true rfl) (Nat.le_of_ble_eq_true rfl) ?_
            refine sp_inY (lo := 0) (hi := 3) (by decide) (by decide) (by omega) (by omega) (by omega) ?_
            refine e_if_ne (pc := 9) (tgt := 14) dX6_lay_9 (by decide) (fun h9 => ?_) (fun h9 => absurd h9 (by decide))
            refine e_aload_n (pc := 14) (i := 0) dX6_lay_14 rfl rfl ?_
            refine e_getR (pc := 15) dX6_lay_15 (fX6_35 rfl) sh_54 rfl ?_
            refine e_iload_n (pc := 18) (i := 1) dX6_lay_18 rfl rfl ?_
            refine e_iald (pc := 19) dX6_lay_19 sh_63 (vp_in_nI (by decide) (by decide)) ?_
            refine E.it (nI 2) f0 ?_
            refine e_bipush' (pc := 20) (-4) dX6_lay_20 (by decide) ?_
            refine e_icmp_ne (pc := 22) (tgt := 28) dX6_lay_22 (by decide) (fun h22 => ?_) (fun h22 => absurd h22 (by decide))
            refine e_iload_n (pc := 28) (i := 2) dX6_lay_28 rfl rfl ?_
            refine e_i2l (pc := 29) dX6_lay_29 ?_
            refine e_lconst' (pc := 30) (lN 0) dX6_lay_30 (by decide) ?_
            refine e_aload_n (pc := 31) (i := 0) dX6_lay_31 rfl rfl ?_
            refine e_getR (pc := 32) dX6_lay_32 (fX6_38 rfl) sh_54 rfl ?_
            refine e_iload_n (pc := 35) (i := 1) dX6_lay_35 rfl rfl ?_
            refine e_iald (pc := 36) dX6_lay_36 sh_64 (vp_in_nI (by decide) (by decide)) ?_
            refine E.it (nI m) f1 ?_
            refine e_iconst' (pc := 37) (nI 1) dX6_lay_37 (by decide) ?_
            refine e_isub (pc := 38) dX6_lay_38 ?_
            refine e_i2l (pc := 39) dX6_lay_39 ?_
            refine e_callS3 (pc := 40) (M' := mX6_in) dX6_lay_40 jX6_in lkX6_46 (by decide) (Nat.le_of_ble_eq_true rfl) (Nat.le_of_ble_eq_true rfl) ?_
            refine sp_inI (lo := 0) (hi := (m : Int) - 1) (by decide) (by rw [Int32.toInt_toInt64, pk_sub_toInt (by omega) (by decide)]; rfl) (fun _ _ _ _ _ => ?_) (fun h => (h b (by omega) rfl (by omega) (by omega)).elim)
            refine e_if_ne (pc := 43) (tgt := 49) dX6_lay_43 (by decide) (fun h43 => ?_) (fun h43 => absurd h43 (by decide))
            refine e_aload_n (pc := 49) (i := 0) dX6_lay_49 rfl rfl ?_
            refine e_getR (pc := 50) dX6_lay_50 (fX6_41 rfl) sh_54 rfl ?_
            refine e_bipush' (pc := 53) (nI 40) dX6_lay_53 (by decide) ?_
            refine e_iload_n (pc := 55) (i := 1) dX6_lay_55 rfl rfl ?_
            refine e_imul (pc := 56) dX6_lay_56 ?_
            refine E.it (nI 80) (pk_mul _ _) ?_
            refine e_iload_n (pc := 57) (i := 2) dX6_lay_57 rfl rfl ?_
            refine e_iadd (pc := 58) dX6_lay_58 ?_
            refine E.it (nI (80 + b)) (nI_add _ _) ?_
            refine e_aload_n (pc := 59) (i := 0) dX6_lay_59 rfl rfl ?_
            refine e_getR (pc := 60) dX6_lay_60 (fX6_35 rfl) sh_54 rfl ?_
            refine e_iload_n (pc := 63) (i := 1) dX6_lay_63 rfl rfl ?_
            refine e_iald (pc := 64) dX6_lay_64 sh_63 (vp_in_nI (by decide) (by decide)) ?_
            refine E.it (nI 2) f0 ?_
            refine e_if_ne (pc := 65) (tgt := 78) dX6_lay_65 (by decide) (fun h65 => ?_) (fun h65 => absurd h65 (by decide))
            refine e_aload_n (pc := 78) (i := 0) dX6_lay_78 rfl rfl ?_
            refine e_getR (pc := 79) dX6_lay_79 (fX6_35 rfl) sh_54 rfl ?_
            refine e_iload_n (pc := 82) (i := 1) dX6_lay_82 rfl rfl ?_
            refine e_iald (pc := 83) dX6_lay_83 sh_63 (vp_in_nI (by decide) (by decide)) ?_
            refine E.it (nI 2) f0 ?_
            refine e_iconst' (pc := 84) (nI 1) dX6_lay_84 (by decide) ?_
            refine e_icmp_ne (pc := 85) (tgt := 98) dX6_lay_85 (by decide) (fun h85 => ?_) (fun h85 => absurd h85 (by decide))
            refine e_iload_n (pc := 98) (i := 3) dX6_lay_98 rfl rfl ?_
            refine e_iast (pc := 99) dX6_lay_99 sh_65 (vp_in_nI (by omega) (by omega)) ?_
            refine e_iconst' (pc := 100) (nI 1) dX6_lay_100 (by decide) ?_
            refine e_iret (pc := 101) (st := []) (ty := .int) dX6_lay_101 rfl rfl ?_
            rw [nI_clamp (show 80 + b < 2 ^ 31 by omega)]
            refine ⟨rfl, Inv_sheet hI (fun j h1 h2 h3 h4 => ?_) (fun q hq4 => ?_)⟩
            · show up2 (up2 S.1 35 b z) 65 (80 + b) _ j = _; rw [up2_ne _ _ _ h4, up2_ne _ _ _ (by omega)]
            · by_cases e : q = 2
              · subst e
                refine Or.inr ⟨2, m, hl, hm, e0, e1, e2, f0, f1, fun x hx => ?_⟩
                have g1 : up2 (up2 S.1 35 b z) 65 (80 + b) z 35 x = if x = b then z else S.1 35 x := by rw [up2_ne _ _ _ (by decide), up2_at]
                have g2 : up2 (up2 S.1 35 b z) 65 (80 + b) z 65 (80 + x) = if 80 + x = 80 + b then z else S.1 65 (80 + x) := by rw [up2_at]; rfl
                refine Eq.trans g1 (Eq.trans ?_ g2.symm)
                by_cases ex : x = b
                · rw [if_pos ex, if_pos (by omega)]
                · rw [if_neg ex, if_neg (by omega)]; exact ec x hx
              · refine I6.of (S := S) ?_ ?_ rfl rfl (fun x hx => ?_) (hI.2.2.2.2.2.1 q hq4)
                · show up2 (up2 S.1 35 b z) 65 (80 + b) z (30 + 2 * q) = _; rw [up2_ne _ _ _ (by omega), up2_ne _ _ _ (by omega)]
                · show up2 (up2 S.1 35 b z) 65 (80 + b) z (31 + 2 * q) = _; rw [up2_ne _ _ _ (by omega), up2_ne _ _ _ (by omega)]
                · show up2 (up2 S.1 35 b z) 65 (80 + b) z 65 (40 * q + x) = _; rw [up2_at]; exact (if_neg (by omega)).trans rfl
        · refine ask_both (-12) hI (fun Q k => ?_) (fun S1 h1 Q k => ?_)
          · show E sc mX5_lay 0 [.ref 0, .int (nI 2), .int y, .int z, .null] [] S Q
            refine e_iload_n (pc := 0) (i := 1) dX5_lay_0 rfl rfl ?_
            refine e_iconst' (pc := 1) (nI 0) dX5_lay_1 (by decide) ?_
            refine e_iconst' (pc := 2) (nI 3) dX5_lay_2 (by decide) ?_
            refine e_callS3 (pc := 3) (M' := mX5_within) dX5_lay_3 jX5_within lkX5_70 (by decide) (Nat.le_of_ble_eq_true rfl) (Nat.le_of_ble_eq_true rfl) ?_
            refine sp_winY (by omega) (by omega) (by omega) ?_
            refine e_if_ne (pc := 6) (tgt := 11) dX5_lay_6 (by decide) (fun h6 => ?_) (fun h6 => absurd h6 (by decide))
            refine e_aload_n (pc := 11) (i := 0) dX5_lay_11 rfl rfl ?_
            refine e_getR (pc := 12) dX5_lay_12 (fX5_49 rfl) sh_0 rfl ?_
            refine e_iload_n (pc := 15) (i := 1) dX5_lay_15 rfl rfl ?_
            refine e_aald (pc := 16) (r := 34) dX5_lay_16 sh_29 (vp_in_nI (by decide) (by decide)) (by decide) ?_
            refine e_aload_n (pc := 17) (i := 0) dX5_lay_17 rfl rfl ?_
            refine e_getR (pc := 18) dX5_lay_18 (fX5_49 rfl) sh_0 rfl ?_
            refine e_iload_n (pc := 21) (i := 1) dX5_lay_21 rfl rfl ?_
            refine e_aald (pc := 22) (r := 34) dX5_lay_22 sh_29 (vp_in_nI (by decide) (by decide)) (by decide) ?_
            refine e_getI (pc := 23) dX5_lay_23 (fX5_224 rfl) (sI_sh (Or.inr (Or.inr (Or.inl rfl)))) rfl ?_
            refine E.it (nI l) e1 ?_
            refine e_iload_n (pc := 26) (i := 2) dX5_lay_26 rfl rfl ?_
            refine e_callV2 (pc := 27) (M' := mX2_faultAt) dX5_lay_27 iX2_faultAt lkX5_227 (by decide) (sI_r (Or.inr (Or.inr (Or.inl rfl)))) (Nat.le_of_ble_eq_true rfl) (Nat.le_of_ble_eq_true rfl) ?_
            refine sp_faultOut (i := 34) (Or.inr (Or.inr (Or.inl rfl))) e0 e1 e2 hm hn ?_
            refine e_istore (pc := 30) dX5_lay_30 (by decide) rfl ?_
            refine e_iload (pc := 32) dX5_lay_32 rfl ?_
            refine e_if_eq (pc := 34) (tgt := 43) dX5_lay_34 (by decide) (fun h34 => absurd h34 (by decide)) (fun h34 => ?_)
            refine e_bipush' (pc := 37) (-10) dX5_lay_37 (by decide) ?_
            refine e_iload (pc := 39) dX5_lay_39 rfl ?_
            refine e_isub (pc := 41) dX5_lay_41 ?_
            refine E.it (-12) (by decide) ?_
            refine e_iret (pc := 42) (st := []) (ty := .int) dX5_lay_42 rfl rfl ?_
            exact k _ Same.rf
          · show E sc mX6_lay 0 [.ref 54, .int (nI 2), .int y, .int z] [] S1 Q
            have hp := h1.pg (by omega) hv hp
            have hr := h1.row (by omega) hr
            refine e_iload_n (pc := 0) (i := 1) dX6_lay_0 rfl rfl ?_
            refine e_i2l (pc := 1) dX6_lay_1 ?_
            refine e_lconst' (pc := 2) (lN 0) dX6_lay_2 (by decide) ?_
            refine e_ldc2 (pc := 3) dX6_lay_3 (klX6_148 rfl) ?_
            refine e_callS3 (pc := 6) (M' := mX6_in) dX6_lay_6 jX6_in lkX6_46 (by decide) (Nat.le_of_ble_eq_true rfl) (Nat.le_of_ble_eq_true rfl) ?_
            refine sp_inY (lo := 0) (hi := 3) (by decide) (by decide) (by omega) (by omega) (by omega) ?_
            refine e_if_ne (pc := 9) (tgt := 14) dX6_lay_9 (by decide) (fun h9 => ?_) (fun h9 => absurd h9 (by decide))
            refine e_aload_n (pc := 14) (i := 0) dX6_lay_14 rfl rfl ?_
            refine e_getR (pc := 15) dX6_lay_15 (fX6_35 rfl) sh_54 rfl ?_
            refine e_iload_n (pc := 18) (i := 1) dX6_lay_18 rfl rfl ?_
            refine e_iald (pc := 19) dX6_lay_19 sh_63 (vp_in_nI (by decide) (by decide)) ?_
            refine E.it (nI l) (by show S1.1 63 2 = _; rw [h1.2.2.2 63 (by omega)]; exact f0) ?_
            refine e_bipush' (pc := 20) (-4) dX6_lay_20 (by decide) ?_
            refine e_icmp_ne (pc := 22) (tgt := 28) dX6_lay_22 (by decide) (fun h22 => ?_) (fun h22 => absurd h22 (fun q => absurd (congrArg Int32.toInt q) (by rw [nI_toInt (by omega)]; show ¬ (l : Int) = -4; omega)))
            refine e_iload_n (pc := 28) (i := 2) dX6_lay_28 rfl rfl ?_
            refine e_i2l (pc := 29) dX6_lay_29 ?_
            refine e_lconst' (pc := 30) (lN 0) dX6_lay_30 (by decide) ?_
            refine e_aload_n (pc := 31) (i := 0) dX6_lay_31 rfl rfl ?_
            refine e_getR (pc := 32) dX6_lay_32 (fX6_38 rfl) sh_54 rfl ?_
            refine e_iload_n (pc := 35) (i := 1) dX6_lay_35 rfl rfl ?_
            refine e_iald (pc := 36) dX6_lay_36 sh_64 (vp_in_nI (by decide) (by decide)) ?_
            refine E.it (nI m) (by show S1.1 64 2 = _; rw [h1.2.2.2 64 (by omega)]; exact f1) ?_
            refine e_iconst' (pc := 37) (nI 1) dX6_lay_37 (by decide) ?_
            refine e_isub (pc := 38) dX6_lay_38 ?_
            refine e_i2l (pc := 39) dX6_lay_39 ?_
            refine e_callS3 (pc := 40) (M' := mX6_in) dX6_lay_40 jX6_in lkX6_46 (by decide) (Nat.le_of_ble_eq_true rfl) (Nat.le_of_ble_eq_true rfl) ?_
            refine sp_inI (lo := 0) (hi := (m : Int) - 1) (by decide) (by rw [Int32.toInt_toInt64, pk_sub_toInt (by omega) (by decide)]; rfl) (fun b hb e g1 g2 => (hn ⟨b, e, by omega⟩).elim) (fun _ => ?_)
            refine e_if_ne (pc := 43) (tgt := 49) dX6_lay_43 (by decide) (fun h43 => absurd (by decide) h43) (fun h43 => ?_)
            refine e_bipush' (pc := 46) (-12) dX6_lay_46 (by decide) ?_
            refine e_iret (pc := 48) (st := []) (ty := .int) dX6_lay_48 rfl rfl ?_
            exact k _ Same.rf
    · rcases hI.2.2.2.2.2.1 3 (by omega) with ⟨e0, f0⟩ | ⟨l, m, hl, hm, e0, e1, e2, f0, f1, ec⟩
      · refine ask_both (-11) hI (fun Q k => ?_) (fun S1 h1 Q k => ?_)
        · show E sc mX5_lay 0 [.ref 0, .int (nI 3), .int y, .int z, .null] [] S Q
          refine e_iload_n (pc := 0) (i := 1) dX5_lay_0 rfl rfl ?_
          refine e_iconst' (pc := 1) (nI 0) dX5_lay_1 (by decide) ?_
          refine e_iconst' (pc := 2) (nI 3) dX5_lay_2 (by decide) ?_
          refine e_callS3 (pc := 3) (M' := mX5_within) dX5_lay_3 jX5_within lkX5_70 (by decide) (Nat.le_of_ble_eq_true rfl) (Nat.le_of_ble_eq_true rfl) ?_
          refine sp_winY (by omega) (by omega) (by omega) ?_
          refine e_if_ne (pc := 6) (tgt := 11) dX5_lay_6 (by decide) (fun h6 => ?_) (fun h6 => absurd h6 (by decide))
          refine e_aload_n (pc := 11) (i := 0) dX5_lay_11 rfl rfl ?_
          refine e_getR (pc := 12) dX5_lay_12 (fX5_49 rfl) sh_0 rfl ?_
          refine e_iload_n (pc := 15) (i := 1) dX5_lay_15 rfl rfl ?_
          refine e_aald (pc := 16) (r := 36) dX5_lay_16 sh_29 (vp_in_nI (by decide) (by decide)) (by decide) ?_
          refine e_aload_n (pc := 17) (i := 0) dX5_lay_17 rfl rfl ?_
          refine e_getR (pc := 18) dX5_lay_18 (fX5_49 rfl) sh_0 rfl ?_
          refine e_iload_n (pc := 21) (i := 1) dX5_lay_21 rfl rfl ?_
          refine e_aald (pc := 22) (r := 36) dX5_lay_22 sh_29 (vp_in_nI (by decide) (by decide)) (by decide) ?_
          refine e_getI (pc := 23) dX5_lay_23 (fX5_224 rfl) (sI_sh (Or.inr (Or.inr (Or.inr rfl)))) rfl ?_
          refine e_iload_n (pc := 26) (i := 2) dX5_lay_26 rfl rfl ?_
          refine e_callV2 (pc := 27) (M' := mX2_faultAt) dX5_lay_27 iX2_faultAt lkX5_227 (by decide) (sI_r (Or.inr (Or.inr (Or.inr rfl)))) (Nat.le_of_ble_eq_true rfl) (Nat.le_of_ble_eq_true rfl) ?_
          refine sp_faultNull (i := 36) (Or.inr (Or.inr (Or.inr rfl))) e0 ?_
          refine e_istore (pc := 30) dX5_lay_30 (by decide) rfl ?_
          refine e_iload (pc := 32) dX5_lay_32 rfl ?_
          refine e_if_eq (pc := 34) (tgt := 43) dX5_lay_34 (by decide) (fun h34 => absurd h34 (by decide)) (fun h34 => ?_)
          refine e_bipush' (pc := 37) (-10) dX5_lay_37 (by decide) ?_
          refine e_iload (pc := 39) dX5_lay_39 rfl ?_
          refine e_isub (pc := 41) dX5_lay_41 ?_
          refine E.it (-11) (by decide) ?_
          refine e_iret (pc := 42) (st := []) (ty := .int) dX5_lay_42 rfl rfl ?_
          exact k _ Same.rf
        · show E sc mX6_lay 0 [.ref 54, .int (nI 3), .int y, .int z] [] S1 Q
          have hp := h1.pg (by omega) hv hp
          have hr := h1.row (by omega) hr
          refine e_iload_n (pc := 0) (i := 1) dX6_lay_0 rfl rfl ?_
          refine e_i2l (pc := 1) dX6_lay_1 ?_
          refine e_lconst' (pc := 2) (lN 0) dX6_lay_2 (by decide) ?_
          refine e_ldc2 (pc := 3) dX6_lay_3 (klX6_148 rfl) ?_
          refine e_callS3 (pc := 6) (M' := mX6_in) dX6_lay_6 jX6_in lkX6_46 (by decide) (Nat.le_of_ble_eq_true rfl) (Nat.le_of_ble_eq_true rfl) ?_
          refine sp_inY (lo := 0) (hi := 3) (by decide) (by decide) (by omega) (by omega) (by omega) ?_
          refine e_if_ne (pc := 9) (tgt := 14) dX6_lay_9 (by decide) (fun h9 => ?_) (fun h9 => absurd h9 (by decide))
          refine e_aload_n (pc := 14) (i := 0) dX6_lay_14 rfl rfl ?_
          refine e_getR (pc := 15) dX6_lay_15 (fX6_35 rfl) sh_54 rfl ?_
          refine e_iload_n (pc := 18) (i := 1) dX6_lay_18 rfl rfl ?_
          refine e_iald (pc := 19) dX6_lay_19 sh_63 (vp_in_nI (by decide) (by decide)) ?_
          refine E.it (-4) (by show S1.1 63 3 = _; rw [h1.2.2.2 63 (by omega)]; exact f0) ?_
          refine e_bipush' (pc := 20) (-4) dX6_lay_20 (by decide) ?_
          refine e_icmp_ne (pc := 22) (tgt := 28) dX6_lay_22 (by decide) (fun h22 => absurd rfl h22) (fun h22 => ?_)
          refine e_bipush' (pc := 25) (-11) dX6_lay_25 (by decide) ?_
          refine e_iret (pc := 27) (st := []) (ty := .int) dX6_lay_27 rfl rfl ?_
          exact k _ Same.rf
      · rcases Classical.em (inw y m) with ⟨b, rfl, hb⟩ | hn
        · rcases (show l = 0 ∨ l = 1 ∨ l = 2 by omega) with rfl | rfl | rfl
          · show E sc mX5_lay 0 [.ref 0, .int (nI 3), .int (nI b), .int z, .null] [] S _
            refine e_iload_n (pc := 0) (i := 1) dX5_lay_0 rfl rfl ?_
            refine e_iconst' (pc := 1) (nI 0) dX5_lay_1 (by decide) ?_
            refine e_iconst' (pc := 2) (nI 3) dX5_lay_2 (by decide) ?_
            refine e_callS3 (pc := 3) (M' := mX5_within) dX5_lay_3 jX5_within lkX5_70 (by decide) (Nat.le_of_ble_eq_true rfl) (Nat.le_of_ble_eq_true rfl) ?_
            refine sp_winY (by omega) (by omega) (by omega) ?_
            refine e_if_ne (pc := 6) (tgt := 11) dX5_lay_6 (by decide) (fun h6 => ?_) (fun h6 => absurd h6 (by decide))
            refine e_aload_n (pc := 11) (i := 0) dX5_lay_11 rfl rfl ?_
            refine e_getR (pc := 12) dX5_lay_12 (fX5_49 rfl) sh_0 rfl ?_
            refine e_iload_n (pc := 15) (i := 1) dX5_lay_15 rfl rfl ?_
            refine e_aald (pc := 16) (r := 36) dX5_lay_16 sh_29 (vp_in_nI (by decide) (by decide)) (by decide) ?_
            refine e_aload_n (pc := 17) (i := 0) dX5_lay_17 rfl rfl ?_
            refine e_getR (pc := 18) dX5_lay_18 (fX5_49 rfl) sh_0 rfl ?_
            refine e_iload_n (pc := 21) (i := 1) dX5_lay_21 rfl rfl ?_
            refine e_aald (pc := 22) (r := 36) dX5_lay_22 sh_29 (vp_in_nI (by decide) (by decide)) (by decide) ?_
            refine e_getI (pc := 23) dX5_lay_23 (fX5_224 rfl) (sI_sh (Or.inr (Or.inr (Or.inr rfl)))) rfl ?_
            refine E.it (nI 0) e1 ?_
            refine e_iload_n (pc := 26) (i := 2) dX5_lay_26 rfl rfl ?_
            refine e_callV2 (pc := 27) (M' := mX2_faultAt) dX5_lay_27 iX2_faultAt lkX5_227 (by decide) (sI_r (Or.inr (Or.inr (Or.inr rfl)))) (Nat.le_of_ble_eq_true rfl) (Nat.le_of_ble_eq_true rfl) ?_
            refine sp_faultIn (i := 36) (Or.inr (Or.inr (Or.inr rfl))) e0 e1 e2 hm hb ?_
            refine e_istore (pc := 30) dX5_lay_30 (by decide) rfl ?_
            refine e_iload (pc := 32) dX5_lay_32 rfl ?_
            refine e_if_eq (pc := 34) (tgt := 43) dX5_lay_34 (by decide) (fun h34 => ?_) (fun h34 => absurd (by decide) h34)
            refine e_aload_n (pc := 43) (i := 0) dX5_lay_43 rfl rfl ?_
            refine e_getR (pc := 44) dX5_lay_44 (fX5_49 rfl) sh_0 rfl ?_
            refine e_iload_n (pc := 47) (i := 1) dX5_lay_47 rfl rfl ?_
            refine e_aald (pc := 48) (r := 36) dX5_lay_48 sh_29 (vp_in_nI (by decide) (by decide)) (by decide) ?_
            refine e_iload_n (pc := 49) (i := 2) dX5_lay_49 rfl rfl ?_
            refine e_iload_n (pc := 50) (i := 3) dX5_lay_50 rfl rfl ?_
            refine e_callV2 (pc := 51) (M' := mX2_put) dX5_lay_51 iX2_put lkX5_230 (by decide) (sI_r (Or.inr (Or.inr (Or.inr rfl)))) (Nat.le_of_ble_eq_true rfl) (Nat.le_of_ble_eq_true rfl) ?_
            refine sp_put (i := 36) (Or.inr (Or.inr (Or.inr rfl))) e1 (by omega) (by omega) ?_
            refine e_iconst' (pc := 54) (nI 1) dX5_lay_54 (by decide) ?_
            refine e_iret (pc := 55) (st := []) (ty := .int) dX5_lay_55 rfl rfl ?_
            refine ⟨_, rfl, ?_⟩
            show E sc mX6_lay 0 [.ref 54, .int (nI 3), .int (nI b), .int z] [] _ _
            refine e_iload_n (pc := 0) (i := 1) dX6_lay_0 rfl rfl ?_
            refine e_i2l (pc := 1) dX6_lay_1 ?_
            refine e_lconst' (pc := 2) (lN 0) dX6_lay_2 (by decide) ?_
            refine e_ldc2 (pc := 3) dX6_lay_3 (klX6_148 rfl) ?_
            refine e_callS3 (pc := 6) (M' := mX6_in) dX6_lay_6 jX6_in lkX6_46 (by decide) (Nat.le_of_ble_eq_true rfl) (Nat.le_of_ble_eq_true rfl) ?_
            refine sp_inY (lo := 0) (hi := 3) (by decide) (by decide) (by omega) (by omega) (by omega) ?_
            refine e_if_ne (pc := 9) (tgt := 14) dX6_lay_9 (by decide) (fun h9 => ?_) (fun h9 => absurd h9 (by decide))
            refine e_aload_n (pc := 14) (i := 0) dX6_lay_14 rfl rfl ?_
            refine e_getR (pc := 15) dX6_lay_15 (fX6_35 rfl) sh_54 rfl ?_
            refine e_iload_n (pc := 18) (i := 1) dX6_lay_18 rfl rfl ?_
            refine e_iald (pc := 19) dX6_lay_19 sh_63 (vp_in_nI (by decide) (by decide)) ?_
            refine E.it (nI 0) f0 ?_
            refine e_bipush' (pc := 20) (-4) dX6_lay_20 (by decide) ?_
            refine e_icmp_ne (pc := 22) (tgt := 28) dX6_lay_22 (by decide) (fun h22 => ?_) (fun h22 => absurd h22 (by decide))
            refine e_iload_n (pc := 28) (i := 2) dX6_lay_28 rfl rfl ?_
            refine e_i2l (pc := 29) dX6_lay_29 ?_
            refine e_lconst' (pc := 30) (lN 0) dX6_lay_30 (by decide) ?_
            refine e_aload_n (pc := 31) (i := 0) dX6_lay_31 rfl rfl ?_
            refine e_getR (pc := 32) dX6_lay_32 (fX6_38 rfl) sh_54 rfl ?_
            refine e_iload_n (pc := 35) (i := 1) dX6_lay_35 rfl rfl ?_
            refine e_iald (pc := 36) dX6_lay_36 sh_64 (vp_in_nI (by decide) (by decide)) ?_
            refine E.it (nI m) f1 ?_
            refine e_iconst' (pc := 37) (nI 1) dX6_lay_37 (by decide) ?_
            refine e_isub (pc := 38) dX6_lay_38 ?_
            refine e_i2l (pc := 39) dX6_lay_39 ?_
            refine e_callS3 (pc := 40) (M' := mX6_in) dX6_lay_40 jX6_in lkX6_46 (by decide) (Nat.le_of_ble_eq_true rfl) (Nat.le_of_ble_eq_true rfl) ?_
            refine sp_inI (lo := 0) (hi := (m : Int) - 1) (by decide) (by rw [Int32.toInt_toInt64, pk_sub_toInt (by omega) (by decide)]; rfl) (fun _ _ _ _ _ => ?_) (fun h => (h b (by omega) rfl (by omega) (by omega)).elim)
            refine e_if_ne (pc := 43) (tgt := 49) dX6_lay_43 (by decide) (fun h43 => ?_) (fun h43 => absurd h43 (by decide))
            refine e_aload_n (pc := 49) (i := 0) dX6_lay_49 rfl rfl ?_
            refine e_getR (pc := 50) dX6_lay_50 (fX6_41 rfl) sh_54 rfl ?_
            refine e_bipush' (pc := 53) (nI 40) dX6_lay_53 (by decide) ?_
            refine e_iload_n (pc := 55) (i := 1) dX6_lay_55 rfl rfl ?_
            refine e_imul (pc := 56) dX6_lay_56 ?_
            refine E.it (nI 120) (pk_mul _ _) ?_
            refine e_iload_n (pc := 57) (i := 2) dX6_lay_57 rfl rfl ?_
            refine e_iadd (pc := 58) dX6_lay_58 ?_
            refine E.it (nI (120 + b)) (nI_add _ _) ?_
            refine e_aload_n (pc := 59) (i := 0) dX6_lay_59 rfl rfl ?_
            refine e_getR (pc := 60) dX6_lay_60 (fX6_35 rfl) sh_54 rfl ?_
            refine e_iload_n (pc := 63) (i := 1) dX6_lay_63 rfl rfl ?_
            refine e_iald (pc := 64) dX6_lay_64 sh_63 (vp_in_nI (by decide) (by decide)) ?_
            refine E.it (nI 0) f0 ?_
            refine e_if_ne (pc := 65) (tgt := 78) dX6_lay_65 (by decide) (fun h65 => absurd (by decide) h65) (fun h65 => ?_)
            refine e_iload_n (pc := 68) (i := 3) dX6_lay_68 rfl rfl ?_
            refine e_bipush' (pc := 69) (nI 24) dX6_lay_69 (by decide) ?_
            refine e_ishl (pc := 71) dX6_lay_71 ?_
            refine e_bipush' (pc := 72) (nI 24) dX6_lay_72 (by decide) ?_
            refine e_ishr (pc := 74) dX6_lay_74 ?_
            refine E.it (z.toInt8.toInt32) (sh24 z) ?_
            refine e_goto (pc := 75) (tgt := 99) dX6_lay_75 (by decide) ?_
            refine e_iast (pc := 99) dX6_lay_99 sh_65 (vp_in_nI (by omega) (by omega)) ?_
            refine e_iconst' (pc := 100) (nI 1) dX6_lay_100 (by decide) ?_
            refine e_iret (pc := 101) (st := []) (ty := .int) dX6_lay_101 rfl rfl ?_
            rw [nI_clamp (show 120 + b < 2 ^ 31 by omega)]
            refine ⟨rfl, Inv_sheet hI (fun j h1 h2 h3 h4 => ?_) (fun q hq4 => ?_)⟩
            · show up2 (up2 S.1 37 b z.toInt8.toInt32) 65 (120 + b) _ j = _; rw [up2_ne _ _ _ h4, up2_ne _ _ _ (by omega)]
            · by_cases e : q = 3
              · subst e
                refine Or.inr ⟨0, m, hl, hm, e0, e1, e2, f0, f1, fun x hx => ?_⟩
                have g1 : up2 (up2 S.1 37 b z.toInt8.toInt32) 65 (120 + b) z.toInt8.toInt32 37 x = if x = b then z.toInt8.toInt32 else S.1 37 x := by rw [up2_ne _ _ _ (by decide), up2_at]
                have g2 : up2 (up2 S.1 37 b z.toInt8.toInt32) 65 (120 + b) z.toInt8.toInt32 65 (120 + x) = if 120 + x = 120 + b then z.toInt8.toInt32 else S.1 65 (120 + x) := by rw [up2_at]; rfl
                refine Eq.trans g1 (Eq.trans ?_ g2.symm)
                by_cases ex : x = b
                · rw [if_pos ex, if_pos (by omega)]
                · rw [if_neg ex, if_neg (by omega)]; exact ec x hx
              · refine I6.of (S := S) ?_ ?_ rfl rfl (fun x hx => ?_) (hI.2.2.2.2.2.1 q hq4)
                · show up2 (up2 S.1 37 b z.toInt8.toInt32) 65 (120 + b) z.toInt8.toInt32 (30 + 2 * q) = _; rw [up2_ne _ _ _ (by omega), up2_ne _ _ _ (by omega)]
                · show up2 (up2 S.1 37 b z.toInt8.toInt32) 65 (120 + b) z.toInt8.toInt32 (31 + 2 * q) = _; rw [up2_ne _ _ _ (by omega), up2_ne _ _ _ (by omega)]
                · show up2 (up2 S.1 37 b z.toInt8.toInt32) 65 (120 + b) z.toInt8.toInt32 65 (40 * q + x) = _; rw [up2_at]; exact (if_neg (by omega)).trans rfl
          · show E sc mX5_lay 0 [.ref 0, .int (nI 3), .int (nI b), .int z, .null] [] S _
            refine e_iload_n (pc := 0) (i := 1) dX5_lay_0 rfl rfl ?_
            refine e_iconst' (pc := 1) (nI 0) dX5_lay_1 (by decide) ?_
            refine e_iconst' (pc := 2) (nI 3) dX5_lay_2 (by decide) ?_
            refine e_callS3 (pc := 3) (M' := mX5_within) dX5_lay_3 jX5_within lkX5_70 (by decide) (Nat.le_of_ble_eq_true rfl) (Nat.le_of_ble_eq_true rfl) ?_
            refine sp_winY (by omega) (by omega) (by omega) ?_
            refine e_if_ne (pc := 6) (tgt := 11) dX5_lay_6 (by decide) (fun h6 => ?_) (fun h6 => absurd h6 (by decide))
            refine e_aload_n (pc := 11) (i := 0) dX5_lay_11 rfl rfl ?_
            refine e_getR (pc := 12) dX5_lay_12 (fX5_49 rfl) sh_0 rfl ?_
            refine e_iload_n (pc := 15) (i := 1) dX5_lay_15 rfl rfl ?_
            refine e_aald (pc := 16) (r := 36) dX5_lay_16 sh_29 (vp_in_nI (by decide) (by decide)) (by decide) ?_
            refine e_aload_n (pc := 17) (i := 0) dX5_lay_17 rfl rfl ?_
            refine e_getR (pc := 18) dX5_lay_18 (fX5_49 rfl) sh_0 rfl ?_
            refine e_iload_n (pc := 21) (i := 1) dX5_lay_21 rfl rfl ?_
            refine e_aald (pc := 22) (r := 36) dX5_lay_22 sh_29 (vp_in_nI (by decide) (by decide)) (by decide) ?_
            refine e_getI (pc := 23) dX5_lay_23 (fX5_224 rfl) (sI_sh (Or.inr (Or.inr (Or.inr rfl)))) rfl ?_
            refine E.it (nI 1) e1 ?_
            refine e_iload_n (pc := 26) (i := 2) dX5_lay_26 rfl rfl ?_
            refine e_callV2 (pc := 27) (M' := mX2_faultAt) dX5_lay_27 iX2_faultAt lkX5_227 (by decide) (sI_r (Or.inr (Or.inr (Or.inr rfl)))) (Nat.le_of_ble_eq_true rfl) (Nat.le_of_ble_eq_true rfl) ?_
            refine sp_faultIn (i := 36) (Or.inr (Or.inr (Or.inr rfl))) e0 e1 e2 hm hb ?_
            refine e_istore (pc := 30) dX5_lay_30 (by decide) rfl ?_
            refine e_iload (pc := 32) dX5_lay_32 rfl ?_
            refine e_if_eq (pc := 34) (tgt := 43) dX5_lay_34 (by decide) (fun h34 => ?_) (fun h34 => absurd (by decide) h34)
            refine e_aload_n (pc := 43) (i := 0) dX5_lay_43 rfl rfl ?_
            refine e_getR (pc := 44) dX5_lay_44 (fX5_49 rfl) sh_0 rfl ?_
            refine e_iload_n (pc := 47) (i := 1) dX5_lay_47 rfl rfl ?_
            refine e_aald (pc := 48) (r := 36) dX5_lay_48 sh_29 (vp_in_nI (by decide) (by decide)) (by decide) ?_
            refine e_iload_n (pc := 49) (i := 2) dX5_lay_49 rfl rfl ?_
            refine e_iload_n (pc := 50) (i := 3) dX5_lay_50 rfl rfl ?_
            refine e_callV2 (pc := 51) (M' := mX2_put) dX5_lay_51 iX2_put lkX5_230 (by decide) (sI_r (Or.inr (Or.inr (Or.inr rfl)))) (Nat.le_of_ble_eq_true rfl) (Nat.le_of_ble_eq_true rfl) ?_
            refine sp_put (i := 36) (Or.inr (Or.inr (Or.inr rfl))) e1 (by omega) (by omega) ?_
            refine e_iconst' (pc := 54) (nI 1) dX5_lay_54 (by decide) ?_
            refine e_iret (pc := 55) (st := []) (ty := .int) dX5_lay_55 rfl rfl ?_
            refine ⟨_, rfl, ?_⟩
            show E sc mX6_lay 0 [.ref 54, .int (nI 3), .int (nI b), .int z] [] _ _
            refine e_iload_n (pc := 0) (i := 1) dX6_lay_0 rfl rfl ?_
            refine e_i2l (pc := 1) dX6_lay_1 ?_
            refine e_lconst' (pc := 2) (lN 0) dX6_lay_2 (by decide) ?_
            refine e_ldc2 (pc := 3) dX6_lay_3 (klX6_148 rfl) ?_
            refine e_callS3 (pc := 6) (M' := mX6_in) dX6_lay_6 jX6_in lkX6_46 (by decide) (Nat.le_of_ble_eq_true rfl) (Nat.le_of_ble_eq_true rfl) ?_
            refine sp_inY (lo := 0) (hi := 3) (by decide) (by decide) (by omega) (by omega) (by omega) ?_
            refine e_if_ne (pc := 9) (tgt := 14) dX6_lay_9 (by decide) (fun h9 => ?_) (fun h9 => absurd h9 (by decide))
            refine e_aload_n (pc := 14) (i := 0) dX6_lay_14 rfl rfl ?_
            refine e_getR (pc := 15) dX6_lay_15 (fX6_35 rfl) sh_54 rfl ?_
            refine e_iload_n (pc := 18) (i := 1) dX6_lay_18 rfl rfl ?_
            refine e_iald (pc := 19) dX6_lay_19 sh_63 (vp_in_nI (by decide) (by decide)) ?_
            refine E.it (nI 1) f0 ?_
            refine e_bipush' (pc := 20) (-4) dX6_lay_20 (by decide) ?_
            refine e_icmp_ne (pc := 22) (tgt := 28) dX6_lay_22 (by decide) (fun h22 => ?_) (fun h22 => absurd h22 (by decide))
            refine e_iload_n (pc := 28) (i := 2) dX6_lay_28 rfl rfl ?_
            refine e_i2l (pc := 29) dX6_lay_29 ?_
            refine e_lconst' (pc := 30) (lN 0) dX6_lay_30 (by decide) ?_
            refine e_aload_n (pc := 31) (i := 0) dX6_lay_31 rfl rfl ?_
            refine e_getR (pc := 32) dX6_lay_32 (fX6_38 rfl) sh_54 rfl ?_
            refine e_iload_n (pc := 35) (i := 1) dX6_lay_35 rfl rfl ?_
            refine e_iald (pc := 36) dX6_lay_36 sh_64 (vp_in_nI (by decide) (by decide)) ?_
            refine E.it (nI m) f1 ?_
            refine e_iconst' (pc := 37) (nI 1) dX6_lay_37 (by decide) ?_
            refine e_isub (pc := 38) dX6_lay_38 ?_
            refine e_i2l (pc := 39) dX6_lay_39 ?_
            refine e_callS3 (pc := 40) (M' := mX6_in) dX6_lay_40 jX6_in lkX6_46 (by decide) (Nat.le_of_ble_eq_true rfl) (Nat.le_of_ble_eq_true rfl) ?_
            refine sp_inI (lo := 0) (hi := (m : Int) - 1) (by decide) (by rw [Int32.toInt_toInt64, pk_sub_toInt (by omega) (by decide)]; rfl) (fun _ _ _ _ _ => ?_) (fun h => (h b (by omega) rfl (by omega) (by omega)).elim)
            refine e_if_ne (pc := 43) (tgt := 49) dX6_lay_43 (by decide) (fun h43 => ?_) (fun h43 => absurd h43 (by decide))
            refine e_aload_n (pc := 49) (i := 0) dX6_lay_49 rfl rfl ?_
            refine e_getR (pc := 50) dX6_lay_50 (fX6_41 rfl) sh_54 rfl ?_
            refine e_bipush' (pc := 53) (nI 40) dX6_lay_53 (by decide) ?_
            refine e_iload_n (pc := 55) (i := 1) dX6_lay_55 rfl rfl ?_
            refine e_imul (pc := 56) dX6_lay_56 ?_
            refine E.it (nI 120) (pk_mul _ _) ?_
            refine e_iload_n (pc := 57) (i := 2) dX6_lay_57 rfl rfl ?_
            refine e_iadd (pc := 58) dX6_lay_58 ?_
            refine E.it (nI (120 + b)) (nI_add _ _) ?_
            refine e_aload_n (pc := 59) (i := 0) dX6_lay_59 rfl rfl ?_
            refine e_getR (pc := 60) dX6_lay_60 (fX6_35 rfl) sh_54 rfl ?_
            refine e_iload_n (pc := 63) (i := 1) dX6_lay_63 rfl rfl ?_
            refine e_iald (pc := 64) dX6_lay_64 sh_63 (vp_in_nI (by decide) (by decide)) ?_
            refine E.it (nI 1) f0 ?_
            refine e_if_ne (pc := 65) (tgt := 78) dX6_lay_65 (by decide) (fun h65 => ?_) (fun h65 => absurd h65 (by decide))
            refine e_aload_n (pc := 78) (i := 0) dX6_lay_78 rfl rfl ?_
            refine e_getR (pc := 79) dX6_lay_79 (fX6_35 rfl) sh_54 rfl ?_
            refine e_iload_n (pc := 82) (i := 1) dX6_lay_82 rfl rfl ?_
            refine e_iald (pc := 83) dX6_lay_83 sh_63 (vp_in_nI (by decide) (by decide)) ?_
            refine E.it (nI 1) f0 ?_
            refine e_iconst' (pc := 84) (nI 1) dX6_lay_84 (by decide) ?_
            refine e_icmp_ne (pc := 85) (tgt := 98) dX6_lay_85 (by decide) (fun h85 => absurd (by decide) h85) (fun h85 => ?_)
            refine e_iload_n (pc := 88) (i := 3) dX6_lay_88 rfl rfl ?_
            refine e_bipush' (pc := 89) (nI 16) dX6_lay_89 (by decide) ?_
            refine e_ishl (pc := 91) dX6_lay_91 ?_
            refine e_bipush' (pc := 92) (nI 16) dX6_lay_92 (by decide) ?_
            refine e_ishr (pc := 94) dX6_lay_94 ?_
            refine E.it (z.toInt16.toInt32) (sh16 z) ?_
            refine e_goto (pc := 95) (tgt := 99) dX6_lay_95 (by decide) ?_
            refine e_iast (pc := 99) dX6_lay_99 sh_65 (vp_in_nI (by omega) (by omega)) ?_
            refine e_iconst' (pc := 100) (nI 1) dX6_lay_100 (by decide) ?_
            refine e_iret (pc := 101) (st := []) (ty := .int) dX6_lay_101 rfl rfl ?_
            rw [nI_clamp (show 120 + b < 2 ^ 31 by omega)]
            refine ⟨rfl, Inv_sheet hI (fun j h1 h2 h3 h4 => ?_) (fun q hq4 => ?_)⟩
            · show up2 (up2 S.1 37 b z.toInt16.toInt32) 65 (120 + b) _ j = _; rw [up2_ne _ _ _ h4, up2_ne _ _ _ (by omega)]
            · by_cases e : q = 3
              · subst e
                refine Or.inr ⟨1, m, hl, hm, e0, e1, e2, f0, f1, fun x hx => ?_⟩
                have g1 : up2 (up2 S.1 37 b z.toInt16.toInt32) 65 (120 + b) z.toInt16.toInt32 37 x = if x = b then z.toInt16.toInt32 else S.1 37 x := by rw [up2_ne _ _ _ (by decide), up2_at]
                have g2 : up2 (up2 S.1 37 b z.toInt16.toInt32) 65 (120 + b) z.toInt16.toInt32 65 (120 + x) = if 120 + x = 120 + b then z.toInt16.toInt32 else S.1 65 (120 + x) := by rw [up2_at]; rfl
                refine Eq.trans g1 (Eq.trans ?_ g2.symm)
                by_cases ex : x = b
                · rw [if_pos ex, if_pos (by omega)]
                · rw [if_neg ex, if_neg (by omega)]; exact ec x hx
              · refine I6.of (S := S) ?_ ?_ rfl rfl (fun x hx => ?_) (hI.2.2.2.2.2.1 q hq4)
                · show up2 (up2 S.1 37 b z.toInt16.toInt32) 65 (120 + b) z.toInt16.toInt32 (30 + 2 * q) = _; rw [up2_ne _ _ _ (by omega), up2_ne _ _ _ (by omega)]
                · show up2 (up2 S.1 37 b z.toInt16.toInt32) 65 (120 + b) z.toInt16.toInt32 (31 + 2 * q) = _; rw [up2_ne _ _ _ (by omega), up2_ne _ _ _ (by omega)]
                · show up2 (up2 S.1 37 b z.toInt16.toInt32) 65 (120 + b) z.toInt16.toInt32 65 (40 * q + x) = _; rw [up2_at]; exact (if_neg (by omega)).trans rfl
          · show E sc mX5_lay 0 [.ref 0, .int (nI 3), .int (nI b), .int z, .null] [] S _
            refine e_iload_n (pc := 0) (i := 1) dX5_lay_0 rfl rfl ?_
            refine e_iconst' (pc := 1) (nI 0) dX5_lay_1 (by decide) ?_
            refine e_iconst' (pc := 2) (nI 3) dX5_lay_2 (by decide) ?_
            refine e_callS3 (pc := 3) (M' := mX5_within) dX5_lay_3 jX5_within lkX5_70 (by decide) (Nat.le_of_ble_eq_true rfl) (Nat.le_of_ble_eq_true rfl) ?_
            refine sp_winY (by omega) (by omega) (by omega) ?_
            refine e_if_ne (pc := 6) (tgt := 11) dX5_lay_6 (by decide) (fun h6 => ?_) (fun h6 => absurd h6 (by decide))
            refine e_aload_n (pc := 11) (i := 0) dX5_lay_11 rfl rfl ?_
            refine e_getR (pc := 12) dX5_lay_12 (fX5_49 rfl) sh_0 rfl ?_
            refine e_iload_n (pc := 15) (i := 1) dX5_lay_15 rfl rfl ?_
            refine e_aald (pc := 16) (r := 36) dX5_lay_16 sh_29 (vp_in_nI (by decide) (by decide)) (by decide) ?_
            refine e_aload_n (pc := 17) (i := 0) dX5_lay_17 rfl rfl ?_
            refine e_getR (pc := 18) dX5_lay_18 (fX5_49 rfl) sh_0 rfl ?_
            refine e_iload_n (pc := 21) (i := 1) dX5_lay_21 rfl rfl ?_
            refine e_aald (pc := 22) (r := 36) dX5_lay_22 sh_29 (vp_in_nI (by decide) (by decide)) (by decide) ?_
            refine e_getI (pc := 23) dX5_lay_23 (fX5_224 rfl) (sI_sh (Or.inr (Or.inr (Or.inr rfl)))) rfl ?_
            refine E.it (nI 2) e1 ?_
            refine e_iload_n (pc := 26) (i := 2) dX5_lay_26 rfl rfl ?_
            refine e_callV2 (pc := 27) (M' := mX2_faultAt) dX5_lay_27 iX2_faultAt lkX5_227 (by decide) (sI_r (Or.inr (Or.inr (Or.inr rfl)))) (Nat.le_of_ble_eq_true rfl) (Nat.le_of_ble_eq_true rfl) ?_
            refine sp_faultIn (i := 36) (Or.inr (Or.inr (Or.inr rfl))) e0 e1 e2 hm hb ?_
            refine e_istore (pc := 30) dX5_lay_30 (by decide) rfl ?_
            refine e_iload (pc := 32) dX5_lay_32 rfl ?_
            refine e_if_eq (pc := 34) (tgt := 43) dX5_lay_34 (by decide) (fun h34 => ?_) (fun h34 => absurd (by decide) h34)
            refine e_aload_n (pc := 43) (i := 0) dX5_lay_43 rfl rfl ?_
            refine e_getR (pc := 44) dX5_lay_44 (fX5_49 rfl) sh_0 rfl ?_
            refine e_iload_n (pc := 47) (i := 1) dX5_lay_47 rfl rfl ?_
            refine e_aald (pc := 48) (r := 36) dX5_lay_48 sh_29 (vp_in_nI (by decide) (by decide)) (by decide) ?_
            refine e_iload_n (pc := 49) (i := 2) dX5_lay_49 rfl rfl ?_
            refine e_iload_n (pc := 50) (i := 3) dX5_lay_50 rfl rfl ?_
            refine e_callV2 (pc := 51) (M' := mX2_put) dX5_lay_51 iX2_put lkX5_230 (by decide) (sI_r (Or.inr (Or.inr (Or.inr rfl)))) (Nat.le_of_ble_eq_true rfl) (Nat.le_of_ble_eq_true rfl) ?_
            refine sp_put (i := 36) (Or.inr (Or.inr (Or.inr rfl))) e1 (by omega) (by omega) ?_
            refine e_iconst' (pc := 54) (nI 1) dX5_lay_54 (by decide) ?_
            refine e_iret (pc := 55) (st := []) (ty := .int) dX5_lay_55 rfl rfl ?_
            refine ⟨_, rfl, ?_⟩
            show E sc mX6_lay 0 [.ref 54, .int (nI 3), .int (nI b), .int z] [] _ _
            refine e_iload_n (pc := 0) (i := 1) dX6_lay_0 rfl rfl ?_
            refine e_i2l (pc := 1) dX6_lay_1 ?_
            refine e_lconst' (pc := 2) (lN 0) dX6_lay_2 (by decide) ?_
            refine e_ldc2 (pc := 3) dX6_lay_3 (klX6_148 rfl) ?_
            refine e_callS3 (pc := 6) (M' := mX6_in) dX6_lay_6 jX6_in lkX6_46 (by decide) (Nat.le_of_ble_eq_true rfl) (Nat.le_of_ble_eq_true rfl) ?_
            refine sp_inY (lo := 0) (hi := 3) (by decide) (by decide) (by omega) (by omega) (by omega) ?_
            refine e_if_ne (pc := 9) (tgt := 14) dX6_lay_9 (by decide) (fun h9 => ?_) (fun h9 => absurd h9 (by decide))
            refine e_aload_n (pc := 14) (i := 0) dX6_lay_14 rfl rfl ?_
            refine e_getR (pc := 15) dX6_lay_15 (fX6_35 rfl) sh_54 rfl ?_
            refine e_iload_n (pc := 18) (i := 1) dX6_lay_18 rfl rfl ?_
            refine e_iald (pc := 19) dX6_lay_19 sh_63 (vp_in_nI (by decide) (by decide)) ?_
            refine E.it (nI 2) f0 ?_
            refine e_bipush' (pc := 20) (-4) dX6_lay_20 (by decide) ?_
            refine e_icmp_ne (pc := 22) (tgt := 28) dX6_lay_22 (by decide) (fun h22 => ?_) (fun h22 => absurd h22 (by decide))
            refine e_iload_n (pc := 28) (i := 2) dX6_lay_28 rfl rfl ?_
            refine e_i2l (pc := 29) dX6_lay_29 ?_
            refine e_lconst' (pc := 30) (lN 0) dX6_lay_30 (by decide) ?_
            refine e_aload_n (pc := 31) (i := 0) dX6_lay_31 rfl rfl ?_
            refine e_getR (pc := 32) dX6_lay_32 (fX6_38 rfl) sh_54 rfl ?_
            refine e_iload_n (pc := 35) (i := 1) dX6_lay_35 rfl rfl ?_
            refine e_iald (pc := 36) dX6_lay_36 sh_64 (vp_in_nI (by decide) (by decide)) ?_
            refine E.it (nI m) f1 ?_
            refine e_iconst' (pc := 37) (nI 1) dX6_lay_37 (by decide) ?_
            refine e_isub (pc := 38) dX6_lay_38 ?_
            refine e_i2l (pc := 39) dX6_lay_39 ?_
            refine e_callS3 (pc := 40) (M' := mX6_in) dX6_lay_40 jX6_in lkX6_46 (by decide) (Nat.le_of_ble_eq_true rfl) (Nat.le_of_ble_eq_true rfl) ?_
            refine sp_inI (lo := 0) (hi := (m : Int) - 1) (by decide) (by rw [Int32.toInt_toInt64, pk_sub_toInt (by omega) (by decide)]; rfl) (fun _ _ _ _ _ => ?_) (fun h => (h b (by omega) rfl (by omega) (by omega)).elim)
            refine e_if_ne (pc := 43) (tgt := 49) dX6_lay_43 (by decide) (fun h43 => ?_) (fun h43 => absurd h43 (by decide))
            refine e_aload_n (pc := 49) (i := 0) dX6_lay_49 rfl rfl ?_
            refine e_getR (pc := 50) dX6_lay_50 (fX6_41 rfl) sh_54 rfl ?_
            refine e_bipush' (pc := 53) (nI 40) dX6_lay_53 (by decide) ?_
            refine e_iload_n (pc := 55) (i := 1) dX6_lay_55 rfl rfl ?_
            refine e_imul (pc := 56) dX6_lay_56 ?_
            refine E.it (nI 120) (pk_mul _ _) ?_
            refine e_iload_n (pc := 57) (i := 2) dX6_lay_57 rfl rfl ?_
            refine e_iadd (pc := 58) dX6_lay_58 ?_
            refine E.it (nI (120 + b)) (nI_add _ _) ?_
            refine e_aload_n (pc := 59) (i := 0) dX6_lay_59 rfl rfl ?_
            refine e_getR (pc := 60) dX6_lay_60 (fX6_35 rfl) sh_54 rfl ?_
            refine e_iload_n (pc := 63) (i := 1) dX6_lay_63 rfl rfl ?_
            refine e_iald (pc := 64) dX6_lay_64 sh_63 (vp_in_nI (by decide) (by decide)) ?_
            refine E.it (nI 2) f0 ?_
            refine e_if_ne (pc := 65) (tgt := 78) dX6_lay_65 (by decide) (fun h65 => ?_) (fun h65 => absurd h65 (by decide))
            refine e_aload_n (pc := 78) (i := 0) dX6_lay_78 rfl rfl ?_
            refine e_getR (pc := 79) dX6_lay_79 (fX6_35 rfl) sh_54 rfl ?_
            refine e_iload_n (pc := 82) (i := 1) dX6_lay_82 rfl rfl ?_
            refine e_iald (pc := 83) dX6_lay_83 sh_63 (vp_in_nI (by decide) (by decide)) ?_
            refine E.it (nI 2) f0 ?_
            refine e_iconst' (pc := 84) (nI 1) dX6_lay_84 (by decide) ?_
            refine e_icmp_ne (pc := 85) (tgt := 98) dX6_lay_85 (by decide) (fun h85 => ?_) (fun h85 => absurd h85 (by decide))
            refine e_iload_n (pc := 98) (i := 3) dX6_lay_98 rfl rfl ?_
            refine e_iast (pc := 99) dX6_lay_99 sh_65 (vp_in_nI (by omega) (by omega)) ?_
            refine e_iconst' (pc := 100) (nI 1) dX6_lay_100 (by decide) ?_
            refine e_iret (pc := 101) (st := []) (ty := .int) dX6_lay_101 rfl rfl ?_
            rw [nI_clamp (show 120 + b < 2 ^ 31 by omega)]
            refine ⟨rfl, Inv_sheet hI (fun j h1 h2 h3 h4 => ?_) (fun q hq4 => ?_)⟩
            · show up2 (up2 S.1 37 b z) 65 (120 + b) _ j = _; rw [up2_ne _ _ _ h4, up2_ne _ _ _ (by omega)]
            · by_cases e : q = 3
              · subst e
                refine Or.inr ⟨2, m, hl, hm, e0, e1, e2, f0, f1, fun x hx => ?_⟩
                have g1 : up2 (up2 S.1 37 b z) 65 (120 + b) z 37 x = if x = b then z else S.1 37 x := by rw [up2_ne _ _ _ (by decide), up2_at]
                have g2 : up2 (up2 S.1 37 b z) 65 (120 + b) z 65 (120 + x) = if 120 + x = 120 + b then z else S.1 65 (120 + x) := by rw [up2_at]; rfl
                refine Eq.trans g1 (Eq.trans ?_ g2.symm)
                by_cases ex : x = b
                · rw [if_pos ex, if_pos (by omega)]
                · rw [if_neg ex, if_neg (by omega)]; exact ec x hx
              · refine I6.of (S := S) ?_ ?_ rfl rfl (fun x hx => ?_) (hI.2.2.2.2.2.1 q hq4)
                · show up2 (up2 S.1 37 b z) 65 (120 + b) z (30 + 2 * q) = _; rw [up2_ne _ _ _ (by omega), up2_ne _ _ _ (by omega)]
                · show up2 (up2 S.1 37 b z) 65 (120 + b) z (31 + 2 * q) = _; rw [up2_ne _ _ _ (by omega), up2_ne _ _ _ (by omega)]
                · show up2 (up2 S.1 37 b z) 65 (120 + b) z 65 (40 * q + x) = _; rw [up2_at]; exact (if_neg (by omega)).trans rfl
        · refine ask_both (-12) hI (fun Q k => ?_) (fun S1 h1 Q k => ?_)
          · show E sc mX5_lay 0 [.ref 0, .int (nI 3), .int y, .int z, .null] [] S Q
            refine e_iload_n (pc := 0) (i := 1) dX5_lay_0 rfl rfl ?_
            refine e_iconst' (pc := 1) (nI 0) dX5_lay_1 (by decide) ?_
            refine e_iconst' (pc := 2) (nI 3) dX5_lay_2 (by decide) ?_
            refine e_callS3 (pc := 3) (M' := mX5_within) dX5_lay_3 jX5_within lkX5_70 (by decide) (Nat.le_of_ble_eq_true rfl) (Nat.le_of_ble_eq_true rfl) ?_
            refine sp_winY (by omega) (by omega) (by omega) ?_
            refine e_if_ne (pc := 6) (tgt := 11) dX5_lay_6 (by decide) (fun h6 => ?_) (fun h6 => absurd h6 (by decide))
            refine e_aload_n (pc := 11) (i := 0) dX5_lay_11 rfl rfl ?_
            refine e_getR (pc := 12) dX5_lay_12 (fX5_49 rfl) sh_0 rfl ?_
            refine e_iload_n (pc := 15) (i := 1) dX5_lay_15 rfl rfl ?_
            refine e_aald (pc := 16) (r := 36) dX5_lay_16 sh_29 (vp_in_nI (by decide) (by decide)) (by decide) ?_
            refine e_aload_n (pc := 17) (i := 0) dX5_lay_17 rfl rfl ?_
            refine e_getR (pc := 18) dX5_lay_18 (fX5_49 rfl) sh_0 rfl ?_
            refine e_iload_n (pc := 21) (i := 1) dX5_lay_21 rfl rfl ?_
            refine e_aald (pc := 22) (r := 36) dX5_lay_22 sh_29 (vp_in_nI (by decide) (by decide)) (by decide) ?_
            refine e_getI (pc := 23) dX5_lay_23 (fX5_224 rfl) (sI_sh (Or.inr (Or.inr (Or.inr rfl)))) rfl ?_
            refine E.it (nI l) e1 ?_
            refine e_iload_n (pc := 26) (i := 2) dX5_lay_26 rfl rfl ?_
            refine e_callV2 (pc := 27) (M' := mX2_faultAt) dX5_lay_27 iX2_faultAt lkX5_227 (by decide) (sI_r (Or.inr (Or.inr (Or.inr rfl)))) (Nat.le_of_ble_eq_true rfl) (Nat.le_of_ble_eq_true rfl) ?_
            refine sp_faultOut (i := 36) (Or.inr (Or.inr (Or.inr rfl))) e0 e1 e2 hm hn ?_
            refine e_istore (pc := 30) dX5_lay_30 (by decide) rfl ?_
            refine e_iload (pc := 32) dX5_lay_32 rfl ?_
            refine e_if_eq (pc := 34) (tgt := 43) dX5_lay_34 (by decide) (fun h34 => absurd h34 (by decide)) (fun h34 => ?_)
            refine e_bipush' (pc := 37) (-10) dX5_lay_37 (by decide) ?_
            refine e_iload (pc := 39) dX5_lay_39 rfl ?_
            refine e_isub (pc := 41) dX5_lay_41 ?_
            refine E.it (-12) (by decide) ?_
            refine e_iret (pc := 42) (st := []) (ty := .int) dX5_lay_42 rfl rfl ?_
            exact k _ Same.rf
          · show E sc mX6_lay 0 [.ref 54, .int (nI 3), .int y, .int z] [] S1 Q
            have hp := h1.pg (by omega) hv hp
            have hr := h1.row (by omega) hr
            refine e_iload_n (pc := 0) (i := 1) dX6_lay_0 rfl rfl ?_
            refine e_i2l (pc := 1) dX6_lay_1 ?_
            refine e_lconst' (pc := 2) (lN 0) dX6_lay_2 (by decide) ?_
            refine e_ldc2 (pc := 3) dX6_lay_3 (klX6_148 rfl) ?_
            refine e_callS3 (pc := 6) (M' := mX6_in) dX6_lay_6 jX6_in lkX6_46 (by decide) (Nat.le_of_ble_eq_true rfl) (Nat.le_of_ble_eq_true rfl) ?_
            refine sp_inY (lo := 0) (hi := 3) (by decide) (by decide) (by omega) (by omega) (by omega) ?_
            refine e_if_ne (pc := 9) (tgt := 14) dX6_lay_9 (by decide) (fun h9 => ?_) (fun h9 => absurd h9 (by decide))
            refine e_aload_n (pc := 14) (i := 0) dX6_lay_14 rfl rfl ?_
            refine e_getR (pc := 15) dX6_lay_15 (fX6_35 rfl) sh_54 rfl ?_
            refine e_iload_n (pc := 18) (i := 1) dX6_lay_18 rfl rfl ?_
            refine e_iald (pc := 19) dX6_lay_19 sh_63 (vp_in_nI (by decide) (by decide)) ?_
            refine E.it (nI l) (by show S1.1 63 3 = _; rw [h1.2.2.2 63 (by omega)]; exact f0) ?_
            refine e_bipush' (pc := 20) (-4) dX6_lay_20 (by decide) ?_
            refine e_icmp_ne (pc := 22) (tgt := 28) dX6_lay_22 (by decide) (fun h22 => ?_) (fun h22 => absurd h22 (fun q => absurd (congrArg Int32.toInt q) (by rw [nI_toInt (by omega)]; show ¬ (l : Int) = -4; omega)))
            refine e_iload_n (pc := 28) (i := 2) dX6_lay_28 rfl rfl ?_
            refine e_i2l (pc := 29) dX6_lay_29 ?_
            refine e_lconst' (pc := 30) (lN 0) dX6_lay_30 (by decide) ?_
            refine e_aload_n (pc := 31) (i := 0) dX6_lay_31 rfl rfl ?_
            refine e_getR (pc := 32) dX6_lay_32 (fX6_38 rfl) sh_54 rfl ?_
            refine e_iload_n (pc := 35) (i := 1) dX6_lay_35 rfl rfl ?_
            refine e_iald (pc := 36) dX6_lay_36 sh_64 (vp_in_nI (by decide) (by decide)) ?_
            refine E.it (nI m) (by show S1.1 64 3 = _; rw [h1.2.2.2 64 (by omega)]; exact f1) ?_
            refine e_iconst' (pc := 37) (nI 1) dX6_lay_37 (by decide) ?_
            refine e_isub (pc := 38) dX6_lay_38 ?_
            refine e_i2l (pc := 39) dX6_lay_39 ?_
            refine e_callS3 (pc := 40) (M' := mX6_in) dX6_lay_40 jX6_in lkX6_46 (by decide) (Nat.le_of_ble_eq_true rfl) (Nat.le_of_ble_eq_true rfl) ?_
            refine sp_inI (lo := 0) (hi := (m : Int) - 1) (by decide) (by rw [Int32.toInt_toInt64, pk_sub_toInt (by omega) (by decide)]; rfl) (fun b hb e g1 g2 => (hn ⟨b, e, by omega⟩).elim) (fun _ => ?_)
            refine e_if_ne (pc := 43) (tgt := 49) dX6_lay_43 (by decide) (fun h43 => absurd (by decide) h43) (fun h43 => ?_)
            refine e_bipush' (pc := 46) (-12) dX6_lay_46 (by decide) ?_
            refine e_iret (pc := 48) (st := []) (ty := .int) dX6_lay_48 rfl rfl ?_
            exact k _ Same.rf
  · refine ask_both (-1) hI (fun Q k => ?_) (fun S1 h1 Q k => ?_)
    · show E sc mX5_lay 0 [.ref 0, .int x, .int y, .int z, .null] [] S Q
      refine e_iload_n (pc := 0) (i := 1) dX5_lay_0 rfl rfl ?_
      refine e_iconst' (pc := 1) (nI 0) dX5_lay_1 (by decide) ?_
      refine e_iconst' (pc := 2) (nI 3) dX5_lay_2 (by decide) ?_
      refine e_callS3 (pc := 3) (M' := mX5_within) dX5_lay_3 jX5_within lkX5_70 (by decide) (Nat.le_of_ble_eq_true rfl) (Nat.le_of_ble_eq_true rfl) ?_
      refine sp_winX hn (by omega) (by omega) ?_
      refine e_if_ne (pc := 6) (tgt := 11) dX5_lay_6 (by decide) (fun h6 => absurd (by decide) h6) (fun h6 => ?_)
      refine e_iconst' (pc := 9) (-1) dX5_lay_9 (by decide) ?_
      refine e_iret (pc := 10) (st := []) (ty := .int) dX5_lay_10 rfl rfl ?_
      exact k _ Same.rf
    · show E sc mX6_lay 0 [.ref 54, .int x, .int y, .int z] [] S1 Q
      have hp := h1.pg (by omega) hv hp
      have hr := h1.row (by omega) hr
      refine e_iload_n (pc := 0) (i := 1) dX6_lay_0 rfl rfl ?_
      refine e_i2l (pc := 1) dX6_lay_1 ?_
      refine e_lconst' (pc := 2) (lN 0) dX6_lay_2 (by decide) ?_
      refine e_ldc2 (pc := 3) dX6_lay_3 (klX6_148 rfl) ?_
      refine e_callS3 (pc := 6) (M' := mX6_in) dX6_lay_6 jX6_in lkX6_46 (by decide) (Nat.le_of_ble_eq_true rfl) (Nat.le_of_ble_eq_true rfl) ?_
      refine sp_inX (lo := 0) (hi := 3) (by decide) (by decide) hn ?_
      refine e_if_ne (pc := 9) (tgt := 14) dX6_lay_9 (by decide) (fun h9 => absurd (by decide) h9) (fun h9 => ?_)
      refine e_iconst' (pc := 12) (-1) dX6_lay_12 (by decide) ?_
      refine e_iret (pc := 13) (st := []) (ty := .int) dX6_lay_13 rfl rfl ?_
      exact k _ Same.rf

theorem see_inv {S S' : PS} {n a b : Nat} {sp sv : Nat → Nat} (hI : InvS S) (hn : n < 6) (ha : a ≤ 200) (hb : b ≤ 248831) (ht : ∀ k, k < n → sp k ≤ 200 ∧ sv k ≤ 248831 ∧ S.1 27 k = nI (sp k) ∧ S.1 28 k = nI (sv k) ∧ S.1 60 (2 * k) = nI (sp k) ∧ S.1 60 (2 * k + 1) = nI (sv k)) (e : S' = (up2 (up2 (up2 (up2 (up2 (up2 S.1 27 n (nI a)) 28 n (nI b)) 26 0 (nI (n + 1))) 60 (2 * n) (nI a)) 60 (2 * n + 1) (nI b)) 54 18 (nI (n + 1)), S.2)) : InvS S' := by
  subst e
  refine Inv_seen (n := n + 1) (sp := fun k => if k = n then a else sp k) (sv := fun k => if k = n then b else sv k) hI (fun j h1 h2 h3 h4 h5 => ?_) (fun k hk => ?_) ⟨by omega, rfl, rfl, fun k hk => ?_⟩
  · show up2 (up2 (up2 (up2 (up2 (up2 S.1 27 n (nI a)) 28 n (nI b)) 26 0 (nI (n + 1))) 60 (2 * n) (nI a)) 60 (2 * n + 1) (nI b)) 54 18 (nI (n + 1)) j = _
    rw [up2_ne _ _ _ h5, up2_ne _ _ _ h4, up2_ne _ _ _ h4, up2_ne _ _ _ h1, up2_ne _ _ _ h3, up2_ne _ _ _ h2]
  · show up2 (up2 (up2 (up2 (up2 (up2 S.1 27 n (nI a)) 28 n (nI b)) 26 0 (nI (n + 1))) 60 (2 * n) (nI a)) 60 (2 * n + 1) (nI b)) 54 18 (nI (n + 1)) 54 k = _
    rw [up2_at]; show (if k = 18 then _ else _) = _; rw [if_neg hk]; rfl
  · generalize hX : up2 (up2 (up2 (up2 (up2 (up2 S.1 27 n (nI a)) 28 n (nI b)) 26 0 (nI (n + 1))) 60 (2 * n) (nI a)) 60 (2 * n + 1) (nI b)) 54 18 (nI (n + 1)) = X
    have e1 : ∀ q, X 27 q = if q = n then nI a else S.1 27 q := by intro q; rw [← hX, up2_ne _ _ _ (by decide), up2_ne _ _ _ (by decide), up2_ne _ _ _ (by decide), up2_ne _ _ _ (by decide), up2_ne _ _ _ (by decide), up2_at]
    have e2 : ∀ q, X 28 q = if q = n then nI b else S.1 28 q := by intro q; rw [← hX, up2_ne _ _ _ (by decide), up2_ne _ _ _ (by decide), up2_ne _ _ _ (by decide), up2_ne _ _ _ (by decide), up2_at]; rfl
    have e3 : ∀ q, X 60 q = if q = 2 * n + 1 then nI b else if q = 2 * n then nI a else S.1 60 q := by intro q; rw [← hX, up2_ne _ _ _ (by decide), up2_at, up2_at]; rfl
    have g1 := e1 k
    have g2 := e2 k
    have g3 := e3 (2 * k)
    have g4 := e3 (2 * k + 1)
    by_cases h : k = n
    · subst h
      rw [if_pos rfl] at g1 g2 g4
      rw [if_neg (by omega), if_pos rfl] at g3
      refine ⟨?_, ?_, g1.trans ?_, g2.trans ?_, g3.trans ?_, g4.trans ?_⟩
      · show (if k = k then a else sp k) ≤ 200; rw [if_pos rfl]; exact ha
      · show (if k = k then b else sv k) ≤ 248831; rw [if_pos rfl]; exact hb
      · show _ = nI (if k = k then a else sp k); rw [if_pos rfl]
      · show _ = nI (if k = k then b else sv k); rw [if_pos rfl]
      · show _ = nI (if k = k then a else sp k); rw [if_pos rfl]
      · show _ = nI (if k = k then b else sv k); rw [if_pos rfl]
    · rw [if_neg h] at g1 g2
      rw [if_neg (by omega), if_neg (by omega)] at g3 g4
      obtain ⟨b1, b2, b3, b4, b5, b6⟩ := ht k (by omega)
      refine ⟨?_, ?_, g1.trans ?_, g2.trans ?_, g3.trans ?_, g4.trans ?_⟩
      · show (if k = n then a else sp k) ≤ 200; rw [if_neg h]; exact b1
      · show (if k = n then b else sv k) ≤ 248831; rw [if_neg h]; exact b2
      · show _ = nI (if k = n then a else sp k); rw [if_neg h]; exact b3
      · show _ = nI (if k = n then b else sv k); rw [if_neg h]; exact b4
      · show _ = nI (if k = n then a else sp k); rw [if_neg h]; exact b5
      · show _ = nI (if k = n then b else sv k); rw [if_neg h]; exact b6
theorem b_see {sc : PSc} {S : PS} (hI : InvS S) (x y : Int32) : Bth sc mX5_see mX6_see [.int x, .int y] S := by
  obtain ⟨R, hv, hc, hr, hp⟩ := hI.1
  obtain ⟨n, sp, sv, hn6, t26, t54, tss⟩ := hI.2.2.2.2.1
  have hv5 := hv.1
  rcases Classical.em (inr x 0 200) with ⟨a, rfl, -, ha⟩ | hn
  · rcases Classical.em (inr y 0 248831) with ⟨b, rfl, -, hb⟩ | hn
    · by_cases hn : n < 6
      · show E sc mX5_see 0 [.ref 0, .int (nI a), .int (nI b)] [] S _
        refine e_iload_n (pc := 0) (i := 1) dX5_see_0 rfl rfl ?_
        refine e_iconst' (pc := 1) (nI 0) dX5_see_1 (by decide) ?_
        refine e_sipush' (pc := 2) (nI 200) dX5_see_2 (by decide) ?_
        refine e_callS3 (pc := 5) (M' := mX5_within) dX5_see_5 jX5_within lkX5_70 (by decide) (Nat.le_of_ble_eq_true rfl) (Nat.le_of_ble_eq_true rfl) ?_
        refine sp_winY (by omega) (by omega) (by omega) ?_
        refine e_if_eq (pc := 8) (tgt := 21) dX5_see_8 (by decide) (fun h8 => absurd h8 (by decide)) (fun h8 => ?_)
        refine e_iload_n (pc := 11) (i := 2) dX5_see_11 rfl rfl ?_
        refine e_iconst' (pc := 12) (nI 0) dX5_see_12 (by decide) ?_
        refine e_ldc' (pc := 13) (nI 248831) dX5_see_13 (kcX5_166 rfl) (by decide) ?_
        refine e_callS3 (pc := 15) (M' := mX5_within) dX5_see_15 jX5_within lkX5_70 (by decide) (Nat.le_of_ble_eq_true rfl) (Nat.le_of_ble_eq_true rfl) ?_
        refine sp_winY (by omega) (by omega) (by omega) ?_
        refine e_if_ne (pc := 18) (tgt := 23) dX5_see_18 (by decide) (fun h18 => ?_) (fun h18 => absurd h18 (by decide))
        refine e_aload_n (pc := 23) (i := 0) dX5_see_23 rfl rfl ?_
        refine e_getR (pc := 24) dX5_see_24 (fX5_42 rfl) sh_0 rfl ?_
        refine e_getI (pc := 27) dX5_see_27 (fX5_94 rfl) sh_26 rfl ?_
        refine E.it (nI n) t26 ?_
        refine e_bipush' (pc := 30) (nI 6) dX5_see_30 (by decide) ?_
        refine e_icmp_lt (pc := 32) (tgt := 38) dX5_see_32 (by decide) (fun h32 => ?_) (fun h32 => absurd (nI_lt hn (by omega)) h32)
        replace h32 := (nI_ltI (by omega) (by omega)).mp h32
        refine e_aload_n (pc := 38) (i := 0) dX5_see_38 rfl rfl ?_
        refine e_getR (pc := 39) dX5_see_39 (fX5_42 rfl) sh_0 rfl ?_
        refine e_getR (pc := 42) dX5_see_42 (fX5_195 rfl) sh_26 rfl ?_
        refine e_aload_n (pc := 45) (i := 0) dX5_see_45 rfl rfl ?_
        refine e_getR (pc := 46) dX5_see_46 (fX5_42 rfl) sh_0 rfl ?_
        refine e_getI (pc := 49) dX5_see_49 (fX5_94 rfl) sh_26 rfl ?_
        refine E.it (nI n) t26 ?_
        refine e_iload_n (pc := 52) (i := 1) dX5_see_52 rfl rfl ?_
        refine e_iast (pc := 53) dX5_see_53 sh_27 (vp_in_nI (by omega) (by omega)) ?_
        refine e_aload_n (pc := 54) (i := 0) dX5_see_54 rfl rfl ?_
        refine e_getR (pc := 55) dX5_see_55 (fX5_42 rfl) sh_0 rfl ?_
        refine e_getR (pc := 58) dX5_see_58 (fX5_198 rfl) sh_26 rfl ?_
        refine e_aload_n (pc := 61) (i := 0) dX5_see_61 rfl rfl ?_
        refine e_getR (pc := 62) dX5_see_62 (fX5_42 rfl) sh_0 rfl ?_
        refine e_getI (pc := 65) dX5_see_65 (fX5_94 rfl) sh_26 rfl ?_
        refine E.it (nI n) t26 ?_
        refine e_iload_n (pc := 68) (i := 2) dX5_see_68 rfl rfl ?_
        refine e_iast (pc := 69) dX5_see_69 sh_28 (vp_in_nI (by omega) (by omega)) ?_
        refine e_aload_n (pc := 70) (i := 0) dX5_see_70 rfl rfl ?_
        refine e_getR (pc := 71) dX5_see_71 (fX5_42 rfl) sh_0 rfl ?_
        refine e_dup (pc := 74) dX5_see_74 rfl ?_
        refine e_getI (pc := 75) dX5_see_75 (fX5_94 rfl) sh_26 rfl ?_
        refine E.it (nI n) t26 ?_
        refine e_iconst' (pc := 78) (nI 1) dX5_see_78 (by decide) ?_
        refine e_iadd (pc := 79) dX5_see_79 ?_
        refine E.it (nI (n + 1)) (nI_add _ _) ?_
        refine e_putI (pc := 80) dX5_see_80 (pX5_94 rfl) sh_26 rfl (fun h => by cases h) ?_
        refine e_aload_n (pc := 83) (i := 0) dX5_see_83 rfl rfl ?_
        refine e_getR (pc := 84) dX5_see_84 (fX5_42 rfl) sh_0 rfl ?_
        refine e_getI (pc := 87) dX5_see_87 (fX5_94 rfl) sh_26 rfl ?_
        refine E.it (nI (n + 1)) rfl ?_
        refine e_iret (pc := 90) (st := []) (ty := .int) dX5_see_90 rfl rfl ?_
        rw [nI_clamp (show n < 2 ^ 31 by omega)]
        refine ⟨_, rfl, ?_⟩
        show E sc mX6_see 0 [.ref 54, .int (nI a), .int (nI b)] [] _ _
        refine e_iload_n (pc := 0) (i := 1) dX6_see_0 rfl rfl ?_
        refine e_i2l (pc := 1) dX6_see_1 ?_
        refine e_lconst' (pc := 2) (lN 0) dX6_see_2 (by decide) ?_
        refine e_ldc2 (pc := 3) dX6_see_3 (klX6_185 rfl) ?_
        refine e_callS3 (pc := 6) (M' := mX6_in) dX6_see_6 jX6_in lkX6_46 (by decide) (Nat.le_of_ble_eq_true rfl) (Nat.le_of_ble_eq_true rfl) ?_
        refine sp_inY (lo := 0) (hi := 200) (by decide) (by decide) (by omega) (by omega) (by omega) ?_
        refine e_if_eq (pc := 9) (tgt := 19) dX6_see_9 (by decide) (fun h9 => absurd h9 (by decide)) (fun h9 => ?_)
        refine e_iload_n (pc := 12) (i := 2) dX6_see_12 rfl rfl ?_
        refine e_callS1 (pc := 13) (M' := mX6_isReading) dX6_see_13 jX6_isReading lkX6_179 (by decide) (Nat.le_of_ble_eq_true rfl) (Nat.le_of_ble_eq_true rfl) ?_
        refine sp_isReadingY hb ?_
        refine e_if_ne (pc := 16) (tgt := 21) dX6_see_16 (by decide) (fun h16 => ?_) (fun h16 => absurd h16 (by decide))
        refine e_aload_n (pc := 21) (i := 0) dX6_see_21 rfl rfl ?_
        refine e_getI (pc := 22) dX6_see_22 (fX6_114 rfl) sh_54 rfl ?_
        refine E.it (nI n) t54 ?_
        refine e_bipush' (pc := 25) (nI 6) dX6_see_25 (by decide) ?_
        refine e_icmp_ne (pc := 27) (tgt := 33) dX6_see_27 (by decide) (fun h27 => ?_) (fun h27 => absurd ((nI_eq (by omega) (by omega)).mp h27) (by omega))
        replace h27 := mt (nI_eq (by omega) (by omega)).mpr h27
        refine e_aload_n (pc := 33) (i := 0) dX6_see_33 rfl rfl ?_
        refine e_getR (pc := 34) dX6_see_34 (fX6_25 rfl) sh_54 rfl ?_
        refine e_iconst' (pc := 37) (nI 2) dX6_see_37 (by decide) ?_
        refine e_aload_n (pc := 38) (i := 0) dX6_see_38 rfl rfl ?_
        refine e_getI (pc := 39) dX6_see_39 (fX6_114 rfl) sh_54 rfl ?_
        refine E.it (nI n) t54 ?_
        refine e_imul (pc := 42) dX6_see_42 ?_
        refine E.it (nI (2 * n)) (pk_mul _ _) ?_
        refine e_iload_n (pc := 43) (i := 1) dX6_see_43 rfl rfl ?_
        refine e_iast (pc := 44) dX6_see_44 sh_60 (vp_in_nI (by omega) (by omega)) ?_
        refine e_aload_n (pc := 45) (i := 0) dX6_see_45 rfl rfl ?_
        refine e_getR (pc := 46) dX6_see_46 (fX6_25 rfl) sh_54 rfl ?_
        refine e_iconst' (pc := 49) (nI 2) dX6_see_49 (by decide) ?_
        refine e_aload_n (pc := 50) (i := 0) dX6_see_50 rfl rfl ?_
        refine e_getI (pc := 51) dX6_see_51 (fX6_114 rfl) sh_54 rfl ?_
        refine E.it (nI n) t54 ?_
        refine e_imul (pc := 54) dX6_see_54 ?_
        refine E.it (nI (2 * n)) (pk_mul _ _) ?_
        refine e_iconst' (pc := 55) (nI 1) dX6_see_55 (by decide) ?_
        refine e_iadd (pc := 56) dX6_see_56 ?_
        refine E.it (nI (2 * n + 1)) (nI_add _ _) ?_
        refine e_iload_n (pc := 57) (i := 2) dX6_see_57 rfl rfl ?_
        refine e_iast (pc := 58) dX6_see_58 sh_60 (vp_in_nI (by omega) (by omega)) ?_
        refine e_aload_n (pc := 59) (i := 0) dX6_see_59 rfl rfl ?_
        refine e_dup (pc := 60) dX6_see_60 rfl ?_
        refine e_getI (pc := 61) dX6_see_61 (fX6_114 rfl) sh_54 rfl ?_
        refine E.it (nI n) t54 ?_
        refine e_iconst' (pc := 64) (nI 1) dX6_see_64 (by decide) ?_
        refine e_iadd (pc := 65) dX6_see_65 ?_
        refine E.it (nI (n + 1)) (nI_add _ _) ?_
        refine e_putI (pc := 66) dX6_see_66 (pX6_114 rfl) sh_54 rfl (fun h => by cases h) ?_
        refine e_aload_n (pc := 69) (i := 0) dX6_see_69 rfl rfl ?_
        refine e_getI (pc := 70) dX6_see_70 (fX6_114 rfl) sh_54 rfl ?_
        refine E.it (nI (n + 1)) rfl ?_
        refine e_iret (pc := 73) (st := []) (ty := .int) dX6_see_73 rfl rfl ?_
        rw [nI_clamp (show 2 * n < 2 ^ 31 by omega), nI_clamp (show 2 * n + 1 < 2 ^ 31 by omega)]
        exact ⟨rfl, see_inv hI hn ha hb tss rfl⟩
      · refine ask_both (-3) hI (fun Q k => ?_) (fun S1 h1 Q k => ?_)
        · show E sc mX5_see 0 [.ref 0, .int (nI a), .int (nI b)] [] S Q
          refine e_iload_n (pc := 0) (i := 1) dX5_see_0 rfl rfl ?_
          refine e_iconst' (pc := 1) (nI 0) dX5_see_1 (by decide) ?_
          refine e_sipush' (pc := 2) (nI 200) dX5_see_2 (by decide) ?_
          refine e_callS3 (pc := 5) (M' := mX5_within) dX5_see_5 jX5_within lkX5_70 (by decide) (Nat.le_of_ble_eq_true rfl) (Nat.le_of_ble_eq_true rfl) ?_
          refine sp_winY (by omega) (by omega) (by omega) ?_
          refine e_if_eq (pc := 8) (tgt := 21) dX5_see_8 (by decide) (fun h8 => absurd h8 (by decide)) (fun h8 => ?_)
          refine e_iload_n (pc := 11) (i := 2) dX5_see_11 rfl rfl ?_
          refine e_iconst' (pc := 12) (nI 0) dX5_see_12 (by decide) ?_
          refine e_ldc' (pc := 13) (nI 248831) dX5_see_13 (kcX5_166 rfl) (by decide) ?_
          refine e_callS3 (pc := 15) (M' := mX5_within) dX5_see_15 jX5_within lkX5_70 (by decide) (Nat.le_of_ble_eq_true rfl) (Nat.le_of_ble_eq_true rfl) ?_
          refine sp_winY (by omega) (by omega) (by omega) ?_
          refine e_if_ne (pc := 18) (tgt := 23) dX5_see_18 (by decide) (fun h18 => ?_) (fun h18 => absurd h18 (by decide))
          refine e_aload_n (pc := 23) (i := 0) dX5_see_23 rfl rfl ?_
          refine e_getR (pc := 24) dX5_see_24 (fX5_42 rfl) sh_0 rfl ?_
          refine e_getI (pc := 27) dX5_see_27 (fX5_94 rfl) sh_26 rfl ?_
          refine E.it (nI n) t26 ?_
          refine e_bipush' (pc := 30) (nI 6) dX5_see_30 (by decide) ?_
          refine e_icmp_lt (pc := 32) (tgt := 38) dX5_see_32 (by decide) (fun h32 => absurd ((nI_ltI (by omega) (by omega)).mp h32) hn) (fun h32 => ?_)
          replace h32 := mt (nI_ltI (by omega) (by omega)).mpr h32
          refine e_bipush' (pc := 35) (-3) dX5_see_35 (by decide) ?_
          refine e_iret (pc := 37) (st := []) (ty := .int) dX5_see_37 rfl rfl ?_
          exact k _ Same.rf
        · show E sc mX6_see 0 [.ref 54, .int (nI a), .int (nI b)] [] S1 Q
          have hp := h1.pg (by omega) hv hp
          have hr := h1.row (by omega) hr
          refine e_iload_n (pc := 0) (i := 1) dX6_see_0 rfl rfl ?_
          refine e_i2l (pc := 1) dX6_see_1 ?_
          refine e_lconst' (pc := 2) (lN 0) dX6_see_2 (by decide) ?_
          refine e_ldc2 (pc := 3) dX6_see_3 (klX6_185 rfl) ?_
          refine e_callS3 (pc := 6) (M' := mX6_in) dX6_see_6 jX6_in lkX6_46 (by decide) (Nat.le_of_ble_eq_true rfl) (Nat.le_of_ble_eq_true rfl) ?_
          refine sp_inY (lo := 0) (hi := 200) (by decide) (by decide) (by omega) (by omega) (by omega) ?_
          refine e_if_eq (pc := 9) (tgt := 19) dX6_see_9 (by decide) (fun h9 => absurd h9 (by decide)) (fun h9 => ?_)
          refine e_iload_n (pc := 12) (i := 2) dX6_see_12 rfl rfl ?_
          refine e_callS1 (pc := 13) (M' := mX6_isReading) dX6_see_13 jX6_isReading lkX6_179 (by decide) (Nat.le_of_ble_eq_true rfl) (Nat.le_of_ble_eq_true rfl) ?_
          refine sp_isReadingY hb ?_
          refine e_if_ne (pc := 16) (tgt := 21) dX6_see_16 (by decide) (fun h16 => ?_) (fun h16 => absurd h16 (by decide))
          refine e_aload_n (pc := 21) (i := 0) dX6_see_21 rfl rfl ?_
          refine e_getI (pc := 22) dX6_see_22 (fX6_114 rfl) sh_54 rfl ?_
          refine E.it (nI n) ((h1.2.1 18 (by omega)).trans t54) ?_
          refine e_bipush' (pc := 25) (nI 6) dX6_see_25 (by decide) ?_
          refine e_icmp_ne (pc := 27) (tgt := 33) dX6_see_27 (by decide) (fun h27 => absurd (by rw [show n = 6 by omega]) h27) (fun h27 => ?_)
          replace h27 := (nI_eq (by omega) (by omega)).mp h27
          refine e_bipush' (pc := 30) (-3) dX6_see_30 (by decide) ?_
          refine e_iret (pc := 32) (st := []) (ty := .int) dX6_see_32 rfl rfl ?_
          exact k _ Same.rf
    · refine ask_both (-1) hI (fun Q k => ?_) (fun S1 h1 Q k => ?_)
      · show E sc mX5_see 0 [.ref 0, .int (nI a), .int y] [] S Q
        refine e_iload_n (pc := 0) (i := 1) dX5_see_0 rfl rfl ?_
        refine e_iconst' (pc := 1) (nI 0) dX5_see_1 (by decide) ?_
        refine e_sipush' (pc := 2) (nI 200) dX5_see_2 (by decide) ?_
        refine e_callS3 (pc := 5) (M' := mX5_within) dX5_see_5 jX5_within lkX5_70 (by decide) (Nat.le_of_ble_eq_true rfl) (Nat.le_of_ble_eq_true rfl) ?_
        refine sp_winY (by omega) (by omega) (by omega) ?_
        refine e_if_eq (pc := 8) (tgt := 21) dX5_see_8 (by decide) (fun h8 => absurd h8 (by decide)) (fun h8 => ?_)
        refine e_iload_n (pc := 11) (i := 2) dX5_see_11 rfl rfl ?_
        refine e_iconst' (pc := 12) (nI 0) dX5_see_12 (by decide) ?_
        refine e_ldc' (pc := 13) (nI 248831) dX5_see_13 (kcX5_166 rfl) (by decide) ?_
        refine e_callS3 (pc := 15) (M' := mX5_within) dX5_see_15 jX5_within lkX5_70 (by decide) (Nat.le_of_ble_eq_true rfl) (Nat.le_of_ble_eq_true rfl) ?_
        refine sp_winX hn (by omega) (by omega) ?_
        refine e_if_ne (pc := 18) (tgt := 23) dX5_see_18 (by decide) (fun h18 => absurd (by decide) h18) (fun h18 => ?_)
        refine e_iconst' (pc := 21) (-1) dX5_see_21 (by decide) ?_
        refine e_iret (pc := 22) (st := []) (ty := .int) dX5_see_22 rfl rfl ?_
        exact k _ Same.rf
      · show E sc mX6_see 0 [.ref 54, .int (nI a), .int y] [] S1 Q
        have hp := h1.pg (by omega) hv hp
        have hr := h1.row (by omega) hr
        refine e_iload_n (pc := 0) (i := 1) dX6_see_0 rfl rfl ?_
        refine e_i2l (pc := 1) dX6_see_1 ?_
        refine e_lconst' (pc := 2) (lN 0) dX6_see_2 (by decide) ?_
        refine e_ldc2 (pc := 3) dX6_see_3 (klX6_185 rfl) ?_
        refine e_callS3 (pc := 6) (M' := mX6_in) dX6_see_6 jX6_in lkX6_46 (by decide) (Nat.le_of_ble_eq_true rfl) (Nat.le_of_ble_eq_true rfl) ?_
        refine sp_inY (lo := 0) (hi := 200) (by decide) (by decide) (by omega) (by omega) (by omega) ?_
        refine e_if_eq (pc := 9) (tgt := 19) dX6_see_9 (by decide) (fun h9 => absurd h9 (by decide)) (fun h9 => ?_)
        refine e_iload_n (pc := 12) (i := 2) dX6_see_12 rfl rfl ?_
        refine e_callS1 (pc := 13) (M' := mX6_isReading) dX6_see_13 jX6_isReading lkX6_179 (by decide) (Nat.le_of_ble_eq_true rfl) (Nat.le_of_ble_eq_true rfl) ?_
        refine sp_isReadingX hn ?_
        refine e_if_ne (pc := 16) (tgt := 21) dX6_see_16 (by decide) (fun h16 => absurd (by decide) h16) (fun h16 => ?_)
        refine e_iconst' (pc := 19) (-1) dX6_see_19 (by decide) ?_
        refine e_iret (pc := 20) (st := []) (ty := .int) dX6_see_20 rfl rfl ?_
        exact k _ Same.rf
  · refine ask_both (-1) hI (fun Q k => ?_) (fun S1 h1 Q k => ?_)
    · show E sc mX5_see 0 [.ref 0, .int x, .int y] [] S Q
      refine e_iload_n (pc := 0) (i := 1) dX5_see_0 rfl rfl ?_
      refine e_iconst' (pc := 1) (nI 0) dX5_see_1 (by decide) ?_
      refine e_sipush' (pc := 2) (nI 200) dX5_see_2 (by decide) ?_
      refine e_callS3 (pc := 5) (M' := mX5_within) dX5_see_5 jX5_within lkX5_70 (by decide) (Nat.le_of_ble_eq_true rfl) (Nat.le_of_ble_eq_true rfl) ?_
      refine sp_winX hn (by omega) (by omega) ?_
      refine e_if_eq (pc := 8) (tgt := 21) dX5_see_8 (by decide) (fun h8 => ?_) (fun h8 => absurd (by decide) h8)
      refine e_iconst' (pc := 21) (-1) dX5_see_21 (by decide) ?_
      refine e_iret (pc := 22) (st := []) (ty := .int) dX5_see_22 rfl rfl ?_
      exact k _ Same.rf
    · show E sc mX6_see 0 [.ref 54, .int x, .int y] [] S1 Q
      have hp := h1.pg (by omega) hv hp
      have hr := h1.row (by omega) hr
      refine e_iload_n (pc := 0) (i := 1) dX6_see_0 rfl rfl ?_
      refine e_i2l (pc := 1) dX6_see_1 ?_
      refine e_lconst' (pc := 2) (lN 0) dX6_see_2 (by decide) ?_
      refine e_ldc2 (pc := 3) dX6_see_3 (klX6_185 rfl) ?_
      refine e_callS3 (pc := 6) (M' := mX6_in) dX6_see_6 jX6_in lkX6_46 (by decide) (Nat.le_of_ble_eq_true rfl) (Nat.le_of_ble_eq_true rfl) ?_
      refine sp_inX (lo := 0) (hi := 200) (by decide) (by decide) hn ?_
      refine e_if_eq (pc := 9) (tgt := 19) dX6_see_9 (by decide) (fun h9 => ?_) (fun h9 => absurd (by decide) h9)
      refine e_iconst' (pc := 19) (-1) dX6_see_19 (by decide) ?_
      refine e_iret (pc := 20) (st := []) (ty := .int) dX6_see_20 rfl rfl ?_
      exact k _ Same.rf
theorem b_forget {sc : PSc} {S : PS} (hI : InvS S) (x : Int32) : Bth sc mX5_forget mX6_forget [.int x] S := by
  obtain ⟨R, hv, hc, hr, hp⟩ := hI.1
  obtain ⟨n, sp, sv, hn6, t26, t54, tss⟩ := hI.2.2.2.2.1
  have hv5 := hv.1
  rcases Classical.em (inr x 0 n) with ⟨b, rfl, -, hb⟩ | hn
  · show E sc mX5_forget 0 [.ref 0, .int (nI b), .null] [] S _
    refine e_iload_n (pc := 0) (i := 1) dX5_forget_0 rfl rfl ?_
    refine e_iconst' (pc := 1) (nI 0) dX5_forget_1 (by decide) ?_
    refine e_aload_n (pc := 2) (i := 0) dX5_forget_2 rfl rfl ?_
    refine e_getR (pc := 3) dX5_forget_3 (fX5_42 rfl) sh_0 rfl ?_
    refine e_getI (pc := 6) dX5_forget_6 (fX5_94 rfl) sh_26 rfl ?_
    refine E.it (nI n) t26 ?_
    refine e_callS3 (pc := 9) (M' := mX5_within) dX5_forget_9 jX5_within lkX5_70 (by decide) (Nat.le_of_ble_eq_true rfl) (Nat.le_of_ble_eq_true rfl) ?_
    refine sp_winY (by omega) (by omega) (by omega) ?_
    refine e_if_ne (pc := 12) (tgt := 17) dX5_forget_12 (by decide) (fun h12 => ?_) (fun h12 => absurd h12 (by decide))
    refine e_aload_n (pc := 17) (i := 0) dX5_forget_17 rfl rfl ?_
    refine e_getR (pc := 18) dX5_forget_18 (fX5_42 rfl) sh_0 rfl ?_
    refine e_getI (pc := 21) dX5_forget_21 (fX5_94 rfl) sh_26 rfl ?_
    refine E.it (nI n) t26 ?_
    refine e_istore_n (pc := 24) (i := 2) dX5_forget_24 rfl (by decide) rfl ?_
    refine e_aload_n (pc := 25) (i := 0) dX5_forget_25 rfl rfl ?_
    refine e_getR (pc := 26) dX5_forget_26 (fX5_42 rfl) sh_0 rfl ?_
    refine e_iload_n (pc := 29) (i := 1) dX5_forget_29 rfl rfl ?_
    refine e_putI (pc := 30) dX5_forget_30 (pX5_94 rfl) sh_26 rfl (fun h => by cases h) ?_
    refine e_iload_n (pc := 33) (i := 2) dX5_forget_33 rfl rfl ?_
    refine e_iret (pc := 34) (st := []) (ty := .int) dX5_forget_34 rfl rfl ?_
    refine ⟨_, rfl, ?_⟩
    show E sc mX6_forget 0 [.ref 54, .int (nI b), .null] [] _ _
    refine e_iload_n (pc := 0) (i := 1) dX6_forget_0 rfl rfl ?_
    refine e_i2l (pc := 1) dX6_forget_1 ?_
    refine e_lconst' (pc := 2) (lN 0) dX6_forget_2 (by decide) ?_
    refine e_aload_n (pc := 3) (i := 0) dX6_forget_3 rfl rfl ?_
    refine e_getI (pc := 4) dX6_forget_4 (fX6_114 rfl) sh_54 rfl ?_
    refine E.it (nI n) t54 ?_
    refine e_i2l (pc := 7) dX6_forget_7 ?_
    refine e_callS3 (pc := 8) (M' := mX6_in) dX6_forget_8 jX6_in lkX6_46 (by decide) (Nat.le_of_ble_eq_true rfl) (Nat.le_of_ble_eq_true rfl) ?_
    refine sp_inY (lo := 0) (hi := n) (by decide) (by rw [Int32.toInt_toInt64, nI_toInt (by omega)]) (by omega) (by omega) (by omega) ?_
    refine e_if_ne (pc := 11) (tgt := 16) dX6_forget_11 (by decide) (fun h11 => ?_) (fun h11 => absurd h11 (by decide))
    refine e_aload_n (pc := 16) (i := 0) dX6_forget_16 rfl rfl ?_
    refine e_getI (pc := 17) dX6_forget_17 (fX6_114 rfl) sh_54 rfl ?_
    refine E.it (nI n) t54 ?_
    refine e_istore_n (pc := 20) (i := 2) dX6_forget_20 rfl (by decide) rfl ?_
    refine e_aload_n (pc := 21) (i := 0) dX6_forget_21 rfl rfl ?_
    refine e_iload_n (pc := 22) (i := 1) dX6_forget_22 rfl rfl ?_
    refine e_putI (pc := 23) dX6_forget_23 (pX6_114 rfl) sh_54 rfl (fun h => by cases h) ?_
    refine e_iload_n (pc := 26) (i := 2) dX6_forget_26 rfl rfl ?_
    refine e_iret (pc := 27) (st := []) (ty := .int) dX6_forget_27 rfl rfl ?_
    refine ⟨rfl, Inv_seen (n := b) (sp := sp) (sv := sv) hI (fun j h1 h2 h3 h4 h5 => ?_) (fun k hk => ?_) ⟨by omega, rfl, rfl, fun k hk => tss k (by omega)⟩⟩
    · show up2 (up2 S.1 26 0 (nI b)) 54 18 (nI b) j = _; rw [up2_ne _ _ _ h5, up2_ne _ _ _ h1]
    · show up2 (up2 S.1 26 0 (nI b)) 54 18 (nI b) 54 k = _; rw [up2_at]; show (if k = 18 then _ else _) = _; rw [if_neg hk]; rfl
  · refine ask_both (-1) hI (fun Q k => ?_) (fun S1 h1 Q k => ?_)
    · show E sc mX5_forget 0 [.ref 0, .int x, .null] [] S Q
      refine e_iload_n (pc := 0) (i := 1) dX5_forget_0 rfl rfl ?_
      refine e_iconst' (pc := 1) (nI 0) dX5_forget_1 (by decide) ?_
      refine e_aload_n (pc := 2) (i := 0) dX5_forget_2 rfl rfl ?_
      refine e_getR (pc := 3) dX5_forget_3 (fX5_42 rfl) sh_0 rfl ?_
      refine e_getI (pc := 6) dX5_forget_6 (fX5_94 rfl) sh_26 rfl ?_
      refine E.it (nI n) t26 ?_
      refine e_callS3 (pc := 9) (M' := mX5_within) dX5_forget_9 jX5_within lkX5_70 (by decide) (Nat.le_of_ble_eq_true rfl) (Nat.le_of_ble_eq_true rfl) ?_
      refine sp_winX hn (by omega) (by omega) ?_
      refine e_if_ne (pc := 12) (tgt := 17) dX5_forget_12 (by decide) (fun h12 => absurd (by decide) h12) (fun h12 => ?_)
      refine e_iconst' (pc := 15) (-1) dX5_forget_15 (by decide) ?_
      refine e_iret (pc := 16) (st := []) (ty := .int) dX5_forget_16 rfl rfl ?_
      exact k _ Same.rf
    · show E sc mX6_forget 0 [.ref 54, .int x, .null] [] S1 Q
      have hp := h1.pg (by omega) hv hp
      have hr := h1.row (by omega) hr
      refine e_iload_n (pc := 0) (i := 1) dX6_forget_0 rfl rfl ?_
      refine e_i2l (pc := 1) dX6_forget_1 ?_
      refine e_lconst' (pc := 2) (lN 0) dX6_forget_2 (by decide) ?_
      refine e_aload_n (pc := 3) (i := 0) dX6_forget_3 rfl rfl ?_
      refine e_getI (pc := 4) dX6_forget_4 (fX6_114 rfl) sh_54 rfl ?_
      refine E.it (nI n) ((h1.2.1 18 (by omega)).trans t54) ?_
      refine e_i2l (pc := 7) dX6_forget_7 ?_
      refine e_callS3 (pc := 8) (M' := mX6_in) dX6_forget_8 jX6_in lkX6_46 (by decide) (Nat.le_of_ble_eq_true rfl) (Nat.le_of_ble_eq_true rfl) ?_
      refine sp_inX (lo := 0) (hi := n) (by decide) (by rw [Int32.toInt_toInt64, nI_toInt (by omega)]) hn ?_
      refine e_if_ne (pc := 11) (tgt := 16) dX6_forget_11 (by decide) (fun h11 => absurd (by decide) h11) (fun h11 => ?_)
      refine e_iconst' (pc := 14) (-1) dX6_forget_14 (by decide) ?_
      refine e_iret (pc := 15) (st := []) (ty := .int) dX6_forget_15 rfl rfl ?_
      exact k _ Same.rf
theorem b_keep {sc : PSc} {S : PS} (hI : InvS S) (x : Int32) : Bth sc mX5_keep mX6_keep [.int x] S := by
  obtain ⟨R, hv, hc, hr, hp⟩ := hI.1
  have hv5 := hv.1
  rcases Classical.em (inr x 0 1) with ⟨a, rfl, -, ha⟩ | hn
  · rcases (show a = 0 ∨ a = 1 by omega) with rfl | rfl
    · have hcl : (nI 0).toNatClampNeg = 0 := by decide
      have hk : (S.1 22 0 = nI 0 ∧ S.1 62 0 = nI 0) ∨ (S.1 22 0 = nI 1 ∧ S.1 62 0 = nI 1) := by
        rcases hI.2.1.1 with h | ⟨h1, h2, -⟩
        · exact Or.inl h
        · exact Or.inr ⟨h1, h2⟩
      rcases hk with ⟨hk1, hk2⟩ | ⟨hk1, hk2⟩
      · show E sc mX5_keep 0 [.ref 0, .int (nI 0), .null] [] S _
        refine e_iload_n (pc := 0) (i := 1) dX5_keep_0 rfl rfl ?_
        refine e_iconst' (pc := 1) (nI 0) dX5_keep_1 (by decide) ?_
        refine e_iconst' (pc := 2) (nI 1) dX5_keep_2 (by decide) ?_
        refine e_callS3 (pc := 3) (M' := mX5_within) dX5_keep_3 jX5_within lkX5_70 (by decide) (Nat.le_of_ble_eq_true rfl) (Nat.le_of_ble_eq_true rfl) ?_
        refine sp_winY (by omega) (by omega) (by omega) ?_
        refine e_if_ne (pc := 6) (tgt := 11) dX5_keep_6 (by decide) (fun h6 => ?_) (fun h6 => absurd h6 (by decide))
        refine e_aload_n (pc := 11) (i := 0) dX5_keep_11 rfl rfl ?_
        refine e_getR (pc := 12) dX5_keep_12 (fX5_23 rfl) sh_0 rfl ?_
        refine e_iload_n (pc := 15) (i := 1) dX5_keep_15 rfl rfl ?_
        refine e_zald (pc := 16) dX5_keep_16 sh_22 (vp_in_nI (by decide) (by decide)) ?_
        refine E.it (nI 0) (by rw [hcl]; exact hk1) ?_
        refine e_if_eq (pc := 17) (tgt := 24) dX5_keep_17 (by decide) (fun h17 => ?_) (fun h17 => absurd (by decide) h17)
        refine e_iconst' (pc := 24) (nI 0) dX5_keep_24 (by decide) ?_
        refine e_istore_n (pc := 25) (i := 2) dX5_keep_25 rfl (by decide) rfl ?_
        refine e_aload_n (pc := 26) (i := 0) dX5_keep_26 rfl rfl ?_
        refine e_getR (pc := 27) dX5_keep_27 (fX5_19 rfl) sh_0 rfl ?_
        refine e_iload_n (pc := 30) (i := 1) dX5_keep_30 rfl rfl ?_
        refine e_aald (pc := 31) (r := 11) dX5_keep_31 sh_21 (vp_in_nI (by decide) (by decide)) (by decide) ?_
        refine e_aload_n (pc := 32) (i := 0) dX5_keep_32 rfl rfl ?_
        refine e_getR (pc := 33) dX5_keep_33 (fX5_10 rfl) sh_0 rfl ?_
        refine e_callV1 (pc := 36) (M' := mX0_copyOf) dX5_keep_36 iX0_copyOf lkX5_90 (by decide) (rI_r r11) (Nat.le_of_ble_eq_true rfl) (Nat.le_of_ble_eq_true rfl) ?_
        refine sp_copyOf r11 r1 (by omega) hv hr (fun S1 q _ c => ?_)
        refine e_aload_n (pc := 39) (i := 0) dX5_keep_39 rfl rfl ?_
        refine e_getR (pc := 40) dX5_keep_40 (fX5_23 rfl) sh_0 rfl ?_
        refine e_iload_n (pc := 43) (i := 1) dX5_keep_43 rfl rfl ?_
        refine e_iconst' (pc := 44) (nI 1) dX5_keep_44 (by decide) ?_
        refine e_zast (pc := 45) dX5_keep_45 sh_22 (vp_in_nI (by decide) (by decide)) ?_
        rw [hcl]
        refine e_iload_n (pc := 46) (i := 2) dX5_keep_46 rfl rfl ?_
        refine e_iret (pc := 47) (st := []) (ty := .int) dX5_keep_47 rfl rfl ?_
        have hp2 : PgAt (up2 S1.1 22 0 (vp_nar .boolean (nI 1)), S1.2) 0 R := hp.of (fun k _ _ => by show up2 S1.1 22 0 (vp_nar .boolean (nI 1)) 55 k = _; rw [up2_ne _ _ _ (by decide), c.2 55 (by omega)]) hv5
        refine ⟨_, rfl, ?_⟩
        show E sc mX6_keep 0 [.ref 54, .int (nI 0), .null] [] _ _
        refine e_iload_n (pc := 0) (i := 1) dX6_keep_0 rfl rfl ?_
        refine e_i2l (pc := 1) dX6_keep_1 ?_
        refine e_lconst' (pc := 2) (lN 0) dX6_keep_2 (by decide) ?_
        refine e_lconst' (pc := 3) (lN 1) dX6_keep_3 (by decide) ?_
        refine e_callS3 (pc := 4) (M' := mX6_in) dX6_keep_4 jX6_in lkX6_46 (by decide) (Nat.le_of_ble_eq_true rfl) (Nat.le_of_ble_eq_true rfl) ?_
        refine sp_inY (lo := 0) (hi := 1) (by decide) (by decide) (by omega) (by omega) (by omega) ?_
        refine e_if_ne (pc := 7) (tgt := 12) dX6_keep_7 (by decide) (fun h7 => ?_) (fun h7 => absurd h7 (by decide))
        refine e_aload_n (pc := 12) (i := 0) dX6_keep_12 rfl rfl ?_
        refine e_iconst' (pc := 13) (nI 0) dX6_keep_13 (by decide) ?_
        refine e_bipush' (pc := 14) (nI 22) dX6_keep_14 (by decide) ?_
        refine e_iload_n (pc := 16) (i := 1) dX6_keep_16 rfl rfl ?_
        refine e_iconst' (pc := 17) (nI 1) dX6_keep_17 (by decide) ?_
        refine e_iadd (pc := 18) dX6_keep_18 ?_
        refine E.it (nI (0 + 1)) (nI_add _ _) ?_
        refine e_imul (pc := 19) dX6_keep_19 ?_
        refine E.it (nI 22) (pk_mul _ _) ?_
        refine e_callV2 (pc := 20) (M' := mX6_copies) dX6_keep_20 iX6_copies lkX6_167 (by decide) (rO_obj sh_54 rfl) (Nat.le_of_ble_eq_true rfl) (Nat.le_of_ble_eq_true rfl) ?_
        refine sp_copyPg (a := 0) (b := 22) (by omega) (by omega) (by omega) hv hp2 (fun S2 d f => ?_)
        refine e_aload_n (pc := 23) (i := 0) dX6_keep_23 rfl rfl ?_
        refine e_getR (pc := 24) dX6_keep_24 (fX6_31 rfl) sh_54 rfl ?_
        refine e_iload_n (pc := 27) (i := 1) dX6_keep_27 rfl rfl ?_
        refine e_zald (pc := 28) dX6_keep_28 sh_62 (vp_in_nI (by decide) (by decide)) ?_
        refine E.it (nI 0) (by rw [hcl, f.2.1 62 (by omega)]; show S1.1 62 0 = _; rw [c.2 62 (by omega)]; exact hk2) ?_
        refine e_if_eq (pc := 29) (tgt := 36) dX6_keep_29 (by decide) (fun h29 => ?_) (fun h29 => absurd (by decide) h29)
        refine e_iconst' (pc := 36) (nI 0) dX6_keep_36 (by decide) ?_
        refine e_istore_n (pc := 37) (i := 2) dX6_keep_37 rfl (by decide) rfl ?_
        refine e_aload_n (pc := 38) (i := 0) dX6_keep_38 rfl rfl ?_
        refine e_getR (pc := 39) dX6_keep_39 (fX6_31 rfl) sh_54 rfl ?_
        refine e_iload_n (pc := 42) (i := 1) dX6_keep_42 rfl rfl ?_
        refine e_iconst' (pc := 43) (nI 1) dX6_keep_43 (by decide) ?_
        refine e_zast (pc := 44) dX6_keep_44 sh_62 (vp_in_nI (by decide) (by decide)) ?_
        refine e_iload_n (pc := 45) (i := 2) dX6_keep_45 rfl rfl ?_
        refine e_iret (pc := 46) (st := []) (ty := .int) dX6_keep_46 rfl rfl ?_
        rw [hcl]
        have hS2 : ∀ j, j ≠ 62 → up2 S2.1 62 0 (vp_nar .boolean (nI 1)) j = S2.1 j := fun j hj => up2_ne _ _ _ hj
        have hS2b : up2 S2.1 62 0 (vp_nar .boolean (nI 1)) 62 1 = S2.1 62 1 := rfl
        have hq : ∀ j, (j < 11 ∨ 16 ≤ j) → j ≠ 22 → j ≠ 55 → j ≠ 62 → up2 S2.1 62 0 (vp_nar .boolean (nI 1)) j = S.1 j := fun j h1 h2 h3 h4 => by rw [hS2 j h4, f.2.1 j h3]; show up2 S1.1 22 0 (vp_nar .boolean (nI 1)) j = _; rw [up2_ne _ _ _ h2]; exact c.2 j (by omega)
        have hq55 : ∀ k, (k < 22 ∨ 44 ≤ k) → up2 S2.1 62 0 (vp_nar .boolean (nI 1)) 55 k = S.1 55 k := fun k h1 => by rw [hS2 55 (by omega), f.2.2 k h1]; show S1.1 55 k = _; rw [c.2 55 (by omega)]
        have hrow : RowAt (up2 S2.1 62 0 (vp_nar .boolean (nI 1)), S2.2) 11 R := row_k (fun q h1 h2 => (hS2 q (by omega)).trans ((f.2.1 q (by omega)).trans (up2_ne _ _ _ (by omega)))) q
        have hpg : PgAt (up2 S2.1 62 0 (vp_nar .boolean (nI 1)), S2.2) 22 R := d.of (fun k _ _ => congrFun (hS2 55 (by omega)) k) hv5
        have h22 : up2 S2.1 62 0 (vp_nar .boolean (nI 1)) 22 0 = nI 1 := by rw [hS2 22 (by omega), f.2.1 22 (by omega)]; rfl
        have ho22 : up2 S2.1 62 0 (vp_nar .boolean (nI 1)) 22 1 = S.1 22 1 := by rw [hS2 22 (by omega), f.2.1 22 (by omega)]; show S1.1 22 1 = _; rw [c.2 22 (by omega)]
        have ho62 : up2 S2.1 62 0 (vp_nar .boolean (nI 1)) 62 1 = S.1 62 1 := by rw [hS2b, f.2.1 62 (by omega)]; show S1.1 62 1 = _; rw [c.2 62 (by omega)]
        have hnew : I2 (up2 S2.1 62 0 (vp_nar .boolean (nI 1)), S2.2) 0 := Or.inr ⟨h22, rfl, R, hv, hc, hrow, hpg⟩
        have hold : I2 (up2 S2.1 62 0 (vp_nar .boolean (nI 1)), S2.2) 1 := I2.k (by omega) (fun j hj => hq j (by omega) (by omega) (by omega) (by omega)) ho22 ho62 (fun k h1 h2 => hq55 k (by omega)) hI.2.1.2
        exact ⟨rfl, Inv_img hI (fun j h1 h2 h3 => hq j (by omega) (by omega) h2 h3) (fun k h1 => hq55 k (by omega)) ⟨hnew, hold⟩⟩
      · show E sc mX5_keep 0 [.ref 0, .int (nI 0), .null] [] S _
        refine e_iload_n (pc := 0) (i := 1) dX5_keep_0 rfl rfl ?_
        refine e_iconst' (pc := 1) (nI 0) dX5_keep_1 (by decide) ?_
        refine e_iconst' (pc := 2) (nI 1) dX5_keep_2 (by decide) ?_
        refine e_callS3 (pc := 3) (M' := mX5_within) dX5_keep_3 jX5_within lkX5_70 (by decide) (Nat.le_of_ble_eq_true rfl) (Nat.le_of_ble_eq_true rfl) ?_
        refine sp_winY (by omega) (by omega) (by omega) ?_
        refine e_if_ne (pc := 6) (tgt := 11) dX5_keep_6 (by decide) (fun h6 => ?_) (fun h6 => absurd h6 (by decide))
        refine e_aload_n (pc := 11) (i := 0) dX5_keep_11 rfl rfl ?_
        refine e_getR (pc := 12) dX5_keep_12 (fX5_23 rfl) sh_0 rfl ?_
        refine e_iload_n (pc := 15) (i := 1) dX5_keep_15 rfl rfl ?_
        refine e_zald (pc := 16) dX5_keep_16 sh_22 (vp_in_nI (by decide) (by decide)) ?_
        refine E.it (nI 1) (by rw [hcl]; exact hk1) ?_
        refine e_if_eq (pc := 17) (tgt := 24) dX5_keep_17 (by decide) (fun h17 => absurd h17 (by decide)) (fun h17 => ?_)
        refine e_iconst' (pc := 20) (nI 1) dX5_keep_20 (by decide) ?_
        refine e_goto (pc := 21) (tgt := 25) dX5_keep_21 (by decide) ?_
        refine e_istore_n (pc := 25) (i := 2) dX5_keep_25 rfl (by decide) rfl ?_
        refine e_aload_n (pc := 26) (i := 0) dX5_keep_26 rfl rfl ?_
        refine e_getR (pc := 27) dX5_keep_27 (fX5_19 rfl) sh_0 rfl ?_
        refine e_iload_n (pc := 30) (i := 1) dX5_keep_30 rfl rfl ?_
        refine e_aald (pc := 31) (r := 11) dX5_keep_31 sh_21 (vp_in_nI (by decide) (by decide)) (by decide) ?_
        refine e_aload_n (pc := 32) (i := 0) dX5_keep_32 rfl rfl ?_
        refine e_getR (pc := 33) dX5_keep_33 (fX5_10 rfl) sh_0 rfl ?_
        refine e_callV1 (pc := 36) (M' := mX0_copyOf) dX5_keep_36 iX0_copyOf lkX5_90 (by decide) (rI_r r11) (Nat.le_of_ble_eq_true rfl) (Nat.le_of_ble_eq_true rfl) ?_
        refine sp_copyOf r11 r1 (by omega) hv hr (fun S1 q _ c => ?_)
        refine e_aload_n (pc := 39) (i := 0) dX5_keep_39 rfl rfl ?_
        refine e_getR (pc := 40) dX5_keep_40 (fX5_23 rfl) sh_0 rfl ?_
        refine e_iload_n (pc := 43) (i := 1) dX5_keep_43 rfl rfl ?_
        refine e_iconst' (pc := 44) (nI 1) dX5_keep_44 (by decide) ?_
        refine e_zast (pc := 45) dX5_keep_45 sh_22 (vp_in_nI (by decide) (by decide)) ?_
        rw [hcl]
        refine e_iload_n (pc := 46) (i := 2) dX5_keep_46 rfl rfl ?_
        refine e_iret (pc := 47) (st := []) (ty := .int) dX5_keep_47 rfl rfl ?_
        have hp2 : PgAt (up2 S1.1 22 0 (vp_nar .boolean (nI 1)), S1.2) 0 R := hp.of (fun k _ _ => by show up2 S1.1 22 0 (vp_nar .boolean (nI 1)) 55 k = _; rw [up2_ne _ _ _ (by decide), c.2 55 (by omega)]) hv5
        refine ⟨_, rfl, ?_⟩
        show E sc mX6_keep 0 [.ref 54, .int (nI 0), .null] [] _ _
        refine e_iload_n (pc := 0) (i := 1) dX6_keep_0 rfl rfl ?_
        refine e_i2l (pc := 1) dX6_keep_1 ?_
        refine e_lconst' (pc := 2) (lN 0) dX6_keep_2 (by decide) ?_
        refine e_lconst' (pc := 3) (lN 1) dX6_keep_3 (by decide) ?_
        refine e_callS3 (pc := 4) (M' := mX6_in) dX6_keep_4 jX6_in lkX6_46 (by decide) (Nat.le_of_ble_eq_true rfl) (Nat.le_of_ble_eq_true rfl) ?_
        refine sp_inY (lo := 0) (hi := 1) (by decide) (by decide) (by omega) (by omega) (by omega) ?_
        refine e_if_ne (pc := 7) (tgt := 12) dX6_keep_7 (by decide) (fun h7 => ?_) (fun h7 => absurd h7 (by decide))
        refine e_aload_n (pc := 12) (i := 0) dX6_keep_12 rfl rfl ?_
        refine e_iconst' (pc := 13) (nI 0) dX6_keep_13 (by decide) ?_
        refine e_bipush' (pc := 14) (nI 22) dX6_keep_14 (by decide) ?_
        refine e_iload_n (pc := 16) (i := 1) dX6_keep_16 rfl rfl ?_
        refine e_iconst' (pc := 17) (nI 1) dX6_keep_17 (by decide) ?_
        refine e_iadd (pc := 18) dX6_keep_18 ?_
        refine E.it (nI (0 + 1)) (nI_add _ _) ?_
        refine e_imul (pc := 19) dX6_keep_19 ?_
        refine E.it (nI 22) (pk_mul _ _) ?_
        refine e_callV2 (pc := 20) (M' := mX6_copies) dX6_keep_20 iX6_copies lkX6_167 (by decide) (rO_obj sh_54 rfl) (Nat.le_of_ble_eq_true rfl) (Nat.le_of_ble_eq_true rfl) ?_
        refine sp_copyPg (a := 0) (b := 22) (by omega) (by omega) (by omega) hv hp2 (fun S2 d f => ?_)
        refine e_aload_n (pc := 23) (i := 0) dX6_keep_23 rfl rfl ?_
        refine e_getR (pc := 24) dX6_keep_24 (fX6_31 rfl) sh_54 rfl ?_
        refine e_iload_n (pc := 27) (i := 1) dX6_keep_27 rfl rfl ?_
        refine e_zald (pc := 28) dX6_keep_28 sh_62 (vp_in_nI (by decide) (by decide)) ?_
        refine E.it (nI 1) (by rw [hcl, f.2.1 62 (by omega)]; show S1.1 62 0 = _; rw [c.2 62 (by omega)]; exact hk2) ?_
        refine e_if_eq (pc := 29) (tgt := 36) dX6_keep_29 (by decide) (fun h29 => absurd h29 (by decide)) (fun h29 => ?_)
        refine e_iconst' (pc := 32) (nI 1) dX6_keep_32 (by decide) ?_
        refine e_goto (pc := 33) (tgt := 37) dX6_keep_33 (by decide) ?_
        refine e_istore_n (pc := 37) (i := 2) dX6_keep_37 rfl (by decide) rfl ?_
        refine e_aload_n (pc := 38) (i := 0) dX6_keep_38 rfl rfl ?_
        refine e_getR (pc := 39) dX6_keep_39 (fX6_31 rfl) sh_54 rfl ?_
        refine e_iload_n (pc := 42) (i := 1) dX6_keep_42 rfl rfl ?_
        refine e_iconst' (pc := 43) (nI 1) dX6_keep_43 (by decide) ?_
        refine e_zast (pc := 44) dX6_keep_44 sh_62 (vp_in_nI (by decide) (by decide)) ?_
        refine e_iload_n (pc := 45) (i := 2) dX6_keep_45 rfl rfl ?_
        refine e_iret (pc := 46) (st := []) (ty := .int) dX6_keep_46 rfl rfl ?_
        rw [hcl]
        have hS2 : ∀ j, j ≠ 62 → up2 S2.1 62 0 (vp_nar .boolean (nI 1)) j = S2.1 j := fun j hj => up2_ne _ _ _ hj
        have hS2b : up2 S2.1 62 0 (vp_nar .boolean (nI 1)) 62 1 = S2.1 62 1 := rfl
        have hq : ∀ j, (j < 11 ∨ 16 ≤ j) → j ≠ 22 → j ≠ 55 → j ≠ 62 → up2 S2.1 62 0 (vp_nar .boolean (nI 1)) j = S.1 j := fun j h1 h2 h3 h4 => by rw [hS2 j h4, f.2.1 j h3]; show up2 S1.1 22 0 (vp_nar .boolean (nI 1)) j = _; rw [up2_ne _ _ _ h2]; exact c.2 j (by omega)
        have hq55 : ∀ k, (k < 22 ∨ 44 ≤ k) → up2 S2.1 62 0 (vp_nar .boolean (nI 1)) 55 k = S.1 55 k := fun k h1 => by rw [hS2 55 (by omega), f.2.2 k h1]; show S1.1 55 k = _; rw [c.2 55 (by omega)]
        have hrow : RowAt (up2 S2.1 62 0 (vp_nar .boolean (nI 1)), S2.2) 11 R := row_k (fun q h1 h2 => (hS2 q (by omega)).trans ((f.2.1 q (by omega)).trans (up2_ne _ _ _ (by omega)))) q
        have hpg : PgAt (up2 S2.1 62 0 (vp_nar .boolean (nI 1)), S2.2) 22 R := d.of (fun k _ _ => congrFun (hS2 55 (by omega)) k) hv5
        have h22 : up2 S2.1 62 0 (vp_nar .boolean (nI 1)) 22 0 = nI 1 := by rw [hS2 22 (by omega), f.2.1 22 (by omega)]; rfl
        have ho22 : up2 S2.1 62 0 (vp_nar .boolean (nI 1)) 22 1 = S.1 22 1 := by rw [hS2 22 (by omega), f.2.1 22 (by omega)]; show S1.1 22 1 = _; rw [c.2 22 (by omega)]
        have ho62 : up2 S2.1 62 0 (vp_nar .boolean (nI 1)) 62 1 = S.1 62 1 := by rw [hS2b, f.2.1 62 (by omega)]; show S1.1 62 1 = _; rw [c.2 62 (by omega)]
        have hnew : I2 (up2 S2.1 62 0 (vp_nar .boolean (nI 1)), S2.2) 0 := Or.inr ⟨h22, rfl, R, hv, hc, hrow, hpg⟩
        have hold : I2 (up2 S2.1 62 0 (vp_nar .boolean (nI 1)), S2.2) 1 := I2.k (by omega) (fun j hj => hq j (by omega) (by omega) (by omega) (by omega)) ho22 ho62 (fun k h1 h2 => hq55 k (by omega)) hI.2.1.2
        exact ⟨rfl, Inv_img hI (fun j h1 h2 h3 => hq j (by omega) (by omega) h2 h3) (fun k h1 => hq55 k (by omega)) ⟨hnew, hold⟩⟩
    · have hcl : (nI 1).toNatClampNeg = 1 := by decide
      have hk : (S.1 22 1 = nI 0 ∧ S.1 62 1 = nI 0) ∨ (S.1 22 1 = nI 1 ∧ S.1 62 1 = nI 1) := by
        rcases hI.2.1.2 with h | ⟨h1, h2, -⟩
        · exact Or.inl h
        · exact Or.inr ⟨h1, h2⟩
      rcases hk with ⟨hk1, hk2⟩ | ⟨hk1, hk2⟩
      · show E sc mX5_keep 0 [.ref 0, .int (nI 1), .null] [] S _
        refine e_iload_n (pc := 0) (i := 1) dX5_keep_0 rfl rfl ?_
        refine e_iconst' (pc := 1) (nI 0) dX5_keep_1 (by decide) ?_
        refine e_iconst' (pc := 2) (nI 1) dX5_keep_2 (by decide) ?_
        refine e_callS3 (pc := 3) (M' := mX5_within) dX5_keep_3 jX5_within lkX5_70 (by decide) (Nat.le_of_ble_eq_true rfl) (Nat.le_of_ble_eq_true rfl) ?_
        refine sp_winY (by omega) (by omega) (by omega) ?_
        refine e_if_ne (pc := 6) (tgt := 11) dX5_keep_6 (by decide) (fun h6 => ?_) (fun h6 => absurd h6 (by decide))
        refine e_aload_n (pc := 11) (i := 0) dX5_keep_11 rfl rfl ?_
        refine e_getR (pc := 12) dX5_keep_12 (fX5_23 rfl) sh_0 rfl ?_
        refine e_iload_n (pc := 15) (i := 1) dX5_keep_15 rfl rfl ?_
        refine e_zald (pc := 16) dX5_keep_16 sh_22 (vp_in_nI (by decide) (by decide)) ?_
        refine E.it (nI 0) (by rw [hcl]; exact hk1) ?_
        refine e_if_eq (pc := 17) (tgt := 24) dX5_keep_17 (by decide) (fun h17 => ?_) (fun h17 => absurd (by decide) h17)
        refine e_iconst' (pc := 24) (nI 0) dX5_keep_24 (by decide) ?_
        refine e_istore_n (pc := 25) (i := 2) dX5_keep_25 rfl (by decide) rfl ?_
        refine e_aload_n (pc := 26) (i := 0) dX5_keep_26 rfl rfl ?_
        refine e_getR (pc := 27) dX5_keep_27 (fX5_19 rfl) sh_0 rfl ?_
        refine e_iload_n (pc := 30) (i := 1) dX5_keep_30 rfl rfl ?_
        refine e_aald (pc := 31) (r := 16) dX5_keep_31 sh_21 (vp_in_nI (by decide) (by decide)) (by decide) ?_
        refine e_aload_n (pc := 32) (i := 0) dX5_keep_32 rfl rfl ?_
        refine e_getR (pc := 33) dX5_keep_33 (fX5_10 rfl) sh_0 rfl ?_
        refine e_callV1 (pc := 36) (M' := mX0_copyOf) dX5_keep_36 iX0_copyOf lkX5_90 (by decide) (rI_r r16) (Nat.le_of_ble_eq_true rfl) (Nat.le_of_ble_eq_true rfl) ?_
        refine sp_copyOf r16 r1 (by omega) hv hr (fun S1 q _ c => ?_)
        refine e_aload_n (pc := 39) (i := 0) dX5_keep_39 rfl rfl ?_
        refine e_getR (pc := 40) dX5_keep_40 (fX5_23 rfl) sh_0 rfl ?_
        refine e_iload_n (pc := 43) (i := 1) dX5_keep_43 rfl rfl ?_
        refine e_iconst' (pc := 44) (nI 1) dX5_keep_44 (by decide) ?_
        refine e_zast (pc := 45) dX5_keep_45 sh_22 (vp_in_nI (by decide) (by decide)) ?_
        rw [hcl]
        refine e_iload_n (pc := 46) (i := 2) dX5_keep_46 rfl rfl ?_
        refine e_iret (pc := 47) (st := []) (ty := .int) dX5_keep_47 rfl rfl ?_
        have hp2 : PgAt (up2 S1.1 22 1 (vp_nar .boolean (nI 1)), S1.2) 0 R := hp.of (fun k _ _ => by show up2 S1.1 22 1 (vp_nar .boolean (nI 1)) 55 k = _; rw [up2_ne _ _ _ (by decide), c.2 55 (by omega)]) hv5
        refine ⟨_, rfl, ?_⟩
        show E sc mX6_keep 0 [.ref 54, .int (nI 1), .null] [] _ _
        refine e_iload_n (pc := 0) (i := 1) dX6_keep_0 rfl rfl ?_
        refine e_i2l (pc := 1) dX6_keep_1 ?_
        refine e_lconst' (pc := 2) (lN 0) dX6_keep_2 (by decide) ?_
        refine e_lconst' (pc := 3) (lN 1) dX6_keep_3 (by decide) ?_
        refine e_callS3 (pc := 4) (M' := mX6_in) dX6_keep_4 jX6_in lkX6_46 (by decide) (Nat.le_of_ble_eq_true rfl) (Nat.le_of_ble_eq_true rfl) ?_
        refine sp_inY (lo := 0) (hi := 1) (by decide) (by decide) (by omega) (by omega) (by omega) ?_
        refine e_if_ne (pc := 7) (tgt := 12) dX6_keep_7 (by decide) (fun h7 => ?_) (fun h7 => absurd h7 (by decide))
        refine e_aload_n (pc := 12) (i := 0) dX6_keep_12 rfl rfl ?_
        refine e_iconst' (pc := 13) (nI 0) dX6_keep_13 (by decide) ?_
        refine e_bipush' (pc := 14) (nI 22) dX6_keep_14 (by decide) ?_
        refine e_iload_n (pc := 16) (i := 1) dX6_keep_16 rfl rfl ?_
        refine e_iconst' (pc := 17) (nI 1) dX6_keep_17 (by decide) ?_
        refine e_iadd (pc := 18) dX6_keep_18 ?_
        refine E.it (nI (1 + 1)) (nI_add _ _) ?_
        refine e_imul (pc := 19) dX6_keep_19 ?_
        refine E.it (nI 44) (pk_mul _ _) ?_
        refine e_callV2 (pc := 20) (M' := mX6_copies) dX6_keep_20 iX6_copies lkX6_167 (by decide) (rO_obj sh_54 rfl) (Nat.le_of_ble_eq_true rfl) (Nat.le_of_ble_eq_true rfl) ?_
        refine sp_copyPg (a := 0) (b := 44) (by omega) (by omega) (by omega) hv hp2 (fun S2 d f => ?_)
        refine e_aload_n (pc := 23) (i := 0) dX6_keep_23 rfl rfl ?_
        refine e_getR (pc := 24) dX6_keep_24 (fX6_31 rfl) sh_54 rfl ?_
        refine e_iload_n (pc := 27) (i := 1) dX6_keep_27 rfl rfl ?_
        refine e_zald (pc := 28) dX6_keep_28 sh_62 (vp_in_nI (by decide) (by decide)) ?_
        refine E.it (nI 0) (by rw [hcl, f.2.1 62 (by omega)]; show S1.1 62 1 = _; rw [c.2 62 (by omega)]; exact hk2) ?_
        refine e_if_eq (pc := 29) (tgt := 36) dX6_keep_29 (by decide) (fun h29 => ?_) (fun h29 => absurd (by decide) h29)
        refine e_iconst' (pc := 36) (nI 0) dX6_keep_36 (by decide) ?_
        refine e_istore_n (pc := 37) (i := 2) dX6_keep_37 rfl (by decide) rfl ?_
        refine e_aload_n (pc := 38) (i := 0) dX6_keep_38 rfl rfl ?_
        refine e_getR (pc := 39) dX6_keep_39 (fX6_31 rfl) sh_54 rfl ?_
        refine e_iload_n (pc := 42) (i := 1) dX6_keep_42 rfl rfl ?_
        refine e_iconst' (pc := 43) (nI 1) dX6_keep_43 (by decide) ?_
        refine e_zast (pc := 44) dX6_keep_44 sh_62 (vp_in_nI (by decide) (by decide)) ?_
        refine e_iload_n (pc := 45) (i := 2) dX6_keep_45 rfl rfl ?_
        refine e_iret (pc := 46) (st := []) (ty := .int) dX6_keep_46 rfl rfl ?_
        rw [hcl]
        have hS2 : ∀ j, j ≠ 62 → up2 S2.1 62 1 (vp_nar .boolean (nI 1)) j = S2.1 j := fun j hj => up2_ne _ _ _ hj
        have hS2b : up2 S2.1 62 1 (vp_nar .boolean (nI 1)) 62 0 = S2.1 62 0 := rfl
        have hq : ∀ j, (j < 16 ∨ 21 ≤ j) → j ≠ 22 → j ≠ 55 → j ≠ 62 → up2 S2.1 62 1 (vp_nar .boolean (nI 1)) j = S.1 j := fun j h1 h2 h3 h4 => by rw [hS2 j h4, f.2.1 j h3]; show up2 S1.1 22 1 (vp_nar .boolean (nI 1)) j = _; rw [up2_ne _ _ _ h2]; exact c.2 j (by omega)
        have hq55 : ∀ k, (k < 44 ∨ 66 ≤ k) → up2 S2.1 62 1 (vp_nar .boolean (nI 1)) 55 k = S.1 55 k := fun k h1 => by rw [hS2 55 (by omega), f.2.2 k h1]; show S1.1 55 k = _; rw [c.2 55 (by omega)]
        have hrow : RowAt (up2 S2.1 62 1 (vp_nar .boolean (nI 1)), S2.2) 16 R := row_k (fun q h1 h2 => (hS2 q (by omega)).trans ((f.2.1 q (by omega)).trans (up2_ne _ _ _ (by omega)))) q
        have hpg : PgAt (up2 S2.1 62 1 (vp_nar .boolean (nI 1)), S2.2) 44 R := d.of (fun k _ _ => congrFun (hS2 55 (by omega)) k) hv5
        have h22 : up2 S2.1 62 1 (vp_nar .boolean (nI 1)) 22 1 = nI 1 := by rw [hS2 22 (by omega), f.2.1 22 (by omega)]; rfl
        have ho22 : up2 S2.1 62 1 (vp_nar .boolean (nI 1)) 22 0 = S.1 22 0 := by rw [hS2 22 (by omega), f.2.1 22 (by omega)]; show S1.1 22 0 = _; rw [c.2 22 (by omega)]
        have ho62 : up2 S2.1 62 1 (vp_nar .boolean (nI 1)) 62 0 = S.1 62 0 := by rw [hS2b, f.2.1 62 (by omega)]; show S1.1 62 0 = _; rw [c.2 62 (by omega)]
        have hnew : I2 (up2 S2.1 62 1 (vp_nar .boolean (nI 1)), S2.2) 1 := Or.inr ⟨h22, rfl, R, hv, hc, hrow, hpg⟩
        have hold : I2 (up2 S2.1 62 1 (vp_nar .boolean (nI 1)), S2.2) 0 := I2.k (by omega) (fun j hj => hq j (by omega) (by omega) (by omega) (by omega)) ho22 ho62 (fun k h1 h2 => hq55 k (by omega)) hI.2.1.1
        exact ⟨rfl, Inv_img hI (fun j h1 h2 h3 => hq j (by omega) (by omega) h2 h3) (fun k h1 => hq55 k (by omega)) ⟨hold, hnew⟩⟩
      · show E sc mX5_keep 0 [.ref 0, .int (nI 1), .null] [] S _
        refine e_iload_n (pc := 0) (i := 1) dX5_keep_0 rfl rfl ?_
        refine e_iconst' (pc := 1) (nI 0) dX5_keep_1 (by decide) ?_
        refine e_iconst' (pc := 2) (nI 1) dX5_keep_2 (by decide) ?_
        refine e_callS3 (pc := 3) (M' := mX5_within) dX5_keep_3 jX5_within lkX5_70 (by decide) (Nat.le_of_ble_eq_true rfl) (Nat.le_of_ble_eq_true rfl) ?_
        refine sp_winY (by omega) (by omega) (by omega) ?_
        refine e_if_ne (pc := 6) (tgt := 11) dX5_keep_6 (by decide) (fun h6 => ?_) (fun h6 => absurd h6 (by decide))
        refine e_aload_n (pc := 11) (i := 0) dX5_keep_11 rfl rfl ?_
        refine e_getR (pc := 12) dX5_keep_12 (fX5_23 rfl) sh_0 rfl ?_
        refine e_iload_n (pc := 15) (i := 1) dX5_keep_15 rfl rfl ?_
        refine e_zald (pc := 16) dX5_keep_16 sh_22 (vp_in_nI (by decide) (by decide)) ?_
        refine E.it (nI 1) (by rw [hcl]; exact hk1) ?_
        refine e_if_eq (pc := 17) (tgt := 24) dX5_keep_17 (by decide) (fun h17 => absurd h17 (by decide)) (fun h17 => ?_)
        refine e_iconst' (pc := 20) (nI 1) dX5_keep_20 (by decide) ?_
        refine e_goto (pc := 21) (tgt := 25) dX5_keep_21 (by decide) ?_
        refine e_istore_n (pc := 25) (i := 2) dX5_keep_25 rfl (by decide) rfl ?_
        refine e_aload_n (pc := 26) (i := 0) dX5_keep_26 rfl rfl ?_
        refine e_getR (pc := 27) dX5_keep_27 (fX5_19 rfl) sh_0 rfl ?_
        refine e_iload_n (pc := 30) (i := 1) dX5_keep_30 rfl rfl ?_
        refine e_aald (pc := 31) (r := 16) dX5_keep_31 sh_21 (vp_in_nI (by decide) (by decide)) (by decide) ?_
        refine e_aload_n (pc := 32) (i := 0) dX5_keep_32 rfl rfl ?_
        refine e_getR (pc := 33) dX5_keep_33 (fX5_10 rfl) sh_0 rfl ?_
        refine e_callV1 (pc := 36) (M' := mX0_copyOf) dX5_keep_36 iX0_copyOf lkX5_90 (by decide) (rI_r r16) (Nat.le_of_ble_eq_true rfl) (Nat.le_of_ble_eq_true rfl) ?_
        refine sp_copyOf r16 r1 (by omega) hv hr (fun S1 q _ c => ?_)
        refine e_aload_n (pc := 39) (i := 0) dX5_keep_39 rfl rfl ?_
        refine e_getR (pc := 40) dX5_keep_40 (fX5_23 rfl) sh_0 rfl ?_
        refine e_iload_n (pc := 43) (i := 1) dX5_keep_43 rfl rfl ?_
        refine e_iconst' (pc := 44) (nI 1) dX5_keep_44 (by decide) ?_
        refine e_zast (pc := 45) dX5_keep_45 sh_22 (vp_in_nI (by decide) (by decide)) ?_
        rw [hcl]
        refine e_iload_n (pc := 46) (i := 2) dX5_keep_46 rfl rfl ?_
        refine e_iret (pc := 47) (st := []) (ty := .int) dX5_keep_47 rfl rfl ?_
        have hp2 : PgAt (up2 S1.1 22 1 (vp_nar .boolean (nI 1)), S1.2) 0 R := hp.of (fun k _ _ => by show up2 S1.1 22 1 (vp_nar .boolean (nI 1)) 55 k = _; rw [up2_ne _ _ _ (by decide), c.2 55 (by omega)]) hv5
        refine ⟨_, rfl, ?_⟩
        show E sc mX6_keep 0 [.ref 54, .int (nI 1), .null] [] _ _
        refine e_iload_n (pc := 0) (i := 1) dX6_keep_0 rfl rfl ?_
        refine e_i2l (pc := 1) dX6_keep_1 ?_
        refine e_lconst' (pc := 2) (lN 0) dX6_keep_2 (by decide) ?_
        refine e_lconst' (pc := 3) (lN 1) dX6_keep_3 (by decide) ?_
        refine e_callS3 (pc := 4) (M' := mX6_in) dX6_keep_4 jX6_in lkX6_46 (by decide) (Nat.le_of_ble_eq_true rfl) (Nat.le_of_ble_eq_true rfl) ?_
        refine sp_inY (lo := 0) (hi := 1) (by decide) (by decide) (by omega) (by omega) (by omega) ?_
        refine e_if_ne (pc := 7) (tgt := 12) dX6_keep_7 (by decide) (fun h7 => ?_) (fun h7 => absurd h7 (by decide))
        refine e_aload_n (pc := 12) (i := 0) dX6_keep_12 rfl rfl ?_
        refine e_iconst' (pc := 13) (nI 0) dX6_keep_13 (by decide) ?_
        refine e_bipush' (pc := 14) (nI 22) dX6_keep_14 (by decide) ?_
        refine e_iload_n (pc := 16) (i := 1) dX6_keep_16 rfl rfl ?_
        refine e_iconst' (pc := 17) (nI 1) dX6_keep_17 (by decide) ?_
        refine e_iadd (pc := 18) dX6_keep_18 ?_
        refine E.it (nI (1 + 1)) (nI_add _ _) ?_
        refine e_imul (pc := 19) dX6_keep_19 ?_
        refine E.it (nI 44) (pk_mul _ _) ?_
        refine e_callV2 (pc := 20) (M' := mX6_copies) dX6_keep_20 iX6_copies lkX6_167 (by decide) (rO_obj sh_54 rfl) (Nat.le_of_ble_eq_true rfl) (Nat.le_of_ble_eq_true rfl) ?_
        refine sp_copyPg (a := 0) (b := 44) (by omega) (by omega) (by omega) hv hp2 (fun S2 d f => ?_)
        refine e_aload_n (pc := 23) (i := 0) dX6_keep_23 rfl rfl ?_
        refine e_getR (pc := 24) dX6_keep_24 (fX6_31 rfl) sh_54 rfl ?_
        refine e_iload_n (pc := 27) (i := 1) dX6_keep_27 rfl rfl ?_
        refine e_zald (pc := 28) dX6_keep_28 sh_62 (vp_in_nI (by decide) (by decide)) ?_
        refine E.it (nI 1) (by rw [hcl, f.2.1 62 (by omega)]; show S1.1 62 1 = _; rw [c.2 62 (by omega)]; exact hk2) ?_
        refine e_if_eq (pc := 29) (tgt := 36) dX6_keep_29 (by decide) (fun h29 => absurd h29 (by decide)) (fun h29 => ?_)
        refine e_iconst' (pc := 32) (nI 1) dX6_keep_32 (by decide) ?_
        refine e_goto (pc := 33) (tgt := 37) dX6_keep_33 (by decide) ?_
        refine e_istore_n (pc := 37) (i := 2) dX6_keep_37 rfl (by decide) rfl ?_
        refine e_aload_n (pc := 38) (i := 0) dX6_keep_38 rfl rfl ?_
        refine e_getR (pc := 39) dX6_keep_39 (fX6_31 rfl) sh_54 rfl ?_
        refine e_iload_n (pc := 42) (i := 1) dX6_keep_42 rfl rfl ?_
        refine e_iconst' (pc := 43) (nI 1) dX6_keep_43 (by decide) ?_
        refine e_zast (pc := 44) dX6_keep_44 sh_62 (vp_in_nI (by decide) (by decide)) ?_
        refine e_iload_n (pc := 45) (i := 2) dX6_keep_45 rfl rfl ?_
        refine e_iret (pc := 46) (st := []) (ty := .int) dX6_keep_46 rfl rfl ?_
        rw [hcl]
        have hS2 : ∀ j, j ≠ 62 → up2 S2.1 62 1 (vp_nar .boolean (nI 1)) j = S2.1 j := fun j hj => up2_ne _ _ _ hj
        have hS2b : up2 S2.1 62 1 (vp_nar .boolean (nI 1)) 62 0 = S2.1 62 0 := rfl
        have hq : ∀ j, (j < 16 ∨ 21 ≤ j) → j ≠ 22 → j ≠ 55 → j ≠ 62 → up2 S2.1 62 1 (vp_nar .boolean (nI 1)) j = S.1 j := fun j h1 h2 h3 h4 => by rw [hS2 j h4, f.2.1 j h3]; show up2 S1.1 22 1 (vp_nar .boolean (nI 1)) j = _; rw [up2_ne _ _ _ h2]; exact c.2 j (by omega)
        have hq55 : ∀ k, (k < 44 ∨ 66 ≤ k) → up2 S2.1 62 1 (vp_nar .boolean (nI 1)) 55 k = S.1 55 k := fun k h1 => by rw [hS2 55 (by omega), f.2.2 k h1]; show S1.1 55 k = _; rw [c.2 55 (by omega)]
        have hrow : RowAt (up2 S2.1 62 1 (vp_nar .boolean (nI 1)), S2.2) 16 R := row_k (fun q h1 h2 => (hS2 q (by omega)).trans ((f.2.1 q (by omega)).trans (up2_ne _ _ _ (by omega)))) q
        have hpg : PgAt (up2 S2.1 62 1 (vp_nar .boolean (nI 1)), S2.2) 44 R := d.of (fun k _ _ => congrFun (hS2 55 (by omega)) k) hv5
        have h22 : up2 S2.1 62 1 (vp_nar .boolean (nI 1)) 22 1 = nI 1 := by rw [hS2 22 (by omega), f.2.1 22 (by omega)]; rfl
        have ho22 : up2 S2.1 62 1 (vp_nar .boolean (nI 1)) 22 0 = S.1 22 0 := by rw [hS2 22 (by omega), f.2.1 22 (by omega)]; show S1.1 22 0 = _; rw [c.2 22 (by omega)]
        have ho62 : up2 S2.1 62 1 (vp_nar .boolean (nI 1)) 62 0 = S.1 62 0 := by rw [hS2b, f.2.1 62 (by omega)]; show S1.1 62 0 = _; rw [c.2 62 (by omega)]
        have hnew : I2 (up2 S2.1 62 1 (vp_nar .boolean (nI 1)), S2.2) 1 := Or.inr ⟨h22, rfl, R, hv, hc, hrow, hpg⟩
        have hold : I2 (up2 S2.1 62 1 (vp_nar .boolean (nI 1)), S2.2) 0 := I2.k (by omega) (fun j hj => hq j (by omega) (by omega) (by omega) (by omega)) ho22 ho62 (fun k h1 h2 => hq55 k (by omega)) hI.2.1.1
        exact ⟨rfl, Inv_img hI (fun j h1 h2 h3 => hq j (by omega) (by omega) h2 h3) (fun k h1 => hq55 k (by omega)) ⟨hold, hnew⟩⟩
  · refine ask_both (-1) hI (fun Q k => ?_) (fun S1 h1 Q k => ?_)
    · show E sc mX5_keep 0 [.ref 0, .int x, .null] [] S Q
      refine e_iload_n (pc := 0) (i := 1) dX5_keep_0 rfl rfl ?_
      refine e_iconst' (pc := 1) (nI 0) dX5_keep_1 (by decide) ?_
      refine e_iconst' (pc := 2) (nI 1) dX5_keep_2 (by decide) ?_
      refine e_callS3 (pc := 3) (M' := mX5_within) dX5_keep_3 jX5_within lkX5_70 (by decide) (Nat.le_of_ble_eq_true rfl) (Nat.le_of_ble_eq_true rfl) ?_
      refine sp_winX hn (by omega) (by omega) ?_
      refine e_if_ne (pc := 6) (tgt := 11) dX5_keep_6 (by decide) (fun h6 => absurd (by decide) h6) (fun h6 => ?_)
      refine e_iconst' (pc := 9) (-1) dX5_keep_9 (by decide) ?_
      refine e_iret (pc := 10) (st := []) (ty := .int) dX5_keep_10 rfl rfl ?_
      exact k _ Same.rf
    · show E sc mX6_keep 0 [.ref 54, .int x, .null] [] S1 Q
      have hp := h1.pg (by omega) hv hp
      have hr := h1.row (by omega) hr
      refine e_iload_n (pc := 0) (i := 1) dX6_keep_0 rfl rfl ?_
      refine e_i2l (pc := 1) dX6_keep_1 ?_
      refine e_lconst' (pc := 2) (lN 0) dX6_keep_2 (by decide) ?_
      refine e_lconst' (pc := 3) (lN 1) dX6_keep_3 (by decide) ?_
      refine e_callS3 (pc := 4) (M' := mX6_in) dX6_keep_4 jX6_in lkX6_46 (by decide) (Nat.le_of_ble_eq_true rfl) (Nat.le_of_ble_eq_true rfl) ?_
      refine sp_inX (lo := 0) (hi := 1) (by decide) (by decide) hn ?_
      refine e_if_ne (pc := 7) (tgt := 12) dX6_keep_7 (by decide) (fun h7 => absurd (by decide) h7) (fun h7 => ?_)
      refine e_iconst' (pc := 10) (-1) dX6_keep_10 (by decide) ?_
      refine e_iret (pc := 11) (st := []) (ty := .int) dX6_keep_11 rfl rfl ?_
      exact k _ Same.rf
theorem b_back {sc : PSc} {S : PS} (hI : InvS S) (x : Int32) : Bth sc mX5_back mX6_back [.int x] S := by
  obtain ⟨R, hv, hc, hr, hp⟩ := hI.1
  have hv5 := hv.1
  rcases Classical.em (inr x 0 1) with ⟨a, rfl, -, ha⟩ | hn
  · rcases (show a = 0 ∨ a = 1 by omega) with rfl | rfl
    · have hcl : (nI 0).toNatClampNeg = 0 := by decide
      rcases hI.2.1.1 with ⟨hk1, hk2⟩ | ⟨hk1, hk2, R2, hv2, hc2, hr2, hp2⟩
      · refine ask_both (-2) hI (fun Q k => ?_) (fun S1 h1 Q k => ?_)
        · show E sc mX5_back 0 [.ref 0, .int (nI 0)] [] S Q
          refine e_iload_n (pc := 0) (i := 1) dX5_back_0 rfl rfl ?_
          refine e_iconst' (pc := 1) (nI 0) dX5_back_1 (by decide) ?_
          refine e_iconst' (pc := 2) (nI 1) dX5_back_2 (by decide) ?_
          refine e_callS3 (pc := 3) (M' := mX5_within) dX5_back_3 jX5_within lkX5_70 (by decide) (Nat.le_of_ble_eq_true rfl) (Nat.le_of_ble_eq_true rfl) ?_
          refine sp_winY (by omega) (by omega) (by omega) ?_
          refine e_if_ne (pc := 6) (tgt := 11) dX5_back_6 (by decide) (fun h6 => ?_) (fun h6 => absurd h6 (by decide))
          refine e_aload_n (pc := 11) (i := 0) dX5_back_11 rfl rfl ?_
          refine e_getR (pc := 12) dX5_back_12 (fX5_23 rfl) sh_0 rfl ?_
          refine e_iload_n (pc := 15) (i := 1) dX5_back_15 rfl rfl ?_
          refine e_zald (pc := 16) dX5_back_16 sh_22 (vp_in_nI (by decide) (by decide)) ?_
          refine E.it (nI 0) (by rw [hcl]; exact hk1) ?_
          refine e_if_ne (pc := 17) (tgt := 23) dX5_back_17 (by decide) (fun h17 => absurd (by decide) h17) (fun h17 => ?_)
          refine e_bipush' (pc := 20) (-2) dX5_back_20 (by decide) ?_
          refine e_iret (pc := 22) (st := []) (ty := .int) dX5_back_22 rfl rfl ?_
          exact k _ Same.rf
        · show E sc mX6_back 0 [.ref 54, .int (nI 0)] [] S1 Q
          have hp := h1.pg (by omega) hv hp
          have hr := h1.row (by omega) hr
          refine e_iload_n (pc := 0) (i := 1) dX6_back_0 rfl rfl ?_
          refine e_i2l (pc := 1) dX6_back_1 ?_
          refine e_lconst' (pc := 2) (lN 0) dX6_back_2 (by decide) ?_
          refine e_lconst' (pc := 3) (lN 1) dX6_back_3 (by decide) ?_
          refine e_callS3 (pc := 4) (M' := mX6_in) dX6_back_4 jX6_in lkX6_46 (by decide) (Nat.le_of_ble_eq_true rfl) (Nat.le_of_ble_eq_true rfl) ?_
          refine sp_inY (lo := 0) (hi := 1) (by decide) (by decide) (by omega) (by omega) (by omega) ?_
          refine e_if_ne (pc := 7) (tgt := 12) dX6_back_7 (by decide) (fun h7 => ?_) (fun h7 => absurd h7 (by decide))
          refine e_aload_n (pc := 12) (i := 0) dX6_back_12 rfl rfl ?_
          refine e_getR (pc := 13) dX6_back_13 (fX6_31 rfl) sh_54 rfl ?_
          refine e_iload_n (pc := 16) (i := 1) dX6_back_16 rfl rfl ?_
          refine e_zald (pc := 17) dX6_back_17 sh_62 (vp_in_nI (by decide) (by decide)) ?_
          refine E.it (nI 0) (by rw [hcl, h1.2.2.2 62 (by omega)]; exact hk2) ?_
          refine e_if_ne (pc := 18) (tgt := 24) dX6_back_18 (by decide) (fun h18 => absurd (by decide) h18) (fun h18 => ?_)
          refine e_bipush' (pc := 21) (-2) dX6_back_21 (by decide) ?_
          refine e_iret (pc := 23) (st := []) (ty := .int) dX6_back_23 rfl rfl ?_
          exact k _ Same.rf
      · show E sc mX5_back 0 [.ref 0, .int (nI 0)] [] S _
        refine e_iload_n (pc := 0) (i := 1) dX5_back_0 rfl rfl ?_
        refine e_iconst' (pc := 1) (nI 0) dX5_back_1 (by decide) ?_
        refine e_iconst' (pc := 2) (nI 1) dX5_back_2 (by decide) ?_
        refine e_callS3 (pc := 3) (M' := mX5_within) dX5_back_3 jX5_within lkX5_70 (by decide) (Nat.le_of_ble_eq_true rfl) (Nat.le_of_ble_eq_true rfl) ?_
        refine sp_winY (by omega) (by omega) (by omega) ?_
        refine e_if_ne (pc := 6) (tgt := 11) dX5_back_6 (by decide) (fun h6 => ?_) (fun h6 => absurd h6 (by decide))
        refine e_aload_n (pc := 11) (i := 0) dX5_back_11 rfl rfl ?_
        refine e_getR (pc := 12) dX5_back_12 (fX5_23 rfl) sh_0 rfl ?_
        refine e_iload_n (pc := 15) (i := 1) dX5_back_15 rfl rfl ?_
        refine e_zald (pc := 16) dX5_back_16 sh_22 (vp_in_nI (by decide) (by decide)) ?_
        refine E.it (nI 1) (by rw [hcl]; exact hk1) ?_
        refine e_if_ne (pc := 17) (tgt := 23) dX5_back_17 (by decide) (fun h17 => ?_) (fun h17 => absurd h17 (by decide))
        refine e_aload_n (pc := 23) (i := 0) dX5_back_23 rfl rfl ?_
        refine e_getR (pc := 24) dX5_back_24 (fX5_10 rfl) sh_0 rfl ?_
        refine e_aload_n (pc := 27) (i := 0) dX5_back_27 rfl rfl ?_
        refine e_getR (pc := 28) dX5_back_28 (fX5_19 rfl) sh_0 rfl ?_
        refine e_iload_n (pc := 31) (i := 1) dX5_back_31 rfl rfl ?_
        refine e_aald (pc := 32) (r := 11) dX5_back_32 sh_21 (vp_in_nI (by decide) (by decide)) (by decide) ?_
        refine e_callV1 (pc := 33) (M' := mX0_copyOf) dX5_back_33 iX0_copyOf lkX5_90 (by decide) (rO_obj sh_1 rfl) (Nat.le_of_ble_eq_true rfl) (Nat.le_of_ble_eq_true rfl) ?_
        refine sp_copyOf r1 r11 (by omega) hv2 hr2 (fun S1 q _ c => ?_)
        refine e_aload_n (pc := 36) (i := 0) dX5_back_36 rfl rfl ?_
        refine e_getR (pc := 37) dX5_back_37 (fX5_10 rfl) sh_0 rfl ?_
        refine e_getI (pc := 40) dX5_back_40 (fX5_104 rfl) sh_1 rfl ?_
        refine E.it (nI (R2 21)) q.2.1 ?_
        refine e_iret (pc := 43) (st := []) (ty := .int) dX5_back_43 rfl rfl ?_
        refine ⟨_, rfl, ?_⟩
        show E sc mX6_back 0 [.ref 54, .int (nI 0)] [] _ _
        refine e_iload_n (pc := 0) (i := 1) dX6_back_0 rfl rfl ?_
        refine e_i2l (pc := 1) dX6_back_1 ?_
        refine e_lconst' (pc := 2) (lN 0) dX6_back_2 (by decide) ?_
        refine e_lconst' (pc := 3) (lN 1) dX6_back_3 (by decide) ?_
        refine e_callS3 (pc := 4) (M' := mX6_in) dX6_back_4 jX6_in lkX6_46 (by decide) (Nat.le_of_ble_eq_true rfl) (Nat.le_of_ble_eq_true rfl) ?_
        refine sp_inY (lo := 0) (hi := 1) (by decide) (by decide) (by omega) (by omega) (by omega) ?_
        refine e_if_ne (pc := 7) (tgt := 12) dX6_back_7 (by decide) (fun h7 => ?_) (fun h7 => absurd h7 (by decide))
        refine e_aload_n (pc := 12) (i := 0) dX6_back_12 rfl rfl ?_
        refine e_getR (pc := 13) dX6_back_13 (fX6_31 rfl) sh_54 rfl ?_
        refine e_iload_n (pc := 16) (i := 1) dX6_back_16 rfl rfl ?_
        refine e_zald (pc := 17) dX6_back_17 sh_62 (vp_in_nI (by decide) (by decide)) ?_
        refine E.it (nI 1) (by rw [hcl, c.2 62 (by omega)]; exact hk2) ?_
        refine e_if_ne (pc := 18) (tgt := 24) dX6_back_18 (by decide) (fun h18 => ?_) (fun h18 => absurd h18 (by decide))
        refine e_aload_n (pc := 24) (i := 0) dX6_back_24 rfl rfl ?_
        refine e_bipush' (pc := 25) (nI 22) dX6_back_25 (by decide) ?_
        refine e_iload_n (pc := 27) (i := 1) dX6_back_27 rfl rfl ?_
        refine e_iconst' (pc := 28) (nI 1) dX6_back_28 (by decide) ?_
        refine e_iadd (pc := 29) dX6_back_29 ?_
        refine E.it (nI (0 + 1)) (nI_add _ _) ?_
        refine e_imul (pc := 30) dX6_back_30 ?_
        refine E.it (nI 22) (pk_mul _ _) ?_
        refine e_iconst' (pc := 31) (nI 0) dX6_back_31 (by decide) ?_
        refine e_callV2 (pc := 32) (M' := mX6_copies) dX6_back_32 iX6_copies lkX6_167 (by decide) (rO_obj sh_54 rfl) (Nat.le_of_ble_eq_true rfl) (Nat.le_of_ble_eq_true rfl) ?_
        refine sp_copyPg (a := 22) (b := 0) (by omega) (by omega) (by omega) hv2 (c.pg hv2 hp2) (fun S2 d f => ?_)
        refine e_aload_n (pc := 35) (i := 0) dX6_back_35 rfl rfl ?_
        refine e_getR (pc := 36) dX6_back_36 (fX6_7 rfl) sh_54 rfl ?_
        refine e_bipush' (pc := 39) (nI 21) dX6_back_39 (by decide) ?_
        refine e_iald (pc := 41) dX6_back_41 sh_55 (vp_in_nI (by omega) (by omega)) ?_
        refine E.it (nI (R2 21)) (pgc (p := 0) (by omega) d) ?_
        refine e_iret (pc := 42) (st := []) (ty := .int) dX6_back_42 rfl rfl ?_
        exact ⟨rfl, (c.rst.tr f.rst).inv hI hv2 hc2 (f.row (by omega) q) d⟩
    · have hcl : (nI 1).toNatClampNeg = 1 := by decide
      rcases hI.2.1.2 with ⟨hk1, hk2⟩ | ⟨hk1, hk2, R2, hv2, hc2, hr2, hp2⟩
      · refine ask_both (-2) hI (fun Q k => ?_) (fun S1 h1 Q k => ?_)
        · show E sc mX5_back 0 [.ref 0, .int (nI 1)] [] S Q
          refine e_iload_n (pc := 0) (i := 1) dX5_back_0 rfl rfl ?_
          refine e_iconst' (pc := 1) (nI 0) dX5_back_1 (by decide) ?_
          refine e_iconst' (pc := 2) (nI 1) dX5_back_2 (by decide) ?_
          refine e_callS3 (pc := 3) (M' := mX5_within) dX5_back_3 jX5_within lkX5_70 (by decide) (Nat.le_of_ble_eq_true rfl) (Nat.le_of_ble_eq_true rfl) ?_
          refine sp_winY (by omega) (by omega) (by omega) ?_
          refine e_if_ne (pc := 6) (tgt := 11) dX5_back_6 (by decide) (fun h6 => ?_) (fun h6 => absurd h6 (by decide))
          refine e_aload_n (pc := 11) (i := 0) dX5_back_11 rfl rfl ?_
          refine e_getR (pc := 12) dX5_back_12 (fX5_23 rfl) sh_0 rfl ?_
          refine e_iload_n (pc := 15) (i := 1) dX5_back_15 rfl rfl ?_
          refine e_zald (pc := 16) dX5_back_16 sh_22 (vp_in_nI (by decide) (by decide)) ?_
          refine E.it (nI 0) (by rw [hcl]; exact hk1) ?_
          refine e_if_ne (pc := 17) (tgt := 23) dX5_back_17 (by decide) (fun h17 => absurd (by decide) h17) (fun h17 => ?_)
          refine e_bipush' (pc := 20) (-2) dX5_back_20 (by decide) ?_
          refine e_iret (pc := 22) (st := []) (ty := .int) dX5_back_22 rfl rfl ?_
          exact k _ Same.rf
        · show E sc mX6_back 0 [.ref 54, .int (nI 1)] [] S1 Q
          have hp := h1.pg (by omega) hv hp
          have hr := h1.row (by omega) hr
          refine e_iload_n (pc := 0) (i := 1) dX6_back_0 rfl rfl ?_
          refine e_i2l (pc := 1) dX6_back_1 ?_
          refine e_lconst' (pc := 2) (lN 0) dX6_back_2 (by decide) ?_
          refine e_lconst' (pc := 3) (lN 1) dX6_back_3 (by decide) ?_
          refine e_callS3 (pc := 4) (M' := mX6_in) dX6_back_4 jX6_in lkX6_46 (by decide) (Nat.le_of_ble_eq_true rfl) (Nat.le_of_ble_eq_true rfl) ?_
          refine sp_inY (lo := 0) (hi := 1) (by decide) (by decide) (by omega) (by omega) (by omega) ?_
          refine e_if_ne (pc := 7) (tgt := 12) dX6_back_7 (by decide) (fun h7 => ?_) (fun h7 => absurd h7 (by decide))
          refine e_aload_n (pc := 12) (i := 0) dX6_back_12 rfl rfl ?_
          refine e_getR (pc := 13) dX6_back_13 (fX6_31 rfl) sh_54 rfl ?_
          refine e_iload_n (pc := 16) (i := 1) dX6_back_16 rfl rfl ?_
          refine e_zald (pc := 17) dX6_back_17 sh_62 (vp_in_nI (by decide) (by decide)) ?_
          refine E.it (nI 0) (by rw [hcl, h1.2.2.2 62 (by omega)]; exact hk2) ?_
          refine e_if_ne (pc := 18) (tgt := 24) dX6_back_18 (by decide) (fun h18 => absurd (by decide) h18) (fun h18 => ?_)
          refine e_bipush' (pc := 21) (-2) dX6_back_21 (by decide) ?_
          refine e_iret (pc := 23) (st := []) (ty := .int) dX6_back_23 rfl rfl ?_
          exact k _ Same.rf
      · show E sc mX5_back 0 [.ref 0, .int (nI 1)] [] S _
        refine e_iload_n (pc := 0) (i := 1) dX5_back_0 rfl rfl ?_
        refine e_iconst' (pc := 1) (nI 0) dX5_back_1 (by decide) ?_
        refine e_iconst' (pc := 2) (nI 1) dX5_back_2 (by decide) ?_
        refine e_callS3 (pc := 3) (M' := mX5_within) dX5_back_3 jX5_within lkX5_70 (by decide) (Nat.le_of_ble_eq_true rfl) (Nat.le_of_ble_eq_true rfl) ?_
        refine sp_winY (by omega) (by omega) (by omega) ?_
        refine e_if_ne (pc := 6) (tgt := 11) dX5_back_6 (by decide) (fun h6 => ?_) (fun h6 => absurd h6 (by decide))
        refine e_aload_n (pc := 11) (i := 0) dX5_back_11 rfl rfl ?_
        refine e_getR (pc := 12) dX5_back_12 (fX5_23 rfl) sh_0 rfl ?_
        refine e_iload_n (pc := 15) (i := 1) dX5_back_15 rfl rfl ?_
        refine e_zald (pc := 16) dX5_back_16 sh_22 (vp_in_nI (by decide) (by decide)) ?_
        refine E.it (nI 1) (by rw [hcl]; exact hk1) ?_
        refine e_if_ne (pc := 17) (tgt := 23) dX5_back_17 (by decide) (fun h17 => ?_) (fun h17 => absurd h17 (by decide))
        refine e_aload_n (pc := 23) (i := 0) dX5_back_23 rfl rfl ?_
        refine e_getR (pc := 24) dX5_back_24 (fX5_10 rfl) sh_0 rfl ?_
        refine e_aload_n (pc := 27) (i := 0) dX5_back_27 rfl rfl ?_
        refine e_getR (pc := 28) dX5_back_28 (fX5_19 rfl) sh_0 rfl ?_
        refine e_iload_n (pc := 31) (i := 1) dX5_back_31 rfl rfl ?_
        refine e_aald (pc := 32) (r := 16) dX5_back_32 sh_21 (vp_in_nI (by decide) (by decide)) (by decide) ?_
        refine e_callV1 (pc := 33) (M' := mX0_copyOf) dX5_back_33 iX0_copyOf lkX5_90 (by decide) (rO_obj sh_1 rfl) (Nat.le_of_ble_eq_true rfl) (Nat.le_of_ble_eq_true rfl) ?_
        refine sp_copyOf r1 r16 (by omega) hv2 hr2 (fun S1 q _ c => ?_)
        refine e_aload_n (pc := 36) (i := 0) dX5_back_36 rfl rfl ?_
        refine e_getR (pc := 37) dX5_back_37 (fX5_10 rfl) sh_0 rfl ?_
        refine e_getI (pc := 40) dX5_back_40 (fX5_104 rfl) sh_1 rfl ?_
        refine E.it (nI (R2 21)) q.2.1 ?_
        refine e_iret (pc := 43) (st := []) (ty := .int) dX5_back_43 rfl rfl ?_
        refine ⟨_, rfl, ?_⟩
        show E sc mX6_back 0 [.ref 54, .int (nI 1)] [] _ _
        refine e_iload_n (pc := 0) (i := 1) dX6_back_0 rfl rfl ?_
        refine e_i2l (pc := 1) dX6_back_1 ?_
        refine e_lconst' (pc := 2) (lN 0) dX6_back_2 (by decide) ?_
        refine e_lconst' (pc := 3) (lN 1) dX6_back_3 (by decide) ?_
        refine e_callS3 (pc := 4) (M' := mX6_in) dX6_back_4 jX6_in lkX6_46 (by decide) (Nat.le_of_ble_eq_true rfl) (Nat.le_of_ble_eq_true rfl) ?_
        refine sp_inY (lo := 0) (hi := 1) (by decide) (by decide) (by omega) (by omega) (by omega) ?_
        refine e_if_ne (pc := 7) (tgt := 12) dX6_back_7 (by decide) (fun h7 => ?_) (fun h7 => absurd h7 (by decide))
        refine e_aload_n (pc := 12) (i := 0) dX6_back_12 rfl rfl ?_
        refine e_getR (pc := 13) dX6_back_13 (fX6_31 rfl) sh_54 rfl ?_
        refine e_iload_n (pc := 16) (i := 1) dX6_back_16 rfl rfl ?_
        refine e_zald (pc := 17) dX6_back_17 sh_62 (vp_in_nI (by decide) (by decide)) ?_
        refine E.it (nI 1) (by rw [hcl, c.2 62 (by omega)]; exact hk2) ?_
        refine e_if_ne (pc := 18) (tgt := 24) dX6_back_18 (by decide) (fun h18 => ?_) (fun h18 => absurd h18 (by decide))
        refine e_aload_n (pc := 24) (i := 0) dX6_back_24 rfl rfl ?_
        refine e_bipush' (pc := 25) (nI 22) dX6_back_25 (by decide) ?_
        refine e_iload_n (pc := 27) (i := 1) dX6_back_27 rfl rfl ?_
        refine e_iconst' (pc := 28) (nI 1) dX6_back_28 (by decide) ?_
        refine e_iadd (pc := 29) dX6_back_29 ?_
        refine E.it (nI (1 + 1)) (nI_add _ _) ?_
        refine e_imul (pc := 30) dX6_back_30 ?_
        refine E.it (nI 44) (pk_mul _ _) ?_
        refine e_iconst' (pc := 31) (nI 0) dX6_back_31 (by decide) ?_
        refine e_callV2 (pc := 32) (M' := mX6_copies) dX6_back_32 iX6_copies lkX6_167 (by decide) (rO_obj sh_54 rfl) (Nat.le_of_ble_eq_true rfl) (Nat.le_of_ble_eq_true rfl) ?_
        refine sp_copyPg (a := 44) (b := 0) (by omega) (by omega) (by omega) hv2 (c.pg hv2 hp2) (fun S2 d f => ?_)
        refine e_aload_n (pc := 35) (i := 0) dX6_back_35 rfl rfl ?_
        refine e_getR (pc := 36) dX6_back_36 (fX6_7 rfl) sh_54 rfl ?_
        refine e_bipush' (pc := 39) (nI 21) dX6_back_39 (by decide) ?_
        refine e_iald (pc := 41) dX6_back_41 sh_55 (vp_in_nI (by omega) (by omega)) ?_
        refine E.it (nI (R2 21)) (pgc (p := 0) (by omega) d) ?_
        refine e_iret (pc := 42) (st := []) (ty := .int) dX6_back_42 rfl rfl ?_
        exact ⟨rfl, (c.rst.tr f.rst).inv hI hv2 hc2 (f.row (by omega) q) d⟩
  · refine ask_both (-1) hI (fun Q k => ?_) (fun S1 h1 Q k => ?_)
    · show E sc mX5_back 0 [.ref 0, .int x] [] S Q
      refine e_iload_n (pc := 0) (i := 1) dX5_back_0 rfl rfl ?_
      refine e_iconst' (pc := 1) (nI 0) dX5_back_1 (by decide) ?_
      refine e_iconst' (pc := 2) (nI 1) dX5_back_2 (by decide) ?_
      refine e_callS3 (pc := 3) (M' := mX5_within) dX5_back_3 jX5_within lkX5_70 (by decide) (Nat.le_of_ble_eq_true rfl) (Nat.le_of_ble_eq_true rfl) ?_
      refine sp_winX hn (by omega) (by omega) ?_
      refine e_if_ne (pc := 6) (tgt := 11) dX5_back_6 (by decide) (fun h6 => absurd (by decide) h6) (fun h6 => ?_)
      refine e_iconst' (pc := 9) (-1) dX5_back_9 (by decide) ?_
      refine e_iret (pc := 10) (st := []) (ty := .int) dX5_back_10 rfl rfl ?_
      exact k _ Same.rf
    · show E sc mX6_back 0 [.ref 54, .int x] [] S1 Q
      have hp := h1.pg (by omega) hv hp
      have hr := h1.row (by omega) hr
      refine e_iload_n (pc := 0) (i := 1) dX6_back_0 rfl rfl ?_
      refine e_i2l (pc := 1) dX6_back_1 ?_
      refine e_lconst' (pc := 2) (lN 0) dX6_back_2 (by decide) ?_
      refine e_lconst' (pc := 3) (lN 1) dX6_back_3 (by decide) ?_
      refine e_callS3 (pc := 4) (M' := mX6_in) dX6_back_4 jX6_in lkX6_46 (by decide) (Nat.le_of_ble_eq_true rfl) (Nat.le_of_ble_eq_true rfl) ?_
      refine sp_inX (lo := 0) (hi := 1) (by decide) (by decide) hn ?_
      refine e_if_ne (pc := 7) (tgt := 12) dX6_back_7 (by decide) (fun h7 => absurd (by decide) h7) (fun h7 => ?_)
      refine e_iconst' (pc := 10) (-1) dX6_back_10 (by decide) ?_
      refine e_iret (pc := 11) (st := []) (ty := .int) dX6_back_11 rfl rfl ?_
      exact k _ Same.rf

theorem out_of {x : Int32} {lo hi : Nat} (h : ¬ inr x lo hi) : x.toInt < (lo : Int) ∨ (hi : Int) < x.toInt := by
  rcases Int.lt_or_le x.toInt lo with a | a
  · exact Or.inl a
  · rcases Int.lt_or_le hi x.toInt with b | b
    · exact Or.inr b
    · have e0 : ¬ x < 0 := by rw [fa_lt]; show ¬ x.toInt < (0 : Int); omega
      obtain ⟨c, hc, rfl⟩ := nI_of e0
      rw [nI_toInt hc] at a b
      exact (h ⟨c, rfl, by omega, by omega⟩).elim
theorem lp_rule {sc : PSc} {R : Rw} {S : PS} {Q : PQ} {x : Int32} (hv : Vd R) (hp : PgAt S 0 R) (k : E sc mX6_rule 40 [.ref 54, .int x, .int (nI (cb R (R 20))), .int (nI (R 20))] [] S Q) : ∀ (n j : Nat), j ≤ R 20 → R 20 - j < n → E sc mX6_rule 4 [.ref 54, .int x, .int (nI (cb R j)), .int (nI j)] [] S Q := by
  intro n
  induction n with
  | zero => intro j hj hn; exact absurd hn (by omega)
  | succ n ih =>
    intro j hj hn
    have h5 := hv.1
    refine e_iload_n (pc := 4) (i := 3) dX6_rule_4 rfl rfl ?_
    refine e_aload_n (pc := 5) (i := 0) dX6_rule_5 rfl rfl ?_
    refine e_getR (pc := 6) dX6_rule_6 (fX6_7 rfl) sh_54 rfl ?_
    refine e_bipush' (pc := 9) (nI 20) dX6_rule_9 (by decide) ?_
    refine e_iald (pc := 11) dX6_rule_11 sh_55 (vp_in_nI (by omega) (by omega)) ?_
    refine E.it (nI (R (20))) (pgn (p := 0) (by omega) hp) ?_
    refine e_icmp_ge (pc := 12) (tgt := 40) dX6_rule_12 (by decide) (fun h12 => ?_) (fun h12 => ?_)
    · replace h12 := (nI_leI (by omega) (by omega)).mp h12
      obtain e : j = R 20 := by omega
      rw [e]; exact k
    · replace h12 := mt (nI_leI (by omega) (by omega)).mpr h12
      have hw : j < R 20 := by omega
      have hih := ih (j + 1) (by omega) (by omega)
      rw [cb] at hih
      refine e_iload_n (pc := 15) (i := 2) dX6_rule_15 rfl rfl ?_
      refine e_aload_n (pc := 16) (i := 0) dX6_rule_16 rfl rfl ?_
      refine e_iconst' (pc := 17) (nI 0) dX6_rule_17 (by decide) ?_
      refine e_iload_n (pc := 18) (i := 3) dX6_rule_18 rfl rfl ?_
      refine e_callV2 (pc := 19) (M' := mX6_carriesOn) dX6_rule_19 iX6_carriesOn lkX6_121 (by decide) (rO_obj sh_54 rfl) (Nat.le_of_ble_eq_true rfl) (Nat.le_of_ble_eq_true rfl) ?_
      refine sp_carriesOn (p := 0) (by omega) hv hp hw ?_
      cases hc : cy R j
      · rw [hc] at hih
        refine e_if_eq (pc := 22) (tgt := 31) dX6_rule_22 (by decide) (fun h22 => ?_) (fun h22 => absurd (by decide) h22)
        refine e_iconst' (pc := 31) (nI 0) dX6_rule_31 (by decide) ?_
        refine e_ior (pc := 32) dX6_rule_32 ?_
        refine E.it (nI (cb R j)) (by rw [nI_0, Int32.or_zero]) ?_
        refine e_istore_n (pc := 33) (i := 2) dX6_rule_33 rfl (by decide) rfl ?_
        refine e_iinc' (pc := 34) (nI (j + 1)) dX6_rule_34 rfl (by decide) rfl (nI_1 _) ?_
        refine e_goto (pc := 37) (tgt := 4) dX6_rule_37 (by decide) ?_
        exact hih
      · rw [hc] at hih
        refine e_if_eq (pc := 22) (tgt := 31) dX6_rule_22 (by decide) (fun h22 => absurd h22 (by decide)) (fun h22 => ?_)
        refine e_iconst' (pc := 25) (nI 1) dX6_rule_25 (by decide) ?_
        refine e_iload_n (pc := 26) (i := 3) dX6_rule_26 rfl rfl ?_
        refine e_ishl (pc := 27) dX6_rule_27 ?_
        refine E.it (nI (2 ^ j)) (sh1 j (by omega)) ?_
        refine e_goto (pc := 28) (tgt := 32) dX6_rule_28 (by decide) ?_
        refine e_ior (pc := 32) dX6_rule_32 ?_
        refine E.it (nI (cb R j ||| 2 ^ j)) (fa_or _ _) ?_
        refine e_istore_n (pc := 33) (i := 2) dX6_rule_33 rfl (by decide) rfl ?_
        refine e_iinc' (pc := 34) (nI (j + 1)) dX6_rule_34 rfl (by decide) rfl (nI_1 _) ?_
        refine e_goto (pc := 37) (tgt := 4) dX6_rule_37 (by decide) ?_
        exact hih
theorem b_rule {sc : PSc} {S : PS} (hI : InvS S) (x : Int32) : Bth sc mX5_rule mX6_rule [.int x] S := by
  obtain ⟨R, hv, hc, hr, hp⟩ := hI.1
  have hv5 := hv.1
  rcases Classical.em (inr x 0 5) with ⟨a, rfl, -, ha⟩ | hn
  · rcases (show a = 0 ∨ a = 1 ∨ a = 2 ∨ a = 3 ∨ a = 4 ∨ a = 5 by omega) with rfl | rfl | rfl | rfl | rfl | rfl
    · refine ask_both (nI (R 20)) hI (fun Q k => ?_) (fun S1 h1 Q k => ?_)
      · show E sc mX5_rule 0 [.ref 0, .int (nI 0)] [] S Q
        refine e_iload_n (pc := 0) (i := 1) dX5_rule_0 rfl rfl ?_
        · refine e_table (pc := 1) dX5_rule_1 ⟨40, (Or.inr ⟨by decide, by decide, 39, by decide, by decide⟩), ?_⟩
          refine e_aload_n (pc := 40) (i := 0) dX5_rule_40 rfl rfl ?_
          refine e_getR (pc := 41) dX5_rule_41 (fX5_10 rfl) sh_0 rfl ?_
          refine e_getI (pc := 44) dX5_rule_44 (fX5_103 rfl) sh_1 rfl ?_
          refine E.it (nI (R 20)) hr.1 ?_
          refine e_iret (pc := 47) (st := []) (ty := .int) dX5_rule_47 rfl rfl ?_
          exact k _ Same.rf
      · show E sc mX6_rule 0 [.ref 54, .int (nI 0), .null, .null] [] S1 Q
        have hp := h1.pg (by omega) hv hp
        have hr := h1.row (by omega) hr
        refine e_iconst' (pc := 0) (nI 0) dX6_rule_0 (by decide) ?_
        refine e_istore_n (pc := 1) (i := 2) dX6_rule_1 rfl (by decide) rfl ?_
        refine e_iconst' (pc := 2) (nI 0) dX6_rule_2 (by decide) ?_
        refine e_istore_n (pc := 3) (i := 3) dX6_rule_3 rfl (by decide) rfl ?_
        refine lp_rule hv hp ?_ (R 20 + 1) 0 (by omega) (by omega)
        refine e_iload_n (pc := 40) (i := 1) dX6_rule_40 rfl rfl ?_
        · refine e_table (pc := 41) dX6_rule_41 ⟨80, (Or.inr ⟨by decide, by decide, 39, by decide, by decide⟩), ?_⟩
          refine e_aload_n (pc := 80) (i := 0) dX6_rule_80 rfl rfl ?_
          refine e_getR (pc := 81) dX6_rule_81 (fX6_7 rfl) sh_54 rfl ?_
          refine e_bipush' (pc := 84) (nI 20) dX6_rule_84 (by decide) ?_
          refine e_iald (pc := 86) dX6_rule_86 sh_55 (vp_in_nI (by omega) (by omega)) ?_
          refine E.it (nI (R (20))) (pgn (p := 0) (by omega) hp) ?_
          refine e_iret (pc := 87) (st := []) (ty := .int) dX6_rule_87 rfl rfl ?_
          exact k _ Same.rf
    · refine ask_both (nI (R 21)) hI (fun Q k => ?_) (fun S1 h1 Q k => ?_)
      · show E sc mX5_rule 0 [.ref 0, .int (nI 1)] [] S Q
        refine e_iload_n (pc := 0) (i := 1) dX5_rule_0 rfl rfl ?_
        · refine e_table (pc := 1) dX5_rule_1 ⟨48, (Or.inr ⟨by decide, by decide, 47, by decide, by decide⟩), ?_⟩
          refine e_aload_n (pc := 48) (i := 0) dX5_rule_48 rfl rfl ?_
          refine e_getR (pc := 49) dX5_rule_49 (fX5_10 rfl) sh_0 rfl ?_
          refine e_getI (pc := 52) dX5_rule_52 (fX5_104 rfl) sh_1 rfl ?_
          refine E.it (nI (R 21)) hr.2.1 ?_
          refine e_iret (pc := 55) (st := []) (ty := .int) dX5_rule_55 rfl rfl ?_
          exact k _ Same.rf
      · show E sc mX6_rule 0 [.ref 54, .int (nI 1), .null, .null] [] S1 Q
        have hp := h1.pg (by omega) hv hp
        have hr := h1.row (by omega) hr
        refine e_iconst' (pc := 0) (nI 0) dX6_rule_0 (by decide) ?_
        refine e_istore_n (pc := 1) (i := 2) dX6_rule_1 rfl (by decide) rfl ?_
        refine e_iconst' (pc := 2) (nI 0) dX6_rule_2 (by decide) ?_
        refine e_istore_n (pc := 3) (i := 3) dX6_rule_3 rfl (by decide) rfl ?_
        refine lp_rule hv hp ?_ (R 20 + 1) 0 (by omega) (by omega)
        refine e_iload_n (pc := 40) (i := 1) dX6_rule_40 rfl rfl ?_
        · refine e_table (pc := 41) dX6_rule_41 ⟨88, (Or.inr ⟨by decide, by decide, 47, by decide, by decide⟩), ?_⟩
          refine e_aload_n (pc := 88) (i := 0) dX6_rule_88 rfl rfl ?_
          refine e_getR (pc := 89) dX6_rule_89 (fX6_7 rfl) sh_54 rfl ?_
          refine e_bipush' (pc := 92) (nI 21) dX6_rule_92 (by decide) ?_
          refine e_iald (pc := 94) dX6_rule_94 sh_55 (vp_in_nI (by omega) (by omega)) ?_
          refine E.it (nI (R (21))) (pgc (p := 0) (by omega) hp) ?_
          refine e_iret (pc := 95) (st := []) (ty := .int) dX6_rule_95 rfl rfl ?_
          exact k _ Same.rf
    · refine ask_both (nI (reads R)) hI (fun Q k => ?_) (fun S1 h1 Q k => ?_)
      · show E sc mX5_rule 0 [.ref 0, .int (nI 2)] [] S Q
        refine e_iload_n (pc := 0) (i := 1) dX5_rule_0 rfl rfl ?_
        · refine e_table (pc := 1) dX5_rule_1 ⟨56, (Or.inr ⟨by decide, by decide, 55, by decide, by decide⟩), ?_⟩
          refine e_aload_n (pc := 56) (i := 0) dX5_rule_56 rfl rfl ?_
          refine e_getR (pc := 57) dX5_rule_57 (fX5_10 rfl) sh_0 rfl ?_
          refine e_callV0 (pc := 60) (M' := mX0_reading) dX5_rule_60 iX0_reading lkX5_107 (by decide) (rO_obj sh_1 rfl) (Nat.le_of_ble_eq_true rfl) (Nat.le_of_ble_eq_true rfl) ?_
          refine sp_reading r1 hv hr ?_
          refine e_iret (pc := 63) (st := []) (ty := .int) dX5_rule_63 rfl rfl ?_
          exact k _ Same.rf
      · show E sc mX6_rule 0 [.ref 54, .int (nI 2), .null, .null] [] S1 Q
        have hp := h1.pg (by omega) hv hp
        have hr := h1.row (by omega) hr
        refine e_iconst' (pc := 0) (nI 0) dX6_rule_0 (by decide) ?_
        refine e_istore_n (pc := 1) (i := 2) dX6_rule_1 rfl (by decide) rfl ?_
        refine e_iconst' (pc := 2) (nI 0) dX6_rule_2 (by decide) ?_
        refine e_istore_n (pc := 3) (i := 3) dX6_rule_3 rfl (by decide) rfl ?_
        refine lp_rule hv hp ?_ (R 20 + 1) 0 (by omega) (by omega)
        refine e_iload_n (pc := 40) (i := 1) dX6_rule_40 rfl rfl ?_
        · refine e_table (pc := 41) dX6_rule_41 ⟨96, (Or.inr ⟨by decide, by decide, 55, by decide, by decide⟩), ?_⟩
          refine e_aload_n (pc := 96) (i := 0) dX6_rule_96 rfl rfl ?_
          refine e_iconst' (pc := 97) (nI 0) dX6_rule_97 (by decide) ?_
          refine e_callV1 (pc := 98) (M' := mX6_readsOn) dX6_rule_98 iX6_readsOn lkX6_135 (by decide) (rO_obj sh_54 rfl) (Nat.le_of_ble_eq_true rfl) (Nat.le_of_ble_eq_true rfl) ?_
          refine sp_readsOn (p := 0) (by omega) hv hp ?_
          refine e_iret (pc := 101) (st := []) (ty := .int) dX6_rule_101 rfl rfl ?_
          exact k _ Same.rf
    · refine ask_both (nI (allR R)) hI (fun Q k => ?_) (fun S1 h1 Q k => ?_)
      · show E sc mX5_rule 0 [.ref 0, .int (nI 3)] [] S Q
        refine e_iload_n (pc := 0) (i := 1) dX5_rule_0 rfl rfl ?_
        · refine e_table (pc := 1) dX5_rule_1 ⟨64, (Or.inr ⟨by decide, by decide, 63, by decide, by decide⟩), ?_⟩
          refine e_aload_n (pc := 64) (i := 0) dX5_rule_64 rfl rfl ?_
          refine e_getR (pc := 65) dX5_rule_65 (fX5_10 rfl) sh_0 rfl ?_
          refine e_callV0 (pc := 68) (M' := mX0_product) dX5_rule_68 iX0_product lkX5_111 (by decide) (rO_obj sh_1 rfl) (Nat.le_of_ble_eq_true rfl) (Nat.le_of_ble_eq_true rfl) ?_
          refine sp_product r1 hv hr ?_
          refine e_iret (pc := 71) (st := []) (ty := .int) dX5_rule_71 rfl rfl ?_
          exact k _ Same.rf
      · show E sc mX6_rule 0 [.ref 54, .int (nI 3), .null, .null] [] S1 Q
        have hp := h1.pg (by omega) hv hp
        have hr := h1.row (by omega) hr
        refine e_iconst' (pc := 0) (nI 0) dX6_rule_0 (by decide) ?_
        refine e_istore_n (pc := 1) (i := 2) dX6_rule_1 rfl (by decide) rfl ?_
        refine e_iconst' (pc := 2) (nI 0) dX6_rule_2 (by decide) ?_
        refine e_istore_n (pc := 3) (i := 3) dX6_rule_3 rfl (by decide) rfl ?_
        refine lp_rule hv hp ?_ (R 20 + 1) 0 (by omega) (by omega)
        refine e_iload_n (pc := 40) (i := 1) dX6_rule_40 rfl rfl ?_
        · refine e_table (pc := 41) dX6_rule_41 ⟨102, (Or.inr ⟨by decide, by decide, 61, by decide, by decide⟩), ?_⟩
          refine e_aload_n (pc := 102) (i := 0) dX6_rule_102 rfl rfl ?_
          refine e_iconst' (pc := 103) (nI 0) dX6_rule_103 (by decide) ?_
          refine e_callV1 (pc := 104) (M' := mX6_allOn) dX6_rule_104 iX6_allOn lkX6_138 (by decide) (rO_obj sh_54 rfl) (Nat.le_of_ble_eq_true rfl) (Nat.le_of_ble_eq_true rfl) ?_
          refine sp_allOn (p := 0) (by omega) hv hp ?_
          refine e_iret (pc := 107) (st := []) (ty := .int) dX6_rule_107 rfl rfl ?_
          exact k _ Same.rf
    · refine ask_both (nI (err R)) hI (fun Q k => ?_) (fun S1 h1 Q k => ?_)
      · show E sc mX5_rule 0 [.ref 0, .int (nI 4)] [] S Q
        refine e_iload_n (pc := 0) (i := 1) dX5_rule_0 rfl rfl ?_
        · refine e_table (pc := 1) dX5_rule_1 ⟨72, (Or.inr ⟨by decide, by decide, 71, by decide, by decide⟩), ?_⟩
          refine e_aload_n (pc := 72) (i := 0) dX5_rule_72 rfl rfl ?_
          refine e_getR (pc := 73) dX5_rule_73 (fX5_10 rfl) sh_0 rfl ?_
          refine e_callV0 (pc := 76) (M' := mX0_error) dX5_rule_76 iX0_error lkX5_114 (by decide) (rO_obj sh_1 rfl) (Nat.le_of_ble_eq_true rfl) (Nat.le_of_ble_eq_true rfl) ?_
          refine sp_error r1 hv hr (by omega) ?_
          refine e_iret (pc := 79) (st := []) (ty := .int) dX5_rule_79 rfl rfl ?_
          exact k _ Same.rf
      · show E sc mX6_rule 0 [.ref 54, .int (nI 4), .null, .null] [] S1 Q
        have hp := h1.pg (by omega) hv hp
        have hr := h1.row (by omega) hr
        refine e_iconst' (pc := 0) (nI 0) dX6_rule_0 (by decide) ?_
        refine e_istore_n (pc := 1) (i := 2) dX6_rule_1 rfl (by decide) rfl ?_
        refine e_iconst' (pc := 2) (nI 0) dX6_rule_2 (by decide) ?_
        refine e_istore_n (pc := 3) (i := 3) dX6_rule_3 rfl (by decide) rfl ?_
        refine lp_rule hv hp ?_ (R 20 + 1) 0 (by omega) (by omega)
        refine e_iload_n (pc := 40) (i := 1) dX6_rule_40 rfl rfl ?_
        · refine e_table (pc := 41) dX6_rule_41 ⟨108, (Or.inr ⟨by decide, by decide, 67, by decide, by decide⟩), ?_⟩
          refine e_aload_n (pc := 108) (i := 0) dX6_rule_108 rfl rfl ?_
          refine e_iconst' (pc := 109) (nI 0) dX6_rule_109 (by decide) ?_
          refine e_callV1 (pc := 110) (M' := mX6_errorOn) dX6_rule_110 iX6_errorOn lkX6_141 (by decide) (rO_obj sh_54 rfl) (Nat.le_of_ble_eq_true rfl) (Nat.le_of_ble_eq_true rfl) ?_
          refine sp_errorOn (p := 0) (by omega) hv hp (by omega) ?_
          refine e_iret (pc := 113) (st := []) (ty := .int) dX6_rule_113 rfl rfl ?_
          exact k _ Same.rf
    · refine ask_both (nI (cb R (R 20))) hI (fun Q k => ?_) (fun S1 h1 Q k => ?_)
      · show E sc mX5_rule 0 [.ref 0, .int (nI 5)] [] S Q
        refine e_iload_n (pc := 0) (i := 1) dX5_rule_0 rfl rfl ?_
        · refine e_table (pc := 1) dX5_rule_1 ⟨80, (Or.inr ⟨by decide, by decide, 79, by decide, by decide⟩), ?_⟩
          refine e_aload_n (pc := 80) (i := 0) dX5_rule_80 rfl rfl ?_
          refine e_getR (pc := 81) dX5_rule_81 (fX5_10 rfl) sh_0 rfl ?_
          refine e_callV0 (pc := 84) (M' := mX0_carrying) dX5_rule_84 iX0_carrying lkX5_117 (by decide) (rO_obj sh_1 rfl) (Nat.le_of_ble_eq_true rfl) (Nat.le_of_ble_eq_true rfl) ?_
          refine sp_carrying r1 hv hr ?_
          refine e_iret (pc := 87) (st := []) (ty := .int) dX5_rule_87 rfl rfl ?_
          exact k _ Same.rf
      · show E sc mX6_rule 0 [.ref 54, .int (nI 5), .null, .null] [] S1 Q
        have hp := h1.pg (by omega) hv hp
        have hr := h1.row (by omega) hr
        refine e_iconst' (pc := 0) (nI 0) dX6_rule_0 (by decide) ?_
        refine e_istore_n (pc := 1) (i := 2) dX6_rule_1 rfl (by decide) rfl ?_
        refine e_iconst' (pc := 2) (nI 0) dX6_rule_2 (by decide) ?_
        refine e_istore_n (pc := 3) (i := 3) dX6_rule_3 rfl (by decide) rfl ?_
        refine lp_rule hv hp ?_ (R 20 + 1) 0 (by omega) (by omega)
        refine e_iload_n (pc := 40) (i := 1) dX6_rule_40 rfl rfl ?_
        · refine e_table (pc := 41) dX6_rule_41 ⟨114, (Or.inr ⟨by decide, by decide, 73, by decide, by decide⟩), ?_⟩
          refine e_iload_n (pc := 114) (i := 2) dX6_rule_114 rfl rfl ?_
          refine e_iret (pc := 115) (st := []) (ty := .int) dX6_rule_115 rfl rfl ?_
          exact k _ Same.rf
  · refine ask_both (-1) hI (fun Q k => ?_) (fun S1 h1 Q k => ?_)
    · show E sc mX5_rule 0 [.ref 0, .int x] [] S Q
      refine e_iload_n (pc := 0) (i := 1) dX5_rule_0 rfl rfl ?_
      · refine e_table (pc := 1) dX5_rule_1 ⟨88, (Or.inl ⟨out_of hn, by decide⟩), ?_⟩
        refine e_iconst' (pc := 88) (-1) dX5_rule_88 (by decide) ?_
        refine e_iret (pc := 89) (st := []) (ty := .int) dX5_rule_89 rfl rfl ?_
        exact k _ Same.rf
    · show E sc mX6_rule 0 [.ref 54, .int x, .null, .null] [] S1 Q
      have hp := h1.pg (by omega) hv hp
      have hr := h1.row (by omega) hr
      refine e_iconst' (pc := 0) (nI 0) dX6_rule_0 (by decide) ?_
      refine e_istore_n (pc := 1) (i := 2) dX6_rule_1 rfl (by decide) rfl ?_
      refine e_iconst' (pc := 2) (nI 0) dX6_rule_2 (by decide) ?_
      refine e_istore_n (pc := 3) (i := 3) dX6_rule_3 rfl (by decide) rfl ?_
      refine lp_rule hv hp ?_ (R 20 + 1) 0 (by omega) (by omega)
      refine e_iload_n (pc := 40) (i := 1) dX6_rule_40 rfl rfl ?_
      · refine e_table (pc := 41) dX6_rule_41 ⟨116, (Or.inl ⟨out_of hn, by decide⟩), ?_⟩
        refine e_iconst' (pc := 116) (-1) dX6_rule_116 (by decide) ?_
        refine e_iret (pc := 117) (st := []) (ty := .int) dX6_rule_117 rfl rfl ?_
        exact k _ Same.rf
theorem nin_ne {x : Int32} {lo hi b : Nat} (h : ¬ inr x lo hi) (h1 : lo ≤ b) (h2 : b ≤ hi) : ¬ x = nI b := fun e => h ⟨b, e, h1, h2⟩
theorem nin_sub {x : Int32} {lo hi lo2 hi2 : Nat} (h : ¬ inr x lo hi) (h1 : lo ≤ lo2) (h2 : hi2 ≤ hi) : ¬ inr x lo2 hi2 := fun ⟨b, e, a, c⟩ => h ⟨b, e, by omega, by omega⟩
theorem b_wheel {sc : PSc} {S : PS} (hI : InvS S) (w x : Int32) : Bth sc mX5_wheel mX6_wheel [.int w, .int x] S := by
  obtain ⟨R, hv, hc, hr, hp⟩ := hI.1
  have hv5 := hv.1
  rcases Classical.em (inw w (R 20)) with ⟨j, rfl, hw⟩ | hn
  · have ⟨hk4, ht2, ht12, hdt, hbr⟩ := hv.2 j hw
    rcases Classical.em (inr x 0 4) with ⟨a, rfl, -, ha⟩ | hn
    · rcases (show a = 0 ∨ a = 1 ∨ a = 2 ∨ a = 3 ∨ a = 4 by omega) with rfl | rfl | rfl | rfl | rfl
      · refine ask_both (nI (R j)) hI (fun Q k => ?_) (fun S1 h1 Q k => ?_)
        · show E sc mX5_wheel 0 [.ref 0, .int (nI j), .int (nI 0)] [] S Q
          refine e_aload_n (pc := 0) (i := 0) dX5_wheel_0 rfl rfl ?_
          refine e_getR (pc := 1) dX5_wheel_1 (fX5_10 rfl) sh_0 rfl ?_
          refine e_iload_n (pc := 4) (i := 1) dX5_wheel_4 rfl rfl ?_
          refine e_callV1 (pc := 5) (M' := mX0_has) dX5_wheel_5 iX0_has lkX5_120 (by decide) (rO_obj sh_1 rfl) (Nat.le_of_ble_eq_true rfl) (Nat.le_of_ble_eq_true rfl) ?_
          refine sp_hasY r1 hv hr hw ?_
          refine e_if_ne (pc := 8) (tgt := 13) dX5_wheel_8 (by decide) (fun h8 => ?_) (fun h8 => absurd h8 (by decide))
          refine e_iload_n (pc := 13) (i := 2) dX5_wheel_13 rfl rfl ?_
          refine e_iconst' (pc := 14) (nI 4) dX5_wheel_14 (by decide) ?_
          refine e_icmp_ne (pc := 15) (tgt := 27) dX5_wheel_15 (by decide) (fun h15 => ?_) (fun h15 => absurd h15 (by decide))
          refine e_iload_n (pc := 27) (i := 2) dX5_wheel_27 rfl rfl ?_
          refine e_iconst' (pc := 28) (nI 0) dX5_wheel_28 (by decide) ?_
          refine e_iconst' (pc := 29) (nI 3) dX5_wheel_29 (by decide) ?_
          refine e_callS3 (pc := 30) (M' := mX5_within) dX5_wheel_30 jX5_within lkX5_70 (by decide) (Nat.le_of_ble_eq_true rfl) (Nat.le_of_ble_eq_true rfl) ?_
          refine sp_winY (by omega) (by omega) (by omega) ?_
          refine e_if_eq (pc := 33) (tgt := 48) dX5_wheel_33 (by decide) (fun h33 => absurd h33 (by decide)) (fun h33 => ?_)
          refine e_aload_n (pc := 36) (i := 0) dX5_wheel_36 rfl rfl ?_
          refine e_getR (pc := 37) dX5_wheel_37 (fX5_10 rfl) sh_0 rfl ?_
          refine e_iload_n (pc := 40) (i := 1) dX5_wheel_40 rfl rfl ?_
          refine e_iload_n (pc := 41) (i := 2) dX5_wheel_41 rfl rfl ?_
          refine e_callV2 (pc := 42) (M' := mX0_part) dX5_wheel_42 iX0_part lkX5_128 (by decide) (rO_obj sh_1 rfl) (Nat.le_of_ble_eq_true rfl) (Nat.le_of_ble_eq_true rfl) ?_
          refine sp_part r1 hv hr hw (by omega) ?_
          refine e_goto (pc := 45) (tgt := 49) dX5_wheel_45 (by decide) ?_
          refine e_iret (pc := 49) (st := []) (ty := .int) dX5_wheel_49 rfl rfl ?_
          exact (by simpa using k _ Same.rf)
        · show E sc mX6_wheel 0 [.ref 54, .int (nI j), .int (nI 0)] [] S1 Q
          have hp := h1.pg (by omega) hv hp
          have hr := h1.row (by omega) hr
          refine e_aload_n (pc := 0) (i := 0) dX6_wheel_0 rfl rfl ?_
          refine e_iload_n (pc := 1) (i := 1) dX6_wheel_1 rfl rfl ?_
          refine e_callV1 (pc := 2) (M' := mX6_isWheel) dX6_wheel_2 iX6_isWheel lkX6_144 (by decide) (rO_obj sh_54 rfl) (Nat.le_of_ble_eq_true rfl) (Nat.le_of_ble_eq_true rfl) ?_
          refine sp_isWheelY hv hp hw ?_
          refine e_if_eq (pc := 5) (tgt := 20) dX6_wheel_5 (by decide) (fun h5 => absurd h5 (by decide)) (fun h5 => ?_)
          refine e_iload_n (pc := 8) (i := 2) dX6_wheel_8 rfl rfl ?_
          refine e_i2l (pc := 9) dX6_wheel_9 ?_
          refine e_lconst' (pc := 10) (lN 0) dX6_wheel_10 (by decide) ?_
          refine e_ldc2 (pc := 11) dX6_wheel_11 (klX6_99 rfl) ?_
          refine e_callS3 (pc := 14) (M' := mX6_in) dX6_wheel_14 jX6_in lkX6_46 (by decide) (Nat.le_of_ble_eq_true rfl) (Nat.le_of_ble_eq_true rfl) ?_
          refine sp_inY (lo := 0) (hi := 4) (by decide) (by decide) (by omega) (by omega) (by omega) ?_
          refine e_if_ne (pc := 17) (tgt := 22) dX6_wheel_17 (by decide) (fun h17 => ?_) (fun h17 => absurd h17 (by decide))
          refine e_iload_n (pc := 22) (i := 2) dX6_wheel_22 rfl rfl ?_
          refine e_iconst' (pc := 23) (nI 3) dX6_wheel_23 (by decide) ?_
          refine e_icmp_ge (pc := 24) (tgt := 40) dX6_wheel_24 (by decide) (fun h24 => absurd h24 (by decide)) (fun h24 => ?_)
          refine e_aload_n (pc := 27) (i := 0) dX6_wheel_27 rfl rfl ?_
          refine e_getR (pc := 28) dX6_wheel_28 (fX6_7 rfl) sh_54 rfl ?_
          refine e_iconst' (pc := 31) (nI 5) dX6_wheel_31 (by decide) ?_
          refine e_iload_n (pc := 32) (i := 2) dX6_wheel_32 rfl rfl ?_
          refine e_imul (pc := 33) dX6_wheel_33 ?_
          refine E.it (nI 0) (pk_mul _ _) ?_
          refine e_iload_n (pc := 34) (i := 1) dX6_wheel_34 rfl rfl ?_
          refine e_iadd (pc := 35) dX6_wheel_35 ?_
          refine E.it (nI (0 + j)) (nI_add _ _) ?_
          refine e_iald (pc := 36) dX6_wheel_36 sh_55 (vp_in_nI (by omega) (by omega)) ?_
          refine E.it (nI (R j)) (by rw [nI_clamp (by omega)]; have := (hp.2.2 j hw).1; simpa using this) ?_
          refine e_goto (pc := 37) (tgt := 66) dX6_wheel_37 (by decide) ?_
          refine e_iret (pc := 66) (st := []) (ty := .int) dX6_wheel_66 rfl rfl ?_
          exact k _ Same.rf
      · refine ask_both (nI (R (5 + j))) hI (fun Q k => ?_) (fun S1 h1 Q k => ?_)
        · show E sc mX5_wheel 0 [.ref 0, .int (nI j), .int (nI 1)] [] S Q
          refine e_aload_n (pc := 0) (i := 0) dX5_wheel_0 rfl rfl ?_
          refine e_getR (pc := 1) dX5_wheel_1 (fX5_10 rfl) sh_0 rfl ?_
          refine e_iload_n (pc := 4) (i := 1) dX5_wheel_4 rfl rfl ?_
          refine e_callV1 (pc := 5) (M' := mX0_has) dX5_wheel_5 iX0_has lkX5_120 (by decide) (rO_obj sh_1 rfl) (Nat.le_of_ble_eq_true rfl) (Nat.le_of_ble_eq_true rfl) ?_
          refine sp_hasY r1 hv hr hw ?_
          refine e_if_ne (pc := 8) (tgt := 13) dX5_wheel_8 (by decide) (fun h8 => ?_) (fun h8 => absurd h8 (by decide))
          refine e_iload_n (pc := 13) (i := 2) dX5_wheel_13 rfl rfl ?_
          refine e_iconst' (pc := 14) (nI 4) dX5_wheel_14 (by decide) ?_
          refine e_icmp_ne (pc := 15) (tgt := 27) dX5_wheel_15 (by decide) (fun h15 => ?_) (fun h15 => absurd h15 (by decide))
          refine e_iload_n (pc := 27) (i := 2) dX5_wheel_27 rfl rfl ?_
          refine e_iconst' (pc := 28) (nI 0) dX5_wheel_28 (by decide) ?_
          refine e_iconst' (pc := 29) (nI 3) dX5_wheel_29 (by decide) ?_
          refine e_callS3 (pc := 30) (M' := mX5_within) dX5_wheel_30 jX5_within lkX5_70 (by decide) (Nat.le_of_ble_eq_true rfl) (Nat.le_of_ble_eq_true rfl) ?_
          refine sp_winY (by omega) (by omega) (by omega) ?_
          refine e_if_eq (pc := 33) (tgt := 48) dX5_wheel_33 (by decide) (fun h33 => absurd h33 (by decide)) (fun h33 => ?_)
          refine e_aload_n (pc := 36) (i := 0) dX5_wheel_36 rfl rfl ?_
          refine e_getR (pc := 37) dX5_wheel_37 (fX5_10 rfl) sh_0 rfl ?_
          refine e_iload_n (pc := 40) (i := 1) dX5_wheel_40 rfl rfl ?_
          refine e_iload_n (pc := 41) (i := 2) dX5_wheel_41 rfl rfl ?_
          refine e_callV2 (pc := 42) (M' := mX0_part) dX5_wheel_42 iX0_part lkX5_128 (by decide) (rO_obj sh_1 rfl) (Nat.le_of_ble_eq_true rfl) (Nat.le_of_ble_eq_true rfl) ?_
          refine sp_part r1 hv hr hw (by omega) ?_
          refine e_goto (pc := 45) (tgt := 49) dX5_wheel_45 (by decide) ?_
          refine e_iret (pc := 49) (st := []) (ty := .int) dX5_wheel_49 rfl rfl ?_
          exact (by simpa using k _ Same.rf)
        · show E sc mX6_wheel 0 [.ref 54, .int (nI j), .int (nI 1)] [] S1 Q
          have hp := h1.pg (by omega) hv hp
          have hr := h1.row (by omega) hr
          refine e_aload_n (pc := 0) (i := 0) dX6_wheel_0 rfl rfl ?_
          refine e_iload_n (pc := 1) (i := 1) dX6_wheel_1 rfl rfl ?_
          refine e_callV1 (pc := 2) (M' := mX6_isWheel) dX6_wheel_2 iX6_isWheel lkX6_144 (by decide) (rO_obj sh_54 rfl) (Nat.le_of_ble_eq_true rfl) (Nat.le_of_ble_eq_true rfl) ?_
          refine sp_isWheelY hv hp hw ?_
          refine e_if_eq (pc := 5) (tgt := 20) dX6_wheel_5 (by decide) (fun h5 => absurd h5 (by decide)) (fun h5 => ?_)
          refine e_iload_n (pc := 8) (i := 2) dX6_wheel_8 rfl rfl ?_
          refine e_i2l (pc := 9) dX6_wheel_9 ?_
          refine e_lconst' (pc := 10) (lN 0) dX6_wheel_10 (by decide) ?_
          refine e_ldc2 (pc := 11) dX6_wheel_11 (klX6_99 rfl) ?_
          refine e_callS3 (pc := 14) (M' := mX6_in) dX6_wheel_14 jX6_in lkX6_46 (by decide) (Nat.le_of_ble_eq_true rfl) (Nat.le_of_ble_eq_true rfl) ?_
          refine sp_inY (lo := 0) (hi := 4) (by decide) (by decide) (by omega) (by omega) (by omega) ?_
          refine e_if_ne (pc := 17) (tgt := 22) dX6_wheel_17 (by decide) (fun h17 => ?_) (fun h17 => absurd h17 (by decide))
          refine e_iload_n (pc := 22) (i := 2) dX6_wheel_22 rfl rfl ?_
          refine e_iconst' (pc := 23) (nI 3) dX6_wheel_23 (by decide) ?_
          refine e_icmp_ge (pc := 24) (tgt := 40) dX6_wheel_24 (by decide) (fun h24 => absurd h24 (by decide)) (fun h24 => ?_)
          refine e_aload_n (pc := 27) (i := 0) dX6_wheel_27 rfl rfl ?_
          refine e_getR (pc := 28) dX6_wheel_28 (fX6_7 rfl) sh_54 rfl ?_
          refine e_iconst' (pc := 31) (nI 5) dX6_wheel_31 (by decide) ?_
          refine e_iload_n (pc := 32) (i := 2) dX6_wheel_32 rfl rfl ?_
          refine e_imul (pc := 33) dX6_wheel_33 ?_
          refine E.it (nI 5) (pk_mul _ _) ?_
          refine e_iload_n (pc := 34) (i := 1) dX6_wheel_34 rfl rfl ?_
          refine e_iadd (pc := 35) dX6_wheel_35 ?_
          refine E.it (nI (5 + j)) (nI_add _ _) ?_
          refine e_iald (pc := 36) dX6_wheel_36 sh_55 (vp_in_nI (by omega) (by omega)) ?_
          refine E.it (nI (R (5 + j))) (by rw [nI_clamp (by omega)]; have := (hp.2.2 j hw).2.1; simpa using this) ?_
          refine e_goto (pc := 37) (tgt := 66) dX6_wheel_37 (by decide) ?_
          refine e_iret (pc := 66) (st := []) (ty := .int) dX6_wheel_66 rfl rfl ?_
          exact k _ Same.rf
      · refine ask_both (nI (R (10 + j))) hI (fun Q k => ?_) (fun S1 h1 Q k => ?_)
        · show E sc mX5_wheel 0 [.ref 0, .int (nI j), .int (nI 2)] [] S Q
          refine e_aload_n (pc := 0) (i := 0) dX5_wheel_0 rfl rfl ?_
          refine e_getR (pc := 1) dX5_wheel_1 (fX5_10 rfl) sh_0 rfl ?_
          refine e_iload_n (pc := 4) (i := 1) dX5_wheel_4 rfl rfl ?_
          refine e_callV1 (pc := 5) (M' := mX0_has) dX5_wheel_5 iX0_has lkX5_120 (by decide) (rO_obj sh_1 rfl) (Nat.le_of_ble_eq_true rfl) (Nat.le_of_ble_eq_true rfl) ?_
          refine sp_hasY r1 hv hr hw ?_
          refine e_if_ne (pc := 8) (tgt := 13) dX5_wheel_8 (by decide) (fun h8 => ?_) (fun h8 => absurd h8 (by decide))
          refine e_iload_n (pc := 13) (i := 2) dX5_wheel_13 rfl rfl ?_
          refine e_iconst' (pc := 14) (nI 4) dX5_wheel_14 (by decide) ?_
          refine e_icmp_ne (pc := 15) (tgt := 27) dX5_wheel_15 (by decide) (fun h15 => ?_) (fun h15 => absurd h15 (by decide))
          refine e_iload_n (pc := 27) (i := 2) dX5_wheel_27 rfl rfl ?_
          refine e_iconst' (pc := 28) (nI 0) dX5_wheel_28 (by decide) ?_
          refine e_iconst' (pc := 29) (nI 3) dX5_wheel_29 (by decide) ?_
          refine e_callS3 (pc := 30) (M' := mX5_within) dX5_wheel_30 jX5_within lkX5_70 (by decide) (Nat.le_of_ble_eq_true rfl) (Nat.le_of_ble_eq_true rfl) ?_
          refine sp_winY (by omega) (by omega) (by omega) ?_
          refine e_if_eq (pc := 33) (tgt := 48) dX5_wheel_33 (by decide) (fun h33 => absurd h33 (by decide)) (fun h33 => ?_)
          refine e_aload_n (pc := 36) (i := 0) dX5_wheel_36 rfl rfl ?_
          refine e_getR (pc := 37) dX5_wheel_37 (fX5_10 rfl) sh_0 rfl ?_
          refine e_iload_n (pc := 40) (i := 1) dX5_wheel_40 rfl rfl ?_
          refine e_iload_n (pc := 41) (i := 2) dX5_wheel_41 rfl rfl ?_
          refine e_callV2 (pc := 42) (M' := mX0_part) dX5_wheel_42 iX0_part lkX5_128 (by decide) (rO_obj sh_1 rfl) (Nat.le_of_ble_eq_true rfl) (Nat.le_of_ble_eq_true rfl) ?_
          refine sp_part r1 hv hr hw (by omega) ?_
          refine e_goto (pc := 45) (tgt := 49) dX5_wheel_45 (by decide) ?_
          refine e_iret (pc := 49) (st := []) (ty := .int) dX5_wheel_49 rfl rfl ?_
          exact (by simpa using k _ Same.rf)
        · show E sc mX6_wheel 0 [.ref 54, .int (nI j), .int (nI 2)] [] S1 Q
          have hp := h1.pg (by omega) hv hp
          have hr := h1.row (by omega) hr
          refine e_aload_n (pc := 0) (i := 0) dX6_wheel_0 rfl rfl ?_
          refine e_iload_n (pc := 1) (i := 1) dX6_wheel_1 rfl rfl ?_
          refine e_callV1 (pc := 2) (M' := mX6_isWheel) dX6_wheel_2 iX6_isWheel lkX6_144 (by decide) (rO_obj sh_54 rfl) (Nat.le_of_ble_eq_true rfl) (Nat.le_of_ble_eq_true rfl) ?_
          refine sp_isWheelY hv hp hw ?_
          refine e_if_eq (pc := 5) (tgt := 20) dX6_wheel_5 (by decide) (fun h5 => absurd h5 (by decide)) (fun h5 => ?_)
          refine e_iload_n (pc := 8) (i := 2) dX6_wheel_8 rfl rfl ?_
          refine e_i2l (pc := 9) dX6_wheel_9 ?_
          refine e_lconst' (pc := 10) (lN 0) dX6_wheel_10 (by decide) ?_
          refine e_ldc2 (pc := 11) dX6_wheel_11 (klX6_99 rfl) ?_
          refine e_callS3 (pc := 14) (M' := mX6_in) dX6_wheel_14 jX6_in lkX6_46 (by decide) (Nat.le_of_ble_eq_true rfl) (Nat.le_of_ble_eq_true rfl) ?_
          refine sp_inY (lo := 0) (hi := 4) (by decide) (by decide) (by omega) (by omega) (by omega) ?_
          refine e_if_ne (pc := 17) (tgt := 22) dX6_wheel_17 (by decide) (fun h17 => ?_) (fun h17 => absurd h17 (by decide))
          refine e_iload_n (pc := 22) (i := 2) dX6_wheel_22 rfl rfl ?_
          refine e_iconst' (pc := 23) (nI 3) dX6_wheel_23 (by decide) ?_
          refine e_icmp_ge (pc := 24) (tgt := 40) dX6_wheel_24 (by decide) (fun h24 => absurd h24 (by decide)) (fun h24 => ?_)
          refine e_aload_n (pc := 27) (i := 0) dX6_wheel_27 rfl rfl ?_
          refine e_getR (pc := 28) dX6_wheel_28 (fX6_7 rfl) sh_54 rfl ?_
          refine e_iconst' (pc := 31) (nI 5) dX6_wheel_31 (by decide) ?_
          refine e_iload_n (pc := 32) (i := 2) dX6_wheel_32 rfl rfl ?_
          refine e_imul (pc := 33) dX6_wheel_33 ?_
          refine E.it (nI 10) (pk_mul _ _) ?_
          refine e_iload_n (pc := 34) (i := 1) dX6_wheel_34 rfl rfl ?_
          refine e_iadd (pc := 35) dX6_wheel_35 ?_
          refine E.it (nI (10 + j)) (nI_add _ _) ?_
          refine e_iald (pc := 36) dX6_wheel_36 sh_55 (vp_in_nI (by omega) (by omega)) ?_
          refine E.it (nI (R (10 + j))) (by rw [nI_clamp (by omega)]; have := (hp.2.2 j hw).2.2.1; simpa using this) ?_
          refine e_goto (pc := 37) (tgt := 66) dX6_wheel_37 (by decide) ?_
          refine e_iret (pc := 66) (st := []) (ty := .int) dX6_wheel_66 rfl rfl ?_
          exact k _ Same.rf
      · refine ask_both (nI (R (15 + j))) hI (fun Q k => ?_) (fun S1 h1 Q k => ?_)
        · show E sc mX5_wheel 0 [.ref 0, .int (nI j), .int (nI 3)] [] S Q
          refine e_aload_n (pc := 0) (i := 0) dX5_wheel_0 rfl rfl ?_
          refine e_getR (pc := 1) dX5_wheel_1 (fX5_10 rfl) sh_0 rfl ?_
          refine e_iload_n (pc := 4) (i := 1) dX5_wheel_4 rfl rfl ?_
          refine e_callV1 (pc := 5) (M' := mX0_has) dX5_wheel_5 iX0_has lkX5_120 (by decide) (rO_obj sh_1 rfl) (Nat.le_of_ble_eq_true rfl) (Nat.le_of_ble_eq_true rfl) ?_
          refine sp_hasY r1 hv hr hw ?_
          refine e_if_ne (pc := 8) (tgt := 13) dX5_wheel_8 (by decide) (fun h8 => ?_) (fun h8 => absurd h8 (by decide))
          refine e_iload_n (pc := 13) (i := 2) dX5_wheel_13 rfl rfl ?_
          refine e_iconst' (pc := 14) (nI 4) dX5_wheel_14 (by decide) ?_
          refine e_icmp_ne (pc := 15) (tgt := 27) dX5_wheel_15 (by decide) (fun h15 => ?_) (fun h15 => absurd h15 (by decide))
          refine e_iload_n (pc := 27) (i := 2) dX5_wheel_27 rfl rfl ?_
          refine e_iconst' (pc := 28) (nI 0) dX5_wheel_28 (by decide) ?_
          refine e_iconst' (pc := 29) (nI 3) dX5_wheel_29 (by decide) ?_
          refine e_callS3 (pc := 30) (M' := mX5_within) dX5_wheel_30 jX5_within lkX5_70 (by decide) (Nat.le_of_ble_eq_true rfl) (Nat.le_of_ble_eq_true rfl) ?_
          refine sp_winY (by omega) (by omega) (by omega) ?_
          refine e_if_eq (pc := 33) (tgt := 48) dX5_wheel_33 (by decide) (fun h33 => absurd h33 (by decide)) (fun h33 => ?_)
          refine e_aload_n (pc := 36) (i := 0) dX5_wheel_36 rfl rfl ?_
          refine e_getR (pc := 37) dX5_wheel_37 (fX5_10 rfl) sh_0 rfl ?_
          refine e_iload_n (pc := 40) (i := 1) dX5_wheel_40 rfl rfl ?_
          refine e_iload_n (pc := 41) (i := 2) dX5_wheel_41 rfl rfl ?_
          refine e_callV2 (pc := 42) (M' := mX0_part) dX5_wheel_42 iX0_part lkX5_128 (by decide) (rO_obj sh_1 rfl) (Nat.le_of_ble_eq_true rfl) (Nat.le_of_ble_eq_true rfl) ?_
          refine sp_part r1 hv hr hw (by omega) ?_
          refine e_goto (pc := 45) (tgt := 49) dX5_wheel_45 (by decide) ?_
          refine e_iret (pc := 49) (st := []) (ty := .int) dX5_wheel_49 rfl rfl ?_
          exact (by simpa using k _ Same.rf)
        · show E sc mX6_wheel 0 [.ref 54, .int (nI j), .int (nI 3)] [] S1 Q
          have hp := h1.pg (by omega) hv hp
          have hr := h1.row (by omega) hr
          refine e_aload_n (pc := 0) (i := 0) dX6_wheel_0 rfl rfl ?_
          refine e_iload_n (pc := 1) (i := 1) dX6_wheel_1 rfl rfl ?_
          refine e_callV1 (pc := 2) (M' := mX6_isWheel) dX6_wheel_2 iX6_isWheel lkX6_144 (by decide) (rO_obj sh_54 rfl) (Nat.le_of_ble_eq_true rfl) (Nat.le_of_ble_eq_true rfl) ?_
          refine sp_isWheelY hv hp hw ?_
          refine e_if_eq (pc := 5) (tgt := 20) dX6_wheel_5 (by decide) (fun h5 => absurd h5 (by decide)) (fun h5 => ?_)
          refine e_iload_n (pc := 8) (i := 2) dX6_wheel_8 rfl rfl ?_
          refine e_i2l (pc := 9) dX6_wheel_9 ?_
          refine e_lconst' (pc := 10) (lN 0) dX6_wheel_10 (by decide) ?_
          refine e_ldc2 (pc := 11) dX6_wheel_11 (klX6_99 rfl) ?_
          refine e_callS3 (pc := 14) (M' := mX6_in) dX6_wheel_14 jX6_in lkX6_46 (by decide) (Nat.le_of_ble_eq_true rfl) (Nat.le_of_ble_eq_true rfl) ?_
          refine sp_inY (lo := 0) (hi := 4) (by decide) (by decide) (by omega) (by omega) (by omega) ?_
          refine e_if_ne (pc := 17) (tgt := 22) dX6_wheel_17 (by decide) (fun h17 => ?_) (fun h17 => absurd h17 (by decide))
          refine e_iload_n (pc := 22) (i := 2) dX6_wheel_22 rfl rfl ?_
          refine e_iconst' (pc := 23) (nI 3) dX6_wheel_23 (by decide) ?_
          refine e_icmp_ge (pc := 24) (tgt := 40) dX6_wheel_24 (by decide) (fun h24 => ?_) (fun h24 => absurd (by decide) h24)
          refine e_iload_n (pc := 40) (i := 2) dX6_wheel_40 rfl rfl ?_
          refine e_iconst' (pc := 41) (nI 3) dX6_wheel_41 (by decide) ?_
          refine e_icmp_ne (pc := 42) (tgt := 60) dX6_wheel_42 (by decide) (fun h42 => absurd (by decide) h42) (fun h42 => ?_)
          refine e_aload_n (pc := 45) (i := 0) dX6_wheel_45 rfl rfl ?_
          refine e_getR (pc := 46) dX6_wheel_46 (fX6_7 rfl) sh_54 rfl ?_
          refine e_bipush' (pc := 49) (nI 15) dX6_wheel_49 (by decide) ?_
          refine e_iload_n (pc := 51) (i := 1) dX6_wheel_51 rfl rfl ?_
          refine e_iadd (pc := 52) dX6_wheel_52 ?_
          refine E.it (nI (15 + j)) (nI_add _ _) ?_
          refine e_iald (pc := 53) dX6_wheel_53 sh_55 (vp_in_nI (by omega) (by omega)) ?_
          refine E.it (nI (R (15 + j)) - nI 12) (by rw [nI_clamp (by omega)]; have := (hp.2.2 j hw).2.2.2; simpa using this) ?_
          refine e_bipush' (pc := 54) (nI 12) dX6_wheel_54 (by decide) ?_
          refine e_iadd (pc := 56) dX6_wheel_56 ?_
          refine E.it (nI (R (15 + j))) b12 ?_
          refine e_goto (pc := 57) (tgt := 66) dX6_wheel_57 (by decide) ?_
          refine e_iret (pc := 66) (st := []) (ty := .int) dX6_wheel_66 rfl rfl ?_
          exact k _ Same.rf
      · refine ask_both (nI (tn R j)) hI (fun Q k => ?_) (fun S1 h1 Q k => ?_)
        · show E sc mX5_wheel 0 [.ref 0, .int (nI j), .int (nI 4)] [] S Q
          refine e_aload_n (pc := 0) (i := 0) dX5_wheel_0 rfl rfl ?_
          refine e_getR (pc := 1) dX5_wheel_1 (fX5_10 rfl) sh_0 rfl ?_
          refine e_iload_n (pc := 4) (i := 1) dX5_wheel_4 rfl rfl ?_
          refine e_callV1 (pc := 5) (M' := mX0_has) dX5_wheel_5 iX0_has lkX5_120 (by decide) (rO_obj sh_1 rfl) (Nat.le_of_ble_eq_true rfl) (Nat.le_of_ble_eq_true rfl) ?_
          refine sp_hasY r1 hv hr hw ?_
          refine e_if_ne (pc := 8) (tgt := 13) dX5_wheel_8 (by decide) (fun h8 => ?_) (fun h8 => absurd h8 (by decide))
          refine e_iload_n (pc := 13) (i := 2) dX5_wheel_13 rfl rfl ?_
          refine e_iconst' (pc := 14) (nI 4) dX5_wheel_14 (by decide) ?_
          refine e_icmp_ne (pc := 15) (tgt := 27) dX5_wheel_15 (by decide) (fun h15 => absurd (by decide) h15) (fun h15 => ?_)
          refine e_aload_n (pc := 18) (i := 0) dX5_wheel_18 rfl rfl ?_
          refine e_getR (pc := 19) dX5_wheel_19 (fX5_10 rfl) sh_0 rfl ?_
          refine e_iload_n (pc := 22) (i := 1) dX5_wheel_22 rfl rfl ?_
          refine e_callV1 (pc := 23) (M' := mX0_nextDigit) dX5_wheel_23 iX0_nextDigit lkX5_124 (by decide) (rO_obj sh_1 rfl) (Nat.le_of_ble_eq_true rfl) (Nat.le_of_ble_eq_true rfl) ?_
          refine sp_nextDigit r1 hv hr hw ?_
          refine e_iret (pc := 26) (st := []) (ty := .int) dX5_wheel_26 rfl rfl ?_
          exact (by simpa using k _ Same.rf)
        · show E sc mX6_wheel 0 [.ref 54, .int (nI j), .int (nI 4)] [] S1 Q
          have hp := h1.pg (by omega) hv hp
          have hr := h1.row (by omega) hr
          refine e_aload_n (pc := 0) (i := 0) dX6_wheel_0 rfl rfl ?_
          refine e_iload_n (pc := 1) (i := 1) dX6_wheel_1 rfl rfl ?_
          refine e_callV1 (pc := 2) (M' := mX6_isWheel) dX6_wheel_2 iX6_isWheel lkX6_144 (by decide) (rO_obj sh_54 rfl) (Nat.le_of_ble_eq_true rfl) (Nat.le_of_ble_eq_true rfl) ?_
          refine sp_isWheelY hv hp hw ?_
          refine e_if_eq (pc := 5) (tgt := 20) dX6_wheel_5 (by decide) (fun h5 => absurd h5 (by decide)) (fun h5 => ?_)
          refine e_iload_n (pc := 8) (i := 2) dX6_wheel_8 rfl rfl ?_
          refine e_i2l (pc := 9) dX6_wheel_9 ?_
          refine e_lconst' (pc := 10) (lN 0) dX6_wheel_10 (by decide) ?_
          refine e_ldc2 (pc := 11) dX6_wheel_11 (klX6_99 rfl) ?_
          refine e_callS3 (pc := 14) (M' := mX6_in) dX6_wheel_14 jX6_in lkX6_46 (by decide) (Nat.le_of_ble_eq_true rfl) (Nat.le_of_ble_eq_true rfl) ?_
          refine sp_inY (lo := 0) (hi := 4) (by decide) (by decide) (by omega) (by omega) (by omega) ?_
          refine e_if_ne (pc := 17) (tgt := 22) dX6_wheel_17 (by decide) (fun h17 => ?_) (fun h17 => absurd h17 (by decide))
          refine e_iload_n (pc := 22) (i := 2) dX6_wheel_22 rfl rfl ?_
          refine e_iconst' (pc := 23) (nI 3) dX6_wheel_23 (by decide) ?_
          refine e_icmp_ge (pc := 24) (tgt := 40) dX6_wheel_24 (by decide) (fun h24 => ?_) (fun h24 => absurd (by decide) h24)
          refine e_iload_n (pc := 40) (i := 2) dX6_wheel_40 rfl rfl ?_
          refine e_iconst' (pc := 41) (nI 3) dX6_wheel_41 (by decide) ?_
          refine e_icmp_ne (pc := 42) (tgt := 60) dX6_wheel_42 (by decide) (fun h42 => ?_) (fun h42 => absurd h42 (by decide))
          refine e_aload_n (pc := 60) (i := 0) dX6_wheel_60 rfl rfl ?_
          refine e_iconst' (pc := 61) (nI 0) dX6_wheel_61 (by decide) ?_
          refine e_iload_n (pc := 62) (i := 1) dX6_wheel_62 rfl rfl ?_
          refine e_callV2 (pc := 63) (M' := mX6_turnsOn) dX6_wheel_63 iX6_turnsOn lkX6_128 (by decide) (rO_obj sh_54 rfl) (Nat.le_of_ble_eq_true rfl) (Nat.le_of_ble_eq_true rfl) ?_
          refine sp_turnsOn (p := 0) (by omega) hv hp hw ?_
          refine e_iret (pc := 66) (st := []) (ty := .int) dX6_wheel_66 rfl rfl ?_
          exact k _ Same.rf
    · refine ask_both (-1) hI (fun Q k => ?_) (fun S1 h1 Q k => ?_)
      · show E sc mX5_wheel 0 [.ref 0, .int (nI j), .int x] [] S Q
        refine e_aload_n (pc := 0) (i := 0) dX5_wheel_0 rfl rfl ?_
        refine e_getR (pc := 1) dX5_wheel_1 (fX5_10 rfl) sh_0 rfl ?_
        refine e_iload_n (pc := 4) (i := 1) dX5_wheel_4 rfl rfl ?_
        refine e_callV1 (pc := 5) (M' := mX0_has) dX5_wheel_5 iX0_has lkX5_120 (by decide) (rO_obj sh_1 rfl) (Nat.le_of_ble_eq_true rfl) (Nat.le_of_ble_eq_true rfl) ?_
        refine sp_hasY r1 hv hr hw ?_
        refine e_if_ne (pc := 8) (tgt := 13) dX5_wheel_8 (by decide) (fun h8 => ?_) (fun h8 => absurd h8 (by decide))
        refine e_iload_n (pc := 13) (i := 2) dX5_wheel_13 rfl rfl ?_
        refine e_iconst' (pc := 14) (nI 4) dX5_wheel_14 (by decide) ?_
        refine e_icmp_ne (pc := 15) (tgt := 27) dX5_wheel_15 (by decide) (fun h15 => ?_) (fun h15 => absurd h15 (nin_ne hn (by omega) (by omega)))
        refine e_iload_n (pc := 27) (i := 2) dX5_wheel_27 rfl rfl ?_
        refine e_iconst' (pc := 28) (nI 0) dX5_wheel_28 (by decide) ?_
        refine e_iconst' (pc := 29) (nI 3) dX5_wheel_29 (by decide) ?_
        refine e_callS3 (pc := 30) (M' := mX5_within) dX5_wheel_30 jX5_within lkX5_70 (by decide) (Nat.le_of_ble_eq_true rfl) (Nat.le_of_ble_eq_true rfl) ?_
        refine sp_winX (nin_sub hn (by omega) (by omega) : ¬ inr x 0 3) (by omega) (by omega) ?_
        refine e_if_eq (pc := 33) (tgt := 48) dX5_wheel_33 (by decide) (fun h33 => ?_) (fun h33 => absurd (by decide) h33)
        refine e_iconst' (pc := 48) (-1) dX5_wheel_48 (by decide) ?_
        refine e_iret (pc := 49) (st := []) (ty := .int) dX5_wheel_49 rfl rfl ?_
        exact k _ Same.rf
      · show E sc mX6_wheel 0 [.ref 54, .int (nI j), .int x] [] S1 Q
        have hp := h1.pg (by omega) hv hp
        have hr := h1.row (by omega) hr
        refine e_aload_n (pc := 0) (i := 0) dX6_wheel_0 rfl rfl ?_
        refine e_iload_n (pc := 1) (i := 1) dX6_wheel_1 rfl rfl ?_
        refine e_callV1 (pc := 2) (M' := mX6_isWheel) dX6_wheel_2 iX6_isWheel lkX6_144 (by decide) (rO_obj sh_54 rfl) (Nat.le_of_ble_eq_true rfl) (Nat.le_of_ble_eq_true rfl) ?_
        refine sp_isWheelY hv hp hw ?_
        refine e_if_eq (pc := 5) (tgt := 20) dX6_wheel_5 (by decide) (fun h5 => absurd h5 (by decide)) (fun h5 => ?_)
        refine e_iload_n (pc := 8) (i := 2) dX6_wheel_8 rfl rfl ?_
        refine e_i2l (pc := 9) dX6_wheel_9 ?_
        refine e_lconst' (pc := 10) (lN 0) dX6_wheel_10 (by decide) ?_
        refine e_ldc2 (pc := 11) dX6_wheel_11 (klX6_99 rfl) ?_
        refine e_callS3 (pc := 14) (M' := mX6_in) dX6_wheel_14 jX6_in lkX6_46 (by decide) (Nat.le_of_ble_eq_true rfl) (Nat.le_of_ble_eq_true rfl) ?_
        refine sp_inX (lo := 0) (hi := 4) (by decide) (by decide) hn ?_
        refine e_if_ne (pc := 17) (tgt := 22) dX6_wheel_17 (by decide) (fun h17 => absurd (by decide) h17) (fun h17 => ?_)
        refine e_iconst' (pc := 20) (-1) dX6_wheel_20 (by decide) ?_
        refine e_iret (pc := 21) (st := []) (ty := .int) dX6_wheel_21 rfl rfl ?_
        exact k _ Same.rf
  · refine ask_both (-1) hI (fun Q k => ?_) (fun S1 h1 Q k => ?_)
    · show E sc mX5_wheel 0 [.ref 0, .int w, .int x] [] S Q
      refine e_aload_n (pc := 0) (i := 0) dX5_wheel_0 rfl rfl ?_
      refine e_getR (pc := 1) dX5_wheel_1 (fX5_10 rfl) sh_0 rfl ?_
      refine e_iload_n (pc := 4) (i := 1) dX5_wheel_4 rfl rfl ?_
      refine e_callV1 (pc := 5) (M' := mX0_has) dX5_wheel_5 iX0_has lkX5_120 (by decide) (rO_obj sh_1 rfl) (Nat.le_of_ble_eq_true rfl) (Nat.le_of_ble_eq_true rfl) ?_
      refine sp_hasX r1 hv hr hn ?_
      refine e_if_ne (pc := 8) (tgt := 13) dX5_wheel_8 (by decide) (fun h8 => absurd (by decide) h8) (fun h8 => ?_)
      refine e_iconst' (pc := 11) (-1) dX5_wheel_11 (by decide) ?_
      refine e_iret (pc := 12) (st := []) (ty := .int) dX5_wheel_12 rfl rfl ?_
      exact k _ Same.rf
    · show E sc mX6_wheel 0 [.ref 54, .int w, .int x] [] S1 Q
      have hp := h1.pg (by omega) hv hp
      have hr := h1.row (by omega) hr
      refine e_aload_n (pc := 0) (i := 0) dX6_wheel_0 rfl rfl ?_
      refine e_iload_n (pc := 1) (i := 1) dX6_wheel_1 rfl rfl ?_
      refine e_callV1 (pc := 2) (M' := mX6_isWheel) dX6_wheel_2 iX6_isWheel lkX6_144 (by decide) (rO_obj sh_54 rfl) (Nat.le_of_ble_eq_true rfl) (Nat.le_of_ble_eq_true rfl) ?_
      refine sp_isWheelX hv hp hn ?_
      refine e_if_eq (pc := 5) (tgt := 20) dX6_wheel_5 (by decide) (fun h5 => ?_) (fun h5 => absurd (by decide) h5)
      refine e_iconst' (pc := 20) (-1) dX6_wheel_20 (by decide) ?_
      refine e_iret (pc := 21) (st := []) (ty := .int) dX6_wheel_21 rfl rfl ?_
      exact k _ Same.rf

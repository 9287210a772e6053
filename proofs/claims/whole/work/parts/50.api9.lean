theorem b12_ge {b : Nat} (h : b ≤ 12) : (0 ≤ nI b - nI 12) ↔ b = 12 := by
  have e1 : (nI b).toInt = (b : Int) := nI_toInt (by omega)
  have e2 : (nI 12).toInt = 12 := by decide
  rw [fa_le, fb_subI (by rw [e1, e2]; omega) (by rw [e1, e2]; omega), e1, e2]
  show (0 : Int) ≤ (b : Int) - 12 ↔ b = 12
  omega
theorem lm_count {sc : PSc} {R : Rw} {S : PS} {Q : PQ} {x : Int32} (hv : Vd R) (hp : PgAt S 0 R) (k : E sc mX6_count 58 [.ref 54, .int x, .int (nI (ts R (R 20))), .int (nI (bs R (R 20))), .int (nI (R 20))] [] S Q) : ∀ (n j : Nat), j ≤ R 20 → R 20 - j < n → E sc mX6_count 7 [.ref 54, .int x, .int (nI (ts R j)), .int (nI (bs R j)), .int (nI j)] [] S Q := by
  intro n
  induction n with
  | zero => intro j hj hn; exact absurd hn (by omega)
  | succ n ih =>
    intro j hj hn
    have h5 := hv.1
    refine e_iload (pc := 7) dX6_count_7 rfl ?_
    refine e_aload_n (pc := 9) (i := 0) dX6_count_9 rfl rfl ?_
    refine e_getR (pc := 10) dX6_count_10 (fX6_7 rfl) sh_54 rfl ?_
    refine e_bipush' (pc := 13) (nI 20) dX6_count_13 (by decide) ?_
    refine e_iald (pc := 15) dX6_count_15 sh_55 (vp_in_nI (by omega) (by omega)) ?_
    refine E.it (nI (R (20))) (pgn (p := 0) (by omega) hp) ?_
    refine e_icmp_ge (pc := 16) (tgt := 58) dX6_count_16 (by decide) (fun h16 => ?_) (fun h16 => ?_)
    · replace h16 := (nI_leI (by omega) (by omega)).mp h16
      obtain e : j = R 20 := by omega
      rw [e]; exact k
    · replace h16 := mt (nI_leI (by omega) (by omega)).mpr h16
      have hw : j < R 20 := by omega
      have hvw := hv.2 j hw
      have hih := ih (j + 1) (by omega) (by omega)
      rw [ts, bs] at hih
      refine e_iload_n (pc := 19) (i := 2) dX6_count_19 rfl rfl ?_
      refine e_aload_n (pc := 20) (i := 0) dX6_count_20 rfl rfl ?_
      refine e_getR (pc := 21) dX6_count_21 (fX6_7 rfl) sh_54 rfl ?_
      refine e_iconst' (pc := 24) (nI 5) dX6_count_24 (by decide) ?_
      refine e_iload (pc := 25) dX6_count_25 rfl ?_
      refine e_iadd (pc := 27) dX6_count_27 ?_
      refine E.it (nI (5 + j)) (nI_add _ _) ?_
      refine e_iald (pc := 28) dX6_count_28 sh_55 (vp_in_nI (by omega) (by omega)) ?_
      refine E.it (nI (R (5 + j))) (by rw [nI_clamp (by omega)]; have := (hp.2.2 j hw).2.1; simpa using this) ?_
      refine e_iadd (pc := 29) dX6_count_29 ?_
      refine E.it (nI (ts R j + R (5 + j))) (nI_add _ _) ?_
      refine e_istore_n (pc := 30) (i := 2) dX6_count_30 rfl (by decide) rfl ?_
      refine e_iload_n (pc := 31) (i := 3) dX6_count_31 rfl rfl ?_
      refine e_aload_n (pc := 32) (i := 0) dX6_count_32 rfl rfl ?_
      refine e_getR (pc := 33) dX6_count_33 (fX6_7 rfl) sh_54 rfl ?_
      refine e_bipush' (pc := 36) (nI 15) dX6_count_36 (by decide) ?_
      refine e_iload (pc := 38) dX6_count_38 rfl ?_
      refine e_iadd (pc := 40) dX6_count_40 ?_
      refine E.it (nI (15 + j)) (nI_add _ _) ?_
      refine e_iald (pc := 41) dX6_count_41 sh_55 (vp_in_nI (by omega) (by omega)) ?_
      refine E.it (nI (R (15 + j)) - nI 12) (by rw [nI_clamp (by omega)]; have := (hp.2.2 j hw).2.2.2; simpa using this) ?_
      refine e_if_ge (pc := 42) (tgt := 49) dX6_count_42 (by decide) (fun h42 => ?_) (fun h42 => ?_)
      · rw [b12_ge (by omega)] at h42
        rw [if_pos h42] at hih
        refine e_iconst' (pc := 49) (nI 0) dX6_count_49 (by decide) ?_
        refine e_iadd (pc := 50) dX6_count_50 ?_
        refine E.it (nI (bs R j + 0)) (nI_add _ _) ?_
        refine e_istore_n (pc := 51) (i := 3) dX6_count_51 rfl (by decide) rfl ?_
        refine e_iinc' (pc := 52) (nI (j + 1)) dX6_count_52 rfl (by decide) rfl (nI_1 _) ?_
        refine e_goto (pc := 55) (tgt := 7) dX6_count_55 (by decide) ?_
        exact hih
      · rw [b12_ge (by omega)] at h42
        rw [if_neg h42] at hih
        refine e_iconst' (pc := 45) (nI 1) dX6_count_45 (by decide) ?_
        refine e_goto (pc := 46) (tgt := 50) dX6_count_46 (by decide) ?_
        refine e_iadd (pc := 50) dX6_count_50 ?_
        refine E.it (nI (bs R j + 1)) (nI_add _ _) ?_
        refine e_istore_n (pc := 51) (i := 3) dX6_count_51 rfl (by decide) rfl ?_
        refine e_iinc' (pc := 52) (nI (j + 1)) dX6_count_52 rfl (by decide) rfl (nI_1 _) ?_
        refine e_goto (pc := 55) (tgt := 7) dX6_count_55 (by decide) ?_
        exact hih
theorem b_count {sc : PSc} {S : PS} (hI : InvS S) (x : Int32) : Bth sc mX5_count mX6_count [.int x] S := by
  obtain ⟨R, hv, hc, hr, hp⟩ := hI.1
  obtain ⟨tn0, tp, hn160, t23, t54, -⟩ := hI.2.2.1
  obtain ⟨sn, sp, sv, hn6, t26, t18, -⟩ := hI.2.2.2.2.1
  have hv5 := hv.1
  rcases Classical.em (inr x 0 5) with ⟨a, rfl, -, ha⟩ | hn
  · rcases (show a = 0 ∨ a = 1 ∨ a = 2 ∨ a = 3 ∨ a = 4 ∨ a = 5 by omega) with rfl | rfl | rfl | rfl | rfl | rfl
    · refine ask_both (nI sn) hI (fun Q k => ?_) (fun S1 h1 Q k => ?_)
      · show E sc mX5_count 0 [.ref 0, .int (nI 0)] [] S Q
        refine e_iload_n (pc := 0) (i := 1) dX5_count_0 rfl rfl ?_
        · refine e_table (pc := 1) dX5_count_1 ⟨40, (Or.inr ⟨by decide, by decide, 39, by decide, by decide⟩), ?_⟩
          refine e_aload_n (pc := 40) (i := 0) dX5_count_40 rfl rfl ?_
          refine e_getR (pc := 41) dX5_count_41 (fX5_42 rfl) sh_0 rfl ?_
          refine e_getI (pc := 44) dX5_count_44 (fX5_94 rfl) sh_26 rfl ?_
          refine E.it (nI sn) t26 ?_
          refine e_iret (pc := 47) (st := []) (ty := .int) dX5_count_47 rfl rfl ?_
          exact k _ Same.rf
      · show E sc mX6_count 0 [.ref 54, .int (nI 0), .null, .null, .null] [] S1 Q
        have hp := h1.pg (by omega) hv hp
        have hr := h1.row (by omega) hr
        refine e_iconst' (pc := 0) (nI 0) dX6_count_0 (by decide) ?_
        refine e_istore_n (pc := 1) (i := 2) dX6_count_1 rfl (by decide) rfl ?_
        refine e_iconst' (pc := 2) (nI 0) dX6_count_2 (by decide) ?_
        refine e_istore_n (pc := 3) (i := 3) dX6_count_3 rfl (by decide) rfl ?_
        refine e_iconst' (pc := 4) (nI 0) dX6_count_4 (by decide) ?_
        refine e_istore (pc := 5) dX6_count_5 (by decide) rfl ?_
        refine lm_count hv hp ?_ (R 20 + 1) 0 (by omega) (by omega)
        refine e_iload_n (pc := 58) (i := 1) dX6_count_58 rfl rfl ?_
        · refine e_table (pc := 59) dX6_count_59 ⟨96, (Or.inr ⟨by decide, by decide, 37, by decide, by decide⟩), ?_⟩
          refine e_aload_n (pc := 96) (i := 0) dX6_count_96 rfl rfl ?_
          refine e_getI (pc := 97) dX6_count_97 (fX6_114 rfl) sh_54 rfl ?_
          refine E.it (nI sn) ((h1.2.1 18 (by omega)).trans t18) ?_
          refine e_iret (pc := 100) (st := []) (ty := .int) dX6_count_100 rfl rfl ?_
          exact k _ Same.rf
    · have hk : ∀ k, k < 2 → ∃ q, q < 2 ∧ S.1 22 k = nI q ∧ S.1 62 k = nI q := by
        intro k hk
        rcases (show k = 0 ∨ k = 1 by omega) with rfl | rfl
        · rcases hI.2.1.1 with ⟨a, b⟩ | ⟨a, b, -⟩
          · exact ⟨0, by omega, a, b⟩
          · exact ⟨1, by omega, a, b⟩
        · rcases hI.2.1.2 with ⟨a, b⟩ | ⟨a, b, -⟩
          · exact ⟨0, by omega, a, b⟩
          · exact ⟨1, by omega, a, b⟩
      obtain ⟨q0, hq0, e0, f0⟩ := hk 0 (by omega)
      obtain ⟨q1, hq1, e1, f1⟩ := hk 1 (by omega)
      rcases (show q0 = 0 ∨ q0 = 1 by omega) with rfl | rfl <;> rcases (show q1 = 0 ∨ q1 = 1 by omega) with rfl | rfl
      · refine ask_both (nI (0 + 0)) hI (fun Q k => ?_) (fun S1 h1 Q k => ?_)
        · show E sc mX5_count 0 [.ref 0, .int (nI 1)] [] S Q
          refine e_iload_n (pc := 0) (i := 1) dX5_count_0 rfl rfl ?_
          · refine e_table (pc := 1) dX5_count_1 ⟨48, (Or.inr ⟨by decide, by decide, 47, by decide, by decide⟩), ?_⟩
            refine e_aload_n (pc := 48) (i := 0) dX5_count_48 rfl rfl ?_
            refine e_getR (pc := 49) dX5_count_49 (fX5_23 rfl) sh_0 rfl ?_
            refine e_iconst' (pc := 52) (nI 0) dX5_count_52 (by decide) ?_
            refine e_zald (pc := 53) dX5_count_53 sh_22 (vp_in_nI (by decide) (by decide)) ?_
            refine E.it (nI 0) e0 ?_
            refine e_if_eq (pc := 54) (tgt := 61) dX5_count_54 (by decide) (fun h54 => ?_) (fun h54 => absurd (by decide) h54)
            refine e_iconst' (pc := 61) (nI 0) dX5_count_61 (by decide) ?_
            refine e_aload_n (pc := 62) (i := 0) dX5_count_62 rfl rfl ?_
            refine e_getR (pc := 63) dX5_count_63 (fX5_23 rfl) sh_0 rfl ?_
            refine e_iconst' (pc := 66) (nI 1) dX5_count_66 (by decide) ?_
            refine e_zald (pc := 67) dX5_count_67 sh_22 (vp_in_nI (by decide) (by decide)) ?_
            refine E.it (nI 0) e1 ?_
            refine e_if_eq (pc := 68) (tgt := 75) dX5_count_68 (by decide) (fun h68 => ?_) (fun h68 => absurd (by decide) h68)
            refine e_iconst' (pc := 75) (nI 0) dX5_count_75 (by decide) ?_
            refine e_iadd (pc := 76) dX5_count_76 ?_
            refine E.it (nI (0 + 0)) (nI_add _ _) ?_
            refine e_iret (pc := 77) (st := []) (ty := .int) dX5_count_77 rfl rfl ?_
            exact k _ Same.rf
        · show E sc mX6_count 0 [.ref 54, .int (nI 1), .null, .null, .null] [] S1 Q
          have hp := h1.pg (by omega) hv hp
          have hr := h1.row (by omega) hr
          refine e_iconst' (pc := 0) (nI 0) dX6_count_0 (by decide) ?_
          refine e_istore_n (pc := 1) (i := 2) dX6_count_1 rfl (by decide) rfl ?_
          refine e_iconst' (pc := 2) (nI 0) dX6_count_2 (by decide) ?_
          refine e_istore_n (pc := 3) (i := 3) dX6_count_3 rfl (by decide) rfl ?_
          refine e_iconst' (pc := 4) (nI 0) dX6_count_4 (by decide) ?_
          refine e_istore (pc := 5) dX6_count_5 (by decide) rfl ?_
          refine lm_count hv hp ?_ (R 20 + 1) 0 (by omega) (by omega)
          refine e_iload_n (pc := 58) (i := 1) dX6_count_58 rfl rfl ?_
          · refine e_table (pc := 59) dX6_count_59 ⟨101, (Or.inr ⟨by decide, by decide, 42, by decide, by decide⟩), ?_⟩
            refine e_aload_n (pc := 101) (i := 0) dX6_count_101 rfl rfl ?_
            refine e_getR (pc := 102) dX6_count_102 (fX6_31 rfl) sh_54 rfl ?_
            refine e_iconst' (pc := 105) (nI 0) dX6_count_105 (by decide) ?_
            refine e_zald (pc := 106) dX6_count_106 sh_62 (vp_in_nI (by decide) (by decide)) ?_
            refine E.it (nI 0) (by show S1.1 62 0 = _; rw [h1.2.2.2 62 (by omega)]; exact f0) ?_
            refine e_if_eq (pc := 107) (tgt := 114) dX6_count_107 (by decide) (fun h107 => ?_) (fun h107 => absurd (by decide) h107)
            refine e_iconst' (pc := 114) (nI 0) dX6_count_114 (by decide) ?_
            refine e_aload_n (pc := 115) (i := 0) dX6_count_115 rfl rfl ?_
            refine e_getR (pc := 116) dX6_count_116 (fX6_31 rfl) sh_54 rfl ?_
            refine e_iconst' (pc := 119) (nI 1) dX6_count_119 (by decide) ?_
            refine e_zald (pc := 120) dX6_count_120 sh_62 (vp_in_nI (by decide) (by decide)) ?_
            refine E.it (nI 0) (by show S1.1 62 1 = _; rw [h1.2.2.2 62 (by omega)]; exact f1) ?_
            refine e_if_eq (pc := 121) (tgt := 128) dX6_count_121 (by decide) (fun h121 => ?_) (fun h121 => absurd (by decide) h121)
            refine e_iconst' (pc := 128) (nI 0) dX6_count_128 (by decide) ?_
            refine e_iadd (pc := 129) dX6_count_129 ?_
            refine E.it (nI (0 + 0)) (nI_add _ _) ?_
            refine e_iret (pc := 130) (st := []) (ty := .int) dX6_count_130 rfl rfl ?_
            exact k _ Same.rf
      · refine ask_both (nI (0 + 1)) hI (fun Q k => ?_) (fun S1 h1 Q k => ?_)
        · show E sc mX5_count 0 [.ref 0, .int (nI 1)] [] S Q
          refine e_iload_n (pc := 0) (i := 1) dX5_count_0 rfl rfl ?_
          · refine e_table (pc := 1) dX5_count_1 ⟨48, (Or.inr ⟨by decide, by decide, 47, by decide, by decide⟩), ?_⟩
            refine e_aload_n (pc := 48) (i := 0) dX5_count_48 rfl rfl ?_
            refine e_getR (pc := 49) dX5_count_49 (fX5_23 rfl) sh_0 rfl ?_
            refine e_iconst' (pc := 52) (nI 0) dX5_count_52 (by decide) ?_
            refine e_zald (pc := 53) dX5_count_53 sh_22 (vp_in_nI (by decide) (by decide)) ?_
            refine E.it (nI 0) e0 ?_
            refine e_if_eq (pc := 54) (tgt := 61) dX5_count_54 (by decide) (fun h54 => ?_) (fun h54 => absurd (by decide) h54)
            refine e_iconst' (pc := 61) (nI 0) dX5_count_61 (by decide) ?_
            refine e_aload_n (pc := 62) (i := 0) dX5_count_62 rfl rfl ?_
            refine e_getR (pc := 63) dX5_count_63 (fX5_23 rfl) sh_0 rfl ?_
            refine e_iconst' (pc := 66) (nI 1) dX5_count_66 (by decide) ?_
            refine e_zald (pc := 67) dX5_count_67 sh_22 (vp_in_nI (by decide) (by decide)) ?_
            refine E.it (nI 1) e1 ?_
            refine e_if_eq (pc := 68) (tgt := 75) dX5_count_68 (by decide) (fun h68 => absurd h68 (by decide)) (fun h68 => ?_)
            refine e_iconst' (pc := 71) (nI 1) dX5_count_71 (by decide) ?_
            refine e_goto (pc := 72) (tgt := 76) dX5_count_72 (by decide) ?_
            refine e_iadd (pc := 76) dX5_count_76 ?_
            refine E.it (nI (0 + 1)) (nI_add _ _) ?_
            refine e_iret (pc := 77) (st := []) (ty := .int) dX5_count_77 rfl rfl ?_
            exact k _ Same.rf
        · show E sc mX6_count 0 [.ref 54, .int (nI 1), .null, .null, .null] [] S1 Q
          have hp := h1.pg (by omega) hv hp
          have hr := h1.row (by omega) hr
          refine e_iconst' (pc := 0) (nI 0) dX6_count_0 (by decide) ?_
          refine e_istore_n (pc := 1) (i := 2) dX6_count_1 rfl (by decide) rfl ?_
          refine e_iconst' (pc := 2) (nI 0) dX6_count_2 (by decide) ?_
          refine e_istore_n (pc := 3) (i := 3) dX6_count_3 rfl (by decide) rfl ?_
          refine e_iconst' (pc := 4) (nI 0) dX6_count_4 (by decide) ?_
          refine e_istore (pc := 5) dX6_count_5 (by decide) rfl ?_
          refine lm_count hv hp ?_ (R 20 + 1) 0 (by omega) (by omega)
          refine e_iload_n (pc := 58) (i := 1) dX6_count_58 rfl rfl ?_
          · refine e_table (pc := 59) dX6_count_59 ⟨101, (Or.inr ⟨by decide, by decide, 42, by decide, by decide⟩), ?_⟩
            refine e_aload_n (pc := 101) (i := 0) dX6_count_101 rfl rfl ?_
            refine e_getR (pc := 102) dX6_count_102 (fX6_31 rfl) sh_54 rfl ?_
            refine e_iconst' (pc := 105) (nI 0) dX6_count_105 (by decide) ?_
            refine e_zald (pc := 106) dX6_count_106 sh_62 (vp_in_nI (by decide) (by decide)) ?_
            refine E.it (nI 0) (by show S1.1 62 0 = _; rw [h1.2.2.2 62 (by omega)]; exact f0) ?_
            refine e_if_eq (pc := 107) (tgt := 114) dX6_count_107 (by decide) (fun h107 => ?_) (fun h107 => absurd (by decide) h107)
            refine e_iconst' (pc := 114) (nI 0) dX6_count_114 (by decide) ?_
            refine e_aload_n (pc := 115) (i := 0) dX6_count_115 rfl rfl ?_
            refine e_getR (pc := 116) dX6_count_116 (fX6_31 rfl) sh_54 rfl ?_
            refine e_iconst' (pc := 119) (nI 1) dX6_count_119 (by decide) ?_
            refine e_zald (pc := 120) dX6_count_120 sh_62 (vp_in_nI (by decide) (by decide)) ?_
            refine E.it (nI 1) (by show S1.1 62 1 = _; rw [h1.2.2.2 62 (by omega)]; exact f1) ?_
            refine e_if_eq (pc := 121) (tgt := 128) dX6_count_121 (by decide) (fun h121 => absurd h121 (by decide)) (fun h121 => ?_)
            refine e_iconst' (pc := 124) (nI 1) dX6_count_124 (by decide) ?_
            refine e_goto (pc := 125) (tgt := 129) dX6_count_125 (by decide) ?_
            refine e_iadd (pc := 129) dX6_count_129 ?_
            refine E.it (nI (0 + 1)) (nI_add _ _) ?_
            refine e_iret (pc := 130) (st := []) (ty := .int) dX6_count_130 rfl rfl ?_
            exact k _ Same.rf
      · refine ask_both (nI (1 + 0)) hI (fun Q k => ?_) (fun S1 h1 Q k => ?_)
        · show E sc mX5_count 0 [.ref 0, .int (nI 1)] [] S Q
          refine e_iload_n (pc := 0) (i := 1) dX5_count_0 rfl rfl ?_
          · refine e_table (pc := 1) dX5_count_1 ⟨48, (Or.inr ⟨by decide, by decide, 47, by decide, by decide⟩), ?_⟩
            refine e_aload_n (pc := 48) (i := 0) dX5_count_48 rfl rfl ?_
            refine e_getR (pc := 49) dX5_count_49 (fX5_23 rfl) sh_0 rfl ?_
            refine e_iconst' (pc := 52) (nI 0) dX5_count_52 (by decide) ?_
            refine e_zald (pc := 53) dX5_count_53 sh_22 (vp_in_nI (by decide) (by decide)) ?_
            refine E.it (nI 1) e0 ?_
            refine e_if_eq (pc := 54) (tgt := 61) dX5_count_54 (by decide) (fun h54 => absurd h54 (by decide)) (fun h54 => ?_)
            refine e_iconst' (pc := 57) (nI 1) dX5_count_57 (by decide) ?_
            refine e_goto (pc := 58) (tgt := 62) dX5_count_58 (by decide) ?_
            refine e_aload_n (pc := 62) (i := 0) dX5_count_62 rfl rfl ?_
            refine e_getR (pc := 63) dX5_count_63 (fX5_23 rfl) sh_0 rfl ?_
            refine e_iconst' (pc := 66) (nI 1) dX5_count_66 (by decide) ?_
            refine e_zald (pc := 67) dX5_count_67 sh_22 (vp_in_nI (by decide) (by decide)) ?_
            refine E.it (nI 0) e1 ?_
            refine e_if_eq (pc := 68) (tgt := 75) dX5_count_68 (by decide) (fun h68 => ?_) (fun h68 => absurd (by decide) h68)
            refine e_iconst' (pc := 75) (nI 0) dX5_count_75 (by decide) ?_
            refine e_iadd (pc := 76) dX5_count_76 ?_
            refine E.it (nI (1 + 0)) (nI_add _ _) ?_
            refine e_iret (pc := 77) (st := []) (ty := .int) dX5_count_77 rfl rfl ?_
            exact k _ Same.rf
        · show E sc mX6_count 0 [.ref 54, .int (nI 1), .null, .null, .null] [] S1 Q
          have hp := h1.pg (by omega) hv hp
          have hr := h1.row (by omega) hr
          refine e_iconst' (pc := 0) (nI 0) dX6_count_0 (by decide) ?_
          refine e_istore_n (pc := 1) (i := 2) dX6_count_1 rfl (by decide) rfl ?_
          refine e_iconst' (pc := 2) (nI 0) dX6_count_2 (by decide) ?_
          refine e_istore_n (pc := 3) (i := 3) dX6_count_3 rfl (by decide) rfl ?_
          refine e_iconst' (pc := 4) (nI 0) dX6_count_4 (by decide) ?_
          refine e_istore (pc := 5) dX6_count_5 (by decide) rfl ?_
          refine lm_count hv hp ?_ (R 20 + 1) 0 (by omega) (by omega)
          refine e_iload_n (pc := 58) (i := 1) dX6_count_58 rfl rfl ?_
          · refine e_table (pc := 59) dX6_count_59 ⟨101, (Or.inr ⟨by decide, by decide, 42, by decide, by decide⟩), ?_⟩
            refine e_aload_n (pc := 101) (i := 0) dX6_count_101 rfl rfl ?_
            refine e_getR (pc := 102) dX6_count_102 (fX6_31 rfl) sh_54 rfl ?_
            refine e_iconst' (pc := 105) (nI 0) dX6_count_105 (by decide) ?_
            refine e_zald (pc := 106) dX6_count_106 sh_62 (vp_in_nI (by decide) (by decide)) ?_
            refine E.it (nI 1) (by show S1.1 62 0 = _; rw [h1.2.2.2 62 (by omega)]; exact f0) ?_
            refine e_if_eq (pc := 107) (tgt := 114) dX6_count_107 (by decide) (fun h107 => absurd h107 (by decide)) (fun h107 => ?_)
            refine e_iconst' (pc := 110) (nI 1) dX6_count_110 (by decide) ?_
            refine e_goto (pc := 111) (tgt := 115) dX6_count_111 (by decide) ?_
            refine e_aload_n (pc := 115) (i := 0) dX6_count_115 rfl rfl ?_
            refine e_getR (pc := 116) dX6_count_116 (fX6_31 rfl) sh_54 rfl ?_
            refine e_iconst' (pc := 119) (nI 1) dX6_count_119 (by decide) ?_
            refine e_zald (pc := 120) dX6_count_120 sh_62 (vp_in_nI (by decide) (by decide)) ?_
            refine E.it (nI 0) (by show S1.1 62 1 = _; rw [h1.2.2.2 62 (by omega)]; exact f1) ?_
            refine e_if_eq (pc := 121) (tgt := 128) dX6_count_121 (by decide) (fun h121 => ?_) (fun h121 => absurd (by decide) h121)
            refine e_iconst' (pc := 128) (nI 0) dX6_count_128 (by decide) ?_
            refine e_iadd (pc := 129) dX6_count_129 ?_
            refine E.it (nI (1 + 0)) (nI_add _ _) ?_
            refine e_iret (pc := 130) (st := []) (ty := .int) dX6_count_130 rfl rfl ?_
            exact k _ Same.rf
      · refine ask_both (nI (1 + 1)) hI (fun Q k => ?_) (fun S1 h1 Q k => ?_)
        · show E sc mX5_count 0 [.ref 0, .int (nI 1)] [] S Q
          refine e_iload_n (pc := 0) (i := 1) dX5_count_0 rfl rfl ?_
          · refine e_table (pc := 1) dX5_count_1 ⟨48, (Or.inr ⟨by decide, by decide, 47, by decide, by decide⟩), ?_⟩
            refine e_aload_n (pc := 48) (i := 0) dX5_count_48 rfl rfl ?_
            refine e_getR (pc := 49) dX5_count_49 (fX5_23 rfl) sh_0 rfl ?_
            refine e_iconst' (pc := 52) (nI 0) dX5_count_52 (by decide) ?_
            refine e_zald (pc := 53) dX5_count_53 sh_22 (vp_in_nI (by decide) (by decide)) ?_
            refine E.it (nI 1) e0 ?_
            refine e_if_eq (pc := 54) (tgt := 61) dX5_count_54 (by decide) (fun h54 => absurd h54 (by decide)) (fun h54 => ?_)
            refine e_iconst' (pc := 57) (nI 1) dX5_count_57 (by decide) ?_
            refine e_goto (pc := 58) (tgt := 62) dX5_count_58 (by decide) ?_
            refine e_aload_n (pc := 62) (i := 0) dX5_count_62 rfl rfl ?_
            refine e_getR (pc := 63) dX5_count_63 (fX5_23 rfl) sh_0 rfl ?_
            refine e_iconst' (pc := 66) (nI 1) dX5_count_66 (by decide) ?_
            refine e_zald (pc := 67) dX5_count_67 sh_22 (vp_in_nI (by decide) (by decide)) ?_
            refine E.it (nI 1) e1 ?_
            refine e_if_eq (pc := 68) (tgt := 75) dX5_count_68 (by decide) (fun h68 => absurd h68 (by decide)) (fun h68 => ?_)
            refine e_iconst' (pc := 71) (nI 1) dX5_count_71 (by decide) ?_
            refine e_goto (pc := 72) (tgt := 76) dX5_count_72 (by decide) ?_
            refine e_iadd (pc := 76) dX5_count_76 ?_
            refine E.it (nI (1 + 1)) (nI_add _ _) ?_
            refine e_iret (pc := 77) (st := []) (ty := .int) dX5_count_77 rfl rfl ?_
            exact k _ Same.rf
        · show E sc mX6_count 0 [.ref 54, .int (nI 1), .null, .null, .null] [] S1 Q
          have hp := h1.pg (by omega) hv hp
          have hr := h1.row (by omega) hr
          refine e_iconst' (pc := 0) (nI 0) dX6_count_0 (by decide) ?_
          refine e_istore_n (pc := 1) (i := 2) dX6_count_1 rfl (by decide) rfl ?_
          refine e_iconst' (pc := 2) (nI 0) dX6_count_2 (by decide) ?_
          refine e_istore_n (pc := 3) (i := 3) dX6_count_3 rfl (by decide) rfl ?_
          refine e_iconst' (pc := 4) (nI 0) dX6_count_4 (by decide) ?_
          refine e_istore (pc := 5) dX6_count_5 (by decide) rfl ?_
          refine lm_count hv hp ?_ (R 20 + 1) 0 (by omega) (by omega)
          refine e_iload_n (pc := 58) (i := 1) dX6_count_58 rfl rfl ?_
          · refine e_table (pc := 59) dX6_count_59 ⟨101, (Or.inr ⟨by decide, by decide, 42, by decide, by decide⟩), ?_⟩
            refine e_aload_n (pc := 101) (i := 0) dX6_count_101 rfl rfl ?_
            refine e_getR (pc := 102) dX6_count_102 (fX6_31 rfl) sh_54 rfl ?_
            refine e_iconst' (pc := 105) (nI 0) dX6_count_105 (by decide) ?_
            refine e_zald (pc := 106) dX6_count_106 sh_62 (vp_in_nI (by decide) (by decide)) ?_
            refine E.it (nI 1) (by show S1.1 62 0 = _; rw [h1.2.2.2 62 (by omega)]; exact f0) ?_
            refine e_if_eq (pc := 107) (tgt := 114) dX6_count_107 (by decide) (fun h107 => absurd h107 (by decide)) (fun h107 => ?_)
            refine e_iconst' (pc := 110) (nI 1) dX6_count_110 (by decide) ?_
            refine e_goto (pc := 111) (tgt := 115) dX6_count_111 (by decide) ?_
            refine e_aload_n (pc := 115) (i := 0) dX6_count_115 rfl rfl ?_
            refine e_getR (pc := 116) dX6_count_116 (fX6_31 rfl) sh_54 rfl ?_
            refine e_iconst' (pc := 119) (nI 1) dX6_count_119 (by decide) ?_
            refine e_zald (pc := 120) dX6_count_120 sh_62 (vp_in_nI (by decide) (by decide)) ?_
            refine E.it (nI 1) (by show S1.1 62 1 = _; rw [h1.2.2.2 62 (by omega)]; exact f1) ?_
            refine e_if_eq (pc := 121) (tgt := 128) dX6_count_121 (by decide) (fun h121 => absurd h121 (by decide)) (fun h121 => ?_)
            refine e_iconst' (pc := 124) (nI 1) dX6_count_124 (by decide) ?_
            refine e_goto (pc := 125) (tgt := 129) dX6_count_125 (by decide) ?_
            refine e_iadd (pc := 129) dX6_count_129 ?_
            refine E.it (nI (1 + 1)) (nI_add _ _) ?_
            refine e_iret (pc := 130) (st := []) (ty := .int) dX6_count_130 rfl rfl ?_
            exact k _ Same.rf
    · refine ask_both (nI tn0) hI (fun Q k => ?_) (fun S1 h1 Q k => ?_)
      · show E sc mX5_count 0 [.ref 0, .int (nI 2)] [] S Q
        refine e_iload_n (pc := 0) (i := 1) dX5_count_0 rfl rfl ?_
        · refine e_table (pc := 1) dX5_count_1 ⟨78, (Or.inr ⟨by decide, by decide, 77, by decide, by decide⟩), ?_⟩
          refine e_aload_n (pc := 78) (i := 0) dX5_count_78 rfl rfl ?_
          refine e_getR (pc := 79) dX5_count_79 (fX5_38 rfl) sh_0 rfl ?_
          refine e_getI (pc := 82) dX5_count_82 (fX5_74 rfl) sh_23 rfl ?_
          refine E.it (nI tn0) t23 ?_
          refine e_iret (pc := 85) (st := []) (ty := .int) dX5_count_85 rfl rfl ?_
          exact k _ Same.rf
      · show E sc mX6_count 0 [.ref 54, .int (nI 2), .null, .null, .null] [] S1 Q
        have hp := h1.pg (by omega) hv hp
        have hr := h1.row (by omega) hr
        refine e_iconst' (pc := 0) (nI 0) dX6_count_0 (by decide) ?_
        refine e_istore_n (pc := 1) (i := 2) dX6_count_1 rfl (by decide) rfl ?_
        refine e_iconst' (pc := 2) (nI 0) dX6_count_2 (by decide) ?_
        refine e_istore_n (pc := 3) (i := 3) dX6_count_3 rfl (by decide) rfl ?_
        refine e_iconst' (pc := 4) (nI 0) dX6_count_4 (by decide) ?_
        refine e_istore (pc := 5) dX6_count_5 (by decide) rfl ?_
        refine lm_count hv hp ?_ (R 20 + 1) 0 (by omega) (by omega)
        refine e_iload_n (pc := 58) (i := 1) dX6_count_58 rfl rfl ?_
        · refine e_table (pc := 59) dX6_count_59 ⟨131, (Or.inr ⟨by decide, by decide, 72, by decide, by decide⟩), ?_⟩
          refine e_aload_n (pc := 131) (i := 0) dX6_count_131 rfl rfl ?_
          refine e_getI (pc := 132) dX6_count_132 (fX6_50 rfl) sh_54 rfl ?_
          refine E.it (nI tn0) ((h1.2.1 4 (by omega)).trans t54) ?_
          refine e_iret (pc := 135) (st := []) (ty := .int) dX6_count_135 rfl rfl ?_
          exact k _ Same.rf
    · rcases hI.2.2.2.2.2.1 0 (by omega) with ⟨e0, f0⟩ | ⟨l, m, hl, hm, e0, e1, e2, f0, f1, -⟩
      · refine ask_both (-4) hI (fun Q k => ?_) (fun S1 h1 Q k => ?_)
        · show E sc mX5_count 0 [.ref 0, .int (nI 3)] [] S Q
          refine e_iload_n (pc := 0) (i := 1) dX5_count_0 rfl rfl ?_
          · refine e_table (pc := 1) dX5_count_1 ⟨86, (Or.inr ⟨by decide, by decide, 85, by decide, by decide⟩), ?_⟩
            refine e_aload_n (pc := 86) (i := 0) dX5_count_86 rfl rfl ?_
            refine e_getR (pc := 87) dX5_count_87 (fX5_49 rfl) sh_0 rfl ?_
            refine e_iconst' (pc := 90) (nI 0) dX5_count_90 (by decide) ?_
            refine e_aald (pc := 91) (r := 30) dX5_count_91 sh_29 (vp_in_nI (by decide) (by decide)) (by decide) ?_
            refine e_getI (pc := 92) dX5_count_92 (fX5_243 rfl) sh_30 rfl ?_
            refine E.it (nI 0) e0 ?_
            refine e_if_eq (pc := 95) (tgt := 110) dX5_count_95 (by decide) (fun h95 => ?_) (fun h95 => absurd (by decide) h95)
            refine e_bipush' (pc := 110) (-4) dX5_count_110 (by decide) ?_
            refine e_iret (pc := 112) (st := []) (ty := .int) dX5_count_112 rfl rfl ?_
            exact k _ Same.rf
        · show E sc mX6_count 0 [.ref 54, .int (nI 3), .null, .null, .null] [] S1 Q
          have hp := h1.pg (by omega) hv hp
          have hr := h1.row (by omega) hr
          refine e_iconst' (pc := 0) (nI 0) dX6_count_0 (by decide) ?_
          refine e_istore_n (pc := 1) (i := 2) dX6_count_1 rfl (by decide) rfl ?_
          refine e_iconst' (pc := 2) (nI 0) dX6_count_2 (by decide) ?_
          refine e_istore_n (pc := 3) (i := 3) dX6_count_3 rfl (by decide) rfl ?_
          refine e_iconst' (pc := 4) (nI 0) dX6_count_4 (by decide) ?_
          refine e_istore (pc := 5) dX6_count_5 (by decide) rfl ?_
          refine lm_count hv hp ?_ (R 20 + 1) 0 (by omega) (by omega)
          refine e_iload_n (pc := 58) (i := 1) dX6_count_58 rfl rfl ?_
          · refine e_table (pc := 59) dX6_count_59 ⟨136, (Or.inr ⟨by decide, by decide, 77, by decide, by decide⟩), ?_⟩
            refine e_aload_n (pc := 136) (i := 0) dX6_count_136 rfl rfl ?_
            refine e_getR (pc := 137) dX6_count_137 (fX6_35 rfl) sh_54 rfl ?_
            refine e_iconst' (pc := 140) (nI 0) dX6_count_140 (by decide) ?_
            refine e_iald (pc := 141) dX6_count_141 sh_63 (vp_in_nI (by decide) (by decide)) ?_
            refine E.it (-4) (by show S1.1 63 0 = _; rw [h1.2.2.2 63 (by omega)]; exact f0) ?_
            refine e_bipush' (pc := 142) (-4) dX6_count_142 (by decide) ?_
            refine e_icmp_ne (pc := 144) (tgt := 152) dX6_count_144 (by decide) (fun h144 => absurd rfl h144) (fun h144 => ?_)
            refine e_bipush' (pc := 147) (-4) dX6_count_147 (by decide) ?_
            refine e_goto (pc := 149) (tgt := 158) dX6_count_149 (by decide) ?_
            refine e_iret (pc := 158) (st := []) (ty := .int) dX6_count_158 rfl rfl ?_
            exact k _ Same.rf
      · refine ask_both (nI m) hI (fun Q k => ?_) (fun S1 h1 Q k => ?_)
        · show E sc mX5_count 0 [.ref 0, .int (nI 3)] [] S Q
          refine e_iload_n (pc := 0) (i := 1) dX5_count_0 rfl rfl ?_
          · refine e_table (pc := 1) dX5_count_1 ⟨86, (Or.inr ⟨by decide, by decide, 85, by decide, by decide⟩), ?_⟩
            refine e_aload_n (pc := 86) (i := 0) dX5_count_86 rfl rfl ?_
            refine e_getR (pc := 87) dX5_count_87 (fX5_49 rfl) sh_0 rfl ?_
            refine e_iconst' (pc := 90) (nI 0) dX5_count_90 (by decide) ?_
            refine e_aald (pc := 91) (r := 30) dX5_count_91 sh_29 (vp_in_nI (by decide) (by decide)) (by decide) ?_
            refine e_getI (pc := 92) dX5_count_92 (fX5_243 rfl) sh_30 rfl ?_
            refine E.it (nI 1) e0 ?_
            refine e_if_eq (pc := 95) (tgt := 110) dX5_count_95 (by decide) (fun h95 => absurd h95 (by decide)) (fun h95 => ?_)
            refine e_aload_n (pc := 98) (i := 0) dX5_count_98 rfl rfl ?_
            refine e_getR (pc := 99) dX5_count_99 (fX5_49 rfl) sh_0 rfl ?_
            refine e_iconst' (pc := 102) (nI 0) dX5_count_102 (by decide) ?_
            refine e_aald (pc := 103) (r := 30) dX5_count_103 sh_29 (vp_in_nI (by decide) (by decide)) (by decide) ?_
            refine e_getI (pc := 104) dX5_count_104 (fX5_247 rfl) sh_30 rfl ?_
            refine E.it (nI m) e2 ?_
            refine e_goto (pc := 107) (tgt := 112) dX5_count_107 (by decide) ?_
            refine e_iret (pc := 112) (st := []) (ty := .int) dX5_count_112 rfl rfl ?_
            exact k _ Same.rf
        · show E sc mX6_count 0 [.ref 54, .int (nI 3), .null, .null, .null] [] S1 Q
          have hp := h1.pg (by omega) hv hp
          have hr := h1.row (by omega) hr
          refine e_iconst' (pc := 0) (nI 0) dX6_count_0 (by decide) ?_
          refine e_istore_n (pc := 1) (i := 2) dX6_count_1 rfl (by decide) rfl ?_
          refine e_iconst' (pc := 2) (nI 0) dX6_count_2 (by decide) ?_
          refine e_istore_n (pc := 3) (i := 3) dX6_count_3 rfl (by decide) rfl ?_
          refine e_iconst' (pc := 4) (nI 0) dX6_count_4 (by decide) ?_
          refine e_istore (pc := 5) dX6_count_5 (by decide) rfl ?_
          refine lm_count hv hp ?_ (R 20 + 1) 0 (by omega) (by omega)
          refine e_iload_n (pc := 58) (i := 1) dX6_count_58 rfl rfl ?_
          · refine e_table (pc := 59) dX6_count_59 ⟨136, (Or.inr ⟨by decide, by decide, 77, by decide, by decide⟩), ?_⟩
            refine e_aload_n (pc := 136) (i := 0) dX6_count_136 rfl rfl ?_
            refine e_getR (pc := 137) dX6_count_137 (fX6_35 rfl) sh_54 rfl ?_
            refine e_iconst' (pc := 140) (nI 0) dX6_count_140 (by decide) ?_
            refine e_iald (pc := 141) dX6_count_141 sh_63 (vp_in_nI (by decide) (by decide)) ?_
            refine E.it (nI l) (by show S1.1 63 0 = _; rw [h1.2.2.2 63 (by omega)]; exact f0) ?_
            refine e_bipush' (pc := 142) (-4) dX6_count_142 (by decide) ?_
            refine e_icmp_ne (pc := 144) (tgt := 152) dX6_count_144 (by decide) (fun h144 => ?_) (fun h144 => absurd h144 (fun q => absurd (congrArg Int32.toInt q) (by rw [nI_toInt (by omega)]; show ¬ (l : Int) = -4; omega)))
            refine e_aload_n (pc := 152) (i := 0) dX6_count_152 rfl rfl ?_
            refine e_getR (pc := 153) dX6_count_153 (fX6_38 rfl) sh_54 rfl ?_
            refine e_iconst' (pc := 156) (nI 0) dX6_count_156 (by decide) ?_
            refine e_iald (pc := 157) dX6_count_157 sh_64 (vp_in_nI (by decide) (by decide)) ?_
            refine E.it (nI m) (by show S1.1 64 0 = _; rw [h1.2.2.2 64 (by omega)]; exact f1) ?_
            refine e_iret (pc := 158) (st := []) (ty := .int) dX6_count_158 rfl rfl ?_
            exact k _ Same.rf
    · refine ask_both (nI (ts R (R 20))) hI (fun Q k => ?_) (fun S1 h1 Q k => ?_)
      · show E sc mX5_count 0 [.ref 0, .int (nI 4)] [] S Q
        refine e_iload_n (pc := 0) (i := 1) dX5_count_0 rfl rfl ?_
        · refine e_table (pc := 1) dX5_count_1 ⟨113, (Or.inr ⟨by decide, by decide, 112, by decide, by decide⟩), ?_⟩
          refine e_aload_n (pc := 113) (i := 0) dX5_count_113 rfl rfl ?_
          refine e_getR (pc := 114) dX5_count_114 (fX5_10 rfl) sh_0 rfl ?_
          refine e_callV0 (pc := 117) (M' := mX0_teethInAll) dX5_count_117 iX0_teethInAll lkX5_248 (by decide) (rO_obj sh_1 rfl) (Nat.le_of_ble_eq_true rfl) (Nat.le_of_ble_eq_true rfl) ?_
          refine sp_teethInAll r1 hv hr ?_
          refine e_iret (pc := 120) (st := []) (ty := .int) dX5_count_120 rfl rfl ?_
          exact k _ Same.rf
      · show E sc mX6_count 0 [.ref 54, .int (nI 4), .null, .null, .null] [] S1 Q
        have hp := h1.pg (by omega) hv hp
        have hr := h1.row (by omega) hr
        refine e_iconst' (pc := 0) (nI 0) dX6_count_0 (by decide) ?_
        refine e_istore_n (pc := 1) (i := 2) dX6_count_1 rfl (by decide) rfl ?_
        refine e_iconst' (pc := 2) (nI 0) dX6_count_2 (by decide) ?_
        refine e_istore_n (pc := 3) (i := 3) dX6_count_3 rfl (by decide) rfl ?_
        refine e_iconst' (pc := 4) (nI 0) dX6_count_4 (by decide) ?_
        refine e_istore (pc := 5) dX6_count_5 (by decide) rfl ?_
        refine lm_count hv hp ?_ (R 20 + 1) 0 (by omega) (by omega)
        refine e_iload_n (pc := 58) (i := 1) dX6_count_58 rfl rfl ?_
        · refine e_table (pc := 59) dX6_count_59 ⟨159, (Or.inr ⟨by decide, by decide, 100, by decide, by decide⟩), ?_⟩
          refine e_iload_n (pc := 159) (i := 2) dX6_count_159 rfl rfl ?_
          refine e_iret (pc := 160) (st := []) (ty := .int) dX6_count_160 rfl rfl ?_
          exact k _ Same.rf
    · refine ask_both (nI (bs R (R 20))) hI (fun Q k => ?_) (fun S1 h1 Q k => ?_)
      · show E sc mX5_count 0 [.ref 0, .int (nI 5)] [] S Q
        refine e_iload_n (pc := 0) (i := 1) dX5_count_0 rfl rfl ?_
        · refine e_table (pc := 1) dX5_count_1 ⟨121, (Or.inr ⟨by decide, by decide, 120, by decide, by decide⟩), ?_⟩
          refine e_aload_n (pc := 121) (i := 0) dX5_count_121 rfl rfl ?_
          refine e_getR (pc := 122) dX5_count_122 (fX5_10 rfl) sh_0 rfl ?_
          refine e_callV0 (pc := 125) (M' := mX0_brokenInAll) dX5_count_125 iX0_brokenInAll lkX5_251 (by decide) (rO_obj sh_1 rfl) (Nat.le_of_ble_eq_true rfl) (Nat.le_of_ble_eq_true rfl) ?_
          refine sp_brokenInAll r1 hv hr ?_
          refine e_iret (pc := 128) (st := []) (ty := .int) dX5_count_128 rfl rfl ?_
          exact k _ Same.rf
      · show E sc mX6_count 0 [.ref 54, .int (nI 5), .null, .null, .null] [] S1 Q
        have hp := h1.pg (by omega) hv hp
        have hr := h1.row (by omega) hr
        refine e_iconst' (pc := 0) (nI 0) dX6_count_0 (by decide) ?_
        refine e_istore_n (pc := 1) (i := 2) dX6_count_1 rfl (by decide) rfl ?_
        refine e_iconst' (pc := 2) (nI 0) dX6_count_2 (by decide) ?_
        refine e_istore_n (pc := 3) (i := 3) dX6_count_3 rfl (by decide) rfl ?_
        refine e_iconst' (pc := 4) (nI 0) dX6_count_4 (by decide) ?_
        refine e_istore (pc := 5) dX6_count_5 (by decide) rfl ?_
        refine lm_count hv hp ?_ (R 20 + 1) 0 (by omega) (by omega)
        refine e_iload_n (pc := 58) (i := 1) dX6_count_58 rfl rfl ?_
        · refine e_table (pc := 59) dX6_count_59 ⟨161, (Or.inr ⟨by decide, by decide, 102, by decide, by decide⟩), ?_⟩
          refine e_iload_n (pc := 161) (i := 3) dX6_count_161 rfl rfl ?_
          refine e_iret (pc := 162) (st := []) (ty := .int) dX6_count_162 rfl rfl ?_
          exact k _ Same.rf
  · refine ask_both (-1) hI (fun Q k => ?_) (fun S1 h1 Q k => ?_)
    · show E sc mX5_count 0 [.ref 0, .int x] [] S Q
      refine e_iload_n (pc := 0) (i := 1) dX5_count_0 rfl rfl ?_
      · refine e_table (pc := 1) dX5_count_1 ⟨129, (Or.inl ⟨out_of hn, by decide⟩), ?_⟩
        refine e_iconst' (pc := 129) (-1) dX5_count_129 (by decide) ?_
        refine e_iret (pc := 130) (st := []) (ty := .int) dX5_count_130 rfl rfl ?_
        exact k _ Same.rf
    · show E sc mX6_count 0 [.ref 54, .int x, .null, .null, .null] [] S1 Q
      have hp := h1.pg (by omega) hv hp
      have hr := h1.row (by omega) hr
      refine e_iconst' (pc := 0) (nI 0) dX6_count_0 (by decide) ?_
      refine e_istore_n (pc := 1) (i := 2) dX6_count_1 rfl (by decide) rfl ?_
      refine e_iconst' (pc := 2) (nI 0) dX6_count_2 (by decide) ?_
      refine e_istore_n (pc := 3) (i := 3) dX6_count_3 rfl (by decide) rfl ?_
      refine e_iconst' (pc := 4) (nI 0) dX6_count_4 (by decide) ?_
      refine e_istore (pc := 5) dX6_count_5 (by decide) rfl ?_
      refine lm_count hv hp ?_ (R 20 + 1) 0 (by omega) (by omega)
      refine e_iload_n (pc := 58) (i := 1) dX6_count_58 rfl rfl ?_
      · refine e_table (pc := 59) dX6_count_59 ⟨163, (Or.inl ⟨out_of hn, by decide⟩), ?_⟩
        refine e_iconst' (pc := 163) (-1) dX6_count_163 (by decide) ?_
        refine e_iret (pc := 164) (st := []) (ty := .int) dX6_count_164 rfl rfl ?_
        exact k _ Same.rf
def gt (x : Int32) : Nat := x.toBitVec.toNat / 65536 % 32768
theorem gt_u (x : Int32) : (x.toUInt32 >>> ((nI 16).toUInt32 &&& Int32.toUInt32 31)).toInt32 &&& nI 32767 = nI (gt x) := by
  rw [pk_and _ 15 (by decide), pk_ushr x (nI 16) 16 (by decide)]
  rfl
theorem gt_s (x : Int32) : (x >>> (nI 16 &&& 31)) &&& nI 32767 = nI (gt x) := by
  rw [pk_and _ 15 (by decide)]
  congr 1
  have h := pk_shr x (nI 16 &&& 31) 16 (by decide)
  have e1 : (x >>> (nI 16 &&& 31)).toInt = (x >>> (nI 16 &&& 31)).toBitVec.toInt := rfl
  have e2 : x.toInt = x.toBitVec.toInt := rfl
  rw [e1, e2, Int.shiftRight_eq_div_pow, BitVec.toInt_eq_toNat_cond, BitVec.toInt_eq_toNat_cond] at h
  have l1 := (x >>> (nI 16 &&& 31)).toBitVec.isLt
  have l2 := x.toBitVec.isLt
  unfold gt
  split at h <;> split at h <;> omega
theorem gt_lt (x : Int32) : gt x < 32768 := Nat.mod_lt _ (by decide)
def dx (z : Int32 → Int32) (s : Int32) : Nat → Int32
  | 0 => s
  | n + 1 => z (dx z s n)
def dR (g : Int32 → Nat) (z : Int32 → Int32) (R : Rw) (s : Int32) : Nat → Rw
  | 0 => R
  | n + 1 => (turnR (dR g z R s n) (g (dx z s (n + 1)) % R 20)).1
def dC (g : Int32 → Nat) (z : Int32 → Int32) (R : Rw) (s : Int32) : Nat → Nat
  | 0 => 0
  | n + 1 => dC g z R s n + (turnR (dR g z R s n) (g (dx z s (n + 1)) % R 20)).2
theorem dR_vd {g : Int32 → Nat} {z : Int32 → Int32} {R : Rw} (hv : Vd R) (s : Int32) (n : Nat) : Vd (dR g z R s n) ∧ dR g z R s n 20 = R 20 := by
  induction n with
  | zero => exact ⟨hv, rfl⟩
  | succ n ih =>
    obtain ⟨a, b⟩ := ih
    refine ⟨turn_vd a, ?_⟩
    show (turnR (dR g z R s n) (g (dx z s (n + 1)) % R 20)).1 20 = R 20
    rw [turnR, tf_keep 5 _ _ a.1 20 (by omega), b]
theorem lp_drift0 {sc : PSc} {m : Nat} {s x1 : Int32} {R : Rw} {S0 : PS} {Q : PQ} {g : Int32 → Nat} {z : Int32 → Int32} (hgl : ∀ x, g x < 32768) (hgu : ∀ x : Int32, (x.toUInt32 >>> ((nI 16).toUInt32 &&& Int32.toUInt32 31)).toInt32 &&& nI 32767 = nI (g x)) (hgs : ∀ x : Int32, (x >>> (nI 16 &&& 31)) &&& nI 32767 = nI (g x)) (hz : ∀ x, x * nI 1103515245 + nI 12345 = z x) (hv : Vd R) (h0 : 0 < R 20) (hr0 : RowAt S0 1 R) (hm : m ≤ 200) (k : ∀ S', Fr 6 5 S0 S' → Q (some (.int (nI (reads (dR g z R s m))))) S') : ∀ (n : Nat) (j : Nat) (S : PS) (zv : Value), j ≤ m → m - j < n → RowAt S 6 (dR g z R s j) → S.1 6 2 = nI (dC g z R s j) → Fr 6 5 S0 S → E sc mX5_drift 52 [.ref 0, .int x1, .int (nI m), .int (nI 0), .int (dx z s j), .int (nI j), zv] [] S Q := by
  intro n
  induction n with
  | zero => intro j S zv hj hn hr hc hf; exact absurd hn (by omega)
  | succ n ih =>
    intro j S zv hj hn hr hc hf
    have h5 := hv.1
    have hr1 := hr0.frI hf r6 r1 (by omega)
    obtain ⟨hvd, h20⟩ := dR_vd (g := g) (z := z) hv s j
    have hg : g (dx z s (j + 1)) % R 20 < R 20 := Nat.mod_lt _ h0
    refine e_iload (pc := 52) dX5_drift_52 rfl ?_
    refine e_iload_n (pc := 54) (i := 2) dX5_drift_54 rfl rfl ?_
    refine e_icmp_ge (pc := 55) (tgt := 103) dX5_drift_55 (by decide) (fun h55 => ?_) (fun h55 => ?_)
    · replace h55 := (nI_leI (by omega) (by omega)).mp h55
      obtain rfl : j = m := by omega
      refine e_iload_n (pc := 103) (i := 3) dX5_drift_103 rfl rfl ?_
      refine e_if_ne (pc := 104) (tgt := 117) dX5_drift_104 (by decide) (fun h104 => absurd (by decide) h104) (fun h104 => ?_)
      refine e_aload_n (pc := 107) (i := 0) dX5_drift_107 rfl rfl ?_
      refine e_getR (pc := 108) dX5_drift_108 (fX5_16 rfl) sh_0 rfl ?_
      refine e_callV0 (pc := 111) (M' := mX0_reading) dX5_drift_111 iX0_reading lkX5_107 (by decide) (rO_obj sh_6 rfl) (Nat.le_of_ble_eq_true rfl) (Nat.le_of_ble_eq_true rfl) ?_
      refine sp_reading r6 hvd hr ?_
      refine e_goto (pc := 114) (tgt := 124) dX5_drift_114 (by decide) ?_
      refine e_iret (pc := 124) (st := []) (ty := .int) dX5_drift_124 rfl rfl ?_
      exact k S hf
    · replace h55 := mt (nI_leI (by omega) (by omega)).mpr h55
      refine e_iload (pc := 58) dX5_drift_58 rfl ?_
      refine e_ldc' (pc := 60) (nI 1103515245) dX5_drift_60 (kcX5_220 rfl) (by decide) ?_
      refine e_imul (pc := 62) dX5_drift_62 ?_
      refine e_sipush' (pc := 63) (nI 12345) dX5_drift_63 (by decide) ?_
      refine e_iadd (pc := 66) dX5_drift_66 ?_
      refine E.it (dx z s (j + 1)) (hz _) ?_
      refine e_istore (pc := 67) dX5_drift_67 (by decide) rfl ?_
      refine e_iload (pc := 69) dX5_drift_69 rfl ?_
      refine e_bipush' (pc := 71) (nI 16) dX5_drift_71 (by decide) ?_
      refine e_iushr (pc := 73) dX5_drift_73 ?_
      refine e_sipush' (pc := 74) (nI 32767) dX5_drift_74 (by decide) ?_
      refine e_iand (pc := 77) dX5_drift_77 ?_
      refine E.it (nI (g (dx z s (j + 1)))) (hgu _) ?_
      refine e_istore (pc := 78) dX5_drift_78 (by decide) rfl ?_
      refine e_aload_n (pc := 80) (i := 0) dX5_drift_80 rfl rfl ?_
      refine e_getR (pc := 81) dX5_drift_81 (fX5_16 rfl) sh_0 rfl ?_
      refine e_iload (pc := 84) dX5_drift_84 rfl ?_
      refine e_aload_n (pc := 86) (i := 0) dX5_drift_86 rfl rfl ?_
      refine e_getR (pc := 87) dX5_drift_87 (fX5_10 rfl) sh_0 rfl ?_
      refine e_getI (pc := 90) dX5_drift_90 (fX5_103 rfl) sh_1 rfl ?_
      refine E.it (nI (R 20)) hr1.1 ?_
      refine e_irem (pc := 93) dX5_drift_93 (by rw [← nI_0, nI_eq (by omega) (by omega)]; omega) ?_
      refine E.it (nI (g (dx z s (j + 1)) % R 20)) (pk_rem (by have := hgl (dx z s (j + 1)); omega) (by omega) (by omega)) ?_
      refine e_callV1 (pc := 94) (M' := mX0_turnFrom) dX5_drift_94 iX0_turnFrom lkX5_140 (by decide) (rO_obj sh_6 rfl) (Nat.le_of_ble_eq_true rfl) (Nat.le_of_ble_eq_true rfl) ?_
      refine sp_turnFrom r6 hvd hr (by omega) (fun S2 a b c => ?_)
      refine e_iinc' (pc := 97) (nI (j + 1)) dX5_drift_97 rfl (by decide) rfl (nI_1 _) ?_
      refine e_goto (pc := 100) (tgt := 52) dX5_drift_100 (by decide) ?_
      exact ih (j + 1) S2 _ (by omega) (by omega) a (by rw [b, hc, nI_add]; rfl) (hf.tr c)
theorem lm_drift0 {sc : PSc} {m : Nat} {s x1 : Int32} {R : Rw} {S0 : PS} {Q : PQ} {g : Int32 → Nat} {z : Int32 → Int32} (hgl : ∀ x, g x < 32768) (hgu : ∀ x : Int32, (x.toUInt32 >>> ((nI 16).toUInt32 &&& Int32.toUInt32 31)).toInt32 &&& nI 32767 = nI (g x)) (hgs : ∀ x : Int32, (x >>> (nI 16 &&& 31)) &&& nI 32767 = nI (g x)) (hz : ∀ x, x * nI 1103515245 + nI 12345 = z x) (hv : Vd R) (h0 : 0 < R 20) (hp0 : PgAt S0 0 R) (hm : m ≤ 200) (k : ∀ S', FrG S0 S' → Q (some (.int (nI (reads (dR g z R s m))))) S') : ∀ (n : Nat) (j : Nat) (S : PS), j ≤ m → m - j < n → PgAt S 88 (dR g z R s j) → S.1 54 14 = nI (dC g z R s j) → FrG S0 S → E sc mX6_drift 55 [.ref 54, .int x1, .int (nI m), .int (nI 0), .int (dx z s j), .int (nI j)] [] S Q := by
  intro n
  induction n with
  | zero => intro j S hj hn hr hc hf; exact absurd hn (by omega)
  | succ n ih =>
    intro j S hj hn hr hc hf
    have h5 := hv.1
    have hp := hf.same.pg (by omega) hv hp0
    obtain ⟨hvd, h20⟩ := dR_vd (g := g) (z := z) hv s j
    have hg : g (dx z s (j + 1)) % R 20 < R 20 := Nat.mod_lt _ h0
    refine e_iload (pc := 55) dX6_drift_55 rfl ?_
    refine e_iload_n (pc := 57) (i := 2) dX6_drift_57 rfl rfl ?_
    refine e_icmp_ge (pc := 58) (tgt := 101) dX6_drift_58 (by decide) (fun h58 => ?_) (fun h58 => ?_)
    · replace h58 := (nI_leI (by omega) (by omega)).mp h58
      obtain rfl : j = m := by omega
      refine e_iload_n (pc := 101) (i := 3) dX6_drift_101 rfl rfl ?_
      refine e_if_ne (pc := 102) (tgt := 114) dX6_drift_102 (by decide) (fun h102 => absurd (by decide) h102) (fun h102 => ?_)
      refine e_aload_n (pc := 105) (i := 0) dX6_drift_105 rfl rfl ?_
      refine e_bipush' (pc := 106) (nI 88) dX6_drift_106 (by decide) ?_
      refine e_callV1 (pc := 108) (M' := mX6_readsOn) dX6_drift_108 iX6_readsOn lkX6_135 (by decide) (rO_obj sh_54 rfl) (Nat.le_of_ble_eq_true rfl) (Nat.le_of_ble_eq_true rfl) ?_
      refine sp_readsOn (p := 88) (by omega) hvd hr ?_
      refine e_goto (pc := 111) (tgt := 118) dX6_drift_111 (by decide) ?_
      refine e_iret (pc := 118) (st := []) (ty := .int) dX6_drift_118 rfl rfl ?_
      exact k S hf
    · replace h58 := mt (nI_leI (by omega) (by omega)).mpr h58
      refine e_iload (pc := 61) dX6_drift_61 rfl ?_
      refine e_ldc' (pc := 63) (nI 1103515245) dX6_drift_63 (kcX6_218 rfl) (by decide) ?_
      refine e_imul (pc := 65) dX6_drift_65 ?_
      refine e_sipush' (pc := 66) (nI 12345) dX6_drift_66 (by decide) ?_
      refine e_iadd (pc := 69) dX6_drift_69 ?_
      refine E.it (dx z s (j + 1)) (hz _) ?_
      refine e_istore (pc := 70) dX6_drift_70 (by decide) rfl ?_
      refine e_aload_n (pc := 72) (i := 0) dX6_drift_72 rfl rfl ?_
      refine e_bipush' (pc := 73) (nI 88) dX6_drift_73 (by decide) ?_
      refine e_iload (pc := 75) dX6_drift_75 rfl ?_
      refine e_bipush' (pc := 77) (nI 16) dX6_drift_77 (by decide) ?_
      refine e_ishr (pc := 79) dX6_drift_79 ?_
      refine e_sipush' (pc := 80) (nI 32767) dX6_drift_80 (by decide) ?_
      refine e_iand (pc := 83) dX6_drift_83 ?_
      refine E.it (nI (g (dx z s (j + 1)))) (hgs _) ?_
      refine e_aload_n (pc := 84) (i := 0) dX6_drift_84 rfl rfl ?_
      refine e_getR (pc := 85) dX6_drift_85 (fX6_7 rfl) sh_54 rfl ?_
      refine e_bipush' (pc := 88) (nI 20) dX6_drift_88 (by decide) ?_
      refine e_iald (pc := 90) dX6_drift_90 sh_55 (vp_in_nI (by omega) (by omega)) ?_
      refine E.it (nI (R 20)) (pgn (p := 0) (by omega) hp) ?_
      refine e_irem (pc := 91) dX6_drift_91 (by rw [← nI_0, nI_eq (by omega) (by omega)]; omega) ?_
      refine E.it (nI (g (dx z s (j + 1)) % R 20)) (pk_rem (by have := hgl (dx z s (j + 1)); omega) (by omega) (by omega)) ?_
      refine e_callV2 (pc := 92) (M' := mX6_turnedOn) dX6_drift_92 iX6_turnedOn lkX6_131 (by decide) (rO_obj sh_54 rfl) (Nat.le_of_ble_eq_true rfl) (Nat.le_of_ble_eq_true rfl) ?_
      refine sp_turnedOn (p := 88) (by omega) hvd hr (by omega) (fun S2 a b c => ?_)
      refine e_iinc' (pc := 95) (nI (j + 1)) dX6_drift_95 rfl (by decide) rfl (nI_1 _) ?_
      refine e_goto (pc := 98) (tgt := 55) dX6_drift_98 (by decide) ?_
      exact ih (j + 1) S2 (by omega) (by omega) a (by rw [b, hc, nI_add]; rfl) (hf.tr c.G)
theorem lp_drift1 {sc : PSc} {m : Nat} {s x1 : Int32} {R : Rw} {S0 : PS} {Q : PQ} {g : Int32 → Nat} {z : Int32 → Int32} (hgl : ∀ x, g x < 32768) (hgu : ∀ x : Int32, (x.toUInt32 >>> ((nI 16).toUInt32 &&& Int32.toUInt32 31)).toInt32 &&& nI 32767 = nI (g x)) (hgs : ∀ x : Int32, (x >>> (nI 16 &&& 31)) &&& nI 32767 = nI (g x)) (hz : ∀ x, x * nI 1103515245 + nI 12345 = z x) (hv : Vd R) (h0 : 0 < R 20) (hr0 : RowAt S0 1 R) (hm : m ≤ 200) (k : ∀ S', Fr 6 5 S0 S' → Q (some (.int (nI (dC g z R s m)))) S') : ∀ (n : Nat) (j : Nat) (S : PS) (zv : Value), j ≤ m → m - j < n → RowAt S 6 (dR g z R s j) → S.1 6 2 = nI (dC g z R s j) → Fr 6 5 S0 S → E sc mX5_drift 52 [.ref 0, .int x1, .int (nI m), .int (nI 1), .int (dx z s j), .int (nI j), zv] [] S Q := by
  intro n
  induction n with
  | zero => intro j S zv hj hn hr hc hf; exact absurd hn (by omega)
  | succ n ih =>
    intro j S zv hj hn hr hc hf
    have h5 := hv.1
    have hr1 := hr0.frI hf r6 r1 (by omega)
    obtain ⟨hvd, h20⟩ := dR_vd (g := g) (z := z) hv s j
    have hg : g (dx z s (j + 1)) % R 20 < R 20 := Nat.mod_lt _ h0
    refine e_iload (pc := 52) dX5_drift_52 rfl ?_
    refine e_iload_n (pc := 54) (i := 2) dX5_drift_54 rfl rfl ?_
    refine e_icmp_ge (pc := 55) (tgt := 103) dX5_drift_55 (by decide) (fun h55 => ?_) (fun h55 => ?_)
    · replace h55 := (nI_leI (by omega) (by omega)).mp h55
      obtain rfl : j = m := by omega
      refine e_iload_n (pc := 103) (i := 3) dX5_drift_103 rfl rfl ?_
      refine e_if_ne (pc := 104) (tgt := 117) dX5_drift_104 (by decide) (fun h104 => ?_) (fun h104 => absurd h104 (by decide))
      refine e_aload_n (pc := 117) (i := 0) dX5_drift_117 rfl rfl ?_
      refine e_getR (pc := 118) dX5_drift_118 (fX5_16 rfl) sh_0 rfl ?_
      refine e_getI (pc := 121) dX5_drift_121 (fX5_163 rfl) sh_6 rfl ?_
      refine E.it (nI (dC g z R s j)) hc ?_
      refine e_iret (pc := 124) (st := []) (ty := .int) dX5_drift_124 rfl rfl ?_
      exact k S hf
    · replace h55 := mt (nI_leI (by omega) (by omega)).mpr h55
      refine e_iload (pc := 58) dX5_drift_58 rfl ?_
      refine e_ldc' (pc := 60) (nI 1103515245) dX5_drift_60 (kcX5_220 rfl) (by decide) ?_
      refine e_imul (pc := 62) dX5_drift_62 ?_
      refine e_sipush' (pc := 63) (nI 12345) dX5_drift_63 (by decide) ?_
      refine e_iadd (pc := 66) dX5_drift_66 ?_
      refine E.it (dx z s (j + 1)) (hz _) ?_
      refine e_istore (pc := 67) dX5_drift_67 (by decide) rfl ?_
      refine e_iload (pc := 69) dX5_drift_69 rfl ?_
      refine e_bipush' (pc := 71) (nI 16) dX5_drift_71 (by decide) ?_
      refine e_iushr (pc := 73) dX5_drift_73 ?_
      refine e_sipush' (pc := 74) (nI 32767) dX5_drift_74 (by decide) ?_
      refine e_iand (pc := 77) dX5_drift_77 ?_
      refine E.it (nI (g (dx z s (j + 1)))) (hgu _) ?_
      refine e_istore (pc := 78) dX5_drift_78 (by decide) rfl ?_
      refine e_aload_n (pc := 80) (i := 0) dX5_drift_80 rfl rfl ?_
      refine e_getR (pc := 81) dX5_drift_81 (fX5_16 rfl) sh_0 rfl ?_
      refine e_iload (pc := 84) dX5_drift_84 rfl ?_
      refine e_aload_n (pc := 86) (i := 0) dX5_drift_86 rfl rfl ?_
      refine e_getR (pc := 87) dX5_drift_87 (fX5_10 rfl) sh_0 rfl ?_
      refine e_getI (pc := 90) dX5_drift_90 (fX5_103 rfl) sh_1 rfl ?_
      refine E.it (nI (R 20)) hr1.1 ?_
      refine e_irem (pc := 93) dX5_drift_93 (by rw [← nI_0, nI_eq (by omega) (by omega)]; omega) ?_
      refine E.it (nI (g (dx z s (j + 1)) % R 20)) (pk_rem (by have := hgl (dx z s (j + 1)); omega) (by omega) (by omega)) ?_
      refine e_callV1 (pc := 94) (M' := mX0_turnFrom) dX5_drift_94 iX0_turnFrom lkX5_140 (by decide) (rO_obj sh_6 rfl) (Nat.le_of_ble_eq_true rfl) (Nat.le_of_ble_eq_true rfl) ?_
      refine sp_turnFrom r6 hvd hr (by omega) (fun S2 a b c => ?_)
      refine e_iinc' (pc := 97) (nI (j + 1)) dX5_drift_97 rfl (by decide) rfl (nI_1 _) ?_
      refine e_goto (pc := 100) (tgt := 52) dX5_drift_100 (by decide) ?_
      exact ih (j + 1) S2 _ (by omega) (by omega) a (by rw [b, hc, nI_add]; rfl) (hf.tr c)
theorem lm_drift1 {sc : PSc} {m : Nat} {s x1 : Int32} {R : Rw} {S0 : PS} {Q : PQ} {g : Int32 → Nat} {z : Int32 → Int32} (hgl : ∀ x, g x < 32768) (hgu : ∀ x : Int32, (x.toUInt32 >>> ((nI 16).toUInt32 &&& Int32.toUInt32 31)).toInt32 &&& nI 32767 = nI (g x)) (hgs : ∀ x : Int32, (x >>> (nI 16 &&& 31)) &&& nI 32767 = nI (g x)) (hz : ∀ x, x * nI 1103515245 + nI 12345 = z x) (hv : Vd R) (h0 : 0 < R 20) (hp0 : PgAt S0 0 R) (hm : m ≤ 200) (k : ∀ S', FrG S0 S' → Q (some (.int (nI (dC g z R s m)))) S') : ∀ (n : Nat) (j : Nat) (S : PS), j ≤ m → m - j < n → PgAt S 88 (dR g z R s j) → S.1 54 14 = nI (dC g z R s j) → FrG S0 S → E sc mX6_drift 55 [.ref 54, .int x1, .int (nI m), .int (nI 1), .int (dx z s j), .int (nI j)] [] S Q := by
  intro n
  induction n with
  | zero => intro j S hj hn hr hc hf; exact absurd hn (by omega)
  | succ n ih =>
    intro j S hj hn hr hc hf
    have h5 := hv.1
    have hp := hf.same.pg (by omega) hv hp0
    obtain ⟨hvd, h20⟩ := dR_vd (g := g) (z := z) hv s j
    have hg : g (dx z s (j + 1)) % R 20 < R 20 := Nat.mod_lt _ h0
    refine e_iload (pc := 55) dX6_drift_55 rfl ?_
    refine e_iload_n (pc := 57) (i := 2) dX6_drift_57 rfl rfl ?_
    refine e_icmp_ge (pc := 58) (tgt := 101) dX6_drift_58 (by decide) (fun h58 => ?_) (fun h58 => ?_)
    · replace h58 := (nI_leI (by omega) (by omega)).mp h58
      obtain rfl : j = m := by omega
      refine e_iload_n (pc := 101) (i := 3) dX6_drift_101 rfl rfl ?_
      refine e_if_ne (pc := 102) (tgt := 114) dX6_drift_102 (by decide) (fun h102 => ?_) (fun h102 => absurd h102 (by decide))
      refine e_aload_n (pc := 114) (i := 0) dX6_drift_114 rfl rfl ?_
      refine e_getI (pc := 115) dX6_drift_115 (fX6_125 rfl) sh_54 rfl ?_
      refine E.it (nI (dC g z R s j)) hc ?_
      refine e_iret (pc := 118) (st := []) (ty := .int) dX6_drift_118 rfl rfl ?_
      exact k S hf
    · replace h58 := mt (nI_leI (by omega) (by omega)).mpr h58
      refine e_iload (pc := 61) dX6_drift_61 rfl ?_
      refine e_ldc' (pc := 63) (nI 1103515245) dX6_drift_63 (kcX6_218 rfl) (by decide) ?_
      refine e_imul (pc := 65) dX6_drift_65 ?_
      refine e_sipush' (pc := 66) (nI 12345) dX6_drift_66 (by decide) ?_
      refine e_iadd (pc := 69) dX6_drift_69 ?_
      refine E.it (dx z s (j + 1)) (hz _) ?_
      refine e_istore (pc := 70) dX6_drift_70 (by decide) rfl ?_
      refine e_aload_n (pc := 72) (i := 0) dX6_drift_72 rfl rfl ?_
      refine e_bipush' (pc := 73) (nI 88) dX6_drift_73 (by decide) ?_
      refine e_iload (pc := 75) dX6_drift_75 rfl ?_
      refine e_bipush' (pc := 77) (nI 16) dX6_drift_77 (by decide) ?_
      refine e_ishr (pc := 79) dX6_drift_79 ?_
      refine e_sipush' (pc := 80) (nI 32767) dX6_drift_80 (by decide) ?_
      refine e_iand (pc := 83) dX6_drift_83 ?_
      refine E.it (nI (g (dx z s (j + 1)))) (hgs _) ?_
      refine e_aload_n (pc := 84) (i := 0) dX6_drift_84 rfl rfl ?_
      refine e_getR (pc := 85) dX6_drift_85 (fX6_7 rfl) sh_54 rfl ?_
      refine e_bipush' (pc := 88) (nI 20) dX6_drift_88 (by decide) ?_
      refine e_iald (pc := 90) dX6_drift_90 sh_55 (vp_in_nI (by omega) (by omega)) ?_
      refine E.it (nI (R 20)) (pgn (p := 0) (by omega) hp) ?_
      refine e_irem (pc := 91) dX6_drift_91 (by rw [← nI_0, nI_eq (by omega) (by omega)]; omega) ?_
      refine E.it (nI (g (dx z s (j + 1)) % R 20)) (pk_rem (by have := hgl (dx z s (j + 1)); omega) (by omega) (by omega)) ?_
      refine e_callV2 (pc := 92) (M' := mX6_turnedOn) dX6_drift_92 iX6_turnedOn lkX6_131 (by decide) (rO_obj sh_54 rfl) (Nat.le_of_ble_eq_true rfl) (Nat.le_of_ble_eq_true rfl) ?_
      refine sp_turnedOn (p := 88) (by omega) hvd hr (by omega) (fun S2 a b c => ?_)
      refine e_iinc' (pc := 95) (nI (j + 1)) dX6_drift_95 rfl (by decide) rfl (nI_1 _) ?_
      refine e_goto (pc := 98) (tgt := 55) dX6_drift_98 (by decide) ?_
      exact ih (j + 1) S2 (by omega) (by omega) a (by rw [b, hc, nI_add]; rfl) (hf.tr c.G)
theorem b_drift {sc : PSc} {S : PS} (hI : InvS S) (s x y : Int32) : Bth sc mX5_drift mX6_drift [.int s, .int x, .int y] S := by
  obtain ⟨R, hv, hc, hr, hp⟩ := hI.1
  have hv5 := hv.1
  obtain ⟨g, hgl, hgu, hgs⟩ : ∃ g : Int32 → Nat, (∀ x, g x < 32768) ∧ (∀ x : Int32, (x.toUInt32 >>> ((nI 16).toUInt32 &&& Int32.toUInt32 31)).toInt32 &&& nI 32767 = nI (g x)) ∧ (∀ x : Int32, (x >>> (nI 16 &&& 31)) &&& nI 32767 = nI (g x)) := ⟨gt, gt_lt, gt_u, gt_s⟩
  obtain ⟨z, hz⟩ : ∃ z : Int32 → Int32, ∀ x, x * nI 1103515245 + nI 12345 = z x := ⟨_, fun _ => rfl⟩
  rcases Classical.em (inr x 1 200) with ⟨m, rfl, hm1, hm⟩ | hn
  · rcases Classical.em (inr y 0 1) with ⟨a, rfl, -, ha⟩ | hn
    · by_cases h0 : 0 < R 20
      · rcases (show a = 0 ∨ a = 1 by omega) with rfl | rfl
        · refine ask_both (nI (reads (dR g z R s m))) hI (fun Q k => ?_) (fun S1 h1 Q k => ?_)
          · show E sc mX5_drift 0 [.ref 0, .int s, .int (nI m), .int (nI 0), .null, .null, .null] [] S Q
            refine e_iload_n (pc := 0) (i := 2) dX5_drift_0 rfl rfl ?_
            refine e_iconst' (pc := 1) (nI 1) dX5_drift_1 (by decide) ?_
            refine e_sipush' (pc := 2) (nI 200) dX5_drift_2 (by decide) ?_
            refine e_callS3 (pc := 5) (M' := mX5_within) dX5_drift_5 jX5_within lkX5_70 (by decide) (Nat.le_of_ble_eq_true rfl) (Nat.le_of_ble_eq_true rfl) ?_
            refine sp_winY (by omega) (by omega) (by omega) ?_
            refine e_if_eq (pc := 8) (tgt := 20) dX5_drift_8 (by decide) (fun h8 => absurd h8 (by decide)) (fun h8 => ?_)
            refine e_iload_n (pc := 11) (i := 3) dX5_drift_11 rfl rfl ?_
            refine e_iconst' (pc := 12) (nI 0) dX5_drift_12 (by decide) ?_
            refine e_iconst' (pc := 13) (nI 1) dX5_drift_13 (by decide) ?_
            refine e_callS3 (pc := 14) (M' := mX5_within) dX5_drift_14 jX5_within lkX5_70 (by decide) (Nat.le_of_ble_eq_true rfl) (Nat.le_of_ble_eq_true rfl) ?_
            refine sp_winY (by omega) (by omega) (by omega) ?_
            refine e_if_ne (pc := 17) (tgt := 22) dX5_drift_17 (by decide) (fun h17 => ?_) (fun h17 => absurd h17 (by decide))
            refine e_aload_n (pc := 22) (i := 0) dX5_drift_22 rfl rfl ?_
            refine e_getR (pc := 23) dX5_drift_23 (fX5_10 rfl) sh_0 rfl ?_
            refine e_getI (pc := 26) dX5_drift_26 (fX5_103 rfl) sh_1 rfl ?_
            refine E.it (nI (R 20)) hr.1 ?_
            refine e_if_ne (pc := 29) (tgt := 35) dX5_drift_29 (by decide) (fun h29 => ?_) (fun h29 => absurd ((nI_eq (by omega) (by omega)).mp (h29.trans nI_0.symm)) (by omega))
            refine e_aload_n (pc := 35) (i := 0) dX5_drift_35 rfl rfl ?_
            refine e_getR (pc := 36) dX5_drift_36 (fX5_16 rfl) sh_0 rfl ?_
            refine e_aload_n (pc := 39) (i := 0) dX5_drift_39 rfl rfl ?_
            refine e_getR (pc := 40) dX5_drift_40 (fX5_10 rfl) sh_0 rfl ?_
            refine e_callV1 (pc := 43) (M' := mX0_copyOf) dX5_drift_43 iX0_copyOf lkX5_90 (by decide) (rO_obj sh_6 rfl) (Nat.le_of_ble_eq_true rfl) (Nat.le_of_ble_eq_true rfl) ?_
            refine sp_copyOf r6 r1 (by omega) hv hr (fun S1 ht hc0 hf => ?_)
            refine e_iload_n (pc := 46) (i := 1) dX5_drift_46 rfl rfl ?_
            refine e_istore (pc := 47) dX5_drift_47 (by decide) rfl ?_
            refine e_iconst' (pc := 49) (nI 0) dX5_drift_49 (by decide) ?_
            refine e_istore (pc := 50) dX5_drift_50 (by decide) rfl ?_
            exact lp_drift0 hgl hgu hgs hz hv h0 hr hm (fun S2 h2 => k S2 h2.same) (m + 1) 0 S1 _ (by omega) (by omega) ht hc0 hf
          · show E sc mX6_drift 0 [.ref 54, .int s, .int (nI m), .int (nI 0), .null, .null] [] S1 Q
            have hp := h1.pg (by omega) hv hp
            have hr := h1.row (by omega) hr
            refine e_iload_n (pc := 0) (i := 2) dX6_drift_0 rfl rfl ?_
            refine e_i2l (pc := 1) dX6_drift_1 ?_
            refine e_lconst' (pc := 2) (lN 1) dX6_drift_2 (by decide) ?_
            refine e_ldc2 (pc := 3) dX6_drift_3 (klX6_185 rfl) ?_
            refine e_callS3 (pc := 6) (M' := mX6_in) dX6_drift_6 jX6_in lkX6_46 (by decide) (Nat.le_of_ble_eq_true rfl) (Nat.le_of_ble_eq_true rfl) ?_
            refine sp_inY (lo := 1) (hi := 200) (by decide) (by decide) (by omega) (by omega) (by omega) ?_
            refine e_if_eq (pc := 9) (tgt := 22) dX6_drift_9 (by decide) (fun h9 => absurd h9 (by decide)) (fun h9 => ?_)
            refine e_iload_n (pc := 12) (i := 3) dX6_drift_12 rfl rfl ?_
            refine e_i2l (pc := 13) dX6_drift_13 ?_
            refine e_lconst' (pc := 14) (lN 0) dX6_drift_14 (by decide) ?_
            refine e_lconst' (pc := 15) (lN 1) dX6_drift_15 (by decide) ?_
            refine e_callS3 (pc := 16) (M' := mX6_in) dX6_drift_16 jX6_in lkX6_46 (by decide) (Nat.le_of_ble_eq_true rfl) (Nat.le_of_ble_eq_true rfl) ?_
            refine sp_inY (lo := 0) (hi := 1) (by decide) (by decide) (by omega) (by omega) (by omega) ?_
            refine e_if_ne (pc := 19) (tgt := 24) dX6_drift_19 (by decide) (fun h19 => ?_) (fun h19 => absurd h19 (by decide))
            refine e_aload_n (pc := 24) (i := 0) dX6_drift_24 rfl rfl ?_
            refine e_getR (pc := 25) dX6_drift_25 (fX6_7 rfl) sh_54 rfl ?_
            refine e_bipush' (pc := 28) (nI 20) dX6_drift_28 (by decide) ?_
            refine e_iald (pc := 30) dX6_drift_30 sh_55 (vp_in_nI (by omega) (by omega)) ?_
            refine E.it (nI (R 20)) (pgn (p := 0) (by omega) hp) ?_
            refine e_if_ne (pc := 31) (tgt := 37) dX6_drift_31 (by decide) (fun h31 => ?_) (fun h31 => absurd ((nI_eq (by omega) (by omega)).mp (h31.trans nI_0.symm)) (by omega))
            refine e_aload_n (pc := 37) (i := 0) dX6_drift_37 rfl rfl ?_
            refine e_iconst' (pc := 38) (nI 0) dX6_drift_38 (by decide) ?_
            refine e_bipush' (pc := 39) (nI 88) dX6_drift_39 (by decide) ?_
            refine e_callV2 (pc := 41) (M' := mX6_copies) dX6_drift_41 iX6_copies lkX6_167 (by decide) (rO_obj sh_54 rfl) (Nat.le_of_ble_eq_true rfl) (Nat.le_of_ble_eq_true rfl) ?_
            refine sp_copyPg (b := 88) (by omega) (by omega) (by omega) hv hp (fun S2 a f => ?_)
            refine e_aload_n (pc := 44) (i := 0) dX6_drift_44 rfl rfl ?_
            refine e_iconst' (pc := 45) (nI 0) dX6_drift_45 (by decide) ?_
            refine e_putI (pc := 46) dX6_drift_46 (pX6_125 rfl) sh_54 rfl (fun h => by cases h) ?_
            refine e_iload_n (pc := 49) (i := 1) dX6_drift_49 rfl rfl ?_
            refine e_istore (pc := 50) dX6_drift_50 (by decide) rfl ?_
            refine e_iconst' (pc := 52) (nI 0) dX6_drift_52 (by decide) ?_
            refine e_istore (pc := 53) dX6_drift_53 (by decide) rfl ?_
            exact lm_drift0 hgl hgu hgs hz hv h0 hp hm (fun S3 h3 => k S3 h3.same) (m + 1) 0 _ (by omega) (by omega) (PgAt.car a) rfl (f.G.up (by omega))
        · refine ask_both (nI (dC g z R s m)) hI (fun Q k => ?_) (fun S1 h1 Q k => ?_)
          · show E sc mX5_drift 0 [.ref 0, .int s, .int (nI m), .int (nI 1), .null, .null, .null] [] S Q
            refine e_iload_n (pc := 0) (i := 2) dX5_drift_0 rfl rfl ?_
            refine e_iconst' (pc := 1) (nI 1) dX5_drift_1 (by decide) ?_
            refine e_sipush' (pc := 2) (nI 200) dX5_drift_2 (by decide) ?_
            refine e_callS3 (pc := 5) (M' := mX5_within) dX5_drift_5 jX5_within lkX5_70 (by decide) (Nat.le_of_ble_eq_true rfl) (Nat.le_of_ble_eq_true rfl) ?_
            refine sp_winY (by omega) (by omega) (by omega) ?_
            refine e_if_eq (pc := 8) (tgt := 20) dX5_drift_8 (by decide) (fun h8 => absurd h8 (by decide)) (fun h8 => ?_)
            refine e_iload_n (pc := 11) (i := 3) dX5_drift_11 rfl rfl ?_
            refine e_iconst' (pc := 12) (nI 0) dX5_drift_12 (by decide) ?_
            refine e_iconst' (pc := 13) (nI 1) dX5_drift_13 (by decide) ?_
            refine e_callS3 (pc := 14) (M' := mX5_within) dX5_drift_14 jX5_within lkX5_70 (by decide) (Nat.le_of_ble_eq_true rfl) (Nat.le_of_ble_eq_true rfl) ?_
            refine sp_winY (by omega) (by omega) (by omega) ?_
            refine e_if_ne (pc := 17) (tgt := 22) dX5_drift_17 (by decide) (fun h17 => ?_) (fun h17 => absurd h17 (by decide))
            refine e_aload_n (pc := 22) (i := 0) dX5_drift_22 rfl rfl ?_
            refine e_getR (pc := 23) dX5_drift_23 (fX5_10 rfl) sh_0 rfl ?_
            refine e_getI (pc := 26) dX5_drift_26 (fX5_103 rfl) sh_1 rfl ?_
            refine E.it (nI (R 20)) hr.1 ?_
            refine e_if_ne (pc := 29) (tgt := 35) dX5_drift_29 (by decide) (fun h29 => ?_) (fun h29 => absurd ((nI_eq (by omega) (by omega)).mp (h29.trans nI_0.symm)) (by omega))
            refine e_aload_n (pc := 35) (i := 0) dX5_drift_35 rfl rfl ?_
            refine e_getR (pc := 36) dX5_drift_36 (fX5_16 rfl) sh_0 rfl ?_
            refine e_aload_n (pc := 39) (i := 0) dX5_drift_39 rfl rfl ?_
            refine e_getR (pc := 40) dX5_drift_40 (fX5_10 rfl) sh_0 rfl ?_
            refine e_callV1 (pc := 43) (M' := mX0_copyOf) dX5_drift_43 iX0_copyOf lkX5_90 (by decide) (rO_obj sh_6 rfl) (Nat.le_of_ble_eq_true rfl) (Nat.le_of_ble_eq_true rfl) ?_
            refine sp_copyOf r6 r1 (by omega) hv hr (fun S1 ht hc0 hf => ?_)
            refine e_iload_n (pc := 46) (i := 1) dX5_drift_46 rfl rfl ?_
            refine e_istore (pc := 47) dX5_drift_47 (by decide) rfl ?_
            refine e_iconst' (pc := 49) (nI 0) dX5_drift_49 (by decide) ?_
            refine e_istore (pc := 50) dX5_drift_50 (by decide) rfl ?_
            exact lp_drift1 hgl hgu hgs hz hv h0 hr hm (fun S2 h2 => k S2 h2.same) (m + 1) 0 S1 _ (by omega) (by omega) ht hc0 hf
          · show E sc mX6_drift 0 [.ref 54, .int s, .int (nI m), .int (nI 1), .null, .null] [] S1 Q
            have hp := h1.pg (by omega) hv hp
            have hr := h1.row (by omega) hr
            refine e_iload_n (pc := 0) (i := 2) dX6_drift_0 rfl rfl ?_
            refine e_i2l (pc := 1) dX6_drift_1 ?_
            refine e_lconst' (pc := 2) (lN 1) dX6_drift_2 (by decide) ?_
            refine e_ldc2 (pc := 3) dX6_drift_3 (klX6_185 rfl) ?_
            refine e_callS3 (pc := 6) (M' := mX6_in) dX6_drift_6 jX6_in lkX6_46 (by decide) (Nat.le_of_ble_eq_true rfl) (Nat.le_of_ble_eq_true rfl) ?_
            refine sp_inY (lo := 1) (hi := 200) (by decide) (by decide) (by omega) (by omega) (by omega) ?_
            refine e_if_eq (pc := 9) (tgt := 22) dX6_drift_9 (by decide) (fun h9 => absurd h9 (by decide)) (fun h9 => ?_)
            refine e_iload_n (pc := 12) (i := 3) dX6_drift_12 rfl rfl ?_
            refine e_i2l (pc := 13) dX6_drift_13 ?_
            refine e_lconst' (pc := 14) (lN 0) dX6_drift_14 (by decide) ?_
            refine e_lconst' (pc := 15) (lN 1) dX6_drift_15 (by decide) ?_
            refine e_callS3 (pc := 16) (M' := mX6_in) dX6_drift_16 jX6_in lkX6_46 (by decide) (Nat.le_of_ble_eq_true rfl) (Nat.le_of_ble_eq_true rfl) ?_
            refine sp_inY (lo := 0) (hi := 1) (by decide) (by decide) (by omega) (by omega) (by omega) ?_
            refine e_if_ne (pc := 19) (tgt := 24) dX6_drift_19 (by decide) (fun h19 => ?_) (fun h19 => absurd h19 (by decide))
            refine e_aload_n (pc := 24) (i := 0) dX6_drift_24 rfl rfl ?_
            refine e_getR (pc := 25) dX6_drift_25 (fX6_7 rfl) sh_54 rfl ?_
            refine e_bipush' (pc := 28) (nI 20) dX6_drift_28 (by decide) ?_
            refine e_iald (pc := 30) dX6_drift_30 sh_55 (vp_in_nI (by omega) (by omega)) ?_
            refine E.it (nI (R 20)) (pgn (p := 0) (by omega) hp) ?_
            refine e_if_ne (pc := 31) (tgt := 37) dX6_drift_31 (by decide) (fun h31 => ?_) (fun h31 => absurd ((nI_eq (by omega) (by omega)).mp (h31.trans nI_0.symm)) (by omega))
            refine e_aload_n (pc := 37) (i := 0) dX6_drift_37 rfl rfl ?_
            refine e_iconst' (pc := 38) (nI 0) dX6_drift_38 (by decide) ?_
            refine e_bipush' (pc := 39) (nI 88) dX6_drift_39 (by decide) ?_
            refine e_callV2 (pc := 41) (M' := mX6_copies) dX6_drift_41 iX6_copies lkX6_167 (by decide) (rO_obj sh_54 rfl) (Nat.le_of_ble_eq_true rfl) (Nat.le_of_ble_eq_true rfl) ?_
            refine sp_copyPg (b := 88) (by omega) (by omega) (by omega) hv hp (fun S2 a f => ?_)
            refine e_aload_n (pc := 44) (i := 0) dX6_drift_44 rfl rfl ?_
            refine e_iconst' (pc := 45) (nI 0) dX6_drift_45 (by decide) ?_
            refine e_putI (pc := 46) dX6_drift_46 (pX6_125 rfl) sh_54 rfl (fun h => by cases h) ?_
            refine e_iload_n (pc := 49) (i := 1) dX6_drift_49 rfl rfl ?_
            refine e_istore (pc := 50) dX6_drift_50 (by decide) rfl ?_
            refine e_iconst' (pc := 52) (nI 0) dX6_drift_52 (by decide) ?_
            refine e_istore (pc := 53) dX6_drift_53 (by decide) rfl ?_
            exact lm_drift1 hgl hgu hgs hz hv h0 hp hm (fun S3 h3 => k S3 h3.same) (m + 1) 0 _ (by omega) (by omega) (PgAt.car a) rfl (f.G.up (by omega))
      · refine ask_both (-2) hI (fun Q k => ?_) (fun S1 h1 Q k => ?_)
        · show E sc mX5_drift 0 [.ref 0, .int s, .int (nI m), .int (nI a), .null, .null, .null] [] S Q
          refine e_iload_n (pc := 0) (i := 2) dX5_drift_0 rfl rfl ?_
          refine e_iconst' (pc := 1) (nI 1) dX5_drift_1 (by decide) ?_
          refine e_sipush' (pc := 2) (nI 200) dX5_drift_2 (by decide) ?_
          refine e_callS3 (pc := 5) (M' := mX5_within) dX5_drift_5 jX5_within lkX5_70 (by decide) (Nat.le_of_ble_eq_true rfl) (Nat.le_of_ble_eq_true rfl) ?_
          refine sp_winY (by omega) (by omega) (by omega) ?_
          refine e_if_eq (pc := 8) (tgt := 20) dX5_drift_8 (by decide) (fun h8 => absurd h8 (by decide)) (fun h8 => ?_)
          refine e_iload_n (pc := 11) (i := 3) dX5_drift_11 rfl rfl ?_
          refine e_iconst' (pc := 12) (nI 0) dX5_drift_12 (by decide) ?_
          refine e_iconst' (pc := 13) (nI 1) dX5_drift_13 (by decide) ?_
          refine e_callS3 (pc := 14) (M' := mX5_within) dX5_drift_14 jX5_within lkX5_70 (by decide) (Nat.le_of_ble_eq_true rfl) (Nat.le_of_ble_eq_true rfl) ?_
          refine sp_winY (by omega) (by omega) (by omega) ?_
          refine e_if_ne (pc := 17) (tgt := 22) dX5_drift_17 (by decide) (fun h17 => ?_) (fun h17 => absurd h17 (by decide))
          refine e_aload_n (pc := 22) (i := 0) dX5_drift_22 rfl rfl ?_
          refine e_getR (pc := 23) dX5_drift_23 (fX5_10 rfl) sh_0 rfl ?_
          refine e_getI (pc := 26) dX5_drift_26 (fX5_103 rfl) sh_1 rfl ?_
          refine E.it (nI 0) (hr.1.trans (by rw [show R 20 = 0 by omega])) ?_
          refine e_if_ne (pc := 29) (tgt := 35) dX5_drift_29 (by decide) (fun h29 => absurd (by decide) h29) (fun h29 => ?_)
          refine e_bipush' (pc := 32) (-2) dX5_drift_32 (by decide) ?_
          refine e_iret (pc := 34) (st := []) (ty := .int) dX5_drift_34 rfl rfl ?_
          exact k _ Same.rf
        · show E sc mX6_drift 0 [.ref 54, .int s, .int (nI m), .int (nI a), .null, .null] [] S1 Q
          have hp := h1.pg (by omega) hv hp
          have hr := h1.row (by omega) hr
          refine e_iload_n (pc := 0) (i := 2) dX6_drift_0 rfl rfl ?_
          refine e_i2l (pc := 1) dX6_drift_1 ?_
          refine e_lconst' (pc := 2) (lN 1) dX6_drift_2 (by decide) ?_
          refine e_ldc2 (pc := 3) dX6_drift_3 (klX6_185 rfl) ?_
          refine e_callS3 (pc := 6) (M' := mX6_in) dX6_drift_6 jX6_in lkX6_46 (by decide) (Nat.le_of_ble_eq_true rfl) (Nat.le_of_ble_eq_true rfl) ?_
          refine sp_inY (lo := 1) (hi := 200) (by decide) (by decide) (by omega) (by omega) (by omega) ?_
          refine e_if_eq (pc := 9) (tgt := 22) dX6_drift_9 (by decide) (fun h9 => absurd h9 (by decide)) (fun h9 => ?_)
          refine e_iload_n (pc := 12) (i := 3) dX6_drift_12 rfl rfl ?_
          refine e_i2l (pc := 13) dX6_drift_13 ?_
          refine e_lconst' (pc := 14) (lN 0) dX6_drift_14 (by decide) ?_
          refine e_lconst' (pc := 15) (lN 1) dX6_drift_15 (by decide) ?_
          refine e_callS3 (pc := 16) (M' := mX6_in) dX6_drift_16 jX6_in lkX6_46 (by decide) (Nat.le_of_ble_eq_true rfl) (Nat.le_of_ble_eq_true rfl) ?_
          refine sp_inY (lo := 0) (hi := 1) (by decide) (by decide) (by omega) (by omega) (by omega) ?_
          refine e_if_ne (pc := 19) (tgt := 24) dX6_drift_19 (by decide) (fun h19 => ?_) (fun h19 => absurd h19 (by decide))
          refine e_aload_n (pc := 24) (i := 0) dX6_drift_24 rfl rfl ?_
          refine e_getR (pc := 25) dX6_drift_25 (fX6_7 rfl) sh_54 rfl ?_
          refine e_bipush' (pc := 28) (nI 20) dX6_drift_28 (by decide) ?_
          refine e_iald (pc := 30) dX6_drift_30 sh_55 (vp_in_nI (by omega) (by omega)) ?_
          refine E.it (nI 0) ((pgn (p := 0) (by omega) hp).trans (by rw [show R 20 = 0 by omega])) ?_
          refine e_if_ne (pc := 31) (tgt := 37) dX6_drift_31 (by decide) (fun h31 => absurd (by decide) h31) (fun h31 => ?_)
          refine e_bipush' (pc := 34) (-2) dX6_drift_34 (by decide) ?_
          refine e_iret (pc := 36) (st := []) (ty := .int) dX6_drift_36 rfl rfl ?_
          exact k _ Same.rf
    · refine ask_both (-1) hI (fun Q k => ?_) (fun S1 h1 Q k => ?_)
      · show E sc mX5_drift 0 [.ref 0, .int s, .int (nI m), .int y, .null, .null, .null] [] S Q
        refine e_iload_n (pc := 0) (i := 2) dX5_drift_0 rfl rfl ?_
        refine e_iconst' (pc := 1) (nI 1) dX5_drift_1 (by decide) ?_
        refine e_sipush' (pc := 2) (nI 200) dX5_drift_2 (by decide) ?_
        refine e_callS3 (pc := 5) (M' := mX5_within) dX5_drift_5 jX5_within lkX5_70 (by decide) (Nat.le_of_ble_eq_true rfl) (Nat.le_of_ble_eq_true rfl) ?_
        refine sp_winY (by omega) (by omega) (by omega) ?_
        refine e_if_eq (pc := 8) (tgt := 20) dX5_drift_8 (by decide) (fun h8 => absurd h8 (by decide)) (fun h8 => ?_)
        refine e_iload_n (pc := 11) (i := 3) dX5_drift_11 rfl rfl ?_
        refine e_iconst' (pc := 12) (nI 0) dX5_drift_12 (by decide) ?_
        refine e_iconst' (pc := 13) (nI 1) dX5_drift_13 (by decide) ?_
        refine e_callS3 (pc := 14) (M' := mX5_within) dX5_drift_14 jX5_within lkX5_70 (by decide) (Nat.le_of_ble_eq_true rfl) (Nat.le_of_ble_eq_true rfl) ?_
        refine sp_winX hn (by omega) (by omega) ?_
        refine e_if_ne (pc := 17) (tgt := 22) dX5_drift_17 (by decide) (fun h17 => absurd (by decide) h17) (fun h17 => ?_)
        refine e_iconst' (pc := 20) (-1) dX5_drift_20 (by decide) ?_
        refine e_iret (pc := 21) (st := []) (ty := .int) dX5_drift_21 rfl rfl ?_
        exact k _ Same.rf
      · show E sc mX6_drift 0 [.ref 54, .int s, .int (nI m), .int y, .null, .null] [] S1 Q
        have hp := h1.pg (by omega) hv hp
        have hr := h1.row (by omega) hr
        refine e_iload_n (pc := 0) (i := 2) dX6_drift_0 rfl rfl ?_
        refine e_i2l (pc := 1) dX6_drift_1 ?_
        refine e_lconst' (pc := 2) (lN 1) dX6_drift_2 (by decide) ?_
        refine e_ldc2 (pc := 3) dX6_drift_3 (klX6_185 rfl) ?_
        refine e_callS3 (pc := 6) (M' := mX6_in) dX6_drift_6 jX6_in lkX6_46 (by decide) (Nat.le_of_ble_eq_true rfl) (Nat.le_of_ble_eq_true rfl) ?_
        refine sp_inY (lo := 1) (hi := 200) (by decide) (by decide) (by omega) (by omega) (by omega) ?_
        refine e_if_eq (pc := 9) (tgt := 22) dX6_drift_9 (by decide) (fun h9 => absurd h9 (by decide)) (fun h9 => ?_)
        refine e_iload_n (pc := 12) (i := 3) dX6_drift_12 rfl rfl ?_
        refine e_i2l (pc := 13) dX6_drift_13 ?_
        refine e_lconst' (pc := 14) (lN 0) dX6_drift_14 (by decide) ?_
        refine e_lconst' (pc := 15) (lN 1) dX6_drift_15 (by decide) ?_
        refine e_callS3 (pc := 16) (M' := mX6_in) dX6_drift_16 jX6_in lkX6_46 (by decide) (Nat.le_of_ble_eq_true rfl) (Nat.le_of_ble_eq_true rfl) ?_
        refine sp_inX (lo := 0) (hi := 1) (by decide) (by decide) hn ?_
        refine e_if_ne (pc := 19) (tgt := 24) dX6_drift_19 (by decide) (fun h19 => absurd (by decide) h19) (fun h19 => ?_)
        refine e_iconst' (pc := 22) (-1) dX6_drift_22 (by decide) ?_
        refine e_iret (pc := 23) (st := []) (ty := .int) dX6_drift_23 rfl rfl ?_
        exact k _ Same.rf
  · refine ask_both (-1) hI (fun Q k => ?_) (fun S1 h1 Q k => ?_)
    · show E sc mX5_drift 0 [.ref 0, .int s, .int x, .int y, .null, .null, .null] [] S Q
      refine e_iload_n (pc := 0) (i := 2) dX5_drift_0 rfl rfl ?_
      refine e_iconst' (pc := 1) (nI 1) dX5_drift_1 (by decide) ?_
      refine e_sipush' (pc := 2) (nI 200) dX5_drift_2 (by decide) ?_
      refine e_callS3 (pc := 5) (M' := mX5_within) dX5_drift_5 jX5_within lkX5_70 (by decide) (Nat.le_of_ble_eq_true rfl) (Nat.le_of_ble_eq_true rfl) ?_
      refine sp_winX hn (by omega) (by omega) ?_
      refine e_if_eq (pc := 8) (tgt := 20) dX5_drift_8 (by decide) (fun h8 => ?_) (fun h8 => absurd (by decide) h8)
      refine e_iconst' (pc := 20) (-1) dX5_drift_20 (by decide) ?_
      refine e_iret (pc := 21) (st := []) (ty := .int) dX5_drift_21 rfl rfl ?_
      exact k _ Same.rf
    · show E sc mX6_drift 0 [.ref 54, .int s, .int x, .int y, .null, .null] [] S1 Q
      have hp := h1.pg (by omega) hv hp
      have hr := h1.row (by omega) hr
      refine e_iload_n (pc := 0) (i := 2) dX6_drift_0 rfl rfl ?_
      refine e_i2l (pc := 1) dX6_drift_1 ?_
      refine e_lconst' (pc := 2) (lN 1) dX6_drift_2 (by decide) ?_
      refine e_ldc2 (pc := 3) dX6_drift_3 (klX6_185 rfl) ?_
      refine e_callS3 (pc := 6) (M' := mX6_in) dX6_drift_6 jX6_in lkX6_46 (by decide) (Nat.le_of_ble_eq_true rfl) (Nat.le_of_ble_eq_true rfl) ?_
      refine sp_inX (lo := 1) (hi := 200) (by decide) (by decide) hn ?_
      refine e_if_eq (pc := 9) (tgt := 22) dX6_drift_9 (by decide) (fun h9 => ?_) (fun h9 => absurd (by decide) h9)
      refine e_iconst' (pc := 22) (-1) dX6_drift_22 (by decide) ?_
      refine e_iret (pc := 23) (st := []) (ty := .int) dX6_drift_23 rfl rfl ?_
      exact k _ Same.rf

theorem altS_c {R : Rw} {w what v : Int32} (hv : Vd R) : (altS R w what v).2 21 = R 21 := by
  have h5 := hv.1
  unfold altS
  split
  next h =>
    split
    · exact rs_ne _ _ (by have := h.1; have := h.2.1; omega)
    · rfl
  next => rfl
theorem lp_altY0 {sc : PSc} {b : Nat} {w : Int32} {S : PS} {Q : PQ} (h1 : 0 ≤ b) (h2 : b ≤ 3) (k : E sc mX6_alters 69 [.ref 54, .int w, .int (nI 0), .int (nI b), .null, .null, .null, .null, .null, .null] [.int (nI 1)] S Q) : E sc mX6_alters 0 [.ref 54, .int w, .int (nI 0), .int (nI b), .null, .null, .null, .null, .null, .null] [] S Q := by
  refine e_iload_n (pc := 0) (i := 2) dX6_alters_0 rfl rfl ?_
  refine e_if_ne (pc := 1) (tgt := 16) dX6_alters_1 (by decide) (fun h1 => absurd (by decide) h1) (fun h1 => ?_)
  refine e_iload_n (pc := 4) (i := 3) dX6_alters_4 rfl rfl ?_
  refine e_i2l (pc := 5) dX6_alters_5 ?_
  refine e_lconst' (pc := 6) (lN 0) dX6_alters_6 (by decide) ?_
  refine e_ldc2 (pc := 7) dX6_alters_7 (klX6_148 rfl) ?_
  refine e_callS3 (pc := 10) (M' := mX6_in) dX6_alters_10 jX6_in lkX6_46 (by decide) (Nat.le_of_ble_eq_true rfl) (Nat.le_of_ble_eq_true rfl) ?_
  refine sp_inY (lo := 0) (hi := 3) (by decide) (by decide) (by omega) (by omega) (by omega) ?_
  refine e_goto (pc := 13) (tgt := 69) dX6_alters_13 (by decide) ?_
  exact k
theorem lp_altN0 {sc : PSc} {w v : Int32} {S : PS} {Q : PQ} (hn : ¬ inr v 0 3) (k : E sc mX6_alters 69 [.ref 54, .int w, .int (nI 0), .int v, .null, .null, .null, .null, .null, .null] [.int (nI 0)] S Q) : E sc mX6_alters 0 [.ref 54, .int w, .int (nI 0), .int v, .null, .null, .null, .null, .null, .null] [] S Q := by
  refine e_iload_n (pc := 0) (i := 2) dX6_alters_0 rfl rfl ?_
  refine e_if_ne (pc := 1) (tgt := 16) dX6_alters_1 (by decide) (fun h1 => absurd (by decide) h1) (fun h1 => ?_)
  refine e_iload_n (pc := 4) (i := 3) dX6_alters_4 rfl rfl ?_
  refine e_i2l (pc := 5) dX6_alters_5 ?_
  refine e_lconst' (pc := 6) (lN 0) dX6_alters_6 (by decide) ?_
  refine e_ldc2 (pc := 7) dX6_alters_7 (klX6_148 rfl) ?_
  refine e_callS3 (pc := 10) (M' := mX6_in) dX6_alters_10 jX6_in lkX6_46 (by decide) (Nat.le_of_ble_eq_true rfl) (Nat.le_of_ble_eq_true rfl) ?_
  refine sp_inX (lo := 0) (hi := 3) (by decide) (by decide) hn ?_
  refine e_goto (pc := 13) (tgt := 69) dX6_alters_13 (by decide) ?_
  exact k
theorem lp_altY1 {sc : PSc} {b : Nat} {w : Int32} {S : PS} {Q : PQ} (h1 : 2 ≤ b) (h2 : b ≤ 12) (k : E sc mX6_alters 69 [.ref 54, .int w, .int (nI 1), .int (nI b), .null, .null, .null, .null, .null, .null] [.int (nI 1)] S Q) : E sc mX6_alters 0 [.ref 54, .int w, .int (nI 1), .int (nI b), .null, .null, .null, .null, .null, .null] [] S Q := by
  refine e_iload_n (pc := 0) (i := 2) dX6_alters_0 rfl rfl ?_
  refine e_if_ne (pc := 1) (tgt := 16) dX6_alters_1 (by decide) (fun h1 => ?_) (fun h1 => absurd h1 (by decide))
  refine e_iload_n (pc := 16) (i := 2) dX6_alters_16 rfl rfl ?_
  refine e_iconst' (pc := 17) (nI 1) dX6_alters_17 (by decide) ?_
  refine e_icmp_ne (pc := 18) (tgt := 35) dX6_alters_18 (by decide) (fun h18 => absurd (by decide) h18) (fun h18 => ?_)
  refine e_iload_n (pc := 21) (i := 3) dX6_alters_21 rfl rfl ?_
  refine e_i2l (pc := 22) dX6_alters_22 ?_
  refine e_ldc2 (pc := 23) dX6_alters_23 (klX6_150 rfl) ?_
  refine e_ldc2 (pc := 26) dX6_alters_26 (klX6_152 rfl) ?_
  refine e_callS3 (pc := 29) (M' := mX6_in) dX6_alters_29 jX6_in lkX6_46 (by decide) (Nat.le_of_ble_eq_true rfl) (Nat.le_of_ble_eq_true rfl) ?_
  refine sp_inY (lo := 2) (hi := 12) (by decide) (by decide) (by omega) (by omega) (by omega) ?_
  refine e_goto (pc := 32) (tgt := 69) dX6_alters_32 (by decide) ?_
  exact k
theorem lp_altN1 {sc : PSc} {w v : Int32} {S : PS} {Q : PQ} (hn : ¬ inr v 2 12) (k : E sc mX6_alters 69 [.ref 54, .int w, .int (nI 1), .int v, .null, .null, .null, .null, .null, .null] [.int (nI 0)] S Q) : E sc mX6_alters 0 [.ref 54, .int w, .int (nI 1), .int v, .null, .null, .null, .null, .null, .null] [] S Q := by
  refine e_iload_n (pc := 0) (i := 2) dX6_alters_0 rfl rfl ?_
  refine e_if_ne (pc := 1) (tgt := 16) dX6_alters_1 (by decide) (fun h1 => ?_) (fun h1 => absurd h1 (by decide))
  refine e_iload_n (pc := 16) (i := 2) dX6_alters_16 rfl rfl ?_
  refine e_iconst' (pc := 17) (nI 1) dX6_alters_17 (by decide) ?_
  refine e_icmp_ne (pc := 18) (tgt := 35) dX6_alters_18 (by decide) (fun h18 => absurd (by decide) h18) (fun h18 => ?_)
  refine e_iload_n (pc := 21) (i := 3) dX6_alters_21 rfl rfl ?_
  refine e_i2l (pc := 22) dX6_alters_22 ?_
  refine e_ldc2 (pc := 23) dX6_alters_23 (klX6_150 rfl) ?_
  refine e_ldc2 (pc := 26) dX6_alters_26 (klX6_152 rfl) ?_
  refine e_callS3 (pc := 29) (M' := mX6_in) dX6_alters_29 jX6_in lkX6_46 (by decide) (Nat.le_of_ble_eq_true rfl) (Nat.le_of_ble_eq_true rfl) ?_
  refine sp_inX (lo := 2) (hi := 12) (by decide) (by decide) hn ?_
  refine e_goto (pc := 32) (tgt := 69) dX6_alters_32 (by decide) ?_
  exact k
theorem lp_altY2 {sc : PSc} {b : Nat} {w : Int32} {S : PS} {Q : PQ} (h1 : 0 ≤ b) (h2 : b ≤ 11) (k : E sc mX6_alters 69 [.ref 54, .int w, .int (nI 2), .int (nI b), .null, .null, .null, .null, .null, .null] [.int (nI 1)] S Q) : E sc mX6_alters 0 [.ref 54, .int w, .int (nI 2), .int (nI b), .null, .null, .null, .null, .null, .null] [] S Q := by
  refine e_iload_n (pc := 0) (i := 2) dX6_alters_0 rfl rfl ?_
  refine e_if_ne (pc := 1) (tgt := 16) dX6_alters_1 (by decide) (fun h1 => ?_) (fun h1 => absurd h1 (by decide))
  refine e_iload_n (pc := 16) (i := 2) dX6_alters_16 rfl rfl ?_
  refine e_iconst' (pc := 17) (nI 1) dX6_alters_17 (by decide) ?_
  refine e_icmp_ne (pc := 18) (tgt := 35) dX6_alters_18 (by decide) (fun h18 => ?_) (fun h18 => absurd h18 (by decide))
  refine e_iload_n (pc := 35) (i := 2) dX6_alters_35 rfl rfl ?_
  refine e_iconst' (pc := 36) (nI 2) dX6_alters_36 (by decide) ?_
  refine e_icmp_ne (pc := 37) (tgt := 47) dX6_alters_37 (by decide) (fun h37 => absurd (by decide) h37) (fun h37 => ?_)
  refine e_iload_n (pc := 40) (i := 3) dX6_alters_40 rfl rfl ?_
  refine e_callS1 (pc := 41) (M' := mX6_isDigit) dX6_alters_41 jX6_isDigit lkX6_154 (by decide) (Nat.le_of_ble_eq_true rfl) (Nat.le_of_ble_eq_true rfl) ?_
  refine sp_isDigitY (by omega) ?_
  refine e_goto (pc := 44) (tgt := 69) dX6_alters_44 (by decide) ?_
  exact k
theorem lp_altN2 {sc : PSc} {w v : Int32} {S : PS} {Q : PQ} (hn : ¬ inr v 0 11) (k : E sc mX6_alters 69 [.ref 54, .int w, .int (nI 2), .int v, .null, .null, .null, .null, .null, .null] [.int (nI 0)] S Q) : E sc mX6_alters 0 [.ref 54, .int w, .int (nI 2), .int v, .null, .null, .null, .null, .null, .null] [] S Q := by
  refine e_iload_n (pc := 0) (i := 2) dX6_alters_0 rfl rfl ?_
  refine e_if_ne (pc := 1) (tgt := 16) dX6_alters_1 (by decide) (fun h1 => ?_) (fun h1 => absurd h1 (by decide))
  refine e_iload_n (pc := 16) (i := 2) dX6_alters_16 rfl rfl ?_
  refine e_iconst' (pc := 17) (nI 1) dX6_alters_17 (by decide) ?_
  refine e_icmp_ne (pc := 18) (tgt := 35) dX6_alters_18 (by decide) (fun h18 => ?_) (fun h18 => absurd h18 (by decide))
  refine e_iload_n (pc := 35) (i := 2) dX6_alters_35 rfl rfl ?_
  refine e_iconst' (pc := 36) (nI 2) dX6_alters_36 (by decide) ?_
  refine e_icmp_ne (pc := 37) (tgt := 47) dX6_alters_37 (by decide) (fun h37 => absurd (by decide) h37) (fun h37 => ?_)
  refine e_iload_n (pc := 40) (i := 3) dX6_alters_40 rfl rfl ?_
  refine e_callS1 (pc := 41) (M' := mX6_isDigit) dX6_alters_41 jX6_isDigit lkX6_154 (by decide) (Nat.le_of_ble_eq_true rfl) (Nat.le_of_ble_eq_true rfl) ?_
  refine sp_isDigitX hn ?_
  refine e_goto (pc := 44) (tgt := 69) dX6_alters_44 (by decide) ?_
  exact k
theorem lp_altY3 {sc : PSc} {b : Nat} {w : Int32} {S : PS} {Q : PQ} (h1 : 0 ≤ b) (h2 : b ≤ 12) (k : E sc mX6_alters 69 [.ref 54, .int w, .int (nI 3), .int (nI b), .null, .null, .null, .null, .null, .null] [.int (nI 1)] S Q) : E sc mX6_alters 0 [.ref 54, .int w, .int (nI 3), .int (nI b), .null, .null, .null, .null, .null, .null] [] S Q := by
  refine e_iload_n (pc := 0) (i := 2) dX6_alters_0 rfl rfl ?_
  refine e_if_ne (pc := 1) (tgt := 16) dX6_alters_1 (by decide) (fun h1 => ?_) (fun h1 => absurd h1 (by decide))
  refine e_iload_n (pc := 16) (i := 2) dX6_alters_16 rfl rfl ?_
  refine e_iconst' (pc := 17) (nI 1) dX6_alters_17 (by decide) ?_
  refine e_icmp_ne (pc := 18) (tgt := 35) dX6_alters_18 (by decide) (fun h18 => ?_) (fun h18 => absurd h18 (by decide))
  refine e_iload_n (pc := 35) (i := 2) dX6_alters_35 rfl rfl ?_
  refine e_iconst' (pc := 36) (nI 2) dX6_alters_36 (by decide) ?_
  refine e_icmp_ne (pc := 37) (tgt := 47) dX6_alters_37 (by decide) (fun h37 => ?_) (fun h37 => absurd h37 (by decide))
  refine e_iload_n (pc := 47) (i := 2) dX6_alters_47 rfl rfl ?_
  refine e_iconst' (pc := 48) (nI 3) dX6_alters_48 (by decide) ?_
  refine e_icmp_ne (pc := 49) (tgt := 68) dX6_alters_49 (by decide) (fun h49 => absurd (by decide) h49) (fun h49 => ?_)
  refine e_iload_n (pc := 52) (i := 3) dX6_alters_52 rfl rfl ?_
  refine e_i2l (pc := 53) dX6_alters_53 ?_
  refine e_lconst' (pc := 54) (lN 0) dX6_alters_54 (by decide) ?_
  refine e_ldc2 (pc := 55) dX6_alters_55 (klX6_152 rfl) ?_
  refine e_callS3 (pc := 58) (M' := mX6_in) dX6_alters_58 jX6_in lkX6_46 (by decide) (Nat.le_of_ble_eq_true rfl) (Nat.le_of_ble_eq_true rfl) ?_
  refine sp_inY (lo := 0) (hi := 12) (by decide) (by decide) (by omega) (by omega) (by omega) ?_
  refine e_if_eq (pc := 61) (tgt := 68) dX6_alters_61 (by decide) (fun h61 => absurd h61 (by decide)) (fun h61 => ?_)
  refine e_iconst' (pc := 64) (nI 1) dX6_alters_64 (by decide) ?_
  refine e_goto (pc := 65) (tgt := 69) dX6_alters_65 (by decide) ?_
  exact k
theorem lp_altN3 {sc : PSc} {w v : Int32} {S : PS} {Q : PQ} (hn : ¬ inr v 0 12) (k : E sc mX6_alters 69 [.ref 54, .int w, .int (nI 3), .int v, .null, .null, .null, .null, .null, .null] [.int (nI 0)] S Q) : E sc mX6_alters 0 [.ref 54, .int w, .int (nI 3), .int v, .null, .null, .null, .null, .null, .null] [] S Q := by
  refine e_iload_n (pc := 0) (i := 2) dX6_alters_0 rfl rfl ?_
  refine e_if_ne (pc := 1) (tgt := 16) dX6_alters_1 (by decide) (fun h1 => ?_) (fun h1 => absurd h1 (by decide))
  refine e_iload_n (pc := 16) (i := 2) dX6_alters_16 rfl rfl ?_
  refine e_iconst' (pc := 17) (nI 1) dX6_alters_17 (by decide) ?_
  refine e_icmp_ne (pc := 18) (tgt := 35) dX6_alters_18 (by decide) (fun h18 => ?_) (fun h18 => absurd h18 (by decide))
  refine e_iload_n (pc := 35) (i := 2) dX6_alters_35 rfl rfl ?_
  refine e_iconst' (pc := 36) (nI 2) dX6_alters_36 (by decide) ?_
  refine e_icmp_ne (pc := 37) (tgt := 47) dX6_alters_37 (by decide) (fun h37 => ?_) (fun h37 => absurd h37 (by decide))
  refine e_iload_n (pc := 47) (i := 2) dX6_alters_47 rfl rfl ?_
  refine e_iconst' (pc := 48) (nI 3) dX6_alters_48 (by decide) ?_
  refine e_icmp_ne (pc := 49) (tgt := 68) dX6_alters_49 (by decide) (fun h49 => absurd (by decide) h49) (fun h49 => ?_)
  refine e_iload_n (pc := 52) (i := 3) dX6_alters_52 rfl rfl ?_
  refine e_i2l (pc := 53) dX6_alters_53 ?_
  refine e_lconst' (pc := 54) (lN 0) dX6_alters_54 (by decide) ?_
  refine e_ldc2 (pc := 55) dX6_alters_55 (klX6_152 rfl) ?_
  refine e_callS3 (pc := 58) (M' := mX6_in) dX6_alters_58 jX6_in lkX6_46 (by decide) (Nat.le_of_ble_eq_true rfl) (Nat.le_of_ble_eq_true rfl) ?_
  refine sp_inX (lo := 0) (hi := 12) (by decide) (by decide) hn ?_
  refine e_if_eq (pc := 61) (tgt := 68) dX6_alters_61 (by decide) (fun h61 => ?_) (fun h61 => absurd (by decide) h61)
  refine e_iconst' (pc := 68) (nI 0) dX6_alters_68 (by decide) ?_
  exact k
theorem lp_altX {sc : PSc} {w what v : Int32} {S : PS} {Q : PQ} (hn : ¬ inr what 0 3) (k : E sc mX6_alters 69 [.ref 54, .int w, .int what, .int v, .null, .null, .null, .null, .null, .null] [.int (nI 0)] S Q) : E sc mX6_alters 0 [.ref 54, .int w, .int what, .int v, .null, .null, .null, .null, .null, .null] [] S Q := by
  refine e_iload_n (pc := 0) (i := 2) dX6_alters_0 rfl rfl ?_
  refine e_if_ne (pc := 1) (tgt := 16) dX6_alters_1 (by decide) (fun h1 => ?_) (fun h1 => absurd (h1.trans nI_0.symm) (nin_ne hn (by omega) (by omega)))
  refine e_iload_n (pc := 16) (i := 2) dX6_alters_16 rfl rfl ?_
  refine e_iconst' (pc := 17) (nI 1) dX6_alters_17 (by decide) ?_
  refine e_icmp_ne (pc := 18) (tgt := 35) dX6_alters_18 (by decide) (fun h18 => ?_) (fun h18 => absurd h18 (nin_ne hn (by omega) (by omega)))
  refine e_iload_n (pc := 35) (i := 2) dX6_alters_35 rfl rfl ?_
  refine e_iconst' (pc := 36) (nI 2) dX6_alters_36 (by decide) ?_
  refine e_icmp_ne (pc := 37) (tgt := 47) dX6_alters_37 (by decide) (fun h37 => ?_) (fun h37 => absurd h37 (nin_ne hn (by omega) (by omega)))
  refine e_iload_n (pc := 47) (i := 2) dX6_alters_47 rfl rfl ?_
  refine e_iconst' (pc := 48) (nI 3) dX6_alters_48 (by decide) ?_
  refine e_icmp_ne (pc := 49) (tgt := 68) dX6_alters_49 (by decide) (fun h49 => ?_) (fun h49 => absurd h49 (nin_ne hn (by omega) (by omega)))
  refine e_iconst' (pc := 68) (nI 0) dX6_alters_68 (by decide) ?_
  exact k
theorem lp_altB0 {sc : PSc} {w what v : Int32} {R : Rw} {S : PS} {Q : PQ} (hv : Vd R) (hp : PgAt S 0 R) (k : Q (some (.int (-1))) S) : E sc mX6_alters 69 [.ref 54, .int w, .int what, .int v, .null, .null, .null, .null, .null, .null] [.int (nI 0)] S Q := by
  refine e_istore (pc := 69) dX6_alters_69 (by decide) rfl ?_
  refine e_aload_n (pc := 71) (i := 0) dX6_alters_71 rfl rfl ?_
  refine e_iload_n (pc := 72) (i := 1) dX6_alters_72 rfl rfl ?_
  refine e_callV1 (pc := 73) (M' := mX6_isWheel) dX6_alters_73 iX6_isWheel lkX6_144 (by decide) (rO_obj sh_54 rfl) (Nat.le_of_ble_eq_true rfl) (Nat.le_of_ble_eq_true rfl) ?_
  refine sp_isWheel hv hp (fun _ _ _ => ?_) (fun _ => ?_)
  · refine e_if_eq (pc := 76) (tgt := 84) dX6_alters_76 (by decide) (fun h76 => absurd h76 (by decide)) (fun h76 => ?_)
    refine e_iload (pc := 79) dX6_alters_79 rfl ?_
    refine e_if_ne (pc := 81) (tgt := 86) dX6_alters_81 (by decide) (fun h81 => absurd (by decide) h81) (fun h81 => ?_)
    refine e_iconst' (pc := 84) (-1) dX6_alters_84 (by decide) ?_
    refine e_iret (pc := 85) (st := []) (ty := .int) dX6_alters_85 rfl rfl ?_
    exact k
  · refine e_if_eq (pc := 76) (tgt := 84) dX6_alters_76 (by decide) (fun h76 => ?_) (fun h76 => absurd (by decide) h76)
    refine e_iconst' (pc := 84) (-1) dX6_alters_84 (by decide) ?_
    refine e_iret (pc := 85) (st := []) (ty := .int) dX6_alters_85 rfl rfl ?_
    exact k
theorem lp_altB1 {sc : PSc} {w what v : Int32} {R : Rw} {S : PS} {Q : PQ} (hv : Vd R) (hp : PgAt S 0 R) (hn : ¬ inw w (R 20)) (k : Q (some (.int (-1))) S) : E sc mX6_alters 69 [.ref 54, .int w, .int what, .int v, .null, .null, .null, .null, .null, .null] [.int (nI 1)] S Q := by
  refine e_istore (pc := 69) dX6_alters_69 (by decide) rfl ?_
  refine e_aload_n (pc := 71) (i := 0) dX6_alters_71 rfl rfl ?_
  refine e_iload_n (pc := 72) (i := 1) dX6_alters_72 rfl rfl ?_
  refine e_callV1 (pc := 73) (M' := mX6_isWheel) dX6_alters_73 iX6_isWheel lkX6_144 (by decide) (rO_obj sh_54 rfl) (Nat.le_of_ble_eq_true rfl) (Nat.le_of_ble_eq_true rfl) ?_
  refine sp_isWheelX hv hp hn ?_
  refine e_if_eq (pc := 76) (tgt := 84) dX6_alters_76 (by decide) (fun h76 => ?_) (fun h76 => absurd (by decide) h76)
  refine e_iconst' (pc := 84) (-1) dX6_alters_84 (by decide) ?_
  refine e_iret (pc := 85) (st := []) (ty := .int) dX6_alters_85 rfl rfl ?_
  exact k
theorem lp_altG0 {sc : PSc} {j b : Nat} {R : Rw} {S : PS} {Q : PQ} (hv : Vd R) (hp : PgAt S 0 R) (hw : j < R 20) (h1 : 0 ≤ b) (h2 : b ≤ 3) (kf : okM R j 0 b = false → Q (some (.int (-2))) S) (k : ∀ S', okM R j 0 b = true → PgAt S' 0 (rs R (5 * 0 + j) b) → FrQ 0 S S' → Q (some (.int (nI (R j)))) S') : E sc mX6_alters 69 [.ref 54, .int (nI j), .int (nI 0), .int (nI b), .null, .null, .null, .null, .null, .null] [.int (nI 1)] S Q := by
  have hv5 := hv.1
  obtain ⟨hk4, ht2, ht12, hdt, hbr⟩ := hv.2 j hw
  refine e_istore (pc := 69) dX6_alters_69 (by decide) rfl ?_
  refine e_aload_n (pc := 71) (i := 0) dX6_alters_71 rfl rfl ?_
  refine e_iload_n (pc := 72) (i := 1) dX6_alters_72 rfl rfl ?_
  refine e_callV1 (pc := 73) (M' := mX6_isWheel) dX6_alters_73 iX6_isWheel lkX6_144 (by decide) (rO_obj sh_54 rfl) (Nat.le_of_ble_eq_true rfl) (Nat.le_of_ble_eq_true rfl) ?_
  refine sp_isWheelY hv hp hw ?_
  refine e_if_eq (pc := 76) (tgt := 84) dX6_alters_76 (by decide) (fun h76 => absurd h76 (by decide)) (fun h76 => ?_)
  refine e_iload (pc := 79) dX6_alters_79 rfl ?_
  refine e_if_ne (pc := 81) (tgt := 86) dX6_alters_81 (by decide) (fun h81 => ?_) (fun h81 => absurd h81 (by decide))
  refine e_aload_n (pc := 86) (i := 0) dX6_alters_86 rfl rfl ?_
  refine e_getR (pc := 87) dX6_alters_87 (fX6_7 rfl) sh_54 rfl ?_
  refine e_iconst' (pc := 90) (nI 5) dX6_alters_90 (by decide) ?_
  refine e_iload_n (pc := 91) (i := 1) dX6_alters_91 rfl rfl ?_
  refine e_iadd (pc := 92) dX6_alters_92 ?_
  refine E.it (nI (5 + j)) (nI_add _ _) ?_
  refine e_iald (pc := 93) dX6_alters_93 sh_55 (vp_in_nI (by omega) (by omega)) ?_
  refine E.it (nI (R (5 + j))) (by rw [nI_clamp (by omega)]; have := hp.gt (b := 1) (by omega) hw; simpa [pv] using this) ?_
  refine e_istore (pc := 94) dX6_alters_94 (by decide) rfl ?_
  refine e_aload_n (pc := 96) (i := 0) dX6_alters_96 rfl rfl ?_
  refine e_getR (pc := 97) dX6_alters_97 (fX6_7 rfl) sh_54 rfl ?_
  refine e_bipush' (pc := 100) (nI 15) dX6_alters_100 (by decide) ?_
  refine e_iload_n (pc := 102) (i := 1) dX6_alters_102 rfl rfl ?_
  refine e_iadd (pc := 103) dX6_alters_103 ?_
  refine E.it (nI (15 + j)) (nI_add _ _) ?_
  refine e_iald (pc := 104) dX6_alters_104 sh_55 (vp_in_nI (by omega) (by omega)) ?_
  refine E.it (nI (R (15 + j)) - nI 12) (by rw [nI_clamp (by omega)]; have := hp.gt (b := 3) (by omega) hw; simpa [pv] using this) ?_
  refine e_bipush' (pc := 105) (nI 12) dX6_alters_105 (by decide) ?_
  refine e_iadd (pc := 107) dX6_alters_107 ?_
  refine E.it (nI (R (15 + j))) b12 ?_
  refine e_istore (pc := 108) dX6_alters_108 (by decide) rfl ?_
  refine e_iload_n (pc := 110) (i := 2) dX6_alters_110 rfl rfl ?_
  refine e_iconst' (pc := 111) (nI 1) dX6_alters_111 (by decide) ?_
  refine e_icmp_ne (pc := 112) (tgt := 145) dX6_alters_112 (by decide) (fun h112 => ?_) (fun h112 => absurd h112 (by decide))
  refine e_iconst' (pc := 145) (nI 0) dX6_alters_145 (by decide) ?_
  refine e_istore (pc := 146) dX6_alters_146 (by decide) rfl ?_
  refine e_iload (pc := 148) dX6_alters_148 rfl ?_
  refine e_if_ne (pc := 150) (tgt := 181) dX6_alters_150 (by decide) (fun h150 => absurd (by decide) h150) (fun h150 => ?_)
  refine e_iload_n (pc := 153) (i := 2) dX6_alters_153 rfl rfl ?_
  refine e_iconst' (pc := 154) (nI 2) dX6_alters_154 (by decide) ?_
  refine e_icmp_ne (pc := 155) (tgt := 164) dX6_alters_155 (by decide) (fun h155 => ?_) (fun h155 => absurd h155 (by decide))
  refine e_iload_n (pc := 164) (i := 2) dX6_alters_164 rfl rfl ?_
  refine e_iconst' (pc := 165) (nI 3) dX6_alters_165 (by decide) ?_
  refine e_icmp_ne (pc := 166) (tgt := 185) dX6_alters_166 (by decide) (fun h166 => ?_) (fun h166 => absurd h166 (by decide))
  refine e_iconst' (pc := 185) (nI 0) dX6_alters_185 (by decide) ?_
  refine e_istore (pc := 186) dX6_alters_186 (by decide) rfl ?_
  refine e_iload (pc := 188) dX6_alters_188 rfl ?_
  refine e_if_eq (pc := 190) (tgt := 196) dX6_alters_190 (by decide) (fun h190 => ?_) (fun h190 => absurd (by decide) h190)
  refine e_iload_n (pc := 196) (i := 2) dX6_alters_196 rfl rfl ?_
  refine e_iconst' (pc := 197) (nI 3) dX6_alters_197 (by decide) ?_
  refine e_icmp_ne (pc := 198) (tgt := 206) dX6_alters_198 (by decide) (fun h198 => ?_) (fun h198 => absurd h198 (by decide))
  refine e_iconst' (pc := 206) (nI 0) dX6_alters_206 (by decide) ?_
  refine e_istore (pc := 207) dX6_alters_207 (by decide) rfl ?_
  refine e_aload_n (pc := 209) (i := 0) dX6_alters_209 rfl rfl ?_
  refine e_getR (pc := 210) dX6_alters_210 (fX6_7 rfl) sh_54 rfl ?_
  refine e_iconst' (pc := 213) (nI 5) dX6_alters_213 (by decide) ?_
  refine e_iload_n (pc := 214) (i := 2) dX6_alters_214 rfl rfl ?_
  refine e_imul (pc := 215) dX6_alters_215 ?_
  refine E.it (nI 0) (pk_mul _ _) ?_
  refine e_iload_n (pc := 216) (i := 1) dX6_alters_216 rfl rfl ?_
  refine e_iadd (pc := 217) dX6_alters_217 ?_
  refine E.it (nI (0 + j)) (nI_add _ _) ?_
  refine e_iald (pc := 218) dX6_alters_218 sh_55 (vp_in_nI (by omega) (by omega)) ?_
  refine E.it (nI (R j)) (by rw [nI_clamp (by omega)]; have := hp.gt (b := 0) (by omega) hw; simpa [pv] using this) ?_
  refine e_iload (pc := 219) dX6_alters_219 rfl ?_
  refine e_iadd (pc := 221) dX6_alters_221 ?_
  refine E.it (nI (R j)) (by rw [nI_add, Nat.add_zero]) ?_
  refine e_istore (pc := 222) dX6_alters_222 (by decide) rfl ?_
  refine e_aload_n (pc := 224) (i := 0) dX6_alters_224 rfl rfl ?_
  refine e_getR (pc := 225) dX6_alters_225 (fX6_7 rfl) sh_54 rfl ?_
  refine e_iconst' (pc := 228) (nI 5) dX6_alters_228 (by decide) ?_
  refine e_iload_n (pc := 229) (i := 2) dX6_alters_229 rfl rfl ?_
  refine e_imul (pc := 230) dX6_alters_230 ?_
  refine E.it (nI 0) (pk_mul _ _) ?_
  refine e_iload_n (pc := 231) (i := 1) dX6_alters_231 rfl rfl ?_
  refine e_iadd (pc := 232) dX6_alters_232 ?_
  refine E.it (nI (0 + j)) (nI_add _ _) ?_
  refine e_iload_n (pc := 233) (i := 3) dX6_alters_233 rfl rfl ?_
  refine e_iload (pc := 234) dX6_alters_234 rfl ?_
  refine e_isub (pc := 236) dX6_alters_236 ?_
  refine E.it (pv 0 b) (by show nI b - nI 0 = nI b; rw [nI_0, Int32.sub_zero]) ?_
  refine e_iast (pc := 237) dX6_alters_237 sh_55 (vp_in_nI (by omega) (by omega)) ?_
  refine e_iload (pc := 238) dX6_alters_238 rfl ?_
  refine e_iret (pc := 240) (st := []) (ty := .int) dX6_alters_240 rfl rfl ?_
  have ok : okM R j 0 b = true := by
    first | (simp [okM]; omega) | (simp [okM]; done)
  rw [nI_clamp (show 0 + j < 2 ^ 31 by omega)]
  refine k _ ok ?_ (FrQ.up ⟨rfl, fun _ _ => rfl, fun _ _ => rfl⟩ (by omega) (by omega))
  have := hp.set (a := 0) (w := j) (v := b) (by omega) (by omega) (by omega)
  simpa using this
theorem lp_altG1 {sc : PSc} {j b : Nat} {R : Rw} {S : PS} {Q : PQ} (hv : Vd R) (hp : PgAt S 0 R) (hw : j < R 20) (h1 : 2 ≤ b) (h2 : b ≤ 12) (kf : okM R j 1 b = false → Q (some (.int (-2))) S) (k : ∀ S', okM R j 1 b = true → PgAt S' 0 (rs R (5 * 1 + j) b) → FrQ 0 S S' → Q (some (.int (nI (R (5 + j))))) S') : E sc mX6_alters 69 [.ref 54, .int (nI j), .int (nI 1), .int (nI b), .null, .null, .null, .null, .null, .null] [.int (nI 1)] S Q := by
  have hv5 := hv.1
  obtain ⟨hk4, ht2, ht12, hdt, hbr⟩ := hv.2 j hw
  refine e_istore (pc := 69) dX6_alters_69 (by decide) rfl ?_
  refine e_aload_n (pc := 71) (i := 0) dX6_alters_71 rfl rfl ?_
  refine e_iload_n (pc := 72) (i := 1) dX6_alters_72 rfl rfl ?_
  refine e_callV1 (pc := 73) (M' := mX6_isWheel) dX6_alters_73 iX6_isWheel lkX6_144 (by decide) (rO_obj sh_54 rfl) (Nat.le_of_ble_eq_true rfl) (Nat.le_of_ble_eq_true rfl) ?_
  refine sp_isWheelY hv hp hw ?_
  refine e_if_eq (pc := 76) (tgt := 84) dX6_alters_76 (by decide) (fun h76 => absurd h76 (by decide)) (fun h76 => ?_)
  refine e_iload (pc := 79) dX6_alters_79 rfl ?_
  refine e_if_ne (pc := 81) (tgt := 86) dX6_alters_81 (by decide) (fun h81 => ?_) (fun h81 => absurd h81 (by decide))
  refine e_aload_n (pc := 86) (i := 0) dX6_alters_86 rfl rfl ?_
  refine e_getR (pc := 87) dX6_alters_87 (fX6_7 rfl) sh_54 rfl ?_
  refine e_iconst' (pc := 90) (nI 5) dX6_alters_90 (by decide) ?_
  refine e_iload_n (pc := 91) (i := 1) dX6_alters_91 rfl rfl ?_
  refine e_iadd (pc := 92) dX6_alters_92 ?_
  refine E.it (nI (5 + j)) (nI_add _ _) ?_
  refine e_iald (pc := 93) dX6_alters_93 sh_55 (vp_in_nI (by omega) (by omega)) ?_
  refine E.it (nI (R (5 + j))) (by rw [nI_clamp (by omega)]; have := hp.gt (b := 1) (by omega) hw; simpa [pv] using this) ?_
  refine e_istore (pc := 94) dX6_alters_94 (by decide) rfl ?_
  refine e_aload_n (pc := 96) (i := 0) dX6_alters_96 rfl rfl ?_
  refine e_getR (pc := 97) dX6_alters_97 (fX6_7 rfl) sh_54 rfl ?_
  refine e_bipush' (pc := 100) (nI 15) dX6_alters_100 (by decide) ?_
  refine e_iload_n (pc := 102) (i := 1) dX6_alters_102 rfl rfl ?_
  refine e_iadd (pc := 103) dX6_alters_103 ?_
  refine E.it (nI (15 + j)) (nI_add _ _) ?_
  refine e_iald (pc := 104) dX6_alters_104 sh_55 (vp_in_nI (by omega) (by omega)) ?_
  refine E.it (nI (R (15 + j)) - nI 12) (by rw [nI_clamp (by omega)]; have := hp.gt (b := 3) (by omega) hw; simpa [pv] using this) ?_
  refine e_bipush' (pc := 105) (nI 12) dX6_alters_105 (by decide) ?_
  refine e_iadd (pc := 107) dX6_alters_107 ?_
  refine E.it (nI (R (15 + j))) b12 ?_
  refine e_istore (pc := 108) dX6_alters_108 (by decide) rfl ?_
  refine e_iload_n (pc := 110) (i := 2) dX6_alters_110 rfl rfl ?_
  refine e_iconst' (pc := 111) (nI 1) dX6_alters_111 (by decide) ?_
  refine e_icmp_ne (pc := 112) (tgt := 145) dX6_alters_112 (by decide) (fun h112 => absurd (by decide) h112) (fun h112 => ?_)
  refine e_iload_n (pc := 115) (i := 3) dX6_alters_115 rfl rfl ?_
  refine e_aload_n (pc := 116) (i := 0) dX6_alters_116 rfl rfl ?_
  refine e_getR (pc := 117) dX6_alters_117 (fX6_7 rfl) sh_54 rfl ?_
  refine e_bipush' (pc := 120) (nI 10) dX6_alters_120 (by decide) ?_
  refine e_iload_n (pc := 122) (i := 1) dX6_alters_122 rfl rfl ?_
  refine e_iadd (pc := 123) dX6_alters_123 ?_
  refine E.it (nI (10 + j)) (nI_add _ _) ?_
  refine e_iald (pc := 124) dX6_alters_124 sh_55 (vp_in_nI (by omega) (by omega)) ?_
  refine E.it (nI (R (10 + j))) (by rw [nI_clamp (by omega)]; have := hp.gt (b := 2) (by omega) hw; simpa [pv] using this) ?_
  refine e_icmp_le (pc := 125) (tgt := 141) dX6_alters_125 (by decide) (fun h125 => ?_) (fun h125 => ?_)
  · replace h125 := (nI_leI (by omega) (by omega)).mp h125
    refine e_iconst' (pc := 141) (nI 1) dX6_alters_141 (by decide) ?_
    refine e_goto (pc := 142) (tgt := 146) dX6_alters_142 (by decide) ?_
    refine e_istore (pc := 146) dX6_alters_146 (by decide) rfl ?_
    refine e_iload (pc := 148) dX6_alters_148 rfl ?_
    refine e_if_ne (pc := 150) (tgt := 181) dX6_alters_150 (by decide) (fun h150 => ?_) (fun h150 => absurd h150 (by decide))
    refine e_iconst' (pc := 181) (nI 1) dX6_alters_181 (by decide) ?_
    refine e_goto (pc := 182) (tgt := 186) dX6_alters_182 (by decide) ?_
    refine e_istore (pc := 186) dX6_alters_186 (by decide) rfl ?_
    refine e_iload (pc := 188) dX6_alters_188 rfl ?_
    refine e_if_eq (pc := 190) (tgt := 196) dX6_alters_190 (by decide) (fun h190 => absurd h190 (by decide)) (fun h190 => ?_)
    refine e_bipush' (pc := 193) (-2) dX6_alters_193 (by decide) ?_
    refine e_iret (pc := 195) (st := []) (ty := .int) dX6_alters_195 rfl rfl ?_
    have ok : okM R j 1 b = false := by
      first | (simp [okM]; omega) | (simp [okM]; done)
    rw [ok] at kf
    exact kf rfl
  · replace h125 := mt (nI_leI (by omega) (by omega)).mpr h125
    refine e_iload (pc := 128) dX6_alters_128 rfl ?_
    refine e_bipush' (pc := 130) (nI 12) dX6_alters_130 (by decide) ?_
    refine e_icmp_ge (pc := 132) (tgt := 145) dX6_alters_132 (by decide) (fun h132 => ?_) (fun h132 => ?_)
    · replace h132 := (nI_leI (by omega) (by omega)).mp h132
      refine e_iconst' (pc := 145) (nI 0) dX6_alters_145 (by decide) ?_
      refine e_istore (pc := 146) dX6_alters_146 (by decide) rfl ?_
      refine e_iload (pc := 148) dX6_alters_148 rfl ?_
      refine e_if_ne (pc := 150) (tgt := 181) dX6_alters_150 (by decide) (fun h150 => absurd (by decide) h150) (fun h150 => ?_)
      refine e_iload_n (pc := 153) (i := 2) dX6_alters_153 rfl rfl ?_
      refine e_iconst' (pc := 154) (nI 2) dX6_alters_154 (by decide) ?_
      refine e_icmp_ne (pc := 155) (tgt := 164) dX6_alters_155 (by decide) (fun h155 => ?_) (fun h155 => absurd h155 (by decide))
      refine e_iload_n (pc := 164) (i := 2) dX6_alters_164 rfl rfl ?_
      refine e_iconst' (pc := 165) (nI 3) dX6_alters_165 (by decide) ?_
      refine e_icmp_ne (pc := 166) (tgt := 185) dX6_alters_166 (by decide) (fun h166 => ?_) (fun h166 => absurd h166 (by decide))
      refine e_iconst' (pc := 185) (nI 0) dX6_alters_185 (by decide) ?_
      refine e_istore (pc := 186) dX6_alters_186 (by decide) rfl ?_
      refine e_iload (pc := 188) dX6_alters_188 rfl ?_
      refine e_if_eq (pc := 190) (tgt := 196) dX6_alters_190 (by decide) (fun h190 => ?_) (fun h190 => absurd (by decide) h190)
      refine e_iload_n (pc := 196) (i := 2) dX6_alters_196 rfl rfl ?_
      refine e_iconst' (pc := 197) (nI 3) dX6_alters_197 (by decide) ?_
      refine e_icmp_ne (pc := 198) (tgt := 206) dX6_alters_198 (by decide) (fun h198 => ?_) (fun h198 => absurd h198 (by decide))
      refine e_iconst' (pc := 206) (nI 0) dX6_alters_206 (by decide) ?_
      refine e_istore (pc := 207) dX6_alters_207 (by decide) rfl ?_
      refine e_aload_n (pc := 209) (i := 0) dX6_alters_209 rfl rfl ?_
      refine e_getR (pc := 210) dX6_alters_210 (fX6_7 rfl) sh_54 rfl ?_
      refine e_iconst' (pc := 213) (nI 5) dX6_alters_213 (by decide) ?_
      refine e_iload_n (pc := 214) (i := 2) dX6_alters_214 rfl rfl ?_
      refine e_imul (pc := 215) dX6_alters_215 ?_
      refine E.it (nI 5) (pk_mul _ _) ?_
      refine e_iload_n (pc := 216) (i := 1) dX6_alters_216 rfl rfl ?_
      refine e_iadd (pc := 217) dX6_alters_217 ?_
      refine E.it (nI (5 + j)) (nI_add _ _) ?_
      refine e_iald (pc := 218) dX6_alters_218 sh_55 (vp_in_nI (by omega) (by omega)) ?_
      refine E.it (nI (R (5 + j))) (by rw [nI_clamp (by omega)]; have := hp.gt (b := 1) (by omega) hw; simpa [pv] using this) ?_
      refine e_iload (pc := 219) dX6_alters_219 rfl ?_
      refine e_iadd (pc := 221) dX6_alters_221 ?_
      refine E.it (nI (R (5 + j))) (by rw [nI_add, Nat.add_zero]) ?_
      refine e_istore (pc := 222) dX6_alters_222 (by decide) rfl ?_
      refine e_aload_n (pc := 224) (i := 0) dX6_alters_224 rfl rfl ?_
      refine e_getR (pc := 225) dX6_alters_225 (fX6_7 rfl) sh_54 rfl ?_
      refine e_iconst' (pc := 228) (nI 5) dX6_alters_228 (by decide) ?_
      refine e_iload_n (pc := 229) (i := 2) dX6_alters_229 rfl rfl ?_
      refine e_imul (pc := 230) dX6_alters_230 ?_
      refine E.it (nI 5) (pk_mul _ _) ?_
      refine e_iload_n (pc := 231) (i := 1) dX6_alters_231 rfl rfl ?_
      refine e_iadd (pc := 232) dX6_alters_232 ?_
      refine E.it (nI (5 + j)) (nI_add _ _) ?_
      refine e_iload_n (pc := 233) (i := 3) dX6_alters_233 rfl rfl ?_
      refine e_iload (pc := 234) dX6_alters_234 rfl ?_
      refine e_isub (pc := 236) dX6_alters_236 ?_
      refine E.it (pv 1 b) (by show nI b - nI 0 = nI b; rw [nI_0, Int32.sub_zero]) ?_
      refine e_iast (pc := 237) dX6_alters_237 sh_55 (vp_in_nI (by omega) (by omega)) ?_
      refine e_iload (pc := 238) dX6_alters_238 rfl ?_
      refine e_iret (pc := 240) (st := []) (ty := .int) dX6_alters_240 rfl rfl ?_
      have ok : okM R j 1 b = true := by
        first | (simp [okM]; omega) | (simp [okM]; done)
      rw [nI_clamp (show 5 + j < 2 ^ 31 by omega)]
      refine k _ ok ?_ (FrQ.up ⟨rfl, fun _ _ => rfl, fun _ _ => rfl⟩ (by omega) (by omega))
      have := hp.set (a := 1) (w := j) (v := b) (by omega) (by omega) (by omega)
      rw [Nat.zero_add] at this
      exact this
    · replace h132 := mt (nI_leI (by omega) (by omega)).mpr h132
      refine e_iload_n (pc := 135) (i := 3) dX6_alters_135 rfl rfl ?_
      refine e_iload (pc := 136) dX6_alters_136 rfl ?_
      refine e_icmp_gt (pc := 138) (tgt := 145) dX6_alters_138 (by decide) (fun h138 => ?_) (fun h138 => ?_)
      · replace h138 := (nI_ltI (by omega) (by omega)).mp h138
        refine e_iconst' (pc := 145) (nI 0) dX6_alters_145 (by decide) ?_
        refine e_istore (pc := 146) dX6_alters_146 (by decide) rfl ?_
        refine e_iload (pc := 148) dX6_alters_148 rfl ?_
        refine e_if_ne (pc := 150) (tgt := 181) dX6_alters_150 (by decide) (fun h150 => absurd (by decide) h150) (fun h150 => ?_)
        refine e_iload_n (pc := 153) (i := 2) dX6_alters_153 rfl rfl ?_
        refine e_iconst' (pc := 154) (nI 2) dX6_alters_154 (by decide) ?_
        refine e_icmp_ne (pc := 155) (tgt := 164) dX6_alters_155 (by decide) (fun h155 => ?_) (fun h155 => absurd h155 (by decide))
        refine e_iload_n (pc := 164) (i := 2) dX6_alters_164 rfl rfl ?_
        refine e_iconst' (pc := 165) (nI 3) dX6_alters_165 (by decide) ?_
        refine e_icmp_ne (pc := 166) (tgt := 185) dX6_alters_166 (by decide) (fun h166 => ?_) (fun h166 => absurd h166 (by decide))
        refine e_iconst' (pc := 185) (nI 0) dX6_alters_185 (by decide) ?_
        refine e_istore (pc := 186) dX6_alters_186 (by decide) rfl ?_
        refine e_iload (pc := 188) dX6_alters_188 rfl ?_
        refine e_if_eq (pc := 190) (tgt := 196) dX6_alters_190 (by decide) (fun h190 => ?_) (fun h190 => absurd (by decide) h190)
        refine e_iload_n (pc := 196) (i := 2) dX6_alters_196 rfl rfl ?_
        refine e_iconst' (pc := 197) (nI 3) dX6_alters_197 (by decide) ?_
        refine e_icmp_ne (pc := 198) (tgt := 206) dX6_alters_198 (by decide) (fun h198 => ?_) (fun h198 => absurd h198 (by decide))
        refine e_iconst' (pc := 206) (nI 0) dX6_alters_206 (by decide) ?_
        refine e_istore (pc := 207) dX6_alters_207 (by decide) rfl ?_
        refine e_aload_n (pc := 209) (i := 0) dX6_alters_209 rfl rfl ?_
        refine e_getR (pc := 210) dX6_alters_210 (fX6_7 rfl) sh_54 rfl ?_
        refine e_iconst' (pc := 213) (nI 5) dX6_alters_213 (by decide) ?_
        refine e_iload_n (pc := 214) (i := 2) dX6_alters_214 rfl rfl ?_
        refine e_imul (pc := 215) dX6_alters_215 ?_
        refine E.it (nI 5) (pk_mul _ _) ?_
        refine e_iload_n (pc := 216) (i := 1) dX6_alters_216 rfl rfl ?_
        refine e_iadd (pc := 217) dX6_alters_217 ?_
        refine E.it (nI (5 + j)) (nI_add _ _) ?_
        refine e_iald (pc := 218) dX6_alters_218 sh_55 (vp_in_nI (by omega) (by omega)) ?_
        refine E.it (nI (R (5 + j))) (by rw [nI_clamp (by omega)]; have := hp.gt (b := 1) (by omega) hw; simpa [pv] using this) ?_
        refine e_iload (pc := 219) dX6_alters_219 rfl ?_
        refine e_iadd (pc := 221) dX6_alters_221 ?_
        refine E.it (nI (R (5 + j))) (by rw [nI_add, Nat.add_zero]) ?_
        refine e_istore (pc := 222) dX6_alters_222 (by decide) rfl ?_
        refine e_aload_n (pc := 224) (i := 0) dX6_alters_224 rfl rfl ?_
        refine e_getR (pc := 225) dX6_alters_225 (fX6_7 rfl) sh_54 rfl ?_
        refine e_iconst' (pc := 228) (nI 5) dX6_alters_228 (by decide) ?_
        refine e_iload_n (pc := 229) (i := 2) dX6_alters_229 rfl rfl ?_
        refine e_imul (pc := 230) dX6_alters_230 ?_
        refine E.it (nI 5) (pk_mul _ _) ?_
        refine e_iload_n (pc := 231) (i := 1) dX6_alters_231 rfl rfl ?_
        refine e_iadd (pc := 232) dX6_alters_232 ?_
        refine E.it (nI (5 + j)) (nI_add _ _) ?_
        refine e_iload_n (pc := 233) (i := 3) dX6_alters_233 rfl rfl ?_
        refine e_iload (pc := 234) dX6_alters_234 rfl ?_
        refine e_isub (pc := 236) dX6_alters_236 ?_
        refine E.it (pv 1 b) (by show nI b - nI 0 = nI b; rw [nI_0, Int32.sub_zero]) ?_
        refine e_iast (pc := 237) dX6_alters_237 sh_55 (vp_in_nI (by omega) (by omega)) ?_
        refine e_iload (pc := 238) dX6_alters_238 rfl ?_
        refine e_iret (pc := 240) (st := []) (ty := .int) dX6_alters_240 rfl rfl ?_
        have ok : okM R j 1 b = true := by
          first | (simp [okM]; omega) | (simp [okM]; done)
        rw [nI_clamp (show 5 + j < 2 ^ 31 by omega)]
        refine k _ ok ?_ (FrQ.up ⟨rfl, fun _ _ => rfl, fun _ _ => rfl⟩ (by omega) (by omega))
        have := hp.set (a := 1) (w := j) (v := b) (by omega) (by omega) (by omega)
        rw [Nat.zero_add] at this
        exact this
      · replace h138 := mt (nI_ltI (by omega) (by omega)).mpr h138
        refine e_iconst' (pc := 141) (nI 1) dX6_alters_141 (by decide) ?_
        refine e_goto (pc := 142) (tgt := 146) dX6_alters_142 (by decide) ?_
        refine e_istore (pc := 146) dX6_alters_146 (by decide) rfl ?_
        refine e_iload (pc := 148) dX6_alters_148 rfl ?_
        refine e_if_ne (pc := 150) (tgt := 181) dX6_alters_150 (by decide) (fun h150 => ?_) (fun h150 => absurd h150 (by decide))
        refine e_iconst' (pc := 181) (nI 1) dX6_alters_181 (by decide) ?_
        refine e_goto (pc := 182) (tgt := 186) dX6_alters_182 (by decide) ?_
        refine e_istore (pc := 186) dX6_alters_186 (by decide) rfl ?_
        refine e_iload (pc := 188) dX6_alters_188 rfl ?_
        refine e_if_eq (pc := 190) (tgt := 196) dX6_alters_190 (by decide) (fun h190 => absurd h190 (by decide)) (fun h190 => ?_)
        refine e_bipush' (pc := 193) (-2) dX6_alters_193 (by decide) ?_
        refine e_iret (pc := 195) (st := []) (ty := .int) dX6_alters_195 rfl rfl ?_
        have ok : okM R j 1 b = false := by
          first | (simp [okM]; omega) | (simp [okM]; done)
        rw [ok] at kf
        exact kf rfl
theorem lp_altG2 {sc : PSc} {j b : Nat} {R : Rw} {S : PS} {Q : PQ} (hv : Vd R) (hp : PgAt S 0 R) (hw : j < R 20) (h1 : 0 ≤ b) (h2 : b ≤ 11) (kf : okM R j 2 b = false → Q (some (.int (-2))) S) (k : ∀ S', okM R j 2 b = true → PgAt S' 0 (rs R (5 * 2 + j) b) → FrQ 0 S S' → Q (some (.int (nI (R (10 + j))))) S') : E sc mX6_alters 69 [.ref 54, .int (nI j), .int (nI 2), .int (nI b), .null, .null, .null, .null, .null, .null] [.int (nI 1)] S Q := by
  have hv5 := hv.1
  obtain ⟨hk4, ht2, ht12, hdt, hbr⟩ := hv.2 j hw
  refine e_istore (pc := 69) dX6_alters_69 (by decide) rfl ?_
  refine e_aload_n (pc := 71) (i := 0) dX6_alters_71 rfl rfl ?_
  refine e_iload_n (pc := 72) (i := 1) dX6_alters_72 rfl rfl ?_
  refine e_callV1 (pc := 73) (M' := mX6_isWheel) dX6_alters_73 iX6_isWheel lkX6_144 (by decide) (rO_obj sh_54 rfl) (Nat.le_of_ble_eq_true rfl) (Nat.le_of_ble_eq_true rfl) ?_
  refine sp_isWheelY hv hp hw ?_
  refine e_if_eq (pc := 76) (tgt := 84) dX6_alters_76 (by decide) (fun h76 => absurd h76 (by decide)) (fun h76 => ?_)
  refine e_iload (pc := 79) dX6_alters_79 rfl ?_
  refine e_if_ne (pc := 81) (tgt := 86) dX6_alters_81 (by decide) (fun h81 => ?_) (fun h81 => absurd h81 (by decide))
  refine e_aload_n (pc := 86) (i := 0) dX6_alters_86 rfl rfl ?_
  refine e_getR (pc := 87) dX6_alters_87 (fX6_7 rfl) sh_54 rfl ?_
  refine e_iconst' (pc := 90) (nI 5) dX6_alters_90 (by decide) ?_
  refine e_iload_n (pc := 91) (i := 1) dX6_alters_91 rfl rfl ?_
  refine e_iadd (pc := 92) dX6_alters_92 ?_
  refine E.it (nI (5 + j)) (nI_add _ _) ?_
  refine e_iald (pc := 93) dX6_alters_93 sh_55 (vp_in_nI (by omega) (by omega)) ?_
  refine E.it (nI (R (5 + j))) (by rw [nI_clamp (by omega)]; have := hp.gt (b := 1) (by omega) hw; simpa [pv] using this) ?_
  refine e_istore (pc := 94) dX6_alters_94 (by decide) rfl ?_
  refine e_aload_n (pc := 96) (i := 0) dX6_alters_96 rfl rfl ?_
  refine e_getR (pc := 97) dX6_alters_97 (fX6_7 rfl) sh_54 rfl ?_
  refine e_bipush' (pc := 100) (nI 15) dX6_alters_100 (by decide) ?_
  refine e_iload_n (pc := 102) (i := 1) dX6_alters_102 rfl rfl ?_
  refine e_iadd (pc := 103) dX6_alters_103 ?_
  refine E.it (nI (15 + j)) (nI_add _ _) ?_
  refine e_iald (pc := 104) dX6_alters_104 sh_55 (vp_in_nI (by omega) (by omega)) ?_
  refine E.it (nI (R (15 + j)) - nI 12) (by rw [nI_clamp (by omega)]; have := hp.gt (b := 3) (by omega) hw; simpa [pv] using this) ?_
  refine e_bipush' (pc := 105) (nI 12) dX6_alters_105 (by decide) ?_
  refine e_iadd (pc := 107) dX6_alters_107 ?_
  refine E.it (nI (R (15 + j))) b12 ?_
  refine e_istore (pc := 108) dX6_alters_108 (by decide) rfl ?_
  refine e_iload_n (pc := 110) (i := 2) dX6_alters_110 rfl rfl ?_
  refine e_iconst' (pc := 111) (nI 1) dX6_alters_111 (by decide) ?_
  refine e_icmp_ne (pc := 112) (tgt := 145) dX6_alters_112 (by decide) (fun h112 => ?_) (fun h112 => absurd h112 (by decide))
  refine e_iconst' (pc := 145) (nI 0) dX6_alters_145 (by decide) ?_
  refine e_istore (pc := 146) dX6_alters_146 (by decide) rfl ?_
  refine e_iload (pc := 148) dX6_alters_148 rfl ?_
  refine e_if_ne (pc := 150) (tgt := 181) dX6_alters_150 (by decide) (fun h150 => absurd (by decide) h150) (fun h150 => ?_)
  refine e_iload_n (pc := 153) (i := 2) dX6_alters_153 rfl rfl ?_
  refine e_iconst' (pc := 154) (nI 2) dX6_alters_154 (by decide) ?_
  refine e_icmp_ne (pc := 155) (tgt := 164) dX6_alters_155 (by decide) (fun h155 => absurd (by decide) h155) (fun h155 => ?_)
  refine e_iload_n (pc := 158) (i := 3) dX6_alters_158 rfl rfl ?_
  refine e_iload (pc := 159) dX6_alters_159 rfl ?_
  refine e_icmp_ge (pc := 161) (tgt := 181) dX6_alters_161 (by decide) (fun h161 => ?_) (fun h161 => ?_)
  · replace h161 := (nI_leI (by omega) (by omega)).mp h161
    refine e_iconst' (pc := 181) (nI 1) dX6_alters_181 (by decide) ?_
    refine e_goto (pc := 182) (tgt := 186) dX6_alters_182 (by decide) ?_
    refine e_istore (pc := 186) dX6_alters_186 (by decide) rfl ?_
    refine e_iload (pc := 188) dX6_alters_188 rfl ?_
    refine e_if_eq (pc := 190) (tgt := 196) dX6_alters_190 (by decide) (fun h190 => absurd h190 (by decide)) (fun h190 => ?_)
    refine e_bipush' (pc := 193) (-2) dX6_alters_193 (by decide) ?_
    refine e_iret (pc := 195) (st := []) (ty := .int) dX6_alters_195 rfl rfl ?_
    have ok : okM R j 2 b = false := by
      first | (simp [okM]; omega) | (simp [okM]; done)
    rw [ok] at kf
    exact kf rfl
  · replace h161 := mt (nI_leI (by omega) (by omega)).mpr h161
    refine e_iload_n (pc := 164) (i := 2) dX6_alters_164 rfl rfl ?_
    refine e_iconst' (pc := 165) (nI 3) dX6_alters_165 (by decide) ?_
    refine e_icmp_ne (pc := 166) (tgt := 185) dX6_alters_166 (by decide) (fun h166 => ?_) (fun h166 => absurd h166 (by decide))
    refine e_iconst' (pc := 185) (nI 0) dX6_alters_185 (by decide) ?_
    refine e_istore (pc := 186) dX6_alters_186 (by decide) rfl ?_
    refine e_iload (pc := 188) dX6_alters_188 rfl ?_
    refine e_if_eq (pc := 190) (tgt := 196) dX6_alters_190 (by decide) (fun h190 => ?_) (fun h190 => absurd (by decide) h190)
    refine e_iload_n (pc := 196) (i := 2) dX6_alters_196 rfl rfl ?_
    refine e_iconst' (pc := 197) (nI 3) dX6_alters_197 (by decide) ?_
    refine e_icmp_ne (pc := 198) (tgt := 206) dX6_alters_198 (by decide) (fun h198 => ?_) (fun h198 => absurd h198 (by decide))
    refine e_iconst' (pc := 206) (nI 0) dX6_alters_206 (by decide) ?_
    refine e_istore (pc := 207) dX6_alters_207 (by decide) rfl ?_
    refine e_aload_n (pc := 209) (i := 0) dX6_alters_209 rfl rfl ?_
    refine e_getR (pc := 210) dX6_alters_210 (fX6_7 rfl) sh_54 rfl ?_
    refine e_iconst' (pc := 213) (nI 5) dX6_alters_213 (by decide) ?_
    refine e_iload_n (pc := 214) (i := 2) dX6_alters_214 rfl rfl ?_
    refine e_imul (pc := 215) dX6_alters_215 ?_
    refine E.it (nI 10) (pk_mul _ _) ?_
    refine e_iload_n (pc := 216) (i := 1) dX6_alters_216 rfl rfl ?_
    refine e_iadd (pc := 217) dX6_alters_217 ?_
    refine E.it (nI (10 + j)) (nI_add _ _) ?_
    refine e_iald (pc := 218) dX6_alters_218 sh_55 (vp_in_nI (by omega) (by omega)) ?_
    refine E.it (nI (R (10 + j))) (by rw [nI_clamp (by omega)]; have := hp.gt (b := 2) (by omega) hw; simpa [pv] using this) ?_
    refine e_iload (pc := 219) dX6_alters_219 rfl ?_
    refine e_iadd (pc := 221) dX6_alters_221 ?_
    refine E.it (nI (R (10 + j))) (by rw [nI_add, Nat.add_zero]) ?_
    refine e_istore (pc := 222) dX6_alters_222 (by decide) rfl ?_
    refine e_aload_n (pc := 224) (i := 0) dX6_alters_224 rfl rfl ?_
    refine e_getR (pc := 225) dX6_alters_225 (fX6_7 rfl) sh_54 rfl ?_
    refine e_iconst' (pc := 228) (nI 5) dX6_alters_228 (by decide) ?_
    refine e_iload_n (pc := 229) (i := 2) dX6_alters_229 rfl rfl ?_
    refine e_imul (pc := 230) dX6_alters_230 ?_
    refine E.it (nI 10) (pk_mul _ _) ?_
    refine e_iload_n (pc := 231) (i := 1) dX6_alters_231 rfl rfl ?_
    refine e_iadd (pc := 232) dX6_alters_232 ?_
    refine E.it (nI (10 + j)) (nI_add _ _) ?_
    refine e_iload_n (pc := 233) (i := 3) dX6_alters_233 rfl rfl ?_
    refine e_iload (pc := 234) dX6_alters_234 rfl ?_
    refine e_isub (pc := 236) dX6_alters_236 ?_
    refine E.it (pv 2 b) (by show nI b - nI 0 = nI b; rw [nI_0, Int32.sub_zero]) ?_
    refine e_iast (pc := 237) dX6_alters_237 sh_55 (vp_in_nI (by omega) (by omega)) ?_
    refine e_iload (pc := 238) dX6_alters_238 rfl ?_
    refine e_iret (pc := 240) (st := []) (ty := .int) dX6_alters_240 rfl rfl ?_
    have ok : okM R j 2 b = true := by
      first | (simp [okM]; omega) | (simp [okM]; done)
    rw [nI_clamp (show 10 + j < 2 ^ 31 by omega)]
    refine k _ ok ?_ (FrQ.up ⟨rfl, fun _ _ => rfl, fun _ _ => rfl⟩ (by omega) (by omega))
    have := hp.set (a := 2) (w := j) (v := b) (by omega) (by omega) (by omega)
    rw [Nat.zero_add] at this
    exact this
theorem lp_altG3 {sc : PSc} {j b : Nat} {R : Rw} {S : PS} {Q : PQ} (hv : Vd R) (hp : PgAt S 0 R) (hw : j < R 20) (h1 : 0 ≤ b) (h2 : b ≤ 12) (kf : okM R j 3 b = false → Q (some (.int (-2))) S) (k : ∀ S', okM R j 3 b = true → PgAt S' 0 (rs R (5 * 3 + j) b) → FrQ 0 S S' → Q (some (.int (nI (R (15 + j))))) S') : E sc mX6_alters 69 [.ref 54, .int (nI j), .int (nI 3), .int (nI b), .null, .null, .null, .null, .null, .null] [.int (nI 1)] S Q := by
  have hv5 := hv.1
  obtain ⟨hk4, ht2, ht12, hdt, hbr⟩ := hv.2 j hw
  refine e_istore (pc := 69) dX6_alters_69 (by decide) rfl ?_
  refine e_aload_n (pc := 71) (i := 0) dX6_alters_71 rfl rfl ?_
  refine e_iload_n (pc := 72) (i := 1) dX6_alters_72 rfl rfl ?_
  refine e_callV1 (pc := 73) (M' := mX6_isWheel) dX6_alters_73 iX6_isWheel lkX6_144 (by decide) (rO_obj sh_54 rfl) (Nat.le_of_ble_eq_true rfl) (Nat.le_of_ble_eq_true rfl) ?_
  refine sp_isWheelY hv hp hw ?_
  refine e_if_eq (pc := 76) (tgt := 84) dX6_alters_76 (by decide) (fun h76 => absurd h76 (by decide)) (fun h76 => ?_)
  refine e_iload (pc := 79) dX6_alters_79 rfl ?_
  refine e_if_ne (pc := 81) (tgt := 86) dX6_alters_81 (by decide) (fun h81 => ?_) (fun h81 => absurd h81 (by decide))
  refine e_aload_n (pc := 86) (i := 0) dX6_alters_86 rfl rfl ?_
  refine e_getR (pc := 87) dX6_alters_87 (fX6_7 rfl) sh_54 rfl ?_
  refine e_iconst' (pc := 90) (nI 5) dX6_alters_90 (by decide) ?_
  refine e_iload_n (pc := 91) (i := 1) dX6_alters_91 rfl rfl ?_
  refine e_iadd (pc := 92) dX6_alters_92 ?_
  refine E.it (nI (5 + j)) (nI_add _ _) ?_
  refine e_iald (pc := 93) dX6_alters_93 sh_55 (vp_in_nI (by omega) (by omega)) ?_
  refine E.it (nI (R (5 + j))) (by rw [nI_clamp (by omega)]; have := hp.gt (b := 1) (by omega) hw; simpa [pv] using this) ?_
  refine e_istore (pc := 94) dX6_alters_94 (by decide) rfl ?_
  refine e_aload_n (pc := 96) (i := 0) dX6_alters_96 rfl rfl ?_
  refine e_getR (pc := 97) dX6_alters_97 (fX6_7 rfl) sh_54 rfl ?_
  refine e_bipush' (pc := 100) (nI 15) dX6_alters_100 (by decide) ?_
  refine e_iload_n (pc := 102) (i := 1) dX6_alters_102 rfl rfl ?_
  refine e_iadd (pc := 103) dX6_alters_103 ?_
  refine E.it (nI (15 + j)) (nI_add _ _) ?_
  refine e_iald (pc := 104) dX6_alters_104 sh_55 (vp_in_nI (by omega) (by omega)) ?_
  refine E.it (nI (R (15 + j)) - nI 12) (by rw [nI_clamp (by omega)]; have := hp.gt (b := 3) (by omega) hw; simpa [pv] using this) ?_
  refine e_bipush' (pc := 105) (nI 12) dX6_alters_105 (by decide) ?_
  refine e_iadd (pc := 107) dX6_alters_107 ?_
  refine E.it (nI (R (15 + j))) b12 ?_
  refine e_istore (pc := 108) dX6_alters_108 (by decide) rfl ?_
  refine e_iload_n (pc := 110) (i := 2) dX6_alters_110 rfl rfl ?_
  refine e_iconst' (pc := 111) (nI 1) dX6_alters_111 (by decide) ?_
  refine e_icmp_ne (pc := 112) (tgt := 145) dX6_alters_112 (by decide) (fun h112 => ?_) (fun h112 => absurd h112 (by decide))
  refine e_iconst' (pc := 145) (nI 0) dX6_alters_145 (by decide) ?_
  refine e_istore (pc := 146) dX6_alters_146 (by decide) rfl ?_
  refine e_iload (pc := 148) dX6_alters_148 rfl ?_
  refine e_if_ne (pc := 150) (tgt := 181) dX6_alters_150 (by decide) (fun h150 => absurd (by decide) h150) (fun h150 => ?_)
  refine e_iload_n (pc := 153) (i := 2) dX6_alters_153 rfl rfl ?_
  refine e_iconst' (pc := 154) (nI 2) dX6_alters_154 (by decide) ?_
  refine e_icmp_ne (pc := 155) (tgt := 164) dX6_alters_155 (by decide) (fun h155 => ?_) (fun h155 => absurd h155 (by decide))
  refine e_iload_n (pc := 164) (i := 2) dX6_alters_164 rfl rfl ?_
  refine e_iconst' (pc := 165) (nI 3) dX6_alters_165 (by decide) ?_
  refine e_icmp_ne (pc := 166) (tgt := 185) dX6_alters_166 (by decide) (fun h166 => absurd (by decide) h166) (fun h166 => ?_)
  refine e_iload_n (pc := 169) (i := 3) dX6_alters_169 rfl rfl ?_
  refine e_bipush' (pc := 170) (nI 12) dX6_alters_170 (by decide) ?_
  refine e_icmp_ge (pc := 172) (tgt := 185) dX6_alters_172 (by decide) (fun h172 => ?_) (fun h172 => ?_)
  · replace h172 := (nI_leI (by omega) (by omega)).mp h172
    refine e_iconst' (pc := 185) (nI 0) dX6_alters_185 (by decide) ?_
    refine e_istore (pc := 186) dX6_alters_186 (by decide) rfl ?_
    refine e_iload (pc := 188) dX6_alters_188 rfl ?_
    refine e_if_eq (pc := 190) (tgt := 196) dX6_alters_190 (by decide) (fun h190 => ?_) (fun h190 => absurd (by decide) h190)
    refine e_iload_n (pc := 196) (i := 2) dX6_alters_196 rfl rfl ?_
    refine e_iconst' (pc := 197) (nI 3) dX6_alters_197 (by decide) ?_
    refine e_icmp_ne (pc := 198) (tgt := 206) dX6_alters_198 (by decide) (fun h198 => absurd (by decide) h198) (fun h198 => ?_)
    refine e_bipush' (pc := 201) (nI 12) dX6_alters_201 (by decide) ?_
    refine e_goto (pc := 203) (tgt := 207) dX6_alters_203 (by decide) ?_
    refine e_istore (pc := 207) dX6_alters_207 (by decide) rfl ?_
    refine e_aload_n (pc := 209) (i := 0) dX6_alters_209 rfl rfl ?_
    refine e_getR (pc := 210) dX6_alters_210 (fX6_7 rfl) sh_54 rfl ?_
    refine e_iconst' (pc := 213) (nI 5) dX6_alters_213 (by decide) ?_
    refine e_iload_n (pc := 214) (i := 2) dX6_alters_214 rfl rfl ?_
    refine e_imul (pc := 215) dX6_alters_215 ?_
    refine E.it (nI 15) (pk_mul _ _) ?_
    refine e_iload_n (pc := 216) (i := 1) dX6_alters_216 rfl rfl ?_
    refine e_iadd (pc := 217) dX6_alters_217 ?_
    refine E.it (nI (15 + j)) (nI_add _ _) ?_
    refine e_iald (pc := 218) dX6_alters_218 sh_55 (vp_in_nI (by omega) (by omega)) ?_
    refine E.it (nI (R (15 + j)) - nI 12) (by rw [nI_clamp (by omega)]; have := hp.gt (b := 3) (by omega) hw; simpa [pv] using this) ?_
    refine e_iload (pc := 219) dX6_alters_219 rfl ?_
    refine e_iadd (pc := 221) dX6_alters_221 ?_
    refine E.it (nI (R (15 + j))) b12 ?_
    refine e_istore (pc := 222) dX6_alters_222 (by decide) rfl ?_
    refine e_aload_n (pc := 224) (i := 0) dX6_alters_224 rfl rfl ?_
    refine e_getR (pc := 225) dX6_alters_225 (fX6_7 rfl) sh_54 rfl ?_
    refine e_iconst' (pc := 228) (nI 5) dX6_alters_228 (by decide) ?_
    refine e_iload_n (pc := 229) (i := 2) dX6_alters_229 rfl rfl ?_
    refine e_imul (pc := 230) dX6_alters_230 ?_
    refine E.it (nI 15) (pk_mul _ _) ?_
    refine e_iload_n (pc := 231) (i := 1) dX6_alters_231 rfl rfl ?_
    refine e_iadd (pc := 232) dX6_alters_232 ?_
    refine E.it (nI (15 + j)) (nI_add _ _) ?_
    refine e_iload_n (pc := 233) (i := 3) dX6_alters_233 rfl rfl ?_
    refine e_iload (pc := 234) dX6_alters_234 rfl ?_
    refine e_isub (pc := 236) dX6_alters_236 ?_
    refine E.it (pv 3 b) rfl ?_
    refine e_iast (pc := 237) dX6_alters_237 sh_55 (vp_in_nI (by omega) (by omega)) ?_
    refine e_iload (pc := 238) dX6_alters_238 rfl ?_
    refine e_iret (pc := 240) (st := []) (ty := .int) dX6_alters_240 rfl rfl ?_
    have ok : okM R j 3 b = true := by
      first | (simp [okM]; omega) | (simp [okM]; done)
    rw [nI_clamp (show 15 + j < 2 ^ 31 by omega)]
    refine k _ ok ?_ (FrQ.up ⟨rfl, fun _ _ => rfl, fun _ _ => rfl⟩ (by omega) (by omega))
    have := hp.set (a := 3) (w := j) (v := b) (by omega) (by omega) (by omega)
    rw [Nat.zero_add] at this
    exact this
  · replace h172 := mt (nI_leI (by omega) (by omega)).mpr h172
    refine e_iload_n (pc := 175) (i := 3) dX6_alters_175 rfl rfl ?_
    refine e_iload (pc := 176) dX6_alters_176 rfl ?_
    refine e_icmp_lt (pc := 178) (tgt := 185) dX6_alters_178 (by decide) (fun h178 => ?_) (fun h178 => ?_)
    · replace h178 := (nI_ltI (by omega) (by omega)).mp h178
      refine e_iconst' (pc := 185) (nI 0) dX6_alters_185 (by decide) ?_
      refine e_istore (pc := 186) dX6_alters_186 (by decide) rfl ?_
      refine e_iload (pc := 188) dX6_alters_188 rfl ?_
      refine e_if_eq (pc := 190) (tgt := 196) dX6_alters_190 (by decide) (fun h190 => ?_) (fun h190 => absurd (by decide) h190)
      refine e_iload_n (pc := 196) (i := 2) dX6_alters_196 rfl rfl ?_
      refine e_iconst' (pc := 197) (nI 3) dX6_alters_197 (by decide) ?_
      refine e_icmp_ne (pc := 198) (tgt := 206) dX6_alters_198 (by decide) (fun h198 => absurd (by decide) h198) (fun h198 => ?_)
      refine e_bipush' (pc := 201) (nI 12) dX6_alters_201 (by decide) ?_
      refine e_goto (pc := 203) (tgt := 207) dX6_alters_203 (by decide) ?_
      refine e_istore (pc := 207) dX6_alters_207 (by decide) rfl ?_
      refine e_aload_n (pc := 209) (i := 0) dX6_alters_209 rfl rfl ?_
      refine e_getR (pc := 210) dX6_alters_210 (fX6_7 rfl) sh_54 rfl ?_
      refine e_iconst' (pc := 213) (nI 5) dX6_alters_213 (by decide) ?_
      refine e_iload_n (pc := 214) (i := 2) dX6_alters_214 rfl rfl ?_
      refine e_imul (pc := 215) dX6_alters_215 ?_
      refine E.it (nI 15) (pk_mul _ _) ?_
      refine e_iload_n (pc := 216) (i := 1) dX6_alters_216 rfl rfl ?_
      refine e_iadd (pc := 217) dX6_alters_217 ?_
      refine E.it (nI (15 + j)) (nI_add _ _) ?_
      refine e_iald (pc := 218) dX6_alters_218 sh_55 (vp_in_nI (by omega) (by omega)) ?_
      refine E.it (nI (R (15 + j)) - nI 12) (by rw [nI_clamp (by omega)]; have := hp.gt (b := 3) (by omega) hw; simpa [pv] using this) ?_
      refine e_iload (pc := 219) dX6_alters_219 rfl ?_
      refine e_iadd (pc := 221) dX6_alters_221 ?_
      refine E.it (nI (R (15 + j))) b12 ?_
      refine e_istore (pc := 222) dX6_alters_222 (by decide) rfl ?_
      refine e_aload_n (pc := 224) (i := 0) dX6_alters_224 rfl rfl ?_
      refine e_getR (pc := 225) dX6_alters_225 (fX6_7 rfl) sh_54 rfl ?_
      refine e_iconst' (pc := 228) (nI 5) dX6_alters_228 (by decide) ?_
      refine e_iload_n (pc := 229) (i := 2) dX6_alters_229 rfl rfl ?_
      refine e_imul (pc := 230) dX6_alters_230 ?_
      refine E.it (nI 15) (pk_mul _ _) ?_
      refine e_iload_n (pc := 231) (i := 1) dX6_alters_231 rfl rfl ?_
      refine e_iadd (pc := 232) dX6_alters_232 ?_
      refine E.it (nI (15 + j)) (nI_add _ _) ?_
      refine e_iload_n (pc := 233) (i := 3) dX6_alters_233 rfl rfl ?_
      refine e_iload (pc := 234) dX6_alters_234 rfl ?_
      refine e_isub (pc := 236) dX6_alters_236 ?_
      refine E.it (pv 3 b) rfl ?_
      refine e_iast (pc := 237) dX6_alters_237 sh_55 (vp_in_nI (by omega) (by omega)) ?_
      refine e_iload (pc := 238) dX6_alters_238 rfl ?_
      refine e_iret (pc := 240) (st := []) (ty := .int) dX6_alters_240 rfl rfl ?_
      have ok : okM R j 3 b = true := by
        first | (simp [okM]; omega) | (simp [okM]; done)
      rw [nI_clamp (show 15 + j < 2 ^ 31 by omega)]
      refine k _ ok ?_ (FrQ.up ⟨rfl, fun _ _ => rfl, fun _ _ => rfl⟩ (by omega) (by omega))
      have := hp.set (a := 3) (w := j) (v := b) (by omega) (by omega) (by omega)
      rw [Nat.zero_add] at this
      exact this
    · replace h178 := mt (nI_ltI (by omega) (by omega)).mpr h178
      refine e_iconst' (pc := 181) (nI 1) dX6_alters_181 (by decide) ?_
      refine e_goto (pc := 182) (tgt := 186) dX6_alters_182 (by decide) ?_
      refine e_istore (pc := 186) dX6_alters_186 (by decide) rfl ?_
      refine e_iload (pc := 188) dX6_alters_188 rfl ?_
      refine e_if_eq (pc := 190) (tgt := 196) dX6_alters_190 (by decide) (fun h190 => absurd h190 (by decide)) (fun h190 => ?_)
      refine e_bipush' (pc := 193) (-2) dX6_alters_193 (by decide) ?_
      refine e_iret (pc := 195) (st := []) (ty := .int) dX6_alters_195 rfl rfl ?_
      have ok : okM R j 3 b = false := by
        first | (simp [okM]; omega) | (simp [okM]; done)
      rw [ok] at kf
      exact kf rfl
theorem sp_alters {sc : PSc} {w what v : Int32} {R : Rw} {S : PS} {Q : PQ} (hv : Vd R) (hp : PgAt S 0 R) (k : ∀ S', PgAt S' 0 (altS R w what v).2 → FrQ 0 S S' → Q (some (.int (altS R w what v).1)) S') : E sc mX6_alters 0 (pL0 mX6_alters [.ref 54, .int w, .int what, .int v]) [] S Q := by
  show E sc mX6_alters 0 [.ref 54, .int w, .int what, .int v, .null, .null, .null, .null, .null, .null] [] S Q
  have hv5 := hv.1
  have kb : (∀ j a b, altC R w what v j a b → False) → Q (some (.int (-1))) S := fun h => by
    have := k S; rw [altS_bad h] at this; exact this hp ⟨rfl, fun _ _ => rfl, fun _ _ => rfl⟩
  rcases Classical.em (inr what 0 3) with ⟨a, rfl, -, ha⟩ | hn
  · rcases (show a = 0 ∨ a = 1 ∨ a = 2 ∨ a = 3 by omega) with rfl | rfl | rfl | rfl
    · rcases Classical.em (inr v 0 3) with ⟨b, rfl, h1, h2⟩ | hn
      · refine lp_altY0 h1 h2 ?_
        rcases Classical.em (inw w (R 20)) with ⟨j, rfl, hw⟩ | hn
        · have ok := altS_ok (a := 0) (b := b) hv5 hw (by omega) ⟨by simpa using h1, by simpa using h2⟩
          refine lp_altG0 hv hp hw h1 h2 (fun hm => ?_) (fun S' hm p2 f2 => ?_)
          · rw [hm] at ok; have := k S; rw [ok] at this; exact this hp ⟨rfl, fun _ _ => rfl, fun _ _ => rfl⟩
          · rw [hm] at ok; have := k S'; rw [ok] at this; exact (by simpa using this p2 f2)
        · exact lp_altB1 hv hp hn (kb (fun j a b q => hn ⟨j, q.2.2.2.1, q.1⟩))
      · refine lp_altN0 hn (lp_altB0 hv hp (kb (fun j a2 b q => ?_)))
        have ea : 0 = a2 := (nI_eq (by omega) (by have := q.2.1; omega)).mp q.2.2.2.2.1
        subst ea
        exact hn ⟨b, q.2.2.2.2.2, by have := q.2.2.1.1; simpa using this, by have := q.2.2.1.2; simpa using this⟩
    · rcases Classical.em (inr v 2 12) with ⟨b, rfl, h1, h2⟩ | hn
      · refine lp_altY1 h1 h2 ?_
        rcases Classical.em (inw w (R 20)) with ⟨j, rfl, hw⟩ | hn
        · have ok := altS_ok (a := 1) (b := b) hv5 hw (by omega) ⟨by simpa using h1, by simpa using h2⟩
          refine lp_altG1 hv hp hw h1 h2 (fun hm => ?_) (fun S' hm p2 f2 => ?_)
          · rw [hm] at ok; have := k S; rw [ok] at this; exact this hp ⟨rfl, fun _ _ => rfl, fun _ _ => rfl⟩
          · rw [hm] at ok; have := k S'; rw [ok] at this; exact (by simpa using this p2 f2)
        · exact lp_altB1 hv hp hn (kb (fun j a b q => hn ⟨j, q.2.2.2.1, q.1⟩))
      · refine lp_altN1 hn (lp_altB0 hv hp (kb (fun j a2 b q => ?_)))
        have ea : 1 = a2 := (nI_eq (by omega) (by have := q.2.1; omega)).mp q.2.2.2.2.1
        subst ea
        exact hn ⟨b, q.2.2.2.2.2, by have := q.2.2.1.1; simpa using this, by have := q.2.2.1.2; simpa using this⟩
    · rcases Classical.em (inr v 0 11) with ⟨b, rfl, h1, h2⟩ | hn
      · refine lp_altY2 h1 h2 ?_
        rcases Classical.em (inw w (R 20)) with ⟨j, rfl, hw⟩ | hn
        · have ok := altS_ok (a := 2) (b := b) hv5 hw (by omega) ⟨by simpa using h1, by simpa using h2⟩
          refine lp_altG2 hv hp hw h1 h2 (fun hm => ?_) (fun S' hm p2 f2 => ?_)
          · rw [hm] at ok; have := k S; rw [ok] at this; exact this hp ⟨rfl, fun _ _ => rfl, fun _ _ => rfl⟩
          · rw [hm] at ok; have := k S'; rw [ok] at this; exact (by simpa using this p2 f2)
        · exact lp_altB1 hv hp hn (kb (fun j a b q => hn ⟨j, q.2.2.2.1, q.1⟩))
      · refine lp_altN2 hn (lp_altB0 hv hp (kb (fun j a2 b q => ?_)))
        have ea : 2 = a2 := (nI_eq (by omega) (by have := q.2.1; omega)).mp q.2.2.2.2.1
        subst ea
        exact hn ⟨b, q.2.2.2.2.2, by have := q.2.2.1.1; simpa using this, by have := q.2.2.1.2; simpa using this⟩
    · rcases Classical.em (inr v 0 12) with ⟨b, rfl, h1, h2⟩ | hn
      · refine lp_altY3 h1 h2 ?_
        rcases Classical.em (inw w (R 20)) with ⟨j, rfl, hw⟩ | hn
        · have ok := altS_ok (a := 3) (b := b) hv5 hw (by omega) ⟨by simpa using h1, by simpa using h2⟩
          refine lp_altG3 hv hp hw h1 h2 (fun hm => ?_) (fun S' hm p2 f2 => ?_)
          · rw [hm] at ok; have := k S; rw [ok] at this; exact this hp ⟨rfl, fun _ _ => rfl, fun _ _ => rfl⟩
          · rw [hm] at ok; have := k S'; rw [ok] at this; exact (by simpa using this p2 f2)
        · exact lp_altB1 hv hp hn (kb (fun j a b q => hn ⟨j, q.2.2.2.1, q.1⟩))
      · refine lp_altN3 hn (lp_altB0 hv hp (kb (fun j a2 b q => ?_)))
        have ea : 3 = a2 := (nI_eq (by omega) (by have := q.2.1; omega)).mp q.2.2.2.2.1
        subst ea
        exact hn ⟨b, q.2.2.2.2.2, by have := q.2.2.1.1; simpa using this, by have := q.2.2.1.2; simpa using this⟩
  · exact lp_altX hn (lp_altB0 hv hp (kb (fun j a b q => hn ⟨a, q.2.2.2.2.1, by omega, by have := q.2.1; omega⟩)))

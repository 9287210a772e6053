theorem lp_turnedOn {sc : PSc} {p : Nat} {x : Int32} {Q : PQ} (hp : p + 22 ≤ 132) : ∀ (n j : Nat) (R : Rw) (S : PS), Vd R → PgAt S p R → j ≤ 5 → R 20 ≤ j + n → (∀ S', PgAt S' p (tf n R j).1 → S'.1 54 14 = S.1 54 14 + nI (tf n R j).2 → FrP p S S' → Q none S') → E sc mX6_turnedOn 5 [.ref 54, .int (nI p), .int x, .int (nI 1), .int (nI j)] [] S Q := by
  intro n
  induction n with
  | zero =>
    intro j R S hv hr hj5 hn k
    have h5 := hv.1
    refine e_iload (pc := 5) dX6_turnedOn_5 rfl ?_
    refine e_aload_n (pc := 7) (i := 0) dX6_turnedOn_7 rfl rfl ?_
    refine e_getR (pc := 8) dX6_turnedOn_8 (fX6_7 rfl) sh_54 rfl ?_
    refine e_iload_n (pc := 11) (i := 1) dX6_turnedOn_11 rfl rfl ?_
    refine e_bipush' (pc := 12) (nI 20) dX6_turnedOn_12 (by decide) ?_
    refine e_iadd (pc := 14) dX6_turnedOn_14 ?_
    refine E.it (nI (p + 20)) (nI_add _ _) ?_
    refine e_iald (pc := 15) dX6_turnedOn_15 sh_55 (vp_in_nI (by omega) (by omega)) ?_
    refine E.it (nI (R (20))) (pgn hp hr) ?_
    refine e_icmp_ge (pc := 16) (tgt := 74) dX6_turnedOn_16 (by decide) (fun h16 => ?_) (fun h16 => absurd (nI_le (by omega) (by omega)) h16)
    replace h16 := (nI_leI (by omega) (by omega)).mp h16
    refine e_vret (pc := 74) (st := []) dX6_turnedOn_74 rfl ?_
    exact k S hr (by show S.1 54 14 = S.1 54 14 + nI 0; rw [nI_0, Int32.add_zero]) FrP.rf
  | succ n ih =>
    intro j R S hv hr hj5 hn k
    have h5 := hv.1
    refine e_iload (pc := 5) dX6_turnedOn_5 rfl ?_
    refine e_aload_n (pc := 7) (i := 0) dX6_turnedOn_7 rfl rfl ?_
    refine e_getR (pc := 8) dX6_turnedOn_8 (fX6_7 rfl) sh_54 rfl ?_
    refine e_iload_n (pc := 11) (i := 1) dX6_turnedOn_11 rfl rfl ?_
    refine e_bipush' (pc := 12) (nI 20) dX6_turnedOn_12 (by decide) ?_
    refine e_iadd (pc := 14) dX6_turnedOn_14 ?_
    refine E.it (nI (p + 20)) (nI_add _ _) ?_
    refine e_iald (pc := 15) dX6_turnedOn_15 sh_55 (vp_in_nI (by omega) (by omega)) ?_
    refine E.it (nI (R (20))) (pgn hp hr) ?_
    refine e_icmp_ge (pc := 16) (tgt := 74) dX6_turnedOn_16 (by decide) (fun h16 => ?_) (fun h16 => ?_)
    · replace h16 := (nI_leI (by omega) (by omega)).mp h16
      refine e_vret (pc := 74) (st := []) dX6_turnedOn_74 rfl ?_
      exact k S (by rw [tf, if_neg (by omega)]; exact hr) (by rw [tf, if_neg (by omega)]; show S.1 54 14 = S.1 54 14 + nI 0; rw [nI_0, Int32.add_zero]) FrP.rf
    · replace h16 := mt (nI_leI (by omega) (by omega)).mpr h16
      have hw : j < R 20 := by omega
      have ⟨hk4, ht2, ht12, hdt, hbr⟩ := hv.2 j hw
      have hd : tn R j < R (5 + j) := tn_lt (by omega)
      have hvd := rs_vd hv hw hd
      refine e_iload_n (pc := 19) (i := 3) dX6_turnedOn_19 rfl rfl ?_
      refine e_if_eq (pc := 20) (tgt := 74) dX6_turnedOn_20 (by decide) (fun h20 => absurd h20 (by decide)) (fun h20 => ?_)
      refine e_aload_n (pc := 23) (i := 0) dX6_turnedOn_23 rfl rfl ?_
      refine e_iload_n (pc := 24) (i := 1) dX6_turnedOn_24 rfl rfl ?_
      refine e_iload (pc := 25) dX6_turnedOn_25 rfl ?_
      refine e_callV2 (pc := 27) (M' := mX6_carriesOn) dX6_turnedOn_27 iX6_carriesOn lkX6_121 (by decide) (rO_obj sh_54 rfl) (Nat.le_of_ble_eq_true rfl) (Nat.le_of_ble_eq_true rfl) ?_
      refine sp_carriesOn hp hv hr hw ?_
      cases hc : cy R j
      · refine e_istore_n (pc := 30) (i := 3) dX6_turnedOn_30 rfl (by decide) rfl ?_
        refine e_aload_n (pc := 31) (i := 0) dX6_turnedOn_31 rfl rfl ?_
        refine e_dup (pc := 32) dX6_turnedOn_32 rfl ?_
        refine e_getI (pc := 33) dX6_turnedOn_33 (fX6_125 rfl) sh_54 rfl ?_
        refine e_iload_n (pc := 36) (i := 3) dX6_turnedOn_36 rfl rfl ?_
        refine e_if_eq (pc := 37) (tgt := 44) dX6_turnedOn_37 (by decide) (fun h37 => ?_) (fun h37 => absurd (by decide) h37)
        refine e_iconst' (pc := 44) (nI 0) dX6_turnedOn_44 (by decide) ?_
        refine e_iadd (pc := 45) dX6_turnedOn_45 ?_
        refine e_putI (pc := 46) dX6_turnedOn_46 (pX6_125 rfl) sh_54 rfl (fun h => by cases h) ?_
        refine e_aload_n (pc := 49) (i := 0) dX6_turnedOn_49 rfl rfl ?_
        refine e_getR (pc := 50) dX6_turnedOn_50 (fX6_7 rfl) sh_54 rfl ?_
        refine e_iload_n (pc := 53) (i := 1) dX6_turnedOn_53 rfl rfl ?_
        refine e_bipush' (pc := 54) (nI 10) dX6_turnedOn_54 (by decide) ?_
        refine e_iadd (pc := 56) dX6_turnedOn_56 ?_
        refine E.it (nI (p + 10)) (nI_add _ _) ?_
        refine e_iload (pc := 57) dX6_turnedOn_57 rfl ?_
        refine e_iadd (pc := 59) dX6_turnedOn_59 ?_
        refine E.it (nI (p + 10 + j)) (nI_add _ _) ?_
        refine e_aload_n (pc := 60) (i := 0) dX6_turnedOn_60 rfl rfl ?_
        refine e_iload_n (pc := 61) (i := 1) dX6_turnedOn_61 rfl rfl ?_
        refine e_iload (pc := 62) dX6_turnedOn_62 rfl ?_
        refine e_callV2 (pc := 64) (M' := mX6_turnsOn) dX6_turnedOn_64 iX6_turnsOn lkX6_128 (by decide) (rO_obj sh_54 rfl) (Nat.le_of_ble_eq_true rfl) (Nat.le_of_ble_eq_true rfl) ?_
        refine sp_turnsOn hp hv (PgAt.car hr) hw ?_
        refine e_iast (pc := 67) dX6_turnedOn_67 sh_55 (vp_in_nI (by omega) (by omega)) ?_
        rw [nI_clamp (show p + 10 + j < 2 ^ 31 by omega)]
        have hro := (PgAt.car (q := 14) (v := S.1 54 14 + nI 0) hr).dig (v := tn R j) hv hw
        refine e_iinc' (pc := 68) (nI (j + 1)) dX6_turnedOn_68 rfl (by decide) rfl (nI_1 _) ?_
        refine e_goto (pc := 71) (tgt := 5) dX6_turnedOn_71 (by decide) ?_
        refine e_iload (pc := 5) dX6_turnedOn_5 rfl ?_
        refine e_aload_n (pc := 7) (i := 0) dX6_turnedOn_7 rfl rfl ?_
        refine e_getR (pc := 8) dX6_turnedOn_8 (fX6_7 rfl) sh_54 rfl ?_
        refine e_iload_n (pc := 11) (i := 1) dX6_turnedOn_11 rfl rfl ?_
        refine e_bipush' (pc := 12) (nI 20) dX6_turnedOn_12 (by decide) ?_
        refine e_iadd (pc := 14) dX6_turnedOn_14 ?_
        refine E.it (nI (p + 20)) (nI_add _ _) ?_
        refine e_iald (pc := 15) dX6_turnedOn_15 sh_55 (vp_in_nI (by omega) (by omega)) ?_
        refine e_icmp_ge (pc := 16) (tgt := 74) dX6_turnedOn_16 (by decide) (fun h16b => ?_) (fun h16b => ?_)
        · refine e_vret (pc := 74) (st := []) dX6_turnedOn_74 rfl ?_
          refine k _ (by rw [tf, if_pos hw, if_neg (by rw [hc]; decide)]; exact hro) ?_ ((FrP.rf.car).up (by omega) (by omega))
          rw [tf, if_pos hw, if_neg (by rw [hc]; decide)]
          rfl
        · refine e_iload_n (pc := 19) (i := 3) dX6_turnedOn_19 rfl rfl ?_
          refine e_if_eq (pc := 20) (tgt := 74) dX6_turnedOn_20 (by decide) (fun h20 => ?_) (fun h20 => absurd (by decide) h20)
          refine e_vret (pc := 74) (st := []) dX6_turnedOn_74 rfl ?_
          refine k _ (by rw [tf, if_pos hw, if_neg (by rw [hc]; decide)]; exact hro) ?_ ((FrP.rf.car).up (by omega) (by omega))
          rw [tf, if_pos hw, if_neg (by rw [hc]; decide)]
          rfl
      · refine e_istore_n (pc := 30) (i := 3) dX6_turnedOn_30 rfl (by decide) rfl ?_
        refine e_aload_n (pc := 31) (i := 0) dX6_turnedOn_31 rfl rfl ?_
        refine e_dup (pc := 32) dX6_turnedOn_32 rfl ?_
        refine e_getI (pc := 33) dX6_turnedOn_33 (fX6_125 rfl) sh_54 rfl ?_
        refine e_iload_n (pc := 36) (i := 3) dX6_turnedOn_36 rfl rfl ?_
        refine e_if_eq (pc := 37) (tgt := 44) dX6_turnedOn_37 (by decide) (fun h37 => absurd h37 (by decide)) (fun h37 => ?_)
        refine e_iconst' (pc := 40) (nI 1) dX6_turnedOn_40 (by decide) ?_
        refine e_goto (pc := 41) (tgt := 45) dX6_turnedOn_41 (by decide) ?_
        refine e_iadd (pc := 45) dX6_turnedOn_45 ?_
        refine e_putI (pc := 46) dX6_turnedOn_46 (pX6_125 rfl) sh_54 rfl (fun h => by cases h) ?_
        refine e_aload_n (pc := 49) (i := 0) dX6_turnedOn_49 rfl rfl ?_
        refine e_getR (pc := 50) dX6_turnedOn_50 (fX6_7 rfl) sh_54 rfl ?_
        refine e_iload_n (pc := 53) (i := 1) dX6_turnedOn_53 rfl rfl ?_
        refine e_bipush' (pc := 54) (nI 10) dX6_turnedOn_54 (by decide) ?_
        refine e_iadd (pc := 56) dX6_turnedOn_56 ?_
        refine E.it (nI (p + 10)) (nI_add _ _) ?_
        refine e_iload (pc := 57) dX6_turnedOn_57 rfl ?_
        refine e_iadd (pc := 59) dX6_turnedOn_59 ?_
        refine E.it (nI (p + 10 + j)) (nI_add _ _) ?_
        refine e_aload_n (pc := 60) (i := 0) dX6_turnedOn_60 rfl rfl ?_
        refine e_iload_n (pc := 61) (i := 1) dX6_turnedOn_61 rfl rfl ?_
        refine e_iload (pc := 62) dX6_turnedOn_62 rfl ?_
        refine e_callV2 (pc := 64) (M' := mX6_turnsOn) dX6_turnedOn_64 iX6_turnsOn lkX6_128 (by decide) (rO_obj sh_54 rfl) (Nat.le_of_ble_eq_true rfl) (Nat.le_of_ble_eq_true rfl) ?_
        refine sp_turnsOn hp hv (PgAt.car hr) hw ?_
        refine e_iast (pc := 67) dX6_turnedOn_67 sh_55 (vp_in_nI (by omega) (by omega)) ?_
        rw [nI_clamp (show p + 10 + j < 2 ^ 31 by omega)]
        have hro := (PgAt.car (q := 14) (v := S.1 54 14 + nI 1) hr).dig (v := tn R j) hv hw
        refine e_iinc' (pc := 68) (nI (j + 1)) dX6_turnedOn_68 rfl (by decide) rfl (nI_1 _) ?_
        refine e_goto (pc := 71) (tgt := 5) dX6_turnedOn_71 (by decide) ?_
        refine ih (j + 1) (rs R (10 + j) (tn R j)) _ hvd hro (by omega) (by rw [rs_ne _ _ (by omega)]; omega) (fun S' a b c => k S' ?_ ?_ ?_)
        · rw [tf, if_pos hw, if_pos hc]; exact a
        · rw [b, tf, if_pos hw, if_pos hc]
          show S.1 54 14 + nI 1 + nI (tf n (rs R (10 + j) (tn R j)) (j + 1)).2 = S.1 54 14 + nI ((tf n (rs R (10 + j) (tn R j)) (j + 1)).2 + 1)
          rw [Int32.add_assoc, nI_add, Nat.add_comm 1]
        · exact ((FrP.rf.car).up (by omega) (by omega)).tr c
theorem sp_turnedOn {sc : PSc} {p : Nat} {R : Rw} {S : PS} {Q : PQ} {w : Nat} (hp : p + 22 ≤ 132) (hv : Vd R) (hr : PgAt S p R) (hw : w ≤ 5) (k : ∀ S', PgAt S' p (turnR R w).1 → S'.1 54 14 = S.1 54 14 + nI (turnR R w).2 → FrP p S S' → Q none S') : E sc mX6_turnedOn 0 (pL0 mX6_turnedOn [.ref 54, .int (nI p), .int (nI w)]) [] S Q := by
  show E sc mX6_turnedOn 0 [.ref 54, .int (nI p), .int (nI w), .null, .null] [] S Q
  have h5 := hv.1
  refine e_iconst' (pc := 0) (nI 1) dX6_turnedOn_0 (by decide) ?_
  refine e_istore_n (pc := 1) (i := 3) dX6_turnedOn_1 rfl (by decide) rfl ?_
  refine e_iload_n (pc := 2) (i := 2) dX6_turnedOn_2 rfl rfl ?_
  refine e_istore (pc := 3) dX6_turnedOn_3 (by decide) rfl ?_
  exact lp_turnedOn hp 5 w R S hv hr hw (by omega) k
theorem sp_pushOn {sc : PSc} {p : Nat} {R : Rw} {S : PS} {Q : PQ} (hp : p + 22 ≤ 132) (hv : Vd R) (hr : PgAt S p R) (k : ∀ S', PgAt S' p (pushR R).1 → S'.1 54 14 = S.1 54 14 + nI (pushR R).2 → FrP p S S' → Q none S') : E sc mX6_pushOn 0 (pL0 mX6_pushOn [.ref 54, .int (nI p)]) [] S Q := by
  show E sc mX6_pushOn 0 [.ref 54, .int (nI p)] [] S Q
  refine e_aload_n (pc := 0) (i := 0) dX6_pushOn_0 rfl rfl ?_
  refine e_getR (pc := 1) dX6_pushOn_1 (fX6_7 rfl) sh_54 rfl ?_
  refine e_iload_n (pc := 4) (i := 1) dX6_pushOn_4 rfl rfl ?_
  refine e_bipush' (pc := 5) (nI 21) dX6_pushOn_5 (by decide) ?_
  refine e_iadd (pc := 7) dX6_pushOn_7 ?_
  refine E.it (nI (p + 21)) (nI_add _ _) ?_
  refine e_dup2 (pc := 8) dX6_pushOn_8 rfl rfl ?_
  refine e_iald (pc := 9) dX6_pushOn_9 sh_55 (vp_in_nI (by omega) (by omega)) ?_
  refine E.it (nI (R (21))) (pgc hp hr) ?_
  refine e_iconst' (pc := 10) (nI 1) dX6_pushOn_10 (by decide) ?_
  refine e_iadd (pc := 11) dX6_pushOn_11 ?_
  refine E.it (nI (R (21) + 1)) (nI_add _ _) ?_
  refine e_iast (pc := 12) dX6_pushOn_12 sh_55 (vp_in_nI (by omega) (by omega)) ?_
  rw [nI_clamp (show p + 21 < 2 ^ 31 by omega)]
  refine e_aload_n (pc := 13) (i := 0) dX6_pushOn_13 rfl rfl ?_
  refine e_iload_n (pc := 14) (i := 1) dX6_pushOn_14 rfl rfl ?_
  refine e_iconst' (pc := 15) (nI 0) dX6_pushOn_15 (by decide) ?_
  refine e_callV2 (pc := 16) (M' := mX6_turnedOn) dX6_pushOn_16 iX6_turnedOn lkX6_131 (by decide) (rO_obj sh_54 rfl) (Nat.le_of_ble_eq_true rfl) (Nat.le_of_ble_eq_true rfl) ?_
  refine sp_turnedOn (w := 0) hp (rc_vd hv) (hr.cnt hv) (by omega) (fun S' a b c => ?_)
  refine e_vret (pc := 19) (st := []) dX6_pushOn_19 rfl ?_
  refine k S' a ?_ ((FrP.rf.up (by omega) (by omega)).tr c)
  rw [b]
  rfl
theorem lp_allOn {sc : PSc} {p : Nat} {R : Rw} {S : PS} {Q : PQ} (hp : p + 22 ≤ 132) (hv : Vd R) (hr : PgAt S p R) (k : Q (some (.int (nI (allR R)))) S) : ∀ (n : Nat) (j : Nat), j ≤ R 20 → R 20 - j < n → E sc mX6_allOn 4 [.ref 54, .int (nI p), .int (nI (wt R j)), .int (nI j)] [] S Q := by
  intro n
  induction n with
  | zero => intro j hj hn; exact absurd hn (by omega)
  | succ n ih =>
    intro j hj hn
    have h5 := hv.1
    refine e_iload_n (pc := 4) (i := 3) dX6_allOn_4 rfl rfl ?_
    refine e_aload_n (pc := 5) (i := 0) dX6_allOn_5 rfl rfl ?_
    refine e_getR (pc := 6) dX6_allOn_6 (fX6_7 rfl) sh_54 rfl ?_
    refine e_iload_n (pc := 9) (i := 1) dX6_allOn_9 rfl rfl ?_
    refine e_bipush' (pc := 10) (nI 20) dX6_allOn_10 (by decide) ?_
    refine e_iadd (pc := 12) dX6_allOn_12 ?_
    refine E.it (nI (p + 20)) (nI_add _ _) ?_
    refine e_iald (pc := 13) dX6_allOn_13 sh_55 (vp_in_nI (by omega) (by omega)) ?_
    refine E.it (nI (R (20))) (pgn hp hr) ?_
    refine e_icmp_ge (pc := 14) (tgt := 36) dX6_allOn_14 (by decide) (fun h14 => ?_) (fun h14 => ?_)
    · replace h14 := (nI_leI (by omega) (by omega)).mp h14
      obtain e : j = R 20 := by omega
      refine e_iload_n (pc := 36) (i := 2) dX6_allOn_36 rfl rfl ?_
      refine e_iret (pc := 37) (st := []) (ty := .int) dX6_allOn_37 rfl rfl ?_
      exact qeq k (by rw [e]; rfl)
    · replace h14 := mt (nI_leI (by omega) (by omega)).mpr h14
      have hw : j < R 20 := by omega
      refine e_iload_n (pc := 17) (i := 2) dX6_allOn_17 rfl rfl ?_
      refine e_aload_n (pc := 18) (i := 0) dX6_allOn_18 rfl rfl ?_
      refine e_getR (pc := 19) dX6_allOn_19 (fX6_7 rfl) sh_54 rfl ?_
      refine e_iload_n (pc := 22) (i := 1) dX6_allOn_22 rfl rfl ?_
      refine e_iconst' (pc := 23) (nI 5) dX6_allOn_23 (by decide) ?_
      refine e_iadd (pc := 24) dX6_allOn_24 ?_
      refine E.it (nI (p + 5)) (nI_add _ _) ?_
      refine e_iload_n (pc := 25) (i := 3) dX6_allOn_25 rfl rfl ?_
      refine e_iadd (pc := 26) dX6_allOn_26 ?_
      refine E.it (nI (p + 5 + j)) (nI_add _ _) ?_
      refine e_iald (pc := 27) dX6_allOn_27 sh_55 (vp_in_nI (by omega) (by omega)) ?_
      refine E.it (nI (R (5 + j))) (pgt hp hv hr hw) ?_
      refine e_imul (pc := 28) dX6_allOn_28 ?_
      refine E.it (nI (wt R (j + 1))) (pk_mul _ _) ?_
      refine e_istore_n (pc := 29) (i := 2) dX6_allOn_29 rfl (by decide) rfl ?_
      refine e_iinc' (pc := 30) (nI (j + 1)) dX6_allOn_30 rfl (by decide) rfl (nI_1 _) ?_
      refine e_goto (pc := 33) (tgt := 4) dX6_allOn_33 (by decide) ?_
      exact ih (j + 1) (by omega) (by omega)
theorem sp_allOn {sc : PSc} {p : Nat} {R : Rw} {S : PS} {Q : PQ} (hp : p + 22 ≤ 132) (hv : Vd R) (hr : PgAt S p R) (k : Q (some (.int (nI (allR R)))) S) : E sc mX6_allOn 0 (pL0 mX6_allOn [.ref 54, .int (nI p)]) [] S Q := by
  show E sc mX6_allOn 0 [.ref 54, .int (nI p), .null, .null] [] S Q
  refine e_iconst' (pc := 0) (nI 1) dX6_allOn_0 (by decide) ?_
  refine e_istore_n (pc := 1) (i := 2) dX6_allOn_1 rfl (by decide) rfl ?_
  refine e_iconst' (pc := 2) (nI 0) dX6_allOn_2 (by decide) ?_
  refine e_istore_n (pc := 3) (i := 3) dX6_allOn_3 rfl (by decide) rfl ?_
  exact lp_allOn hp hv hr k (R 20 + 1) 0 (by omega) (by omega)
theorem lp_readsOn {sc : PSc} {p : Nat} {R : Rw} {S : PS} {Q : PQ} (hp : p + 22 ≤ 132) (hv : Vd R) (hr : PgAt S p R) (k : Q (some (.int (nI (reads R)))) S) : ∀ (n : Nat) (j : Nat), j ≤ R 20 → R 20 - j < n → E sc mX6_readsOn 7 [.ref 54, .int (nI p), .int (nI (rdk R j)), .int (nI (wt R j)), .int (nI j)] [] S Q := by
  intro n
  induction n with
  | zero => intro j hj hn; exact absurd hn (by omega)
  | succ n ih =>
    intro j hj hn
    have h5 := hv.1
    refine e_iload (pc := 7) dX6_readsOn_7 rfl ?_
    refine e_aload_n (pc := 9) (i := 0) dX6_readsOn_9 rfl rfl ?_
    refine e_getR (pc := 10) dX6_readsOn_10 (fX6_7 rfl) sh_54 rfl ?_
    refine e_iload_n (pc := 13) (i := 1) dX6_readsOn_13 rfl rfl ?_
    refine e_bipush' (pc := 14) (nI 20) dX6_readsOn_14 (by decide) ?_
    refine e_iadd (pc := 16) dX6_readsOn_16 ?_
    refine E.it (nI (p + 20)) (nI_add _ _) ?_
    refine e_iald (pc := 17) dX6_readsOn_17 sh_55 (vp_in_nI (by omega) (by omega)) ?_
    refine E.it (nI (R (20))) (pgn hp hr) ?_
    refine e_icmp_ge (pc := 18) (tgt := 58) dX6_readsOn_18 (by decide) (fun h18 => ?_) (fun h18 => ?_)
    · replace h18 := (nI_leI (by omega) (by omega)).mp h18
      obtain e : j = R 20 := by omega
      refine e_iload_n (pc := 58) (i := 2) dX6_readsOn_58 rfl rfl ?_
      refine e_iret (pc := 59) (st := []) (ty := .int) dX6_readsOn_59 rfl rfl ?_
      exact qeq k (by rw [e]; rfl)
    · replace h18 := mt (nI_leI (by omega) (by omega)).mpr h18
      have hw : j < R 20 := by omega
      refine e_iload_n (pc := 21) (i := 2) dX6_readsOn_21 rfl rfl ?_
      refine e_iload_n (pc := 22) (i := 3) dX6_readsOn_22 rfl rfl ?_
      refine e_aload_n (pc := 23) (i := 0) dX6_readsOn_23 rfl rfl ?_
      refine e_getR (pc := 24) dX6_readsOn_24 (fX6_7 rfl) sh_54 rfl ?_
      refine e_iload_n (pc := 27) (i := 1) dX6_readsOn_27 rfl rfl ?_
      refine e_bipush' (pc := 28) (nI 10) dX6_readsOn_28 (by decide) ?_
      refine e_iadd (pc := 30) dX6_readsOn_30 ?_
      refine E.it (nI (p + 10)) (nI_add _ _) ?_
      refine e_iload (pc := 31) dX6_readsOn_31 rfl ?_
      refine e_iadd (pc := 33) dX6_readsOn_33 ?_
      refine E.it (nI (p + 10 + j)) (nI_add _ _) ?_
      refine e_iald (pc := 34) dX6_readsOn_34 sh_55 (vp_in_nI (by omega) (by omega)) ?_
      refine E.it (nI (R (10 + j))) (pgd hp hv hr hw) ?_
      refine e_imul (pc := 35) dX6_readsOn_35 ?_
      refine E.it (nI (wt R j * R (10 + j))) (pk_mul _ _) ?_
      refine e_iadd (pc := 36) dX6_readsOn_36 ?_
      refine E.it (nI (rdk R (j + 1))) (nI_add _ _) ?_
      refine e_istore_n (pc := 37) (i := 2) dX6_readsOn_37 rfl (by decide) rfl ?_
      refine e_iload_n (pc := 38) (i := 3) dX6_readsOn_38 rfl rfl ?_
      refine e_aload_n (pc := 39) (i := 0) dX6_readsOn_39 rfl rfl ?_
      refine e_getR (pc := 40) dX6_readsOn_40 (fX6_7 rfl) sh_54 rfl ?_
      refine e_iload_n (pc := 43) (i := 1) dX6_readsOn_43 rfl rfl ?_
      refine e_iconst' (pc := 44) (nI 5) dX6_readsOn_44 (by decide) ?_
      refine e_iadd (pc := 45) dX6_readsOn_45 ?_
      refine E.it (nI (p + 5)) (nI_add _ _) ?_
      refine e_iload (pc := 46) dX6_readsOn_46 rfl ?_
      refine e_iadd (pc := 48) dX6_readsOn_48 ?_
      refine E.it (nI (p + 5 + j)) (nI_add _ _) ?_
      refine e_iald (pc := 49) dX6_readsOn_49 sh_55 (vp_in_nI (by omega) (by omega)) ?_
      refine E.it (nI (R (5 + j))) (pgt hp hv hr hw) ?_
      refine e_imul (pc := 50) dX6_readsOn_50 ?_
      refine E.it (nI (wt R (j + 1))) (pk_mul _ _) ?_
      refine e_istore_n (pc := 51) (i := 3) dX6_readsOn_51 rfl (by decide) rfl ?_
      refine e_iinc' (pc := 52) (nI (j + 1)) dX6_readsOn_52 rfl (by decide) rfl (nI_1 _) ?_
      refine e_goto (pc := 55) (tgt := 7) dX6_readsOn_55 (by decide) ?_
      exact ih (j + 1) (by omega) (by omega)
theorem sp_readsOn {sc : PSc} {p : Nat} {R : Rw} {S : PS} {Q : PQ} (hp : p + 22 ≤ 132) (hv : Vd R) (hr : PgAt S p R) (k : Q (some (.int (nI (reads R)))) S) : E sc mX6_readsOn 0 (pL0 mX6_readsOn [.ref 54, .int (nI p)]) [] S Q := by
  show E sc mX6_readsOn 0 [.ref 54, .int (nI p), .null, .null, .null] [] S Q
  refine e_iconst' (pc := 0) (nI 0) dX6_readsOn_0 (by decide) ?_
  refine e_istore_n (pc := 1) (i := 2) dX6_readsOn_1 rfl (by decide) rfl ?_
  refine e_iconst' (pc := 2) (nI 1) dX6_readsOn_2 (by decide) ?_
  refine e_istore_n (pc := 3) (i := 3) dX6_readsOn_3 rfl (by decide) rfl ?_
  refine e_iconst' (pc := 4) (nI 0) dX6_readsOn_4 (by decide) ?_
  refine e_istore (pc := 5) dX6_readsOn_5 (by decide) rfl ?_
  exact lp_readsOn hp hv hr k (R 20 + 1) 0 (by omega) (by omega)
theorem err_abs2 {R : Rw} (hv : Vd R) (hc : R 21 < 2 ^ 31) : (0 ≤ nI (reads R) - nI (R 21 % allR R) → nI (reads R) - nI (R 21 % allR R) = nI (err R)) ∧ (¬ 0 ≤ nI (reads R) - nI (R 21 % allR R) → -(nI (reads R) - nI (R 21 % allR R)) = nI (err R)) := by
  have h := err_abs hv hc
  constructor
  · intro q; rw [if_pos q] at h; exact h
  · intro q; rw [if_neg q, Int32.zero_sub] at h; exact h
theorem sp_errorOn {sc : PSc} {p : Nat} {R : Rw} {S : PS} {Q : PQ} (hp : p + 22 ≤ 132) (hv : Vd R) (hr : PgAt S p R) (hc : R 21 < 2 ^ 31) (k : Q (some (.int (nI (err R)))) S) : E sc mX6_errorOn 0 (pL0 mX6_errorOn [.ref 54, .int (nI p)]) [] S Q := by
  show E sc mX6_errorOn 0 [.ref 54, .int (nI p), .null] [] S Q
  have hal := all_pos hv
  obtain ⟨ea, eb⟩ := err_abs2 hv hc
  refine e_aload_n (pc := 0) (i := 0) dX6_errorOn_0 rfl rfl ?_
  refine e_iload_n (pc := 1) (i := 1) dX6_errorOn_1 rfl rfl ?_
  refine e_callV1 (pc := 2) (M' := mX6_readsOn) dX6_errorOn_2 iX6_readsOn lkX6_135 (by decide) (rO_obj sh_54 rfl) (Nat.le_of_ble_eq_true rfl) (Nat.le_of_ble_eq_true rfl) ?_
  refine sp_readsOn hp hv hr ?_
  refine e_aload_n (pc := 5) (i := 0) dX6_errorOn_5 rfl rfl ?_
  refine e_getR (pc := 6) dX6_errorOn_6 (fX6_7 rfl) sh_54 rfl ?_
  refine e_iload_n (pc := 9) (i := 1) dX6_errorOn_9 rfl rfl ?_
  refine e_bipush' (pc := 10) (nI 21) dX6_errorOn_10 (by decide) ?_
  refine e_iadd (pc := 12) dX6_errorOn_12 ?_
  refine E.it (nI (p + 21)) (nI_add _ _) ?_
  refine e_iald (pc := 13) dX6_errorOn_13 sh_55 (vp_in_nI (by omega) (by omega)) ?_
  refine E.it (nI (R (21))) (pgc hp hr) ?_
  refine e_aload_n (pc := 14) (i := 0) dX6_errorOn_14 rfl rfl ?_
  refine e_iload_n (pc := 15) (i := 1) dX6_errorOn_15 rfl rfl ?_
  refine e_callV1 (pc := 16) (M' := mX6_allOn) dX6_errorOn_16 iX6_allOn lkX6_138 (by decide) (rO_obj sh_54 rfl) (Nat.le_of_ble_eq_true rfl) (Nat.le_of_ble_eq_true rfl) ?_
  refine sp_allOn hp hv hr ?_
  refine e_irem (pc := 19) dX6_errorOn_19 (by rw [← nI_0, nI_eq (by omega) (by omega)]; omega) ?_
  refine E.it (nI (R 21 % allR R)) (pk_rem hc (by omega) (by omega)) ?_
  refine e_isub (pc := 20) dX6_errorOn_20 ?_
  refine e_istore_n (pc := 21) (i := 2) dX6_errorOn_21 rfl (by decide) rfl ?_
  refine e_iload_n (pc := 22) (i := 2) dX6_errorOn_22 rfl rfl ?_
  refine e_if_ge (pc := 23) (tgt := 31) dX6_errorOn_23 (by decide) (fun h23 => ?_) (fun h23 => ?_)
  · refine e_iload_n (pc := 31) (i := 2) dX6_errorOn_31 rfl rfl ?_
    refine e_iret (pc := 32) (st := []) (ty := .int) dX6_errorOn_32 rfl rfl ?_
    first
      | exact qeq k (ea h23)
      | exact qeq k (eb h23)
  · refine e_iload_n (pc := 26) (i := 2) dX6_errorOn_26 rfl rfl ?_
    refine e_ineg (pc := 27) dX6_errorOn_27 ?_
    refine e_goto (pc := 28) (tgt := 32) dX6_errorOn_28 (by decide) ?_
    refine e_iret (pc := 32) (st := []) (ty := .int) dX6_errorOn_32 rfl rfl ?_
    first
      | exact qeq k (ea h23)
      | exact qeq k (eb h23)
def FrQ (p : Nat) (S S' : PS) : Prop := S'.2 = S.2 ∧ (∀ j, j ≠ 55 → S'.1 j = S.1 j) ∧ (∀ k, (k < p ∨ p + 22 ≤ k) → S'.1 55 k = S.1 55 k)
theorem FrQ.P {p : Nat} {S S' : PS} (h : FrQ p S S') : FrP p S S' := ⟨h.1, fun j _ b => h.2.1 j b, h.2.2, fun k _ => by rw [h.2.1 54 (by decide)]⟩
theorem lp_copies {sc : PSc} {a b : Nat} {S0 : PS} {Q : PQ} (ha : a + 22 ≤ 132) (hb : b + 22 ≤ 132) (hd : a + 22 ≤ b ∨ b + 22 ≤ a) (k : ∀ S' : PS, (∀ q, q < 22 → S'.1 55 (b + q) = S0.1 55 (a + q)) → FrQ b S0 S' → Q none S') : ∀ (n : Nat) (j : Nat) (S : PS), j ≤ 22 → 22 - j < n → (∀ q, q < j → S.1 55 (b + q) = S0.1 55 (a + q)) → FrQ b S0 S → E sc mX6_copies 2 [.ref 54, .int (nI a), .int (nI b), .int (nI j)] [] S Q := by
  intro n
  induction n with
  | zero => intro j S hj hn hc hf; exact absurd hn (by omega)
  | succ n ih =>
    intro j S hj hn hc hf
    refine e_iload_n (pc := 2) (i := 3) dX6_copies_2 rfl rfl ?_
    refine e_bipush' (pc := 3) (nI 22) dX6_copies_3 (by decide) ?_
    refine e_icmp_ge (pc := 5) (tgt := 30) dX6_copies_5 (by decide) (fun h5 => ?_) (fun h5 => ?_)
    · replace h5 := (nI_leI (by omega) (by omega)).mp h5
      obtain rfl : j = 22 := by omega
      refine e_vret (pc := 30) (st := []) dX6_copies_30 rfl ?_
      exact k S hc hf
    · replace h5 := mt (nI_leI (by omega) (by omega)).mpr h5
      refine e_aload_n (pc := 8) (i := 0) dX6_copies_8 rfl rfl ?_
      refine e_getR (pc := 9) dX6_copies_9 (fX6_7 rfl) sh_54 rfl ?_
      refine e_iload_n (pc := 12) (i := 2) dX6_copies_12 rfl rfl ?_
      refine e_iload_n (pc := 13) (i := 3) dX6_copies_13 rfl rfl ?_
      refine e_iadd (pc := 14) dX6_copies_14 ?_
      refine E.it (nI (b + j)) (nI_add _ _) ?_
      refine e_aload_n (pc := 15) (i := 0) dX6_copies_15 rfl rfl ?_
      refine e_getR (pc := 16) dX6_copies_16 (fX6_7 rfl) sh_54 rfl ?_
      refine e_iload_n (pc := 19) (i := 1) dX6_copies_19 rfl rfl ?_
      refine e_iload_n (pc := 20) (i := 3) dX6_copies_20 rfl rfl ?_
      refine e_iadd (pc := 21) dX6_copies_21 ?_
      refine E.it (nI (a + j)) (nI_add _ _) ?_
      refine e_iald (pc := 22) dX6_copies_22 sh_55 (vp_in_nI (by omega) (by omega)) ?_
      refine E.it (S0.1 55 (a + j)) (by rw [nI_clamp (by omega)]; exact hf.2.2 _ (by omega)) ?_
      refine e_iast (pc := 23) dX6_copies_23 sh_55 (vp_in_nI (by omega) (by omega)) ?_
      refine e_iinc' (pc := 24) (nI (j + 1)) dX6_copies_24 rfl (by decide) rfl (nI_1 _) ?_
      refine e_goto (pc := 27) (tgt := 2) dX6_copies_27 (by decide) ?_
      rw [nI_clamp (show b + j < 2 ^ 31 by omega)]
      refine ih (j + 1) _ (by omega) (by omega) (fun q hq => ?_) ⟨hf.1, fun m hm => ?_, fun m hm => ?_⟩
      · show up2 S.1 55 (b + j) _ 55 (b + q) = _
        rw [up2_at]
        by_cases e : q = j
        · subst e; exact if_pos rfl
        · exact (if_neg (by omega)).trans (hc q (by omega))
      · show up2 S.1 55 (b + j) _ m = _; rw [up2_ne _ _ _ hm]; exact hf.2.1 m hm
      · show up2 S.1 55 (b + j) _ 55 m = _; rw [up2_at]; exact (if_neg (by omega)).trans (hf.2.2 m hm)
theorem sp_copies {sc : PSc} {a b : Nat} {S : PS} {Q : PQ} (ha : a + 22 ≤ 132) (hb : b + 22 ≤ 132) (hd : a + 22 ≤ b ∨ b + 22 ≤ a) (k : ∀ S' : PS, (∀ q, q < 22 → S'.1 55 (b + q) = S.1 55 (a + q)) → FrQ b S S' → Q none S') : E sc mX6_copies 0 (pL0 mX6_copies [.ref 54, .int (nI a), .int (nI b)]) [] S Q := by
  show E sc mX6_copies 0 [.ref 54, .int (nI a), .int (nI b), .null] [] S Q
  refine e_iconst' (pc := 0) (nI 0) dX6_copies_0 (by decide) ?_
  refine e_istore_n (pc := 1) (i := 3) dX6_copies_1 rfl (by decide) rfl ?_
  exact lp_copies ha hb hd k 23 0 S (by omega) (by omega) (fun q hq => by omega) ⟨rfl, fun _ _ => rfl, fun _ _ => rfl⟩
theorem PgAt.cp {a b : Nat} {S S' : PS} {R : Rw} (h : PgAt S a R) (h5 : R 20 ≤ 5) (hc : ∀ q, q < 22 → S'.1 55 (b + q) = S.1 55 (a + q)) : PgAt S' b R := by
  obtain ⟨x, y, z⟩ := h
  refine ⟨by rw [hc 20 (by omega)]; exact x, by rw [hc 21 (by omega)]; exact y, fun w hw => ?_⟩
  have e : ∀ q, q < 5 → (S'.1 55 (b + q + w) = S.1 55 (a + q + w)) := fun q hq => by rw [Nat.add_assoc, hc (q + w) (by omega), Nat.add_assoc]
  obtain ⟨c1, c2, c3, c4⟩ := z w hw
  refine ⟨by rw [hc w (by omega)]; exact c1, ?_, ?_, ?_⟩
  · rw [Nat.add_assoc, hc (5 + w) (by omega), ← Nat.add_assoc]; exact c2
  · rw [Nat.add_assoc, hc (10 + w) (by omega), ← Nat.add_assoc]; exact c3
  · rw [Nat.add_assoc, hc (15 + w) (by omega), ← Nat.add_assoc]; exact c4
theorem sp_copyPg {sc : PSc} {a b : Nat} {R : Rw} {S : PS} {Q : PQ} (ha : a + 22 ≤ 132) (hb : b + 22 ≤ 132) (hd : a + 22 ≤ b ∨ b + 22 ≤ a) (hv : Vd R) (hr : PgAt S a R) (k : ∀ S' : PS, PgAt S' b R → FrQ b S S' → Q none S') : E sc mX6_copies 0 (pL0 mX6_copies [.ref 54, .int (nI a), .int (nI b)]) [] S Q :=
  sp_copies ha hb hd (fun S' hc hf => k S' (hr.cp hv.1 hc) hf)

theorem FrG.same {S S' : PS} (h : FrG S S') : Same S S' := ⟨fun j a => h.2.1 j (by omega) (by omega), fun k a => h.2.2.2 k (by omega) (by omega) (by omega), fun k a => h.2.2.1 k (by omega), fun j a => h.2.1 j (by omega) (by omega)⟩
theorem lp_runs0 {sc : PSc} {m : Nat} {R : Rw} {S0 : PS} {Q : PQ} (hv : Vd R) (hcb : R 21 ≤ 999999) (hm : m ≤ 1000) (k : ∀ S', Fr 6 5 S0 S' → Q (some (.int (nI (reads (pn R m))))) S') : ∀ (n : Nat) (j : Nat) (S : PS), j ≤ m → m - j < n → RowAt S 6 (pn R j) → S.1 6 2 = nI (cn R j) → Fr 6 5 S0 S → E sc mX5_runs 47 [.ref 0, .int (nI m), .int (nI 0), .int (nI (reads R)), .int (nI (0)), .int (nI j)] [] S Q := by
  intro n
  induction n with
  | zero => intro j S hj hn hr hc hf; exact absurd hn (by omega)
  | succ n ih =>
    intro j S hj hn hr hc hf
    refine e_iload (pc := 47) dX5_runs_47 rfl ?_
    refine e_iload_n (pc := 49) (i := 1) dX5_runs_49 rfl rfl ?_
    refine e_icmp_ge (pc := 50) (tgt := 104) dX5_runs_50 (by decide) (fun h50 => ?_) (fun h50 => ?_)
    · replace h50 := (nI_leI (by omega) (by omega)).mp h50
      obtain rfl : j = m := by omega
      refine e_iload_n (pc := 104) (i := 2) dX5_runs_104 rfl rfl ?_
      · refine e_table (pc := 105) dX5_runs_105 ⟨136, (Or.inr ⟨by decide, by decide, 31, by decide, by decide⟩), ?_⟩
        refine e_aload_n (pc := 136) (i := 0) dX5_runs_136 rfl rfl ?_
        refine e_getR (pc := 137) dX5_runs_137 (fX5_16 rfl) sh_0 rfl ?_
        refine e_callV0 (pc := 140) (M' := mX0_reading) dX5_runs_140 iX0_reading lkX5_107 (by decide) (rO_obj sh_6 rfl) (Nat.le_of_ble_eq_true rfl) (Nat.le_of_ble_eq_true rfl) ?_
        refine sp_reading r6 (pn_vd hv j) hr ?_
        refine e_iret (pc := 143) (st := []) (ty := .int) dX5_runs_143 rfl rfl ?_
        exact k S hf
    · replace h50 := mt (nI_leI (by omega) (by omega)).mpr h50
      refine e_aload_n (pc := 53) (i := 0) dX5_runs_53 rfl rfl ?_
      refine e_getR (pc := 54) dX5_runs_54 (fX5_16 rfl) sh_0 rfl ?_
      refine e_callV0 (pc := 57) (M' := mX0_pushOnce) dX5_runs_57 iX0_pushOnce lkX5_151 (by decide) (rO_obj sh_6 rfl) (Nat.le_of_ble_eq_true rfl) (Nat.le_of_ble_eq_true rfl) ?_
      refine sp_pushOnce r6 (pn_vd hv j) hr (fun S2 a b c => ?_)
      have a : RowAt S2 6 (pn R (j + 1)) := a
      have hc2 : S2.1 6 2 = nI (cn R (j + 1)) := by rw [b, hc, nI_add]; rfl
      have hb1 := mx_le hv j
      have hb2 := reads_le (pn_vd hv (j + 1))
      refine e_iload_n (pc := 60) (i := 2) dX5_runs_60 rfl rfl ?_
      refine e_iconst' (pc := 61) (nI 2) dX5_runs_61 (by decide) ?_
      refine e_icmp_ne (pc := 62) (tgt := 80) dX5_runs_62 (by decide) (fun h62 => ?_) (fun h62 => absurd h62 (by decide))
      refine e_iload_n (pc := 80) (i := 2) dX5_runs_80 rfl rfl ?_
      refine e_iconst' (pc := 81) (nI 4) dX5_runs_81 (by decide) ?_
      refine e_icmp_ne (pc := 82) (tgt := 98) dX5_runs_82 (by decide) (fun h82 => ?_) (fun h82 => absurd h82 (by decide))
      refine e_iinc' (pc := 98) (nI (j + 1)) dX5_runs_98 rfl (by decide) rfl (nI_1 _) ?_
      refine e_goto (pc := 101) (tgt := 47) dX5_runs_101 (by decide) ?_
      skip
      have hih := ih (j + 1) S2 (by omega) (by omega) a hc2 (hf.tr c)
      exact hih
theorem lp_runs1 {sc : PSc} {m : Nat} {R : Rw} {S0 : PS} {Q : PQ} (hv : Vd R) (hcb : R 21 ≤ 999999) (hm : m ≤ 1000) (k : ∀ S', Fr 6 5 S0 S' → Q (some (.int (nI (cn R m)))) S') : ∀ (n : Nat) (j : Nat) (S : PS), j ≤ m → m - j < n → RowAt S 6 (pn R j) → S.1 6 2 = nI (cn R j) → Fr 6 5 S0 S → E sc mX5_runs 47 [.ref 0, .int (nI m), .int (nI 1), .int (nI (reads R)), .int (nI (0)), .int (nI j)] [] S Q := by
  intro n
  induction n with
  | zero => intro j S hj hn hr hc hf; exact absurd hn (by omega)
  | succ n ih =>
    intro j S hj hn hr hc hf
    refine e_iload (pc := 47) dX5_runs_47 rfl ?_
    refine e_iload_n (pc := 49) (i := 1) dX5_runs_49 rfl rfl ?_
    refine e_icmp_ge (pc := 50) (tgt := 104) dX5_runs_50 (by decide) (fun h50 => ?_) (fun h50 => ?_)
    · replace h50 := (nI_leI (by omega) (by omega)).mp h50
      obtain rfl : j = m := by omega
      refine e_iload_n (pc := 104) (i := 2) dX5_runs_104 rfl rfl ?_
      · refine e_table (pc := 105) dX5_runs_105 ⟨144, (Or.inr ⟨by decide, by decide, 39, by decide, by decide⟩), ?_⟩
        refine e_aload_n (pc := 144) (i := 0) dX5_runs_144 rfl rfl ?_
        refine e_getR (pc := 145) dX5_runs_145 (fX5_16 rfl) sh_0 rfl ?_
        refine e_getI (pc := 148) dX5_runs_148 (fX5_163 rfl) sh_6 rfl ?_
        refine E.it (nI (cn R j)) hc ?_
        refine e_iret (pc := 151) (st := []) (ty := .int) dX5_runs_151 rfl rfl ?_
        exact k S hf
    · replace h50 := mt (nI_leI (by omega) (by omega)).mpr h50
      refine e_aload_n (pc := 53) (i := 0) dX5_runs_53 rfl rfl ?_
      refine e_getR (pc := 54) dX5_runs_54 (fX5_16 rfl) sh_0 rfl ?_
      refine e_callV0 (pc := 57) (M' := mX0_pushOnce) dX5_runs_57 iX0_pushOnce lkX5_151 (by decide) (rO_obj sh_6 rfl) (Nat.le_of_ble_eq_true rfl) (Nat.le_of_ble_eq_true rfl) ?_
      refine sp_pushOnce r6 (pn_vd hv j) hr (fun S2 a b c => ?_)
      have a : RowAt S2 6 (pn R (j + 1)) := a
      have hc2 : S2.1 6 2 = nI (cn R (j + 1)) := by rw [b, hc, nI_add]; rfl
      have hb1 := mx_le hv j
      have hb2 := reads_le (pn_vd hv (j + 1))
      refine e_iload_n (pc := 60) (i := 2) dX5_runs_60 rfl rfl ?_
      refine e_iconst' (pc := 61) (nI 2) dX5_runs_61 (by decide) ?_
      refine e_icmp_ne (pc := 62) (tgt := 80) dX5_runs_62 (by decide) (fun h62 => ?_) (fun h62 => absurd h62 (by decide))
      refine e_iload_n (pc := 80) (i := 2) dX5_runs_80 rfl rfl ?_
      refine e_iconst' (pc := 81) (nI 4) dX5_runs_81 (by decide) ?_
      refine e_icmp_ne (pc := 82) (tgt := 98) dX5_runs_82 (by decide) (fun h82 => ?_) (fun h82 => absurd h82 (by decide))
      refine e_iinc' (pc := 98) (nI (j + 1)) dX5_runs_98 rfl (by decide) rfl (nI_1 _) ?_
      refine e_goto (pc := 101) (tgt := 47) dX5_runs_101 (by decide) ?_
      skip
      have hih := ih (j + 1) S2 (by omega) (by omega) a hc2 (hf.tr c)
      exact hih
theorem lp_runs2 {sc : PSc} {m : Nat} {R : Rw} {S0 : PS} {Q : PQ} (hv : Vd R) (hcb : R 21 ≤ 999999) (hm : m ≤ 1000) (k : ∀ S', Fr 6 5 S0 S' → Q (some (.int (nI (mx R m)))) S') : ∀ (n : Nat) (j : Nat) (S : PS), j ≤ m → m - j < n → RowAt S 6 (pn R j) → S.1 6 2 = nI (cn R j) → Fr 6 5 S0 S → E sc mX5_runs 47 [.ref 0, .int (nI m), .int (nI 2), .int (nI (mx R j)), .int (nI (0)), .int (nI j)] [] S Q := by
  intro n
  induction n with
  | zero => intro j S hj hn hr hc hf; exact absurd hn (by omega)
  | succ n ih =>
    intro j S hj hn hr hc hf
    refine e_iload (pc := 47) dX5_runs_47 rfl ?_
    refine e_iload_n (pc := 49) (i := 1) dX5_runs_49 rfl rfl ?_
    refine e_icmp_ge (pc := 50) (tgt := 104) dX5_runs_50 (by decide) (fun h50 => ?_) (fun h50 => ?_)
    · replace h50 := (nI_leI (by omega) (by omega)).mp h50
      obtain rfl : j = m := by omega
      refine e_iload_n (pc := 104) (i := 2) dX5_runs_104 rfl rfl ?_
      · refine e_table (pc := 105) dX5_runs_105 ⟨152, (Or.inr ⟨by decide, by decide, 47, by decide, by decide⟩), ?_⟩
        refine e_iload_n (pc := 152) (i := 3) dX5_runs_152 rfl rfl ?_
        refine e_iret (pc := 153) (st := []) (ty := .int) dX5_runs_153 rfl rfl ?_
        exact k S hf
    · replace h50 := mt (nI_leI (by omega) (by omega)).mpr h50
      refine e_aload_n (pc := 53) (i := 0) dX5_runs_53 rfl rfl ?_
      refine e_getR (pc := 54) dX5_runs_54 (fX5_16 rfl) sh_0 rfl ?_
      refine e_callV0 (pc := 57) (M' := mX0_pushOnce) dX5_runs_57 iX0_pushOnce lkX5_151 (by decide) (rO_obj sh_6 rfl) (Nat.le_of_ble_eq_true rfl) (Nat.le_of_ble_eq_true rfl) ?_
      refine sp_pushOnce r6 (pn_vd hv j) hr (fun S2 a b c => ?_)
      have a : RowAt S2 6 (pn R (j + 1)) := a
      have hc2 : S2.1 6 2 = nI (cn R (j + 1)) := by rw [b, hc, nI_add]; rfl
      have hb1 := mx_le hv j
      have hb2 := reads_le (pn_vd hv (j + 1))
      refine e_iload_n (pc := 60) (i := 2) dX5_runs_60 rfl rfl ?_
      refine e_iconst' (pc := 61) (nI 2) dX5_runs_61 (by decide) ?_
      refine e_icmp_ne (pc := 62) (tgt := 80) dX5_runs_62 (by decide) (fun h62 => absurd (by decide) h62) (fun h62 => ?_)
      refine e_iload_n (pc := 65) (i := 3) dX5_runs_65 rfl rfl ?_
      refine e_aload_n (pc := 66) (i := 0) dX5_runs_66 rfl rfl ?_
      refine e_getR (pc := 67) dX5_runs_67 (fX5_16 rfl) sh_0 rfl ?_
      refine e_callV0 (pc := 70) (M' := mX0_reading) dX5_runs_70 iX0_reading lkX5_107 (by decide) (rO_obj sh_6 rfl) (Nat.le_of_ble_eq_true rfl) (Nat.le_of_ble_eq_true rfl) ?_
      refine sp_reading r6 (pn_vd hv (j + 1)) a ?_
      refine e_mmax (pc := 73) dX5_runs_73 (mxX5_154 rfl) (by decide) (Nat.le_of_ble_eq_true rfl) ?_
      refine E.it (nI (mx R (j + 1))) (nI_max (by omega) (by omega)) ?_
      refine e_istore_n (pc := 76) (i := 3) dX5_runs_76 rfl (by decide) rfl ?_
      refine e_goto (pc := 77) (tgt := 98) dX5_runs_77 (by decide) ?_
      refine e_iinc' (pc := 98) (nI (j + 1)) dX5_runs_98 rfl (by decide) rfl (nI_1 _) ?_
      refine e_goto (pc := 101) (tgt := 47) dX5_runs_101 (by decide) ?_
      skip
      have hih := ih (j + 1) S2 (by omega) (by omega) a hc2 (hf.tr c)
      exact hih
theorem lp_runs3 {sc : PSc} {m : Nat} {R : Rw} {S0 : PS} {Q : PQ} (hv : Vd R) (hcb : R 21 ≤ 999999) (hm : m ≤ 1000) (k : ∀ S', Fr 6 5 S0 S' → Q (some (.int (nI (err (pn R m))))) S') : ∀ (n : Nat) (j : Nat) (S : PS), j ≤ m → m - j < n → RowAt S 6 (pn R j) → S.1 6 2 = nI (cn R j) → Fr 6 5 S0 S → E sc mX5_runs 47 [.ref 0, .int (nI m), .int (nI 3), .int (nI (reads R)), .int (nI (0)), .int (nI j)] [] S Q := by
  intro n
  induction n with
  | zero => intro j S hj hn hr hc hf; exact absurd hn (by omega)
  | succ n ih =>
    intro j S hj hn hr hc hf
    refine e_iload (pc := 47) dX5_runs_47 rfl ?_
    refine e_iload_n (pc := 49) (i := 1) dX5_runs_49 rfl rfl ?_
    refine e_icmp_ge (pc := 50) (tgt := 104) dX5_runs_50 (by decide) (fun h50 => ?_) (fun h50 => ?_)
    · replace h50 := (nI_leI (by omega) (by omega)).mp h50
      obtain rfl : j = m := by omega
      refine e_iload_n (pc := 104) (i := 2) dX5_runs_104 rfl rfl ?_
      · refine e_table (pc := 105) dX5_runs_105 ⟨154, (Or.inr ⟨by decide, by decide, 49, by decide, by decide⟩), ?_⟩
        refine e_aload_n (pc := 154) (i := 0) dX5_runs_154 rfl rfl ?_
        refine e_getR (pc := 155) dX5_runs_155 (fX5_16 rfl) sh_0 rfl ?_
        refine e_callV0 (pc := 158) (M' := mX0_error) dX5_runs_158 iX0_error lkX5_114 (by decide) (rO_obj sh_6 rfl) (Nat.le_of_ble_eq_true rfl) (Nat.le_of_ble_eq_true rfl) ?_
        refine sp_error r6 (pn_vd hv j) hr (by rw [pn_count hv]; omega) ?_
        refine e_iret (pc := 161) (st := []) (ty := .int) dX5_runs_161 rfl rfl ?_
        exact k S hf
    · replace h50 := mt (nI_leI (by omega) (by omega)).mpr h50
      refine e_aload_n (pc := 53) (i := 0) dX5_runs_53 rfl rfl ?_
      refine e_getR (pc := 54) dX5_runs_54 (fX5_16 rfl) sh_0 rfl ?_
      refine e_callV0 (pc := 57) (M' := mX0_pushOnce) dX5_runs_57 iX0_pushOnce lkX5_151 (by decide) (rO_obj sh_6 rfl) (Nat.le_of_ble_eq_true rfl) (Nat.le_of_ble_eq_true rfl) ?_
      refine sp_pushOnce r6 (pn_vd hv j) hr (fun S2 a b c => ?_)
      have a : RowAt S2 6 (pn R (j + 1)) := a
      have hc2 : S2.1 6 2 = nI (cn R (j + 1)) := by rw [b, hc, nI_add]; rfl
      have hb1 := mx_le hv j
      have hb2 := reads_le (pn_vd hv (j + 1))
      refine e_iload_n (pc := 60) (i := 2) dX5_runs_60 rfl rfl ?_
      refine e_iconst' (pc := 61) (nI 2) dX5_runs_61 (by decide) ?_
      refine e_icmp_ne (pc := 62) (tgt := 80) dX5_runs_62 (by decide) (fun h62 => ?_) (fun h62 => absurd h62 (by decide))
      refine e_iload_n (pc := 80) (i := 2) dX5_runs_80 rfl rfl ?_
      refine e_iconst' (pc := 81) (nI 4) dX5_runs_81 (by decide) ?_
      refine e_icmp_ne (pc := 82) (tgt := 98) dX5_runs_82 (by decide) (fun h82 => ?_) (fun h82 => absurd h82 (by decide))
      refine e_iinc' (pc := 98) (nI (j + 1)) dX5_runs_98 rfl (by decide) rfl (nI_1 _) ?_
      refine e_goto (pc := 101) (tgt := 47) dX5_runs_101 (by decide) ?_
      skip
      have hih := ih (j + 1) S2 (by omega) (by omega) a hc2 (hf.tr c)
      exact hih
theorem lp_runs4 {sc : PSc} {m : Nat} {R : Rw} {S0 : PS} {Q : PQ} (hv : Vd R) (hcb : R 21 ≤ 999999) (hm : m ≤ 1000) (k : ∀ S', Fr 6 5 S0 S' → Q (some (.int (nI (zc R m)))) S') : ∀ (n : Nat) (j : Nat) (S : PS), j ≤ m → m - j < n → RowAt S 6 (pn R j) → S.1 6 2 = nI (cn R j) → Fr 6 5 S0 S → E sc mX5_runs 47 [.ref 0, .int (nI m), .int (nI 4), .int (nI (reads R)), .int (nI (zc R j)), .int (nI j)] [] S Q := by
  intro n
  induction n with
  | zero => intro j S hj hn hr hc hf; exact absurd hn (by omega)
  | succ n ih =>
    intro j S hj hn hr hc hf
    refine e_iload (pc := 47) dX5_runs_47 rfl ?_
    refine e_iload_n (pc := 49) (i := 1) dX5_runs_49 rfl rfl ?_
    refine e_icmp_ge (pc := 50) (tgt := 104) dX5_runs_50 (by decide) (fun h50 => ?_) (fun h50 => ?_)
    · replace h50 := (nI_leI (by omega) (by omega)).mp h50
      obtain rfl : j = m := by omega
      refine e_iload_n (pc := 104) (i := 2) dX5_runs_104 rfl rfl ?_
      · refine e_table (pc := 105) dX5_runs_105 ⟨162, (Or.inl ⟨Or.inr (by decide), by decide⟩), ?_⟩
        refine e_iload (pc := 162) dX5_runs_162 rfl ?_
        refine e_iret (pc := 164) (st := []) (ty := .int) dX5_runs_164 rfl rfl ?_
        exact k S hf
    · replace h50 := mt (nI_leI (by omega) (by omega)).mpr h50
      refine e_aload_n (pc := 53) (i := 0) dX5_runs_53 rfl rfl ?_
      refine e_getR (pc := 54) dX5_runs_54 (fX5_16 rfl) sh_0 rfl ?_
      refine e_callV0 (pc := 57) (M' := mX0_pushOnce) dX5_runs_57 iX0_pushOnce lkX5_151 (by decide) (rO_obj sh_6 rfl) (Nat.le_of_ble_eq_true rfl) (Nat.le_of_ble_eq_true rfl) ?_
      refine sp_pushOnce r6 (pn_vd hv j) hr (fun S2 a b c => ?_)
      have a : RowAt S2 6 (pn R (j + 1)) := a
      have hc2 : S2.1 6 2 = nI (cn R (j + 1)) := by rw [b, hc, nI_add]; rfl
      have hb1 := mx_le hv j
      have hb2 := reads_le (pn_vd hv (j + 1))
      refine e_iload_n (pc := 60) (i := 2) dX5_runs_60 rfl rfl ?_
      refine e_iconst' (pc := 61) (nI 2) dX5_runs_61 (by decide) ?_
      refine e_icmp_ne (pc := 62) (tgt := 80) dX5_runs_62 (by decide) (fun h62 => ?_) (fun h62 => absurd h62 (by decide))
      refine e_iload_n (pc := 80) (i := 2) dX5_runs_80 rfl rfl ?_
      refine e_iconst' (pc := 81) (nI 4) dX5_runs_81 (by decide) ?_
      refine e_icmp_ne (pc := 82) (tgt := 98) dX5_runs_82 (by decide) (fun h82 => absurd (by decide) h82) (fun h82 => ?_)
      refine e_aload_n (pc := 85) (i := 0) dX5_runs_85 rfl rfl ?_
      refine e_getR (pc := 86) dX5_runs_86 (fX5_16 rfl) sh_0 rfl ?_
      refine e_callV0 (pc := 89) (M' := mX0_isAllZero) dX5_runs_89 iX0_isAllZero lkX5_159 (by decide) (rO_obj sh_6 rfl) (Nat.le_of_ble_eq_true rfl) (Nat.le_of_ble_eq_true rfl) ?_
      refine sp_isAllZero r6 (pn_vd hv (j + 1)) a ?_
      refine e_if_eq (pc := 92) (tgt := 98) dX5_runs_92 (by decide) (fun h92 => ?_) (fun h92 => ?_)
      · have ez : zc R (j + 1) = zc R j := by rw [zc, if_neg (fun q => by rw [if_pos q] at h92; exact absurd h92 (by decide))]; rfl
        refine e_iinc' (pc := 98) (nI (j + 1)) dX5_runs_98 rfl (by decide) rfl (nI_1 _) ?_
        refine e_goto (pc := 101) (tgt := 47) dX5_runs_101 (by decide) ?_
        skip
        have hih := ih (j + 1) S2 (by omega) (by omega) a hc2 (hf.tr c)
        rw [ez] at hih
        exact hih
      · have ez : zc R (j + 1) = zc R j + 1 := by rw [zc, if_pos (Classical.byContradiction fun q => by rw [if_neg q] at h92; exact absurd (by decide) h92)]
        refine e_iinc' (pc := 95) (nI (zc R j + 1)) dX5_runs_95 rfl (by decide) rfl (nI_1 _) ?_
        refine e_iinc' (pc := 98) (nI (j + 1)) dX5_runs_98 rfl (by decide) rfl (nI_1 _) ?_
        refine e_goto (pc := 101) (tgt := 47) dX5_runs_101 (by decide) ?_
        skip
        have hih := ih (j + 1) S2 (by omega) (by omega) a hc2 (hf.tr c)
        rw [ez] at hih
        exact hih
theorem b_runs {sc : PSc} {S : PS} (hI : InvS S) (x y : Int32) : Bth sc mX5_runs mX6_runs [.int x, .int y] S := by
  obtain ⟨R, hv, hc, hr, hp⟩ := hI.1
  have hv5 := hv.1
  rcases Classical.em (inr x 0 1000) with ⟨m, rfl, -, hm⟩ | hn
  · rcases Classical.em (inr y 0 4) with ⟨a, rfl, -, ha⟩ | hn
    · rcases (show a = 0 ∨ a = 1 ∨ a = 2 ∨ a = 3 ∨ a = 4 by omega) with rfl | rfl | rfl | rfl | rfl
      · refine ask_both (nI (reads (pn R m))) hI (fun Q k => ?_) (fun S1 h1 Q k => ?_)
        · show E sc mX5_runs 0 [.ref 0, .int (nI m), .int (nI 0), .null, .null, .null] [] S Q
          refine e_iload_n (pc := 0) (i := 1) dX5_runs_0 rfl rfl ?_
          refine e_iconst' (pc := 1) (nI 0) dX5_runs_1 (by decide) ?_
          refine e_sipush' (pc := 2) (nI 1000) dX5_runs_2 (by decide) ?_
          refine e_callS3 (pc := 5) (M' := mX5_within) dX5_runs_5 jX5_within lkX5_70 (by decide) (Nat.le_of_ble_eq_true rfl) (Nat.le_of_ble_eq_true rfl) ?_
          refine sp_winY (by omega) (by omega) (by omega) ?_
          refine e_if_eq (pc := 8) (tgt := 20) dX5_runs_8 (by decide) (fun h8 => absurd h8 (by decide)) (fun h8 => ?_)
          refine e_iload_n (pc := 11) (i := 2) dX5_runs_11 rfl rfl ?_
          refine e_iconst' (pc := 12) (nI 0) dX5_runs_12 (by decide) ?_
          refine e_iconst' (pc := 13) (nI 4) dX5_runs_13 (by decide) ?_
          refine e_callS3 (pc := 14) (M' := mX5_within) dX5_runs_14 jX5_within lkX5_70 (by decide) (Nat.le_of_ble_eq_true rfl) (Nat.le_of_ble_eq_true rfl) ?_
          refine sp_winY (by omega) (by omega) (by omega) ?_
          refine e_if_ne (pc := 17) (tgt := 22) dX5_runs_17 (by decide) (fun h17 => ?_) (fun h17 => absurd h17 (by decide))
          refine e_aload_n (pc := 22) (i := 0) dX5_runs_22 rfl rfl ?_
          refine e_getR (pc := 23) dX5_runs_23 (fX5_16 rfl) sh_0 rfl ?_
          refine e_aload_n (pc := 26) (i := 0) dX5_runs_26 rfl rfl ?_
          refine e_getR (pc := 27) dX5_runs_27 (fX5_10 rfl) sh_0 rfl ?_
          refine e_callV1 (pc := 30) (M' := mX0_copyOf) dX5_runs_30 iX0_copyOf lkX5_90 (by decide) (rO_obj sh_6 rfl) (Nat.le_of_ble_eq_true rfl) (Nat.le_of_ble_eq_true rfl) ?_
          refine sp_copyOf r6 r1 (by omega) hv hr (fun S1 ht hc0 hf => ?_)
          refine e_aload_n (pc := 33) (i := 0) dX5_runs_33 rfl rfl ?_
          refine e_getR (pc := 34) dX5_runs_34 (fX5_16 rfl) sh_0 rfl ?_
          refine e_callV0 (pc := 37) (M' := mX0_reading) dX5_runs_37 iX0_reading lkX5_107 (by decide) (rO_obj sh_6 rfl) (Nat.le_of_ble_eq_true rfl) (Nat.le_of_ble_eq_true rfl) ?_
          refine sp_reading r6 hv ht ?_
          refine e_istore_n (pc := 40) (i := 3) dX5_runs_40 rfl (by decide) rfl ?_
          refine e_iconst' (pc := 41) (nI 0) dX5_runs_41 (by decide) ?_
          refine e_istore (pc := 42) dX5_runs_42 (by decide) rfl ?_
          refine e_iconst' (pc := 44) (nI 0) dX5_runs_44 (by decide) ?_
          refine e_istore (pc := 45) dX5_runs_45 (by decide) rfl ?_
          exact lp_runs0 hv hc hm (fun S2 h2 => k S2 (hf.tr h2).same) (m + 1) 0 S1 (by omega) (by omega) ht hc0 Fr.rf
        · show E sc mX6_runs 0 [.ref 54, .int (nI m), .int (nI 0), .null] [] S1 Q
          have hp := h1.pg (by omega) hv hp
          have hr := h1.row (by omega) hr
          refine e_iload_n (pc := 0) (i := 1) dX6_runs_0 rfl rfl ?_
          refine e_i2l (pc := 1) dX6_runs_1 ?_
          refine e_lconst' (pc := 2) (lN 0) dX6_runs_2 (by decide) ?_
          refine e_ldc2 (pc := 3) dX6_runs_3 (klX6_161 rfl) ?_
          refine e_callS3 (pc := 6) (M' := mX6_in) dX6_runs_6 jX6_in lkX6_46 (by decide) (Nat.le_of_ble_eq_true rfl) (Nat.le_of_ble_eq_true rfl) ?_
          refine sp_inY (lo := 0) (hi := 1000) (by decide) (by decide) (by omega) (by omega) (by omega) ?_
          refine e_if_eq (pc := 9) (tgt := 24) dX6_runs_9 (by decide) (fun h9 => absurd h9 (by decide)) (fun h9 => ?_)
          refine e_iload_n (pc := 12) (i := 2) dX6_runs_12 rfl rfl ?_
          refine e_i2l (pc := 13) dX6_runs_13 ?_
          refine e_lconst' (pc := 14) (lN 0) dX6_runs_14 (by decide) ?_
          refine e_ldc2 (pc := 15) dX6_runs_15 (klX6_99 rfl) ?_
          refine e_callS3 (pc := 18) (M' := mX6_in) dX6_runs_18 jX6_in lkX6_46 (by decide) (Nat.le_of_ble_eq_true rfl) (Nat.le_of_ble_eq_true rfl) ?_
          refine sp_inY (lo := 0) (hi := 4) (by decide) (by decide) (by omega) (by omega) (by omega) ?_
          refine e_if_ne (pc := 21) (tgt := 26) dX6_runs_21 (by decide) (fun h21 => ?_) (fun h21 => absurd h21 (by decide))
          refine e_aload_n (pc := 26) (i := 0) dX6_runs_26 rfl rfl ?_
          refine e_iconst' (pc := 27) (nI 0) dX6_runs_27 (by decide) ?_
          refine e_iload_n (pc := 28) (i := 1) dX6_runs_28 rfl rfl ?_
          refine e_callV2 (pc := 29) (M' := mX6_pushesGo) dX6_runs_29 iX6_pushesGo lkX6_176 (by decide) (rO_obj sh_54 rfl) (Nat.le_of_ble_eq_true rfl) (Nat.le_of_ble_eq_true rfl) ?_
          refine sp_pushesGo (p := 0) (by omega) (by omega) hv hp hm (fun S2 a b c d f => ?_)
          refine e_istore_n (pc := 32) (i := 3) dX6_runs_32 rfl (by decide) rfl ?_
          refine e_iload_n (pc := 33) (i := 2) dX6_runs_33 rfl rfl ?_
          · refine e_table (pc := 34) dX6_runs_34 ⟨64, (Or.inr ⟨by decide, by decide, 30, by decide, by decide⟩), ?_⟩
            refine e_iload_n (pc := 64) (i := 3) dX6_runs_64 rfl rfl ?_
            refine e_iret (pc := 65) (st := []) (ty := .int) dX6_runs_65 rfl rfl ?_
            exact k S2 f.same
      · refine ask_both (nI (cn R m)) hI (fun Q k => ?_) (fun S1 h1 Q k => ?_)
        · show E sc mX5_runs 0 [.ref 0, .int (nI m), .int (nI 1), .null, .null, .null] [] S Q
          refine e_iload_n (pc := 0) (i := 1) dX5_runs_0 rfl rfl ?_
          refine e_iconst' (pc := 1) (nI 0) dX5_runs_1 (by decide) ?_
          refine e_sipush' (pc := 2) (nI 1000) dX5_runs_2 (by decide) ?_
          refine e_callS3 (pc := 5) (M' := mX5_within) dX5_runs_5 jX5_within lkX5_70 (by decide) (Nat.le_of_ble_eq_true rfl) (Nat.le_of_ble_eq_true rfl) ?_
          refine sp_winY (by omega) (by omega) (by omega) ?_
          refine e_if_eq (pc := 8) (tgt := 20) dX5_runs_8 (by decide) (fun h8 => absurd h8 (by decide)) (fun h8 => ?_)
          refine e_iload_n (pc := 11) (i := 2) dX5_runs_11 rfl rfl ?_
          refine e_iconst' (pc := 12) (nI 0) dX5_runs_12 (by decide) ?_
          refine e_iconst' (pc := 13) (nI 4) dX5_runs_13 (by decide) ?_
          refine e_callS3 (pc := 14) (M' := mX5_within) dX5_runs_14 jX5_within lkX5_70 (by decide) (Nat.le_of_ble_eq_true rfl) (Nat.le_of_ble_eq_true rfl) ?_
          refine sp_winY (by omega) (by omega) (by omega) ?_
          refine e_if_ne (pc := 17) (tgt := 22) dX5_runs_17 (by decide) (fun h17 => ?_) (fun h17 => absurd h17 (by decide))
          refine e_aload_n (pc := 22) (i := 0) dX5_runs_22 rfl rfl ?_
          refine e_getR (pc := 23) dX5_runs_23 (fX5_16 rfl) sh_0 rfl ?_
          refine e_aload_n (pc := 26) (i := 0) dX5_runs_26 rfl rfl ?_
          refine e_getR (pc := 27) dX5_runs_27 (fX5_10 rfl) sh_0 rfl ?_
          refine e_callV1 (pc := 30) (M' := mX0_copyOf) dX5_runs_30 iX0_copyOf lkX5_90 (by decide) (rO_obj sh_6 rfl) (Nat.le_of_ble_eq_true rfl) (Nat.le_of_ble_eq_true rfl) ?_
          refine sp_copyOf r6 r1 (by omega) hv hr (fun S1 ht hc0 hf => ?_)
          refine e_aload_n (pc := 33) (i := 0) dX5_runs_33 rfl rfl ?_
          refine e_getR (pc := 34) dX5_runs_34 (fX5_16 rfl) sh_0 rfl ?_
          refine e_callV0 (pc := 37) (M' := mX0_reading) dX5_runs_37 iX0_reading lkX5_107 (by decide) (rO_obj sh_6 rfl) (Nat.le_of_ble_eq_true rfl) (Nat.le_of_ble_eq_true rfl) ?_
          refine sp_reading r6 hv ht ?_
          refine e_istore_n (pc := 40) (i := 3) dX5_runs_40 rfl (by decide) rfl ?_
          refine e_iconst' (pc := 41) (nI 0) dX5_runs_41 (by decide) ?_
          refine e_istore (pc := 42) dX5_runs_42 (by decide) rfl ?_
          refine e_iconst' (pc := 44) (nI 0) dX5_runs_44 (by decide) ?_
          refine e_istore (pc := 45) dX5_runs_45 (by decide) rfl ?_
          exact lp_runs1 hv hc hm (fun S2 h2 => k S2 (hf.tr h2).same) (m + 1) 0 S1 (by omega) (by omega) ht hc0 Fr.rf
        · show E sc mX6_runs 0 [.ref 54, .int (nI m), .int (nI 1), .null] [] S1 Q
          have hp := h1.pg (by omega) hv hp
          have hr := h1.row (by omega) hr
          refine e_iload_n (pc := 0) (i := 1) dX6_runs_0 rfl rfl ?_
          refine e_i2l (pc := 1) dX6_runs_1 ?_
          refine e_lconst' (pc := 2) (lN 0) dX6_runs_2 (by decide) ?_
          refine e_ldc2 (pc := 3) dX6_runs_3 (klX6_161 rfl) ?_
          refine e_callS3 (pc := 6) (M' := mX6_in) dX6_runs_6 jX6_in lkX6_46 (by decide) (Nat.le_of_ble_eq_true rfl) (Nat.le_of_ble_eq_true rfl) ?_
          refine sp_inY (lo := 0) (hi := 1000) (by decide) (by decide) (by omega) (by omega) (by omega) ?_
          refine e_if_eq (pc := 9) (tgt := 24) dX6_runs_9 (by decide) (fun h9 => absurd h9 (by decide)) (fun h9 => ?_)
          refine e_iload_n (pc := 12) (i := 2) dX6_runs_12 rfl rfl ?_
          refine e_i2l (pc := 13) dX6_runs_13 ?_
          refine e_lconst' (pc := 14) (lN 0) dX6_runs_14 (by decide) ?_
          refine e_ldc2 (pc := 15) dX6_runs_15 (klX6_99 rfl) ?_
          refine e_callS3 (pc := 18) (M' := mX6_in) dX6_runs_18 jX6_in lkX6_46 (by decide) (Nat.le_of_ble_eq_true rfl) (Nat.le_of_ble_eq_true rfl) ?_
          refine sp_inY (lo := 0) (hi := 4) (by decide) (by decide) (by omega) (by omega) (by omega) ?_
          refine e_if_ne (pc := 21) (tgt := 26) dX6_runs_21 (by decide) (fun h21 => ?_) (fun h21 => absurd h21 (by decide))
          refine e_aload_n (pc := 26) (i := 0) dX6_runs_26 rfl rfl ?_
          refine e_iconst' (pc := 27) (nI 0) dX6_runs_27 (by decide) ?_
          refine e_iload_n (pc := 28) (i := 1) dX6_runs_28 rfl rfl ?_
          refine e_callV2 (pc := 29) (M' := mX6_pushesGo) dX6_runs_29 iX6_pushesGo lkX6_176 (by decide) (rO_obj sh_54 rfl) (Nat.le_of_ble_eq_true rfl) (Nat.le_of_ble_eq_true rfl) ?_
          refine sp_pushesGo (p := 0) (by omega) (by omega) hv hp hm (fun S2 a b c d f => ?_)
          refine e_istore_n (pc := 32) (i := 3) dX6_runs_32 rfl (by decide) rfl ?_
          refine e_iload_n (pc := 33) (i := 2) dX6_runs_33 rfl rfl ?_
          · refine e_table (pc := 34) dX6_runs_34 ⟨66, (Or.inr ⟨by decide, by decide, 32, by decide, by decide⟩), ?_⟩
            refine e_aload_n (pc := 66) (i := 0) dX6_runs_66 rfl rfl ?_
            refine e_getI (pc := 67) dX6_runs_67 (fX6_125 rfl) sh_54 rfl ?_
            refine E.it (nI (cn R m)) b ?_
            refine e_iret (pc := 70) (st := []) (ty := .int) dX6_runs_70 rfl rfl ?_
            exact k S2 f.same
      · refine ask_both (nI (mx R m)) hI (fun Q k => ?_) (fun S1 h1 Q k => ?_)
        · show E sc mX5_runs 0 [.ref 0, .int (nI m), .int (nI 2), .null, .null, .null] [] S Q
          refine e_iload_n (pc := 0) (i := 1) dX5_runs_0 rfl rfl ?_
          refine e_iconst' (pc := 1) (nI 0) dX5_runs_1 (by decide) ?_
          refine e_sipush' (pc := 2) (nI 1000) dX5_runs_2 (by decide) ?_
          refine e_callS3 (pc := 5) (M' := mX5_within) dX5_runs_5 jX5_within lkX5_70 (by decide) (Nat.le_of_ble_eq_true rfl) (Nat.le_of_ble_eq_true rfl) ?_
          refine sp_winY (by omega) (by omega) (by omega) ?_
          refine e_if_eq (pc := 8) (tgt := 20) dX5_runs_8 (by decide) (fun h8 => absurd h8 (by decide)) (fun h8 => ?_)
          refine e_iload_n (pc := 11) (i := 2) dX5_runs_11 rfl rfl ?_
          refine e_iconst' (pc := 12) (nI 0) dX5_runs_12 (by decide) ?_
          refine e_iconst' (pc := 13) (nI 4) dX5_runs_13 (by decide) ?_
          refine e_callS3 (pc := 14) (M' := mX5_within) dX5_runs_14 jX5_within lkX5_70 (by decide) (Nat.le_of_ble_eq_true rfl) (Nat.le_of_ble_eq_true rfl) ?_
          refine sp_winY (by omega) (by omega) (by omega) ?_
          refine e_if_ne (pc := 17) (tgt := 22) dX5_runs_17 (by decide) (fun h17 => ?_) (fun h17 => absurd h17 (by decide))
          refine e_aload_n (pc := 22) (i := 0) dX5_runs_22 rfl rfl ?_
          refine e_getR (pc := 23) dX5_runs_23 (fX5_16 rfl) sh_0 rfl ?_
          refine e_aload_n (pc := 26) (i := 0) dX5_runs_26 rfl rfl ?_
          refine e_getR (pc := 27) dX5_runs_27 (fX5_10 rfl) sh_0 rfl ?_
          refine e_callV1 (pc := 30) (M' := mX0_copyOf) dX5_runs_30 iX0_copyOf lkX5_90 (by decide) (rO_obj sh_6 rfl) (Nat.le_of_ble_eq_true rfl) (Nat.le_of_ble_eq_true rfl) ?_
          refine sp_copyOf r6 r1 (by omega) hv hr (fun S1 ht hc0 hf => ?_)
          refine e_aload_n (pc := 33) (i := 0) dX5_runs_33 rfl rfl ?_
          refine e_getR (pc := 34) dX5_runs_34 (fX5_16 rfl) sh_0 rfl ?_
          refine e_callV0 (pc := 37) (M' := mX0_reading) dX5_runs_37 iX0_reading lkX5_107 (by decide) (rO_obj sh_6 rfl) (Nat.le_of_ble_eq_true rfl) (Nat.le_of_ble_eq_true rfl) ?_
          refine sp_reading r6 hv ht ?_
          refine e_istore_n (pc := 40) (i := 3) dX5_runs_40 rfl (by decide) rfl ?_
          refine e_iconst' (pc := 41) (nI 0) dX5_runs_41 (by decide) ?_
          refine e_istore (pc := 42) dX5_runs_42 (by decide) rfl ?_
          refine e_iconst' (pc := 44) (nI 0) dX5_runs_44 (by decide) ?_
          refine e_istore (pc := 45) dX5_runs_45 (by decide) rfl ?_
          exact lp_runs2 hv hc hm (fun S2 h2 => k S2 (hf.tr h2).same) (m + 1) 0 S1 (by omega) (by omega) ht hc0 Fr.rf
        · show E sc mX6_runs 0 [.ref 54, .int (nI m), .int (nI 2), .null] [] S1 Q
          have hp := h1.pg (by omega) hv hp
          have hr := h1.row (by omega) hr
          refine e_iload_n (pc := 0) (i := 1) dX6_runs_0 rfl rfl ?_
          refine e_i2l (pc := 1) dX6_runs_1 ?_
          refine e_lconst' (pc := 2) (lN 0) dX6_runs_2 (by decide) ?_
          refine e_ldc2 (pc := 3) dX6_runs_3 (klX6_161 rfl) ?_
          refine e_callS3 (pc := 6) (M' := mX6_in) dX6_runs_6 jX6_in lkX6_46 (by decide) (Nat.le_of_ble_eq_true rfl) (Nat.le_of_ble_eq_true rfl) ?_
          refine sp_inY (lo := 0) (hi := 1000) (by decide) (by decide) (by omega) (by omega) (by omega) ?_
          refine e_if_eq (pc := 9) (tgt := 24) dX6_runs_9 (by decide) (fun h9 => absurd h9 (by decide)) (fun h9 => ?_)
          refine e_iload_n (pc := 12) (i := 2) dX6_runs_12 rfl rfl ?_
          refine e_i2l (pc := 13) dX6_runs_13 ?_
          refine e_lconst' (pc := 14) (lN 0) dX6_runs_14 (by decide) ?_
          refine e_ldc2 (pc := 15) dX6_runs_15 (klX6_99 rfl) ?_
          refine e_callS3 (pc := 18) (M' := mX6_in) dX6_runs_18 jX6_in lkX6_46 (by decide) (Nat.le_of_ble_eq_true rfl) (Nat.le_of_ble_eq_true rfl) ?_
          refine sp_inY (lo := 0) (hi := 4) (by decide) (by decide) (by omega) (by omega) (by omega) ?_
          refine e_if_ne (pc := 21) (tgt := 26) dX6_runs_21 (by decide) (fun h21 => ?_) (fun h21 => absurd h21 (by decide))
          refine e_aload_n (pc := 26) (i := 0) dX6_runs_26 rfl rfl ?_
          refine e_iconst' (pc := 27) (nI 0) dX6_runs_27 (by decide) ?_
          refine e_iload_n (pc := 28) (i := 1) dX6_runs_28 rfl rfl ?_
          refine e_callV2 (pc := 29) (M' := mX6_pushesGo) dX6_runs_29 iX6_pushesGo lkX6_176 (by decide) (rO_obj sh_54 rfl) (Nat.le_of_ble_eq_true rfl) (Nat.le_of_ble_eq_true rfl) ?_
          refine sp_pushesGo (p := 0) (by omega) (by omega) hv hp hm (fun S2 a b c d f => ?_)
          refine e_istore_n (pc := 32) (i := 3) dX6_runs_32 rfl (by decide) rfl ?_
          refine e_iload_n (pc := 33) (i := 2) dX6_runs_33 rfl rfl ?_
          · refine e_table (pc := 34) dX6_runs_34 ⟨71, (Or.inr ⟨by decide, by decide, 37, by decide, by decide⟩), ?_⟩
            refine e_aload_n (pc := 71) (i := 0) dX6_runs_71 rfl rfl ?_
            refine e_getI (pc := 72) dX6_runs_72 (fX6_173 rfl) sh_54 rfl ?_
            refine E.it (nI (mx R m)) c ?_
            refine e_iret (pc := 75) (st := []) (ty := .int) dX6_runs_75 rfl rfl ?_
            exact k S2 f.same
      · refine ask_both (nI (err (pn R m))) hI (fun Q k => ?_) (fun S1 h1 Q k => ?_)
        · show E sc mX5_runs 0 [.ref 0, .int (nI m), .int (nI 3), .null, .null, .null] [] S Q
          refine e_iload_n (pc := 0) (i := 1) dX5_runs_0 rfl rfl ?_
          refine e_iconst' (pc := 1) (nI 0) dX5_runs_1 (by decide) ?_
          refine e_sipush' (pc := 2) (nI 1000) dX5_runs_2 (by decide) ?_
          refine e_callS3 (pc := 5) (M' := mX5_within) dX5_runs_5 jX5_within lkX5_70 (by decide) (Nat.le_of_ble_eq_true rfl) (Nat.le_of_ble_eq_true rfl) ?_
          refine sp_winY (by omega) (by omega) (by omega) ?_
          refine e_if_eq (pc := 8) (tgt := 20) dX5_runs_8 (by decide) (fun h8 => absurd h8 (by decide)) (fun h8 => ?_)
          refine e_iload_n (pc := 11) (i := 2) dX5_runs_11 rfl rfl ?_
          refine e_iconst' (pc := 12) (nI 0) dX5_runs_12 (by decide) ?_
          refine e_iconst' (pc := 13) (nI 4) dX5_runs_13 (by decide) ?_
          refine e_callS3 (pc := 14) (M' := mX5_within) dX5_runs_14 jX5_within lkX5_70 (by decide) (Nat.le_of_ble_eq_true rfl) (Nat.le_of_ble_eq_true rfl) ?_
          refine sp_winY (by omega) (by omega) (by omega) ?_
          refine e_if_ne (pc := 17) (tgt := 22) dX5_runs_17 (by decide) (fun h17 => ?_) (fun h17 => absurd h17 (by decide))
          refine e_aload_n (pc := 22) (i := 0) dX5_runs_22 rfl rfl ?_
          refine e_getR (pc := 23) dX5_runs_23 (fX5_16 rfl) sh_0 rfl ?_
          refine e_aload_n (pc := 26) (i := 0) dX5_runs_26 rfl rfl ?_
          refine e_getR (pc := 27) dX5_runs_27 (fX5_10 rfl) sh_0 rfl ?_
          refine e_callV1 (pc := 30) (M' := mX0_copyOf) dX5_runs_30 iX0_copyOf lkX5_90 (by decide) (rO_obj sh_6 rfl) (Nat.le_of_ble_eq_true rfl) (Nat.le_of_ble_eq_true rfl) ?_
          refine sp_copyOf r6 r1 (by omega) hv hr (fun S1 ht hc0 hf => ?_)
          refine e_aload_n (pc := 33) (i := 0) dX5_runs_33 rfl rfl ?_
          refine e_getR (pc := 34) dX5_runs_34 (fX5_16 rfl) sh_0 rfl ?_
          refine e_callV0 (pc := 37) (M' := mX0_reading) dX5_runs_37 iX0_reading lkX5_107 (by decide) (rO_obj sh_6 rfl) (Nat.le_of_ble_eq_true rfl) (Nat.le_of_ble_eq_true rfl) ?_
          refine sp_reading r6 hv ht ?_
          refine e_istore_n (pc := 40) (i := 3) dX5_runs_40 rfl (by decide) rfl ?_
          refine e_iconst' (pc := 41) (nI 0) dX5_runs_41 (by decide) ?_
          refine e_istore (pc := 42) dX5_runs_42 (by decide) rfl ?_
          refine e_iconst' (pc := 44) (nI 0) dX5_runs_44 (by decide) ?_
          refine e_istore (pc := 45) dX5_runs_45 (by decide) rfl ?_
          exact lp_runs3 hv hc hm (fun S2 h2 => k S2 (hf.tr h2).same) (m + 1) 0 S1 (by omega) (by omega) ht hc0 Fr.rf
        · show E sc mX6_runs 0 [.ref 54, .int (nI m), .int (nI 3), .null] [] S1 Q
          have hp := h1.pg (by omega) hv hp
          have hr := h1.row (by omega) hr
          refine e_iload_n (pc := 0) (i := 1) dX6_runs_0 rfl rfl ?_
          refine e_i2l (pc := 1) dX6_runs_1 ?_
          refine e_lconst' (pc := 2) (lN 0) dX6_runs_2 (by decide) ?_
          refine e_ldc2 (pc := 3) dX6_runs_3 (klX6_161 rfl) ?_
          refine e_callS3 (pc := 6) (M' := mX6_in) dX6_runs_6 jX6_in lkX6_46 (by decide) (Nat.le_of_ble_eq_true rfl) (Nat.le_of_ble_eq_true rfl) ?_
          refine sp_inY (lo := 0) (hi := 1000) (by decide) (by decide) (by omega) (by omega) (by omega) ?_
          refine e_if_eq (pc := 9) (tgt := 24) dX6_runs_9 (by decide) (fun h9 => absurd h9 (by decide)) (fun h9 => ?_)
          refine e_iload_n (pc := 12) (i := 2) dX6_runs_12 rfl rfl ?_
          refine e_i2l (pc := 13) dX6_runs_13 ?_
          refine e_lconst' (pc := 14) (lN 0) dX6_runs_14 (by decide) ?_
          refine e_ldc2 (pc := 15) dX6_runs_15 (klX6_99 rfl) ?_
          refine e_callS3 (pc := 18) (M' := mX6_in) dX6_runs_18 jX6_in lkX6_46 (by decide) (Nat.le_of_ble_eq_true rfl) (Nat.le_of_ble_eq_true rfl) ?_
          refine sp_inY (lo := 0) (hi := 4) (by decide) (by decide) (by omega) (by omega) (by omega) ?_
          refine e_if_ne (pc := 21) (tgt := 26) dX6_runs_21 (by decide) (fun h21 => ?_) (fun h21 => absurd h21 (by decide))
          refine e_aload_n (pc := 26) (i := 0) dX6_runs_26 rfl rfl ?_
          refine e_iconst' (pc := 27) (nI 0) dX6_runs_27 (by decide) ?_
          refine e_iload_n (pc := 28) (i := 1) dX6_runs_28 rfl rfl ?_
          refine e_callV2 (pc := 29) (M' := mX6_pushesGo) dX6_runs_29 iX6_pushesGo lkX6_176 (by decide) (rO_obj sh_54 rfl) (Nat.le_of_ble_eq_true rfl) (Nat.le_of_ble_eq_true rfl) ?_
          refine sp_pushesGo (p := 0) (by omega) (by omega) hv hp hm (fun S2 a b c d f => ?_)
          refine e_istore_n (pc := 32) (i := 3) dX6_runs_32 rfl (by decide) rfl ?_
          refine e_iload_n (pc := 33) (i := 2) dX6_runs_33 rfl rfl ?_
          · refine e_table (pc := 34) dX6_runs_34 ⟨76, (Or.inr ⟨by decide, by decide, 42, by decide, by decide⟩), ?_⟩
            refine e_aload_n (pc := 76) (i := 0) dX6_runs_76 rfl rfl ?_
            refine e_bipush' (pc := 77) (nI 88) dX6_runs_77 (by decide) ?_
            refine e_callV1 (pc := 79) (M' := mX6_errorOn) dX6_runs_79 iX6_errorOn lkX6_141 (by decide) (rO_obj sh_54 rfl) (Nat.le_of_ble_eq_true rfl) (Nat.le_of_ble_eq_true rfl) ?_
            refine sp_errorOn (p := 88) (by omega) (pn_vd hv m) a (by rw [pn_count hv]; omega) ?_
            refine e_iret (pc := 82) (st := []) (ty := .int) dX6_runs_82 rfl rfl ?_
            exact k S2 f.same
      · refine ask_both (nI (zc R m)) hI (fun Q k => ?_) (fun S1 h1 Q k => ?_)
        · show E sc mX5_runs 0 [.ref 0, .int (nI m), .int (nI 4), .null, .null, .null] [] S Q
          refine e_iload_n (pc := 0) (i := 1) dX5_runs_0 rfl rfl ?_
          refine e_iconst' (pc := 1) (nI 0) dX5_runs_1 (by decide) ?_
          refine e_sipush' (pc := 2) (nI 1000) dX5_runs_2 (by decide) ?_
          refine e_callS3 (pc := 5) (M' := mX5_within) dX5_runs_5 jX5_within lkX5_70 (by decide) (Nat.le_of_ble_eq_true rfl) (Nat.le_of_ble_eq_true rfl) ?_
          refine sp_winY (by omega) (by omega) (by omega) ?_
          refine e_if_eq (pc := 8) (tgt := 20) dX5_runs_8 (by decide) (fun h8 => absurd h8 (by decide)) (fun h8 => ?_)
          refine e_iload_n (pc := 11) (i := 2) dX5_runs_11 rfl rfl ?_
          refine e_iconst' (pc := 12) (nI 0) dX5_runs_12 (by decide) ?_
          refine e_iconst' (pc := 13) (nI 4) dX5_runs_13 (by decide) ?_
          refine e_callS3 (pc := 14) (M' := mX5_within) dX5_runs_14 jX5_within lkX5_70 (by decide) (Nat.le_of_ble_eq_true rfl) (Nat.le_of_ble_eq_true rfl) ?_
          refine sp_winY (by omega) (by omega) (by omega) ?_
          refine e_if_ne (pc := 17) (tgt := 22) dX5_runs_17 (by decide) (fun h17 => ?_) (fun h17 => absurd h17 (by decide))
          refine e_aload_n (pc := 22) (i := 0) dX5_runs_22 rfl rfl ?_
          refine e_getR (pc := 23) dX5_runs_23 (fX5_16 rfl) sh_0 rfl ?_
          refine e_aload_n (pc := 26) (i := 0) dX5_runs_26 rfl rfl ?_
          refine e_getR (pc := 27) dX5_runs_27 (fX5_10 rfl) sh_0 rfl ?_
          refine e_callV1 (pc := 30) (M' := mX0_copyOf) dX5_runs_30 iX0_copyOf lkX5_90 (by decide) (rO_obj sh_6 rfl) (Nat.le_of_ble_eq_true rfl) (Nat.le_of_ble_eq_true rfl) ?_
          refine sp_copyOf r6 r1 (by omega) hv hr (fun S1 ht hc0 hf => ?_)
          refine e_aload_n (pc := 33) (i := 0) dX5_runs_33 rfl rfl ?_
          refine e_getR (pc := 34) dX5_runs_34 (fX5_16 rfl) sh_0 rfl ?_
          refine e_callV0 (pc := 37) (M' := mX0_reading) dX5_runs_37 iX0_reading lkX5_107 (by decide) (rO_obj sh_6 rfl) (Nat.le_of_ble_eq_true rfl) (Nat.le_of_ble_eq_true rfl) ?_
          refine sp_reading r6 hv ht ?_
          refine e_istore_n (pc := 40) (i := 3) dX5_runs_40 rfl (by decide) rfl ?_
          refine e_iconst' (pc := 41) (nI 0) dX5_runs_41 (by decide) ?_
          refine e_istore (pc := 42) dX5_runs_42 (by decide) rfl ?_
          refine e_iconst' (pc := 44) (nI 0) dX5_runs_44 (by decide) ?_
          refine e_istore (pc := 45) dX5_runs_45 (by decide) rfl ?_
          exact lp_runs4 hv hc hm (fun S2 h2 => k S2 (hf.tr h2).same) (m + 1) 0 S1 (by omega) (by omega) ht hc0 Fr.rf
        · show E sc mX6_runs 0 [.ref 54, .int (nI m), .int (nI 4), .null] [] S1 Q
          have hp := h1.pg (by omega) hv hp
          have hr := h1.row (by omega) hr
          refine e_iload_n (pc := 0) (i := 1) dX6_runs_0 rfl rfl ?_
          refine e_i2l (pc := 1) dX6_runs_1 ?_
          refine e_lconst' (pc := 2) (lN 0) dX6_runs_2 (by decide) ?_
          refine e_ldc2 (pc := 3) dX6_runs_3 (klX6_161 rfl) ?_
          refine e_callS3 (pc := 6) (M' := mX6_in) dX6_runs_6 jX6_in lkX6_46 (by decide) (Nat.le_of_ble_eq_true rfl) (Nat.le_of_ble_eq_true rfl) ?_
          refine sp_inY (lo := 0) (hi := 1000) (by decide) (by decide) (by omega) (by omega) (by omega) ?_
          refine e_if_eq (pc := 9) (tgt := 24) dX6_runs_9 (by decide) (fun h9 => absurd h9 (by decide)) (fun h9 => ?_)
          refine e_iload_n (pc := 12) (i := 2) dX6_runs_12 rfl rfl ?_
          refine e_i2l (pc := 13) dX6_runs_13 ?_
          refine e_lconst' (pc := 14) (lN 0) dX6_runs_14 (by decide) ?_
          refine e_ldc2 (pc := 15) dX6_runs_15 (klX6_99 rfl) ?_
          refine e_callS3 (pc := 18) (M' := mX6_in) dX6_runs_18 jX6_in lkX6_46 (by decide) (Nat.le_of_ble_eq_true rfl) (Nat.le_of_ble_eq_true rfl) ?_
          refine sp_inY (lo := 0) (hi := 4) (by decide) (by decide) (by omega) (by omega) (by omega) ?_
          refine e_if_ne (pc := 21) (tgt := 26) dX6_runs_21 (by decide) (fun h21 => ?_) (fun h21 => absurd h21 (by decide))
          refine e_aload_n (pc := 26) (i := 0) dX6_runs_26 rfl rfl ?_
          refine e_iconst' (pc := 27) (nI 0) dX6_runs_27 (by decide) ?_
          refine e_iload_n (pc := 28) (i := 1) dX6_runs_28 rfl rfl ?_
          refine e_callV2 (pc := 29) (M' := mX6_pushesGo) dX6_runs_29 iX6_pushesGo lkX6_176 (by decide) (rO_obj sh_54 rfl) (Nat.le_of_ble_eq_true rfl) (Nat.le_of_ble_eq_true rfl) ?_
          refine sp_pushesGo (p := 0) (by omega) (by omega) hv hp hm (fun S2 a b c d f => ?_)
          refine e_istore_n (pc := 32) (i := 3) dX6_runs_32 rfl (by decide) rfl ?_
          refine e_iload_n (pc := 33) (i := 2) dX6_runs_33 rfl rfl ?_
          · refine e_table (pc := 34) dX6_runs_34 ⟨83, (Or.inl ⟨Or.inr (by decide), by decide⟩), ?_⟩
            refine e_aload_n (pc := 83) (i := 0) dX6_runs_83 rfl rfl ?_
            refine e_getI (pc := 84) dX6_runs_84 (fX6_170 rfl) sh_54 rfl ?_
            refine E.it (nI (zc R m)) d ?_
            refine e_iret (pc := 87) (st := []) (ty := .int) dX6_runs_87 rfl rfl ?_
            exact k S2 f.same
    · refine ask_both (-1) hI (fun Q k => ?_) (fun S1 h1 Q k => ?_)
      · show E sc mX5_runs 0 [.ref 0, .int (nI m), .int y, .null, .null, .null] [] S Q
        refine e_iload_n (pc := 0) (i := 1) dX5_runs_0 rfl rfl ?_
        refine e_iconst' (pc := 1) (nI 0) dX5_runs_1 (by decide) ?_
        refine e_sipush' (pc := 2) (nI 1000) dX5_runs_2 (by decide) ?_
        refine e_callS3 (pc := 5) (M' := mX5_within) dX5_runs_5 jX5_within lkX5_70 (by decide) (Nat.le_of_ble_eq_true rfl) (Nat.le_of_ble_eq_true rfl) ?_
        refine sp_winY (by omega) (by omega) (by omega) ?_
        refine e_if_eq (pc := 8) (tgt := 20) dX5_runs_8 (by decide) (fun h8 => absurd h8 (by decide)) (fun h8 => ?_)
        refine e_iload_n (pc := 11) (i := 2) dX5_runs_11 rfl rfl ?_
        refine e_iconst' (pc := 12) (nI 0) dX5_runs_12 (by decide) ?_
        refine e_iconst' (pc := 13) (nI 4) dX5_runs_13 (by decide) ?_
        refine e_callS3 (pc := 14) (M' := mX5_within) dX5_runs_14 jX5_within lkX5_70 (by decide) (Nat.le_of_ble_eq_true rfl) (Nat.le_of_ble_eq_true rfl) ?_
        refine sp_winX hn (by omega) (by omega) ?_
        refine e_if_ne (pc := 17) (tgt := 22) dX5_runs_17 (by decide) (fun h17 => absurd (by decide) h17) (fun h17 => ?_)
        refine e_iconst' (pc := 20) (-1) dX5_runs_20 (by decide) ?_
        refine e_iret (pc := 21) (st := []) (ty := .int) dX5_runs_21 rfl rfl ?_
        exact k _ Same.rf
      · show E sc mX6_runs 0 [.ref 54, .int (nI m), .int y, .null] [] S1 Q
        have hp := h1.pg (by omega) hv hp
        have hr := h1.row (by omega) hr
        refine e_iload_n (pc := 0) (i := 1) dX6_runs_0 rfl rfl ?_
        refine e_i2l (pc := 1) dX6_runs_1 ?_
        refine e_lconst' (pc := 2) (lN 0) dX6_runs_2 (by decide) ?_
        refine e_ldc2 (pc := 3) dX6_runs_3 (klX6_161 rfl) ?_
        refine e_callS3 (pc := 6) (M' := mX6_in) dX6_runs_6 jX6_in lkX6_46 (by decide) (Nat.le_of_ble_eq_true rfl) (Nat.le_of_ble_eq_true rfl) ?_
        refine sp_inY (lo := 0) (hi := 1000) (by decide) (by decide) (by omega) (by omega) (by omega) ?_
        refine e_if_eq (pc := 9) (tgt := 24) dX6_runs_9 (by decide) (fun h9 => absurd h9 (by decide)) (fun h9 => ?_)
        refine e_iload_n (pc := 12) (i := 2) dX6_runs_12 rfl rfl ?_
        refine e_i2l (pc := 13) dX6_runs_13 ?_
        refine e_lconst' (pc := 14) (lN 0) dX6_runs_14 (by decide) ?_
        refine e_ldc2 (pc := 15) dX6_runs_15 (klX6_99 rfl) ?_
        refine e_callS3 (pc := 18) (M' := mX6_in) dX6_runs_18 jX6_in lkX6_46 (by decide) (Nat.le_of_ble_eq_true rfl) (Nat.le_of_ble_eq_true rfl) ?_
        refine sp_inX (lo := 0) (hi := 4) (by decide) (by decide) hn ?_
        refine e_if_ne (pc := 21) (tgt := 26) dX6_runs_21 (by decide) (fun h21 => absurd (by decide) h21) (fun h21 => ?_)
        refine e_iconst' (pc := 24) (-1) dX6_runs_24 (by decide) ?_
        refine e_iret (pc := 25) (st := []) (ty := .int) dX6_runs_25 rfl rfl ?_
        exact k _ Same.rf
  · refine ask_both (-1) hI (fun Q k => ?_) (fun S1 h1 Q k => ?_)
    · show E sc mX5_runs 0 [.ref 0, .int x, .int y, .null, .null, .null] [] S Q
      refine e_iload_n (pc := 0) (i := 1) dX5_runs_0 rfl rfl ?_
      refine e_iconst' (pc := 1) (nI 0) dX5_runs_1 (by decide) ?_
      refine e_sipush' (pc := 2) (nI 1000) dX5_runs_2 (by decide) ?_
      refine e_callS3 (pc := 5) (M' := mX5_within) dX5_runs_5 jX5_within lkX5_70 (by decide) (Nat.le_of_ble_eq_true rfl) (Nat.le_of_ble_eq_true rfl) ?_
      refine sp_winX hn (by omega) (by omega) ?_
      refine e_if_eq (pc := 8) (tgt := 20) dX5_runs_8 (by decide) (fun h8 => ?_) (fun h8 => absurd (by decide) h8)
      refine e_iconst' (pc := 20) (-1) dX5_runs_20 (by decide) ?_
      refine e_iret (pc := 21) (st := []) (ty := .int) dX5_runs_21 rfl rfl ?_
      exact k _ Same.rf
    · show E sc mX6_runs 0 [.ref 54, .int x, .int y, .null] [] S1 Q
      have hp := h1.pg (by omega) hv hp
      have hr := h1.row (by omega) hr
      refine e_iload_n (pc := 0) (i := 1) dX6_runs_0 rfl rfl ?_
      refine e_i2l (pc := 1) dX6_runs_1 ?_
      refine e_lconst' (pc := 2) (lN 0) dX6_runs_2 (by decide) ?_
      refine e_ldc2 (pc := 3) dX6_runs_3 (klX6_161 rfl) ?_
      refine e_callS3 (pc := 6) (M' := mX6_in) dX6_runs_6 jX6_in lkX6_46 (by decide) (Nat.le_of_ble_eq_true rfl) (Nat.le_of_ble_eq_true rfl) ?_
      refine sp_inX (lo := 0) (hi := 1000) (by decide) (by decide) hn ?_
      refine e_if_eq (pc := 9) (tgt := 24) dX6_runs_9 (by decide) (fun h9 => ?_) (fun h9 => absurd (by decide) h9)
      refine e_iconst' (pc := 24) (-1) dX6_runs_24 (by decide) ?_
      refine e_iret (pc := 25) (st := []) (ty := .int) dX6_runs_25 rfl rfl ?_
      exact k _ Same.rf
theorem b_ahead {sc : PSc} {S : PS} (hI : InvS S) (w x : Int32) : Bth sc mX5_ahead mX6_ahead [.int w, .int x] S := by
  obtain ⟨R, hv, hc, hr, hp⟩ := hI.1
  have hv5 := hv.1
  rcases Classical.em (inw w (R 20)) with ⟨j, rfl, hw⟩ | hn
  · rcases Classical.em (inr x 0 1000) with ⟨m, rfl, -, hm⟩ | hn
    · refine ask_both (nI (pn R m (10 + j))) hI (fun Q k => ?_) (fun S1 h1 Q k => ?_)
      · show E sc mX5_ahead 0 [.ref 0, .int (nI j), .int (nI m)] [] S Q
        have h20 : pn R m 20 = R 20 := pn_keep hv (by omega) (by omega) m
        have hvm := pn_vd hv m
        refine e_aload_n (pc := 0) (i := 0) dX5_ahead_0 rfl rfl ?_
        refine e_getR (pc := 1) dX5_ahead_1 (fX5_10 rfl) sh_0 rfl ?_
        refine e_iload_n (pc := 4) (i := 1) dX5_ahead_4 rfl rfl ?_
        refine e_callV1 (pc := 5) (M' := mX0_has) dX5_ahead_5 iX0_has lkX5_120 (by decide) (rO_obj sh_1 rfl) (Nat.le_of_ble_eq_true rfl) (Nat.le_of_ble_eq_true rfl) ?_
        refine sp_hasY r1 hv hr hw ?_
        refine e_if_eq (pc := 8) (tgt := 22) dX5_ahead_8 (by decide) (fun h8 => absurd h8 (by decide)) (fun h8 => ?_)
        refine e_iload_n (pc := 11) (i := 2) dX5_ahead_11 rfl rfl ?_
        refine e_iconst' (pc := 12) (nI 0) dX5_ahead_12 (by decide) ?_
        refine e_sipush' (pc := 13) (nI 1000) dX5_ahead_13 (by decide) ?_
        refine e_callS3 (pc := 16) (M' := mX5_within) dX5_ahead_16 jX5_within lkX5_70 (by decide) (Nat.le_of_ble_eq_true rfl) (Nat.le_of_ble_eq_true rfl) ?_
        refine sp_winY (by omega) (by omega) (by omega) ?_
        refine e_if_ne (pc := 19) (tgt := 24) dX5_ahead_19 (by decide) (fun h19 => ?_) (fun h19 => absurd h19 (by decide))
        refine e_aload_n (pc := 24) (i := 0) dX5_ahead_24 rfl rfl ?_
        refine e_getR (pc := 25) dX5_ahead_25 (fX5_16 rfl) sh_0 rfl ?_
        refine e_aload_n (pc := 28) (i := 0) dX5_ahead_28 rfl rfl ?_
        refine e_getR (pc := 29) dX5_ahead_29 (fX5_10 rfl) sh_0 rfl ?_
        refine e_callV1 (pc := 32) (M' := mX0_copyOf) dX5_ahead_32 iX0_copyOf lkX5_90 (by decide) (rO_obj sh_6 rfl) (Nat.le_of_ble_eq_true rfl) (Nat.le_of_ble_eq_true rfl) ?_
        refine sp_copyOf r6 r1 (by omega) hv hr (fun S1 ht hc0 hf => ?_)
        refine e_aload_n (pc := 35) (i := 0) dX5_ahead_35 rfl rfl ?_
        refine e_getR (pc := 36) dX5_ahead_36 (fX5_16 rfl) sh_0 rfl ?_
        refine e_iload_n (pc := 39) (i := 2) dX5_ahead_39 rfl rfl ?_
        refine e_callV1 (pc := 40) (M' := mX0_push) dX5_ahead_40 iX0_push lkX5_148 (by decide) (rO_obj sh_6 rfl) (Nat.le_of_ble_eq_true rfl) (Nat.le_of_ble_eq_true rfl) ?_
        refine sp_push r6 hv ht (by omega) (fun S2 ht2 hc2 hf2 => ?_)
        refine e_aload_n (pc := 43) (i := 0) dX5_ahead_43 rfl rfl ?_
        refine e_getR (pc := 44) dX5_ahead_44 (fX5_16 rfl) sh_0 rfl ?_
        refine e_getR (pc := 47) dX5_ahead_47 (fX5_144 rfl) sh_6 rfl ?_
        refine e_iload_n (pc := 50) (i := 1) dX5_ahead_50 rfl rfl ?_
        refine e_iald (pc := 51) dX5_ahead_51 sh_9 (vp_in_nI (by omega) (by omega)) ?_
        refine E.it (nI (pn R m (10 + j))) (by rw [nI_clamp (by omega)]; exact (ht2.2.2 j (by omega)).2.2.1) ?_
        refine e_iret (pc := 52) (st := []) (ty := .int) dX5_ahead_52 rfl rfl ?_
        exact k _ (hf.tr hf2).same
      · show E sc mX6_ahead 0 [.ref 54, .int (nI j), .int (nI m)] [] S1 Q
        have hp := h1.pg (by omega) hv hp
        have hr := h1.row (by omega) hr
        have h20 : pn R m 20 = R 20 := pn_keep hv (by omega) (by omega) m
        have hvm := pn_vd hv m
        refine e_aload_n (pc := 0) (i := 0) dX6_ahead_0 rfl rfl ?_
        refine e_iload_n (pc := 1) (i := 1) dX6_ahead_1 rfl rfl ?_
        refine e_callV1 (pc := 2) (M' := mX6_isWheel) dX6_ahead_2 iX6_isWheel lkX6_144 (by decide) (rO_obj sh_54 rfl) (Nat.le_of_ble_eq_true rfl) (Nat.le_of_ble_eq_true rfl) ?_
        refine sp_isWheelY hv hp hw ?_
        refine e_if_eq (pc := 5) (tgt := 20) dX6_ahead_5 (by decide) (fun h5 => absurd h5 (by decide)) (fun h5 => ?_)
        refine e_iload_n (pc := 8) (i := 2) dX6_ahead_8 rfl rfl ?_
        refine e_i2l (pc := 9) dX6_ahead_9 ?_
        refine e_lconst' (pc := 10) (lN 0) dX6_ahead_10 (by decide) ?_
        refine e_ldc2 (pc := 11) dX6_ahead_11 (klX6_161 rfl) ?_
        refine e_callS3 (pc := 14) (M' := mX6_in) dX6_ahead_14 jX6_in lkX6_46 (by decide) (Nat.le_of_ble_eq_true rfl) (Nat.le_of_ble_eq_true rfl) ?_
        refine sp_inY (lo := 0) (hi := 1000) (by decide) (by decide) (by omega) (by omega) (by omega) ?_
        refine e_if_ne (pc := 17) (tgt := 22) dX6_ahead_17 (by decide) (fun h17 => ?_) (fun h17 => absurd h17 (by decide))
        refine e_aload_n (pc := 22) (i := 0) dX6_ahead_22 rfl rfl ?_
        refine e_iconst' (pc := 23) (nI 0) dX6_ahead_23 (by decide) ?_
        refine e_iload_n (pc := 24) (i := 2) dX6_ahead_24 rfl rfl ?_
        refine e_callV2 (pc := 25) (M' := mX6_pushesGo) dX6_ahead_25 iX6_pushesGo lkX6_176 (by decide) (rO_obj sh_54 rfl) (Nat.le_of_ble_eq_true rfl) (Nat.le_of_ble_eq_true rfl) ?_
        refine sp_pushesGo (p := 0) (by omega) (by omega) hv hp hm (fun S2 a b c d f => ?_)
        refine e_pop (pc := 28) dX6_ahead_28 rfl ?_
        refine e_aload_n (pc := 29) (i := 0) dX6_ahead_29 rfl rfl ?_
        refine e_getR (pc := 30) dX6_ahead_30 (fX6_7 rfl) sh_54 rfl ?_
        refine e_bipush' (pc := 33) (nI 98) dX6_ahead_33 (by decide) ?_
        refine e_iload_n (pc := 35) (i := 1) dX6_ahead_35 rfl rfl ?_
        refine e_iadd (pc := 36) dX6_ahead_36 ?_
        refine E.it (nI (98 + j)) (nI_add _ _) ?_
        refine e_iald (pc := 37) dX6_ahead_37 sh_55 (vp_in_nI (by omega) (by omega)) ?_
        refine E.it (nI (pn R m (10 + j))) (by rw [nI_clamp (by omega)]; exact (a.2.2 j (by omega)).2.2.1) ?_
        refine e_iret (pc := 38) (st := []) (ty := .int) dX6_ahead_38 rfl rfl ?_
        exact k S2 f.same
    · refine ask_both (-1) hI (fun Q k => ?_) (fun S1 h1 Q k => ?_)
      · show E sc mX5_ahead 0 [.ref 0, .int (nI j), .int x] [] S Q
        refine e_aload_n (pc := 0) (i := 0) dX5_ahead_0 rfl rfl ?_
        refine e_getR (pc := 1) dX5_ahead_1 (fX5_10 rfl) sh_0 rfl ?_
        refine e_iload_n (pc := 4) (i := 1) dX5_ahead_4 rfl rfl ?_
        refine e_callV1 (pc := 5) (M' := mX0_has) dX5_ahead_5 iX0_has lkX5_120 (by decide) (rO_obj sh_1 rfl) (Nat.le_of_ble_eq_true rfl) (Nat.le_of_ble_eq_true rfl) ?_
        refine sp_hasY r1 hv hr hw ?_
        refine e_if_eq (pc := 8) (tgt := 22) dX5_ahead_8 (by decide) (fun h8 => absurd h8 (by decide)) (fun h8 => ?_)
        refine e_iload_n (pc := 11) (i := 2) dX5_ahead_11 rfl rfl ?_
        refine e_iconst' (pc := 12) (nI 0) dX5_ahead_12 (by decide) ?_
        refine e_sipush' (pc := 13) (nI 1000) dX5_ahead_13 (by decide) ?_
        refine e_callS3 (pc := 16) (M' := mX5_within) dX5_ahead_16 jX5_within lkX5_70 (by decide) (Nat.le_of_ble_eq_true rfl) (Nat.le_of_ble_eq_true rfl) ?_
        refine sp_winX hn (by omega) (by omega) ?_
        refine e_if_ne (pc := 19) (tgt := 24) dX5_ahead_19 (by decide) (fun h19 => absurd (by decide) h19) (fun h19 => ?_)
        refine e_iconst' (pc := 22) (-1) dX5_ahead_22 (by decide) ?_
        refine e_iret (pc := 23) (st := []) (ty := .int) dX5_ahead_23 rfl rfl ?_
        exact k _ Same.rf
      · show E sc mX6_ahead 0 [.ref 54, .int (nI j), .int x] [] S1 Q
        have hp := h1.pg (by omega) hv hp
        have hr := h1.row (by omega) hr
        refine e_aload_n (pc := 0) (i := 0) dX6_ahead_0 rfl rfl ?_
        refine e_iload_n (pc := 1) (i := 1) dX6_ahead_1 rfl rfl ?_
        refine e_callV1 (pc := 2) (M' := mX6_isWheel) dX6_ahead_2 iX6_isWheel lkX6_144 (by decide) (rO_obj sh_54 rfl) (Nat.le_of_ble_eq_true rfl) (Nat.le_of_ble_eq_true rfl) ?_
        refine sp_isWheelY hv hp hw ?_
        refine e_if_eq (pc := 5) (tgt := 20) dX6_ahead_5 (by decide) (fun h5 => absurd h5 (by decide)) (fun h5 => ?_)
        refine e_iload_n (pc := 8) (i := 2) dX6_ahead_8 rfl rfl ?_
        refine e_i2l (pc := 9) dX6_ahead_9 ?_
        refine e_lconst' (pc := 10) (lN 0) dX6_ahead_10 (by decide) ?_
        refine e_ldc2 (pc := 11) dX6_ahead_11 (klX6_161 rfl) ?_
        refine e_callS3 (pc := 14) (M' := mX6_in) dX6_ahead_14 jX6_in lkX6_46 (by decide) (Nat.le_of_ble_eq_true rfl) (Nat.le_of_ble_eq_true rfl) ?_
        refine sp_inX (lo := 0) (hi := 1000) (by decide) (by decide) hn ?_
        refine e_if_ne (pc := 17) (tgt := 22) dX6_ahead_17 (by decide) (fun h17 => absurd (by decide) h17) (fun h17 => ?_)
        refine e_iconst' (pc := 20) (-1) dX6_ahead_20 (by decide) ?_
        refine e_iret (pc := 21) (st := []) (ty := .int) dX6_ahead_21 rfl rfl ?_
        exact k _ Same.rf
  · refine ask_both (-1) hI (fun Q k => ?_) (fun S1 h1 Q k => ?_)
    · show E sc mX5_ahead 0 [.ref 0, .int w, .int x] [] S Q
      refine e_aload_n (pc := 0) (i := 0) dX5_ahead_0 rfl rfl ?_
      refine e_getR (pc := 1) dX5_ahead_1 (fX5_10 rfl) sh_0 rfl ?_
      refine e_iload_n (pc := 4) (i := 1) dX5_ahead_4 rfl rfl ?_
      refine e_callV1 (pc := 5) (M' := mX0_has) dX5_ahead_5 iX0_has lkX5_120 (by decide) (rO_obj sh_1 rfl) (Nat.le_of_ble_eq_true rfl) (Nat.le_of_ble_eq_true rfl) ?_
      refine sp_hasX r1 hv hr hn ?_
      refine e_if_eq (pc := 8) (tgt := 22) dX5_ahead_8 (by decide) (fun h8 => ?_) (fun h8 => absurd (by decide) h8)
      refine e_iconst' (pc := 22) (-1) dX5_ahead_22 (by decide) ?_
      refine e_iret (pc := 23) (st := []) (ty := .int) dX5_ahead_23 rfl rfl ?_
      exact k _ Same.rf
    · show E sc mX6_ahead 0 [.ref 54, .int w, .int x] [] S1 Q
      have hp := h1.pg (by omega) hv hp
      have hr := h1.row (by omega) hr
      refine e_aload_n (pc := 0) (i := 0) dX6_ahead_0 rfl rfl ?_
      refine e_iload_n (pc := 1) (i := 1) dX6_ahead_1 rfl rfl ?_
      refine e_callV1 (pc := 2) (M' := mX6_isWheel) dX6_ahead_2 iX6_isWheel lkX6_144 (by decide) (rO_obj sh_54 rfl) (Nat.le_of_ble_eq_true rfl) (Nat.le_of_ble_eq_true rfl) ?_
      refine sp_isWheelX hv hp hn ?_
      refine e_if_eq (pc := 5) (tgt := 20) dX6_ahead_5 (by decide) (fun h5 => ?_) (fun h5 => absurd (by decide) h5)
      refine e_iconst' (pc := 20) (-1) dX6_ahead_20 (by decide) ?_
      refine e_iret (pc := 21) (st := []) (ty := .int) dX6_ahead_21 rfl rfl ?_
      exact k _ Same.rf
theorem lp_when {sc : PSc} {v : Nat} {R : Rw} {S0 : PS} {Q : PQ} {T : Int32} (hv : Vd R) (hb : v ≤ 248831) (k : ∀ S', Fr 6 5 S0 S' → Q (some (.int T)) S') : ∀ (n : Nat) (j : Nat) (S : PS), j ≤ 1001 → 1001 - j < n → RowAt S 6 (pn R j) → Fr 6 5 S0 S → T = ftS (fun j => decide (reads (pn R j) = v)) (1001 - j) j → E sc mX5_when 25 [.ref 0, .int (nI v), .int (nI j)] [] S Q := by
  intro n
  induction n with
  | zero => intro j S hj hn hr hf he; exact absurd hn (by omega)
  | succ n ih =>
    intro j S hj hn hr hf he
    have hb1 := reads_le (pn_vd hv j)
    have hvv := pn_vd hv j
    have h20 : pn R j 20 = R 20 := pn_keep hv (by omega) (by omega) j
    have h5 := hv.1
    refine e_iload_n (pc := 25) (i := 2) dX5_when_25 rfl rfl ?_
    refine e_sipush' (pc := 26) (nI 1000) dX5_when_26 (by decide) ?_
    refine e_icmp_gt (pc := 29) (tgt := 58) dX5_when_29 (by decide) (fun h29 => ?_) (fun h29 => ?_)
    · replace h29 := (nI_ltI (by omega) (by omega)).mp h29
      obtain rfl : j = 1001 := by omega
      refine e_bipush' (pc := 58) (-4) dX5_when_58 (by decide) ?_
      refine e_iret (pc := 60) (st := []) (ty := .int) dX5_when_60 rfl rfl ?_
      rw [he] at k; exact k S hf
    · replace h29 := mt (nI_ltI (by omega) (by omega)).mpr h29
      obtain ⟨q, hq⟩ : ∃ q, 1001 - j = q + 1 := ⟨1000 - j, by omega⟩
      rw [hq, ftS] at he
      refine e_aload_n (pc := 32) (i := 0) dX5_when_32 rfl rfl ?_
      refine e_getR (pc := 33) dX5_when_33 (fX5_16 rfl) sh_0 rfl ?_
      refine e_callV0 (pc := 36) (M' := mX0_reading) dX5_when_36 iX0_reading lkX5_107 (by decide) (rO_obj sh_6 rfl) (Nat.le_of_ble_eq_true rfl) (Nat.le_of_ble_eq_true rfl) ?_
      refine sp_reading r6 hvv hr ?_
      refine e_iload_n (pc := 39) (i := 1) dX5_when_39 rfl rfl ?_
      refine e_icmp_ne (pc := 40) (tgt := 45) dX5_when_40 (by decide) (fun h40 => ?_) (fun h40 => ?_)
      · replace h40 := mt (nI_eq (by omega) (by omega)).mpr h40
        refine e_aload_n (pc := 45) (i := 0) dX5_when_45 rfl rfl ?_
        refine e_getR (pc := 46) dX5_when_46 (fX5_16 rfl) sh_0 rfl ?_
        refine e_callV0 (pc := 49) (M' := mX0_pushOnce) dX5_when_49 iX0_pushOnce lkX5_151 (by decide) (rO_obj sh_6 rfl) (Nat.le_of_ble_eq_true rfl) (Nat.le_of_ble_eq_true rfl) ?_
        refine sp_pushOnce r6 hvv hr (fun S1 a b c => ?_)
        have ea : 1001 - (j + 1) = q := by omega
        refine e_iinc' (pc := 52) (nI (j + 1)) dX5_when_52 rfl (by decide) rfl (nI_1 _) ?_
        refine e_goto (pc := 55) (tgt := 25) dX5_when_55 (by decide) ?_
        refine ih (j + 1) S1 (by omega) (by omega) a (hf.tr c) ?_
        rw [he, ea, if_neg (by simp; omega)]
      · replace h40 := (nI_eq (by omega) (by omega)).mp h40
        refine e_iload_n (pc := 43) (i := 2) dX5_when_43 rfl rfl ?_
        refine e_iret (pc := 44) (st := []) (ty := .int) dX5_when_44 rfl rfl ?_
        rw [he] at k
        rw [if_pos (by simp; omega)] at k
        exact k S hf
theorem lp_shows {sc : PSc} {v : Nat} {R : Rw} {S0 : PS} {Q : PQ} {T : Int32} {u : Nat} (hu : u < R 20) (hv : Vd R) (hb : v ≤ 248831) (k : ∀ S', Fr 6 5 S0 S' → Q (some (.int T)) S') : ∀ (n : Nat) (j : Nat) (S : PS), j ≤ 1001 → 1001 - j < n → RowAt S 6 (pn R j) → Fr 6 5 S0 S → T = ftS (fun j => decide (pn R j (10 + u) = v)) (1001 - j) j → E sc mX5_shows 36 [.ref 0, .int (nI u), .int (nI v), .int (nI j)] [] S Q := by
  intro n
  induction n with
  | zero => intro j S hj hn hr hf he; exact absurd hn (by omega)
  | succ n ih =>
    intro j S hj hn hr hf he
    have hb1 := reads_le (pn_vd hv j)
    have hvv := pn_vd hv j
    have h20 : pn R j 20 = R 20 := pn_keep hv (by omega) (by omega) j
    have h5 := hv.1
    refine e_iload_n (pc := 36) (i := 3) dX5_shows_36 rfl rfl ?_
    refine e_sipush' (pc := 37) (nI 1000) dX5_shows_37 (by decide) ?_
    refine e_icmp_gt (pc := 40) (tgt := 71) dX5_shows_40 (by decide) (fun h40 => ?_) (fun h40 => ?_)
    · replace h40 := (nI_ltI (by omega) (by omega)).mp h40
      obtain rfl : j = 1001 := by omega
      refine e_bipush' (pc := 71) (-4) dX5_shows_71 (by decide) ?_
      refine e_iret (pc := 73) (st := []) (ty := .int) dX5_shows_73 rfl rfl ?_
      rw [he] at k; exact k S hf
    · replace h40 := mt (nI_ltI (by omega) (by omega)).mpr h40
      obtain ⟨q, hq⟩ : ∃ q, 1001 - j = q + 1 := ⟨1000 - j, by omega⟩
      rw [hq, ftS] at he
      refine e_aload_n (pc := 43) (i := 0) dX5_shows_43 rfl rfl ?_
      refine e_getR (pc := 44) dX5_shows_44 (fX5_16 rfl) sh_0 rfl ?_
      refine e_getR (pc := 47) dX5_shows_47 (fX5_144 rfl) sh_6 rfl ?_
      refine e_iload_n (pc := 50) (i := 1) dX5_shows_50 rfl rfl ?_
      refine e_iald (pc := 51) dX5_shows_51 sh_9 (vp_in_nI (by omega) (by omega)) ?_
      refine E.it (nI (pn R j (10 + u))) (by rw [nI_clamp (by omega)]; exact (hr.2.2 u (by omega)).2.2.1) ?_
      refine e_iload_n (pc := 52) (i := 2) dX5_shows_52 rfl rfl ?_
      have hdu := hvv.2 u (by omega)
      refine e_icmp_ne (pc := 53) (tgt := 58) dX5_shows_53 (by decide) (fun h53 => ?_) (fun h53 => ?_)
      · replace h53 := mt (nI_eq (by omega) (by omega)).mpr h53
        refine e_aload_n (pc := 58) (i := 0) dX5_shows_58 rfl rfl ?_
        refine e_getR (pc := 59) dX5_shows_59 (fX5_16 rfl) sh_0 rfl ?_
        refine e_callV0 (pc := 62) (M' := mX0_pushOnce) dX5_shows_62 iX0_pushOnce lkX5_151 (by decide) (rO_obj sh_6 rfl) (Nat.le_of_ble_eq_true rfl) (Nat.le_of_ble_eq_true rfl) ?_
        refine sp_pushOnce r6 hvv hr (fun S1 a b c => ?_)
        have ea : 1001 - (j + 1) = q := by omega
        refine e_iinc' (pc := 65) (nI (j + 1)) dX5_shows_65 rfl (by decide) rfl (nI_1 _) ?_
        refine e_goto (pc := 68) (tgt := 36) dX5_shows_68 (by decide) ?_
        refine ih (j + 1) S1 (by omega) (by omega) a (hf.tr c) ?_
        rw [he, ea, if_neg (by simp; omega)]
      · replace h53 := (nI_eq (by omega) (by omega)).mp h53
        refine e_iload_n (pc := 56) (i := 3) dX5_shows_56 rfl rfl ?_
        refine e_iret (pc := 57) (st := []) (ty := .int) dX5_shows_57 rfl rfl ?_
        rw [he] at k
        rw [if_pos (by simp; omega)] at k
        exact k S hf
theorem lp_again {sc : PSc} {R : Rw} {S0 : PS} {Q : PQ} {T : Int32} (hv : Vd R) (hr0 : RowAt S0 1 R) (k : ∀ S', Fr 6 5 S0 S' → Q (some (.int T)) S') : ∀ (n : Nat) (j : Nat) (S : PS), j ≤ 1000 → 1000 - j < n → RowAt S 6 (pn R j) → Fr 6 5 S0 S → T = ftS (fun j => decide (reads (pn R j) = reads R)) (1000 - j) (j + 1) → E sc mX5_again 13 [.ref 0, .int (nI (j + 1))] [] S Q := by
  intro n
  induction n with
  | zero => intro j S hj hn hr hf he; exact absurd hn (by omega)
  | succ n ih =>
    intro j S hj hn hr hf he
    have hvv := pn_vd hv (j + 1)
    have hv0 := pn_vd hv j
    have h20 : pn R (j + 1) 20 = R 20 := pn_keep hv (by omega) (by omega) (j + 1)
    have h5 := hv.1
    refine e_iload_n (pc := 13) (i := 1) dX5_again_13 rfl rfl ?_
    refine e_sipush' (pc := 14) (nI 1000) dX5_again_14 (by decide) ?_
    refine e_icmp_gt (pc := 17) (tgt := 49) dX5_again_17 (by decide) (fun h17 => ?_) (fun h17 => ?_)
    · replace h17 := (nI_ltI (by omega) (by omega)).mp h17
      obtain rfl : j = 1000 := by omega
      refine e_bipush' (pc := 49) (-4) dX5_again_49 (by decide) ?_
      refine e_iret (pc := 51) (st := []) (ty := .int) dX5_again_51 rfl rfl ?_
      rw [he] at k; exact k S hf
    · replace h17 := mt (nI_ltI (by omega) (by omega)).mpr h17
      obtain ⟨q, hq⟩ : ∃ q, 1000 - j = q + 1 := ⟨999 - j, by omega⟩
      rw [hq, ftS] at he
      refine e_aload_n (pc := 20) (i := 0) dX5_again_20 rfl rfl ?_
      refine e_getR (pc := 21) dX5_again_21 (fX5_16 rfl) sh_0 rfl ?_
      refine e_callV0 (pc := 24) (M' := mX0_pushOnce) dX5_again_24 iX0_pushOnce lkX5_151 (by decide) (rO_obj sh_6 rfl) (Nat.le_of_ble_eq_true rfl) (Nat.le_of_ble_eq_true rfl) ?_
      refine sp_pushOnce r6 hv0 hr (fun S1 a b c => ?_)
      have a : RowAt S1 6 (pn R (j + 1)) := a
      have hr1 : RowAt S1 1 R := hr0.frI (hf.tr c) r6 r1 (by omega)
      have ea : 1000 - (j + 1) = q := by omega
      refine e_aload_n (pc := 27) (i := 0) dX5_again_27 rfl rfl ?_
      refine e_getR (pc := 28) dX5_again_28 (fX5_16 rfl) sh_0 rfl ?_
      refine e_aload_n (pc := 31) (i := 0) dX5_again_31 rfl rfl ?_
      refine e_getR (pc := 32) dX5_again_32 (fX5_10 rfl) sh_0 rfl ?_
      refine e_callV1 (pc := 35) (M' := mX0_showsAs) dX5_again_35 iX0_showsAs lkX5_167 (by decide) (rO_obj sh_6 rfl) (Nat.le_of_ble_eq_true rfl) (Nat.le_of_ble_eq_true rfl) ?_
      refine sp_showsAs r6 r1 hvv a hv hr1 h20.symm (fun w hw => (pn_keep hv (by omega) (by omega) (j + 1)).symm) ?_
      refine e_if_eq (pc := 38) (tgt := 43) dX5_again_38 (by decide) (fun h38 => ?_) (fun h38 => ?_)
      · have hne : ¬ reads (pn R (j + 1)) = reads R := fun q => by rw [if_pos q] at h38; exact absurd h38 (by decide)
        refine e_iinc' (pc := 43) (nI (j + 1 + 1)) dX5_again_43 rfl (by decide) rfl (nI_1 _) ?_
        refine e_goto (pc := 46) (tgt := 13) dX5_again_46 (by decide) ?_
        refine ih (j + 1) S1 (by omega) (by omega) a (hf.tr c) ?_
        rw [he, ea, if_neg (by simp; exact hne)]
      · have heq : reads (pn R (j + 1)) = reads R := Classical.byContradiction fun q => by rw [if_neg q] at h38; exact absurd (by decide) h38
        refine e_iload_n (pc := 41) (i := 1) dX5_again_41 rfl rfl ?_
        refine e_iret (pc := 42) (st := []) (ty := .int) dX5_again_42 rfl rfl ?_
        rw [he] at k
        rw [if_pos (by simp; exact heq)] at k
        exact k S1 (hf.tr c)
theorem ftS_cong {p q : Nat → Bool} : ∀ (n j : Nat), (∀ i, j ≤ i → p i = q i) → ftS p n j = ftS q n j
  | 0, j, _ => rfl
  | n + 1, j, h => by rw [ftS, ftS, h j (Nat.le_refl j), ftS_cong n (j + 1) (fun i hi => h i (by omega))]
theorem b_when {sc : PSc} {S : PS} (hI : InvS S) (x : Int32) : Bth sc mX5_when mX6_when [.int x] S := by
  obtain ⟨R, hv, hc, hr, hp⟩ := hI.1
  have hv5 := hv.1
  rcases Classical.em (inr x 0 248831) with ⟨m, rfl, -, hm⟩ | hn
  · refine ask_both (ftS (fun j => decide (reads (pn R j) = m)) 1001 0) hI (fun Q k => ?_) (fun S1 h1 Q k => ?_)
    · show E sc mX5_when 0 [.ref 0, .int (nI m), .null] [] S Q
      refine e_iload_n (pc := 0) (i := 1) dX5_when_0 rfl rfl ?_
      refine e_iconst' (pc := 1) (nI 0) dX5_when_1 (by decide) ?_
      refine e_ldc' (pc := 2) (nI 248831) dX5_when_2 (kcX5_166 rfl) (by decide) ?_
      refine e_callS3 (pc := 4) (M' := mX5_within) dX5_when_4 jX5_within lkX5_70 (by decide) (Nat.le_of_ble_eq_true rfl) (Nat.le_of_ble_eq_true rfl) ?_
      refine sp_winY (by omega) (by omega) (by omega) ?_
      refine e_if_ne (pc := 7) (tgt := 12) dX5_when_7 (by decide) (fun h7 => ?_) (fun h7 => absurd h7 (by decide))
      refine e_aload_n (pc := 12) (i := 0) dX5_when_12 rfl rfl ?_
      refine e_getR (pc := 13) dX5_when_13 (fX5_16 rfl) sh_0 rfl ?_
      refine e_aload_n (pc := 16) (i := 0) dX5_when_16 rfl rfl ?_
      refine e_getR (pc := 17) dX5_when_17 (fX5_10 rfl) sh_0 rfl ?_
      refine e_callV1 (pc := 20) (M' := mX0_copyOf) dX5_when_20 iX0_copyOf lkX5_90 (by decide) (rO_obj sh_6 rfl) (Nat.le_of_ble_eq_true rfl) (Nat.le_of_ble_eq_true rfl) ?_
      refine sp_copyOf r6 r1 (by omega) hv hr (fun S1 ht hc0 hf => ?_)
      refine e_iconst' (pc := 23) (nI 0) dX5_when_23 (by decide) ?_
      refine e_istore_n (pc := 24) (i := 2) dX5_when_24 rfl (by decide) rfl ?_
      exact lp_when hv hm (fun S2 h2 => k S2 (hf.tr h2).same) 1002 0 S1 (by omega) (by omega) ht Fr.rf rfl
    · show E sc mX6_when 0 [.ref 54, .int (nI m)] [] S1 Q
      have hp := h1.pg (by omega) hv hp
      have hr := h1.row (by omega) hr
      refine e_iload_n (pc := 0) (i := 1) dX6_when_0 rfl rfl ?_
      refine e_callS1 (pc := 1) (M' := mX6_isReading) dX6_when_1 jX6_isReading lkX6_179 (by decide) (Nat.le_of_ble_eq_true rfl) (Nat.le_of_ble_eq_true rfl) ?_
      refine sp_isReadingY hm ?_
      refine e_if_eq (pc := 4) (tgt := 18) dX6_when_4 (by decide) (fun h4 => absurd h4 (by decide)) (fun h4 => ?_)
      refine e_aload_n (pc := 7) (i := 0) dX6_when_7 rfl rfl ?_
      refine e_bipush' (pc := 8) (-4) dX6_when_8 (by decide) ?_
      refine e_iload_n (pc := 10) (i := 1) dX6_when_10 rfl rfl ?_
      refine e_iconst' (pc := 11) (nI 0) dX6_when_11 (by decide) ?_
      refine e_callV3 (pc := 12) (M' := mX6_firstTime) dX6_when_12 iX6_firstTime lkX6_182 (by decide) (rO_obj sh_54 rfl) (Nat.le_of_ble_eq_true rfl) (Nat.le_of_ble_eq_true rfl) ?_
      refine sp_firstTimeR (fr := 0) hv hp hm (by omega) (fun S2 f => ?_)
      refine e_goto (pc := 15) (tgt := 19) dX6_when_15 (by decide) ?_
      refine e_iret (pc := 19) (st := []) (ty := .int) dX6_when_19 rfl rfl ?_
      have e := ftS_cong (p := fun j => decide (0 ≤ j) && decide (reads (pn R j) = m)) (q := fun j => decide (reads (pn R j) = m)) 1001 0 (fun i _ => by simp)
      exact qeq (k S2 f.same) e
  · refine ask_both (-1) hI (fun Q k => ?_) (fun S1 h1 Q k => ?_)
    · show E sc mX5_when 0 [.ref 0, .int x, .null] [] S Q
      refine e_iload_n (pc := 0) (i := 1) dX5_when_0 rfl rfl ?_
      refine e_iconst' (pc := 1) (nI 0) dX5_when_1 (by decide) ?_
      refine e_ldc' (pc := 2) (nI 248831) dX5_when_2 (kcX5_166 rfl) (by decide) ?_
      refine e_callS3 (pc := 4) (M' := mX5_within) dX5_when_4 jX5_within lkX5_70 (by decide) (Nat.le_of_ble_eq_true rfl) (Nat.le_of_ble_eq_true rfl) ?_
      refine sp_winX hn (by omega) (by omega) ?_
      refine e_if_ne (pc := 7) (tgt := 12) dX5_when_7 (by decide) (fun h7 => absurd (by decide) h7) (fun h7 => ?_)
      refine e_iconst' (pc := 10) (-1) dX5_when_10 (by decide) ?_
      refine e_iret (pc := 11) (st := []) (ty := .int) dX5_when_11 rfl rfl ?_
      exact k _ Same.rf
    · show E sc mX6_when 0 [.ref 54, .int x] [] S1 Q
      have hp := h1.pg (by omega) hv hp
      have hr := h1.row (by omega) hr
      refine e_iload_n (pc := 0) (i := 1) dX6_when_0 rfl rfl ?_
      refine e_callS1 (pc := 1) (M' := mX6_isReading) dX6_when_1 jX6_isReading lkX6_179 (by decide) (Nat.le_of_ble_eq_true rfl) (Nat.le_of_ble_eq_true rfl) ?_
      refine sp_isReadingX hn ?_
      refine e_if_eq (pc := 4) (tgt := 18) dX6_when_4 (by decide) (fun h4 => ?_) (fun h4 => absurd (by decide) h4)
      refine e_iconst' (pc := 18) (-1) dX6_when_18 (by decide) ?_
      refine e_iret (pc := 19) (st := []) (ty := .int) dX6_when_19 rfl rfl ?_
      exact k _ Same.rf
theorem b_shows {sc : PSc} {S : PS} (hI : InvS S) (w x : Int32) : Bth sc mX5_shows mX6_shows [.int w, .int x] S := by
  obtain ⟨R, hv, hc, hr, hp⟩ := hI.1
  have hv5 := hv.1
  rcases Classical.em (inw w (R 20)) with ⟨u, rfl, hw⟩ | hn
  · rcases Classical.em (inr x 0 11) with ⟨m, rfl, -, hm⟩ | hn
    · refine ask_both (ftS (fun j => decide (pn R j (10 + u) = m)) 1001 0) hI (fun Q k => ?_) (fun S1 h1 Q k => ?_)
      · show E sc mX5_shows 0 [.ref 0, .int (nI u), .int (nI m), .null] [] S Q
        refine e_aload_n (pc := 0) (i := 0) dX5_shows_0 rfl rfl ?_
        refine e_getR (pc := 1) dX5_shows_1 (fX5_10 rfl) sh_0 rfl ?_
        refine e_iload_n (pc := 4) (i := 1) dX5_shows_4 rfl rfl ?_
        refine e_callV1 (pc := 5) (M' := mX0_has) dX5_shows_5 iX0_has lkX5_120 (by decide) (rO_obj sh_1 rfl) (Nat.le_of_ble_eq_true rfl) (Nat.le_of_ble_eq_true rfl) ?_
        refine sp_hasY r1 hv hr hw ?_
        refine e_if_eq (pc := 8) (tgt := 21) dX5_shows_8 (by decide) (fun h8 => absurd h8 (by decide)) (fun h8 => ?_)
        refine e_iload_n (pc := 11) (i := 2) dX5_shows_11 rfl rfl ?_
        refine e_iconst' (pc := 12) (nI 0) dX5_shows_12 (by decide) ?_
        refine e_bipush' (pc := 13) (nI 11) dX5_shows_13 (by decide) ?_
        refine e_callS3 (pc := 15) (M' := mX5_within) dX5_shows_15 jX5_within lkX5_70 (by decide) (Nat.le_of_ble_eq_true rfl) (Nat.le_of_ble_eq_true rfl) ?_
        refine sp_winY (by omega) (by omega) (by omega) ?_
        refine e_if_ne (pc := 18) (tgt := 23) dX5_shows_18 (by decide) (fun h18 => ?_) (fun h18 => absurd h18 (by decide))
        refine e_aload_n (pc := 23) (i := 0) dX5_shows_23 rfl rfl ?_
        refine e_getR (pc := 24) dX5_shows_24 (fX5_16 rfl) sh_0 rfl ?_
        refine e_aload_n (pc := 27) (i := 0) dX5_shows_27 rfl rfl ?_
        refine e_getR (pc := 28) dX5_shows_28 (fX5_10 rfl) sh_0 rfl ?_
        refine e_callV1 (pc := 31) (M' := mX0_copyOf) dX5_shows_31 iX0_copyOf lkX5_90 (by decide) (rO_obj sh_6 rfl) (Nat.le_of_ble_eq_true rfl) (Nat.le_of_ble_eq_true rfl) ?_
        refine sp_copyOf r6 r1 (by omega) hv hr (fun S1 ht hc0 hf => ?_)
        refine e_iconst' (pc := 34) (nI 0) dX5_shows_34 (by decide) ?_
        refine e_istore_n (pc := 35) (i := 3) dX5_shows_35 rfl (by decide) rfl ?_
        exact lp_shows hw hv (by omega) (fun S2 h2 => k S2 (hf.tr h2).same) 1002 0 S1 (by omega) (by omega) ht Fr.rf rfl
      · show E sc mX6_shows 0 [.ref 54, .int (nI u), .int (nI m)] [] S1 Q
        have hp := h1.pg (by omega) hv hp
        have hr := h1.row (by omega) hr
        refine e_aload_n (pc := 0) (i := 0) dX6_shows_0 rfl rfl ?_
        refine e_iload_n (pc := 1) (i := 1) dX6_shows_1 rfl rfl ?_
        refine e_callV1 (pc := 2) (M' := mX6_isWheel) dX6_shows_2 iX6_isWheel lkX6_144 (by decide) (rO_obj sh_54 rfl) (Nat.le_of_ble_eq_true rfl) (Nat.le_of_ble_eq_true rfl) ?_
        refine sp_isWheelY hv hp hw ?_
        refine e_if_eq (pc := 5) (tgt := 25) dX6_shows_5 (by decide) (fun h5 => absurd h5 (by decide)) (fun h5 => ?_)
        refine e_iload_n (pc := 8) (i := 2) dX6_shows_8 rfl rfl ?_
        refine e_callS1 (pc := 9) (M' := mX6_isDigit) dX6_shows_9 jX6_isDigit lkX6_154 (by decide) (Nat.le_of_ble_eq_true rfl) (Nat.le_of_ble_eq_true rfl) ?_
        refine sp_isDigitY hm ?_
        refine e_if_eq (pc := 12) (tgt := 25) dX6_shows_12 (by decide) (fun h12 => absurd h12 (by decide)) (fun h12 => ?_)
        refine e_aload_n (pc := 15) (i := 0) dX6_shows_15 rfl rfl ?_
        refine e_iload_n (pc := 16) (i := 1) dX6_shows_16 rfl rfl ?_
        refine e_iload_n (pc := 17) (i := 2) dX6_shows_17 rfl rfl ?_
        refine e_iconst' (pc := 18) (nI 0) dX6_shows_18 (by decide) ?_
        refine e_callV3 (pc := 19) (M' := mX6_firstTime) dX6_shows_19 iX6_firstTime lkX6_182 (by decide) (rO_obj sh_54 rfl) (Nat.le_of_ble_eq_true rfl) (Nat.le_of_ble_eq_true rfl) ?_
        refine sp_firstTimeW (fr := 0) hw hv hp (by omega) (by omega) (fun S2 f => ?_)
        refine e_goto (pc := 22) (tgt := 26) dX6_shows_22 (by decide) ?_
        refine e_iret (pc := 26) (st := []) (ty := .int) dX6_shows_26 rfl rfl ?_
        have e := ftS_cong (p := fun j => decide (0 ≤ j) && decide (pn R j (10 + u) = m)) (q := fun j => decide (pn R j (10 + u) = m)) 1001 0 (fun i _ => by simp)
        exact qeq (k S2 f.same) e
    · refine ask_both (-1) hI (fun Q k => ?_) (fun S1 h1 Q k => ?_)
      · show E sc mX5_shows 0 [.ref 0, .int (nI u), .int x, .null] [] S Q
        refine e_aload_n (pc := 0) (i := 0) dX5_shows_0 rfl rfl ?_
        refine e_getR (pc := 1) dX5_shows_1 (fX5_10 rfl) sh_0 rfl ?_
        refine e_iload_n (pc := 4) (i := 1) dX5_shows_4 rfl rfl ?_
        refine e_callV1 (pc := 5) (M' := mX0_has) dX5_shows_5 iX0_has lkX5_120 (by decide) (rO_obj sh_1 rfl) (Nat.le_of_ble_eq_true rfl) (Nat.le_of_ble_eq_true rfl) ?_
        refine sp_hasY r1 hv hr hw ?_
        refine e_if_eq (pc := 8) (tgt := 21) dX5_shows_8 (by decide) (fun h8 => absurd h8 (by decide)) (fun h8 => ?_)
        refine e_iload_n (pc := 11) (i := 2) dX5_shows_11 rfl rfl ?_
        refine e_iconst' (pc := 12) (nI 0) dX5_shows_12 (by decide) ?_
        refine e_bipush' (pc := 13) (nI 11) dX5_shows_13 (by decide) ?_
        refine e_callS3 (pc := 15) (M' := mX5_within) dX5_shows_15 jX5_within lkX5_70 (by decide) (Nat.le_of_ble_eq_true rfl) (Nat.le_of_ble_eq_true rfl) ?_
        refine sp_winX hn (by omega) (by omega) ?_
        refine e_if_ne (pc := 18) (tgt := 23) dX5_shows_18 (by decide) (fun h18 => absurd (by decide) h18) (fun h18 => ?_)
        refine e_iconst' (pc := 21) (-1) dX5_shows_21 (by decide) ?_
        refine e_iret (pc := 22) (st := []) (ty := .int) dX5_shows_22 rfl rfl ?_
        exact k _ Same.rf
      · show E sc mX6_shows 0 [.ref 54, .int (nI u), .int x] [] S1 Q
        have hp := h1.pg (by omega) hv hp
        have hr := h1.row (by omega) hr
        refine e_aload_n (pc := 0) (i := 0) dX6_shows_0 rfl rfl ?_
        refine e_iload_n (pc := 1) (i := 1) dX6_shows_1 rfl rfl ?_
        refine e_callV1 (pc := 2) (M' := mX6_isWheel) dX6_shows_2 iX6_isWheel lkX6_144 (by decide) (rO_obj sh_54 rfl) (Nat.le_of_ble_eq_true rfl) (Nat.le_of_ble_eq_true rfl) ?_
        refine sp_isWheelY hv hp hw ?_
        refine e_if_eq (pc := 5) (tgt := 25) dX6_shows_5 (by decide) (fun h5 => absurd h5 (by decide)) (fun h5 => ?_)
        refine e_iload_n (pc := 8) (i := 2) dX6_shows_8 rfl rfl ?_
        refine e_callS1 (pc := 9) (M' := mX6_isDigit) dX6_shows_9 jX6_isDigit lkX6_154 (by decide) (Nat.le_of_ble_eq_true rfl) (Nat.le_of_ble_eq_true rfl) ?_
        refine sp_isDigitX hn ?_
        refine e_if_eq (pc := 12) (tgt := 25) dX6_shows_12 (by decide) (fun h12 => ?_) (fun h12 => absurd (by decide) h12)
        refine e_iconst' (pc := 25) (-1) dX6_shows_25 (by decide) ?_
        refine e_iret (pc := 26) (st := []) (ty := .int) dX6_shows_26 rfl rfl ?_
        exact k _ Same.rf
  · refine ask_both (-1) hI (fun Q k => ?_) (fun S1 h1 Q k => ?_)
    · show E sc mX5_shows 0 [.ref 0, .int w, .int x, .null] [] S Q
      refine e_aload_n (pc := 0) (i := 0) dX5_shows_0 rfl rfl ?_
      refine e_getR (pc := 1) dX5_shows_1 (fX5_10 rfl) sh_0 rfl ?_
      refine e_iload_n (pc := 4) (i := 1) dX5_shows_4 rfl rfl ?_
      refine e_callV1 (pc := 5) (M' := mX0_has) dX5_shows_5 iX0_has lkX5_120 (by decide) (rO_obj sh_1 rfl) (Nat.le_of_ble_eq_true rfl) (Nat.le_of_ble_eq_true rfl) ?_
      refine sp_hasX r1 hv hr hn ?_
      refine e_if_eq (pc := 8) (tgt := 21) dX5_shows_8 (by decide) (fun h8 => ?_) (fun h8 => absurd (by decide) h8)
      refine e_iconst' (pc := 21) (-1) dX5_shows_21 (by decide) ?_
      refine e_iret (pc := 22) (st := []) (ty := .int) dX5_shows_22 rfl rfl ?_
      exact k _ Same.rf
    · show E sc mX6_shows 0 [.ref 54, .int w, .int x] [] S1 Q
      have hp := h1.pg (by omega) hv hp
      have hr := h1.row (by omega) hr
      refine e_aload_n (pc := 0) (i := 0) dX6_shows_0 rfl rfl ?_
      refine e_iload_n (pc := 1) (i := 1) dX6_shows_1 rfl rfl ?_
      refine e_callV1 (pc := 2) (M' := mX6_isWheel) dX6_shows_2 iX6_isWheel lkX6_144 (by decide) (rO_obj sh_54 rfl) (Nat.le_of_ble_eq_true rfl) (Nat.le_of_ble_eq_true rfl) ?_
      refine sp_isWheelX hv hp hn ?_
      refine e_if_eq (pc := 5) (tgt := 25) dX6_shows_5 (by decide) (fun h5 => ?_) (fun h5 => absurd (by decide) h5)
      refine e_iconst' (pc := 25) (-1) dX6_shows_25 (by decide) ?_
      refine e_iret (pc := 26) (st := []) (ty := .int) dX6_shows_26 rfl rfl ?_
      exact k _ Same.rf
theorem b_again {sc : PSc} {S : PS} (hI : InvS S) : Bth sc mX5_again mX6_again [] S := by
  obtain ⟨R, hv, hc, hr, hp⟩ := hI.1
  have hv5 := hv.1
  refine ask_both (ftS (fun j => decide (reads (pn R j) = reads R)) 1000 1) hI (fun Q k => ?_) (fun S1 h1 Q k => ?_)
  · show E sc mX5_again 0 [.ref 0, .null] [] S Q
    refine e_aload_n (pc := 0) (i := 0) dX5_again_0 rfl rfl ?_
    refine e_getR (pc := 1) dX5_again_1 (fX5_16 rfl) sh_0 rfl ?_
    refine e_aload_n (pc := 4) (i := 0) dX5_again_4 rfl rfl ?_
    refine e_getR (pc := 5) dX5_again_5 (fX5_10 rfl) sh_0 rfl ?_
    refine e_callV1 (pc := 8) (M' := mX0_copyOf) dX5_again_8 iX0_copyOf lkX5_90 (by decide) (rO_obj sh_6 rfl) (Nat.le_of_ble_eq_true rfl) (Nat.le_of_ble_eq_true rfl) ?_
    refine sp_copyOf r6 r1 (by omega) hv hr (fun S1 ht hc0 hf => ?_)
    refine e_iconst' (pc := 11) (nI 1) dX5_again_11 (by decide) ?_
    refine e_istore_n (pc := 12) (i := 1) dX5_again_12 rfl (by decide) rfl ?_
    exact lp_again hv hr (fun S2 h2 => k S2 h2.same) 1001 0 S1 (by omega) (by omega) ht hf rfl
  · show E sc mX6_again 0 [.ref 54] [] S1 Q
    have hp := h1.pg (by omega) hv hp
    have hr := h1.row (by omega) hr
    refine e_aload_n (pc := 0) (i := 0) dX6_again_0 rfl rfl ?_
    refine e_bipush' (pc := 1) (-4) dX6_again_1 (by decide) ?_
    refine e_aload_n (pc := 3) (i := 0) dX6_again_3 rfl rfl ?_
    refine e_iconst' (pc := 4) (nI 0) dX6_again_4 (by decide) ?_
    refine e_callV1 (pc := 5) (M' := mX6_readsOn) dX6_again_5 iX6_readsOn lkX6_135 (by decide) (rO_obj sh_54 rfl) (Nat.le_of_ble_eq_true rfl) (Nat.le_of_ble_eq_true rfl) ?_
    refine sp_readsOn (p := 0) (by omega) hv hp ?_
    refine e_iconst' (pc := 8) (nI 1) dX6_again_8 (by decide) ?_
    refine e_callV3 (pc := 9) (M' := mX6_firstTime) dX6_again_9 iX6_firstTime lkX6_182 (by decide) (rO_obj sh_54 rfl) (Nat.le_of_ble_eq_true rfl) (Nat.le_of_ble_eq_true rfl) ?_
    refine sp_firstTimeR (fr := 1) hv hp (reads_le hv) (by omega) (fun S2 f => ?_)
    refine e_iret (pc := 12) (st := []) (ty := .int) dX6_again_12 rfl rfl ?_
    have e := ftS_cong (p := fun j => decide (1 ≤ j) && decide (reads (pn R j) = reads R)) (q := fun j => decide (reads (pn R j) = reads R)) 1000 1 (fun i hi => by simp [hi])
    refine qeq (k S2 f.same) ?_
    rw [← e]
    show ftS _ (1000 + 1) 0 = _
    rw [ftS, if_neg (by simp)]

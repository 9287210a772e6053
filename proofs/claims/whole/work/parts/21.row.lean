theorem has_hi {n : Nat} {w : Int32} (h5 : n ≤ 5) (z : nI n ≤ w) : nI n - nI 1 < w := by
  have e : (nI n).toInt = (n : Int) := nI_toInt (by omega)
  have e1 : (nI 1).toInt = 1 := by decide
  have z := (fa_le _ _).mp z
  rw [e] at z
  rw [fa_lt, fb_subI (by rw [e, e1]; omega) (by rw [e, e1]; omega), e, e1]
  omega
theorem has_lo {n j : Nat} (h5 : n ≤ 5) (hj : j < n) : nI j ≤ nI n - nI 1 := by
  rw [pk_sub (by omega)]
  exact nI_le (by omega) (by omega)
theorem RowAt.dig {S : PS} {i j v : Nat} {R : Rw} (h : RowAt S i R) (hv : Vd R) (hj : j < R 20) : RowAt (up2 S.1 (i + 3) (nI j).toNatClampNeg (nI v), S.2) i (rs R (10 + j) v) := by
  have h5 := hv.1
  rw [rcl hv hj]
  refine ⟨?_, ?_, fun w hw => ?_⟩
  · show up2 S.1 (i + 3) j (nI v) i 0 = _
    rw [up2_ne _ _ _ (by omega), rs_ne _ _ (by omega)]; exact h.1
  · show up2 S.1 (i + 3) j (nI v) i 1 = _
    rw [up2_ne _ _ _ (by omega), rs_ne _ _ (by omega)]; exact h.2.1
  · rw [rs_ne _ _ (by omega)] at hw
    show up2 S.1 (i + 3) j (nI v) (i + 1) w = _ ∧ up2 S.1 (i + 3) j (nI v) (i + 2) w = _ ∧ up2 S.1 (i + 3) j (nI v) (i + 3) w = _ ∧ up2 S.1 (i + 3) j (nI v) (i + 4) w = _
    rw [up2_ne _ _ _ (show i + 1 ≠ i + 3 by omega), up2_ne _ _ _ (show i + 2 ≠ i + 3 by omega), up2_ne _ _ _ (show i + 4 ≠ i + 3 by omega), up2_at, rs_ne _ _ (show w ≠ 10 + j by omega), rs_ne _ _ (show 5 + w ≠ 10 + j by omega), rs_ne _ _ (show 15 + w ≠ 10 + j by omega)]
    obtain ⟨a, b, c, d⟩ := h.2.2 w hw
    refine ⟨a, b, ?_, d⟩
    by_cases e : w = j
    · subst e; rw [rs_at]; exact if_pos rfl
    · rw [rs_ne _ _ (by omega), ← c]; exact if_neg e
theorem RowAt.car {S : PS} {i : Nat} {v : Int32} {R : Rw} (h : RowAt S i R) : RowAt (up2 S.1 i 2 v, S.2) i R := by
  refine ⟨?_, ?_, fun w hw => ?_⟩
  · show up2 S.1 i 2 v i 0 = _; rw [up2_at]; exact h.1
  · show up2 S.1 i 2 v i 1 = _; rw [up2_at]; exact h.2.1
  · show up2 S.1 i 2 v (i + 1) w = _ ∧ up2 S.1 i 2 v (i + 2) w = _ ∧ up2 S.1 i 2 v (i + 3) w = _ ∧ up2 S.1 i 2 v (i + 4) w = _
    rw [up2_ne _ _ _ (by omega), up2_ne _ _ _ (by omega), up2_ne _ _ _ (by omega), up2_ne _ _ _ (by omega)]
    exact h.2.2 w hw
theorem RowAt.cnt {S : PS} {i v : Nat} {R : Rw} (h : RowAt S i R) (hv : Vd R) : RowAt (up2 S.1 i 1 (nI v), S.2) i (rs R 21 v) := by
  have h5 := hv.1
  refine ⟨?_, ?_, fun w hw => ?_⟩
  · show up2 S.1 i 1 (nI v) i 0 = _; rw [up2_at, rs_ne _ _ (by omega)]; exact h.1
  · show up2 S.1 i 1 (nI v) i 1 = _; rw [up2_at, rs_at]; rfl
  · rw [rs_ne _ _ (by omega)] at hw
    show up2 S.1 i 1 (nI v) (i + 1) w = _ ∧ up2 S.1 i 1 (nI v) (i + 2) w = _ ∧ up2 S.1 i 1 (nI v) (i + 3) w = _ ∧ up2 S.1 i 1 (nI v) (i + 4) w = _
    rw [up2_ne _ _ _ (by omega), up2_ne _ _ _ (by omega), up2_ne _ _ _ (by omega), up2_ne _ _ _ (by omega), rs_ne _ _ (show w ≠ 21 by omega), rs_ne _ _ (show 5 + w ≠ 21 by omega), rs_ne _ _ (show 10 + w ≠ 21 by omega), rs_ne _ _ (show 15 + w ≠ 21 by omega)]
    exact h.2.2 w hw
theorem sh1 : ∀ j, j < 13 → nI 1 <<< (nI j &&& 31) = nI (2 ^ j) := by decide +kernel
theorem sp_within {sc : PSc} {S : PS} {Q : PQ} (v a b : Int32) (k1 : a ≤ v → v ≤ b → Q (some (.int (nI 1))) S) (k0 : ¬ (a ≤ v ∧ v ≤ b) → Q (some (.int (nI 0))) S) : E sc mX5_within 0 (pL0 mX5_within [.int v, .int a, .int b]) [] S Q := by
  show E sc mX5_within 0 [.int v, .int a, .int b] [] S Q
  refine e_iload_n (pc := 0) (i := 0) dX5_within_0 rfl rfl ?_
  refine e_iload_n (pc := 1) (i := 1) dX5_within_1 rfl rfl ?_
  refine e_icmp_lt (pc := 2) (tgt := 14) dX5_within_2 (by decide) (fun h2 => ?_) (fun h2 => ?_)
  · refine e_iconst' (pc := 14) (nI 0) dX5_within_14 (by decide) ?_
    refine e_iret (pc := 15) (st := []) (ty := .boolean) dX5_within_15 rfl rfl ?_
    first
      | exact k1 (Int32.not_lt.mp h2) (Int32.not_lt.mp h7)
      | exact k0 (fun q => absurd q.1 (Int32.not_le.mpr h2))
      | exact k0 (fun q => absurd q.2 (Int32.not_le.mpr h7))
  · refine e_iload_n (pc := 5) (i := 0) dX5_within_5 rfl rfl ?_
    refine e_iload_n (pc := 6) (i := 2) dX5_within_6 rfl rfl ?_
    refine e_icmp_gt (pc := 7) (tgt := 14) dX5_within_7 (by decide) (fun h7 => ?_) (fun h7 => ?_)
    · refine e_iconst' (pc := 14) (nI 0) dX5_within_14 (by decide) ?_
      refine e_iret (pc := 15) (st := []) (ty := .boolean) dX5_within_15 rfl rfl ?_
      first
        | exact k1 (Int32.not_lt.mp h2) (Int32.not_lt.mp h7)
        | exact k0 (fun q => absurd q.1 (Int32.not_le.mpr h2))
        | exact k0 (fun q => absurd q.2 (Int32.not_le.mpr h7))
    · refine e_iconst' (pc := 10) (nI 1) dX5_within_10 (by decide) ?_
      refine e_goto (pc := 11) (tgt := 15) dX5_within_11 (by decide) ?_
      refine e_iret (pc := 15) (st := []) (ty := .boolean) dX5_within_15 rfl rfl ?_
      first
        | exact k1 (Int32.not_lt.mp h2) (Int32.not_lt.mp h7)
        | exact k0 (fun q => absurd q.1 (Int32.not_le.mpr h2))
        | exact k0 (fun q => absurd q.2 (Int32.not_le.mpr h7))
theorem sp_has {sc : PSc} {i : Nat} {R : Rw} {S : PS} {Q : PQ} {w : Int32} (hi : rI i) (hv : Vd R) (hr : RowAt S i R) (k1 : ∀ j, j < R 20 → w = nI j → Q (some (.int (nI 1))) S) (k0 : (w < 0 ∨ nI (R 20) ≤ w) → Q (some (.int (nI 0))) S) : E sc mX0_has 0 (pL0 mX0_has [.ref i, .int w]) [] S Q := by
  show E sc mX0_has 0 [.ref i, .int w] [] S Q
  have h5 := hv.1
  refine e_iload_n (pc := 0) (i := 1) dX0_has_0 rfl rfl ?_
  refine e_iconst' (pc := 1) (nI 0) dX0_has_1 (by decide) ?_
  refine e_aload_n (pc := 2) (i := 0) dX0_has_2 rfl rfl ?_
  refine e_getI (pc := 3) dX0_has_3 (fX0_24 rfl) (rI_sh hi) rfl ?_
  refine E.it (nI (R 20)) hr.1 ?_
  refine e_iconst' (pc := 6) (nI 1) dX0_has_6 (by decide) ?_
  refine e_isub (pc := 7) dX0_has_7 ?_
  refine e_callS3 (pc := 8) (M' := mX5_within) dX0_has_8 jX5_within lkX0_28 (by decide) (Nat.le_of_ble_eq_true rfl) (Nat.le_of_ble_eq_true rfl) ?_
  refine sp_within _ _ _ (fun q1 q2 => ?_) (fun q => ?_)
  · have hh : nI 0 ≤ w ∧ w ≤ nI (R 20) - nI 1 := ⟨q1, q2⟩
    refine e_iret (pc := 11) (st := []) (ty := .boolean) dX0_has_11 rfl rfl ?_
    rw [nI_0] at hh
    rcases pk_ix w (show R 20 < 2 ^ 31 by omega) with z | z | ⟨j, hj, rfl⟩
    · first
        | exact k0 (Or.inl z)
        | exact absurd hh.1 (Int32.not_le.mpr z)
    · first
        | exact k0 (Or.inr z)
        | exact absurd hh.2 (Int32.not_le.mpr (has_hi h5 z))
    · first
        | exact k1 j hj rfl
        | exact absurd ⟨nI_pos' (by omega), has_lo h5 hj⟩ hh
  · have hh : ¬ (nI 0 ≤ w ∧ w ≤ nI (R 20) - nI 1) := q
    refine e_iret (pc := 11) (st := []) (ty := .boolean) dX0_has_11 rfl rfl ?_
    rw [nI_0] at hh
    rcases pk_ix w (show R 20 < 2 ^ 31 by omega) with z | z | ⟨j, hj, rfl⟩
    · first
        | exact k0 (Or.inl z)
        | exact absurd hh.1 (Int32.not_le.mpr z)
    · first
        | exact k0 (Or.inr z)
        | exact absurd hh.2 (Int32.not_le.mpr (has_hi h5 z))
    · first
        | exact k1 j hj rfl
        | exact absurd ⟨nI_pos' (by omega), has_lo h5 hj⟩ hh
theorem sp_nextDigit {sc : PSc} {i : Nat} {R : Rw} {S : PS} {Q : PQ} {w : Nat} (hi : rI i) (hv : Vd R) (hr : RowAt S i R) (hw : w < R 20) (k : Q (some (.int (nI (tn R w)))) S) : E sc mX0_nextDigit 0 (pL0 mX0_nextDigit [.ref i, .int (nI w)]) [] S Q := by
  show E sc mX0_nextDigit 0 [.ref i, .int (nI w), .null] [] S Q
  have h5 := hv.1
  obtain ⟨hk4, ht2, ht12, hdt, hbr⟩ := hv.2 w hw
  refine e_aload_n (pc := 0) (i := 0) dX0_nextDigit_0 rfl rfl ?_
  refine e_getR (pc := 1) dX0_nextDigit_1 (fX0_18 rfl) (rI_sh hi) rfl ?_
  refine e_iload_n (pc := 4) (i := 1) dX0_nextDigit_4 rfl rfl ?_
  refine e_iald (pc := 5) dX0_nextDigit_5 (rI_a3 hi) (rin hv hw) ?_
  refine E.it (nI (R (10 + w))) (rg hv hr hw) ?_
  refine e_istore_n (pc := 6) (i := 2) dX0_nextDigit_6 rfl (by decide) rfl ?_
  refine e_aload_n (pc := 7) (i := 0) dX0_nextDigit_7 rfl rfl ?_
  refine e_getR (pc := 8) dX0_nextDigit_8 (fX0_9 rfl) (rI_sh hi) rfl ?_
  refine e_iload_n (pc := 11) (i := 1) dX0_nextDigit_11 rfl rfl ?_
  refine e_iald (pc := 12) dX0_nextDigit_12 (rI_a1 hi) (rin hv hw) ?_
  refine E.it (nI (R (w))) (rk hv hr hw) ?_
  rcases (show R w = 0 ∨ R w = 1 ∨ R w = 2 ∨ R w = 3 by omega) with hk | hk | hk | hk
  · rw [hk]
    refine e_lookup (pc := 13) (tgt := 40) dX0_nextDigit_13 (by decide) (by decide) ?_
    refine e_iload_n (pc := 40) (i := 2) dX0_nextDigit_40 rfl rfl ?_
    refine e_iconst' (pc := 41) (nI 1) dX0_nextDigit_41 (by decide) ?_
    refine e_iadd (pc := 42) dX0_nextDigit_42 ?_
    refine E.it (nI (R (10 + w) + 1)) (nI_add _ _) ?_
    refine e_aload_n (pc := 43) (i := 0) dX0_nextDigit_43 rfl rfl ?_
    refine e_getR (pc := 44) dX0_nextDigit_44 (fX0_15 rfl) (rI_sh hi) rfl ?_
    refine e_iload_n (pc := 47) (i := 1) dX0_nextDigit_47 rfl rfl ?_
    refine e_iald (pc := 48) dX0_nextDigit_48 (rI_a2 hi) (rin hv hw) ?_
    refine E.it (nI (R (5 + w))) (rt hv hr hw) ?_
    refine e_icmp_ge (pc := 49) (tgt := 58) dX0_nextDigit_49 (by decide) (fun h49 => ?_) (fun h49 => ?_)
    · replace h49 := (nI_leI (by omega) (by omega)).mp h49
      refine e_iconst' (pc := 58) (nI 0) dX0_nextDigit_58 (by decide) ?_
      refine e_iret (pc := 59) (st := []) (ty := .int) dX0_nextDigit_59 rfl rfl ?_
      first
        | exact qeq k (by rw [tn0 hk, Nat.mod_eq_of_lt (by omega)])
        | exact qeq k (by rw [tn0 hk, show R (10 + w) + 1 = R (5 + w) by omega, Nat.mod_self])
    · replace h49 := mt (nI_leI (by omega) (by omega)).mpr h49
      refine e_iload_n (pc := 52) (i := 2) dX0_nextDigit_52 rfl rfl ?_
      refine e_iconst' (pc := 53) (nI 1) dX0_nextDigit_53 (by decide) ?_
      refine e_iadd (pc := 54) dX0_nextDigit_54 ?_
      refine E.it (nI (R (10 + w) + 1)) (nI_add _ _) ?_
      refine e_goto (pc := 55) (tgt := 59) dX0_nextDigit_55 (by decide) ?_
      refine e_iret (pc := 59) (st := []) (ty := .int) dX0_nextDigit_59 rfl rfl ?_
      first
        | exact qeq k (by rw [tn0 hk, Nat.mod_eq_of_lt (by omega)])
        | exact qeq k (by rw [tn0 hk, show R (10 + w) + 1 = R (5 + w) by omega, Nat.mod_self])
  · rw [hk]
    refine e_lookup (pc := 13) (tgt := 60) dX0_nextDigit_13 (by decide) (by decide) ?_
    refine e_iload_n (pc := 60) (i := 2) dX0_nextDigit_60 rfl rfl ?_
    refine e_iconst' (pc := 61) (nI 2) dX0_nextDigit_61 (by decide) ?_
    refine e_iadd (pc := 62) dX0_nextDigit_62 ?_
    refine E.it (nI (R (10 + w) + 2)) (nI_add _ _) ?_
    refine e_aload_n (pc := 63) (i := 0) dX0_nextDigit_63 rfl rfl ?_
    refine e_getR (pc := 64) dX0_nextDigit_64 (fX0_15 rfl) (rI_sh hi) rfl ?_
    refine e_iload_n (pc := 67) (i := 1) dX0_nextDigit_67 rfl rfl ?_
    refine e_iald (pc := 68) dX0_nextDigit_68 (rI_a2 hi) (rin hv hw) ?_
    refine E.it (nI (R (5 + w))) (rt hv hr hw) ?_
    refine e_icmp_ge (pc := 69) (tgt := 78) dX0_nextDigit_69 (by decide) (fun h69 => ?_) (fun h69 => ?_)
    · replace h69 := (nI_leI (by omega) (by omega)).mp h69
      refine e_iload_n (pc := 78) (i := 2) dX0_nextDigit_78 rfl rfl ?_
      refine e_iconst' (pc := 79) (nI 2) dX0_nextDigit_79 (by decide) ?_
      refine e_iadd (pc := 80) dX0_nextDigit_80 ?_
      refine E.it (nI (R (10 + w) + 2)) (nI_add _ _) ?_
      refine e_aload_n (pc := 81) (i := 0) dX0_nextDigit_81 rfl rfl ?_
      refine e_getR (pc := 82) dX0_nextDigit_82 (fX0_15 rfl) (rI_sh hi) rfl ?_
      refine e_iload_n (pc := 85) (i := 1) dX0_nextDigit_85 rfl rfl ?_
      refine e_iald (pc := 86) dX0_nextDigit_86 (rI_a2 hi) (rin hv hw) ?_
      refine E.it (nI (R (5 + w))) (rt hv hr hw) ?_
      refine e_isub (pc := 87) dX0_nextDigit_87 ?_
      refine E.it (nI (R (10 + w) + 2 - R (5 + w))) (pk_sub (by omega)) ?_
      refine e_iret (pc := 88) (st := []) (ty := .int) dX0_nextDigit_88 rfl rfl ?_
      first
        | exact qeq k (by rw [tn1 hk, Nat.mod_eq_of_lt (by omega)])
        | exact qeq k (by rw [tn1 hk, Nat.mod_eq_sub_mod (by omega), Nat.mod_eq_of_lt (by omega)])
    · replace h69 := mt (nI_leI (by omega) (by omega)).mpr h69
      refine e_iload_n (pc := 72) (i := 2) dX0_nextDigit_72 rfl rfl ?_
      refine e_iconst' (pc := 73) (nI 2) dX0_nextDigit_73 (by decide) ?_
      refine e_iadd (pc := 74) dX0_nextDigit_74 ?_
      refine E.it (nI (R (10 + w) + 2)) (nI_add _ _) ?_
      refine e_goto (pc := 75) (tgt := 88) dX0_nextDigit_75 (by decide) ?_
      refine e_iret (pc := 88) (st := []) (ty := .int) dX0_nextDigit_88 rfl rfl ?_
      first
        | exact qeq k (by rw [tn1 hk, Nat.mod_eq_of_lt (by omega)])
        | exact qeq k (by rw [tn1 hk, Nat.mod_eq_sub_mod (by omega), Nat.mod_eq_of_lt (by omega)])
  · rw [hk]
    refine e_lookup (pc := 13) (tgt := 89) dX0_nextDigit_13 (by decide) (by decide) ?_
    refine e_iload_n (pc := 89) (i := 2) dX0_nextDigit_89 rfl rfl ?_
    refine e_if_le (pc := 90) (tgt := 99) dX0_nextDigit_90 (by decide) (fun h90 => ?_) (fun h90 => ?_)
    · rw [← nI_0] at h90
      replace h90 := (nI_leI (by omega) (by omega)).mp h90
      refine e_aload_n (pc := 99) (i := 0) dX0_nextDigit_99 rfl rfl ?_
      refine e_getR (pc := 100) dX0_nextDigit_100 (fX0_15 rfl) (rI_sh hi) rfl ?_
      refine e_iload_n (pc := 103) (i := 1) dX0_nextDigit_103 rfl rfl ?_
      refine e_iald (pc := 104) dX0_nextDigit_104 (rI_a2 hi) (rin hv hw) ?_
      refine E.it (nI (R (5 + w))) (rt hv hr hw) ?_
      refine e_iconst' (pc := 105) (nI 1) dX0_nextDigit_105 (by decide) ?_
      refine e_isub (pc := 106) dX0_nextDigit_106 ?_
      refine E.it (nI (R (5 + w) - 1)) (pk_sub (by omega)) ?_
      refine e_iret (pc := 107) (st := []) (ty := .int) dX0_nextDigit_107 rfl rfl ?_
      first
        | exact qeq k (by rw [tn2 (by omega), show R (10 + w) + (R (5 + w) - 1) = (R (10 + w) - 1) + R (5 + w) by omega, Nat.add_mod_right, Nat.mod_eq_of_lt (by omega)])
        | exact qeq k (by rw [tn2 (by omega), Nat.mod_eq_of_lt (by omega), show R (10 + w) = 0 by omega, Nat.zero_add])
    · rw [← nI_0] at h90
      replace h90 := mt (nI_leI (by omega) (by omega)).mpr h90
      refine e_iload_n (pc := 93) (i := 2) dX0_nextDigit_93 rfl rfl ?_
      refine e_iconst' (pc := 94) (nI 1) dX0_nextDigit_94 (by decide) ?_
      refine e_isub (pc := 95) dX0_nextDigit_95 ?_
      refine E.it (nI (R (10 + w) - 1)) (pk_sub (by omega)) ?_
      refine e_goto (pc := 96) (tgt := 107) dX0_nextDigit_96 (by decide) ?_
      refine e_iret (pc := 107) (st := []) (ty := .int) dX0_nextDigit_107 rfl rfl ?_
      first
        | exact qeq k (by rw [tn2 (by omega), show R (10 + w) + (R (5 + w) - 1) = (R (10 + w) - 1) + R (5 + w) by omega, Nat.add_mod_right, Nat.mod_eq_of_lt (by omega)])
        | exact qeq k (by rw [tn2 (by omega), Nat.mod_eq_of_lt (by omega), show R (10 + w) = 0 by omega, Nat.zero_add])
  · rw [hk]
    refine e_lookup (pc := 13) (tgt := 89) dX0_nextDigit_13 (by decide) (by decide) ?_
    refine e_iload_n (pc := 89) (i := 2) dX0_nextDigit_89 rfl rfl ?_
    refine e_if_le (pc := 90) (tgt := 99) dX0_nextDigit_90 (by decide) (fun h90 => ?_) (fun h90 => ?_)
    · rw [← nI_0] at h90
      replace h90 := (nI_leI (by omega) (by omega)).mp h90
      refine e_aload_n (pc := 99) (i := 0) dX0_nextDigit_99 rfl rfl ?_
      refine e_getR (pc := 100) dX0_nextDigit_100 (fX0_15 rfl) (rI_sh hi) rfl ?_
      refine e_iload_n (pc := 103) (i := 1) dX0_nextDigit_103 rfl rfl ?_
      refine e_iald (pc := 104) dX0_nextDigit_104 (rI_a2 hi) (rin hv hw) ?_
      refine E.it (nI (R (5 + w))) (rt hv hr hw) ?_
      refine e_iconst' (pc := 105) (nI 1) dX0_nextDigit_105 (by decide) ?_
      refine e_isub (pc := 106) dX0_nextDigit_106 ?_
      refine E.it (nI (R (5 + w) - 1)) (pk_sub (by omega)) ?_
      refine e_iret (pc := 107) (st := []) (ty := .int) dX0_nextDigit_107 rfl rfl ?_
      first
        | exact qeq k (by rw [tn2 (by omega), show R (10 + w) + (R (5 + w) - 1) = (R (10 + w) - 1) + R (5 + w) by omega, Nat.add_mod_right, Nat.mod_eq_of_lt (by omega)])
        | exact qeq k (by rw [tn2 (by omega), Nat.mod_eq_of_lt (by omega), show R (10 + w) = 0 by omega, Nat.zero_add])
    · rw [← nI_0] at h90
      replace h90 := mt (nI_leI (by omega) (by omega)).mpr h90
      refine e_iload_n (pc := 93) (i := 2) dX0_nextDigit_93 rfl rfl ?_
      refine e_iconst' (pc := 94) (nI 1) dX0_nextDigit_94 (by decide) ?_
      refine e_isub (pc := 95) dX0_nextDigit_95 ?_
      refine E.it (nI (R (10 + w) - 1)) (pk_sub (by omega)) ?_
      refine e_goto (pc := 96) (tgt := 107) dX0_nextDigit_96 (by decide) ?_
      refine e_iret (pc := 107) (st := []) (ty := .int) dX0_nextDigit_107 rfl rfl ?_
      first
        | exact qeq k (by rw [tn2 (by omega), show R (10 + w) + (R (5 + w) - 1) = (R (10 + w) - 1) + R (5 + w) by omega, Nat.add_mod_right, Nat.mod_eq_of_lt (by omega)])
        | exact qeq k (by rw [tn2 (by omega), Nat.mod_eq_of_lt (by omega), show R (10 + w) = 0 by omega, Nat.zero_add])
theorem sp_wouldCarry {sc : PSc} {i : Nat} {R : Rw} {S : PS} {Q : PQ} {w : Nat} (hi : rI i) (hv : Vd R) (hr : RowAt S i R) (hw : w < R 20) (k : Q (some (.int (nI (if cy R w then 1 else 0)))) S) : E sc mX0_wouldCarry 0 (pL0 mX0_wouldCarry [.ref i, .int (nI w)]) [] S Q := by
  show E sc mX0_wouldCarry 0 [.ref i, .int (nI w), .null] [] S Q
  have h5 := hv.1
  obtain ⟨hk4, ht2, ht12, hdt, hbr⟩ := hv.2 w hw
  refine e_aload_n (pc := 0) (i := 0) dX0_wouldCarry_0 rfl rfl ?_
  refine e_getR (pc := 1) dX0_wouldCarry_1 (fX0_18 rfl) (rI_sh hi) rfl ?_
  refine e_iload_n (pc := 4) (i := 1) dX0_wouldCarry_4 rfl rfl ?_
  refine e_iald (pc := 5) dX0_wouldCarry_5 (rI_a3 hi) (rin hv hw) ?_
  refine E.it (nI (R (10 + w))) (rg hv hr hw) ?_
  refine e_istore_n (pc := 6) (i := 2) dX0_wouldCarry_6 rfl (by decide) rfl ?_
  refine e_iload_n (pc := 7) (i := 2) dX0_wouldCarry_7 rfl rfl ?_
  refine e_aload_n (pc := 8) (i := 0) dX0_wouldCarry_8 rfl rfl ?_
  refine e_getR (pc := 9) dX0_wouldCarry_9 (fX0_21 rfl) (rI_sh hi) rfl ?_
  refine e_iload_n (pc := 12) (i := 1) dX0_wouldCarry_12 rfl rfl ?_
  refine e_iald (pc := 13) dX0_wouldCarry_13 (rI_a4 hi) (rin hv hw) ?_
  refine E.it (nI (R (15 + w))) (rb hv hr hw) ?_
  refine e_icmp_ne (pc := 14) (tgt := 19) dX0_wouldCarry_14 (by decide) (fun h14 => ?_) (fun h14 => ?_)
  · replace h14 := mt (nI_eq (by omega) (by omega)).mpr h14
    refine e_aload_n (pc := 19) (i := 0) dX0_wouldCarry_19 rfl rfl ?_
    refine e_getR (pc := 20) dX0_wouldCarry_20 (fX0_9 rfl) (rI_sh hi) rfl ?_
    refine e_iload_n (pc := 23) (i := 1) dX0_wouldCarry_23 rfl rfl ?_
    refine e_iald (pc := 24) dX0_wouldCarry_24 (rI_a1 hi) (rin hv hw) ?_
    refine E.it (nI (R (w))) (rk hv hr hw) ?_
    rcases (show R w = 0 ∨ R w = 1 ∨ R w = 2 ∨ R w = 3 by omega) with hk | hk | hk | hk
    · rw [hk]
      refine e_lookup (pc := 25) (tgt := 80) dX0_wouldCarry_25 (by decide) (by decide) ?_
      refine e_iload_n (pc := 80) (i := 2) dX0_wouldCarry_80 rfl rfl ?_
      refine e_aload_n (pc := 81) (i := 0) dX0_wouldCarry_81 rfl rfl ?_
      refine e_getR (pc := 82) dX0_wouldCarry_82 (fX0_15 rfl) (rI_sh hi) rfl ?_
      refine e_iload_n (pc := 85) (i := 1) dX0_wouldCarry_85 rfl rfl ?_
      refine e_iald (pc := 86) dX0_wouldCarry_86 (rI_a2 hi) (rin hv hw) ?_
      refine E.it (nI (R (5 + w))) (rt hv hr hw) ?_
      refine e_iconst' (pc := 87) (nI 1) dX0_wouldCarry_87 (by decide) ?_
      refine e_isub (pc := 88) dX0_wouldCarry_88 ?_
      refine E.it (nI (R (5 + w) - 1)) (pk_sub (by omega)) ?_
      refine e_icmp_ne (pc := 89) (tgt := 96) dX0_wouldCarry_89 (by decide) (fun h89 => ?_) (fun h89 => ?_)
      · replace h89 := mt (nI_eq (by omega) (by omega)).mpr h89
        refine e_iconst' (pc := 96) (nI 0) dX0_wouldCarry_96 (by decide) ?_
        refine e_iret (pc := 97) (st := []) (ty := .boolean) dX0_wouldCarry_97 rfl rfl ?_
        first
          | exact qeq k (by rw [if_pos (show cy R w = true by simp [cy, hk]; omega)])
          | exact qeq k (by rw [if_neg (show ¬ cy R w = true by simp [cy, hk]; omega)])
      · replace h89 := (nI_eq (by omega) (by omega)).mp h89
        refine e_iconst' (pc := 92) (nI 1) dX0_wouldCarry_92 (by decide) ?_
        refine e_goto (pc := 93) (tgt := 97) dX0_wouldCarry_93 (by decide) ?_
        refine e_iret (pc := 97) (st := []) (ty := .boolean) dX0_wouldCarry_97 rfl rfl ?_
        first
          | exact qeq k (by rw [if_pos (show cy R w = true by simp [cy, hk]; omega)])
          | exact qeq k (by rw [if_neg (show ¬ cy R w = true by simp [cy, hk]; omega)])
    · rw [hk]
      refine e_lookup (pc := 25) (tgt := 52) dX0_wouldCarry_25 (by decide) (by decide) ?_
      refine e_iload_n (pc := 52) (i := 2) dX0_wouldCarry_52 rfl rfl ?_
      refine e_aload_n (pc := 53) (i := 0) dX0_wouldCarry_53 rfl rfl ?_
      refine e_getR (pc := 54) dX0_wouldCarry_54 (fX0_15 rfl) (rI_sh hi) rfl ?_
      refine e_iload_n (pc := 57) (i := 1) dX0_wouldCarry_57 rfl rfl ?_
      refine e_iald (pc := 58) dX0_wouldCarry_58 (rI_a2 hi) (rin hv hw) ?_
      refine E.it (nI (R (5 + w))) (rt hv hr hw) ?_
      refine e_iconst' (pc := 59) (nI 2) dX0_wouldCarry_59 (by decide) ?_
      refine e_isub (pc := 60) dX0_wouldCarry_60 ?_
      refine E.it (nI (R (5 + w) - 2)) (pk_sub (by omega)) ?_
      refine e_icmp_lt (pc := 61) (tgt := 68) dX0_wouldCarry_61 (by decide) (fun h61 => ?_) (fun h61 => ?_)
      · replace h61 := (nI_ltI (by omega) (by omega)).mp h61
        refine e_iconst' (pc := 68) (nI 0) dX0_wouldCarry_68 (by decide) ?_
        refine e_iret (pc := 69) (st := []) (ty := .boolean) dX0_wouldCarry_69 rfl rfl ?_
        first
          | exact qeq k (by rw [if_pos (show cy R w = true by simp [cy, hk]; omega)])
          | exact qeq k (by rw [if_neg (show ¬ cy R w = true by simp [cy, hk]; omega)])
      · replace h61 := mt (nI_ltI (by omega) (by omega)).mpr h61
        refine e_iconst' (pc := 64) (nI 1) dX0_wouldCarry_64 (by decide) ?_
        refine e_goto (pc := 65) (tgt := 69) dX0_wouldCarry_65 (by decide) ?_
        refine e_iret (pc := 69) (st := []) (ty := .boolean) dX0_wouldCarry_69 rfl rfl ?_
        first
          | exact qeq k (by rw [if_pos (show cy R w = true by simp [cy, hk]; omega)])
          | exact qeq k (by rw [if_neg (show ¬ cy R w = true by simp [cy, hk]; omega)])
    · rw [hk]
      refine e_lookup (pc := 25) (tgt := 70) dX0_wouldCarry_25 (by decide) (by decide) ?_
      refine e_iload_n (pc := 70) (i := 2) dX0_wouldCarry_70 rfl rfl ?_
      refine e_if_ne (pc := 71) (tgt := 78) dX0_wouldCarry_71 (by decide) (fun h71 => ?_) (fun h71 => ?_)
      · rw [← nI_0] at h71
        replace h71 := mt (nI_eq (by omega) (by omega)).mpr h71
        refine e_iconst' (pc := 78) (nI 0) dX0_wouldCarry_78 (by decide) ?_
        refine e_iret (pc := 79) (st := []) (ty := .boolean) dX0_wouldCarry_79 rfl rfl ?_
        first
          | exact qeq k (by rw [if_pos (show cy R w = true by simp [cy, hk]; omega)])
          | exact qeq k (by rw [if_neg (show ¬ cy R w = true by simp [cy, hk]; omega)])
      · rw [← nI_0] at h71
        replace h71 := (nI_eq (by omega) (by omega)).mp h71
        refine e_iconst' (pc := 74) (nI 1) dX0_wouldCarry_74 (by decide) ?_
        refine e_goto (pc := 75) (tgt := 79) dX0_wouldCarry_75 (by decide) ?_
        refine e_iret (pc := 79) (st := []) (ty := .boolean) dX0_wouldCarry_79 rfl rfl ?_
        first
          | exact qeq k (by rw [if_pos (show cy R w = true by simp [cy, hk]; omega)])
          | exact qeq k (by rw [if_neg (show ¬ cy R w = true by simp [cy, hk]; omega)])
    · rw [hk]
      refine e_lookup (pc := 25) (tgt := 80) dX0_wouldCarry_25 (by decide) (by decide) ?_
      refine e_iload_n (pc := 80) (i := 2) dX0_wouldCarry_80 rfl rfl ?_
      refine e_aload_n (pc := 81) (i := 0) dX0_wouldCarry_81 rfl rfl ?_
      refine e_getR (pc := 82) dX0_wouldCarry_82 (fX0_15 rfl) (rI_sh hi) rfl ?_
      refine e_iload_n (pc := 85) (i := 1) dX0_wouldCarry_85 rfl rfl ?_
      refine e_iald (pc := 86) dX0_wouldCarry_86 (rI_a2 hi) (rin hv hw) ?_
      refine E.it (nI (R (5 + w))) (rt hv hr hw) ?_
      refine e_iconst' (pc := 87) (nI 1) dX0_wouldCarry_87 (by decide) ?_
      refine e_isub (pc := 88) dX0_wouldCarry_88 ?_
      refine E.it (nI (R (5 + w) - 1)) (pk_sub (by omega)) ?_
      refine e_icmp_ne (pc := 89) (tgt := 96) dX0_wouldCarry_89 (by decide) (fun h89 => ?_) (fun h89 => ?_)
      · replace h89 := mt (nI_eq (by omega) (by omega)).mpr h89
        refine e_iconst' (pc := 96) (nI 0) dX0_wouldCarry_96 (by decide) ?_
        refine e_iret (pc := 97) (st := []) (ty := .boolean) dX0_wouldCarry_97 rfl rfl ?_
        first
          | exact qeq k (by rw [if_pos (show cy R w = true by simp [cy, hk]; omega)])
          | exact qeq k (by rw [if_neg (show ¬ cy R w = true by simp [cy, hk]; omega)])
      · replace h89 := (nI_eq (by omega) (by omega)).mp h89
        refine e_iconst' (pc := 92) (nI 1) dX0_wouldCarry_92 (by decide) ?_
        refine e_goto (pc := 93) (tgt := 97) dX0_wouldCarry_93 (by decide) ?_
        refine e_iret (pc := 97) (st := []) (ty := .boolean) dX0_wouldCarry_97 rfl rfl ?_
        first
          | exact qeq k (by rw [if_pos (show cy R w = true by simp [cy, hk]; omega)])
          | exact qeq k (by rw [if_neg (show ¬ cy R w = true by simp [cy, hk]; omega)])
  · replace h14 := (nI_eq (by omega) (by omega)).mp h14
    refine e_iconst' (pc := 17) (nI 0) dX0_wouldCarry_17 (by decide) ?_
    refine e_iret (pc := 18) (st := []) (ty := .boolean) dX0_wouldCarry_18 rfl rfl ?_
    exact qeq k (by rw [if_neg (show ¬ cy R w = true by simp [cy, h14])])

theorem lp_turnFrom {sc : PSc} {i : Nat} {x : Int32} {Q : PQ} (hi : rI i) : ∀ (n j : Nat) (R : Rw) (S : PS), Vd R → RowAt S i R → j ≤ 5 → R 20 ≤ j + n → (∀ S', RowAt S' i (tf n R j).1 → S'.1 i 2 = S.1 i 2 + nI (tf n R j).2 → Fr i 5 S S' → Q none S') → E sc mX0_turnFrom 4 [.ref i, .int x, .int (nI 1), .int (nI j)] [] S Q := by
  intro n
  induction n with
  | zero =>
    intro j R S hv hr hj5 hn k
    have h5 := hv.1
    refine e_iload_n (pc := 4) (i := 2) dX0_turnFrom_4 rfl rfl ?_
    refine e_if_eq (pc := 5) (tgt := 53) dX0_turnFrom_5 (by decide) (fun h5 => absurd h5 (by decide)) (fun h5 => ?_)
    refine e_iload_n (pc := 8) (i := 3) dX0_turnFrom_8 rfl rfl ?_
    refine e_aload_n (pc := 9) (i := 0) dX0_turnFrom_9 rfl rfl ?_
    refine e_getI (pc := 10) dX0_turnFrom_10 (fX0_24 rfl) (rI_sh hi) rfl ?_
    refine E.it (nI (R 20)) hr.1 ?_
    refine e_icmp_ge (pc := 13) (tgt := 53) dX0_turnFrom_13 (by decide) (fun h13 => ?_) (fun h13 => absurd (nI_le (by omega) (by omega)) h13)
    replace h13 := (nI_leI (by omega) (by omega)).mp h13
    refine e_vret (pc := 53) (st := []) dX0_turnFrom_53 rfl ?_
    exact k S hr (by show S.1 i 2 = S.1 i 2 + nI 0; rw [nI_0, Int32.add_zero]) Fr.rf
  | succ n ih =>
    intro j R S hv hr hj5 hn k
    have h5' := hv.1
    refine e_iload_n (pc := 4) (i := 2) dX0_turnFrom_4 rfl rfl ?_
    refine e_if_eq (pc := 5) (tgt := 53) dX0_turnFrom_5 (by decide) (fun h5 => absurd h5 (by decide)) (fun h5 => ?_)
    refine e_iload_n (pc := 8) (i := 3) dX0_turnFrom_8 rfl rfl ?_
    refine e_aload_n (pc := 9) (i := 0) dX0_turnFrom_9 rfl rfl ?_
    refine e_getI (pc := 10) dX0_turnFrom_10 (fX0_24 rfl) (rI_sh hi) rfl ?_
    refine E.it (nI (R 20)) hr.1 ?_
    refine e_icmp_ge (pc := 13) (tgt := 53) dX0_turnFrom_13 (by decide) (fun h13 => ?_) (fun h13 => ?_)
    · replace h13 := (nI_leI (by omega) (by omega)).mp h13
      refine e_vret (pc := 53) (st := []) dX0_turnFrom_53 rfl ?_
      exact k S (by rw [tf, if_neg (by omega)]; exact hr) (by rw [tf, if_neg (by omega)]; show S.1 i 2 = S.1 i 2 + nI 0; rw [nI_0, Int32.add_zero]) Fr.rf
    · replace h13 := mt (nI_leI (by omega) (by omega)).mpr h13
      have hw : j < R 20 := by omega
      have ⟨hk4, ht2, ht12, hdt, hbr⟩ := hv.2 j hw
      have hd : tn R j < R (5 + j) := tn_lt (by omega)
      have hvd := rs_vd hv hw hd
      have hro := hr.dig (v := tn R j) hv hw
      refine e_aload_n (pc := 16) (i := 0) dX0_turnFrom_16 rfl rfl ?_
      refine e_iload_n (pc := 17) (i := 3) dX0_turnFrom_17 rfl rfl ?_
      refine e_callV1 (pc := 18) (M' := mX0_wouldCarry) dX0_turnFrom_18 iX0_wouldCarry lkX0_61 (by decide) (rI_r hi) (Nat.le_of_ble_eq_true rfl) (Nat.le_of_ble_eq_true rfl) ?_
      refine sp_wouldCarry hi hv hr hw ?_
      refine e_istore_n (pc := 21) (i := 2) dX0_turnFrom_21 rfl (by decide) rfl ?_
      refine e_aload_n (pc := 22) (i := 0) dX0_turnFrom_22 rfl rfl ?_
      refine e_getR (pc := 23) dX0_turnFrom_23 (fX0_18 rfl) (rI_sh hi) rfl ?_
      refine e_iload_n (pc := 26) (i := 3) dX0_turnFrom_26 rfl rfl ?_
      refine e_aload_n (pc := 27) (i := 0) dX0_turnFrom_27 rfl rfl ?_
      refine e_iload_n (pc := 28) (i := 3) dX0_turnFrom_28 rfl rfl ?_
      refine e_callV1 (pc := 29) (M' := mX0_nextDigit) dX0_turnFrom_29 iX0_nextDigit lkX0_64 (by decide) (rI_r hi) (Nat.le_of_ble_eq_true rfl) (Nat.le_of_ble_eq_true rfl) ?_
      refine sp_nextDigit hi hv hr hw ?_
      refine e_iast (pc := 32) dX0_turnFrom_32 (rI_a3 hi) (rin hv hw) ?_
      cases hc : cy R j with
      | false =>
        refine e_iload_n (pc := 33) (i := 2) dX0_turnFrom_33 rfl rfl ?_
        refine e_if_eq (pc := 34) (tgt := 47) dX0_turnFrom_34 (by decide) (fun h34 => ?_) (fun h34 => absurd (by decide) h34)
        refine e_iinc' (pc := 47) (nI (j + 1)) dX0_turnFrom_47 rfl (by decide) rfl (nI_1 _) ?_
        refine e_goto (pc := 50) (tgt := 4) dX0_turnFrom_50 (by decide) ?_
        refine e_iload_n (pc := 4) (i := 2) dX0_turnFrom_4 rfl rfl ?_
        refine e_if_eq (pc := 5) (tgt := 53) dX0_turnFrom_5 (by decide) (fun h5 => ?_) (fun h5 => absurd (by decide) h5)
        refine e_vret (pc := 53) (st := []) dX0_turnFrom_53 rfl ?_
        refine k (up2 S.1 (i + 3) (nI j).toNatClampNeg (nI (tn R j)), S.2) (by rw [tf, if_pos hw, if_neg (by rw [hc]; decide)]; exact hro) ?_ (Fr.rf.up (by omega) (by omega))
        rw [tf, if_pos hw, if_neg (by rw [hc]; decide)]
        show up2 S.1 (i + 3) (nI j).toNatClampNeg (nI (tn R j)) i 2 = S.1 i 2 + nI 0
        rw [up2_ne _ _ _ (by omega), nI_0, Int32.add_zero]
      | true =>
        refine e_iload_n (pc := 33) (i := 2) dX0_turnFrom_33 rfl rfl ?_
        refine e_if_eq (pc := 34) (tgt := 47) dX0_turnFrom_34 (by decide) (fun h34 => absurd h34 (by decide)) (fun h34 => ?_)
        refine e_aload_n (pc := 37) (i := 0) dX0_turnFrom_37 rfl rfl ?_
        refine e_dup (pc := 38) dX0_turnFrom_38 rfl ?_
        refine e_getI (pc := 39) dX0_turnFrom_39 (fX0_54 rfl) (rI_sh hi) rfl ?_
        refine e_iconst' (pc := 42) (nI 1) dX0_turnFrom_42 (by decide) ?_
        refine e_iadd (pc := 43) dX0_turnFrom_43 ?_
        refine e_putI (pc := 44) dX0_turnFrom_44 (pX0_54 rfl) (rI_sh hi) rfl (fun h => by cases h) ?_
        refine e_iinc' (pc := 47) (nI (j + 1)) dX0_turnFrom_47 rfl (by decide) rfl (nI_1 _) ?_
        refine e_goto (pc := 50) (tgt := 4) dX0_turnFrom_50 (by decide) ?_
        refine ih (j + 1) (rs R (10 + j) (tn R j)) _ hvd hro.car (by omega) (by rw [rs_ne _ _ (by omega)]; omega) (fun S' a b c => k S' ?_ ?_ ?_)
        · rw [tf, if_pos hw, if_pos hc]; exact a
        · rw [b, tf, if_pos hw, if_pos hc]
          show up2 (up2 S.1 (i + 3) (nI j).toNatClampNeg (nI (tn R j))) i 2 _ i 2 + _ = S.1 i 2 + nI (_ + 1)
          rw [up2_at]
          show up2 S.1 (i + 3) (nI j).toNatClampNeg (nI (tn R j)) i 2 + nI 1 + _ = _
          rw [up2_ne _ _ _ (by omega), Int32.add_assoc, nI_add, Nat.add_comm 1]
        · exact ((Fr.rf.up (by omega) (by omega)).up (by omega) (by omega)).tr c
theorem sp_turnFrom {sc : PSc} {i : Nat} {R : Rw} {S : PS} {Q : PQ} {w : Nat} (hi : rI i) (hv : Vd R) (hr : RowAt S i R) (hw : w ≤ 5) (k : ∀ S', RowAt S' i (turnR R w).1 → S'.1 i 2 = S.1 i 2 + nI (turnR R w).2 → Fr i 5 S S' → Q none S') : E sc mX0_turnFrom 0 (pL0 mX0_turnFrom [.ref i, .int (nI w)]) [] S Q := by
  show E sc mX0_turnFrom 0 [.ref i, .int (nI w), .null, .null] [] S Q
  have h5 := hv.1
  refine e_iconst' (pc := 0) (nI 1) dX0_turnFrom_0 (by decide) ?_
  refine e_istore_n (pc := 1) (i := 2) dX0_turnFrom_1 rfl (by decide) rfl ?_
  refine e_iload_n (pc := 2) (i := 1) dX0_turnFrom_2 rfl rfl ?_
  refine e_istore_n (pc := 3) (i := 3) dX0_turnFrom_3 rfl (by decide) rfl ?_
  exact lp_turnFrom hi 5 w R S hv hr hw (by omega) k
theorem sp_pushOnce {sc : PSc} {i : Nat} {R : Rw} {S : PS} {Q : PQ} (hi : rI i) (hv : Vd R) (hr : RowAt S i R) (k : ∀ S', RowAt S' i (pushR R).1 → S'.1 i 2 = S.1 i 2 + nI (pushR R).2 → Fr i 5 S S' → Q none S') : E sc mX0_pushOnce 0 (pL0 mX0_pushOnce [.ref i]) [] S Q := by
  show E sc mX0_pushOnce 0 [.ref i] [] S Q
  have h5 := hv.1
  refine e_aload_n (pc := 0) (i := 0) dX0_pushOnce_0 rfl rfl ?_
  refine e_dup (pc := 1) dX0_pushOnce_1 rfl ?_
  refine e_getI (pc := 2) dX0_pushOnce_2 (fX0_51 rfl) (rI_sh hi) rfl ?_
  refine E.it (nI (R 21)) hr.2.1 ?_
  refine e_iconst' (pc := 5) (nI 1) dX0_pushOnce_5 (by decide) ?_
  refine e_iadd (pc := 6) dX0_pushOnce_6 ?_
  refine E.it (nI (R 21 + 1)) (nI_add _ _) ?_
  refine e_putI (pc := 7) dX0_pushOnce_7 (pX0_51 rfl) (rI_sh hi) rfl (fun h => by cases h) ?_
  refine e_aload_n (pc := 10) (i := 0) dX0_pushOnce_10 rfl rfl ?_
  refine e_iconst' (pc := 11) (nI 0) dX0_pushOnce_11 (by decide) ?_
  refine e_callV1 (pc := 12) (M' := mX0_turnFrom) dX0_pushOnce_12 iX0_turnFrom lkX0_68 (by decide) (rI_r hi) (Nat.le_of_ble_eq_true rfl) (Nat.le_of_ble_eq_true rfl) ?_
  refine sp_turnFrom (w := 0) hi (rc_vd hv) (hr.cnt hv) (by omega) (fun S' a b c => ?_)
  refine e_vret (pc := 15) (st := []) dX0_pushOnce_15 rfl ?_
  refine k S' a ?_ ((Fr.rf.up (by omega) (by omega)).tr c)
  rw [b]
  show up2 S.1 i 1 _ i 2 + _ = _
  rw [up2_at]
  rfl
theorem lp_push {sc : PSc} {i m : Nat} {R : Rw} {S0 : PS} {Q : PQ} (hi : rI i) (hv : Vd R) (hm : m < 2 ^ 31) (k : ∀ S', RowAt S' i (pn R m) → S'.1 i 2 = S0.1 i 2 + nI (cn R m) → Fr i 5 S0 S' → Q none S') : ∀ (n : Nat) (j : Nat) (S : PS), j ≤ m → m - j < n → RowAt S i (pn R j) → S.1 i 2 = S0.1 i 2 + nI (cn R j) → Fr i 5 S0 S → E sc mX0_push 2 [.ref i, .int (nI m), .int (nI j)] [] S Q := by
  intro n
  induction n with
  | zero => intro j S hj hn hr hc hf; exact absurd hn (by omega)
  | succ n ih =>
    intro j S hj hn hr hc hf
    refine e_iload_n (pc := 2) (i := 2) dX0_push_2 rfl rfl ?_
    refine e_iload_n (pc := 3) (i := 1) dX0_push_3 rfl rfl ?_
    refine e_icmp_ge (pc := 4) (tgt := 17) dX0_push_4 (by decide) (fun h4 => ?_) (fun h4 => ?_)
    · replace h4 := (nI_leI (by omega) (by omega)).mp h4
      obtain rfl : j = m := by omega
      refine e_vret (pc := 17) (st := []) dX0_push_17 rfl ?_
      exact k S hr hc hf
    · replace h4 := mt (nI_leI (by omega) (by omega)).mpr h4
      refine e_aload_n (pc := 7) (i := 0) dX0_push_7 rfl rfl ?_
      refine e_callV0 (pc := 8) (M' := mX0_pushOnce) dX0_push_8 iX0_pushOnce lkX0_72 (by decide) (rI_r hi) (Nat.le_of_ble_eq_true rfl) (Nat.le_of_ble_eq_true rfl) ?_
      refine sp_pushOnce hi (pn_vd hv j) hr (fun S' a b c => ?_)
      refine e_iinc' (pc := 11) (nI (j + 1)) dX0_push_11 rfl (by decide) rfl (nI_1 _) ?_
      refine e_goto (pc := 14) (tgt := 2) dX0_push_14 (by decide) ?_
      exact ih (j + 1) S' (by omega) (by omega) a (by rw [b, hc, Int32.add_assoc, nI_add]; rfl) (hf.tr c)
theorem sp_push {sc : PSc} {i : Nat} {R : Rw} {S : PS} {Q : PQ} {m : Nat} (hi : rI i) (hv : Vd R) (hr : RowAt S i R) (hm : m < 2 ^ 31) (k : ∀ S', RowAt S' i (pn R m) → S'.1 i 2 = S.1 i 2 + nI (cn R m) → Fr i 5 S S' → Q none S') : E sc mX0_push 0 (pL0 mX0_push [.ref i, .int (nI m)]) [] S Q := by
  show E sc mX0_push 0 [.ref i, .int (nI m), .null] [] S Q
  refine e_iconst' (pc := 0) (nI 0) dX0_push_0 (by decide) ?_
  refine e_istore_n (pc := 1) (i := 2) dX0_push_1 rfl (by decide) rfl ?_
  exact lp_push hi hv hm k (m + 1) 0 S (by omega) (by omega) hr (by show _ = _ + nI 0; rw [nI_0, Int32.add_zero]) Fr.rf
theorem lp_reading {sc : PSc} {i : Nat} {R : Rw} {S : PS} {Q : PQ} (hi : rI i) (hv : Vd R) (hr : RowAt S i R) (k : Q (some (.int (nI (reads R)))) S) : ∀ (n : Nat) (j : Nat), j ≤ R 20 → R 20 - j < n → E sc mX0_reading 6 [.ref i, .int (nI (rdk R j)), .int (nI (wt R j)), .int (nI j)] [] S Q := by
  intro n
  induction n with
  | zero => intro j hj hn; exact absurd hn (by omega)
  | succ n ih =>
    intro j hj hn
    have h5 := hv.1
    refine e_iload_n (pc := 6) (i := 3) dX0_reading_6 rfl rfl ?_
    refine e_aload_n (pc := 7) (i := 0) dX0_reading_7 rfl rfl ?_
    refine e_getI (pc := 8) dX0_reading_8 (fX0_24 rfl) (rI_sh hi) rfl ?_
    refine E.it (nI (R 20)) hr.1 ?_
    refine e_icmp_ge (pc := 11) (tgt := 40) dX0_reading_11 (by decide) (fun h11 => ?_) (fun h11 => ?_)
    · replace h11 := (nI_leI (by omega) (by omega)).mp h11
      obtain e : j = R 20 := by omega
      refine e_iload_n (pc := 40) (i := 1) dX0_reading_40 rfl rfl ?_
      refine e_iret (pc := 41) (st := []) (ty := .int) dX0_reading_41 rfl rfl ?_
      exact qeq k (by rw [e]; rfl)
    · replace h11 := mt (nI_leI (by omega) (by omega)).mpr h11
      have hw : j < R 20 := by omega
      refine e_iload_n (pc := 14) (i := 1) dX0_reading_14 rfl rfl ?_
      refine e_iload_n (pc := 15) (i := 2) dX0_reading_15 rfl rfl ?_
      refine e_aload_n (pc := 16) (i := 0) dX0_reading_16 rfl rfl ?_
      refine e_getR (pc := 17) dX0_reading_17 (fX0_18 rfl) (rI_sh hi) rfl ?_
      refine e_iload_n (pc := 20) (i := 3) dX0_reading_20 rfl rfl ?_
      refine e_iald (pc := 21) dX0_reading_21 (rI_a3 hi) (rin hv hw) ?_
      refine E.it (nI (R (10 + j))) (rg hv hr hw) ?_
      refine e_imul (pc := 22) dX0_reading_22 ?_
      refine E.it (nI (wt R j * R (10 + j))) (pk_mul _ _) ?_
      refine e_iadd (pc := 23) dX0_reading_23 ?_
      refine E.it (nI (rdk R (j + 1))) (nI_add _ _) ?_
      refine e_istore_n (pc := 24) (i := 1) dX0_reading_24 rfl (by decide) rfl ?_
      refine e_iload_n (pc := 25) (i := 2) dX0_reading_25 rfl rfl ?_
      refine e_aload_n (pc := 26) (i := 0) dX0_reading_26 rfl rfl ?_
      refine e_getR (pc := 27) dX0_reading_27 (fX0_15 rfl) (rI_sh hi) rfl ?_
      refine e_iload_n (pc := 30) (i := 3) dX0_reading_30 rfl rfl ?_
      refine e_iald (pc := 31) dX0_reading_31 (rI_a2 hi) (rin hv hw) ?_
      refine E.it (nI (R (5 + j))) (rt hv hr hw) ?_
      refine e_imul (pc := 32) dX0_reading_32 ?_
      refine E.it (nI (wt R (j + 1))) (pk_mul _ _) ?_
      refine e_istore_n (pc := 33) (i := 2) dX0_reading_33 rfl (by decide) rfl ?_
      refine e_iinc' (pc := 34) (nI (j + 1)) dX0_reading_34 rfl (by decide) rfl (nI_1 _) ?_
      refine e_goto (pc := 37) (tgt := 6) dX0_reading_37 (by decide) ?_
      exact ih (j + 1) (by omega) (by omega)
theorem sp_reading {sc : PSc} {i : Nat} {R : Rw} {S : PS} {Q : PQ} (hi : rI i) (hv : Vd R) (hr : RowAt S i R) (k : Q (some (.int (nI (reads R)))) S) : E sc mX0_reading 0 (pL0 mX0_reading [.ref i]) [] S Q := by
  show E sc mX0_reading 0 [.ref i, .null, .null, .null] [] S Q
  refine e_iconst' (pc := 0) (nI 0) dX0_reading_0 (by decide) ?_
  refine e_istore_n (pc := 1) (i := 1) dX0_reading_1 rfl (by decide) rfl ?_
  refine e_iconst' (pc := 2) (nI 1) dX0_reading_2 (by decide) ?_
  refine e_istore_n (pc := 3) (i := 2) dX0_reading_3 rfl (by decide) rfl ?_
  refine e_iconst' (pc := 4) (nI 0) dX0_reading_4 (by decide) ?_
  refine e_istore_n (pc := 5) (i := 3) dX0_reading_5 rfl (by decide) rfl ?_
  exact lp_reading hi hv hr k (R 20 + 1) 0 (by omega) (by omega)
theorem lp_product {sc : PSc} {i : Nat} {R : Rw} {S : PS} {Q : PQ} (hi : rI i) (hv : Vd R) (hr : RowAt S i R) (k : Q (some (.int (nI (allR R)))) S) : ∀ (n : Nat) (j : Nat), j ≤ R 20 → R 20 - j < n → E sc mX0_product 4 [.ref i, .int (nI (wt R j)), .int (nI j)] [] S Q := by
  intro n
  induction n with
  | zero => intro j hj hn; exact absurd hn (by omega)
  | succ n ih =>
    intro j hj hn
    have h5 := hv.1
    refine e_iload_n (pc := 4) (i := 2) dX0_product_4 rfl rfl ?_
    refine e_aload_n (pc := 5) (i := 0) dX0_product_5 rfl rfl ?_
    refine e_getI (pc := 6) dX0_product_6 (fX0_24 rfl) (rI_sh hi) rfl ?_
    refine E.it (nI (R 20)) hr.1 ?_
    refine e_icmp_ge (pc := 9) (tgt := 27) dX0_product_9 (by decide) (fun h9 => ?_) (fun h9 => ?_)
    · replace h9 := (nI_leI (by omega) (by omega)).mp h9
      obtain e : j = R 20 := by omega
      refine e_iload_n (pc := 27) (i := 1) dX0_product_27 rfl rfl ?_
      refine e_iret (pc := 28) (st := []) (ty := .int) dX0_product_28 rfl rfl ?_
      exact qeq k (by rw [e]; rfl)
    · replace h9 := mt (nI_leI (by omega) (by omega)).mpr h9
      have hw : j < R 20 := by omega
      refine e_iload_n (pc := 12) (i := 1) dX0_product_12 rfl rfl ?_
      refine e_aload_n (pc := 13) (i := 0) dX0_product_13 rfl rfl ?_
      refine e_getR (pc := 14) dX0_product_14 (fX0_15 rfl) (rI_sh hi) rfl ?_
      refine e_iload_n (pc := 17) (i := 2) dX0_product_17 rfl rfl ?_
      refine e_iald (pc := 18) dX0_product_18 (rI_a2 hi) (rin hv hw) ?_
      refine E.it (nI (R (5 + j))) (rt hv hr hw) ?_
      refine e_imul (pc := 19) dX0_product_19 ?_
      refine E.it (nI (wt R (j + 1))) (pk_mul _ _) ?_
      refine e_istore_n (pc := 20) (i := 1) dX0_product_20 rfl (by decide) rfl ?_
      refine e_iinc' (pc := 21) (nI (j + 1)) dX0_product_21 rfl (by decide) rfl (nI_1 _) ?_
      refine e_goto (pc := 24) (tgt := 4) dX0_product_24 (by decide) ?_
      exact ih (j + 1) (by omega) (by omega)
theorem sp_product {sc : PSc} {i : Nat} {R : Rw} {S : PS} {Q : PQ} (hi : rI i) (hv : Vd R) (hr : RowAt S i R) (k : Q (some (.int (nI (allR R)))) S) : E sc mX0_product 0 (pL0 mX0_product [.ref i]) [] S Q := by
  show E sc mX0_product 0 [.ref i, .null, .null] [] S Q
  refine e_iconst' (pc := 0) (nI 1) dX0_product_0 (by decide) ?_
  refine e_istore_n (pc := 1) (i := 1) dX0_product_1 rfl (by decide) rfl ?_
  refine e_iconst' (pc := 2) (nI 0) dX0_product_2 (by decide) ?_
  refine e_istore_n (pc := 3) (i := 2) dX0_product_3 rfl (by decide) rfl ?_
  exact lp_product hi hv hr k (R 20 + 1) 0 (by omega) (by omega)
theorem err_abs {R : Rw} (hv : Vd R) (hc : R 21 < 2 ^ 31) : (if 0 ≤ nI (reads R) - nI (R 21 % allR R) then nI (reads R) - nI (R 21 % allR R) else 0 - (nI (reads R) - nI (R 21 % allR R))) = nI (err R) := by
  have a := reads_lt hv
  have b := all_pos hv
  have c := Nat.mod_lt (R 21) (show 0 < allR R by omega)
  unfold err
  have e1 : (nI (reads R)).toInt = (reads R : Int) := nI_toInt (by omega)
  have e2 : (nI (R 21 % allR R)).toInt = ((R 21 % allR R : Nat) : Int) := nI_toInt (by omega)
  have e3 : (nI (reads R) - nI (R 21 % allR R)).toInt = (reads R : Int) - ((R 21 % allR R : Nat) : Int) := by
    rw [fb_subI (by rw [e1, e2]; omega) (by rw [e1, e2]; omega), e1, e2]
  by_cases h : reads R < R 21 % allR R
  · rw [if_pos h, if_neg (by rw [fa_le, e3]; show ¬ (0 : Int) ≤ _; omega), fa_eq]
    rw [fb_subI (by rw [e3]; show _ ≤ (0 : Int) - _; omega) (by rw [e3]; show (0 : Int) - _ < _; omega), e3, nI_toInt (by omega)]
    show (0 : Int) - _ = _
    omega
  · rw [if_neg h, if_pos (by rw [fa_le, e3]; show (0 : Int) ≤ _; omega), pk_sub (by omega)]
theorem sp_error {sc : PSc} {i : Nat} {R : Rw} {S : PS} {Q : PQ} (hi : rI i) (hv : Vd R) (hr : RowAt S i R) (hc : R 21 < 2 ^ 31) (k : Q (some (.int (nI (err R)))) S) : E sc mX0_error 0 (pL0 mX0_error [.ref i]) [] S Q := by
  show E sc mX0_error 0 [.ref i, .null, .null] [] S Q
  have hal := all_pos hv
  refine e_aload_n (pc := 0) (i := 0) dX0_error_0 rfl rfl ?_
  refine e_callV0 (pc := 1) (M' := mX0_product) dX0_error_1 iX0_product lkX0_80 (by decide) (rI_r hi) (Nat.le_of_ble_eq_true rfl) (Nat.le_of_ble_eq_true rfl) ?_
  refine sp_product hi hv hr ?_
  refine e_istore_n (pc := 4) (i := 1) dX0_error_4 rfl (by decide) rfl ?_
  refine e_iload_n (pc := 5) (i := 1) dX0_error_5 rfl rfl ?_
  refine e_if_le (pc := 6) (tgt := 18) dX0_error_6 (by decide) (fun h6 => absurd h6 (by rw [← nI_0]; exact fun q => absurd ((nI_leI (by omega) (by omega)).mp q) (by omega))) (fun h6 => ?_)
  rw [← nI_0] at h6
  replace h6 := mt (nI_leI (by omega) (by omega)).mpr h6
  refine e_aload_n (pc := 9) (i := 0) dX0_error_9 rfl rfl ?_
  refine e_getI (pc := 10) dX0_error_10 (fX0_51 rfl) (rI_sh hi) rfl ?_
  refine E.it (nI (R 21)) hr.2.1 ?_
  refine e_iload_n (pc := 13) (i := 1) dX0_error_13 rfl rfl ?_
  refine e_irem (pc := 14) dX0_error_14 (by rw [← nI_0, nI_eq (by omega) (by omega)]; omega) ?_
  refine E.it (nI (R 21 % allR R)) (pk_rem hc (by omega) (by omega)) ?_
  refine e_goto (pc := 15) (tgt := 19) dX0_error_15 (by decide) ?_
  refine e_istore_n (pc := 19) (i := 2) dX0_error_19 rfl (by decide) rfl ?_
  refine e_aload_n (pc := 20) (i := 0) dX0_error_20 rfl rfl ?_
  refine e_callV0 (pc := 21) (M' := mX0_reading) dX0_error_21 iX0_reading lkX0_84 (by decide) (rI_r hi) (Nat.le_of_ble_eq_true rfl) (Nat.le_of_ble_eq_true rfl) ?_
  refine sp_reading hi hv hr ?_
  refine e_iload_n (pc := 24) (i := 2) dX0_error_24 rfl rfl ?_
  refine e_isub (pc := 25) dX0_error_25 ?_
  refine e_mabs (pc := 26) dX0_error_26 (maX0_87 rfl) (by decide) (Nat.le_of_ble_eq_true rfl) ?_
  refine E.it (nI (err R)) (err_abs hv hc) ?_
  refine e_iret (pc := 29) (st := []) (ty := .int) dX0_error_29 rfl rfl ?_
  exact k

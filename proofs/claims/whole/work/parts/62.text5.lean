def FrZ (S S' : PS) : Prop := (∀ j, j ≠ 54 → j ≠ 56 → S'.1 j = S.1 j) ∧ ∀ k, (k < 2 ∨ (3 ≤ k ∧ k < 6) ∨ 12 ≤ k) → S'.1 54 k = S.1 54 k
theorem FrZ.rf {S : PS} : FrZ S S := ⟨fun _ _ _ => rfl, fun _ _ => rfl⟩
theorem FrZ.r {S S1 S2 : PS} (h : FrZ S S1) (h2 : FrR S1 S2) : FrZ S S2 := ⟨fun j a b => (h2.1 j a b).trans (h.1 j a b), fun k a => (h2.2 k (by omega)).trans (h.2 k a)⟩
theorem FrZ.m {S S1 S2 : PS} (h : FrZ S S1) (h2 : FrM S1 S2) : FrZ S S2 := h.r h2.R
theorem FrZ.tr {S S1 S2 : PS} (h : FrZ S S1) (h2 : FrZ S1 S2) : FrZ S S2 := ⟨fun j a b => (h2.1 j a b).trans (h.1 j a b), fun k a => (h2.2 k a).trans (h.2 k a)⟩
theorem FrZ.up {S S1 : PS} {k : Nat} {v : Int32} (h : FrZ S S1) (hk : k = 2 ∨ (6 ≤ k ∧ k < 12)) : FrZ S (up2 S1.1 54 k v, S1.2) := by
  refine ⟨fun j a b => (up2_ne _ _ _ a).trans (h.1 j a b), fun q a => ?_⟩
  show up2 S1.1 54 k v 54 q = _; rw [up2_at]; exact (if_neg (by omega)).trans (h.2 q a)
theorem TpM.z {S S' : PS} {N : Nat} {tp : Nat → Nat} (h : TpM S N tp) (hf : FrZ S S') : TpM S' N tp := h.of (hf.2 4 (by omega)) (hf.1 57 (by decide) (by decide))
theorem I8.z {S S' : PS} (h : I8 S) (hf : FrZ S S') : I8 S' := by
  unfold I8 at h ⊢
  rw [hf.1 58 (by decide) (by decide), hf.1 59 (by decide) (by decide)]; exact h
theorem ln_n {N : Nat} {tp : Nat → Nat} {R : Rw} {cd : Bool} {p : Nat} (h : tk N tp p = 1 → ∀ x, x < 5 → ¬ NmP tp x (tst N tp p) (te N tp p)) : ln N tp R cd p = .inl (2, tst N tp p) := by
  unfold ln
  by_cases h1 : tk N tp p = 1
  · rw [if_pos h1, nm_n (h h1), if_neg (by omega), if_neg (by omega)]
  · rw [if_neg h1]
theorem ln_4 {N : Nat} {tp : Nat → Nat} {R : Rw} {cd : Bool} {p : Nat} (h1 : tk N tp p = 1) (h : NmP tp 4 (tst N tp p) (te N tp p)) : ln N tp R cd p = lnC N tp R cd p := by
  unfold ln
  rw [if_pos h1, nm_y (by omega) h, if_pos rfl]
theorem ln_x {N : Nat} {tp : Nat → Nat} {R : Rw} {cd : Bool} {p x : Nat} (h1 : tk N tp p = 1) (hx : x < 4) (h : NmP tp x (tst N tp p) (te N tp p)) : ln N tp R cd p = lnW N tp R x cd p := by
  unfold ln
  rw [if_pos h1, nm_y (by omega) h, if_neg (by omega), if_pos hx]
theorem sp_readLine {sc : PSc} {N : Nat} {tp : Nat → Nat} {S : PS} {Q : PQ} (ht : TpM S N tp) (h8 : I8 S) {p : Nat} {cd : Bool} {R : Rw} {ou : Res} (hp : p ≤ N) (hk0 : tk N tp p ≠ 0) (cm : CurM S N tp p) (hv : Vd R) (hc9 : R 21 ≤ 99) (pr : PrAt S R) (h2 : S.1 54 2 = nI (if cd then 1 else 0)) (ho : ln N tp R cd p = ou) (kB : ∀ c s S', ou = .inl (c, s) → 0 < c → c < 8 → FrZ S S' → BadM S' c s → Q none S') (kO : ∀ R' cd' p' S', ou = .inr (R', cd', p') → FrZ S S' → PrAt S' R' → Vd R' → R' 21 ≤ 99 → S'.1 54 2 = nI (if cd' then 1 else 0) → Aft S' N tp p' → p < p' → p' ≤ N → Q none S') : E sc mX6_readLine 0 (pL0 mX6_readLine [.ref 54]) [] S Q := by
  show E sc mX6_readLine 0 [.ref 54, .null] [] S Q
  have hbp := te_b (N := N) (tp := tp) hp hk0 cm.1
  have h5 := hv.1
  cases cd
  · refine e_aload_n (pc := 0) (i := 0) dX6_readLine_0 rfl rfl ?_
    refine e_callV0 (pc := 1) (M' := mX6_nameHere) dX6_readLine_1 iX6_nameHere lkX6_95 (by decide) (rO_obj sh_54 rfl) (Nat.le_of_ble_eq_true rfl) (Nat.le_of_ble_eq_true rfl) ?_
    refine sp_nameHere ht h8 (s := tst N tp p) (e := te N tp p) (t := tk N tp p) cm.2.2.2.2.1 tk_le (cm.2.2.1 hk0) cm.2.2.2.1 (by omega) (by omega) (fun hk1 a4 => ?_) (fun hk1 x hx ax => ?_) (fun hn => ?_)
    · rw [ln_4 hk1 a4] at ho
      unfold lnC at ho
      rw [if_neg (by decide)] at ho
      have hb1 := te_b (N := N) (tp := tp) hp hk0 cm.1
      refine e_istore_n (pc := 4) (i := 1) dX6_readLine_4 rfl (by decide) rfl ?_
      refine e_iload_n (pc := 5) (i := 1) dX6_readLine_5 rfl rfl ?_
      refine e_i2l (pc := 6) dX6_readLine_6 ?_
      refine e_lconst' (pc := 7) (lN 0) dX6_readLine_7 (by decide) ?_
      refine e_ldc2 (pc := 8) dX6_readLine_8 (klX6_99 rfl) ?_
      refine e_callS3 (pc := 11) (M' := mX6_in) dX6_readLine_11 jX6_in lkX6_46 (by decide) (Nat.le_of_ble_eq_true rfl) (Nat.le_of_ble_eq_true rfl) ?_
      refine sp_inC (c := 4) (lo := 0) (hi := 4) (by decide) (by decide) (by omega) (fun _ _ => ?_) (fun z => (z ⟨by omega, by omega⟩).elim)
      refine e_if_ne (pc := 14) (tgt := 23) dX6_readLine_14 (by decide) (fun h14 => ?_) (fun h14 => absurd h14 (by decide))
      refine e_iload_n (pc := 23) (i := 1) dX6_readLine_23 rfl rfl ?_
      refine e_iconst' (pc := 24) (nI 3) dX6_readLine_24 (by decide) ?_
      refine e_icmp_gt (pc := 25) (tgt := 44) dX6_readLine_25 (by decide) (fun h25 => ?_) (fun h25 => absurd (by decide) h25)
      refine e_iload_n (pc := 44) (i := 1) dX6_readLine_44 rfl rfl ?_
      refine e_iconst' (pc := 45) (nI 4) dX6_readLine_45 (by decide) ?_
      refine e_icmp_ne (pc := 46) (tgt := 61) dX6_readLine_46 (by decide) (fun h46 => absurd (by decide) h46) (fun h46 => ?_)
      refine e_aload_n (pc := 49) (i := 0) dX6_readLine_49 rfl rfl ?_
      refine e_getI (pc := 50) dX6_readLine_50 (fX6_101 rfl) sh_54 rfl ?_
      refine E.it (nI 0) h2 ?_
      refine e_if_eq (pc := 53) (tgt := 61) dX6_readLine_53 (by decide) (fun h53 => ?_) (fun h53 => absurd (by decide) h53)
      refine e_aload_n (pc := 61) (i := 0) dX6_readLine_61 rfl rfl ?_
      refine e_aload_n (pc := 62) (i := 0) dX6_readLine_62 rfl rfl ?_
      refine e_getI (pc := 63) dX6_readLine_63 (fX6_101 rfl) sh_54 rfl ?_
      refine E.it (nI 0) h2 ?_
      refine e_if_ne (pc := 66) (tgt := 74) dX6_readLine_66 (by decide) (fun h66 => absurd (by decide) h66) (fun h66 => ?_)
      refine e_iload_n (pc := 69) (i := 1) dX6_readLine_69 rfl rfl ?_
      refine e_iconst' (pc := 70) (nI 4) dX6_readLine_70 (by decide) ?_
      refine e_icmp_ne (pc := 71) (tgt := 78) dX6_readLine_71 (by decide) (fun h71 => absurd (by decide) h71) (fun h71 => ?_)
      refine e_iconst' (pc := 74) (nI 1) dX6_readLine_74 (by decide) ?_
      refine e_goto (pc := 75) (tgt := 79) dX6_readLine_75 (by decide) ?_
      refine e_putI (pc := 79) dX6_readLine_79 (pX6_101 rfl) sh_54 rfl (fun _ => by decide) ?_
      refine e_aload_n (pc := 82) (i := 0) dX6_readLine_82 rfl rfl ?_
      refine e_callV0 (pc := 83) (M' := mX6_step) dX6_readLine_83 iX6_step lkX6_88 (by decide) (rO_obj sh_54 rfl) (Nat.le_of_ble_eq_true rfl) (Nat.le_of_ble_eq_true rfl) ?_
      refine sp_stepG (S := (up2 S.1 54 2 (nI 1), S.2)) (p := te N tp p) ht (by omega) cm.2.1 (cm.2.2.1 hk0) (fun S1 f1 a1 => ?_)
      rcases a1 with ⟨z4, g1⟩ | c1
      · rw [nB_4 z4] at ho
        refine e_aload_n (pc := 86) (i := 0) dX6_readLine_86 rfl rfl ?_
        refine e_getI (pc := 87) dX6_readLine_87 (fX6_54 rfl) sh_54 rfl ?_
        refine E.it (nI 1) g1.1 ?_
        refine e_if_le (pc := 90) (tgt := 94) dX6_readLine_90 (by decide) (fun h90 => absurd h90 (by decide)) (fun h90 => ?_)
        refine e_vret (pc := 93) (st := []) dX6_readLine_93 rfl ?_
        exact kB 1 _ S1 ho.symm (by omega) (by omega) (FrZ.m (S1 := (up2 S.1 54 2 (nI 1), S.2)) (FrZ.rf.up (Or.inl rfl)) f1) g1
      · refine e_aload_n (pc := 86) (i := 0) dX6_readLine_86 rfl rfl ?_
        refine e_getI (pc := 87) dX6_readLine_87 (fX6_54 rfl) sh_54 rfl ?_
        refine E.it (nI 0) c1.2.1 ?_
        refine e_if_le (pc := 90) (tgt := 94) dX6_readLine_90 (by decide) (fun h90 => ?_) (fun h90 => absurd (by decide) h90)
        refine e_aload_n (pc := 94) (i := 0) dX6_readLine_94 rfl rfl ?_
        refine e_iload_n (pc := 95) (i := 1) dX6_readLine_95 rfl rfl ?_
        refine e_callV1 (pc := 96) (M' := mX6_readMore) dX6_readLine_96 iX6_readMore lkX6_105 (by decide) (rO_obj sh_54 rfl) (Nat.le_of_ble_eq_true rfl) (Nat.le_of_ble_eq_true rfl) ?_
        refine sp_readC (S := S1) (cdn := 1) (p := te N tp p) (TpM.m (S := (up2 S.1 54 2 (nI 1), S.2)) ht f1) (by omega) hv hc9 (pr.of (f1.1 56 (by decide))) c1 rfl ho (fun c s S2 e h1 h2_ f g => ?_) (fun R2 cd2 q S2 e f pr2 hv2 hc2 c2 q1 q2 hcd2 => ?_)
        · refine e_aload_n (pc := 99) (i := 0) dX6_readLine_99 rfl rfl ?_
          refine e_getI (pc := 100) dX6_readLine_100 (fX6_54 rfl) sh_54 rfl ?_
          refine E.it (nI c) g.1 ?_
          refine e_if_ne (pc := 103) (tgt := 119) dX6_readLine_103 (by decide) (fun h103 => ?_) (fun h103 => absurd h103 (nI_ne0 h1 (by omega)))
          refine e_aload_n (pc := 119) (i := 0) dX6_readLine_119 rfl rfl ?_
          refine e_callV0 (pc := 120) (M' := mX6_step) dX6_readLine_120 iX6_step lkX6_88 (by decide) (rO_obj sh_54 rfl) (Nat.le_of_ble_eq_true rfl) (Nat.le_of_ble_eq_true rfl) ?_
          refine sp_stepB g.1 h1 h2_ ?_
          refine e_vret (pc := 123) (st := []) dX6_readLine_123 rfl ?_
          exact kB c s S2 e h1 h2_ ((FrZ.m (S1 := (up2 S.1 54 2 (nI 1), S.2)) (FrZ.rf.up (Or.inl rfl)) f1).r f) g
        · unfold eB at e
          rw [if_neg c2.1] at e
          have htq := tk_le (N := N) (tp := tp) (p := q)
          refine e_aload_n (pc := 99) (i := 0) dX6_readLine_99 rfl rfl ?_
          refine e_getI (pc := 100) dX6_readLine_100 (fX6_54 rfl) sh_54 rfl ?_
          refine E.it (nI 0) c2.2.1 ?_
          refine e_if_ne (pc := 103) (tgt := 119) dX6_readLine_103 (by decide) (fun h103 => absurd (by decide) h103) (fun h103 => ?_)
          refine e_aload_n (pc := 106) (i := 0) dX6_readLine_106 rfl rfl ?_
          refine e_getI (pc := 107) dX6_readLine_107 (fX6_63 rfl) sh_54 rfl ?_
          refine E.it (nI (tk N tp q)) c2.2.2.2.2.1 ?_
          refine e_iconst' (pc := 110) (nI 3) dX6_readLine_110 (by decide) ?_
          refine e_icmp_eq (pc := 111) (tgt := 119) dX6_readLine_111 (by decide) (fun h111 => ?_) (fun h111 => ?_)
          · replace h111 := (nI_eq (by omega) (by omega)).mp h111
            rw [if_pos h111] at e
            have hbq := te_b (N := N) (tp := tp) q2 (by omega) c2.1
            refine e_aload_n (pc := 119) (i := 0) dX6_readLine_119 rfl rfl ?_
            refine e_callV0 (pc := 120) (M' := mX6_step) dX6_readLine_120 iX6_step lkX6_88 (by decide) (rO_obj sh_54 rfl) (Nat.le_of_ble_eq_true rfl) (Nat.le_of_ble_eq_true rfl) ?_
            refine sp_stepG (p := te N tp q) ((ht.z (FrZ.m (S1 := (up2 S.1 54 2 (nI 1), S.2)) (FrZ.rf.up (Or.inl rfl)) f1)).r f) hbq.2.1 c2.2.1 (c2.2.2.1 (by omega)) (fun S3 f3 a3 => ?_)
            refine e_vret (pc := 123) (st := []) dX6_readLine_123 rfl ?_
            refine kO R2 cd2 _ S3 e (((FrZ.m (S1 := (up2 S.1 54 2 (nI 1), S.2)) (FrZ.rf.up (Or.inl rfl)) f1).r f).m f3) (pr2.of (f3.1 56 (by decide))) hv2 hc2 ?_ a3 (by omega) (by omega)
            rw [hcd2, f3.2 2 (by omega), f.2 2 (by omega), f1.2 2 (by omega)]; rfl
          · replace h111 := mt (nI_eq (by omega) (by omega)).mpr h111
            rw [if_neg h111] at e
            refine e_aload_n (pc := 114) (i := 0) dX6_readLine_114 rfl rfl ?_
            refine e_iconst' (pc := 115) (nI 2) dX6_readLine_115 (by decide) ?_
            refine e_callV1 (pc := 116) (M' := mX6_fails) dX6_readLine_116 iX6_fails lkX6_84 (by decide) (rO_obj sh_54 rfl) (Nat.le_of_ble_eq_true rfl) (Nat.le_of_ble_eq_true rfl) ?_
            refine sp_fails (s := tst N tp q) c2.2.1 c2.2.2.2.1 ?_
            refine e_aload_n (pc := 119) (i := 0) dX6_readLine_119 rfl rfl ?_
            refine e_callV0 (pc := 120) (M' := mX6_step) dX6_readLine_120 iX6_step lkX6_88 (by decide) (rO_obj sh_54 rfl) (Nat.le_of_ble_eq_true rfl) (Nat.le_of_ble_eq_true rfl) ?_
            refine sp_stepB (b := 2) rfl (by omega) (by omega) ?_
            refine e_vret (pc := 123) (st := []) dX6_readLine_123 rfl ?_
            exact kB 2 _ _ e (by omega) (by omega) ((((FrZ.m (S1 := (up2 S.1 54 2 (nI 1), S.2)) (FrZ.rf.up (Or.inl rfl)) f1).r f).up (by omega)).up (by omega)) ⟨rfl, rfl⟩
    · rw [ln_x hk1 hx ax] at ho
      unfold lnW at ho
      have hb1 := te_b (N := N) (tp := tp) hp hk0 cm.1
      refine e_istore_n (pc := 4) (i := 1) dX6_readLine_4 rfl (by decide) rfl ?_
      refine e_iload_n (pc := 5) (i := 1) dX6_readLine_5 rfl rfl ?_
      refine e_i2l (pc := 6) dX6_readLine_6 ?_
      refine e_lconst' (pc := 7) (lN 0) dX6_readLine_7 (by decide) ?_
      refine e_ldc2 (pc := 8) dX6_readLine_8 (klX6_99 rfl) ?_
      refine e_callS3 (pc := 11) (M' := mX6_in) dX6_readLine_11 jX6_in lkX6_46 (by decide) (Nat.le_of_ble_eq_true rfl) (Nat.le_of_ble_eq_true rfl) ?_
      refine sp_inC (c := x) (lo := 0) (hi := 4) (by decide) (by decide) (by omega) (fun _ _ => ?_) (fun z => (z ⟨by omega, by omega⟩).elim)
      refine e_if_ne (pc := 14) (tgt := 23) dX6_readLine_14 (by decide) (fun h14 => ?_) (fun h14 => absurd h14 (by decide))
      refine e_iload_n (pc := 23) (i := 1) dX6_readLine_23 rfl rfl ?_
      refine e_iconst' (pc := 24) (nI 3) dX6_readLine_24 (by decide) ?_
      refine e_icmp_gt (pc := 25) (tgt := 44) dX6_readLine_25 (by decide) (fun h25 => absurd ((nI_ltI (by omega) (by omega)).mp h25) (by omega)) (fun h25 => ?_)
      refine e_aload_n (pc := 28) (i := 0) dX6_readLine_28 rfl rfl ?_
      refine e_getR (pc := 29) dX6_readLine_29 (fX6_13 rfl) sh_54 rfl ?_
      refine e_bipush' (pc := 32) (nI 20) dX6_readLine_32 (by decide) ?_
      refine e_iald (pc := 34) dX6_readLine_34 sh_56 (vp_in_nI (by decide) (by decide)) ?_
      refine E.it (nI (R 20)) pr.1 ?_
      refine e_iconst' (pc := 35) (nI 5) dX6_readLine_35 (by decide) ?_
      refine e_icmp_ne (pc := 36) (tgt := 44) dX6_readLine_36 (by decide) (fun h36 => ?_) (fun h36 => ?_)
      · replace h36 := mt (nI_eq (by omega) (by omega)).mpr h36
        rw [if_neg (by omega)] at ho
        refine e_iload_n (pc := 44) (i := 1) dX6_readLine_44 rfl rfl ?_
        refine e_iconst' (pc := 45) (nI 4) dX6_readLine_45 (by decide) ?_
        refine e_icmp_ne (pc := 46) (tgt := 61) dX6_readLine_46 (by decide) (fun h46 => ?_) (fun h46 => absurd ((nI_eq (by omega) (by omega)).mp h46) (by omega))
        refine e_aload_n (pc := 61) (i := 0) dX6_readLine_61 rfl rfl ?_
        refine e_aload_n (pc := 62) (i := 0) dX6_readLine_62 rfl rfl ?_
        refine e_getI (pc := 63) dX6_readLine_63 (fX6_101 rfl) sh_54 rfl ?_
        refine E.it (nI 0) h2 ?_
        refine e_if_ne (pc := 66) (tgt := 74) dX6_readLine_66 (by decide) (fun h66 => absurd (by decide) h66) (fun h66 => ?_)
        refine e_iload_n (pc := 69) (i := 1) dX6_readLine_69 rfl rfl ?_
        refine e_iconst' (pc := 70) (nI 4) dX6_readLine_70 (by decide) ?_
        refine e_icmp_ne (pc := 71) (tgt := 78) dX6_readLine_71 (by decide) (fun h71 => ?_) (fun h71 => absurd ((nI_eq (by omega) (by omega)).mp h71) (by omega))
        refine e_iconst' (pc := 78) (nI 0) dX6_readLine_78 (by decide) ?_
        refine e_putI (pc := 79) dX6_readLine_79 (pX6_101 rfl) sh_54 rfl (fun _ => by decide) ?_
        refine e_aload_n (pc := 82) (i := 0) dX6_readLine_82 rfl rfl ?_
        refine e_callV0 (pc := 83) (M' := mX6_step) dX6_readLine_83 iX6_step lkX6_88 (by decide) (rO_obj sh_54 rfl) (Nat.le_of_ble_eq_true rfl) (Nat.le_of_ble_eq_true rfl) ?_
        refine sp_stepG (S := (up2 S.1 54 2 (nI 0), S.2)) (p := te N tp p) ht (by omega) cm.2.1 (cm.2.2.1 hk0) (fun S1 f1 a1 => ?_)
        rcases a1 with ⟨z4, g1⟩ | c1
        · rw [nB_4 z4] at ho
          refine e_aload_n (pc := 86) (i := 0) dX6_readLine_86 rfl rfl ?_
          refine e_getI (pc := 87) dX6_readLine_87 (fX6_54 rfl) sh_54 rfl ?_
          refine E.it (nI 1) g1.1 ?_
          refine e_if_le (pc := 90) (tgt := 94) dX6_readLine_90 (by decide) (fun h90 => absurd h90 (by decide)) (fun h90 => ?_)
          refine e_vret (pc := 93) (st := []) dX6_readLine_93 rfl ?_
          exact kB 1 _ S1 ho.symm (by omega) (by omega) (FrZ.m (S1 := (up2 S.1 54 2 (nI 0), S.2)) (FrZ.rf.up (Or.inl rfl)) f1) g1
        · refine e_aload_n (pc := 86) (i := 0) dX6_readLine_86 rfl rfl ?_
          refine e_getI (pc := 87) dX6_readLine_87 (fX6_54 rfl) sh_54 rfl ?_
          refine E.it (nI 0) c1.2.1 ?_
          refine e_if_le (pc := 90) (tgt := 94) dX6_readLine_90 (by decide) (fun h90 => ?_) (fun h90 => absurd (by decide) h90)
          refine e_aload_n (pc := 94) (i := 0) dX6_readLine_94 rfl rfl ?_
          refine e_iload_n (pc := 95) (i := 1) dX6_readLine_95 rfl rfl ?_
          refine e_callV1 (pc := 96) (M' := mX6_readMore) dX6_readLine_96 iX6_readMore lkX6_105 (by decide) (rO_obj sh_54 rfl) (Nat.le_of_ble_eq_true rfl) (Nat.le_of_ble_eq_true rfl) ?_
          refine sp_readW (S := S1) (cdn := 0) (p := te N tp p) (TpM.m (S := (up2 S.1 54 2 (nI 0), S.2)) ht f1) (by omega) hv hc9 (pr.of (f1.1 56 (by decide))) c1 (x := x) (cd := false) hx (by omega) rfl ho (fun c s S2 e h1 h2_ f g => ?_) (fun R2 cd2 q S2 e f pr2 hv2 hc2 c2 q1 q2 hcd2 => ?_)
          · refine e_aload_n (pc := 99) (i := 0) dX6_readLine_99 rfl rfl ?_
            refine e_getI (pc := 100) dX6_readLine_100 (fX6_54 rfl) sh_54 rfl ?_
            refine E.it (nI c) g.1 ?_
            refine e_if_ne (pc := 103) (tgt := 119) dX6_readLine_103 (by decide) (fun h103 => ?_) (fun h103 => absurd h103 (nI_ne0 h1 (by omega)))
            refine e_aload_n (pc := 119) (i := 0) dX6_readLine_119 rfl rfl ?_
            refine e_callV0 (pc := 120) (M' := mX6_step) dX6_readLine_120 iX6_step lkX6_88 (by decide) (rO_obj sh_54 rfl) (Nat.le_of_ble_eq_true rfl) (Nat.le_of_ble_eq_true rfl) ?_
            refine sp_stepB g.1 h1 h2_ ?_
            refine e_vret (pc := 123) (st := []) dX6_readLine_123 rfl ?_
            exact kB c s S2 e h1 h2_ ((FrZ.m (S1 := (up2 S.1 54 2 (nI 0), S.2)) (FrZ.rf.up (Or.inl rfl)) f1).r f) g
          · unfold eB at e
            rw [if_neg c2.1] at e
            have htq := tk_le (N := N) (tp := tp) (p := q)
            refine e_aload_n (pc := 99) (i := 0) dX6_readLine_99 rfl rfl ?_
            refine e_getI (pc := 100) dX6_readLine_100 (fX6_54 rfl) sh_54 rfl ?_
            refine E.it (nI 0) c2.2.1 ?_
            refine e_if_ne (pc := 103) (tgt := 119) dX6_readLine_103 (by decide) (fun h103 => absurd (by decide) h103) (fun h103 => ?_)
            refine e_aload_n (pc := 106) (i := 0) dX6_readLine_106 rfl rfl ?_
            refine e_getI (pc := 107) dX6_readLine_107 (fX6_63 rfl) sh_54 rfl ?_
            refine E.it (nI (tk N tp q)) c2.2.2.2.2.1 ?_
            refine e_iconst' (pc := 110) (nI 3) dX6_readLine_110 (by decide) ?_
            refine e_icmp_eq (pc := 111) (tgt := 119) dX6_readLine_111 (by decide) (fun h111 => ?_) (fun h111 => ?_)
            · replace h111 := (nI_eq (by omega) (by omega)).mp h111
              rw [if_pos h111] at e
              have hbq := te_b (N := N) (tp := tp) q2 (by omega) c2.1
              refine e_aload_n (pc := 119) (i := 0) dX6_readLine_119 rfl rfl ?_
              refine e_callV0 (pc := 120) (M' := mX6_step) dX6_readLine_120 iX6_step lkX6_88 (by decide) (rO_obj sh_54 rfl) (Nat.le_of_ble_eq_true rfl) (Nat.le_of_ble_eq_true rfl) ?_
              refine sp_stepG (p := te N tp q) ((ht.z (FrZ.m (S1 := (up2 S.1 54 2 (nI 0), S.2)) (FrZ.rf.up (Or.inl rfl)) f1)).r f) hbq.2.1 c2.2.1 (c2.2.2.1 (by omega)) (fun S3 f3 a3 => ?_)
              refine e_vret (pc := 123) (st := []) dX6_readLine_123 rfl ?_
              refine kO R2 cd2 _ S3 e (((FrZ.m (S1 := (up2 S.1 54 2 (nI 0), S.2)) (FrZ.rf.up (Or.inl rfl)) f1).r f).m f3) (pr2.of (f3.1 56 (by decide))) hv2 hc2 ?_ a3 (by omega) (by omega)
              rw [hcd2, f3.2 2 (by omega), f.2 2 (by omega), f1.2 2 (by omega)]; rfl
            · replace h111 := mt (nI_eq (by omega) (by omega)).mpr h111
              rw [if_neg h111] at e
              refine e_aload_n (pc := 114) (i := 0) dX6_readLine_114 rfl rfl ?_
              refine e_iconst' (pc := 115) (nI 2) dX6_readLine_115 (by decide) ?_
              refine e_callV1 (pc := 116) (M' := mX6_fails) dX6_readLine_116 iX6_fails lkX6_84 (by decide) (rO_obj sh_54 rfl) (Nat.le_of_ble_eq_true rfl) (Nat.le_of_ble_eq_true rfl) ?_
              refine sp_fails (s := tst N tp q) c2.2.1 c2.2.2.2.1 ?_
              refine e_aload_n (pc := 119) (i := 0) dX6_readLine_119 rfl rfl ?_
              refine e_callV0 (pc := 120) (M' := mX6_step) dX6_readLine_120 iX6_step lkX6_88 (by decide) (rO_obj sh_54 rfl) (Nat.le_of_ble_eq_true rfl) (Nat.le_of_ble_eq_true rfl) ?_
              refine sp_stepB (b := 2) rfl (by omega) (by omega) ?_
              refine e_vret (pc := 123) (st := []) dX6_readLine_123 rfl ?_
              exact kB 2 _ _ e (by omega) (by omega) ((((FrZ.m (S1 := (up2 S.1 54 2 (nI 0), S.2)) (FrZ.rf.up (Or.inl rfl)) f1).r f).up (by omega)).up (by omega)) ⟨rfl, rfl⟩
      · replace h36 := (nI_eq (by omega) (by omega)).mp h36
        rw [if_pos (by omega)] at ho
        refine e_aload_n (pc := 39) (i := 0) dX6_readLine_39 rfl rfl ?_
        refine e_iconst' (pc := 40) (nI 5) dX6_readLine_40 (by decide) ?_
        refine e_callV1 (pc := 41) (M' := mX6_fails) dX6_readLine_41 iX6_fails lkX6_84 (by decide) (rO_obj sh_54 rfl) (Nat.le_of_ble_eq_true rfl) (Nat.le_of_ble_eq_true rfl) ?_
        refine sp_fails (s := tst N tp p) cm.2.1 cm.2.2.2.1 ?_
        refine e_iload_n (pc := 44) (i := 1) dX6_readLine_44 rfl rfl ?_
        refine e_iconst' (pc := 45) (nI 4) dX6_readLine_45 (by decide) ?_
        refine e_icmp_ne (pc := 46) (tgt := 61) dX6_readLine_46 (by decide) (fun h46 => ?_) (fun h46 => absurd ((nI_eq (by omega) (by omega)).mp h46) (by omega))
        refine e_aload_n (pc := 61) (i := 0) dX6_readLine_61 rfl rfl ?_
        refine e_aload_n (pc := 62) (i := 0) dX6_readLine_62 rfl rfl ?_
        refine e_getI (pc := 63) dX6_readLine_63 (fX6_101 rfl) sh_54 rfl ?_
        refine E.it (nI 0) h2 ?_
        refine e_if_ne (pc := 66) (tgt := 74) dX6_readLine_66 (by decide) (fun h66 => absurd (by decide) h66) (fun h66 => ?_)
        refine e_iload_n (pc := 69) (i := 1) dX6_readLine_69 rfl rfl ?_
        refine e_iconst' (pc := 70) (nI 4) dX6_readLine_70 (by decide) ?_
        refine e_icmp_ne (pc := 71) (tgt := 78) dX6_readLine_71 (by decide) (fun h71 => ?_) (fun h71 => absurd ((nI_eq (by omega) (by omega)).mp h71) (by omega))
        refine e_iconst' (pc := 78) (nI 0) dX6_readLine_78 (by decide) ?_
        refine e_putI (pc := 79) dX6_readLine_79 (pX6_101 rfl) sh_54 rfl (fun _ => by decide) ?_
        refine e_aload_n (pc := 82) (i := 0) dX6_readLine_82 rfl rfl ?_
        refine e_callV0 (pc := 83) (M' := mX6_step) dX6_readLine_83 iX6_step lkX6_88 (by decide) (rO_obj sh_54 rfl) (Nat.le_of_ble_eq_true rfl) (Nat.le_of_ble_eq_true rfl) ?_
        refine sp_stepB (b := 5) rfl (by omega) (by omega) ?_
        refine e_aload_n (pc := 86) (i := 0) dX6_readLine_86 rfl rfl ?_
        refine e_getI (pc := 87) dX6_readLine_87 (fX6_54 rfl) sh_54 rfl ?_
        refine E.it (nI 5) rfl ?_
        refine e_if_le (pc := 90) (tgt := 94) dX6_readLine_90 (by decide) (fun h90 => absurd h90 (by decide)) (fun h90 => ?_)
        refine e_vret (pc := 93) (st := []) dX6_readLine_93 rfl ?_
        exact kB 5 _ _ ho.symm (by omega) (by omega) (((FrZ.rf.up (by omega)).up (by omega)).up (by omega)) ⟨rfl, rfl⟩
    · rw [ln_n hn] at ho
      refine e_istore_n (pc := 4) (i := 1) dX6_readLine_4 rfl (by decide) rfl ?_
      refine e_iload_n (pc := 5) (i := 1) dX6_readLine_5 rfl rfl ?_
      refine e_i2l (pc := 6) dX6_readLine_6 ?_
      refine e_lconst' (pc := 7) (lN 0) dX6_readLine_7 (by decide) ?_
      refine e_ldc2 (pc := 8) dX6_readLine_8 (klX6_99 rfl) ?_
      refine e_callS3 (pc := 11) (M' := mX6_in) dX6_readLine_11 jX6_in lkX6_46 (by decide) (Nat.le_of_ble_eq_true rfl) (Nat.le_of_ble_eq_true rfl) ?_
      refine sp_inM (lo := 0) (hi := 4) (by decide) (by decide) ?_
      refine e_if_ne (pc := 14) (tgt := 23) dX6_readLine_14 (by decide) (fun h14 => absurd (by decide) h14) (fun h14 => ?_)
      refine e_aload_n (pc := 17) (i := 0) dX6_readLine_17 rfl rfl ?_
      refine e_iconst' (pc := 18) (nI 2) dX6_readLine_18 (by decide) ?_
      refine e_callV1 (pc := 19) (M' := mX6_fails) dX6_readLine_19 iX6_fails lkX6_84 (by decide) (rO_obj sh_54 rfl) (Nat.le_of_ble_eq_true rfl) (Nat.le_of_ble_eq_true rfl) ?_
      refine sp_fails (s := tst N tp p) cm.2.1 cm.2.2.2.1 ?_
      refine e_vret (pc := 22) (st := []) dX6_readLine_22 rfl ?_
      exact kB 2 _ _ ho.symm (by omega) (by omega) ((FrZ.rf.up (by omega)).up (by omega)) ⟨rfl, rfl⟩
  · refine e_aload_n (pc := 0) (i := 0) dX6_readLine_0 rfl rfl ?_
    refine e_callV0 (pc := 1) (M' := mX6_nameHere) dX6_readLine_1 iX6_nameHere lkX6_95 (by decide) (rO_obj sh_54 rfl) (Nat.le_of_ble_eq_true rfl) (Nat.le_of_ble_eq_true rfl) ?_
    refine sp_nameHere ht h8 (s := tst N tp p) (e := te N tp p) (t := tk N tp p) cm.2.2.2.2.1 tk_le (cm.2.2.1 hk0) cm.2.2.2.1 (by omega) (by omega) (fun hk1 a4 => ?_) (fun hk1 x hx ax => ?_) (fun hn => ?_)
    · rw [ln_4 hk1 a4] at ho
      unfold lnC at ho
      rw [if_pos rfl] at ho
      have hb1 := te_b (N := N) (tp := tp) hp hk0 cm.1
      refine e_istore_n (pc := 4) (i := 1) dX6_readLine_4 rfl (by decide) rfl ?_
      refine e_iload_n (pc := 5) (i := 1) dX6_readLine_5 rfl rfl ?_
      refine e_i2l (pc := 6) dX6_readLine_6 ?_
      refine e_lconst' (pc := 7) (lN 0) dX6_readLine_7 (by decide) ?_
      refine e_ldc2 (pc := 8) dX6_readLine_8 (klX6_99 rfl) ?_
      refine e_callS3 (pc := 11) (M' := mX6_in) dX6_readLine_11 jX6_in lkX6_46 (by decide) (Nat.le_of_ble_eq_true rfl) (Nat.le_of_ble_eq_true rfl) ?_
      refine sp_inC (c := 4) (lo := 0) (hi := 4) (by decide) (by decide) (by omega) (fun _ _ => ?_) (fun z => (z ⟨by omega, by omega⟩).elim)
      refine e_if_ne (pc := 14) (tgt := 23) dX6_readLine_14 (by decide) (fun h14 => ?_) (fun h14 => absurd h14 (by decide))
      refine e_iload_n (pc := 23) (i := 1) dX6_readLine_23 rfl rfl ?_
      refine e_iconst' (pc := 24) (nI 3) dX6_readLine_24 (by decide) ?_
      refine e_icmp_gt (pc := 25) (tgt := 44) dX6_readLine_25 (by decide) (fun h25 => ?_) (fun h25 => absurd (by decide) h25)
      refine e_iload_n (pc := 44) (i := 1) dX6_readLine_44 rfl rfl ?_
      refine e_iconst' (pc := 45) (nI 4) dX6_readLine_45 (by decide) ?_
      refine e_icmp_ne (pc := 46) (tgt := 61) dX6_readLine_46 (by decide) (fun h46 => absurd (by decide) h46) (fun h46 => ?_)
      refine e_aload_n (pc := 49) (i := 0) dX6_readLine_49 rfl rfl ?_
      refine e_getI (pc := 50) dX6_readLine_50 (fX6_101 rfl) sh_54 rfl ?_
      refine E.it (nI 1) h2 ?_
      refine e_if_eq (pc := 53) (tgt := 61) dX6_readLine_53 (by decide) (fun h53 => absurd h53 (by decide)) (fun h53 => ?_)
      refine e_aload_n (pc := 56) (i := 0) dX6_readLine_56 rfl rfl ?_
      refine e_iconst' (pc := 57) (nI 4) dX6_readLine_57 (by decide) ?_
      refine e_callV1 (pc := 58) (M' := mX6_fails) dX6_readLine_58 iX6_fails lkX6_84 (by decide) (rO_obj sh_54 rfl) (Nat.le_of_ble_eq_true rfl) (Nat.le_of_ble_eq_true rfl) ?_
      refine sp_fails (s := tst N tp p) cm.2.1 cm.2.2.2.1 ?_
      refine e_aload_n (pc := 61) (i := 0) dX6_readLine_61 rfl rfl ?_
      refine e_aload_n (pc := 62) (i := 0) dX6_readLine_62 rfl rfl ?_
      refine e_getI (pc := 63) dX6_readLine_63 (fX6_101 rfl) sh_54 rfl ?_
      refine E.it (nI 1) h2 ?_
      refine e_if_ne (pc := 66) (tgt := 74) dX6_readLine_66 (by decide) (fun h66 => ?_) (fun h66 => absurd h66 (by decide))
      refine e_iconst' (pc := 74) (nI 1) dX6_readLine_74 (by decide) ?_
      refine e_goto (pc := 75) (tgt := 79) dX6_readLine_75 (by decide) ?_
      refine e_putI (pc := 79) dX6_readLine_79 (pX6_101 rfl) sh_54 rfl (fun _ => by decide) ?_
      refine e_aload_n (pc := 82) (i := 0) dX6_readLine_82 rfl rfl ?_
      refine e_callV0 (pc := 83) (M' := mX6_step) dX6_readLine_83 iX6_step lkX6_88 (by decide) (rO_obj sh_54 rfl) (Nat.le_of_ble_eq_true rfl) (Nat.le_of_ble_eq_true rfl) ?_
      refine sp_stepB (b := 4) rfl (by omega) (by omega) ?_
      refine e_aload_n (pc := 86) (i := 0) dX6_readLine_86 rfl rfl ?_
      refine e_getI (pc := 87) dX6_readLine_87 (fX6_54 rfl) sh_54 rfl ?_
      refine E.it (nI 4) rfl ?_
      refine e_if_le (pc := 90) (tgt := 94) dX6_readLine_90 (by decide) (fun h90 => absurd h90 (by decide)) (fun h90 => ?_)
      refine e_vret (pc := 93) (st := []) dX6_readLine_93 rfl ?_
      exact kB 4 _ _ ho.symm (by omega) (by omega) (((FrZ.rf.up (by omega)).up (by omega)).up (by omega)) ⟨rfl, rfl⟩
    · rw [ln_x hk1 hx ax] at ho
      unfold lnW at ho
      have hb1 := te_b (N := N) (tp := tp) hp hk0 cm.1
      refine e_istore_n (pc := 4) (i := 1) dX6_readLine_4 rfl (by decide) rfl ?_
      refine e_iload_n (pc := 5) (i := 1) dX6_readLine_5 rfl rfl ?_
      refine e_i2l (pc := 6) dX6_readLine_6 ?_
      refine e_lconst' (pc := 7) (lN 0) dX6_readLine_7 (by decide) ?_
      refine e_ldc2 (pc := 8) dX6_readLine_8 (klX6_99 rfl) ?_
      refine e_callS3 (pc := 11) (M' := mX6_in) dX6_readLine_11 jX6_in lkX6_46 (by decide) (Nat.le_of_ble_eq_true rfl) (Nat.le_of_ble_eq_true rfl) ?_
      refine sp_inC (c := x) (lo := 0) (hi := 4) (by decide) (by decide) (by omega) (fun _ _ => ?_) (fun z => (z ⟨by omega, by omega⟩).elim)
      refine e_if_ne (pc := 14) (tgt := 23) dX6_readLine_14 (by decide) (fun h14 => ?_) (fun h14 => absurd h14 (by decide))
      refine e_iload_n (pc := 23) (i := 1) dX6_readLine_23 rfl rfl ?_
      refine e_iconst' (pc := 24) (nI 3) dX6_readLine_24 (by decide) ?_
      refine e_icmp_gt (pc := 25) (tgt := 44) dX6_readLine_25 (by decide) (fun h25 => absurd ((nI_ltI (by omega) (by omega)).mp h25) (by omega)) (fun h25 => ?_)
      refine e_aload_n (pc := 28) (i := 0) dX6_readLine_28 rfl rfl ?_
      refine e_getR (pc := 29) dX6_readLine_29 (fX6_13 rfl) sh_54 rfl ?_
      refine e_bipush' (pc := 32) (nI 20) dX6_readLine_32 (by decide) ?_
      refine e_iald (pc := 34) dX6_readLine_34 sh_56 (vp_in_nI (by decide) (by decide)) ?_
      refine E.it (nI (R 20)) pr.1 ?_
      refine e_iconst' (pc := 35) (nI 5) dX6_readLine_35 (by decide) ?_
      refine e_icmp_ne (pc := 36) (tgt := 44) dX6_readLine_36 (by decide) (fun h36 => ?_) (fun h36 => ?_)
      · replace h36 := mt (nI_eq (by omega) (by omega)).mpr h36
        rw [if_neg (by omega)] at ho
        refine e_iload_n (pc := 44) (i := 1) dX6_readLine_44 rfl rfl ?_
        refine e_iconst' (pc := 45) (nI 4) dX6_readLine_45 (by decide) ?_
        refine e_icmp_ne (pc := 46) (tgt := 61) dX6_readLine_46 (by decide) (fun h46 => ?_) (fun h46 => absurd ((nI_eq (by omega) (by omega)).mp h46) (by omega))
        refine e_aload_n (pc := 61) (i := 0) dX6_readLine_61 rfl rfl ?_
        refine e_aload_n (pc := 62) (i := 0) dX6_readLine_62 rfl rfl ?_
        refine e_getI (pc := 63) dX6_readLine_63 (fX6_101 rfl) sh_54 rfl ?_
        refine E.it (nI 1) h2 ?_
        refine e_if_ne (pc := 66) (tgt := 74) dX6_readLine_66 (by decide) (fun h66 => ?_) (fun h66 => absurd h66 (by decide))
        refine e_iconst' (pc := 74) (nI 1) dX6_readLine_74 (by decide) ?_
        refine e_goto (pc := 75) (tgt := 79) dX6_readLine_75 (by decide) ?_
        refine e_putI (pc := 79) dX6_readLine_79 (pX6_101 rfl) sh_54 rfl (fun _ => by decide) ?_
        refine e_aload_n (pc := 82) (i := 0) dX6_readLine_82 rfl rfl ?_
        refine e_callV0 (pc := 83) (M' := mX6_step) dX6_readLine_83 iX6_step lkX6_88 (by decide) (rO_obj sh_54 rfl) (Nat.le_of_ble_eq_true rfl) (Nat.le_of_ble_eq_true rfl) ?_
        refine sp_stepG (S := (up2 S.1 54 2 (nI 1), S.2)) (p := te N tp p) ht (by omega) cm.2.1 (cm.2.2.1 hk0) (fun S1 f1 a1 => ?_)
        rcases a1 with ⟨z4, g1⟩ | c1
        · rw [nB_4 z4] at ho
          refine e_aload_n (pc := 86) (i := 0) dX6_readLine_86 rfl rfl ?_
          refine e_getI (pc := 87) dX6_readLine_87 (fX6_54 rfl) sh_54 rfl ?_
          refine E.it (nI 1) g1.1 ?_
          refine e_if_le (pc := 90) (tgt := 94) dX6_readLine_90 (by decide) (fun h90 => absurd h90 (by decide)) (fun h90 => ?_)
          refine e_vret (pc := 93) (st := []) dX6_readLine_93 rfl ?_
          exact kB 1 _ S1 ho.symm (by omega) (by omega) (FrZ.m (S1 := (up2 S.1 54 2 (nI 1), S.2)) (FrZ.rf.up (Or.inl rfl)) f1) g1
        · refine e_aload_n (pc := 86) (i := 0) dX6_readLine_86 rfl rfl ?_
          refine e_getI (pc := 87) dX6_readLine_87 (fX6_54 rfl) sh_54 rfl ?_
          refine E.it (nI 0) c1.2.1 ?_
          refine e_if_le (pc := 90) (tgt := 94) dX6_readLine_90 (by decide) (fun h90 => ?_) (fun h90 => absurd (by decide) h90)
          refine e_aload_n (pc := 94) (i := 0) dX6_readLine_94 rfl rfl ?_
          refine e_iload_n (pc := 95) (i := 1) dX6_readLine_95 rfl rfl ?_
          refine e_callV1 (pc := 96) (M' := mX6_readMore) dX6_readLine_96 iX6_readMore lkX6_105 (by decide) (rO_obj sh_54 rfl) (Nat.le_of_ble_eq_true rfl) (Nat.le_of_ble_eq_true rfl) ?_
          refine sp_readW (S := S1) (cdn := 1) (p := te N tp p) (TpM.m (S := (up2 S.1 54 2 (nI 1), S.2)) ht f1) (by omega) hv hc9 (pr.of (f1.1 56 (by decide))) c1 (x := x) (cd := true) hx (by omega) rfl ho (fun c s S2 e h1 h2_ f g => ?_) (fun R2 cd2 q S2 e f pr2 hv2 hc2 c2 q1 q2 hcd2 => ?_)
          · refine e_aload_n (pc := 99) (i := 0) dX6_readLine_99 rfl rfl ?_
            refine e_getI (pc := 100) dX6_readLine_100 (fX6_54 rfl) sh_54 rfl ?_
            refine E.it (nI c) g.1 ?_
            refine e_if_ne (pc := 103) (tgt := 119) dX6_readLine_103 (by decide) (fun h103 => ?_) (fun h103 => absurd h103 (nI_ne0 h1 (by omega)))
            refine e_aload_n (pc := 119) (i := 0) dX6_readLine_119 rfl rfl ?_
            refine e_callV0 (pc := 120) (M' := mX6_step) dX6_readLine_120 iX6_step lkX6_88 (by decide) (rO_obj sh_54 rfl) (Nat.le_of_ble_eq_true rfl) (Nat.le_of_ble_eq_true rfl) ?_
            refine sp_stepB g.1 h1 h2_ ?_
            refine e_vret (pc := 123) (st := []) dX6_readLine_123 rfl ?_
            exact kB c s S2 e h1 h2_ ((FrZ.m (S1 := (up2 S.1 54 2 (nI 1), S.2)) (FrZ.rf.up (Or.inl rfl)) f1).r f) g
          · unfold eB at e
            rw [if_neg c2.1] at e
            have htq := tk_le (N := N) (tp := tp) (p := q)
            refine e_aload_n (pc := 99) (i := 0) dX6_readLine_99 rfl rfl ?_
            refine e_getI (pc := 100) dX6_readLine_100 (fX6_54 rfl) sh_54 rfl ?_
            refine E.it (nI 0) c2.2.1 ?_
            refine e_if_ne (pc := 103) (tgt := 119) dX6_readLine_103 (by decide) (fun h103 => absurd (by decide) h103) (fun h103 => ?_)
            refine e_aload_n (pc := 106) (i := 0) dX6_readLine_106 rfl rfl ?_
            refine e_getI (pc := 107) dX6_readLine_107 (fX6_63 rfl) sh_54 rfl ?_
            refine E.it (nI (tk N tp q)) c2.2.2.2.2.1 ?_
            refine e_iconst' (pc := 110) (nI 3) dX6_readLine_110 (by decide) ?_
            refine e_icmp_eq (pc := 111) (tgt := 119) dX6_readLine_111 (by decide) (fun h111 => ?_) (fun h111 => ?_)
            · replace h111 := (nI_eq (by omega) (by omega)).mp h111
              rw [if_pos h111] at e
              have hbq := te_b (N := N) (tp := tp) q2 (by omega) c2.1
              refine e_aload_n (pc := 119) (i := 0) dX6_readLine_119 rfl rfl ?_
              refine e_callV0 (pc := 120) (M' := mX6_step) dX6_readLine_120 iX6_step lkX6_88 (by decide) (rO_obj sh_54 rfl) (Nat.le_of_ble_eq_true rfl) (Nat.le_of_ble_eq_true rfl) ?_
              refine sp_stepG (p := te N tp q) ((ht.z (FrZ.m (S1 := (up2 S.1 54 2 (nI 1), S.2)) (FrZ.rf.up (Or.inl rfl)) f1)).r f) hbq.2.1 c2.2.1 (c2.2.2.1 (by omega)) (fun S3 f3 a3 => ?_)
              refine e_vret (pc := 123) (st := []) dX6_readLine_123 rfl ?_
              refine kO R2 cd2 _ S3 e (((FrZ.m (S1 := (up2 S.1 54 2 (nI 1), S.2)) (FrZ.rf.up (Or.inl rfl)) f1).r f).m f3) (pr2.of (f3.1 56 (by decide))) hv2 hc2 ?_ a3 (by omega) (by omega)
              rw [hcd2, f3.2 2 (by omega), f.2 2 (by omega), f1.2 2 (by omega)]; rfl
            · replace h111 := mt (nI_eq (by omega) (by omega)).mpr h111
              rw [if_neg h111] at e
              refine e_aload_n (pc := 114) (i := 0) dX6_readLine_114 rfl rfl ?_
              refine e_iconst' (pc := 115) (nI 2) dX6_readLine_115 (by decide) ?_
              refine e_callV1 (pc := 116) (M' := mX6_fails) dX6_readLine_116 iX6_fails lkX6_84 (by decide) (rO_obj sh_54 rfl) (Nat.le_of_ble_eq_true rfl) (Nat.le_of_ble_eq_true rfl) ?_
              refine sp_fails (s := tst N tp q) c2.2.1 c2.2.2.2.1 ?_
              refine e_aload_n (pc := 119) (i := 0) dX6_readLine_119 rfl rfl ?_
              refine e_callV0 (pc := 120) (M' := mX6_step) dX6_readLine_120 iX6_step lkX6_88 (by decide) (rO_obj sh_54 rfl) (Nat.le_of_ble_eq_true rfl) (Nat.le_of_ble_eq_true rfl) ?_
              refine sp_stepB (b := 2) rfl (by omega) (by omega) ?_
              refine e_vret (pc := 123) (st := []) dX6_readLine_123 rfl ?_
              exact kB 2 _ _ e (by omega) (by omega) ((((FrZ.m (S1 := (up2 S.1 54 2 (nI 1), S.2)) (FrZ.rf.up (Or.inl rfl)) f1).r f).up (by omega)).up (by omega)) ⟨rfl, rfl⟩
      · replace h36 := (nI_eq (by omega) (by omega)).mp h36
        rw [if_pos (by omega)] at ho
        refine e_aload_n (pc := 39) (i := 0) dX6_readLine_39 rfl rfl ?_
        refine e_iconst' (pc := 40) (nI 5) dX6_readLine_40 (by decide) ?_
        refine e_callV1 (pc := 41) (M' := mX6_fails) dX6_readLine_41 iX6_fails lkX6_84 (by decide) (rO_obj sh_54 rfl) (Nat.le_of_ble_eq_true rfl) (Nat.le_of_ble_eq_true rfl) ?_
        refine sp_fails (s := tst N tp p) cm.2.1 cm.2.2.2.1 ?_
        refine e_iload_n (pc := 44) (i := 1) dX6_readLine_44 rfl rfl ?_
        refine e_iconst' (pc := 45) (nI 4) dX6_readLine_45 (by decide) ?_
        refine e_icmp_ne (pc := 46) (tgt := 61) dX6_readLine_46 (by decide) (fun h46 => ?_) (fun h46 => absurd ((nI_eq (by omega) (by omega)).mp h46) (by omega))
        refine e_aload_n (pc := 61) (i := 0) dX6_readLine_61 rfl rfl ?_
        refine e_aload_n (pc := 62) (i := 0) dX6_readLine_62 rfl rfl ?_
        refine e_getI (pc := 63) dX6_readLine_63 (fX6_101 rfl) sh_54 rfl ?_
        refine E.it (nI 1) h2 ?_
        refine e_if_ne (pc := 66) (tgt := 74) dX6_readLine_66 (by decide) (fun h66 => ?_) (fun h66 => absurd h66 (by decide))
        refine e_iconst' (pc := 74) (nI 1) dX6_readLine_74 (by decide) ?_
        refine e_goto (pc := 75) (tgt := 79) dX6_readLine_75 (by decide) ?_
        refine e_putI (pc := 79) dX6_readLine_79 (pX6_101 rfl) sh_54 rfl (fun _ => by decide) ?_
        refine e_aload_n (pc := 82) (i := 0) dX6_readLine_82 rfl rfl ?_
        refine e_callV0 (pc := 83) (M' := mX6_step) dX6_readLine_83 iX6_step lkX6_88 (by decide) (rO_obj sh_54 rfl) (Nat.le_of_ble_eq_true rfl) (Nat.le_of_ble_eq_true rfl) ?_
        refine sp_stepB (b := 5) rfl (by omega) (by omega) ?_
        refine e_aload_n (pc := 86) (i := 0) dX6_readLine_86 rfl rfl ?_
        refine e_getI (pc := 87) dX6_readLine_87 (fX6_54 rfl) sh_54 rfl ?_
        refine E.it (nI 5) rfl ?_
        refine e_if_le (pc := 90) (tgt := 94) dX6_readLine_90 (by decide) (fun h90 => absurd h90 (by decide)) (fun h90 => ?_)
        refine e_vret (pc := 93) (st := []) dX6_readLine_93 rfl ?_
        exact kB 5 _ _ ho.symm (by omega) (by omega) (((FrZ.rf.up (by omega)).up (by omega)).up (by omega)) ⟨rfl, rfl⟩
    · rw [ln_n hn] at ho
      refine e_istore_n (pc := 4) (i := 1) dX6_readLine_4 rfl (by decide) rfl ?_
      refine e_iload_n (pc := 5) (i := 1) dX6_readLine_5 rfl rfl ?_
      refine e_i2l (pc := 6) dX6_readLine_6 ?_
      refine e_lconst' (pc := 7) (lN 0) dX6_readLine_7 (by decide) ?_
      refine e_ldc2 (pc := 8) dX6_readLine_8 (klX6_99 rfl) ?_
      refine e_callS3 (pc := 11) (M' := mX6_in) dX6_readLine_11 jX6_in lkX6_46 (by decide) (Nat.le_of_ble_eq_true rfl) (Nat.le_of_ble_eq_true rfl) ?_
      refine sp_inM (lo := 0) (hi := 4) (by decide) (by decide) ?_
      refine e_if_ne (pc := 14) (tgt := 23) dX6_readLine_14 (by decide) (fun h14 => absurd (by decide) h14) (fun h14 => ?_)
      refine e_aload_n (pc := 17) (i := 0) dX6_readLine_17 rfl rfl ?_
      refine e_iconst' (pc := 18) (nI 2) dX6_readLine_18 (by decide) ?_
      refine e_callV1 (pc := 19) (M' := mX6_fails) dX6_readLine_19 iX6_fails lkX6_84 (by decide) (rO_obj sh_54 rfl) (Nat.le_of_ble_eq_true rfl) (Nat.le_of_ble_eq_true rfl) ?_
      refine sp_fails (s := tst N tp p) cm.2.1 cm.2.2.2.1 ?_
      refine e_vret (pc := 22) (st := []) dX6_readLine_22 rfl ?_
      exact kB 2 _ _ ho.symm (by omega) (by omega) ((FrZ.rf.up (by omega)).up (by omega)) ⟨rfl, rfl⟩
theorem lm_textL {sc : PSc} {N : Nat} {tp : Nat → Nat} {S0 : PS} {Q : PQ} (ht : TpM S0 N tp) (h8 : I8 S0) {z : Value} {ou : (Nat × Nat) ⊕ (Nat × Rw)} (kB : ∀ c s S' L', ou = .inl (c, s) → 0 < c → c < 8 → FrZ S0 S' → BadM S' c s → E sc mX6_text 66 [.ref 54, .int (nI L'), z] [] S' Q) (kO : ∀ L' R' S', ou = .inr (L', R') → FrZ S0 S' → PrAt S' R' → Vd R' → R' 21 ≤ 99 → S'.1 54 6 = nI 0 → E sc mX6_text 66 [.ref 54, .int (nI L'), z] [] S' Q) : ∀ (n : Nat) (p L : Nat) (cd : Bool) (R : Rw) (S : PS), p ≤ N → N - p < n → FrZ S0 S → Aft S N tp p → Vd R → R 21 ≤ 99 → PrAt S R → S.1 54 2 = nI (if cd then 1 else 0) → psT N tp n p L cd R = ou → E sc mX6_text 42 [.ref 54, .int (nI L), z] [] S Q := by
  intro n
  induction n with
  | zero => intro p L cd R S hp hn hf ha hv hc9 pr h2 ho; exact absurd hn (by omega)
  | succ n ih =>
    intro p L cd R S hp hn hf ha hv hc9 pr h2 ho
    rw [psT] at ho
    have htk := tk_le (N := N) (tp := tp) (p := p)
    rcases ha with ⟨z4, g1⟩ | cm
    · rw [if_pos z4] at ho
      refine e_aload_n (pc := 42) (i := 0) dX6_text_42 rfl rfl ?_
      refine e_getI (pc := 43) dX6_text_43 (fX6_54 rfl) sh_54 rfl ?_
      refine E.it (nI 1) g1.1 ?_
      refine e_if_ne (pc := 46) (tgt := 66) dX6_text_46 (by decide) (fun h46 => ?_) (fun h46 => absurd h46 (by decide))
      exact kB 1 _ S L ho.symm (by omega) (by omega) hf g1
    · rw [if_neg cm.1] at ho
      refine e_aload_n (pc := 42) (i := 0) dX6_text_42 rfl rfl ?_
      refine e_getI (pc := 43) dX6_text_43 (fX6_54 rfl) sh_54 rfl ?_
      refine E.it (nI 0) cm.2.1 ?_
      refine e_if_ne (pc := 46) (tgt := 66) dX6_text_46 (by decide) (fun h46 => absurd (by decide) h46) (fun h46 => ?_)
      refine e_aload_n (pc := 49) (i := 0) dX6_text_49 rfl rfl ?_
      refine e_getI (pc := 50) dX6_text_50 (fX6_63 rfl) sh_54 rfl ?_
      refine E.it (nI (tk N tp p)) cm.2.2.2.2.1 ?_
      refine e_if_eq (pc := 53) (tgt := 66) dX6_text_53 (by decide) (fun h53 => ?_) (fun h53 => ?_)
      · rw [← nI_0] at h53
        replace h53 := (nI_eq (by omega) (by omega)).mp h53
        rw [if_pos h53] at ho
        exact kO L R S ho.symm hf pr hv hc9 cm.2.1
      · rw [← nI_0] at h53
        replace h53 := mt (nI_eq (by omega) (by omega)).mpr h53
        rw [if_neg h53] at ho
        refine e_aload_n (pc := 56) (i := 0) dX6_text_56 rfl rfl ?_
        refine e_callV0 (pc := 57) (M' := mX6_readLine) dX6_text_57 iX6_readLine lkX6_108 (by decide) (rO_obj sh_54 rfl) (Nat.le_of_ble_eq_true rfl) (Nat.le_of_ble_eq_true rfl) ?_
        refine sp_readLine (ou := ln N tp R cd p) (ht.z hf) (h8.z hf) hp h53 cm hv hc9 pr h2 rfl (fun c s S2 e h1 h2 f g => ?_) (fun R1 cd1 p1 S2 e f pr1 hv1 hc1 hd1 a1 q1 q2 => ?_)
        · rw [e] at ho
          refine e_iinc' (pc := 60) (nI (L + 1)) dX6_text_60 rfl (by decide) rfl (nI_1 _) ?_
          refine e_goto (pc := 63) (tgt := 42) dX6_text_63 (by decide) ?_
          refine e_aload_n (pc := 42) (i := 0) dX6_text_42 rfl rfl ?_
          refine e_getI (pc := 43) dX6_text_43 (fX6_54 rfl) sh_54 rfl ?_
          refine E.it (nI c) g.1 ?_
          refine e_if_ne (pc := 46) (tgt := 66) dX6_text_46 (by decide) (fun h46 => ?_) (fun h46 => absurd h46 (nI_ne0 h1 (by omega)))
          exact kB c s S2 _ ho.symm h1 h2 (hf.tr f) g
        · rw [e] at ho
          refine e_iinc' (pc := 60) (nI (L + 1)) dX6_text_60 rfl (by decide) rfl (nI_1 _) ?_
          refine e_goto (pc := 63) (tgt := 42) dX6_text_63 (by decide) ?_
          exact ih p1 (L + 1) cd1 R1 S2 q2 (by omega) (hf.tr f) a1 hv1 hc1 pr1 hd1 ho
theorem lm_zero {sc : PSc} {x : Int32} {S0 : PS} {Q : PQ} (k : ∀ S' z, (∀ q, q < 22 → S'.1 56 q = nI 0) → (∀ j, j ≠ 56 → S'.1 j = S0.1 j) → E sc mX6_text 38 [.ref 54, .int x, .int z] [] S' Q) : ∀ (n : Nat) (j : Nat) (S : PS), j ≤ 22 → 22 - j < n → (∀ q, q < j → S.1 56 q = nI 0) → (∀ i, i ≠ 56 → S.1 i = S0.1 i) → E sc mX6_text 19 [.ref 54, .int x, .int (nI j)] [] S Q := by
  intro n
  induction n with
  | zero => intro j S hj hn hq hf; exact absurd hn (by omega)
  | succ n ih =>
    intro j S hj hn hq hf
    refine e_iload_n (pc := 19) (i := 2) dX6_text_19 rfl rfl ?_
    refine e_bipush' (pc := 20) (nI 22) dX6_text_20 (by decide) ?_
    refine e_icmp_ge (pc := 22) (tgt := 38) dX6_text_22 (by decide) (fun h22 => ?_) (fun h22 => ?_)
    · replace h22 := (nI_leI (by omega) (by omega)).mp h22
      obtain rfl : j = 22 := by omega
      exact k S _ hq hf
    · replace h22 := mt (nI_leI (by omega) (by omega)).mpr h22
      refine e_aload_n (pc := 25) (i := 0) dX6_text_25 rfl rfl ?_
      refine e_getR (pc := 26) dX6_text_26 (fX6_13 rfl) sh_54 rfl ?_
      refine e_iload_n (pc := 29) (i := 2) dX6_text_29 rfl rfl ?_
      refine e_iconst' (pc := 30) (nI 0) dX6_text_30 (by decide) ?_
      refine e_iast (pc := 31) dX6_text_31 sh_56 (vp_in_nI (by omega) (by omega)) ?_
      rw [nI_clamp (show j < 2 ^ 31 by omega)]
      refine e_iinc' (pc := 32) (nI (j + 1)) dX6_text_32 rfl (by decide) rfl (nI_1 _) ?_
      refine e_goto (pc := 35) (tgt := 19) dX6_text_35 (by decide) ?_
      refine ih (j + 1) _ (by omega) (by omega) (fun q hq2 => ?_) (fun i hi => (up2_ne _ _ _ hi).trans (hf i hi))
      show up2 S.1 56 j (nI 0) 56 q = _
      rw [up2_at]
      by_cases e : q = j
      · exact if_pos e
      · exact (if_neg e).trans (hq q (by omega))
theorem lm_copyR {sc : PSc} {x : Int32} {S0 : PS} {Q : PQ} (k : ∀ S' z, (∀ q, q < 22 → S'.1 55 q = S0.1 56 q) → (∀ q, 22 ≤ q → S'.1 55 q = S0.1 55 q) → (∀ j, j ≠ 55 → S'.1 j = S0.1 j) → E sc mX6_text 120 [.ref 54, .int x, .int z] [] S' Q) : ∀ (n : Nat) (j : Nat) (S : PS), j ≤ 22 → 22 - j < n → (∀ q, q < j → S.1 55 q = S0.1 56 q) → (∀ q, 22 ≤ q → S.1 55 q = S0.1 55 q) → (∀ i, i ≠ 55 → S.1 i = S0.1 i) → E sc mX6_text 96 [.ref 54, .int x, .int (nI j)] [] S Q := by
  intro n
  induction n with
  | zero => intro j S hj hn hq hg hf; exact absurd hn (by omega)
  | succ n ih =>
    intro j S hj hn hq hg hf
    refine e_iload_n (pc := 96) (i := 2) dX6_text_96 rfl rfl ?_
    refine e_bipush' (pc := 97) (nI 22) dX6_text_97 (by decide) ?_
    refine e_icmp_ge (pc := 99) (tgt := 120) dX6_text_99 (by decide) (fun h99 => ?_) (fun h99 => ?_)
    · replace h99 := (nI_leI (by omega) (by omega)).mp h99
      obtain rfl : j = 22 := by omega
      exact k S _ hq hg hf
    · replace h99 := mt (nI_leI (by omega) (by omega)).mpr h99
      refine e_aload_n (pc := 102) (i := 0) dX6_text_102 rfl rfl ?_
      refine e_getR (pc := 103) dX6_text_103 (fX6_7 rfl) sh_54 rfl ?_
      refine e_iload_n (pc := 106) (i := 2) dX6_text_106 rfl rfl ?_
      refine e_aload_n (pc := 107) (i := 0) dX6_text_107 rfl rfl ?_
      refine e_getR (pc := 108) dX6_text_108 (fX6_13 rfl) sh_54 rfl ?_
      refine e_iload_n (pc := 111) (i := 2) dX6_text_111 rfl rfl ?_
      refine e_iald (pc := 112) dX6_text_112 sh_56 (vp_in_nI (by omega) (by omega)) ?_
      refine E.it (S0.1 56 j) (by rw [nI_clamp (by omega), hf 56 (by omega)]) ?_
      refine e_iast (pc := 113) dX6_text_113 sh_55 (vp_in_nI (by omega) (by omega)) ?_
      rw [nI_clamp (show j < 2 ^ 31 by omega)]
      refine e_iinc' (pc := 114) (nI (j + 1)) dX6_text_114 rfl (by decide) rfl (nI_1 _) ?_
      refine e_goto (pc := 117) (tgt := 96) dX6_text_117 (by decide) ?_
      refine ih (j + 1) _ (by omega) (by omega) (fun q hq2 => ?_) (fun q hq2 => ?_) (fun i hi => (up2_ne _ _ _ hi).trans (hf i hi))
      · show up2 S.1 55 j _ 55 q = _
        rw [up2_at]
        by_cases e : q = j
        · subst e; exact if_pos rfl
        · exact (if_neg e).trans (hq q (by omega))
      · show up2 S.1 55 j _ 55 q = _
        rw [up2_at]; exact (if_neg (by omega)).trans (hg q hq2)
theorem lp_kept {sc : PSc} {x : Int32} {S0 : PS} {Q : PQ} (k : ∀ S' z, (∀ q, q < 2 → S'.1 22 q = nI 0) → (∀ j, j ≠ 22 → S'.1 j = S0.1 j) → E sc mX5_text 74 [.ref 0, .int x, .int z] [] S' Q) : ∀ (n : Nat) (j : Nat) (S : PS), j ≤ 2 → 2 - j < n → (∀ q, q < j → S.1 22 q = nI 0) → (∀ i, i ≠ 22 → S.1 i = S0.1 i) → E sc mX5_text 56 [.ref 0, .int x, .int (nI j)] [] S Q := by
  intro n
  induction n with
  | zero => intro j S hj hn hq hf; exact absurd hn (by omega)
  | succ n ih =>
    intro j S hj hn hq hf
    refine e_iload_n (pc := 56) (i := 2) dX5_text_56 rfl rfl ?_
    refine e_iconst' (pc := 57) (nI 2) dX5_text_57 (by decide) ?_
    refine e_icmp_ge (pc := 58) (tgt := 74) dX5_text_58 (by decide) (fun h58 => ?_) (fun h58 => ?_)
    · replace h58 := (nI_leI (by omega) (by omega)).mp h58
      obtain rfl : j = 2 := by omega
      exact k S _ hq hf
    · replace h58 := mt (nI_leI (by omega) (by omega)).mpr h58
      refine e_aload_n (pc := 61) (i := 0) dX5_text_61 rfl rfl ?_
      refine e_getR (pc := 62) dX5_text_62 (fX5_23 rfl) sh_0 rfl ?_
      refine e_iload_n (pc := 65) (i := 2) dX5_text_65 rfl rfl ?_
      refine e_iconst' (pc := 66) (nI 0) dX5_text_66 (by decide) ?_
      refine e_zast (pc := 67) dX5_text_67 sh_22 (vp_in_nI (by omega) (by omega)) ?_
      rw [nI_clamp (show j < 2 ^ 31 by omega)]
      refine e_iinc' (pc := 68) (nI (j + 1)) dX5_text_68 rfl (by decide) rfl (nI_1 _) ?_
      refine e_goto (pc := 71) (tgt := 56) dX5_text_71 (by decide) ?_
      refine ih (j + 1) _ (by omega) (by omega) (fun q hq2 => ?_) (fun i hi => (up2_ne _ _ _ hi).trans (hf i hi))
      show up2 S.1 22 j _ 22 q = _
      rw [up2_at]
      by_cases e : q = j
      · exact (if_pos e).trans (by decide)
      · exact (if_neg e).trans (hq q (by omega))
theorem I2.of {S S' : PS} {k : Nat} (hk : k < 2) (h1 : S'.1 22 = S.1 22) (h2 : S'.1 62 = S.1 62) (h3 : ∀ j, 11 ≤ j → j ≤ 20 → S'.1 j = S.1 j) (h4 : ∀ q, 22 ≤ q → q < 66 → S'.1 55 q = S.1 55 q) (hi : I2 S k) : I2 S' k := by
  unfold I2 at hi ⊢
  rw [h1, h2]
  rcases hi with hi | ⟨a, b, R, c, d, e, f⟩
  · exact Or.inl hi
  · refine Or.inr ⟨a, b, R, c, d, ?_, f.of (fun q h1 h2 => h4 q (by omega) (by omega)) c.1⟩
    obtain ⟨x, y, z⟩ := e
    have e : ∀ q, 11 + 5 * k ≤ q → q < 11 + 5 * k + 5 → S'.1 q = S.1 q := fun q h1 h2 => h3 q (by omega) (by omega)
    refine ⟨by rw [e _ (by omega) (by omega)]; exact x, by rw [e _ (by omega) (by omega)]; exact y, fun w hw => ?_⟩
    rw [e (11 + 5 * k + 1) (by omega) (by omega), e (11 + 5 * k + 2) (by omega) (by omega), e (11 + 5 * k + 3) (by omega) (by omega), e (11 + 5 * k + 4) (by omega) (by omega)]
    exact z w hw
theorem Inv_txt {S S' : PS} (hI : InvS S) (h1 : I1 S') (h2 : I2 S' 0 ∧ I2 S' 1) (h3 : S'.1 23 1 = nI 0) (h4 : S'.1 54 4 = nI 0) (h5 : S'.1 25 1 = S'.1 54 5) (h6 : ∃ n sp sv, I5 S' n sp sv) (h7 : ∀ j, ((30 ≤ j ∧ j ≤ 37) ∨ (63 ≤ j ∧ j ≤ 65) ∨ j = 58 ∨ j = 59 ∨ j = 0) → S'.1 j = S.1 j) (h8 : S'.1 54 24 = S.1 54 24) : InvS S' := by
  refine ⟨h1, h2, ⟨0, fun _ => 0, Nat.zero_le _, h3, h4, fun k hk => absurd hk (Nat.not_lt_zero k)⟩, h5, h6, fun k hk => ?_, ?_, ?_⟩
  · exact (hI.2.2.2.2.2.1 k hk).of (h7 _ (by omega)) (h7 _ (by omega)) (by rw [h7 63 (by omega)]) (by rw [h7 64 (by omega)]) (fun i _ => by rw [h7 65 (by omega)])
  · rw [h7 0 (by omega), h8]; exact hI.2.2.2.2.2.2.1
  · have := hI.2.2.2.2.2.2.2
    unfold I8 at this ⊢
    rw [h7 58 (by omega), h7 59 (by omega)]; exact this
theorem PrAt.pg {S S' : PS} {R : Rw} (hv : Vd R) (h : PrAt S R) (e : ∀ q, q < 22 → S'.1 55 q = S.1 56 q) : PgAt S' 0 R := by
  have h5 := hv.1
  obtain ⟨a, b, c, d⟩ := h
  refine ⟨(e 20 (by omega)).trans a, (e 21 (by omega)).trans b, fun w hw => ?_⟩
  obtain ⟨c0, c1, c2, c3⟩ := c w hw
  rw [show 0 + w = w by omega, show 0 + 5 + w = 5 + w by omega, show 0 + 10 + w = 10 + w by omega, show 0 + 15 + w = 15 + w by omega]
  exact ⟨(e _ (by omega)).trans c0, (e _ (by omega)).trans c1, (e _ (by omega)).trans c2, (e _ (by omega)).trans c3⟩
theorem sp_textM {sc : PSc} {N : Nat} {tp : Nat → Nat} {S : PS} {Q : PQ} (ht : TpM S N tp) (h8 : I8 S) {ou : (Nat × Nat) ⊕ (Nat × Rw)} (ho : psT N tp (N + 1) 0 0 false R0 = ou) (kB : ∀ c s S', ou = .inl (c, s) → (∀ j, j ≠ 54 → j ≠ 56 → S'.1 j = S.1 j) → (∀ k, (k < 2 ∨ k = 3 ∨ 12 ≤ k) → S'.1 54 k = S.1 54 k) → S'.1 54 4 = nI 0 → S'.1 54 5 = nI c → Q (some (.int (-10 - nI s))) S') (kO : ∀ L R S', ou = .inr (L, R) → Vd R → R 21 ≤ 99 → PgAt S' 0 R → (∀ j, j ≠ 54 → j ≠ 55 → j ≠ 56 → j ≠ 62 → S'.1 j = S.1 j) → (∀ q, 22 ≤ q → S'.1 55 q = S.1 55 q) → (∀ k, (k < 2 ∨ k = 3 ∨ (12 ≤ k ∧ k ≠ 18)) → S'.1 54 k = S.1 54 k) → S'.1 54 4 = nI 0 → S'.1 54 5 = nI 0 → S'.1 54 18 = nI 0 → S'.1 62 0 = nI 0 → S'.1 62 1 = nI 0 → Q (some (.int (nI L))) S') : E sc mX6_text 0 (pL0 mX6_text [.ref 54]) [] S Q := by
  show E sc mX6_text 0 [.ref 54, .null, .null] [] S Q
  refine e_aload_n (pc := 0) (i := 0) dX6_text_0 rfl rfl ?_
  refine e_iconst' (pc := 1) (nI 0) dX6_text_1 (by decide) ?_
  refine e_putI (pc := 2) dX6_text_2 (pX6_54 rfl) sh_54 rfl (fun h => by cases h) ?_
  refine e_aload_n (pc := 5) (i := 0) dX6_text_5 rfl rfl ?_
  refine e_iconst' (pc := 6) (nI 0) dX6_text_6 (by decide) ?_
  refine e_putI (pc := 7) dX6_text_7 (pX6_66 rfl) sh_54 rfl (fun h => by cases h) ?_
  refine e_aload_n (pc := 10) (i := 0) dX6_text_10 rfl rfl ?_
  refine e_iconst' (pc := 11) (nI 0) dX6_text_11 (by decide) ?_
  refine e_putI (pc := 12) dX6_text_12 (pX6_101 rfl) sh_54 rfl (fun _ => by decide) ?_
  refine e_iconst' (pc := 15) (nI 0) dX6_text_15 (by decide) ?_
  refine e_istore_n (pc := 16) (i := 1) dX6_text_16 rfl (by decide) rfl ?_
  refine e_iconst' (pc := 17) (nI 0) dX6_text_17 (by decide) ?_
  refine e_istore_n (pc := 18) (i := 2) dX6_text_18 rfl (by decide) rfl ?_
  refine lm_zero (S0 := (up2 (up2 (up2 S.1 54 6 (nI 0)) 54 8 (nI 0)) 54 2 (nI 0), S.2)) (fun Sz z hz1 hz2 => ?_) 23 0 _ (by omega) (by omega) (fun q hq => by omega) (fun _ _ => rfl)
  have hz54 : Sz.1 54 = up2 (up2 (up2 S.1 54 6 (nI 0)) 54 8 (nI 0)) 54 2 (nI 0) 54 := hz2 54 (by omega)
  have ht2 : TpM Sz N tp := ht.of (by rw [hz54]; rfl) (by rw [hz2 57 (by omega)]; rfl)
  have h82 : I8 Sz := by
    unfold I8 at h8 ⊢
    rw [hz2 58 (by omega), hz2 59 (by omega)]; exact h8
  refine e_aload_n (pc := 38) (i := 0) dX6_text_38 rfl rfl ?_
  refine e_callV0 (pc := 39) (M' := mX6_step) dX6_text_39 iX6_step lkX6_88 (by decide) (rO_obj sh_54 rfl) (Nat.le_of_ble_eq_true rfl) (Nat.le_of_ble_eq_true rfl) ?_
  refine sp_stepG ht2 (p := 0) (Nat.zero_le _) (by rw [hz54]; rfl) (by rw [hz54]; rfl) (fun Sr fr ar => ?_)
  refine lm_textL (S0 := Sr) (ht2.m fr) (h82.z (FrZ.rf.m fr)) (fun c s Sf L e h1 h2 fz g => ?_) (fun L R Sf e fz pr hv hc9 g6 => ?_) (N + 1) 0 0 false R0 Sr (by omega) (by omega) FrZ.rf ar R0_vd (Nat.zero_le _) ?_ ?_ ho
  · refine e_aload_n (pc := 66) (i := 0) dX6_text_66 rfl rfl ?_
    refine e_iconst' (pc := 67) (nI 0) dX6_text_67 (by decide) ?_
    refine e_putI (pc := 68) dX6_text_68 (pX6_50 rfl) sh_54 rfl (fun h => by cases h) ?_
    refine e_aload_n (pc := 71) (i := 0) dX6_text_71 rfl rfl ?_
    refine e_aload_n (pc := 72) (i := 0) dX6_text_72 rfl rfl ?_
    refine e_getI (pc := 73) dX6_text_73 (fX6_54 rfl) sh_54 rfl ?_
    refine E.it (nI c) g.1 ?_
    refine e_putI (pc := 76) dX6_text_76 (pX6_111 rfl) sh_54 rfl (fun h => by cases h) ?_
    refine e_aload_n (pc := 79) (i := 0) dX6_text_79 rfl rfl ?_
    refine e_getI (pc := 80) dX6_text_80 (fX6_54 rfl) sh_54 rfl ?_
    refine E.it (nI c) g.1 ?_
    refine e_if_le (pc := 83) (tgt := 94) dX6_text_83 (by decide) (fun h83 => absurd h83 (nI_nle h1 (by omega))) (fun h83 => ?_)
    refine e_bipush' (pc := 86) (-10) dX6_text_86 (by decide) ?_
    refine e_aload_n (pc := 88) (i := 0) dX6_text_88 rfl rfl ?_
    refine e_getI (pc := 89) dX6_text_89 (fX6_60 rfl) sh_54 rfl ?_
    refine E.it (nI s) g.2 ?_
    refine e_isub (pc := 92) dX6_text_92 ?_
    refine e_iret (pc := 93) (st := []) (ty := .int) dX6_text_93 rfl rfl ?_
    refine kB c s _ e (fun j a b => ?_) (fun q a => ?_) rfl rfl
    · show up2 (up2 Sf.1 54 4 _) 54 5 _ j = _; rw [up2_ne _ _ _ a, up2_ne _ _ _ a, fz.1 j a b, fr.1 j a, hz2 j b]; exact (up2_ne _ _ _ a).trans ((up2_ne _ _ _ a).trans (up2_ne _ _ _ a))
    · show up2 (up2 Sf.1 54 4 _) 54 5 _ 54 q = _; rw [up2_at]; refine (if_neg (by omega)).trans ?_; rw [up2_at]; refine (if_neg (by omega)).trans ?_; rw [fz.2 q (by omega), fr.2 q (by omega), hz2 54 (by omega)]; show up2 (up2 (up2 S.1 54 6 _) 54 8 _) 54 2 _ 54 q = _; rw [up2_at]; refine (if_neg (by omega)).trans ?_; rw [up2_at]; refine (if_neg (by omega)).trans ?_; rw [up2_at]; exact if_neg (by omega)
  · refine e_aload_n (pc := 66) (i := 0) dX6_text_66 rfl rfl ?_
    refine e_iconst' (pc := 67) (nI 0) dX6_text_67 (by decide) ?_
    refine e_putI (pc := 68) dX6_text_68 (pX6_50 rfl) sh_54 rfl (fun h => by cases h) ?_
    refine e_aload_n (pc := 71) (i := 0) dX6_text_71 rfl rfl ?_
    refine e_aload_n (pc := 72) (i := 0) dX6_text_72 rfl rfl ?_
    refine e_getI (pc := 73) dX6_text_73 (fX6_54 rfl) sh_54 rfl ?_
    refine E.it (nI 0) g6 ?_
    refine e_putI (pc := 76) dX6_text_76 (pX6_111 rfl) sh_54 rfl (fun h => by cases h) ?_
    refine e_aload_n (pc := 79) (i := 0) dX6_text_79 rfl rfl ?_
    refine e_getI (pc := 80) dX6_text_80 (fX6_54 rfl) sh_54 rfl ?_
    refine E.it (nI 0) g6 ?_
    refine e_if_le (pc := 83) (tgt := 94) dX6_text_83 (by decide) (fun h83 => ?_) (fun h83 => absurd (by decide) h83)
    refine e_iconst' (pc := 94) (nI 0) dX6_text_94 (by decide) ?_
    refine e_istore_n (pc := 95) (i := 2) dX6_text_95 rfl (by decide) rfl ?_
    refine lm_copyR (S0 := (up2 (up2 Sf.1 54 4 (nI 0)) 54 5 (nI 0), Sf.2)) (fun Sh z2 c1 c2 c3 => ?_) 23 0 _ (by omega) (by omega) (fun q hq => by omega) (fun _ _ => rfl) (fun _ _ => rfl)
    refine e_aload_n (pc := 120) (i := 0) dX6_text_120 rfl rfl ?_
    refine e_iconst' (pc := 121) (nI 0) dX6_text_121 (by decide) ?_
    refine e_putI (pc := 122) dX6_text_122 (pX6_114 rfl) sh_54 rfl (fun h => by cases h) ?_
    refine e_aload_n (pc := 125) (i := 0) dX6_text_125 rfl rfl ?_
    refine e_getR (pc := 126) dX6_text_126 (fX6_31 rfl) sh_54 rfl ?_
    refine e_iconst' (pc := 129) (nI 0) dX6_text_129 (by decide) ?_
    refine e_iconst' (pc := 130) (nI 0) dX6_text_130 (by decide) ?_
    refine e_zast (pc := 131) dX6_text_131 sh_62 (vp_in_nI (by decide) (by decide)) ?_
    refine e_aload_n (pc := 132) (i := 0) dX6_text_132 rfl rfl ?_
    refine e_getR (pc := 133) dX6_text_133 (fX6_31 rfl) sh_54 rfl ?_
    refine e_iconst' (pc := 136) (nI 1) dX6_text_136 (by decide) ?_
    refine e_iconst' (pc := 137) (nI 0) dX6_text_137 (by decide) ?_
    refine e_zast (pc := 138) dX6_text_138 sh_62 (vp_in_nI (by decide) (by decide)) ?_
    refine e_iload_n (pc := 139) (i := 1) dX6_text_139 rfl rfl ?_
    refine e_iret (pc := 140) (st := []) (ty := .int) dX6_text_140 rfl rfl ?_
    refine kO L R _ e hv hc9 ?_ (fun j a b c d => ?_) (fun q hq => ?_) (fun q a => ?_) ?_ ?_ rfl rfl rfl
    · exact PrAt.pg (S := Sf) hv pr (fun q hq => (c1 q hq).trans rfl)
    · show up2 (up2 (up2 Sh.1 54 18 _) 62 _ _) 62 _ _ j = _; rw [up2_ne _ _ _ d, up2_ne _ _ _ d, up2_ne _ _ _ a, c3 j b]; show up2 (up2 Sf.1 54 4 _) 54 5 _ j = _; rw [up2_ne _ _ _ a, up2_ne _ _ _ a, fz.1 j a c, fr.1 j a, hz2 j c]; exact (up2_ne _ _ _ a).trans ((up2_ne _ _ _ a).trans (up2_ne _ _ _ a))
    · show Sh.1 55 q = _; rw [c2 q hq]; show Sf.1 55 q = _; rw [fz.1 55 (by omega) (by omega), fr.1 55 (by omega), hz2 55 (by omega)]; rfl
    · show up2 Sh.1 54 18 _ 54 q = _; rw [up2_at]; refine (if_neg (by omega)).trans ?_; rw [c3 54 (by omega)]; show up2 (up2 Sf.1 54 4 _) 54 5 _ 54 q = _; rw [up2_at]; refine (if_neg (by omega)).trans ?_; rw [up2_at]; refine (if_neg (by omega)).trans ?_; rw [fz.2 q (by omega), fr.2 q (by omega), hz2 54 (by omega)]; show up2 (up2 (up2 S.1 54 6 _) 54 8 _) 54 2 _ 54 q = _; rw [up2_at]; refine (if_neg (by omega)).trans ?_; rw [up2_at]; refine (if_neg (by omega)).trans ?_; rw [up2_at]; exact if_neg (by omega)
    · show Sh.1 54 4 = _; rw [c3 54 (by omega)]; rfl
    · show Sh.1 54 5 = _; rw [c3 54 (by omega)]; rfl
  · have e56 : Sr.1 56 = Sz.1 56 := fr.1 56 (by decide)
    refine ⟨?_, ?_, fun w hw => absurd hw (Nat.not_lt_zero w), fun w _ hw => ?_⟩
    · rw [e56]; exact hz1 20 (by omega)
    · rw [e56]; exact hz1 21 (by omega)
    · rw [e56]; exact hz1 _ (by omega)
  · rw [fr.2 2 (by omega), hz54]; rfl
theorem b_text {sc : PSc} {S : PS} (hI : InvS S) : Bth sc mX5_text mX6_text [] S := by
  obtain ⟨R, hv, hc, hr, hp⟩ := id hI.1
  have hv5 := hv.1
  obtain ⟨N, tp, hN, t23, t54, tt⟩ := hI.2.2.1
  have htc : TpC S N tp := ⟨hN, t23, fun k hk => ⟨(tt k hk).1, (tt k hk).2.1⟩⟩
  have htm : TpM S N tp := ⟨hN, t54, fun k hk => ⟨(tt k hk).1, (tt k hk).2.2⟩⟩
  have hi8 : I8 S := hI.2.2.2.2.2.2.2
  obtain ⟨ou, hou⟩ : ∃ ou, psT N tp (N + 1) 0 0 false R0 = ou := ⟨_, rfl⟩
  show E sc mX5_text 0 [.ref 0, .null, .null] [] S _
  refine e_aload_n (pc := 0) (i := 0) dX5_text_0 rfl rfl ?_
  refine e_getR (pc := 1) dX5_text_1 (fX5_30 rfl) sh_0 rfl ?_
  refine e_aload_n (pc := 4) (i := 0) dX5_text_4 rfl rfl ?_
  refine e_getR (pc := 5) dX5_text_5 (fX5_16 rfl) sh_0 rfl ?_
  refine e_callV1 (pc := 8) (M' := mX4_tell) dX5_text_8 iX4_tell lkX5_83 (by decide) (rO_obj sh_25 rfl) (Nat.le_of_ble_eq_true rfl) (Nat.le_of_ble_eq_true rfl) ?_
  refine sp_tell htc hou (fun c s S1 e f1 g => ?_) (fun L1 R1 S1 e f1 r1_ hv1 hc1 g3 g1 => ?_)
  · refine e_istore_n (pc := 11) (i := 1) dX5_text_11 rfl (by decide) rfl ?_
    refine e_aload_n (pc := 12) (i := 0) dX5_text_12 rfl rfl ?_
    refine e_getR (pc := 13) dX5_text_13 (fX5_38 rfl) sh_0 rfl ?_
    refine e_iconst' (pc := 16) (nI 0) dX5_text_16 (by decide) ?_
    refine e_putI (pc := 17) dX5_text_17 (pX5_74 rfl) sh_23 rfl (fun h => by cases h) ?_
    refine e_iload_n (pc := 20) (i := 1) dX5_text_20 rfl rfl ?_
    refine e_if_ne (pc := 21) (tgt := 35) dX5_text_21 (by decide) (fun h21 => absurd rfl h21) (fun h21 => ?_)
    refine e_bipush' (pc := 24) (-10) dX5_text_24 (by decide) ?_
    refine e_aload_n (pc := 26) (i := 0) dX5_text_26 rfl rfl ?_
    refine e_getR (pc := 27) dX5_text_27 (fX5_30 rfl) sh_0 rfl ?_
    refine e_getI (pc := 30) dX5_text_30 (fX5_87 rfl) sh_25 rfl ?_
    refine E.it (nI s) g.2 ?_
    refine e_isub (pc := 33) dX5_text_33 ?_
    refine e_iret (pc := 34) (st := []) (ty := .int) dX5_text_34 rfl rfl ?_
    refine ⟨_, rfl, ?_⟩
    have e54 : S1.1 54 = S.1 54 := f1 54 (by omega) (by omega)
    refine sp_textM (S := (up2 S1.1 23 1 (nI 0), S1.2)) (htm.of (by show S1.1 54 4 = _; rw [e54]) (by show S1.1 57 = _; exact f1 57 (by omega) (by omega))) (by unfold I8 at hi8 ⊢; rw [show (up2 S1.1 23 1 (nI 0), S1.2).1 58 = S.1 58 from f1 58 (by omega) (by omega), show (up2 S1.1 23 1 (nI 0), S1.2).1 59 = S.1 59 from f1 59 (by omega) (by omega)]; exact hi8) hou (fun c2 s2 S2 e2 m1 m2 m3 m4 => ?_) (fun L2 R2 S2 e2 _ _ _ _ _ _ _ _ _ _ _ => ?_)
    · rw [e] at e2; cases e2
      have mm : ∀ j, j ≠ 54 → j ≠ 56 → j ≠ 23 → j ≠ 25 → (j < 6 ∨ 11 ≤ j) → S2.1 j = S.1 j := fun j a b c d f => (m1 j a b).trans ((up2_ne _ _ _ c).trans (f1 j d f))
      refine ⟨rfl, Inv_txt hI ⟨R, hv, hc, ?_, hp.of (fun q _ _ => by rw [mm 55 (by omega) (by omega) (by omega) (by omega) (by omega)]) hv5⟩ ⟨?_, ?_⟩ ?_ m3 ?_ ?_ (fun j hj => mm j (by omega) (by omega) (by omega) (by omega) (by omega)) ?_⟩
      · obtain ⟨a, b, d⟩ := hr
        have ee : ∀ q, 1 ≤ q → q < 6 → S2.1 q = S.1 q := fun q h1 h2 => mm q (by omega) (by omega) (by omega) (by omega) (by omega)
        refine ⟨by rw [ee 1 (by omega) (by omega)]; exact a, by rw [ee 1 (by omega) (by omega)]; exact b, fun w hw => ?_⟩
        rw [ee (1 + 1) (by omega) (by omega), ee (1 + 2) (by omega) (by omega), ee (1 + 3) (by omega) (by omega), ee (1 + 4) (by omega) (by omega)]; exact d w hw
      · exact I2.of (by omega) (mm 22 (by omega) (by omega) (by omega) (by omega) (by omega)) (mm 62 (by omega) (by omega) (by omega) (by omega) (by omega)) (fun j h1 h2 => mm j (by omega) (by omega) (by omega) (by omega) (by omega)) (fun q _ _ => by rw [mm 55 (by omega) (by omega) (by omega) (by omega) (by omega)]) hI.2.1.1
      · exact I2.of (by omega) (mm 22 (by omega) (by omega) (by omega) (by omega) (by omega)) (mm 62 (by omega) (by omega) (by omega) (by omega) (by omega)) (fun j h1 h2 => mm j (by omega) (by omega) (by omega) (by omega) (by omega)) (fun q _ _ => by rw [mm 55 (by omega) (by omega) (by omega) (by omega) (by omega)]) hI.2.1.2
      · rw [m1 23 (by omega) (by omega)]; rfl
      · rw [m1 25 (by omega) (by omega), m4]; exact g.1
      · obtain ⟨n0, sp, sv, i5⟩ := hI.2.2.2.2.1
        refine ⟨n0, sp, sv, ?_⟩
        unfold I5 at i5 ⊢
        rw [mm 26 (by omega) (by omega) (by omega) (by omega) (by omega), mm 27 (by omega) (by omega) (by omega) (by omega) (by omega), mm 28 (by omega) (by omega) (by omega) (by omega) (by omega), mm 60 (by omega) (by omega) (by omega) (by omega) (by omega), m2 18 (by omega), show (up2 S1.1 23 1 (nI 0), S1.2).1 54 18 = S.1 54 18 by show S1.1 54 18 = _; rw [e54]]; exact i5
      · rw [m2 24 (by omega)]; show S1.1 54 24 = _; rw [e54]
    · rw [e] at e2; cases e2
  · have hr1 : RowAt (up2 S1.1 23 1 (nI 0), S1.2) 6 R1 := r1_.u6 (by omega)
    refine e_istore_n (pc := 11) (i := 1) dX5_text_11 rfl (by decide) rfl ?_
    refine e_aload_n (pc := 12) (i := 0) dX5_text_12 rfl rfl ?_
    refine e_getR (pc := 13) dX5_text_13 (fX5_38 rfl) sh_0 rfl ?_
    refine e_iconst' (pc := 16) (nI 0) dX5_text_16 (by decide) ?_
    refine e_putI (pc := 17) dX5_text_17 (pX5_74 rfl) sh_23 rfl (fun h => by cases h) ?_
    refine e_iload_n (pc := 20) (i := 1) dX5_text_20 rfl rfl ?_
    refine e_if_ne (pc := 21) (tgt := 35) dX5_text_21 (by decide) (fun h21 => ?_) (fun h21 => absurd h21 (by decide))
    refine e_aload_n (pc := 35) (i := 0) dX5_text_35 rfl rfl ?_
    refine e_getR (pc := 36) dX5_text_36 (fX5_10 rfl) sh_0 rfl ?_
    refine e_aload_n (pc := 39) (i := 0) dX5_text_39 rfl rfl ?_
    refine e_getR (pc := 40) dX5_text_40 (fX5_16 rfl) sh_0 rfl ?_
    refine e_callV1 (pc := 43) (M' := mX0_copyOf) dX5_text_43 iX0_copyOf lkX5_90 (by decide) (rO_obj sh_1 rfl) (Nat.le_of_ble_eq_true rfl) (Nat.le_of_ble_eq_true rfl) ?_
    refine sp_copyOf r1 r6 (by omega) hv1 hr1 (fun S2 r3 b3 a3 => ?_)
    refine e_aload_n (pc := 46) (i := 0) dX5_text_46 rfl rfl ?_
    refine e_getR (pc := 47) dX5_text_47 (fX5_42 rfl) sh_0 rfl ?_
    refine e_iconst' (pc := 50) (nI 0) dX5_text_50 (by decide) ?_
    refine e_putI (pc := 51) dX5_text_51 (pX5_94 rfl) sh_26 rfl (fun h => by cases h) ?_
    refine e_iconst' (pc := 54) (nI 0) dX5_text_54 (by decide) ?_
    refine e_istore_n (pc := 55) (i := 2) dX5_text_55 rfl (by decide) rfl ?_
    refine lp_kept (S0 := (up2 S2.1 26 0 (nI 0), S2.2)) (fun S4 z k1 k2 => ?_) 3 0 _ (by omega) (by omega) (fun q hq => by omega) (fun _ _ => rfl)
    refine e_aload_n (pc := 74) (i := 0) dX5_text_74 rfl rfl ?_
    refine e_getR (pc := 75) dX5_text_75 (fX5_30 rfl) sh_0 rfl ?_
    refine e_getI (pc := 78) dX5_text_78 (fX5_97 rfl) sh_25 rfl ?_
    refine E.it (nI L1) (by rw [k2 25 (by omega)]; show S2.1 25 3 = _; rw [a3.2 25 (by omega)]; exact g3) ?_
    refine e_iret (pc := 81) (st := []) (ty := .int) dX5_text_81 rfl rfl ?_
    refine ⟨_, rfl, ?_⟩
    have cc : ∀ j, j ≠ 23 → j ≠ 25 → j ≠ 26 → j ≠ 22 → 11 ≤ j → S4.1 j = S.1 j := fun j a b c d f => (k2 j d).trans ((up2_ne _ _ _ c).trans ((a3.2 j (by omega)).trans ((up2_ne _ _ _ a).trans (f1 j b (by omega)))))
    have c0 : S4.1 0 = S.1 0 := (k2 0 (by omega)).trans ((up2_ne S2.1 0 (nI 0) (i := 26) (j := 0) (by decide)).trans ((a3.2 0 (by omega)).trans ((up2_ne S1.1 1 (nI 0) (i := 23) (j := 0) (by decide)).trans (f1 0 (by omega) (by omega)))))
    refine sp_textM (S := S4) (htm.of (by rw [cc 54 (by omega) (by omega) (by omega) (by omega) (by omega)]) (cc 57 (by omega) (by omega) (by omega) (by omega) (by omega))) (by unfold I8 at hi8 ⊢; rw [cc 58 (by omega) (by omega) (by omega) (by omega) (by omega), cc 59 (by omega) (by omega) (by omega) (by omega) (by omega)]; exact hi8) hou (fun c2 s2 S5 e2 _ _ _ _ => ?_) (fun L2 R2 S5 e2 v2 w2 p2 m1 m2 m3 m4 m5 m6 m7 m8 => ?_)
    · rw [e] at e2; cases e2
    · rw [e] at e2; cases e2
      refine ⟨rfl, Inv_txt hI ⟨R1, hv1, by omega, ?_, p2⟩ ⟨?_, ?_⟩ ?_ m4 ?_ ?_ (fun j hj => ?_) ?_⟩
      · have ee : ∀ q, 1 ≤ q → q < 6 → S5.1 q = S2.1 q := fun q h1 h2 => (m1 q (by omega) (by omega) (by omega) (by omega)).trans ((k2 q (by omega)).trans (up2_ne _ _ _ (by omega)))
        obtain ⟨a, b, d⟩ := r3
        refine ⟨by rw [ee 1 (by omega) (by omega)]; exact a, by rw [ee 1 (by omega) (by omega)]; exact b, fun w hw => ?_⟩
        rw [ee (1 + 1) (by omega) (by omega), ee (1 + 2) (by omega) (by omega), ee (1 + 3) (by omega) (by omega), ee (1 + 4) (by omega) (by omega)]; exact d w hw
      · exact Or.inl ⟨by rw [m1 22 (by omega) (by omega) (by omega) (by omega)]; exact k1 0 (by omega), m7⟩
      · exact Or.inl ⟨by rw [m1 22 (by omega) (by omega) (by omega) (by omega)]; exact k1 1 (by omega), m8⟩
      · rw [m1 23 (by omega) (by omega) (by omega) (by omega), k2 23 (by omega)]; show S2.1 23 1 = _; rw [a3.2 23 (by omega)]; rfl
      · rw [m1 25 (by omega) (by omega) (by omega) (by omega), m5, k2 25 (by omega)]; show S2.1 25 1 = _; rw [a3.2 25 (by omega)]; exact g1
      · refine ⟨0, fun _ => 0, fun _ => 0, Nat.zero_le _, ?_, m6, fun k hk => absurd hk (Nat.not_lt_zero k)⟩
        rw [m1 26 (by omega) (by omega) (by omega) (by omega), k2 26 (by omega)]; rfl
      · rw [m1 j (by omega) (by omega) (by omega) (by omega)]
        by_cases q0 : j = 0
        · subst q0; exact c0
        · exact cc j (by omega) (by omega) (by omega) (by omega) (by omega)
      · rw [m3 24 (by omega), cc 54 (by omega) (by omega) (by omega) (by omega) (by omega)]

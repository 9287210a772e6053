theorem nmb : ∀ x, x < 5 → endsL.getD x 0 ≤ endsL.getD (x + 1) 0 ∧ endsL.getD (x + 1) 0 ≤ 23 ∧ ∀ i, i < nle x → ltr x i < 128 := by decide +kernel
theorem nle_e (x : Nat) : nle x = endsL.getD (x + 1) 0 - endsL.getD x 0 := rfl
theorem ltr_e (x i : Nat) : ltr x i = lets.getD (endsL.getD x 0 + i) 0 := rfl
theorem lm_nm0 {sc : PSc} {x z : Int32} {S : PS} {Q : PQ} (k : E sc mX6_nameHere 105 [.ref 54, .int x, .int (nI 0), .int z] [] S Q) : E sc mX6_nameHere 50 [.ref 54, .int x, .int (nI 0), .int z] [] S Q := by
  refine e_iload_n (pc := 50) (i := 2) dX6_nameHere_50 rfl rfl ?_
  refine e_if_eq (pc := 51) (tgt := 105) dX6_nameHere_51 (by decide) (fun h51 => ?_) (fun h51 => absurd (by decide) h51)
  exact k
theorem lm_nmI {sc : PSc} {N : Nat} {tp : Nat → Nat} {S : PS} {Q : PQ} (ht : TpM S N tp) (h8 : I8 S) {s e x : Nat} (hx : x < 5) (g8 : S.1 54 8 = nI e) (g9 : S.1 54 9 = nI s) (hse : s ≤ e) (heN : e ≤ N) (k1 : ∀ z, NmP tp x s e → E sc mX6_nameHere 105 [.ref 54, .int (nI x), .int (nI 1), .int z] [] S Q) (k0 : ∀ z, ¬ NmP tp x s e → E sc mX6_nameHere 105 [.ref 54, .int (nI x), .int (nI 0), .int z] [] S Q) (hl : e - s = nle x) : ∀ (n : Nat) (i : Nat), i ≤ nle x → nle x - i < n → (∀ j, j < i → tp (s + j) = ltr x j) → E sc mX6_nameHere 50 [.ref 54, .int (nI x), .int (nI 1), .int (nI i)] [] S Q := by
  intro n
  induction n with
  | zero => intro i hi hn hz; exact absurd hn (by omega)
  | succ n ih =>
    intro i hi hn hz
    have hN := ht.1
    obtain ⟨y1, y2, y3⟩ := nmb x hx
    have hle := nle_e x
    refine e_iload_n (pc := 50) (i := 2) dX6_nameHere_50 rfl rfl ?_
    refine e_if_eq (pc := 51) (tgt := 105) dX6_nameHere_51 (by decide) (fun h51 => absurd h51 (by decide)) (fun h51 => ?_)
    refine e_iload_n (pc := 54) (i := 3) dX6_nameHere_54 rfl rfl ?_
    refine e_aload_n (pc := 55) (i := 0) dX6_nameHere_55 rfl rfl ?_
    refine e_getI (pc := 56) dX6_nameHere_56 (fX6_66 rfl) sh_54 rfl ?_
    refine E.it (nI e) g8 ?_
    refine e_aload_n (pc := 59) (i := 0) dX6_nameHere_59 rfl rfl ?_
    refine e_getI (pc := 60) dX6_nameHere_60 (fX6_57 rfl) sh_54 rfl ?_
    refine E.it (nI s) g9 ?_
    refine e_isub (pc := 63) dX6_nameHere_63 ?_
    refine E.it (nI (e - s)) (pk_sub (by omega)) ?_
    refine e_icmp_ge (pc := 64) (tgt := 105) dX6_nameHere_64 (by decide) (fun h64 => ?_) (fun h64 => ?_)
    · replace h64 := (nI_leI (by omega) (by omega)).mp h64
      exact k1 _ ⟨hl, fun j hj => hz j (by omega)⟩
    · replace h64 := mt (nI_leI (by omega) (by omega)).mpr h64
      have hb := (ht.2.2 (s + i) (by omega)).1
      have hlt := y3 i (by omega)
      refine e_aload_n (pc := 67) (i := 0) dX6_nameHere_67 rfl rfl ?_
      refine e_aload_n (pc := 68) (i := 0) dX6_nameHere_68 rfl rfl ?_
      refine e_getI (pc := 69) dX6_nameHere_69 (fX6_57 rfl) sh_54 rfl ?_
      refine E.it (nI s) g9 ?_
      refine e_iload_n (pc := 72) (i := 3) dX6_nameHere_72 rfl rfl ?_
      refine e_iadd (pc := 73) dX6_nameHere_73 ?_
      refine E.it (nI (s + i)) (nI_add _ _) ?_
      refine e_callV1 (pc := 74) (M' := mX6_byteAt) dX6_nameHere_74 iX6_byteAt lkX6_69 (by decide) (rO_obj sh_54 rfl) (Nat.le_of_ble_eq_true rfl) (Nat.le_of_ble_eq_true rfl) ?_
      refine sp_byteAt ht (q := s + i) (by omega) (fun b1 b2 => ?_) (fun b0 => absurd (show s + i < N by omega) b0)
      · refine e_aload_n (pc := 77) (i := 0) dX6_nameHere_77 rfl rfl ?_
        refine e_getR (pc := 78) dX6_nameHere_78 (fX6_22 rfl) sh_54 rfl ?_
        refine e_aload_n (pc := 81) (i := 0) dX6_nameHere_81 rfl rfl ?_
        refine e_getR (pc := 82) dX6_nameHere_82 (fX6_19 rfl) sh_54 rfl ?_
        refine e_iload_n (pc := 85) (i := 1) dX6_nameHere_85 rfl rfl ?_
        refine e_iald (pc := 86) dX6_nameHere_86 sh_58 (vp_in_nI (by omega) (by omega)) ?_
        refine E.it (nI (endsL.getD x 0)) (by rw [nI_clamp (by omega)]; exact h8.1 x (by omega)) ?_
        refine e_iload_n (pc := 87) (i := 3) dX6_nameHere_87 rfl rfl ?_
        refine e_iadd (pc := 88) dX6_nameHere_88 ?_
        refine E.it (nI (endsL.getD x 0 + i)) (nI_add _ _) ?_
        refine e_iald (pc := 89) dX6_nameHere_89 sh_59 (vp_in_nI (by omega) (by omega)) ?_
        refine E.it (nI (ltr x i)) (by rw [nI_clamp (by omega), ltr_e]; exact h8.2 _ (by omega)) ?_
        refine e_icmp_ne (pc := 90) (tgt := 97) dX6_nameHere_90 (by decide) (fun h90 => ?_) (fun h90 => ?_)
        · replace h90 := mt (nI_eq (by omega) (by omega)).mpr h90
          refine e_iconst' (pc := 97) (nI 0) dX6_nameHere_97 (by decide) ?_
          refine e_istore_n (pc := 98) (i := 2) dX6_nameHere_98 rfl (by decide) rfl ?_
          refine e_iinc' (pc := 99) (nI (i + 1)) dX6_nameHere_99 rfl (by decide) rfl (nI_1 _) ?_
          refine e_goto (pc := 102) (tgt := 50) dX6_nameHere_102 (by decide) ?_
          exact lm_nm0 (k0 _ (fun q => h90 (q.2 i (by omega))))
        · replace h90 := (nI_eq (by omega) (by omega)).mp h90
          refine e_iconst' (pc := 93) (nI 1) dX6_nameHere_93 (by decide) ?_
          refine e_goto (pc := 94) (tgt := 98) dX6_nameHere_94 (by decide) ?_
          refine e_istore_n (pc := 98) (i := 2) dX6_nameHere_98 rfl (by decide) rfl ?_
          refine e_iinc' (pc := 99) (nI (i + 1)) dX6_nameHere_99 rfl (by decide) rfl (nI_1 _) ?_
          refine e_goto (pc := 102) (tgt := 50) dX6_nameHere_102 (by decide) ?_
          refine ih (i + 1) (by omega) (by omega) (fun j hj => ?_)
          by_cases q : j = i
          · subst q; exact h90
          · exact hz j (by omega)
theorem lm_nm {sc : PSc} {N : Nat} {tp : Nat → Nat} {S : PS} {Q : PQ} (ht : TpM S N tp) (h8 : I8 S) {s e t : Nat} (h10 : S.1 54 10 = nI t) (ht4 : t ≤ 4) (g8 : S.1 54 8 = nI e) (g9 : S.1 54 9 = nI s) (hse : s ≤ e) (heN : e ≤ N) (k4 : t = 1 → NmP tp 4 s e → Q (some (.int (nI 4))) S) (kx : t = 1 → ∀ x, x < 4 → NmP tp x s e → Q (some (.int (nI x))) S) (kn : (t = 1 → ∀ x, x < 5 → ¬ NmP tp x s e) → Q (some (.int (-4))) S) : ∀ (n : Nat) (x : Nat) (y z : Value), x ≤ 5 → 5 - x < n → (∀ y, y < x → ¬ NmP tp y s e) → E sc mX6_nameHere 2 [.ref 54, .int (nI x), y, z] [] S Q := by
  intro n
  induction n with
  | zero => intro x y z hx hn hz; exact absurd hn (by omega)
  | succ n ih =>
    intro x y z hx hn hz
    have hN := ht.1
    refine e_iload_n (pc := 2) (i := 1) dX6_nameHere_2 rfl rfl ?_
    refine e_iconst' (pc := 3) (nI 5) dX6_nameHere_3 (by decide) ?_
    refine e_icmp_ge (pc := 4) (tgt := 117) dX6_nameHere_4 (by decide) (fun h4 => ?_) (fun h4 => ?_)
    · replace h4 := (nI_leI (by omega) (by omega)).mp h4
      refine e_bipush' (pc := 117) (-4) dX6_nameHere_117 (by decide) ?_
      refine e_iret (pc := 119) (st := []) (ty := .int) dX6_nameHere_119 rfl rfl ?_
      exact kn (fun _ x hx => hz x (by omega))
    · replace h4 := mt (nI_leI (by omega) (by omega)).mpr h4
      obtain ⟨y1, y2, y3⟩ := nmb x (by omega)
      have hle := nle_e x
      refine e_aload_n (pc := 7) (i := 0) dX6_nameHere_7 rfl rfl ?_
      refine e_getI (pc := 8) dX6_nameHere_8 (fX6_63 rfl) sh_54 rfl ?_
      refine E.it (nI t) h10 ?_
      refine e_iconst' (pc := 11) (nI 1) dX6_nameHere_11 (by decide) ?_
      refine e_icmp_ne (pc := 12) (tgt := 117) dX6_nameHere_12 (by decide) (fun h12 => ?_) (fun h12 => ?_)
      · replace h12 := mt (nI_eq (by omega) (by omega)).mpr h12
        refine e_bipush' (pc := 117) (-4) dX6_nameHere_117 (by decide) ?_
        refine e_iret (pc := 119) (st := []) (ty := .int) dX6_nameHere_119 rfl rfl ?_
        exact kn (fun q => absurd q h12)
      · replace h12 := (nI_eq (by omega) (by omega)).mp h12
        refine e_aload_n (pc := 15) (i := 0) dX6_nameHere_15 rfl rfl ?_
        refine e_getI (pc := 16) dX6_nameHere_16 (fX6_66 rfl) sh_54 rfl ?_
        refine E.it (nI e) g8 ?_
        refine e_aload_n (pc := 19) (i := 0) dX6_nameHere_19 rfl rfl ?_
        refine e_getI (pc := 20) dX6_nameHere_20 (fX6_57 rfl) sh_54 rfl ?_
        refine E.it (nI s) g9 ?_
        refine e_isub (pc := 23) dX6_nameHere_23 ?_
        refine E.it (nI (e - s)) (pk_sub (by omega)) ?_
        refine e_aload_n (pc := 24) (i := 0) dX6_nameHere_24 rfl rfl ?_
        refine e_getR (pc := 25) dX6_nameHere_25 (fX6_19 rfl) sh_54 rfl ?_
        refine e_iload_n (pc := 28) (i := 1) dX6_nameHere_28 rfl rfl ?_
        refine e_iconst' (pc := 29) (nI 1) dX6_nameHere_29 (by decide) ?_
        refine e_iadd (pc := 30) dX6_nameHere_30 ?_
        refine E.it (nI (x + 1)) (nI_add _ _) ?_
        refine e_iald (pc := 31) dX6_nameHere_31 sh_58 (vp_in_nI (by omega) (by omega)) ?_
        refine E.it (nI (endsL.getD (x + 1) 0)) (by rw [nI_clamp (by omega)]; exact h8.1 _ (by omega)) ?_
        refine e_aload_n (pc := 32) (i := 0) dX6_nameHere_32 rfl rfl ?_
        refine e_getR (pc := 33) dX6_nameHere_33 (fX6_19 rfl) sh_54 rfl ?_
        refine e_iload_n (pc := 36) (i := 1) dX6_nameHere_36 rfl rfl ?_
        refine e_iald (pc := 37) dX6_nameHere_37 sh_58 (vp_in_nI (by omega) (by omega)) ?_
        refine E.it (nI (endsL.getD x 0)) (by rw [nI_clamp (by omega)]; exact h8.1 x (by omega)) ?_
        refine e_isub (pc := 38) dX6_nameHere_38 ?_
        refine E.it (nI (nle x)) (pk_sub y1) ?_
        refine e_icmp_ne (pc := 39) (tgt := 46) dX6_nameHere_39 (by decide) (fun h39 => ?_) (fun h39 => ?_)
        · replace h39 := mt (nI_eq (by omega) (by omega)).mpr h39
          refine e_iconst' (pc := 46) (nI 0) dX6_nameHere_46 (by decide) ?_
          refine e_istore_n (pc := 47) (i := 2) dX6_nameHere_47 rfl (by decide) rfl ?_
          refine e_iconst' (pc := 48) (nI 0) dX6_nameHere_48 (by decide) ?_
          refine e_istore_n (pc := 49) (i := 3) dX6_nameHere_49 rfl (by decide) rfl ?_
          refine lm_nm0 ?_
          have a0 : ¬ NmP tp x s e := fun q => h39 q.1
          refine e_iload_n (pc := 105) (i := 2) dX6_nameHere_105 rfl rfl ?_
          refine e_if_eq (pc := 106) (tgt := 111) dX6_nameHere_106 (by decide) (fun h106 => ?_) (fun h106 => absurd (by decide) h106)
          refine e_iinc' (pc := 111) (nI (x + 1)) dX6_nameHere_111 rfl (by decide) rfl (nI_1 _) ?_
          refine e_goto (pc := 114) (tgt := 2) dX6_nameHere_114 (by decide) ?_
          refine ih (x + 1) _ _ (by omega) (by omega) (fun y hy => ?_)
          by_cases q : y = x
          · subst q; exact a0
          · exact hz y (by omega)
        · replace h39 := (nI_eq (by omega) (by omega)).mp h39
          refine e_iconst' (pc := 42) (nI 1) dX6_nameHere_42 (by decide) ?_
          refine e_goto (pc := 43) (tgt := 47) dX6_nameHere_43 (by decide) ?_
          refine e_istore_n (pc := 47) (i := 2) dX6_nameHere_47 rfl (by decide) rfl ?_
          refine e_iconst' (pc := 48) (nI 0) dX6_nameHere_48 (by decide) ?_
          refine e_istore_n (pc := 49) (i := 3) dX6_nameHere_49 rfl (by decide) rfl ?_
          refine lm_nmI ht h8 (by omega) g8 g9 hse heN (fun z a1 => ?_) (fun z a0 => ?_) h39 (nle x + 1) 0 (by omega) (by omega) (fun j hj => by omega)
          · refine e_iload_n (pc := 105) (i := 2) dX6_nameHere_105 rfl rfl ?_
            refine e_if_eq (pc := 106) (tgt := 111) dX6_nameHere_106 (by decide) (fun h106 => absurd h106 (by decide)) (fun h106 => ?_)
            refine e_iload_n (pc := 109) (i := 1) dX6_nameHere_109 rfl rfl ?_
            refine e_iret (pc := 110) (st := []) (ty := .int) dX6_nameHere_110 rfl rfl ?_
            by_cases q : x = 4
            · subst q; exact k4 h12 a1
            · exact kx h12 x (by omega) a1
          · refine e_iload_n (pc := 105) (i := 2) dX6_nameHere_105 rfl rfl ?_
            refine e_if_eq (pc := 106) (tgt := 111) dX6_nameHere_106 (by decide) (fun h106 => ?_) (fun h106 => absurd (by decide) h106)
            refine e_iinc' (pc := 111) (nI (x + 1)) dX6_nameHere_111 rfl (by decide) rfl (nI_1 _) ?_
            refine e_goto (pc := 114) (tgt := 2) dX6_nameHere_114 (by decide) ?_
            refine ih (x + 1) _ _ (by omega) (by omega) (fun y hy => ?_)
            by_cases q : y = x
            · subst q; exact a0
            · exact hz y (by omega)
theorem sp_nameHere {sc : PSc} {N : Nat} {tp : Nat → Nat} {S : PS} {Q : PQ} (ht : TpM S N tp) (h8 : I8 S) {s e t : Nat} (h10 : S.1 54 10 = nI t) (ht4 : t ≤ 4) (g8 : S.1 54 8 = nI e) (g9 : S.1 54 9 = nI s) (hse : s ≤ e) (heN : e ≤ N) (k4 : t = 1 → NmP tp 4 s e → Q (some (.int (nI 4))) S) (kx : t = 1 → ∀ x, x < 4 → NmP tp x s e → Q (some (.int (nI x))) S) (kn : (t = 1 → ∀ x, x < 5 → ¬ NmP tp x s e) → Q (some (.int (-4))) S) : E sc mX6_nameHere 0 (pL0 mX6_nameHere [.ref 54]) [] S Q := by
  show E sc mX6_nameHere 0 [.ref 54, .null, .null, .null] [] S Q
  refine e_iconst' (pc := 0) (nI 0) dX6_nameHere_0 (by decide) ?_
  refine e_istore_n (pc := 1) (i := 1) dX6_nameHere_1 rfl (by decide) rfl ?_
  exact lm_nm ht h8 h10 ht4 g8 g9 hse heN k4 kx kn 6 0 _ _ (by omega) (by omega) (fun y hy => by omega)
theorem sp_numC {sc : PSc} {N : Nat} {tp : Nat → Nat} {S : PS} {Q : PQ} (ht : TpM S N tp) {l h p : Nat} (hp : p ≤ N) (hl : l < 128) (hh : h < 128) (cm : CurM S N tp p) (kB : ∀ c s S', (∀ co, nB N tp l h p co = .inl (c, s)) → 0 < c → c < 8 → FrM S S' → BadM S' c s → Q (some (.int (nI l))) S') (k4 : tk N tp p = 2 → l ≤ tv N tp p → tv N tp p ≤ h → ∀ S', tk N tp (te N tp p) = 4 → FrM S S' → BadM S' 1 (tst N tp (te N tp p)) → Q (some (.int (nI (tv N tp p)))) S') (kC : tk N tp p = 2 → l ≤ tv N tp p → tv N tp p ≤ h → ∀ S', FrM S S' → CurM S' N tp (te N tp p) → Q (some (.int (nI (tv N tp p)))) S') : E sc mX6_number 0 (pL0 mX6_number [.ref 54, .int (nI l), .int (nI h)]) [] S Q := by
  refine sp_numberG ht hp hl hh cm (fun c S1 hb f1 g1 => ?_) (fun n2 n3 n4 S1 f1 a1 => ?_)
  · refine kB c _ S1 (nB_bad cm.1 hb) ?_ ?_ f1 g1
    · rcases hb with ⟨_, rfl⟩ | ⟨_, _, rfl⟩ <;> omega
    · rcases hb with ⟨_, rfl⟩ | ⟨_, _, rfl⟩ <;> omega
  · rcases a1 with ⟨z4, g4⟩ | c1
    · exact k4 n2 n3 n4 S1 z4 f1 g4
    · exact kC n2 n3 n4 S1 f1 c1
/-- what the reference has read so far -/
def PrAt (S : PS) (R : Rw) : Prop := S.1 56 20 = nI (R 20) ∧ S.1 56 21 = nI (R 21) ∧ (∀ w, w < R 20 → S.1 56 w = nI (R w) ∧ S.1 56 (5 + w) = nI (R (5 + w)) ∧ S.1 56 (10 + w) = nI (R (10 + w)) ∧ S.1 56 (15 + w) = nI (R (15 + w)) - nI 12) ∧ ∀ w, R 20 ≤ w → w < 5 → S.1 56 (15 + w) = nI 0
theorem PrAt.of {S S' : PS} {R : Rw} (h : PrAt S R) (e : S'.1 56 = S.1 56) : PrAt S' R := by
  unfold PrAt at h ⊢; rw [e]; exact h
theorem PrAt.cnt {S : PS} {R : Rw} {v : Nat} (hv : Vd R) (h : PrAt S R) : PrAt (up2 S.1 56 21 (nI v), S.2) (rs R 21 v) := by
  have h5 := hv.1
  obtain ⟨a, b, c, d⟩ := h
  have e : ∀ q, q ≠ 21 → up2 S.1 56 21 (nI v) 56 q = S.1 56 q := fun q hq => by rw [up2_at]; exact if_neg hq
  refine ⟨?_, ?_, fun w hw => ?_, fun w h1 h2 => ?_⟩
  · rw [rs_ne _ _ (by omega)]; exact (e 20 (by omega)).trans a
  · rw [rs_at]; show up2 S.1 56 21 (nI v) 56 21 = _; rw [up2_at]; exact if_pos rfl
  · rw [rs_ne _ _ (by omega)] at hw
    rw [rs_ne _ _ (show w ≠ 21 by omega), rs_ne _ _ (show 5 + w ≠ 21 by omega), rs_ne _ _ (show 10 + w ≠ 21 by omega), rs_ne _ _ (show 15 + w ≠ 21 by omega)]
    obtain ⟨c0, c1, c2, c3⟩ := c w hw
    exact ⟨(e _ (by omega)).trans c0, (e _ (by omega)).trans c1, (e _ (by omega)).trans c2, (e _ (by omega)).trans c3⟩
  · rw [rs_ne _ _ (by omega)] at h1
    exact (e _ (by omega)).trans (d w h1 h2)
theorem PrAt.add {S S' : PS} {R : Rw} {x T D br : Nat} (h : PrAt S R) (h5 : R 20 < 5) (a0 : S'.1 56 (R 20) = nI x) (a1 : S'.1 56 (5 + R 20) = nI T) (a2 : S'.1 56 (10 + R 20) = nI D) (a3 : S'.1 56 (15 + R 20) = nI br - nI 12) (a4 : S'.1 56 20 = nI (R 20 + 1)) (ao : ∀ q, q ≠ R 20 → q ≠ 5 + R 20 → q ≠ 10 + R 20 → q ≠ 15 + R 20 → q ≠ 20 → S'.1 56 q = S.1 56 q) : PrAt S' (addR R x T D br) := by
  obtain ⟨b0, b1, b2, b3, b4, b5⟩ := addR_at (kd := x) (th := T) (dg := D) (br := br) h5
  obtain ⟨a, b, c, d⟩ := h
  refine ⟨by rw [b4]; exact a4, by rw [b5, ao 21 (by omega) (by omega) (by omega) (by omega) (by omega)]; exact b, fun w hw => ?_, fun w h1 h2 => ?_⟩
  · rw [b4] at hw
    by_cases q : w = R 20
    · subst q; rw [b0, b1, b2, b3]; exact ⟨a0, a1, a2, a3⟩
    · obtain ⟨c0, c1, c2, c3⟩ := c w (by omega)
      have l0 := addR_lt (kd := x) (th := T) (dg := D) (br := br) h5 0 w (by omega) (by omega)
      have l1 := addR_lt (kd := x) (th := T) (dg := D) (br := br) h5 1 w (by omega) (by omega)
      have l2 := addR_lt (kd := x) (th := T) (dg := D) (br := br) h5 2 w (by omega) (by omega)
      have l3 := addR_lt (kd := x) (th := T) (dg := D) (br := br) h5 3 w (by omega) (by omega)
      rw [show 5 * 0 + w = w by omega] at l0
      rw [l0, show 5 + w = 5 * 1 + w by omega, l1, show 10 + w = 5 * 2 + w by omega, l2, show 15 + w = 5 * 3 + w by omega, l3]
      refine ⟨(ao _ (by omega) (by omega) (by omega) (by omega) (by omega)).trans c0, (ao _ (by omega) (by omega) (by omega) (by omega) (by omega)).trans ?_, (ao _ (by omega) (by omega) (by omega) (by omega) (by omega)).trans ?_, (ao _ (by omega) (by omega) (by omega) (by omega) (by omega)).trans ?_⟩
      · exact c1
      · exact c2
      · exact c3
  · rw [b4] at h1
    exact (ao _ (by omega) (by omega) (by omega) (by omega) (by omega)).trans (d w (by omega) h2)
def FrR (S S' : PS) : Prop := (∀ j, j ≠ 54 → j ≠ 56 → S'.1 j = S.1 j) ∧ ∀ k, (k < 6 ∨ 12 ≤ k) → S'.1 54 k = S.1 54 k
theorem FrM.R {S S' : PS} (h : FrM S S') : FrR S S' := ⟨fun j a _ => h.1 j a, h.2⟩
theorem FrR.rf {S : PS} : FrR S S := ⟨fun _ _ _ => rfl, fun _ _ => rfl⟩
theorem FrR.tr {S S1 S2 : PS} (h : FrR S S1) (h2 : FrR S1 S2) : FrR S S2 := ⟨fun j a b => (h2.1 j a b).trans (h.1 j a b), fun k a => (h2.2 k a).trans (h.2 k a)⟩
theorem FrR.m {S S1 S2 : PS} (h : FrR S S1) (h2 : FrM S1 S2) : FrR S S2 := h.tr h2.R
theorem FrR.up {S S1 : PS} {k : Nat} {v : Int32} (h : FrR S S1) : FrR S (up2 S1.1 56 k v, S1.2) := ⟨fun j a b => (up2_ne _ _ _ b).trans (h.1 j a b), fun q a => by show up2 S1.1 56 k v 54 q = _; rw [up2_ne _ _ _ (by decide)]; exact h.2 q a⟩
theorem TpM.r {S S' : PS} {N : Nat} {tp : Nat → Nat} (h : TpM S N tp) (hf : FrR S S') : TpM S' N tp := h.of (hf.2 4 (by omega)) (hf.1 57 (by decide) (by decide))
theorem BadM.u {S : PS} {c s k : Nat} {v : Int32} (h : BadM S c s) : BadM (up2 S.1 56 k v, S.2) c s := h
theorem CurM.u {S : PS} {N : Nat} {tp : Nat → Nat} {p k : Nat} {v : Int32} (h : CurM S N tp p) : CurM (up2 S.1 56 k v, S.2) N tp p := h
theorem eB_4 {N : Nat} {tp : Nat → Nat} {p : Nat} (h4 : tk N tp p = 4) (co : Res) : eB N tp p co = .inl (1, tst N tp p) := by unfold eB; rw [if_pos h4]
theorem sp_readC {sc : PSc} {N : Nat} {tp : Nat → Nat} {S : PS} {Q : PQ} (ht : TpM S N tp) {p cdn : Nat} {R : Rw} {ou : Res} (hp : p ≤ N) (hv : Vd R) (hc9 : R 21 ≤ 99) (pr : PrAt S R) (cm : CurM S N tp p) (hcd : 1 = cdn) (ho : nB N tp 0 99 p (eB N tp (te N tp p) (.inr (rs R 21 (tv N tp p), true, te N tp (te N tp p)))) = ou) (kB : ∀ c s S', ou = .inl (c, s) → 0 < c → c < 8 → FrR S S' → BadM S' c s → Q none S') (kC : ∀ R' cd' q S', ou = eB N tp q (.inr (R', cd', te N tp q)) → FrR S S' → PrAt S' R' → Vd R' → R' 21 ≤ 99 → CurM S' N tp q → p < q → q ≤ N → (if cd' then 1 else 0) = (cdn : Nat) → Q none S') : E sc mX6_readMore 0 (pL0 mX6_readMore [.ref 54, .int (nI 4)]) [] S Q := by
  show E sc mX6_readMore 0 [.ref 54, .int (nI 4), .null, .null] [] S Q
  refine e_iload_n (pc := 0) (i := 1) dX6_readMore_0 rfl rfl ?_
  refine e_iconst' (pc := 1) (nI 4) dX6_readMore_1 (by decide) ?_
  refine e_icmp_ne (pc := 2) (tgt := 20) dX6_readMore_2 (by decide) (fun h2 => absurd (by decide) h2) (fun h2 => ?_)
  refine e_aload_n (pc := 5) (i := 0) dX6_readMore_5 rfl rfl ?_
  refine e_getR (pc := 6) dX6_readMore_6 (fX6_13 rfl) sh_54 rfl ?_
  refine e_bipush' (pc := 9) (nI 21) dX6_readMore_9 (by decide) ?_
  refine e_aload_n (pc := 11) (i := 0) dX6_readMore_11 rfl rfl ?_
  refine e_iconst' (pc := 12) (nI 0) dX6_readMore_12 (by decide) ?_
  refine e_bipush' (pc := 13) (nI 99) dX6_readMore_13 (by decide) ?_
  refine e_callV2 (pc := 15) (M' := mX6_number) dX6_readMore_15 iX6_number lkX6_91 (by decide) (rO_obj sh_54 rfl) (Nat.le_of_ble_eq_true rfl) (Nat.le_of_ble_eq_true rfl) ?_
  refine sp_numC ht (p := p) (l := 0) (h := 99) hp (by omega) (by omega) cm (fun c s S1 hb h1 h2 f1 g1 => ?_) (fun n2 n3 n4 S1 z4 f1 g1 => ?_) (fun n2 n3 n4 S1 f1 c1 => ?_)
  · rw [hb] at ho
    subst ho
    refine e_iast (pc := 18) dX6_readMore_18 sh_56 (vp_in_nI (by decide) (by decide)) ?_
    refine e_vret (pc := 19) (st := []) dX6_readMore_19 rfl ?_
    exact kB c s _ rfl h1 h2 f1.R.up g1
  · rw [nB_ok n2 n3 n4, eB_4 z4] at ho
    subst ho
    refine e_iast (pc := 18) dX6_readMore_18 sh_56 (vp_in_nI (by decide) (by decide)) ?_
    refine e_vret (pc := 19) (st := []) dX6_readMore_19 rfl ?_
    exact kB 1 _ _ rfl (by omega) (by omega) f1.R.up g1
  · rw [nB_ok n2 n3 n4] at ho
    subst ho
    have hb1 := te_b (N := N) (tp := tp) hp (by omega) (by omega)
    refine e_iast (pc := 18) dX6_readMore_18 sh_56 (vp_in_nI (by decide) (by decide)) ?_
    refine e_vret (pc := 19) (st := []) dX6_readMore_19 rfl ?_
    have hc21 : (nI 21).toNatClampNeg = 21 := by decide
    rw [hc21]
    exact kC _ true (te N tp p) _ rfl f1.R.up ((pr.of (f1.1 56 (by decide))).cnt hv) (rc_vd hv) (by rw [rs_at]; exact (tv_le n2).1) c1 (by omega) (by omega) hcd
theorem sp_readW {sc : PSc} {N : Nat} {tp : Nat → Nat} {S : PS} {Q : PQ} (ht : TpM S N tp) {p cdn : Nat} {R : Rw} {ou : Res} (hp : p ≤ N) (hv : Vd R) (hc9 : R 21 ≤ 99) (pr : PrAt S R) (cm : CurM S N tp p) {x : Nat} {cd : Bool} (hx : x < 4) (h5 : R 20 < 5) (hcd : (if cd then 1 else 0) = cdn) (ho : nB N tp 2 12 p (nB N tp 0 (tv N tp p - 1) (te N tp p) (if tk N tp (te N tp (te N tp p)) = 4 then .inl (1, tst N tp (te N tp (te N tp p))) else if tk N tp (te N tp (te N tp p)) = 2 then (if tv N tp (te N tp (te N tp p)) < tv N tp p then eB N tp (te N tp (te N tp (te N tp p))) (.inr (addR R x (tv N tp p) (tv N tp (te N tp p)) (tv N tp (te N tp (te N tp p))), cd, te N tp (te N tp (te N tp (te N tp p))))) else .inl (3, tst N tp (te N tp (te N tp p)))) else eB N tp (te N tp (te N tp p)) (.inr (addR R x (tv N tp p) (tv N tp (te N tp p)) 12, cd, te N tp (te N tp (te N tp p)))))) = ou) (kB : ∀ c s S', ou = .inl (c, s) → 0 < c → c < 8 → FrR S S' → BadM S' c s → Q none S') (kC : ∀ R' cd' q S', ou = eB N tp q (.inr (R', cd', te N tp q)) → FrR S S' → PrAt S' R' → Vd R' → R' 21 ≤ 99 → CurM S' N tp q → p < q → q ≤ N → (if cd' then 1 else 0) = (cdn : Nat) → Q none S') : E sc mX6_readMore 0 (pL0 mX6_readMore [.ref 54, .int (nI x)]) [] S Q := by
  show E sc mX6_readMore 0 [.ref 54, .int (nI x), .null, .null] [] S Q
  refine e_iload_n (pc := 0) (i := 1) dX6_readMore_0 rfl rfl ?_
  refine e_iconst' (pc := 1) (nI 4) dX6_readMore_1 (by decide) ?_
  refine e_icmp_ne (pc := 2) (tgt := 20) dX6_readMore_2 (by decide) (fun h2 => ?_) (fun h2 => absurd ((nI_eq (by omega) (by omega)).mp h2) (by omega))
  refine e_aload_n (pc := 20) (i := 0) dX6_readMore_20 rfl rfl ?_
  refine e_getR (pc := 21) dX6_readMore_21 (fX6_13 rfl) sh_54 rfl ?_
  refine e_bipush' (pc := 24) (nI 20) dX6_readMore_24 (by decide) ?_
  refine e_iald (pc := 26) dX6_readMore_26 sh_56 (vp_in_nI (by decide) (by decide)) ?_
  refine E.it (nI (R 20)) pr.1 ?_
  refine e_istore_n (pc := 27) (i := 2) dX6_readMore_27 rfl (by decide) rfl ?_
  refine e_aload_n (pc := 28) (i := 0) dX6_readMore_28 rfl rfl ?_
  refine e_iconst' (pc := 29) (nI 2) dX6_readMore_29 (by decide) ?_
  refine e_bipush' (pc := 30) (nI 12) dX6_readMore_30 (by decide) ?_
  refine e_callV2 (pc := 32) (M' := mX6_number) dX6_readMore_32 iX6_number lkX6_91 (by decide) (rO_obj sh_54 rfl) (Nat.le_of_ble_eq_true rfl) (Nat.le_of_ble_eq_true rfl) ?_
  refine sp_numC ht (p := p) (l := 2) (h := 12) hp (by omega) (by omega) cm (fun c s S1 hb h1 h2 f1 g1 => ?_) (fun n2 n3 n4 S1 z4 f1 g1 => ?_) (fun n2 n3 n4 S1 f1 c1 => ?_)
  · rw [hb] at ho
    subst ho
    refine e_istore_n (pc := 35) (i := 3) dX6_readMore_35 rfl (by decide) rfl ?_
    refine e_aload_n (pc := 36) (i := 0) dX6_readMore_36 rfl rfl ?_
    refine e_getR (pc := 37) dX6_readMore_37 (fX6_13 rfl) sh_54 rfl ?_
    refine e_iload_n (pc := 40) (i := 2) dX6_readMore_40 rfl rfl ?_
    refine e_iload_n (pc := 41) (i := 1) dX6_readMore_41 rfl rfl ?_
    refine e_iast (pc := 42) dX6_readMore_42 sh_56 (vp_in_nI (by omega) (by omega)) ?_
    refine e_aload_n (pc := 43) (i := 0) dX6_readMore_43 rfl rfl ?_
    refine e_getR (pc := 44) dX6_readMore_44 (fX6_13 rfl) sh_54 rfl ?_
    refine e_iconst' (pc := 47) (nI 5) dX6_readMore_47 (by decide) ?_
    refine e_iload_n (pc := 48) (i := 2) dX6_readMore_48 rfl rfl ?_
    refine e_iadd (pc := 49) dX6_readMore_49 ?_
    refine E.it (nI (5 + R 20)) (nI_add _ _) ?_
    refine e_iload_n (pc := 50) (i := 3) dX6_readMore_50 rfl rfl ?_
    refine e_iast (pc := 51) dX6_readMore_51 sh_56 (vp_in_nI (by omega) (by omega)) ?_
    refine e_aload_n (pc := 52) (i := 0) dX6_readMore_52 rfl rfl ?_
    refine e_getR (pc := 53) dX6_readMore_53 (fX6_13 rfl) sh_54 rfl ?_
    refine e_bipush' (pc := 56) (nI 10) dX6_readMore_56 (by decide) ?_
    refine e_iload_n (pc := 58) (i := 2) dX6_readMore_58 rfl rfl ?_
    refine e_iadd (pc := 59) dX6_readMore_59 ?_
    refine E.it (nI (10 + R 20)) (nI_add _ _) ?_
    refine e_aload_n (pc := 60) (i := 0) dX6_readMore_60 rfl rfl ?_
    refine e_iconst' (pc := 61) (nI 0) dX6_readMore_61 (by decide) ?_
    refine e_iload_n (pc := 62) (i := 3) dX6_readMore_62 rfl rfl ?_
    refine e_iconst' (pc := 63) (nI 1) dX6_readMore_63 (by decide) ?_
    refine e_isub (pc := 64) dX6_readMore_64 ?_
    refine e_callV2 (pc := 65) (M' := mX6_number) dX6_readMore_65 iX6_number lkX6_91 (by decide) (rO_obj sh_54 rfl) (Nat.le_of_ble_eq_true rfl) (Nat.le_of_ble_eq_true rfl) ?_
    refine sp_numberB (b := c) g1.1 h1 h2 ?_
    refine e_iast (pc := 68) dX6_readMore_68 sh_56 (vp_in_nI (by omega) (by omega)) ?_
    refine e_aload_n (pc := 69) (i := 0) dX6_readMore_69 rfl rfl ?_
    refine e_getI (pc := 70) dX6_readMore_70 (fX6_54 rfl) sh_54 rfl ?_
    refine E.it (nI c) g1.1 ?_
    refine e_if_ne (pc := 73) (tgt := 104) dX6_readMore_73 (by decide) (fun h73 => ?_) (fun h73 => absurd h73 (nI_ne0 h1 (by omega)))
    refine e_aload_n (pc := 104) (i := 0) dX6_readMore_104 rfl rfl ?_
    refine e_getR (pc := 105) dX6_readMore_105 (fX6_13 rfl) sh_54 rfl ?_
    refine e_bipush' (pc := 108) (nI 20) dX6_readMore_108 (by decide) ?_
    refine e_dup2 (pc := 110) dX6_readMore_110 rfl rfl ?_
    refine e_iald (pc := 111) dX6_readMore_111 sh_56 (vp_in_nI (by decide) (by decide)) ?_
    refine e_iconst' (pc := 112) (nI 1) dX6_readMore_112 (by decide) ?_
    refine e_iadd (pc := 113) dX6_readMore_113 ?_
    refine e_iast (pc := 114) dX6_readMore_114 sh_56 (vp_in_nI (by decide) (by decide)) ?_
    refine e_vret (pc := 115) (st := []) dX6_readMore_115 rfl ?_
    exact kB c s _ rfl h1 h2 (((f1.R.up).up).up.up) ⟨g1.1, g1.2⟩
  · rw [nB_ok n2 n3 n4, nB_4 z4] at ho
    subst ho
    refine e_istore_n (pc := 35) (i := 3) dX6_readMore_35 rfl (by decide) rfl ?_
    refine e_aload_n (pc := 36) (i := 0) dX6_readMore_36 rfl rfl ?_
    refine e_getR (pc := 37) dX6_readMore_37 (fX6_13 rfl) sh_54 rfl ?_
    refine e_iload_n (pc := 40) (i := 2) dX6_readMore_40 rfl rfl ?_
    refine e_iload_n (pc := 41) (i := 1) dX6_readMore_41 rfl rfl ?_
    refine e_iast (pc := 42) dX6_readMore_42 sh_56 (vp_in_nI (by omega) (by omega)) ?_
    refine e_aload_n (pc := 43) (i := 0) dX6_readMore_43 rfl rfl ?_
    refine e_getR (pc := 44) dX6_readMore_44 (fX6_13 rfl) sh_54 rfl ?_
    refine e_iconst' (pc := 47) (nI 5) dX6_readMore_47 (by decide) ?_
    refine e_iload_n (pc := 48) (i := 2) dX6_readMore_48 rfl rfl ?_
    refine e_iadd (pc := 49) dX6_readMore_49 ?_
    refine E.it (nI (5 + R 20)) (nI_add _ _) ?_
    refine e_iload_n (pc := 50) (i := 3) dX6_readMore_50 rfl rfl ?_
    refine e_iast (pc := 51) dX6_readMore_51 sh_56 (vp_in_nI (by omega) (by omega)) ?_
    refine e_aload_n (pc := 52) (i := 0) dX6_readMore_52 rfl rfl ?_
    refine e_getR (pc := 53) dX6_readMore_53 (fX6_13 rfl) sh_54 rfl ?_
    refine e_bipush' (pc := 56) (nI 10) dX6_readMore_56 (by decide) ?_
    refine e_iload_n (pc := 58) (i := 2) dX6_readMore_58 rfl rfl ?_
    refine e_iadd (pc := 59) dX6_readMore_59 ?_
    refine E.it (nI (10 + R 20)) (nI_add _ _) ?_
    refine e_aload_n (pc := 60) (i := 0) dX6_readMore_60 rfl rfl ?_
    refine e_iconst' (pc := 61) (nI 0) dX6_readMore_61 (by decide) ?_
    refine e_iload_n (pc := 62) (i := 3) dX6_readMore_62 rfl rfl ?_
    refine e_iconst' (pc := 63) (nI 1) dX6_readMore_63 (by decide) ?_
    refine e_isub (pc := 64) dX6_readMore_64 ?_
    refine e_callV2 (pc := 65) (M' := mX6_number) dX6_readMore_65 iX6_number lkX6_91 (by decide) (rO_obj sh_54 rfl) (Nat.le_of_ble_eq_true rfl) (Nat.le_of_ble_eq_true rfl) ?_
    refine sp_numberB (b := 1) g1.1 (show 0 < 1 by omega) (show 1 < 8 by omega) ?_
    refine e_iast (pc := 68) dX6_readMore_68 sh_56 (vp_in_nI (by omega) (by omega)) ?_
    refine e_aload_n (pc := 69) (i := 0) dX6_readMore_69 rfl rfl ?_
    refine e_getI (pc := 70) dX6_readMore_70 (fX6_54 rfl) sh_54 rfl ?_
    refine E.it (nI 1) g1.1 ?_
    refine e_if_ne (pc := 73) (tgt := 104) dX6_readMore_73 (by decide) (fun h73 => ?_) (fun h73 => absurd h73 (nI_ne0 (show 0 < 1 by omega) (by omega)))
    refine e_aload_n (pc := 104) (i := 0) dX6_readMore_104 rfl rfl ?_
    refine e_getR (pc := 105) dX6_readMore_105 (fX6_13 rfl) sh_54 rfl ?_
    refine e_bipush' (pc := 108) (nI 20) dX6_readMore_108 (by decide) ?_
    refine e_dup2 (pc := 110) dX6_readMore_110 rfl rfl ?_
    refine e_iald (pc := 111) dX6_readMore_111 sh_56 (vp_in_nI (by decide) (by decide)) ?_
    refine e_iconst' (pc := 112) (nI 1) dX6_readMore_112 (by decide) ?_
    refine e_iadd (pc := 113) dX6_readMore_113 ?_
    refine e_iast (pc := 114) dX6_readMore_114 sh_56 (vp_in_nI (by decide) (by decide)) ?_
    refine e_vret (pc := 115) (st := []) dX6_readMore_115 rfl ?_
    exact kB 1 _ _ rfl (show 0 < 1 by omega) (show 1 < 8 by omega) (((f1.R.up).up).up.up) ⟨g1.1, g1.2⟩
  · rw [nB_ok n2 n3 n4] at ho
    have hb1 := te_b (N := N) (tp := tp) hp (by omega) (by omega)
    refine e_istore_n (pc := 35) (i := 3) dX6_readMore_35 rfl (by decide) rfl ?_
    refine e_aload_n (pc := 36) (i := 0) dX6_readMore_36 rfl rfl ?_
    refine e_getR (pc := 37) dX6_readMore_37 (fX6_13 rfl) sh_54 rfl ?_
    refine e_iload_n (pc := 40) (i := 2) dX6_readMore_40 rfl rfl ?_
    refine e_iload_n (pc := 41) (i := 1) dX6_readMore_41 rfl rfl ?_
    refine e_iast (pc := 42) dX6_readMore_42 sh_56 (vp_in_nI (by omega) (by omega)) ?_
    rw [nI_clamp (show R 20 < 2 ^ 31 by omega)]
    refine e_aload_n (pc := 43) (i := 0) dX6_readMore_43 rfl rfl ?_
    refine e_getR (pc := 44) dX6_readMore_44 (fX6_13 rfl) sh_54 rfl ?_
    refine e_iconst' (pc := 47) (nI 5) dX6_readMore_47 (by decide) ?_
    refine e_iload_n (pc := 48) (i := 2) dX6_readMore_48 rfl rfl ?_
    refine e_iadd (pc := 49) dX6_readMore_49 ?_
    refine E.it (nI (5 + R 20)) (nI_add _ _) ?_
    refine e_iload_n (pc := 50) (i := 3) dX6_readMore_50 rfl rfl ?_
    refine e_iast (pc := 51) dX6_readMore_51 sh_56 (vp_in_nI (by omega) (by omega)) ?_
    rw [nI_clamp (show 5 + R 20 < 2 ^ 31 by omega)]
    refine e_aload_n (pc := 52) (i := 0) dX6_readMore_52 rfl rfl ?_
    refine e_getR (pc := 53) dX6_readMore_53 (fX6_13 rfl) sh_54 rfl ?_
    refine e_bipush' (pc := 56) (nI 10) dX6_readMore_56 (by decide) ?_
    refine e_iload_n (pc := 58) (i := 2) dX6_readMore_58 rfl rfl ?_
    refine e_iadd (pc := 59) dX6_readMore_59 ?_
    refine E.it (nI (10 + R 20)) (nI_add _ _) ?_
    refine e_aload_n (pc := 60) (i := 0) dX6_readMore_60 rfl rfl ?_
    refine e_iconst' (pc := 61) (nI 0) dX6_readMore_61 (by decide) ?_
    refine e_iload_n (pc := 62) (i := 3) dX6_readMore_62 rfl rfl ?_
    refine e_iconst' (pc := 63) (nI 1) dX6_readMore_63 (by decide) ?_
    refine e_isub (pc := 64) dX6_readMore_64 ?_
    refine E.it (nI (tv N tp p - 1)) (pk_sub (by omega)) ?_
    refine e_callV2 (pc := 65) (M' := mX6_number) dX6_readMore_65 iX6_number lkX6_91 (by decide) (rO_obj sh_54 rfl) (Nat.le_of_ble_eq_true rfl) (Nat.le_of_ble_eq_true rfl) ?_
    refine sp_numC (S := (up2 (up2 S1.1 56 (R 20) (nI x)) 56 (5 + R 20) (nI (tv N tp p)), S1.2)) (ht.r f1.R.up.up) (p := te N tp p) (l := 0) (h := tv N tp p - 1) (by omega) (by omega) (by omega) c1.u.u (fun c s S2 hb h1 h2 f2 g2 => ?_) (fun m2 m3 m4 S2 z4 f2 g2 => ?_) (fun m2 m3 m4 S2 f2 c2 => ?_)
    · rw [hb] at ho
      subst ho
      refine e_iast (pc := 68) dX6_readMore_68 sh_56 (vp_in_nI (by omega) (by omega)) ?_
      rw [nI_clamp (show 10 + R 20 < 2 ^ 31 by omega)]
      refine e_aload_n (pc := 69) (i := 0) dX6_readMore_69 rfl rfl ?_
      refine e_getI (pc := 70) dX6_readMore_70 (fX6_54 rfl) sh_54 rfl ?_
      refine E.it (nI c) g2.1 ?_
      refine e_if_ne (pc := 73) (tgt := 104) dX6_readMore_73 (by decide) (fun h73 => ?_) (fun h73 => absurd h73 (nI_ne0 h1 (by omega)))
      refine e_aload_n (pc := 104) (i := 0) dX6_readMore_104 rfl rfl ?_
      refine e_getR (pc := 105) dX6_readMore_105 (fX6_13 rfl) sh_54 rfl ?_
      refine e_bipush' (pc := 108) (nI 20) dX6_readMore_108 (by decide) ?_
      refine e_dup2 (pc := 110) dX6_readMore_110 rfl rfl ?_
      refine e_iald (pc := 111) dX6_readMore_111 sh_56 (vp_in_nI (by decide) (by decide)) ?_
      refine e_iconst' (pc := 112) (nI 1) dX6_readMore_112 (by decide) ?_
      refine e_iadd (pc := 113) dX6_readMore_113 ?_
      refine e_iast (pc := 114) dX6_readMore_114 sh_56 (vp_in_nI (by decide) (by decide)) ?_
      refine e_vret (pc := 115) (st := []) dX6_readMore_115 rfl ?_
      exact kB c s _ rfl h1 h2 (((f1.R.up.up).m f2).up.up) g2
    · rw [nB_ok m2 m3 m4, if_pos z4] at ho
      subst ho
      refine e_iast (pc := 68) dX6_readMore_68 sh_56 (vp_in_nI (by omega) (by omega)) ?_
      rw [nI_clamp (show 10 + R 20 < 2 ^ 31 by omega)]
      refine e_aload_n (pc := 69) (i := 0) dX6_readMore_69 rfl rfl ?_
      refine e_getI (pc := 70) dX6_readMore_70 (fX6_54 rfl) sh_54 rfl ?_
      refine E.it (nI 1) g2.1 ?_
      refine e_if_ne (pc := 73) (tgt := 104) dX6_readMore_73 (by decide) (fun h73 => ?_) (fun h73 => absurd h73 (by decide))
      refine e_aload_n (pc := 104) (i := 0) dX6_readMore_104 rfl rfl ?_
      refine e_getR (pc := 105) dX6_readMore_105 (fX6_13 rfl) sh_54 rfl ?_
      refine e_bipush' (pc := 108) (nI 20) dX6_readMore_108 (by decide) ?_
      refine e_dup2 (pc := 110) dX6_readMore_110 rfl rfl ?_
      refine e_iald (pc := 111) dX6_readMore_111 sh_56 (vp_in_nI (by decide) (by decide)) ?_
      refine e_iconst' (pc := 112) (nI 1) dX6_readMore_112 (by decide) ?_
      refine e_iadd (pc := 113) dX6_readMore_113 ?_
      refine e_iast (pc := 114) dX6_readMore_114 sh_56 (vp_in_nI (by decide) (by decide)) ?_
      refine e_vret (pc := 115) (st := []) dX6_readMore_115 rfl ?_
      exact kB 1 _ _ rfl (by omega) (by omega) (((f1.R.up.up).m f2).up.up) g2
    · rw [nB_ok m2 m3 m4, if_neg c2.1] at ho
      have hb2 := te_b (N := N) (tp := tp) (p := te N tp p) (by omega) (by omega) (by omega)
      have htk3 := tk_le (N := N) (tp := tp) (p := te N tp (te N tp p))
      refine e_iast (pc := 68) dX6_readMore_68 sh_56 (vp_in_nI (by omega) (by omega)) ?_
      rw [nI_clamp (show 10 + R 20 < 2 ^ 31 by omega)]
      refine e_aload_n (pc := 69) (i := 0) dX6_readMore_69 rfl rfl ?_
      refine e_getI (pc := 70) dX6_readMore_70 (fX6_54 rfl) sh_54 rfl ?_
      refine E.it (nI 0) c2.2.1 ?_
      refine e_if_ne (pc := 73) (tgt := 104) dX6_readMore_73 (by decide) (fun h73 => absurd (by decide) h73) (fun h73 => ?_)
      refine e_aload_n (pc := 76) (i := 0) dX6_readMore_76 rfl rfl ?_
      refine e_getI (pc := 77) dX6_readMore_77 (fX6_63 rfl) sh_54 rfl ?_
      refine E.it (nI (tk N tp (te N tp (te N tp p)))) c2.2.2.2.2.1 ?_
      refine e_iconst' (pc := 80) (nI 2) dX6_readMore_80 (by decide) ?_
      refine e_icmp_ne (pc := 81) (tgt := 104) dX6_readMore_81 (by decide) (fun h81 => ?_) (fun h81 => ?_)
      · replace h81 := mt (nI_eq (by omega) (by omega)).mpr h81
        rw [if_neg h81] at ho
        refine e_aload_n (pc := 104) (i := 0) dX6_readMore_104 rfl rfl ?_
        refine e_getR (pc := 105) dX6_readMore_105 (fX6_13 rfl) sh_54 rfl ?_
        refine e_bipush' (pc := 108) (nI 20) dX6_readMore_108 (by decide) ?_
        refine e_dup2 (pc := 110) dX6_readMore_110 rfl rfl ?_
        refine e_iald (pc := 111) dX6_readMore_111 sh_56 (vp_in_nI (by decide) (by decide)) ?_
        refine E.it (nI (R 20)) (by show up2 S2.1 56 (10 + R 20) _ 56 20 = _; rw [up2_at]; refine (if_neg (by omega)).trans ?_; rw [f2.1 56 (by decide)]; show up2 (up2 S1.1 56 (R 20) _) 56 (5 + R 20) _ 56 20 = _; rw [up2_at]; refine (if_neg (by omega)).trans ?_; rw [up2_at]; refine (if_neg (by omega)).trans ?_; rw [f1.1 56 (by decide)]; exact pr.1) ?_
        refine e_iconst' (pc := 112) (nI 1) dX6_readMore_112 (by decide) ?_
        refine e_iadd (pc := 113) dX6_readMore_113 ?_
        refine E.it (nI (R 20 + 1)) (nI_add _ _) ?_
        refine e_iast (pc := 114) dX6_readMore_114 sh_56 (vp_in_nI (by decide) (by decide)) ?_
        refine e_vret (pc := 115) (st := []) dX6_readMore_115 rfl ?_
        have e1 : S1.1 56 = S.1 56 := f1.1 56 (by decide)
        have e2 : S2.1 56 = up2 (up2 S1.1 56 (R 20) (nI x)) 56 (5 + R 20) (nI (tv N tp p)) 56 := f2.1 56 (by decide)
        have g0 : ∀ q, S2.1 56 q = if q = 5 + R 20 then nI (tv N tp p) else if q = R 20 then nI x else S.1 56 q := fun q => by rw [e2, up2_at, up2_at, e1]
        have hc20 : (nI 20).toNatClampNeg = 20 := by decide
        have g : ∀ q, up2 (up2 S2.1 56 (10 + R 20) (nI (tv N tp (te N tp p)))) 56 20 (nI (R 20 + 1)) 56 q = if q = 20 then nI (R 20 + 1) else if q = 10 + R 20 then nI (tv N tp (te N tp p)) else if q = 5 + R 20 then nI (tv N tp p) else if q = R 20 then nI x else S.1 56 q := fun q => by rw [up2_at, up2_at]; show (if _ then _ else if _ then _ else _) = _; rw [g0]
        rw [hc20]
        refine kC (addR R x (tv N tp p) (tv N tp (te N tp p)) 12) cd (te N tp (te N tp p)) _ ho.symm (((f1.R.up.up).m f2).up.up) ?_ (addR_vd hv h5 hx n3 n4 (by omega) (Or.inr rfl)) (by rw [(addR_at h5).2.2.2.2.2]; exact hc9) c2 (by omega) (by omega) hcd
        refine pr.add h5 ((g _).trans ?_) ((g _).trans ?_) ((g _).trans ?_) ((g _).trans ?_) ((g 20).trans ?_) (fun q q0 q1 q2 q3 q4 => (g q).trans ?_)
        · rw [if_neg (by omega), if_neg (by omega), if_neg (by omega), if_pos rfl]
        · rw [if_neg (by omega), if_neg (by omega), if_pos rfl]
        · rw [if_neg (by omega), if_pos rfl]
        · rw [if_neg (by omega), if_neg (by omega), if_neg (by omega), if_neg (by omega), pr.2.2.2 _ (Nat.le_refl _) h5]; decide
        · rw [if_pos rfl]
        · rw [if_neg q4, if_neg q2, if_neg q1, if_neg q0]
      · replace h81 := (nI_eq (by omega) (by omega)).mp h81
        rw [if_pos h81] at ho
        have hv3 := (tv_le h81).1
        refine e_aload_n (pc := 84) (i := 0) dX6_readMore_84 rfl rfl ?_
        refine e_getR (pc := 85) dX6_readMore_85 (fX6_13 rfl) sh_54 rfl ?_
        refine e_bipush' (pc := 88) (nI 15) dX6_readMore_88 (by decide) ?_
        refine e_iload_n (pc := 90) (i := 2) dX6_readMore_90 rfl rfl ?_
        refine e_iadd (pc := 91) dX6_readMore_91 ?_
        refine E.it (nI (15 + R 20)) (nI_add _ _) ?_
        refine e_aload_n (pc := 92) (i := 0) dX6_readMore_92 rfl rfl ?_
        refine e_iconst' (pc := 93) (nI 0) dX6_readMore_93 (by decide) ?_
        refine e_iload_n (pc := 94) (i := 3) dX6_readMore_94 rfl rfl ?_
        refine e_iconst' (pc := 95) (nI 1) dX6_readMore_95 (by decide) ?_
        refine e_isub (pc := 96) dX6_readMore_96 ?_
        refine E.it (nI (tv N tp p - 1)) (pk_sub (by omega)) ?_
        refine e_callV2 (pc := 97) (M' := mX6_number) dX6_readMore_97 iX6_number lkX6_91 (by decide) (rO_obj sh_54 rfl) (Nat.le_of_ble_eq_true rfl) (Nat.le_of_ble_eq_true rfl) ?_
        refine sp_numC (S := (up2 S2.1 56 (10 + R 20) (nI (tv N tp (te N tp p))), S2.2)) ((ht.r f1.R.up.up).r (f2.R.up)) (p := te N tp (te N tp p)) (l := 0) (h := tv N tp p - 1) (by omega) (by omega) (by omega) c2.u (fun c s S3 hb h1 h2 f3 g3 => ?_) (fun o2 o3 o4 S3 z4 f3 g3 => ?_) (fun o2 o3 o4 S3 f3 c3 => ?_)
        · have hge : ¬ tv N tp (te N tp (te N tp p)) < tv N tp p := fun q => by have z := hb (.inr (R, true, 0)); rw [nB_ok h81 (by omega) (by omega)] at z; cases z
          rw [if_neg hge] at ho
          have z := hb (.inr (R, true, 0))
          rw [nB_bad c2.1 (Or.inr ⟨h81, by omega, rfl⟩)] at z
          obtain ⟨rfl, rfl⟩ : 3 = c ∧ tst N tp (te N tp (te N tp p)) = s := by cases z; exact ⟨rfl, rfl⟩
          subst ho
          refine e_bipush' (pc := 100) (nI 12) dX6_readMore_100 (by decide) ?_
          refine e_isub (pc := 102) dX6_readMore_102 ?_
          refine e_iast (pc := 103) dX6_readMore_103 sh_56 (vp_in_nI (by omega) (by omega)) ?_
          refine e_aload_n (pc := 104) (i := 0) dX6_readMore_104 rfl rfl ?_
          refine e_getR (pc := 105) dX6_readMore_105 (fX6_13 rfl) sh_54 rfl ?_
          refine e_bipush' (pc := 108) (nI 20) dX6_readMore_108 (by decide) ?_
          refine e_dup2 (pc := 110) dX6_readMore_110 rfl rfl ?_
          refine e_iald (pc := 111) dX6_readMore_111 sh_56 (vp_in_nI (by decide) (by decide)) ?_
          refine e_iconst' (pc := 112) (nI 1) dX6_readMore_112 (by decide) ?_
          refine e_iadd (pc := 113) dX6_readMore_113 ?_
          refine e_iast (pc := 114) dX6_readMore_114 sh_56 (vp_in_nI (by decide) (by decide)) ?_
          refine e_vret (pc := 115) (st := []) dX6_readMore_115 rfl ?_
          exact kB 3 _ _ rfl h1 h2 ((((f1.R.up.up).m f2).up.m f3).up.up) g3
        · rw [if_pos (by omega), eB_4 z4] at ho
          subst ho
          refine e_bipush' (pc := 100) (nI 12) dX6_readMore_100 (by decide) ?_
          refine e_isub (pc := 102) dX6_readMore_102 ?_
          refine e_iast (pc := 103) dX6_readMore_103 sh_56 (vp_in_nI (by omega) (by omega)) ?_
          refine e_aload_n (pc := 104) (i := 0) dX6_readMore_104 rfl rfl ?_
          refine e_getR (pc := 105) dX6_readMore_105 (fX6_13 rfl) sh_54 rfl ?_
          refine e_bipush' (pc := 108) (nI 20) dX6_readMore_108 (by decide) ?_
          refine e_dup2 (pc := 110) dX6_readMore_110 rfl rfl ?_
          refine e_iald (pc := 111) dX6_readMore_111 sh_56 (vp_in_nI (by decide) (by decide)) ?_
          refine e_iconst' (pc := 112) (nI 1) dX6_readMore_112 (by decide) ?_
          refine e_iadd (pc := 113) dX6_readMore_113 ?_
          refine e_iast (pc := 114) dX6_readMore_114 sh_56 (vp_in_nI (by decide) (by decide)) ?_
          refine e_vret (pc := 115) (st := []) dX6_readMore_115 rfl ?_
          exact kB 1 _ _ rfl (by omega) (by omega) ((((f1.R.up.up).m f2).up.m f3).up.up) g3
        · rw [if_pos (by omega)] at ho
          have hb3 := te_b (N := N) (tp := tp) (p := te N tp (te N tp p)) (by omega) (by omega) (by omega)
          refine e_bipush' (pc := 100) (nI 12) dX6_readMore_100 (by decide) ?_
          refine e_isub (pc := 102) dX6_readMore_102 ?_
          refine e_iast (pc := 103) dX6_readMore_103 sh_56 (vp_in_nI (by omega) (by omega)) ?_
          rw [nI_clamp (show 15 + R 20 < 2 ^ 31 by omega)]
          refine e_aload_n (pc := 104) (i := 0) dX6_readMore_104 rfl rfl ?_
          refine e_getR (pc := 105) dX6_readMore_105 (fX6_13 rfl) sh_54 rfl ?_
          refine e_bipush' (pc := 108) (nI 20) dX6_readMore_108 (by decide) ?_
          refine e_dup2 (pc := 110) dX6_readMore_110 rfl rfl ?_
          refine e_iald (pc := 111) dX6_readMore_111 sh_56 (vp_in_nI (by decide) (by decide)) ?_
          refine E.it (nI (R 20)) (by show up2 S3.1 56 (15 + R 20) _ 56 20 = _; rw [up2_at]; refine (if_neg (by omega)).trans ?_; rw [f3.1 56 (by decide)]; show up2 S2.1 56 (10 + R 20) _ 56 20 = _; rw [up2_at]; refine (if_neg (by omega)).trans ?_; rw [f2.1 56 (by decide)]; show up2 (up2 S1.1 56 (R 20) _) 56 (5 + R 20) _ 56 20 = _; rw [up2_at]; refine (if_neg (by omega)).trans ?_; rw [up2_at]; refine (if_neg (by omega)).trans ?_; rw [f1.1 56 (by decide)]; exact pr.1) ?_
          refine e_iconst' (pc := 112) (nI 1) dX6_readMore_112 (by decide) ?_
          refine e_iadd (pc := 113) dX6_readMore_113 ?_
          refine E.it (nI (R 20 + 1)) (nI_add _ _) ?_
          refine e_iast (pc := 114) dX6_readMore_114 sh_56 (vp_in_nI (by decide) (by decide)) ?_
          refine e_vret (pc := 115) (st := []) dX6_readMore_115 rfl ?_
          have e1 : S1.1 56 = S.1 56 := f1.1 56 (by decide)
          have e2 : S2.1 56 = up2 (up2 S1.1 56 (R 20) (nI x)) 56 (5 + R 20) (nI (tv N tp p)) 56 := f2.1 56 (by decide)
          have g0 : ∀ q, S2.1 56 q = if q = 5 + R 20 then nI (tv N tp p) else if q = R 20 then nI x else S.1 56 q := fun q => by rw [e2, up2_at, up2_at, e1]
          have e3 : S3.1 56 = up2 S2.1 56 (10 + R 20) (nI (tv N tp (te N tp p))) 56 := f3.1 56 (by decide)
          have hc20 : (nI 20).toNatClampNeg = 20 := by decide
          have g : ∀ q, up2 (up2 S3.1 56 (15 + R 20) (nI (tv N tp (te N tp (te N tp p))) - nI 12)) 56 20 (nI (R 20 + 1)) 56 q = if q = 20 then nI (R 20 + 1) else if q = 15 + R 20 then nI (tv N tp (te N tp (te N tp p))) - nI 12 else if q = 10 + R 20 then nI (tv N tp (te N tp p)) else if q = 5 + R 20 then nI (tv N tp p) else if q = R 20 then nI x else S.1 56 q := fun q => by rw [up2_at, up2_at, e3, up2_at]; show (if _ then _ else if _ then _ else if _ then _ else _) = _; rw [g0]
          rw [hc20]
          refine kC (addR R x (tv N tp p) (tv N tp (te N tp p)) (tv N tp (te N tp (te N tp p)))) cd (te N tp (te N tp (te N tp p))) _ ho.symm ((((f1.R.up.up).m f2).up.m f3).up.up) ?_ (addR_vd hv h5 hx n3 n4 (by omega) (Or.inl (by omega))) (by rw [(addR_at h5).2.2.2.2.2]; exact hc9) c3 (by omega) (by omega) hcd
          refine pr.add h5 ((g _).trans ?_) ((g _).trans ?_) ((g _).trans ?_) ((g _).trans ?_) ((g 20).trans ?_) (fun q q0 q1 q2 q3 q4 => (g q).trans ?_)
          · rw [if_neg (by omega), if_neg (by omega), if_neg (by omega), if_neg (by omega), if_pos rfl]
          · rw [if_neg (by omega), if_neg (by omega), if_neg (by omega), if_pos rfl]
          · rw [if_neg (by omega), if_neg (by omega), if_pos rfl]
          · rw [if_neg (by omega), if_pos rfl]
          · rw [if_pos rfl]
          · rw [if_neg q4, if_neg q3, if_neg q2, if_neg q1, if_neg q0]

/-- as far as the first e that were seen go, behind j pushes it reads as seen -/
def ok1 (sp sv : Nat → Nat) (R : Rw) (j e : Nat) : Prop := ∀ k, k < e → sp k = j → reads (pn R j) = sv k
def fitP (sp sv : Nat → Nat) (n : Nat) (R : Rw) : Prop := ∀ k, k < n → reads (pn R (sp k)) = sv k
theorem fit_iff {sp sv : Nat → Nat} {n : Nat} {R : Rw} {N : Nat} (h : ∀ k, k < n → sp k ≤ N) : fitP sp sv n R ↔ ∀ j, j ≤ N → ok1 sp sv R j n := by
  constructor
  · intro f j _ k hk e; rw [← e]; exact f k hk
  · intro f k hk; exact f (sp k) (h k hk) k hk rfl
def mxp (sp : Nat → Nat) : Nat → Nat
  | 0 => 0
  | n + 1 => max (mxp sp n) (sp n)
theorem mxp_le {sp : Nat → Nat} : ∀ n k, k < n → sp k ≤ mxp sp n
  | 0, k, h => by omega
  | n + 1, k, h => by
    rw [mxp]
    by_cases e : k = n
    · subst e; omega
    · have := mxp_le (sp := sp) n k (by omega); omega
theorem mxp_b {sp : Nat → Nat} {b : Nat} : ∀ n, (∀ k, k < n → sp k ≤ b) → mxp sp n ≤ b
  | 0, _ => Nat.zero_le _
  | n + 1, h => by
    rw [mxp]
    have a := mxp_b n (fun k hk => h k (by omega))
    have b := h n (by omega)
    omega
/-- what was seen, as the class has it; as the reference has it -/
def SnC (S : PS) (n : Nat) (sp sv : Nat → Nat) : Prop := n ≤ 6 ∧ S.1 26 0 = nI n ∧ ∀ k, k < n → sp k ≤ 200 ∧ sv k ≤ 248831 ∧ S.1 27 k = nI (sp k) ∧ S.1 28 k = nI (sv k)
def SnM (S : PS) (n : Nat) (sp sv : Nat → Nat) : Prop := n ≤ 6 ∧ S.1 54 18 = nI n ∧ ∀ k, k < n → sp k ≤ 200 ∧ sv k ≤ 248831 ∧ S.1 60 (2 * k) = nI (sp k) ∧ S.1 60 (2 * k + 1) = nI (sv k)
theorem SnC.fr {S S' : PS} {n : Nat} {sp sv : Nat → Nat} (h : SnC S n sp sv) (hf : Fr 6 5 S S') : SnC S' n sp sv := by
  unfold SnC at h ⊢
  rw [hf.2 26 (by omega), hf.2 27 (by omega), hf.2 28 (by omega)]; exact h
theorem SnM.same {S S' : PS} {n : Nat} {sp sv : Nat → Nat} (h : SnM S n sp sv) (hf : Same S S') : SnM S' n sp sv := by
  unfold SnM at h ⊢
  rw [hf.2.1 18 (by omega), hf.2.2.2 60 (by omega)]; exact h
theorem lp_against {sc : PSc} {j n0 : Nat} {sp sv : Nat → Nat} {R : Rw} {S : PS} {Q : PQ} (hv : Vd R) (hr : RowAt S 6 R) (hs : SnC S n0 sp sv) (hb : j ≤ 200) (k1 : ∀ e, e < n0 → sp e = j → ¬ reads R = sv e → Q (some (.int (nI 1))) S) (k0 : (∀ e, e < n0 → sp e = j → reads R = sv e) → Q (some (.int (nI 0))) S) : ∀ (n : Nat) (e : Nat), e ≤ n0 → n0 - e < n → (∀ q, q < e → sp q = j → reads R = sv q) → E sc mX1_isAgainst 2 [.ref 26, .int (nI j), .ref 6, .int (nI e)] [] S Q := by
  intro n
  induction n with
  | zero => intro e he hn hz; exact absurd hn (by omega)
  | succ n ih =>
    intro e he hn hz
    obtain ⟨h6, h26, hss⟩ := id hs
    have hb2 := reads_le hv
    refine e_iload_n (pc := 2) (i := 3) dX1_isAgainst_2 rfl rfl ?_
    refine e_aload_n (pc := 3) (i := 0) dX1_isAgainst_3 rfl rfl ?_
    refine e_getI (pc := 4) dX1_isAgainst_4 (fX1_18 rfl) sh_26 rfl ?_
    refine E.it (nI n0) h26 ?_
    refine e_icmp_ge (pc := 7) (tgt := 41) dX1_isAgainst_7 (by decide) (fun h7 => ?_) (fun h7 => ?_)
    · replace h7 := (nI_leI (by omega) (by omega)).mp h7
      obtain rfl : e = n0 := by omega
      refine e_iconst' (pc := 41) (nI 0) dX1_isAgainst_41 (by decide) ?_
      refine e_iret (pc := 42) (st := []) (ty := .boolean) dX1_isAgainst_42 rfl rfl ?_
      exact k0 hz
    · replace h7 := mt (nI_leI (by omega) (by omega)).mpr h7
      obtain ⟨s1, s2, s3, s4⟩ := hss e (by omega)
      refine e_aload_n (pc := 10) (i := 0) dX1_isAgainst_10 rfl rfl ?_
      refine e_getR (pc := 11) dX1_isAgainst_11 (fX1_9 rfl) sh_26 rfl ?_
      refine e_iload_n (pc := 14) (i := 3) dX1_isAgainst_14 rfl rfl ?_
      refine e_iald (pc := 15) dX1_isAgainst_15 sh_27 (vp_in_nI (by omega) (by omega)) ?_
      refine E.it (nI (sp e)) (by rw [nI_clamp (by omega)]; exact s3) ?_
      refine e_iload_n (pc := 16) (i := 1) dX1_isAgainst_16 rfl rfl ?_
      refine e_icmp_ne (pc := 17) (tgt := 35) dX1_isAgainst_17 (by decide) (fun h17 => ?_) (fun h17 => ?_)
      · replace h17 := mt (nI_eq (by omega) (by omega)).mpr h17
        refine e_iinc' (pc := 35) (nI (e + 1)) dX1_isAgainst_35 rfl (by decide) rfl (nI_1 _) ?_
        refine e_goto (pc := 38) (tgt := 2) dX1_isAgainst_38 (by decide) ?_
        refine ih (e + 1) (by omega) (by omega) (fun q hq hq2 => ?_)
        by_cases ee : q = e
        · subst ee; first | exact absurd hq2 h17 | exact h30.symm
        · exact hz q (by omega) hq2
      · replace h17 := (nI_eq (by omega) (by omega)).mp h17
        refine e_aload_n (pc := 20) (i := 0) dX1_isAgainst_20 rfl rfl ?_
        refine e_getR (pc := 21) dX1_isAgainst_21 (fX1_15 rfl) sh_26 rfl ?_
        refine e_iload_n (pc := 24) (i := 3) dX1_isAgainst_24 rfl rfl ?_
        refine e_iald (pc := 25) dX1_isAgainst_25 sh_28 (vp_in_nI (by omega) (by omega)) ?_
        refine E.it (nI (sv e)) (by rw [nI_clamp (by omega)]; exact s4) ?_
        refine e_aload_n (pc := 26) (i := 2) dX1_isAgainst_26 rfl rfl ?_
        refine e_callV0 (pc := 27) (M' := mX0_reading) dX1_isAgainst_27 iX0_reading lkX1_37 (by decide) (rI_r r6) (Nat.le_of_ble_eq_true rfl) (Nat.le_of_ble_eq_true rfl) ?_
        refine sp_reading r6 hv hr ?_
        refine e_icmp_eq (pc := 30) (tgt := 35) dX1_isAgainst_30 (by decide) (fun h30 => ?_) (fun h30 => ?_)
        · replace h30 := (nI_eq (by omega) (by omega)).mp h30
          refine e_iinc' (pc := 35) (nI (e + 1)) dX1_isAgainst_35 rfl (by decide) rfl (nI_1 _) ?_
          refine e_goto (pc := 38) (tgt := 2) dX1_isAgainst_38 (by decide) ?_
          refine ih (e + 1) (by omega) (by omega) (fun q hq hq2 => ?_)
          by_cases ee : q = e
          · subst ee; first | exact absurd hq2 h17 | exact h30.symm
          · exact hz q (by omega) hq2
        · replace h30 := mt (nI_eq (by omega) (by omega)).mpr h30
          refine e_iconst' (pc := 33) (nI 1) dX1_isAgainst_33 (by decide) ?_
          refine e_iret (pc := 34) (st := []) (ty := .boolean) dX1_isAgainst_34 rfl rfl ?_
          exact k1 e (by omega) h17 (fun q => h30 q.symm)
theorem sp_isAgainst {sc : PSc} {j n0 : Nat} {sp sv : Nat → Nat} {R : Rw} {S : PS} {Q : PQ} (hv : Vd R) (hr : RowAt S 6 R) (hs : SnC S n0 sp sv) (hb : j ≤ 200) (k1 : ∀ e, e < n0 → sp e = j → ¬ reads R = sv e → Q (some (.int (nI 1))) S) (k0 : (∀ e, e < n0 → sp e = j → reads R = sv e) → Q (some (.int (nI 0))) S) : E sc mX1_isAgainst 0 (pL0 mX1_isAgainst [.ref 26, .int (nI j), .ref 6]) [] S Q := by
  show E sc mX1_isAgainst 0 [.ref 26, .int (nI j), .ref 6, .null] [] S Q
  refine e_iconst' (pc := 0) (nI 0) dX1_isAgainst_0 (by decide) ?_
  refine e_istore_n (pc := 1) (i := 3) dX1_isAgainst_1 rfl (by decide) rfl ?_
  exact lp_against hv hr hs hb k1 k0 (n0 + 1) 0 (by omega) (by omega) (fun q hq => by omega)
theorem lp_fits {sc : PSc} {n0 : Nat} {sp sv : Nat → Nat} {R : Rw} {S0 : PS} {Q : PQ} (hv : Vd R) (hs0 : SnC S0 n0 sp sv) (k : ∀ S' (b : Bool), (b = true ↔ fitP sp sv n0 R) → Fr 6 5 S0 S' → Q (some (.int (nI (if b then 1 else 0)))) S') : ∀ (n : Nat) (j : Nat) (S : PS), j ≤ mxp sp n0 + 1 → mxp sp n0 + 1 - j < n → RowAt S 6 (pn R j) → Fr 6 5 S0 S → (∀ i, i < j → ok1 sp sv R i n0) → E sc mX1_fits 31 [.ref 26, .ref 6, .int (nI (mxp sp n0)), .int (nI j)] [] S Q := by
  intro n
  induction n with
  | zero => intro j S hj hn hr hf hz; exact absurd hn (by omega)
  | succ n ih =>
    intro j S hj hn hr hf hz
    have hs := hs0.fr hf
    have hb : mxp sp n0 ≤ 200 := mxp_b n0 (fun k hk => (hs0.2.2 k hk).1)
    refine e_iload_n (pc := 31) (i := 3) dX1_fits_31 rfl rfl ?_
    refine e_iload_n (pc := 32) (i := 2) dX1_fits_32 rfl rfl ?_
    refine e_icmp_gt (pc := 33) (tgt := 57) dX1_fits_33 (by decide) (fun h33 => ?_) (fun h33 => ?_)
    · replace h33 := (nI_ltI (by omega) (by omega)).mp h33
      refine e_iconst' (pc := 57) (nI 1) dX1_fits_57 (by decide) ?_
      refine e_iret (pc := 58) (st := []) (ty := .boolean) dX1_fits_58 rfl rfl ?_
      exact k S true ⟨fun _ => (fit_iff (fun k hk => mxp_le n0 k hk)).mpr (fun i hi => hz i (by omega)), fun _ => rfl⟩ hf
    · replace h33 := mt (nI_ltI (by omega) (by omega)).mpr h33
      refine e_aload_n (pc := 36) (i := 0) dX1_fits_36 rfl rfl ?_
      refine e_iload_n (pc := 37) (i := 3) dX1_fits_37 rfl rfl ?_
      refine e_aload_n (pc := 38) (i := 1) dX1_fits_38 rfl rfl ?_
      refine e_callV2 (pc := 39) (M' := mX1_isAgainst) dX1_fits_39 iX1_isAgainst lkX1_28 (by decide) (rO_obj sh_26 rfl) (Nat.le_of_ble_eq_true rfl) (Nat.le_of_ble_eq_true rfl) ?_
      refine sp_isAgainst (pn_vd hv j) hr hs (by omega) (fun e he e1 e2 => ?_) (fun hok => ?_)
      · refine e_if_eq (pc := 42) (tgt := 47) dX1_fits_42 (by decide) (fun h42 => absurd h42 (by decide)) (fun h42 => ?_)
        refine e_iconst' (pc := 45) (nI 0) dX1_fits_45 (by decide) ?_
        refine e_iret (pc := 46) (st := []) (ty := .boolean) dX1_fits_46 rfl rfl ?_
        exact k S false ⟨fun h => (by cases h), fun h => (e2 (by rw [← e1]; exact h e he)).elim⟩ hf
      · refine e_if_eq (pc := 42) (tgt := 47) dX1_fits_42 (by decide) (fun h42 => ?_) (fun h42 => absurd (by decide) h42)
        refine e_aload_n (pc := 47) (i := 1) dX1_fits_47 rfl rfl ?_
        refine e_callV0 (pc := 48) (M' := mX0_pushOnce) dX1_fits_48 iX0_pushOnce lkX1_32 (by decide) (rI_r r6) (Nat.le_of_ble_eq_true rfl) (Nat.le_of_ble_eq_true rfl) ?_
        refine sp_pushOnce r6 (pn_vd hv j) hr (fun S1 a b c => ?_)
        refine e_iinc' (pc := 51) (nI (j + 1)) dX1_fits_51 rfl (by decide) rfl (nI_1 _) ?_
        refine e_goto (pc := 54) (tgt := 31) dX1_fits_54 (by decide) ?_
        refine ih (j + 1) S1 (by omega) (by omega) a (hf.tr c) (fun i hi => ?_)
        by_cases e : i = j
        · subst e; exact hok
        · exact hz i (by omega)
theorem lp_fits0 {sc : PSc} {n0 : Nat} {sp sv : Nat → Nat} {S : PS} {Q : PQ} (hs : SnC S n0 sp sv) (k : E sc mX1_fits 29 [.ref 26, .ref 6, .int (nI (mxp sp n0)), .int (nI n0)] [] S Q) : ∀ (n : Nat) (e : Nat), e ≤ n0 → n0 - e < n → E sc mX1_fits 4 [.ref 26, .ref 6, .int (nI (mxp sp e)), .int (nI e)] [] S Q := by
  intro n
  induction n with
  | zero => intro e he hn; exact absurd hn (by omega)
  | succ n ih =>
    intro e he hn
    obtain ⟨h6, h26, hss⟩ := id hs
    have hb : mxp sp e ≤ 200 := mxp_b e (fun k hk => (hss k (by omega)).1)
    refine e_iload_n (pc := 4) (i := 3) dX1_fits_4 rfl rfl ?_
    refine e_aload_n (pc := 5) (i := 0) dX1_fits_5 rfl rfl ?_
    refine e_getI (pc := 6) dX1_fits_6 (fX1_18 rfl) sh_26 rfl ?_
    refine E.it (nI n0) h26 ?_
    refine e_icmp_ge (pc := 9) (tgt := 29) dX1_fits_9 (by decide) (fun h9 => ?_) (fun h9 => ?_)
    · replace h9 := (nI_leI (by omega) (by omega)).mp h9
      obtain rfl : e = n0 := by omega
      exact k
    · replace h9 := mt (nI_leI (by omega) (by omega)).mpr h9
      obtain ⟨s1, s2, s3, s4⟩ := hss e (by omega)
      refine e_iload_n (pc := 12) (i := 2) dX1_fits_12 rfl rfl ?_
      refine e_aload_n (pc := 13) (i := 0) dX1_fits_13 rfl rfl ?_
      refine e_getR (pc := 14) dX1_fits_14 (fX1_9 rfl) sh_26 rfl ?_
      refine e_iload_n (pc := 17) (i := 3) dX1_fits_17 rfl rfl ?_
      refine e_iald (pc := 18) dX1_fits_18 sh_27 (vp_in_nI (by omega) (by omega)) ?_
      refine E.it (nI (sp e)) (by rw [nI_clamp (by omega)]; exact s3) ?_
      refine e_mmax (pc := 19) dX1_fits_19 (mxX1_22 rfl) (by decide) (Nat.le_of_ble_eq_true rfl) ?_
      refine E.it (nI (mxp sp (e + 1))) (nI_max (by omega) (by omega)) ?_
      refine e_istore_n (pc := 22) (i := 2) dX1_fits_22 rfl (by decide) rfl ?_
      refine e_iinc' (pc := 23) (nI (e + 1)) dX1_fits_23 rfl (by decide) rfl (nI_1 _) ?_
      refine e_goto (pc := 26) (tgt := 4) dX1_fits_26 (by decide) ?_
      exact ih (e + 1) (by omega) (by omega)
theorem sp_fits {sc : PSc} {n0 : Nat} {sp sv : Nat → Nat} {R : Rw} {S : PS} {Q : PQ} (hv : Vd R) (hr : RowAt S 6 R) (hs : SnC S n0 sp sv) (k : ∀ S' (b : Bool), (b = true ↔ fitP sp sv n0 R) → Fr 6 5 S S' → Q (some (.int (nI (if b then 1 else 0)))) S') : E sc mX1_fits 0 (pL0 mX1_fits [.ref 26, .ref 6]) [] S Q := by
  show E sc mX1_fits 0 [.ref 26, .ref 6, .null, .null] [] S Q
  refine e_iconst' (pc := 0) (nI 0) dX1_fits_0 (by decide) ?_
  refine e_istore_n (pc := 1) (i := 2) dX1_fits_1 rfl (by decide) rfl ?_
  refine e_iconst' (pc := 2) (nI 0) dX1_fits_2 (by decide) ?_
  refine e_istore_n (pc := 3) (i := 3) dX1_fits_3 rfl (by decide) rfl ?_
  refine lp_fits0 hs ?_ (n0 + 1) 0 (by omega) (by omega)
  refine e_iconst' (pc := 29) (nI 0) dX1_fits_29 (by decide) ?_
  refine e_istore_n (pc := 30) (i := 3) dX1_fits_30 rfl (by decide) rfl ?_
  exact lp_fits hv hs k (mxp sp n0 + 2) 0 S (by omega) (by omega) hr Fr.rf (fun i hi => by omega)
theorem sp_fitsWith {sc : PSc} {n0 w a v : Nat} {sp sv : Nat → Nat} {R : Rw} {S : PS} {Q : PQ} (hv : Vd R) (hr : RowAt S 1 R) (hw : w < R 20) (ha : a < 4) (hvd : Vd (rs R (5 * a + w) v)) (hs : SnC S n0 sp sv) (k : ∀ S' (b : Bool), (b = true ↔ fitP sp sv n0 (rs R (5 * a + w) v)) → Fr 6 5 S S' → Q (some (.int (nI (if b then 1 else 0)))) S') : E sc mX5_fitsWith 0 (pL0 mX5_fitsWith [.ref 0, .int (nI w), .int (nI a), .int (nI v)]) [] S Q := by
  show E sc mX5_fitsWith 0 [.ref 0, .int (nI w), .int (nI a), .int (nI v)] [] S Q
  refine e_aload_n (pc := 0) (i := 0) dX5_fitsWith_0 rfl rfl ?_
  refine e_iload_n (pc := 1) (i := 1) dX5_fitsWith_1 rfl rfl ?_
  refine e_iload_n (pc := 2) (i := 2) dX5_fitsWith_2 rfl rfl ?_
  refine e_iload_n (pc := 3) (i := 3) dX5_fitsWith_3 rfl rfl ?_
  refine e_callV3 (pc := 4) (M' := mX5_tryPart) dX5_fitsWith_4 iX5_tryPart lkX5_173 (by decide) (rO_obj sh_0 rfl) (Nat.le_of_ble_eq_true rfl) (Nat.le_of_ble_eq_true rfl) ?_
  refine sp_tryPart hv hr hw ha (fun S1 q1 q2 q3 => ?_)
  refine e_aload_n (pc := 7) (i := 0) dX5_fitsWith_7 rfl rfl ?_
  refine e_getR (pc := 8) dX5_fitsWith_8 (fX5_42 rfl) sh_0 rfl ?_
  refine e_aload_n (pc := 11) (i := 0) dX5_fitsWith_11 rfl rfl ?_
  refine e_getR (pc := 12) dX5_fitsWith_12 (fX5_16 rfl) sh_0 rfl ?_
  refine e_callV1 (pc := 15) (M' := mX1_fits) dX5_fitsWith_15 iX1_fits lkX5_258 (by decide) (rO_obj sh_26 rfl) (Nat.le_of_ble_eq_true rfl) (Nat.le_of_ble_eq_true rfl) ?_
  refine sp_fits hvd q1 (hs.fr q3) (fun S2 b hb c => ?_)
  refine e_iret (pc := 18) (st := []) (ty := .boolean) dX5_fitsWith_18 rfl (nar_b b) ?_
  exact k S2 b hb (q3.tr c)
/-- the reference's rows of readings: row t holds what R reads -/
def RbAt (S : PS) (t : Nat) (R : Rw) (j : Nat) : Prop := ∀ i, i < j → S.1 61 (201 * t + i) = nI (reads (pn R i))
def FrS (S S' : PS) (t : Nat) : Prop := (∀ j, j ≠ 54 → j ≠ 55 → j ≠ 61 → S'.1 j = S.1 j) ∧ (∀ k, (k < 88 ∨ 110 ≤ k) → S'.1 55 k = S.1 55 k) ∧ (∀ k, k ≠ 14 → S'.1 54 k = S.1 54 k) ∧ (∀ k, (k < 201 * t ∨ 201 * t + 201 ≤ k) → S'.1 61 k = S.1 61 k)
theorem FrS.rf {S : PS} {t : Nat} : FrS S S t := ⟨fun _ _ _ _ => rfl, fun _ _ => rfl, fun _ _ => rfl, fun _ _ => rfl⟩
theorem FrS.P {S S1 S2 : PS} {t : Nat} (h : FrS S S1 t) (h2 : FrP 88 S1 S2) : FrS S S2 t := ⟨fun j a b c => (h2.2.1 j a b).trans (h.1 j a b c), fun k a => (h2.2.2.1 k (by omega)).trans (h.2.1 k a), fun k a => (h2.2.2.2 k a).trans (h.2.2.1 k a), fun k a => by rw [h2.2.1 61 (by decide) (by decide)]; exact h.2.2.2 k a⟩
theorem FrS.up {S S1 : PS} {t q : Nat} {v : Int32} (h : FrS S S1 t) (h1 : 201 * t ≤ q) (h2 : q < 201 * t + 201) : FrS S (up2 S1.1 61 q v, S1.2) t := by
  refine ⟨fun j a b c => ?_, fun k a => ?_, fun k a => ?_, fun k a => ?_⟩
  · show up2 S1.1 61 q v j = _; rw [up2_ne _ _ _ c]; exact h.1 j a b c
  · show up2 S1.1 61 q v 55 k = _; rw [up2_ne _ _ _ (by decide)]; exact h.2.1 k a
  · show up2 S1.1 61 q v 54 k = _; rw [up2_ne _ _ _ (by decide)]; exact h.2.2.1 k a
  · show up2 S1.1 61 q v 61 k = _; rw [up2_at]; exact (if_neg (by omega)).trans (h.2.2.2 k a)
theorem FrS.same {S S' : PS} {t : Nat} (h : FrS S S' t) : Same S S' := ⟨fun j a => h.1 j (by omega) (by omega) (by omega), fun k a => h.2.2.1 k (by omega), fun k a => h.2.1 k (by omega), fun j a => h.1 j (by omega) (by omega) (by omega)⟩
theorem lm_seenI {sc : PSc} {n0 t : Nat} {sp sv : Nat → Nat} {R : Rw} {S0 : PS} {Q : PQ} {j : Nat} {S : PS} (hs : SnM S n0 sp sv) (hb : j ≤ 200) (hrd : reads (pn R j) ≤ 248831) (k : ∀ b : Bool, (b = true ↔ (∀ i, i < j → ok1 sp sv R i n0) ∧ ok1 sp sv R j n0) → E sc mX6_isAsSeen 97 [.ref 54, .int (nI t), .int (nI (if b then 1 else 0)), .int (nI j), .int (nI (reads (pn R j))), .int (nI n0)] [] S Q) : ∀ (n : Nat) (e : Nat) (b : Bool), e ≤ n0 → n0 - e < n → (b = true ↔ (∀ i, i < j → ok1 sp sv R i n0) ∧ ok1 sp sv R j e) → E sc mX6_isAsSeen 43 [.ref 54, .int (nI t), .int (nI (if b then 1 else 0)), .int (nI j), .int (nI (reads (pn R j))), .int (nI e)] [] S Q := by
  intro n
  induction n with
  | zero => intro e b he hn hbb; exact absurd hn (by omega)
  | succ n ih =>
    intro e b he hn hbb
    obtain ⟨h6, h18, hss⟩ := id hs
    refine e_iload (pc := 43) dX6_isAsSeen_43 rfl ?_
    refine e_aload_n (pc := 45) (i := 0) dX6_isAsSeen_45 rfl rfl ?_
    refine e_getI (pc := 46) dX6_isAsSeen_46 (fX6_114 rfl) sh_54 rfl ?_
    refine E.it (nI n0) h18 ?_
    refine e_icmp_ge (pc := 49) (tgt := 97) dX6_isAsSeen_49 (by decide) (fun h49 => ?_) (fun h49 => ?_)
    · replace h49 := (nI_leI (by omega) (by omega)).mp h49
      obtain rfl : e = n0 := by omega
      exact k b hbb
    · replace h49 := mt (nI_leI (by omega) (by omega)).mpr h49
      obtain ⟨s1, s2, s3, s4⟩ := hss e (by omega)
      have hst : ok1 sp sv R j (e + 1) ↔ ok1 sp sv R j e ∧ (sp e = j → reads (pn R j) = sv e) := ⟨fun h => ⟨fun q hq => h q (by omega), h e (by omega)⟩, fun h q hq hq2 => by by_cases ee : q = e; (subst ee; exact h.2 hq2); exact h.1 q (by omega) hq2⟩
      refine e_iload_n (pc := 52) (i := 2) dX6_isAsSeen_52 rfl rfl ?_
      refine e_if_eq (pc := 53) (tgt := 89) dX6_isAsSeen_53 (by decide) (fun h53 => ?_) (fun h53 => ?_)
      · have hbf : b = false := by cases b with | false => rfl | true => exact absurd h53 (by decide)
        refine e_iconst' (pc := 89) (nI 0) dX6_isAsSeen_89 (by decide) ?_
        refine e_istore_n (pc := 90) (i := 2) dX6_isAsSeen_90 rfl (by decide) rfl ?_
        refine e_iinc' (pc := 91) (nI (e + 1)) dX6_isAsSeen_91 rfl (by decide) rfl (nI_1 _) ?_
        refine e_goto (pc := 94) (tgt := 43) dX6_isAsSeen_94 (by decide) ?_
        first
          | exact ih (e + 1) true (by omega) (by omega) ⟨fun _ => ⟨(hbb.mp hbt).1, hst.mpr ⟨(hbb.mp hbt).2, fun q => absurd q h66⟩⟩, fun _ => rfl⟩
          | exact ih (e + 1) true (by omega) (by omega) ⟨fun _ => ⟨(hbb.mp hbt).1, hst.mpr ⟨(hbb.mp hbt).2, fun _ => h82⟩⟩, fun _ => rfl⟩
          | exact ih (e + 1) false (by omega) (by omega) ⟨fun h => (by cases h), fun h => (h82 ((hst.mp h.2).2 h66)).elim⟩
          | exact ih (e + 1) false (by omega) (by omega) ⟨fun h => (by cases h), fun h => by rw [hbb.mpr ⟨h.1, (hst.mp h.2).1⟩] at hbf; cases hbf⟩
      · have hbt : b = true := by cases b with | true => rfl | false => exact absurd (by decide) h53
        refine e_aload_n (pc := 56) (i := 0) dX6_isAsSeen_56 rfl rfl ?_
        refine e_getR (pc := 57) dX6_isAsSeen_57 (fX6_25 rfl) sh_54 rfl ?_
        refine e_iconst' (pc := 60) (nI 2) dX6_isAsSeen_60 (by decide) ?_
        refine e_iload (pc := 61) dX6_isAsSeen_61 rfl ?_
        refine e_imul (pc := 63) dX6_isAsSeen_63 ?_
        refine E.it (nI (2 * e)) (pk_mul _ _) ?_
        refine e_iald (pc := 64) dX6_isAsSeen_64 sh_60 (vp_in_nI (by omega) (by omega)) ?_
        refine E.it (nI (sp e)) (by rw [nI_clamp (by omega)]; exact s3) ?_
        refine e_iload_n (pc := 65) (i := 3) dX6_isAsSeen_65 rfl rfl ?_
        refine e_icmp_ne (pc := 66) (tgt := 85) dX6_isAsSeen_66 (by decide) (fun h66 => ?_) (fun h66 => ?_)
        · replace h66 := mt (nI_eq (by omega) (by omega)).mpr h66
          refine e_iconst' (pc := 85) (nI 1) dX6_isAsSeen_85 (by decide) ?_
          refine e_goto (pc := 86) (tgt := 90) dX6_isAsSeen_86 (by decide) ?_
          refine e_istore_n (pc := 90) (i := 2) dX6_isAsSeen_90 rfl (by decide) rfl ?_
          refine e_iinc' (pc := 91) (nI (e + 1)) dX6_isAsSeen_91 rfl (by decide) rfl (nI_1 _) ?_
          refine e_goto (pc := 94) (tgt := 43) dX6_isAsSeen_94 (by decide) ?_
          first
            | exact ih (e + 1) true (by omega) (by omega) ⟨fun _ => ⟨(hbb.mp hbt).1, hst.mpr ⟨(hbb.mp hbt).2, fun q => absurd q h66⟩⟩, fun _ => rfl⟩
            | exact ih (e + 1) true (by omega) (by omega) ⟨fun _ => ⟨(hbb.mp hbt).1, hst.mpr ⟨(hbb.mp hbt).2, fun _ => h82⟩⟩, fun _ => rfl⟩
            | exact ih (e + 1) false (by omega) (by omega) ⟨fun h => (by cases h), fun h => (h82 ((hst.mp h.2).2 h66)).elim⟩
            | exact ih (e + 1) false (by omega) (by omega) ⟨fun h => (by cases h), fun h => by rw [hbb.mpr ⟨h.1, (hst.mp h.2).1⟩] at hbf; cases hbf⟩
        · replace h66 := (nI_eq (by omega) (by omega)).mp h66
          refine e_iload (pc := 69) dX6_isAsSeen_69 rfl ?_
          refine e_aload_n (pc := 71) (i := 0) dX6_isAsSeen_71 rfl rfl ?_
          refine e_getR (pc := 72) dX6_isAsSeen_72 (fX6_25 rfl) sh_54 rfl ?_
          refine e_iconst' (pc := 75) (nI 2) dX6_isAsSeen_75 (by decide) ?_
          refine e_iload (pc := 76) dX6_isAsSeen_76 rfl ?_
          refine e_imul (pc := 78) dX6_isAsSeen_78 ?_
          refine E.it (nI (2 * e)) (pk_mul _ _) ?_
          refine e_iconst' (pc := 79) (nI 1) dX6_isAsSeen_79 (by decide) ?_
          refine e_iadd (pc := 80) dX6_isAsSeen_80 ?_
          refine E.it (nI (2 * e + 1)) (nI_add _ _) ?_
          refine e_iald (pc := 81) dX6_isAsSeen_81 sh_60 (vp_in_nI (by omega) (by omega)) ?_
          refine E.it (nI (sv e)) (by rw [nI_clamp (by omega)]; exact s4) ?_
          refine e_icmp_ne (pc := 82) (tgt := 89) dX6_isAsSeen_82 (by decide) (fun h82 => ?_) (fun h82 => ?_)
          · replace h82 := mt (nI_eq (by omega) (by omega)).mpr h82
            refine e_iconst' (pc := 89) (nI 0) dX6_isAsSeen_89 (by decide) ?_
            refine e_istore_n (pc := 90) (i := 2) dX6_isAsSeen_90 rfl (by decide) rfl ?_
            refine e_iinc' (pc := 91) (nI (e + 1)) dX6_isAsSeen_91 rfl (by decide) rfl (nI_1 _) ?_
            refine e_goto (pc := 94) (tgt := 43) dX6_isAsSeen_94 (by decide) ?_
            first
              | exact ih (e + 1) true (by omega) (by omega) ⟨fun _ => ⟨(hbb.mp hbt).1, hst.mpr ⟨(hbb.mp hbt).2, fun q => absurd q h66⟩⟩, fun _ => rfl⟩
              | exact ih (e + 1) true (by omega) (by omega) ⟨fun _ => ⟨(hbb.mp hbt).1, hst.mpr ⟨(hbb.mp hbt).2, fun _ => h82⟩⟩, fun _ => rfl⟩
              | exact ih (e + 1) false (by omega) (by omega) ⟨fun h => (by cases h), fun h => (h82 ((hst.mp h.2).2 h66)).elim⟩
              | exact ih (e + 1) false (by omega) (by omega) ⟨fun h => (by cases h), fun h => by rw [hbb.mpr ⟨h.1, (hst.mp h.2).1⟩] at hbf; cases hbf⟩
          · replace h82 := (nI_eq (by omega) (by omega)).mp h82
            refine e_iconst' (pc := 85) (nI 1) dX6_isAsSeen_85 (by decide) ?_
            refine e_goto (pc := 86) (tgt := 90) dX6_isAsSeen_86 (by decide) ?_
            refine e_istore_n (pc := 90) (i := 2) dX6_isAsSeen_90 rfl (by decide) rfl ?_
            refine e_iinc' (pc := 91) (nI (e + 1)) dX6_isAsSeen_91 rfl (by decide) rfl (nI_1 _) ?_
            refine e_goto (pc := 94) (tgt := 43) dX6_isAsSeen_94 (by decide) ?_
            first
              | exact ih (e + 1) true (by omega) (by omega) ⟨fun _ => ⟨(hbb.mp hbt).1, hst.mpr ⟨(hbb.mp hbt).2, fun q => absurd q h66⟩⟩, fun _ => rfl⟩
              | exact ih (e + 1) true (by omega) (by omega) ⟨fun _ => ⟨(hbb.mp hbt).1, hst.mpr ⟨(hbb.mp hbt).2, fun _ => h82⟩⟩, fun _ => rfl⟩
              | exact ih (e + 1) false (by omega) (by omega) ⟨fun h => (by cases h), fun h => (h82 ((hst.mp h.2).2 h66)).elim⟩
              | exact ih (e + 1) false (by omega) (by omega) ⟨fun h => (by cases h), fun h => by rw [hbb.mpr ⟨h.1, (hst.mp h.2).1⟩] at hbf; cases hbf⟩
theorem lm_seen {sc : PSc} {n0 t : Nat} {sp sv : Nat → Nat} {R : Rw} {S0 : PS} {Q : PQ} (hv : Vd R) (ht : t < 13) (hs0 : SnM S0 n0 sp sv) (k : ∀ S' (b : Bool), (b = true ↔ fitP sp sv n0 R) → RbAt S' t R 201 → FrS S0 S' t → Q (some (.int (nI (if b then 1 else 0)))) S') : ∀ (n : Nat) (j : Nat) (S : PS) (b : Bool) (y z : Value), j ≤ 201 → 201 - j < n → PgAt S 88 (pn R j) → FrS S0 S t → RbAt S t R j → (b = true ↔ ∀ i, i < j → ok1 sp sv R i n0) → E sc mX6_isAsSeen 11 [.ref 54, .int (nI t), .int (nI (if b then 1 else 0)), .int (nI j), y, z] [] S Q := by
  intro n
  induction n with
  | zero => intro j S b y z hj hn hp hf hrb hbb; exact absurd hn (by omega)
  | succ n ih =>
    intro j S b y z hj hn hp hf hrb hbb
    have hs := hs0.same hf.same
    have hvv := pn_vd hv j
    have hrd := reads_le hvv
    refine e_iload_n (pc := 11) (i := 3) dX6_isAsSeen_11 rfl rfl ?_
    refine e_sipush' (pc := 12) (nI 200) dX6_isAsSeen_12 (by decide) ?_
    refine e_icmp_gt (pc := 15) (tgt := 109) dX6_isAsSeen_15 (by decide) (fun h15 => ?_) (fun h15 => ?_)
    · replace h15 := (nI_ltI (by omega) (by omega)).mp h15
      obtain rfl : j = 201 := by omega
      refine e_iload_n (pc := 109) (i := 2) dX6_isAsSeen_109 rfl rfl ?_
      refine e_iret (pc := 110) (st := []) (ty := .boolean) dX6_isAsSeen_110 rfl (nar_b b) ?_
      exact k S b (hbb.trans ((fit_iff (N := 200) (fun k hk => (hs0.2.2 k hk).1)).trans ⟨fun h i hi => h i (by omega), fun h i hi => h i (by omega)⟩).symm) hrb hf
    · replace h15 := mt (nI_ltI (by omega) (by omega)).mpr h15
      refine e_aload_n (pc := 18) (i := 0) dX6_isAsSeen_18 rfl rfl ?_
      refine e_bipush' (pc := 19) (nI 88) dX6_isAsSeen_19 (by decide) ?_
      refine e_callV1 (pc := 21) (M' := mX6_readsOn) dX6_isAsSeen_21 iX6_readsOn lkX6_135 (by decide) (rO_obj sh_54 rfl) (Nat.le_of_ble_eq_true rfl) (Nat.le_of_ble_eq_true rfl) ?_
      refine sp_readsOn (p := 88) (by omega) hvv hp ?_
      refine e_istore (pc := 24) dX6_isAsSeen_24 (by decide) rfl ?_
      refine e_aload_n (pc := 26) (i := 0) dX6_isAsSeen_26 rfl rfl ?_
      refine e_getR (pc := 27) dX6_isAsSeen_27 (fX6_28 rfl) sh_54 rfl ?_
      refine e_sipush' (pc := 30) (nI 201) dX6_isAsSeen_30 (by decide) ?_
      refine e_iload_n (pc := 33) (i := 1) dX6_isAsSeen_33 rfl rfl ?_
      refine e_imul (pc := 34) dX6_isAsSeen_34 ?_
      refine E.it (nI (201 * t)) (pk_mul _ _) ?_
      refine e_iload_n (pc := 35) (i := 3) dX6_isAsSeen_35 rfl rfl ?_
      refine e_iadd (pc := 36) dX6_isAsSeen_36 ?_
      refine E.it (nI (201 * t + j)) (nI_add _ _) ?_
      refine e_iload (pc := 37) dX6_isAsSeen_37 rfl ?_
      refine e_iast (pc := 39) dX6_isAsSeen_39 sh_61 (vp_in_nI (by omega) (by omega)) ?_
      refine e_iconst' (pc := 40) (nI 0) dX6_isAsSeen_40 (by decide) ?_
      refine e_istore (pc := 41) dX6_isAsSeen_41 (by decide) rfl ?_
      rw [nI_clamp (show 201 * t + j < 2 ^ 31 by omega)]
      have hf2 : FrS S0 (up2 S.1 61 (201 * t + j) (nI (reads (pn R j))), S.2) t := hf.up (by omega) (by omega)
      have hrb2 : RbAt (up2 S.1 61 (201 * t + j) (nI (reads (pn R j))), S.2) t R (j + 1) := by
        intro i hi
        show up2 S.1 61 (201 * t + j) (nI (reads (pn R j))) 61 (201 * t + i) = _
        rw [up2_at]
        by_cases e : i = j
        · subst e; exact if_pos rfl
        · exact (if_neg (by omega)).trans (hrb i (by omega))
      have hp2 : PgAt (up2 S.1 61 (201 * t + j) (nI (reads (pn R j))), S.2) 88 (pn R j) := hp.of (fun q _ _ => rfl) hvv.1
      refine lm_seenI (S0 := S0) (S := (up2 S.1 61 (201 * t + j) (nI (reads (pn R j))), S.2)) (R := R) (hs0.same hf2.same) (by omega) hrd (fun b2 hb2 => ?_) (n0 + 1) 0 b (by omega) (by omega) ⟨fun h => ⟨hbb.mp h, fun q hq => by omega⟩, fun h => hbb.mpr h.1⟩
      refine e_aload_n (pc := 97) (i := 0) dX6_isAsSeen_97 rfl rfl ?_
      refine e_bipush' (pc := 98) (nI 88) dX6_isAsSeen_98 (by decide) ?_
      refine e_callV1 (pc := 100) (M' := mX6_pushOn) dX6_isAsSeen_100 iX6_pushOn lkX6_164 (by decide) (rO_obj sh_54 rfl) (Nat.le_of_ble_eq_true rfl) (Nat.le_of_ble_eq_true rfl) ?_
      refine sp_pushOn (p := 88) (by omega) hvv hp2 (fun S1 a _ c => ?_)
      refine e_iinc' (pc := 103) (nI (j + 1)) dX6_isAsSeen_103 rfl (by decide) rfl (nI_1 _) ?_
      refine e_goto (pc := 106) (tgt := 11) dX6_isAsSeen_106 (by decide) ?_
      refine ih (j + 1) S1 b2 _ _ (by omega) (by omega) a (hf2.P c) (fun i hi => by rw [c.2.1 61 (by decide) (by decide)]; exact hrb2 i hi) (hb2.trans ⟨fun h i hi => ?_, fun h => ⟨fun i hi => h i (by omega), h j (by omega)⟩⟩)
      by_cases e : i = j
      · subst e; exact h.2
      · exact h.1 i (by omega)
theorem sp_isAsSeen {sc : PSc} {n0 t : Nat} {sp sv : Nat → Nat} {R : Rw} {S : PS} {Q : PQ} (hv : Vd R) (hp : PgAt S 0 R) (ht : t < 13) (hs : SnM S n0 sp sv) (k : ∀ S' (b : Bool), (b = true ↔ fitP sp sv n0 R) → RbAt S' t R 201 → FrS S S' t → Q (some (.int (nI (if b then 1 else 0)))) S') : E sc mX6_isAsSeen 0 (pL0 mX6_isAsSeen [.ref 54, .int (nI t)]) [] S Q := by
  show E sc mX6_isAsSeen 0 [.ref 54, .int (nI t), .null, .null, .null, .null] [] S Q
  refine e_aload_n (pc := 0) (i := 0) dX6_isAsSeen_0 rfl rfl ?_
  refine e_iconst' (pc := 1) (nI 0) dX6_isAsSeen_1 (by decide) ?_
  refine e_bipush' (pc := 2) (nI 88) dX6_isAsSeen_2 (by decide) ?_
  refine e_callV2 (pc := 4) (M' := mX6_copies) dX6_isAsSeen_4 iX6_copies lkX6_167 (by decide) (rO_obj sh_54 rfl) (Nat.le_of_ble_eq_true rfl) (Nat.le_of_ble_eq_true rfl) ?_
  refine sp_copyPg (b := 88) (by omega) (by omega) (by omega) hv hp (fun S1 a f => ?_)
  refine e_iconst' (pc := 7) (nI 1) dX6_isAsSeen_7 (by decide) ?_
  refine e_istore_n (pc := 8) (i := 2) dX6_isAsSeen_8 rfl (by decide) rfl ?_
  refine e_iconst' (pc := 9) (nI 0) dX6_isAsSeen_9 (by decide) ?_
  refine e_istore_n (pc := 10) (i := 3) dX6_isAsSeen_10 rfl (by decide) rfl ?_
  exact lm_seen hv ht hs k 202 0 S1 true _ _ (by omega) (by omega) a (FrS.rf.P f.P) (fun i hi => by omega) ⟨fun _ i hi => by omega, fun _ => rfl⟩

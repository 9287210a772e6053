theorem pgn {S : PS} {p : Nat} {R : Rw} (hp : p + 22 ≤ 132) (hr : PgAt S p R) : S.1 55 (nI (p + 20)).toNatClampNeg = nI (R (20)) := by rw [nI_clamp (by omega)]; exact hr.1
theorem pgc {S : PS} {p : Nat} {R : Rw} (hp : p + 22 ≤ 132) (hr : PgAt S p R) : S.1 55 (nI (p + 21)).toNatClampNeg = nI (R (21)) := by rw [nI_clamp (by omega)]; exact hr.2.1
theorem pgk {S : PS} {p w : Nat} {R : Rw} (hp : p + 22 ≤ 132) (hv : Vd R) (hr : PgAt S p R) (hw : w < R 20) : S.1 55 (nI (p + w)).toNatClampNeg = nI (R w) := by rw [nI_clamp (by have := hv.1; omega)]; exact (hr.2.2 w hw).1
theorem pgt {S : PS} {p w : Nat} {R : Rw} (hp : p + 22 ≤ 132) (hv : Vd R) (hr : PgAt S p R) (hw : w < R 20) : S.1 55 (nI (p + 5 + w)).toNatClampNeg = nI (R (5 + w)) := by rw [nI_clamp (by have := hv.1; omega)]; exact (hr.2.2 w hw).2.1
theorem pgd {S : PS} {p w : Nat} {R : Rw} (hp : p + 22 ≤ 132) (hv : Vd R) (hr : PgAt S p R) (hw : w < R 20) : S.1 55 (nI (p + 10 + w)).toNatClampNeg = nI (R (10 + w)) := by rw [nI_clamp (by have := hv.1; omega)]; exact (hr.2.2 w hw).2.2.1
theorem pgb {S : PS} {p w : Nat} {R : Rw} (hp : p + 22 ≤ 132) (hv : Vd R) (hr : PgAt S p R) (hw : w < R 20) : S.1 55 (nI (p + 15 + w)).toNatClampNeg = nI (R (15 + w)) - nI 12 := by rw [nI_clamp (by have := hv.1; omega)]; exact (hr.2.2 w hw).2.2.2
/-- nothing but a page, and how many carried, has changed -/
def FrP (p : Nat) (S S' : PS) : Prop := S'.2 = S.2 ∧ (∀ j, j ≠ 54 → j ≠ 55 → S'.1 j = S.1 j) ∧ (∀ k, (k < p ∨ p + 22 ≤ k) → S'.1 55 k = S.1 55 k) ∧ (∀ k, k ≠ 14 → S'.1 54 k = S.1 54 k)
theorem FrP.rf {p : Nat} {S : PS} : FrP p S S := ⟨rfl, fun _ _ _ => rfl, fun _ _ => rfl, fun _ _ => rfl⟩
theorem FrP.tr {p : Nat} {S S1 S2 : PS} (h : FrP p S S1) (h2 : FrP p S1 S2) : FrP p S S2 := ⟨h2.1.trans h.1, fun j a b => (h2.2.1 j a b).trans (h.2.1 j a b), fun k a => (h2.2.2.1 k a).trans (h.2.2.1 k a), fun k a => (h2.2.2.2 k a).trans (h.2.2.2 k a)⟩
theorem FrP.up {p k : Nat} {v : Int32} {S S1 : PS} (h : FrP p S S1) (h1 : p ≤ k) (h2 : k < p + 22) : FrP p S (up2 S1.1 55 k v, S1.2) := by
  refine ⟨h.1, fun j a b => ?_, fun q a => ?_, fun q a => ?_⟩
  · show up2 S1.1 55 k v j = _; rw [up2_ne _ _ _ b]; exact h.2.1 j a b
  · show up2 S1.1 55 k v 55 q = _; rw [up2_at]; show (if q = k then v else S1.1 55 q) = _; rw [if_neg (by omega)]; exact h.2.2.1 q a
  · show up2 S1.1 55 k v 54 q = _; rw [up2_ne _ _ _ (by decide)]; exact h.2.2.2 q a
theorem FrP.car {p : Nat} {v : Int32} {S S1 : PS} (h : FrP p S S1) : FrP p S (up2 S1.1 54 14 v, S1.2) := by
  refine ⟨h.1, fun j a b => ?_, fun q a => ?_, fun q a => ?_⟩
  · show up2 S1.1 54 14 v j = _; rw [up2_ne _ _ _ a]; exact h.2.1 j a b
  · show up2 S1.1 54 14 v 55 q = _; rw [up2_ne _ _ _ (by decide)]; exact h.2.2.1 q a
  · show up2 S1.1 54 14 v 54 q = _; rw [up2_at]; show (if q = 14 then v else S1.1 54 q) = _; rw [if_neg a]; exact h.2.2.2 q a
theorem PgAt.car {p q : Nat} {v : Int32} {S : PS} {R : Rw} (h : PgAt S p R) : PgAt (up2 S.1 54 q v, S.2) p R := by
  unfold PgAt at h ⊢
  show up2 S.1 54 q v 55 _ = _ ∧ up2 S.1 54 q v 55 _ = _ ∧ ∀ w, w < R 20 → up2 S.1 54 q v 55 _ = _ ∧ up2 S.1 54 q v 55 _ = _ ∧ up2 S.1 54 q v 55 _ = _ ∧ up2 S.1 54 q v 55 _ = _
  rw [up2_ne _ _ _ (by decide)]
  exact h
theorem PgAt.of {p : Nat} {S S' : PS} {R : Rw} (h : PgAt S p R) (he : ∀ k, p ≤ k → k < p + 22 → S'.1 55 k = S.1 55 k) (h5 : R 20 ≤ 5) : PgAt S' p R := by
  obtain ⟨a, b, c⟩ := h
  refine ⟨by rw [he _ (by omega) (by omega)]; exact a, by rw [he _ (by omega) (by omega)]; exact b, fun w hw => ?_⟩
  rw [he (p + w) (by omega) (by omega), he (p + 5 + w) (by omega) (by omega), he (p + 10 + w) (by omega) (by omega), he (p + 15 + w) (by omega) (by omega)]
  exact c w hw
theorem PgAt.dig {p j v : Nat} {S : PS} {R : Rw} (h : PgAt S p R) (hv : Vd R) (hj : j < R 20) : PgAt (up2 S.1 55 (p + 10 + j) (nI v), S.2) p (rs R (10 + j) v) := by
  have h5 := hv.1
  have e : ∀ k, k ≠ p + 10 + j → up2 S.1 55 (p + 10 + j) (nI v) 55 k = S.1 55 k := fun k hk => by rw [up2_at]; exact if_neg hk
  refine ⟨?_, ?_, fun w hw => ?_⟩
  · rw [rs_ne _ _ (by omega)]; exact (e _ (by omega)).trans h.1
  · rw [rs_ne _ _ (by omega)]; exact (e _ (by omega)).trans h.2.1
  · rw [rs_ne _ _ (by omega)] at hw
    obtain ⟨a, b, c, d⟩ := h.2.2 w hw
    rw [rs_ne _ _ (show w ≠ 10 + j by omega), rs_ne _ _ (show 5 + w ≠ 10 + j by omega), rs_ne _ _ (show 15 + w ≠ 10 + j by omega)]
    refine ⟨(e _ (by omega)).trans a, (e _ (by omega)).trans b, ?_, (e _ (by omega)).trans d⟩
    by_cases q : w = j
    · subst q; rw [rs_at]; show up2 S.1 55 (p + 10 + w) (nI v) 55 (p + 10 + w) = _; rw [up2_at]; exact if_pos rfl
    · rw [rs_ne _ _ (by omega)]; exact (e _ (by omega)).trans c
theorem PgAt.cnt {p v : Nat} {S : PS} {R : Rw} (h : PgAt S p R) (hv : Vd R) : PgAt (up2 S.1 55 (p + 21) (nI v), S.2) p (rs R 21 v) := by
  have h5 := hv.1
  have e : ∀ k, k ≠ p + 21 → up2 S.1 55 (p + 21) (nI v) 55 k = S.1 55 k := fun k hk => by rw [up2_at]; exact if_neg hk
  refine ⟨?_, ?_, fun w hw => ?_⟩
  · rw [rs_ne _ _ (by omega)]; exact (e _ (by omega)).trans h.1
  · rw [rs_at]; show up2 S.1 55 (p + 21) (nI v) 55 (p + 21) = _; rw [up2_at]; exact if_pos rfl
  · rw [rs_ne _ _ (by omega)] at hw
    obtain ⟨a, b, c, d⟩ := h.2.2 w hw
    rw [rs_ne _ _ (show w ≠ 21 by omega), rs_ne _ _ (show 5 + w ≠ 21 by omega), rs_ne _ _ (show 10 + w ≠ 21 by omega), rs_ne _ _ (show 15 + w ≠ 21 by omega)]
    exact ⟨(e _ (by omega)).trans a, (e _ (by omega)).trans b, (e _ (by omega)).trans c, (e _ (by omega)).trans d⟩
theorem b12 {b : Nat} : nI b - nI 12 + nI 12 = nI b := by rw [Int32.sub_add_cancel]
theorem sp_in {sc : PSc} {S : PS} {Q : PQ} (v a b : Int64) (k1 : a ≤ v → v ≤ b → Q (some (.int (nI 1))) S) (k0 : ¬ (a ≤ v ∧ v ≤ b) → Q (some (.int (nI 0))) S) : E sc mX6_in 0 (pL0 mX6_in [.long v, .long a, .long b]) [] S Q := by
  show E sc mX6_in 0 [.long v, .null, .long a, .null, .long b, .null] [] S Q
  refine e_lload_n (pc := 0) (i := 0) dX6_in_0 rfl rfl ?_
  refine e_lload_n (pc := 1) (i := 2) dX6_in_1 rfl rfl ?_
  refine e_lcmp (pc := 2) dX6_in_2 ?_
  refine e_if_lt (pc := 3) (tgt := 17) dX6_in_3 (by decide) (fun h3 => ?_) (fun h3 => ?_)
  · rw [lg_cmp_lt] at h3
    refine e_iconst' (pc := 17) (nI 0) dX6_in_17 (by decide) ?_
    refine e_iret (pc := 18) (st := []) (ty := .boolean) dX6_in_18 rfl rfl ?_
    first
      | exact k1 (Int64.not_lt.mp h3) (Int64.not_lt.mp h10)
      | exact k0 (fun q => absurd q.1 (Int64.not_le.mpr h3))
      | exact k0 (fun q => absurd q.2 (Int64.not_le.mpr h10))
  · rw [lg_cmp_lt] at h3
    refine e_lload_n (pc := 6) (i := 0) dX6_in_6 rfl rfl ?_
    refine e_lload (pc := 7) dX6_in_7 rfl ?_
    refine e_lcmp (pc := 9) dX6_in_9 ?_
    refine e_if_gt (pc := 10) (tgt := 17) dX6_in_10 (by decide) (fun h10 => ?_) (fun h10 => ?_)
    · rw [lg_cmp_gt] at h10
      refine e_iconst' (pc := 17) (nI 0) dX6_in_17 (by decide) ?_
      refine e_iret (pc := 18) (st := []) (ty := .boolean) dX6_in_18 rfl rfl ?_
      first
        | exact k1 (Int64.not_lt.mp h3) (Int64.not_lt.mp h10)
        | exact k0 (fun q => absurd q.1 (Int64.not_le.mpr h3))
        | exact k0 (fun q => absurd q.2 (Int64.not_le.mpr h10))
    · rw [lg_cmp_gt] at h10
      refine e_iconst' (pc := 13) (nI 1) dX6_in_13 (by decide) ?_
      refine e_goto (pc := 14) (tgt := 18) dX6_in_14 (by decide) ?_
      refine e_iret (pc := 18) (st := []) (ty := .boolean) dX6_in_18 rfl rfl ?_
      first
        | exact k1 (Int64.not_lt.mp h3) (Int64.not_lt.mp h10)
        | exact k0 (fun q => absurd q.1 (Int64.not_le.mpr h3))
        | exact k0 (fun q => absurd q.2 (Int64.not_le.mpr h10))
theorem sp_inI {sc : PSc} {S : PS} {Q : PQ} {v : Int32} {A B : Int64} {lo : Nat} {hi : Int} (hA : A.toInt = lo) (hB : B.toInt = hi) (k1 : ∀ b : Nat, b < 2 ^ 31 → v = nI b → lo ≤ b → (b : Int) ≤ hi → Q (some (.int (nI 1))) S) (k0 : (∀ b : Nat, b < 2 ^ 31 → v = nI b → lo ≤ b → (b : Int) ≤ hi → False) → Q (some (.int (nI 0))) S) : E sc mX6_in 0 (pL0 mX6_in [.long v.toInt64, .long A, .long B]) [] S Q := by
  have ev : v.toInt64.toInt = v.toInt := Int32.toInt_toInt64 v
  refine sp_in _ _ _ (fun h1 h2 => ?_) (fun h => ?_)
  · rw [fa_le64, hA, ev] at h1
    rw [fa_le64, hB, ev] at h2
    have e0 : ¬ v < 0 := by rw [fa_lt]; show ¬ v.toInt < (0 : Int); omega
    obtain ⟨b, hb, rfl⟩ := nI_of e0
    rw [nI_toInt hb] at h1 h2
    exact k1 b hb rfl (by omega) h2
  · refine k0 (fun b hb e h1 h2 => h ?_)
    subst e
    rw [fa_le64, fa_le64, hA, hB, ev, nI_toInt hb]
    omega
theorem sp_isWheel {sc : PSc} {R : Rw} {S : PS} {Q : PQ} {w : Int32} (hv : Vd R) (hr : PgAt S 0 R) (k1 : ∀ j, j < R 20 → w = nI j → Q (some (.int (nI 1))) S) (k0 : (w < 0 ∨ nI (R 20) ≤ w) → Q (some (.int (nI 0))) S) : E sc mX6_isWheel 0 (pL0 mX6_isWheel [.ref 54, .int w]) [] S Q := by
  show E sc mX6_isWheel 0 [.ref 54, .int w] [] S Q
  have h5 := hv.1
  refine e_iload_n (pc := 0) (i := 1) dX6_isWheel_0 rfl rfl ?_
  refine e_i2l (pc := 1) dX6_isWheel_1 ?_
  refine e_lconst' (pc := 2) (lN 0) dX6_isWheel_2 (by decide) ?_
  refine e_aload_n (pc := 3) (i := 0) dX6_isWheel_3 rfl rfl ?_
  refine e_getR (pc := 4) dX6_isWheel_4 (fX6_7 rfl) sh_54 rfl ?_
  refine e_bipush' (pc := 7) (nI 20) dX6_isWheel_7 (by decide) ?_
  refine e_iald (pc := 9) dX6_isWheel_9 sh_55 (vp_in_nI (by omega) (by omega)) ?_
  refine E.it (nI (R (20))) (pgn (p := 0) (by omega) hr) ?_
  refine e_iconst' (pc := 10) (nI 1) dX6_isWheel_10 (by decide) ?_
  refine e_isub (pc := 11) dX6_isWheel_11 ?_
  refine e_i2l (pc := 12) dX6_isWheel_12 ?_
  refine e_callS3 (pc := 13) (M' := mX6_in) dX6_isWheel_13 jX6_in lkX6_46 (by decide) (Nat.le_of_ble_eq_true rfl) (Nat.le_of_ble_eq_true rfl) ?_
  refine sp_inI (lo := 0) (hi := (R 20 : Int) - 1) (by decide) (by rw [Int32.toInt_toInt64, pk_sub_toInt (by omega) (by decide)]; rfl) (fun b hb e h1 h2 => ?_) (fun h => ?_)
  · refine e_iret (pc := 16) (st := []) (ty := .boolean) dX6_isWheel_16 rfl rfl ?_
    exact k1 b (by omega) e
  · refine e_iret (pc := 16) (st := []) (ty := .boolean) dX6_isWheel_16 rfl rfl ?_
    rcases pk_ix w (show R 20 < 2 ^ 31 by omega) with z | z | ⟨j, hj, e⟩
    · exact k0 (Or.inl z)
    · exact k0 (Or.inr z)
    · exact (h j (by omega) e (by omega) (by omega)).elim
theorem sp_isDigit {sc : PSc} {S : PS} {Q : PQ} {v : Int32} (k1 : ∀ b : Nat, v = nI b → b ≤ 11 → Q (some (.int (nI 1))) S) (k0 : (∀ b : Nat, v = nI b → b ≤ 11 → False) → Q (some (.int (nI 0))) S) : E sc mX6_isDigit 0 (pL0 mX6_isDigit [.int v]) [] S Q := by
  show E sc mX6_isDigit 0 [.int v] [] S Q
  refine e_iload_n (pc := 0) (i := 0) dX6_isDigit_0 rfl rfl ?_
  refine e_i2l (pc := 1) dX6_isDigit_1 ?_
  refine e_lconst' (pc := 2) (lN 0) dX6_isDigit_2 (by decide) ?_
  refine e_ldc2 (pc := 3) dX6_isDigit_3 (klX6_117 rfl) ?_
  refine e_callS3 (pc := 6) (M' := mX6_in) dX6_isDigit_6 jX6_in lkX6_46 (by decide) (Nat.le_of_ble_eq_true rfl) (Nat.le_of_ble_eq_true rfl) ?_
  refine sp_inI (lo := 0) (hi := 11) (by decide) (by decide) (fun b hb e h1 h2 => ?_) (fun h => ?_)
  · refine e_iret (pc := 9) (st := []) (ty := .boolean) dX6_isDigit_9 rfl rfl ?_
    exact k1 b e (by omega)
  · refine e_iret (pc := 9) (st := []) (ty := .boolean) dX6_isDigit_9 rfl rfl ?_
    exact k0 (fun b e hb => h b (by omega) e (by omega) (by omega))
theorem sp_isReading {sc : PSc} {S : PS} {Q : PQ} {v : Int32} (k1 : ∀ b : Nat, v = nI b → b ≤ 248831 → Q (some (.int (nI 1))) S) (k0 : (∀ b : Nat, v = nI b → b ≤ 248831 → False) → Q (some (.int (nI 0))) S) : E sc mX6_isReading 0 (pL0 mX6_isReading [.int v]) [] S Q := by
  show E sc mX6_isReading 0 [.int v] [] S Q
  refine e_iload_n (pc := 0) (i := 0) dX6_isReading_0 rfl rfl ?_
  refine e_i2l (pc := 1) dX6_isReading_1 ?_
  refine e_lconst' (pc := 2) (lN 0) dX6_isReading_2 (by decide) ?_
  refine e_ldc2 (pc := 3) dX6_isReading_3 (klX6_119 rfl) ?_
  refine e_callS3 (pc := 6) (M' := mX6_in) dX6_isReading_6 jX6_in lkX6_46 (by decide) (Nat.le_of_ble_eq_true rfl) (Nat.le_of_ble_eq_true rfl) ?_
  refine sp_inI (lo := 0) (hi := 248831) (by decide) (by decide) (fun b hb e h1 h2 => ?_) (fun h => ?_)
  · refine e_iret (pc := 9) (st := []) (ty := .boolean) dX6_isReading_9 rfl rfl ?_
    exact k1 b e (by omega)
  · refine e_iret (pc := 9) (st := []) (ty := .boolean) dX6_isReading_9 rfl rfl ?_
    exact k0 (fun b e hb => h b (by omega) e (by omega) (by omega))
theorem sp_turnsOn {sc : PSc} {p : Nat} {R : Rw} {S : PS} {Q : PQ} {w : Nat} (hp : p + 22 ≤ 132) (hv : Vd R) (hr : PgAt S p R) (hw : w < R 20) (k : Q (some (.int (nI (tn R w)))) S) : E sc mX6_turnsOn 0 (pL0 mX6_turnsOn [.ref 54, .int (nI p), .int (nI w)]) [] S Q := by
  show E sc mX6_turnsOn 0 [.ref 54, .int (nI p), .int (nI w), .null, .null, .null] [] S Q
  have h5 := hv.1
  obtain ⟨hk4, ht2, ht12, hdt, hbr⟩ := hv.2 w hw
  refine e_aload_n (pc := 0) (i := 0) dX6_turnsOn_0 rfl rfl ?_
  refine e_getR (pc := 1) dX6_turnsOn_1 (fX6_7 rfl) sh_54 rfl ?_
  refine e_iload_n (pc := 4) (i := 1) dX6_turnsOn_4 rfl rfl ?_
  refine e_iload_n (pc := 5) (i := 2) dX6_turnsOn_5 rfl rfl ?_
  refine e_iadd (pc := 6) dX6_turnsOn_6 ?_
  refine E.it (nI (p + w)) (nI_add _ _) ?_
  refine e_iald (pc := 7) dX6_turnsOn_7 sh_55 (vp_in_nI (by omega) (by omega)) ?_
  refine E.it (nI (R (w))) (pgk hp hv hr hw) ?_
  refine e_istore_n (pc := 8) (i := 3) dX6_turnsOn_8 rfl (by decide) rfl ?_
  refine e_aload_n (pc := 9) (i := 0) dX6_turnsOn_9 rfl rfl ?_
  refine e_getR (pc := 10) dX6_turnsOn_10 (fX6_7 rfl) sh_54 rfl ?_
  refine e_iload_n (pc := 13) (i := 1) dX6_turnsOn_13 rfl rfl ?_
  refine e_iconst' (pc := 14) (nI 5) dX6_turnsOn_14 (by decide) ?_
  refine e_iadd (pc := 15) dX6_turnsOn_15 ?_
  refine E.it (nI (p + 5)) (nI_add _ _) ?_
  refine e_iload_n (pc := 16) (i := 2) dX6_turnsOn_16 rfl rfl ?_
  refine e_iadd (pc := 17) dX6_turnsOn_17 ?_
  refine E.it (nI (p + 5 + w)) (nI_add _ _) ?_
  refine e_iald (pc := 18) dX6_turnsOn_18 sh_55 (vp_in_nI (by omega) (by omega)) ?_
  refine E.it (nI (R (5 + w))) (pgt hp hv hr hw) ?_
  refine e_istore (pc := 19) dX6_turnsOn_19 (by decide) rfl ?_
  refine e_aload_n (pc := 21) (i := 0) dX6_turnsOn_21 rfl rfl ?_
  refine e_getR (pc := 22) dX6_turnsOn_22 (fX6_7 rfl) sh_54 rfl ?_
  refine e_iload_n (pc := 25) (i := 1) dX6_turnsOn_25 rfl rfl ?_
  refine e_bipush' (pc := 26) (nI 10) dX6_turnsOn_26 (by decide) ?_
  refine e_iadd (pc := 28) dX6_turnsOn_28 ?_
  refine E.it (nI (p + 10)) (nI_add _ _) ?_
  refine e_iload_n (pc := 29) (i := 2) dX6_turnsOn_29 rfl rfl ?_
  refine e_iadd (pc := 30) dX6_turnsOn_30 ?_
  refine E.it (nI (p + 10 + w)) (nI_add _ _) ?_
  refine e_iald (pc := 31) dX6_turnsOn_31 sh_55 (vp_in_nI (by omega) (by omega)) ?_
  refine E.it (nI (R (10 + w))) (pgd hp hv hr hw) ?_
  refine e_istore (pc := 32) dX6_turnsOn_32 (by decide) rfl ?_
  refine e_iload (pc := 34) dX6_turnsOn_34 rfl ?_
  refine e_iload_n (pc := 36) (i := 3) dX6_turnsOn_36 rfl rfl ?_
  refine e_if_ne (pc := 37) (tgt := 44) dX6_turnsOn_37 (by decide) (fun h37 => ?_) (fun h37 => ?_)
  · replace h37 : ¬ R w = 0 := fun q => h37 (by rw [q]; exact nI_0)
    refine e_iload_n (pc := 44) (i := 3) dX6_turnsOn_44 rfl rfl ?_
    refine e_iconst' (pc := 45) (nI 1) dX6_turnsOn_45 (by decide) ?_
    refine e_icmp_ne (pc := 46) (tgt := 53) dX6_turnsOn_46 (by decide) (fun h46 => ?_) (fun h46 => ?_)
    · replace h46 := mt (nI_eq (by omega) (by omega)).mpr h46
      refine e_iload (pc := 53) dX6_turnsOn_53 rfl ?_
      refine e_iconst' (pc := 55) (nI 1) dX6_turnsOn_55 (by decide) ?_
      refine e_isub (pc := 56) dX6_turnsOn_56 ?_
      refine E.it (nI (R (5 + w) - 1)) (pk_sub (by omega)) ?_
      refine e_iadd (pc := 57) dX6_turnsOn_57 ?_
      refine E.it (nI (R (10 + w) + (R (5 + w) - 1))) (nI_add _ _) ?_
      refine e_iload (pc := 58) dX6_turnsOn_58 rfl ?_
      refine e_irem (pc := 60) dX6_turnsOn_60 (by rw [← nI_0, nI_eq (by omega) (by omega)]; omega) ?_
      refine E.it (nI (tn R w)) (by rw [pk_rem (by omega) (by omega) (by omega)]; first | rw [tn0 h37] | rw [tn1 h46] | rw [tn2 (by omega)]) ?_
      refine e_iret (pc := 61) (st := []) (ty := .int) dX6_turnsOn_61 rfl rfl ?_
      exact k
    · replace h46 := (nI_eq (by omega) (by omega)).mp h46
      refine e_iconst' (pc := 49) (nI 2) dX6_turnsOn_49 (by decide) ?_
      refine e_goto (pc := 50) (tgt := 57) dX6_turnsOn_50 (by decide) ?_
      refine e_iadd (pc := 57) dX6_turnsOn_57 ?_
      refine E.it (nI (R (10 + w) + 2)) (nI_add _ _) ?_
      refine e_iload (pc := 58) dX6_turnsOn_58 rfl ?_
      refine e_irem (pc := 60) dX6_turnsOn_60 (by rw [← nI_0, nI_eq (by omega) (by omega)]; omega) ?_
      refine E.it (nI (tn R w)) (by rw [pk_rem (by omega) (by omega) (by omega)]; first | rw [tn0 h37] | rw [tn1 h46] | rw [tn2 (by omega)]) ?_
      refine e_iret (pc := 61) (st := []) (ty := .int) dX6_turnsOn_61 rfl rfl ?_
      exact k
  · replace h37 : R w = 0 := (nI_eq (by omega) (by omega)).mp (h37.trans nI_0.symm)
    refine e_iconst' (pc := 40) (nI 1) dX6_turnsOn_40 (by decide) ?_
    refine e_goto (pc := 41) (tgt := 57) dX6_turnsOn_41 (by decide) ?_
    refine e_iadd (pc := 57) dX6_turnsOn_57 ?_
    refine E.it (nI (R (10 + w) + 1)) (nI_add _ _) ?_
    refine e_iload (pc := 58) dX6_turnsOn_58 rfl ?_
    refine e_irem (pc := 60) dX6_turnsOn_60 (by rw [← nI_0, nI_eq (by omega) (by omega)]; omega) ?_
    refine E.it (nI (tn R w)) (by rw [pk_rem (by omega) (by omega) (by omega)]; first | rw [tn0 h37] | rw [tn1 h46] | rw [tn2 (by omega)]) ?_
    refine e_iret (pc := 61) (st := []) (ty := .int) dX6_turnsOn_61 rfl rfl ?_
    exact k
def cg (R : Rw) (w : Nat) : Bool := if R w = 1 then decide (R (5 + w) ≤ R (10 + w) + 2) else if R w = 2 then decide (R (10 + w) = 0) else decide (R (10 + w) + 1 = R (5 + w))
theorem cyE (R : Rw) (w : Nat) : cy R w = (cg R w && decide (R (10 + w) ≠ R (15 + w))) := rfl
theorem lp_carriesOn {sc : PSc} {p : Nat} {R : Rw} {S : PS} {Q : PQ} {w : Nat} {x y : Int32} {b : Bool} (hp : p + 22 ≤ 132) (hv : Vd R) (hr : PgAt S p R) (hw : w < R 20) (hg : cg R w = b) (k : Q (some (.int (nI (if cy R w then 1 else 0)))) S) : E sc mX6_carriesOn 90 [.ref 54, .int (nI p), .int (nI w), .int x, .int y, .int (nI (R (10 + w))), .int (nI (if b then 1 else 0))] [] S Q := by
  have h5 := hv.1
  obtain ⟨hk4, ht2, ht12, hdt, hbr⟩ := hv.2 w hw
  cases b with
  | true =>
    refine e_iload (pc := 90) dX6_carriesOn_90 rfl ?_
    refine e_if_eq (pc := 92) (tgt := 118) dX6_carriesOn_92 (by decide) (fun h92 => absurd h92 (by decide)) (fun h92 => ?_)
    refine e_iload (pc := 95) dX6_carriesOn_95 rfl ?_
    refine e_aload_n (pc := 97) (i := 0) dX6_carriesOn_97 rfl rfl ?_
    refine e_getR (pc := 98) dX6_carriesOn_98 (fX6_7 rfl) sh_54 rfl ?_
    refine e_iload_n (pc := 101) (i := 1) dX6_carriesOn_101 rfl rfl ?_
    refine e_bipush' (pc := 102) (nI 15) dX6_carriesOn_102 (by decide) ?_
    refine e_iadd (pc := 104) dX6_carriesOn_104 ?_
    refine E.it (nI (p + 15)) (nI_add _ _) ?_
    refine e_iload_n (pc := 105) (i := 2) dX6_carriesOn_105 rfl rfl ?_
    refine e_iadd (pc := 106) dX6_carriesOn_106 ?_
    refine E.it (nI (p + 15 + w)) (nI_add _ _) ?_
    refine e_iald (pc := 107) dX6_carriesOn_107 sh_55 (vp_in_nI (by omega) (by omega)) ?_
    refine E.it (nI (R (15 + w)) - nI 12) (pgb hp hv hr hw) ?_
    refine e_bipush' (pc := 108) (nI 12) dX6_carriesOn_108 (by decide) ?_
    refine e_iadd (pc := 110) dX6_carriesOn_110 ?_
    refine E.it (nI (R (15 + w))) b12 ?_
    refine e_icmp_eq (pc := 111) (tgt := 118) dX6_carriesOn_111 (by decide) (fun h111 => ?_) (fun h111 => ?_)
    · replace h111 := (nI_eq (by omega) (by omega)).mp h111
      refine e_iconst' (pc := 118) (nI 0) dX6_carriesOn_118 (by decide) ?_
      refine e_iret (pc := 119) (st := []) (ty := .boolean) dX6_carriesOn_119 rfl rfl ?_
      first
        | exact qeq k (by rw [if_pos (show cy R w = true by rw [cyE, hg]; simp; omega)])
        | exact qeq k (by rw [if_neg (show ¬ cy R w = true by rw [cyE, hg]; simp; omega)])
    · replace h111 := mt (nI_eq (by omega) (by omega)).mpr h111
      refine e_iconst' (pc := 114) (nI 1) dX6_carriesOn_114 (by decide) ?_
      refine e_goto (pc := 115) (tgt := 119) dX6_carriesOn_115 (by decide) ?_
      refine e_iret (pc := 119) (st := []) (ty := .boolean) dX6_carriesOn_119 rfl rfl ?_
      first
        | exact qeq k (by rw [if_pos (show cy R w = true by rw [cyE, hg]; simp; omega)])
        | exact qeq k (by rw [if_neg (show ¬ cy R w = true by rw [cyE, hg]; simp; omega)])
  | false =>
    refine e_iload (pc := 90) dX6_carriesOn_90 rfl ?_
    refine e_if_eq (pc := 92) (tgt := 118) dX6_carriesOn_92 (by decide) (fun h92 => ?_) (fun h92 => absurd (by decide) h92)
    refine e_iconst' (pc := 118) (nI 0) dX6_carriesOn_118 (by decide) ?_
    refine e_iret (pc := 119) (st := []) (ty := .boolean) dX6_carriesOn_119 rfl rfl ?_
    exact qeq k (by rw [if_neg (show ¬ cy R w = true by rw [cyE, hg]; simp)])
theorem sp_carriesOn {sc : PSc} {p : Nat} {R : Rw} {S : PS} {Q : PQ} {w : Nat} (hp : p + 22 ≤ 132) (hv : Vd R) (hr : PgAt S p R) (hw : w < R 20) (k : Q (some (.int (nI (if cy R w then 1 else 0)))) S) : E sc mX6_carriesOn 0 (pL0 mX6_carriesOn [.ref 54, .int (nI p), .int (nI w)]) [] S Q := by
  show E sc mX6_carriesOn 0 [.ref 54, .int (nI p), .int (nI w), .null, .null, .null, .null] [] S Q
  have h5 := hv.1
  obtain ⟨hk4, ht2, ht12, hdt, hbr⟩ := hv.2 w hw
  refine e_aload_n (pc := 0) (i := 0) dX6_carriesOn_0 rfl rfl ?_
  refine e_getR (pc := 1) dX6_carriesOn_1 (fX6_7 rfl) sh_54 rfl ?_
  refine e_iload_n (pc := 4) (i := 1) dX6_carriesOn_4 rfl rfl ?_
  refine e_iload_n (pc := 5) (i := 2) dX6_carriesOn_5 rfl rfl ?_
  refine e_iadd (pc := 6) dX6_carriesOn_6 ?_
  refine E.it (nI (p + w)) (nI_add _ _) ?_
  refine e_iald (pc := 7) dX6_carriesOn_7 sh_55 (vp_in_nI (by omega) (by omega)) ?_
  refine E.it (nI (R (w))) (pgk hp hv hr hw) ?_
  refine e_istore_n (pc := 8) (i := 3) dX6_carriesOn_8 rfl (by decide) rfl ?_
  refine e_aload_n (pc := 9) (i := 0) dX6_carriesOn_9 rfl rfl ?_
  refine e_getR (pc := 10) dX6_carriesOn_10 (fX6_7 rfl) sh_54 rfl ?_
  refine e_iload_n (pc := 13) (i := 1) dX6_carriesOn_13 rfl rfl ?_
  refine e_iconst' (pc := 14) (nI 5) dX6_carriesOn_14 (by decide) ?_
  refine e_iadd (pc := 15) dX6_carriesOn_15 ?_
  refine E.it (nI (p + 5)) (nI_add _ _) ?_
  refine e_iload_n (pc := 16) (i := 2) dX6_carriesOn_16 rfl rfl ?_
  refine e_iadd (pc := 17) dX6_carriesOn_17 ?_
  refine E.it (nI (p + 5 + w)) (nI_add _ _) ?_
  refine e_iald (pc := 18) dX6_carriesOn_18 sh_55 (vp_in_nI (by omega) (by omega)) ?_
  refine E.it (nI (R (5 + w))) (pgt hp hv hr hw) ?_
  refine e_iconst' (pc := 19) (nI 1) dX6_carriesOn_19 (by decide) ?_
  refine e_isub (pc := 20) dX6_carriesOn_20 ?_
  refine E.it (nI (R (5 + w) - 1)) (pk_sub (by omega)) ?_
  refine e_istore (pc := 21) dX6_carriesOn_21 (by decide) rfl ?_
  refine e_aload_n (pc := 23) (i := 0) dX6_carriesOn_23 rfl rfl ?_
  refine e_getR (pc := 24) dX6_carriesOn_24 (fX6_7 rfl) sh_54 rfl ?_
  refine e_iload_n (pc := 27) (i := 1) dX6_carriesOn_27 rfl rfl ?_
  refine e_bipush' (pc := 28) (nI 10) dX6_carriesOn_28 (by decide) ?_
  refine e_iadd (pc := 30) dX6_carriesOn_30 ?_
  refine E.it (nI (p + 10)) (nI_add _ _) ?_
  refine e_iload_n (pc := 31) (i := 2) dX6_carriesOn_31 rfl rfl ?_
  refine e_iadd (pc := 32) dX6_carriesOn_32 ?_
  refine E.it (nI (p + 10 + w)) (nI_add _ _) ?_
  refine e_iald (pc := 33) dX6_carriesOn_33 sh_55 (vp_in_nI (by omega) (by omega)) ?_
  refine E.it (nI (R (10 + w))) (pgd hp hv hr hw) ?_
  refine e_istore (pc := 34) dX6_carriesOn_34 (by decide) rfl ?_
  refine e_iload_n (pc := 36) (i := 3) dX6_carriesOn_36 rfl rfl ?_
  refine e_iconst' (pc := 37) (nI 1) dX6_carriesOn_37 (by decide) ?_
  refine e_icmp_ne (pc := 38) (tgt := 58) dX6_carriesOn_38 (by decide) (fun h38 => ?_) (fun h38 => ?_)
  · replace h38 := mt (nI_eq (by omega) (by omega)).mpr h38
    refine e_iload_n (pc := 58) (i := 3) dX6_carriesOn_58 rfl rfl ?_
    refine e_iconst' (pc := 59) (nI 2) dX6_carriesOn_59 (by decide) ?_
    refine e_icmp_ne (pc := 60) (tgt := 76) dX6_carriesOn_60 (by decide) (fun h60 => ?_) (fun h60 => ?_)
    · replace h60 := mt (nI_eq (by omega) (by omega)).mpr h60
      refine e_iload (pc := 76) dX6_carriesOn_76 rfl ?_
      refine e_iload (pc := 78) dX6_carriesOn_78 rfl ?_
      refine e_icmp_ne (pc := 80) (tgt := 87) dX6_carriesOn_80 (by decide) (fun h80 => ?_) (fun h80 => ?_)
      · replace h80 := mt (nI_eq (by omega) (by omega)).mpr h80
        refine e_iconst' (pc := 87) (nI 0) dX6_carriesOn_87 (by decide) ?_
        refine e_istore (pc := 88) dX6_carriesOn_88 (by decide) rfl ?_
        first
          | exact lp_carriesOn (b := true) hp hv hr hw (by simp [cg]; omega) k
          | exact lp_carriesOn (b := false) hp hv hr hw (by simp [cg]; omega) k
          | exact lp_carriesOn (b := true) hp hv hr hw (by simp [cg, *]; omega) k
          | exact lp_carriesOn (b := false) hp hv hr hw (by simp [cg, *]; omega) k
          | exact lp_carriesOn (b := true) hp hv hr hw (by simp [cg, *]) k
          | exact lp_carriesOn (b := false) hp hv hr hw (by simp [cg, *]) k
      · replace h80 := (nI_eq (by omega) (by omega)).mp h80
        refine e_iconst' (pc := 83) (nI 1) dX6_carriesOn_83 (by decide) ?_
        refine e_goto (pc := 84) (tgt := 88) dX6_carriesOn_84 (by decide) ?_
        refine e_istore (pc := 88) dX6_carriesOn_88 (by decide) rfl ?_
        first
          | exact lp_carriesOn (b := true) hp hv hr hw (by simp [cg]; omega) k
          | exact lp_carriesOn (b := false) hp hv hr hw (by simp [cg]; omega) k
          | exact lp_carriesOn (b := true) hp hv hr hw (by simp [cg, *]; omega) k
          | exact lp_carriesOn (b := false) hp hv hr hw (by simp [cg, *]; omega) k
          | exact lp_carriesOn (b := true) hp hv hr hw (by simp [cg, *]) k
          | exact lp_carriesOn (b := false) hp hv hr hw (by simp [cg, *]) k
    · replace h60 := (nI_eq (by omega) (by omega)).mp h60
      refine e_iload (pc := 63) dX6_carriesOn_63 rfl ?_
      refine e_if_ne (pc := 65) (tgt := 72) dX6_carriesOn_65 (by decide) (fun h65 => ?_) (fun h65 => ?_)
      · replace h65 : ¬ R (10 + w) = 0 := fun q => h65 (by rw [q]; exact nI_0)
        refine e_iconst' (pc := 72) (nI 0) dX6_carriesOn_72 (by decide) ?_
        refine e_goto (pc := 73) (tgt := 88) dX6_carriesOn_73 (by decide) ?_
        refine e_istore (pc := 88) dX6_carriesOn_88 (by decide) rfl ?_
        first
          | exact lp_carriesOn (b := true) hp hv hr hw (by simp [cg]; omega) k
          | exact lp_carriesOn (b := false) hp hv hr hw (by simp [cg]; omega) k
          | exact lp_carriesOn (b := true) hp hv hr hw (by simp [cg, *]; omega) k
          | exact lp_carriesOn (b := false) hp hv hr hw (by simp [cg, *]; omega) k
          | exact lp_carriesOn (b := true) hp hv hr hw (by simp [cg, *]) k
          | exact lp_carriesOn (b := false) hp hv hr hw (by simp [cg, *]) k
      · replace h65 : R (10 + w) = 0 := (nI_eq (by omega) (by omega)).mp (h65.trans nI_0.symm)
        refine e_iconst' (pc := 68) (nI 1) dX6_carriesOn_68 (by decide) ?_
        refine e_goto (pc := 69) (tgt := 88) dX6_carriesOn_69 (by decide) ?_
        refine e_istore (pc := 88) dX6_carriesOn_88 (by decide) rfl ?_
        first
          | exact lp_carriesOn (b := true) hp hv hr hw (by simp [cg]; omega) k
          | exact lp_carriesOn (b := false) hp hv hr hw (by simp [cg]; omega) k
          | exact lp_carriesOn (b := true) hp hv hr hw (by simp [cg, *]; omega) k
          | exact lp_carriesOn (b := false) hp hv hr hw (by simp [cg, *]; omega) k
          | exact lp_carriesOn (b := true) hp hv hr hw (by simp [cg, *]) k
          | exact lp_carriesOn (b := false) hp hv hr hw (by simp [cg, *]) k
  · replace h38 := (nI_eq (by omega) (by omega)).mp h38
    refine e_iload (pc := 41) dX6_carriesOn_41 rfl ?_
    refine e_iload (pc := 43) dX6_carriesOn_43 rfl ?_
    refine e_iconst' (pc := 45) (nI 1) dX6_carriesOn_45 (by decide) ?_
    refine e_isub (pc := 46) dX6_carriesOn_46 ?_
    refine E.it (nI (R (5 + w) - 1 - 1)) (pk_sub (by omega)) ?_
    refine e_icmp_lt (pc := 47) (tgt := 54) dX6_carriesOn_47 (by decide) (fun h47 => ?_) (fun h47 => ?_)
    · replace h47 := (nI_ltI (by omega) (by omega)).mp h47
      refine e_iconst' (pc := 54) (nI 0) dX6_carriesOn_54 (by decide) ?_
      refine e_goto (pc := 55) (tgt := 88) dX6_carriesOn_55 (by decide) ?_
      refine e_istore (pc := 88) dX6_carriesOn_88 (by decide) rfl ?_
      first
        | exact lp_carriesOn (b := true) hp hv hr hw (by simp [cg]; omega) k
        | exact lp_carriesOn (b := false) hp hv hr hw (by simp [cg]; omega) k
        | exact lp_carriesOn (b := true) hp hv hr hw (by simp [cg, *]; omega) k
        | exact lp_carriesOn (b := false) hp hv hr hw (by simp [cg, *]; omega) k
        | exact lp_carriesOn (b := true) hp hv hr hw (by simp [cg, *]) k
        | exact lp_carriesOn (b := false) hp hv hr hw (by simp [cg, *]) k
    · replace h47 := mt (nI_ltI (by omega) (by omega)).mpr h47
      refine e_iconst' (pc := 50) (nI 1) dX6_carriesOn_50 (by decide) ?_
      refine e_goto (pc := 51) (tgt := 88) dX6_carriesOn_51 (by decide) ?_
      refine e_istore (pc := 88) dX6_carriesOn_88 (by decide) rfl ?_
      first
        | exact lp_carriesOn (b := true) hp hv hr hw (by simp [cg]; omega) k
        | exact lp_carriesOn (b := false) hp hv hr hw (by simp [cg]; omega) k
        | exact lp_carriesOn (b := true) hp hv hr hw (by simp [cg, *]; omega) k
        | exact lp_carriesOn (b := false) hp hv hr hw (by simp [cg, *]; omega) k
        | exact lp_carriesOn (b := true) hp hv hr hw (by simp [cg, *]) k
        | exact lp_carriesOn (b := false) hp hv hr hw (by simp [cg, *]) k

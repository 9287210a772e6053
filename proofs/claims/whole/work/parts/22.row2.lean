theorem RowAt.get {S : PS} {i : Nat} {R : Rw} (h : RowAt S i R) {b u : Nat} (hb : b < 4) (hu : u < R 20) : S.1 (i + 1 + b) u = nI (R (5 * b + u)) := by
  obtain ⟨h0, h1, h2, h3⟩ := h.2.2 u hu
  rcases (show b = 0 ∨ b = 1 ∨ b = 2 ∨ b = 3 by omega) with rfl | rfl | rfl | rfl
  · rw [h0]; simp
  · rw [h1]
  · rw [h2]
  · rw [h3]
theorem RowAt.mk {S : PS} {i : Nat} {R : Rw} (h0 : S.1 i 0 = nI (R 20)) (h1 : S.1 i 1 = nI (R 21)) (h : ∀ b u, b < 4 → u < R 20 → S.1 (i + 1 + b) u = nI (R (5 * b + u))) : RowAt S i R := by
  refine ⟨h0, h1, fun w hw => ⟨?_, ?_, ?_, ?_⟩⟩
  · have := h 0 w (by omega) hw; simpa using this
  · exact h 1 w (by omega) hw
  · exact h 2 w (by omega) hw
  · exact h 3 w (by omega) hw
theorem RowAt.set {S : PS} {i a w v : Nat} {R : Rw} (h : RowAt S i R) (h5 : R 20 ≤ 5) (hw : w < 5) (ha : a < 4) : RowAt (up2 S.1 (i + 1 + a) w (nI v), S.2) i (rs R (5 * a + w) v) := by
  refine RowAt.mk ?_ ?_ (fun b u hb hu => ?_)
  · show up2 S.1 (i + 1 + a) w (nI v) i 0 = _
    rw [up2_ne _ _ _ (by omega), rs_ne _ _ (by omega)]; exact h.1
  · show up2 S.1 (i + 1 + a) w (nI v) i 1 = _
    rw [up2_ne _ _ _ (by omega), rs_ne _ _ (by omega)]; exact h.2.1
  · rw [rs_ne _ _ (by omega)] at hu
    show up2 S.1 (i + 1 + a) w (nI v) (i + 1 + b) u = _
    by_cases e : b = a ∧ u = w
    · obtain ⟨rfl, rfl⟩ := e
      rw [rs_at, up2_at]; exact if_pos rfl
    · rw [rs_ne _ _ (by omega), ← h.get hb hu]
      unfold up2
      rw [if_neg (by omega)]
/-- what a part of a wheel may ever be, and what it may be there -/
abbrev okE (a b : Nat) : Prop := (if a = 1 then 2 else 0) ≤ b ∧ b ≤ (if a = 0 then 3 else if a = 2 then 11 else 12)
def okM (R : Rw) (w a b : Nat) : Bool := if a = 1 then decide (R (10 + w) < b) && (decide (R (15 + w) = 12) || decide (R (15 + w) < b)) else if a = 2 then decide (b < R (5 + w)) else if a = 3 then (decide (b = 12) || decide (b < R (5 + w))) else true
/-- alter: its answer, the row then -/
abbrev altC (R : Rw) (w what v : Int32) (j a b : Nat) : Prop := j < R 20 ∧ a < 4 ∧ okE a b ∧ w = nI j ∧ what = nI a ∧ v = nI b
def altS (R : Rw) (w what v : Int32) : Int32 × Rw := if altC R w what v w.toNatClampNeg what.toNatClampNeg v.toNatClampNeg then (if okM R w.toNatClampNeg what.toNatClampNeg v.toNatClampNeg then (nI (R (5 * what.toNatClampNeg + w.toNatClampNeg)), rs R (5 * what.toNatClampNeg + w.toNatClampNeg) v.toNatClampNeg) else (-2, R)) else (-1, R)
theorem okE_le {a b : Nat} (h : okE a b) : b ≤ 12 := by
  obtain ⟨-, h⟩ := h
  split at h
  · omega
  · split at h <;> omega
theorem altS_ok {R : Rw} {j a b : Nat} (h5 : R 20 ≤ 5) (hj : j < R 20) (ha : a < 4) (hb : okE a b) : altS R (nI j) (nI a) (nI b) = if okM R j a b then (nI (R (5 * a + j)), rs R (5 * a + j) b) else (-2, R) := by
  have h12 := okE_le hb
  have e1 : (nI j).toNatClampNeg = j := nI_clamp (by omega)
  have e2 : (nI a).toNatClampNeg = a := nI_clamp (by omega)
  have e3 : (nI b).toNatClampNeg = b := nI_clamp (by omega)
  unfold altS
  rw [e1, e2, e3, if_pos ⟨hj, ha, hb, rfl, rfl, rfl⟩]
theorem altS_bad {R : Rw} {w what v : Int32} (h : ∀ j a b, altC R w what v j a b → False) : altS R w what v = (-1, R) := if_neg (fun q => h _ _ _ q)
theorem alt_vd {R : Rw} {j a b : Nat} (hv : Vd R) (hj : j < R 20) (ha : a < 4) (hb : okE a b) (hm : okM R j a b = true) : Vd (rs R (5 * a + j) b) := by
  have h5 := hv.1
  obtain ⟨q1, q2, q3, q4, q5⟩ := hv.2 j hj
  refine ⟨by rw [rs_ne _ _ (by omega)]; exact h5, fun w hw => ?_⟩
  rw [rs_ne _ _ (by omega)] at hw
  obtain ⟨p1, p2, p3, p4, p5⟩ := hv.2 w hw
  by_cases e : w = j
  · subst e
    rcases (show a = 0 ∨ a = 1 ∨ a = 2 ∨ a = 3 by omega) with rfl | rfl | rfl | rfl
    · simp [okE] at hb; simp [rs]; refine ⟨by omega, ?_⟩; repeat rw [if_neg (by omega)]
      exact ⟨p2, p3, p4, p5⟩
    · simp [okE] at hb; simp [okM] at hm; simp [rs]; repeat rw [if_neg (by omega)]
      exact ⟨p1, hb.1, hb.2, hm.1, by omega⟩
    · simp [okE] at hb; simp [okM] at hm; simp [rs]; repeat rw [if_neg (by omega)]
      exact ⟨p1, p2, p3, hm, p5⟩
    · simp [okE] at hb; simp [okM] at hm; simp [rs]; repeat rw [if_neg (by omega)]
      exact ⟨p1, p2, p3, p4, by omega⟩
  · rw [rs_ne _ _ (show w ≠ 5 * a + j by omega), rs_ne _ _ (show 5 + w ≠ 5 * a + j by omega), rs_ne _ _ (show 10 + w ≠ 5 * a + j by omega), rs_ne _ _ (show 15 + w ≠ 5 * a + j by omega)]
    exact hv.2 w hw
theorem altS_vd {R : Rw} {w what v : Int32} (hv : Vd R) : Vd (altS R w what v).2 := by
  unfold altS
  split
  next h =>
    split
    next hm => exact alt_vd hv h.1 h.2.1 h.2.2.1 hm
    next => exact hv
  next => exact hv
theorem sp_part {sc : PSc} {i : Nat} {R : Rw} {S : PS} {Q : PQ} {w a : Nat} (hi : rI i) (hv : Vd R) (hr : RowAt S i R) (hw : w < R 20) (ha : a < 4) (k : Q (some (.int (nI (R (5 * a + w))))) S) : E sc mX0_part 0 (pL0 mX0_part [.ref i, .int (nI w), .int (nI a)]) [] S Q := by
  show E sc mX0_part 0 [.ref i, .int (nI w), .int (nI a)] [] S Q
  refine e_iload_n (pc := 0) (i := 2) dX0_part_0 rfl rfl ?_
  rcases (show a = 0 ∨ a = 1 ∨ a = 2 ∨ a = 3 by omega) with rfl | rfl | rfl | rfl
  · refine e_table (pc := 1) dX0_part_1 ⟨28, (Or.inr ⟨by decide, by decide, 27, by decide, by decide⟩), ?_⟩
    refine e_aload_n (pc := 28) (i := 0) dX0_part_28 rfl rfl ?_
    refine e_getR (pc := 29) dX0_part_29 (fX0_9 rfl) (rI_sh hi) rfl ?_
    refine e_iload_n (pc := 32) (i := 1) dX0_part_32 rfl rfl ?_
    refine e_iald (pc := 33) dX0_part_33 (rI_a1 hi) (rin hv hw) ?_
    refine E.it (nI (R (w))) (rk hv hr hw) ?_
    refine e_iret (pc := 34) (st := []) (ty := .int) dX0_part_34 rfl rfl ?_
    exact (by simpa using k)
  · refine e_table (pc := 1) dX0_part_1 ⟨35, (Or.inr ⟨by decide, by decide, 34, by decide, by decide⟩), ?_⟩
    refine e_aload_n (pc := 35) (i := 0) dX0_part_35 rfl rfl ?_
    refine e_getR (pc := 36) dX0_part_36 (fX0_15 rfl) (rI_sh hi) rfl ?_
    refine e_iload_n (pc := 39) (i := 1) dX0_part_39 rfl rfl ?_
    refine e_iald (pc := 40) dX0_part_40 (rI_a2 hi) (rin hv hw) ?_
    refine E.it (nI (R (5 + w))) (rt hv hr hw) ?_
    refine e_iret (pc := 41) (st := []) (ty := .int) dX0_part_41 rfl rfl ?_
    exact (by simpa using k)
  · refine e_table (pc := 1) dX0_part_1 ⟨42, (Or.inr ⟨by decide, by decide, 41, by decide, by decide⟩), ?_⟩
    refine e_aload_n (pc := 42) (i := 0) dX0_part_42 rfl rfl ?_
    refine e_getR (pc := 43) dX0_part_43 (fX0_18 rfl) (rI_sh hi) rfl ?_
    refine e_iload_n (pc := 46) (i := 1) dX0_part_46 rfl rfl ?_
    refine e_iald (pc := 47) dX0_part_47 (rI_a3 hi) (rin hv hw) ?_
    refine E.it (nI (R (10 + w))) (rg hv hr hw) ?_
    refine e_iret (pc := 48) (st := []) (ty := .int) dX0_part_48 rfl rfl ?_
    exact (by simpa using k)
  · refine e_table (pc := 1) dX0_part_1 ⟨49, (Or.inl ⟨Or.inr (by decide), by decide⟩), ?_⟩
    refine e_aload_n (pc := 49) (i := 0) dX0_part_49 rfl rfl ?_
    refine e_getR (pc := 50) dX0_part_50 (fX0_21 rfl) (rI_sh hi) rfl ?_
    refine e_iload_n (pc := 53) (i := 1) dX0_part_53 rfl rfl ?_
    refine e_iald (pc := 54) dX0_part_54 (rI_a4 hi) (rin hv hw) ?_
    refine E.it (nI (R (15 + w))) (rb hv hr hw) ?_
    refine e_iret (pc := 55) (st := []) (ty := .int) dX0_part_55 rfl rfl ?_
    exact (by simpa using k)
theorem sp_set {sc : PSc} {i : Nat} {R : Rw} {S : PS} {Q : PQ} {w a v : Nat} (hi : rI i) (hv : Vd R) (hr : RowAt S i R) (hw : w < R 20) (ha : a < 4) (k : ∀ S', RowAt S' i (rs R (5 * a + w) v) → S'.1 i 2 = S.1 i 2 → Fr i 5 S S' → Q none S') : E sc mX0_set 0 (pL0 mX0_set [.ref i, .int (nI w), .int (nI a), .int (nI v)]) [] S Q := by
  show E sc mX0_set 0 [.ref i, .int (nI w), .int (nI a), .int (nI v)] [] S Q
  have h5 := hv.1
  have kk : ∀ b, b < 4 → b = a → Q none (up2 S.1 (i + 1 + b) (nI w).toNatClampNeg (nI v), S.2) := by
    intro b hb e
    subst e
    rw [rcl hv hw]
    exact k _ (hr.set h5 (by omega) hb) (by show up2 S.1 _ _ _ i 2 = _; rw [up2_ne _ _ _ (by omega)]) (Fr.rf.up (by omega) (by omega))
  refine e_iload_n (pc := 0) (i := 2) dX0_set_0 rfl rfl ?_
  rcases (show a = 0 ∨ a = 1 ∨ a = 2 ∨ a = 3 by omega) with rfl | rfl | rfl | rfl
  · refine e_table (pc := 1) dX0_set_1 ⟨28, (Or.inr ⟨by decide, by decide, 27, by decide, by decide⟩), ?_⟩
    refine e_aload_n (pc := 28) (i := 0) dX0_set_28 rfl rfl ?_
    refine e_getR (pc := 29) dX0_set_29 (fX0_9 rfl) (rI_sh hi) rfl ?_
    refine e_iload_n (pc := 32) (i := 1) dX0_set_32 rfl rfl ?_
    refine e_iload_n (pc := 33) (i := 3) dX0_set_33 rfl rfl ?_
    refine e_iast (pc := 34) dX0_set_34 (rI_a1 hi) (rin hv hw) ?_
    refine e_goto (pc := 35) (tgt := 65) dX0_set_35 (by decide) ?_
    refine e_vret (pc := 65) (st := []) dX0_set_65 rfl ?_
    first
      | exact kk 0 (by omega) rfl
      | exact kk 1 (by omega) rfl
      | exact kk 2 (by omega) rfl
      | exact kk 3 (by omega) rfl
  · refine e_table (pc := 1) dX0_set_1 ⟨38, (Or.inr ⟨by decide, by decide, 37, by decide, by decide⟩), ?_⟩
    refine e_aload_n (pc := 38) (i := 0) dX0_set_38 rfl rfl ?_
    refine e_getR (pc := 39) dX0_set_39 (fX0_15 rfl) (rI_sh hi) rfl ?_
    refine e_iload_n (pc := 42) (i := 1) dX0_set_42 rfl rfl ?_
    refine e_iload_n (pc := 43) (i := 3) dX0_set_43 rfl rfl ?_
    refine e_iast (pc := 44) dX0_set_44 (rI_a2 hi) (rin hv hw) ?_
    refine e_goto (pc := 45) (tgt := 65) dX0_set_45 (by decide) ?_
    refine e_vret (pc := 65) (st := []) dX0_set_65 rfl ?_
    first
      | exact kk 0 (by omega) rfl
      | exact kk 1 (by omega) rfl
      | exact kk 2 (by omega) rfl
      | exact kk 3 (by omega) rfl
  · refine e_table (pc := 1) dX0_set_1 ⟨48, (Or.inr ⟨by decide, by decide, 47, by decide, by decide⟩), ?_⟩
    refine e_aload_n (pc := 48) (i := 0) dX0_set_48 rfl rfl ?_
    refine e_getR (pc := 49) dX0_set_49 (fX0_18 rfl) (rI_sh hi) rfl ?_
    refine e_iload_n (pc := 52) (i := 1) dX0_set_52 rfl rfl ?_
    refine e_iload_n (pc := 53) (i := 3) dX0_set_53 rfl rfl ?_
    refine e_iast (pc := 54) dX0_set_54 (rI_a3 hi) (rin hv hw) ?_
    refine e_goto (pc := 55) (tgt := 65) dX0_set_55 (by decide) ?_
    refine e_vret (pc := 65) (st := []) dX0_set_65 rfl ?_
    first
      | exact kk 0 (by omega) rfl
      | exact kk 1 (by omega) rfl
      | exact kk 2 (by omega) rfl
      | exact kk 3 (by omega) rfl
  · refine e_table (pc := 1) dX0_set_1 ⟨58, (Or.inl ⟨Or.inr (by decide), by decide⟩), ?_⟩
    refine e_aload_n (pc := 58) (i := 0) dX0_set_58 rfl rfl ?_
    refine e_getR (pc := 59) dX0_set_59 (fX0_21 rfl) (rI_sh hi) rfl ?_
    refine e_iload_n (pc := 62) (i := 1) dX0_set_62 rfl rfl ?_
    refine e_iload_n (pc := 63) (i := 3) dX0_set_63 rfl rfl ?_
    refine e_iast (pc := 64) dX0_set_64 (rI_a4 hi) (rin hv hw) ?_
    refine e_vret (pc := 65) (st := []) dX0_set_65 rfl ?_
    first
      | exact kk 0 (by omega) rfl
      | exact kk 1 (by omega) rfl
      | exact kk 2 (by omega) rfl
      | exact kk 3 (by omega) rfl
theorem win_nat {v : Int32} {lo hi : Nat} (hh : hi < 2 ^ 31) (h1 : nI lo ≤ v) (h2 : v ≤ nI hi) (hl : lo ≤ hi) : ∃ b, lo ≤ b ∧ b ≤ hi ∧ v = nI b := by
  have e0 : ¬ v < 0 := fun q => absurd (Int32.le_trans (nI_pos' (n := lo) (by omega)) h1) (Int32.not_le.mpr q)
  obtain ⟨b, hb, rfl⟩ := nI_of e0
  exact ⟨b, (nI_leI (by omega) (by omega)).mp h1, (nI_leI (by omega) (by omega)).mp h2, rfl⟩
theorem win_not {lo hi b : Nat} (hh : hi < 2 ^ 31) (h1 : lo ≤ b) (h2 : b ≤ hi) : nI lo ≤ nI b ∧ nI b ≤ nI hi := ⟨nI_le h1 (by omega), nI_le h2 (by omega)⟩
theorem sp_mayEverBe {sc : PSc} {S : PS} {Q : PQ} {a : Nat} {v : Int32} (ha : a < 4) (k1 : ∀ b, okE a b → v = nI b → Q (some (.int (nI 1))) S) (k0 : (∀ b, okE a b → v = nI b → False) → Q (some (.int (nI 0))) S) : E sc mX0_mayEverBe 0 (pL0 mX0_mayEverBe [.int (nI a), .int v]) [] S Q := by
  show E sc mX0_mayEverBe 0 [.int (nI a), .int v] [] S Q
  refine e_iload_n (pc := 0) (i := 0) dX0_mayEverBe_0 rfl rfl ?_
  rcases (show a = 0 ∨ a = 1 ∨ a = 2 ∨ a = 3 by omega) with rfl | rfl | rfl | rfl
  · refine e_table (pc := 1) dX0_mayEverBe_1 ⟨28, (Or.inr ⟨by decide, by decide, 27, by decide, by decide⟩), ?_⟩
    refine e_iload_n (pc := 28) (i := 1) dX0_mayEverBe_28 rfl rfl ?_
    refine e_iconst' (pc := 29) (nI 0) dX0_mayEverBe_29 (by decide) ?_
    refine e_iconst' (pc := 30) (nI 3) dX0_mayEverBe_30 (by decide) ?_
    refine e_callS3 (pc := 31) (M' := mX5_within) dX0_mayEverBe_31 jX5_within lkX0_28 (by decide) (Nat.le_of_ble_eq_true rfl) (Nat.le_of_ble_eq_true rfl) ?_
    refine sp_within _ _ _ (fun q1 q2 => ?_) (fun q => ?_)
    · have hh : 0 ≤ 0 ∧ True := ⟨by omega, trivial⟩
      refine e_iret (pc := 34) (st := []) (ty := .boolean) dX0_mayEverBe_34 rfl rfl ?_
      first
        | (obtain ⟨b, b1, b2, rfl⟩ := win_nat (by decide) q1 q2 (by decide); exact k1 b ⟨by simpa using b1, by simpa using b2⟩ rfl)
        | exact k0 (fun b hb e => q (by rw [e]; exact win_not (by decide) (by have := hb.1; simpa using this) (by have := hb.2; simpa using this)))
    · have hh : 0 ≤ 0 := by omega
      refine e_iret (pc := 34) (st := []) (ty := .boolean) dX0_mayEverBe_34 rfl rfl ?_
      first
        | (obtain ⟨b, b1, b2, rfl⟩ := win_nat (by decide) q1 q2 (by decide); exact k1 b ⟨by simpa using b1, by simpa using b2⟩ rfl)
        | exact k0 (fun b hb e => q (by rw [e]; exact win_not (by decide) (by have := hb.1; simpa using this) (by have := hb.2; simpa using this)))
  · refine e_table (pc := 1) dX0_mayEverBe_1 ⟨35, (Or.inr ⟨by decide, by decide, 34, by decide, by decide⟩), ?_⟩
    refine e_iload_n (pc := 35) (i := 1) dX0_mayEverBe_35 rfl rfl ?_
    refine e_iconst' (pc := 36) (nI 2) dX0_mayEverBe_36 (by decide) ?_
    refine e_bipush' (pc := 37) (nI 12) dX0_mayEverBe_37 (by decide) ?_
    refine e_callS3 (pc := 39) (M' := mX5_within) dX0_mayEverBe_39 jX5_within lkX0_28 (by decide) (Nat.le_of_ble_eq_true rfl) (Nat.le_of_ble_eq_true rfl) ?_
    refine sp_within _ _ _ (fun q1 q2 => ?_) (fun q => ?_)
    · have hh : 0 ≤ 0 ∧ True := ⟨by omega, trivial⟩
      refine e_iret (pc := 42) (st := []) (ty := .boolean) dX0_mayEverBe_42 rfl rfl ?_
      first
        | (obtain ⟨b, b1, b2, rfl⟩ := win_nat (by decide) q1 q2 (by decide); exact k1 b ⟨by simpa using b1, by simpa using b2⟩ rfl)
        | exact k0 (fun b hb e => q (by rw [e]; exact win_not (by decide) (by have := hb.1; simpa using this) (by have := hb.2; simpa using this)))
    · have hh : 0 ≤ 0 := by omega
      refine e_iret (pc := 42) (st := []) (ty := .boolean) dX0_mayEverBe_42 rfl rfl ?_
      first
        | (obtain ⟨b, b1, b2, rfl⟩ := win_nat (by decide) q1 q2 (by decide); exact k1 b ⟨by simpa using b1, by simpa using b2⟩ rfl)
        | exact k0 (fun b hb e => q (by rw [e]; exact win_not (by decide) (by have := hb.1; simpa using this) (by have := hb.2; simpa using this)))
  · refine e_table (pc := 1) dX0_mayEverBe_1 ⟨43, (Or.inr ⟨by decide, by decide, 42, by decide, by decide⟩), ?_⟩
    refine e_iload_n (pc := 43) (i := 1) dX0_mayEverBe_43 rfl rfl ?_
    refine e_iconst' (pc := 44) (nI 0) dX0_mayEverBe_44 (by decide) ?_
    refine e_bipush' (pc := 45) (nI 11) dX0_mayEverBe_45 (by decide) ?_
    refine e_callS3 (pc := 47) (M' := mX5_within) dX0_mayEverBe_47 jX5_within lkX0_28 (by decide) (Nat.le_of_ble_eq_true rfl) (Nat.le_of_ble_eq_true rfl) ?_
    refine sp_within _ _ _ (fun q1 q2 => ?_) (fun q => ?_)
    · have hh : 0 ≤ 0 ∧ True := ⟨by omega, trivial⟩
      refine e_iret (pc := 50) (st := []) (ty := .boolean) dX0_mayEverBe_50 rfl rfl ?_
      first
        | (obtain ⟨b, b1, b2, rfl⟩ := win_nat (by decide) q1 q2 (by decide); exact k1 b ⟨by simpa using b1, by simpa using b2⟩ rfl)
        | exact k0 (fun b hb e => q (by rw [e]; exact win_not (by decide) (by have := hb.1; simpa using this) (by have := hb.2; simpa using this)))
    · have hh : 0 ≤ 0 := by omega
      refine e_iret (pc := 50) (st := []) (ty := .boolean) dX0_mayEverBe_50 rfl rfl ?_
      first
        | (obtain ⟨b, b1, b2, rfl⟩ := win_nat (by decide) q1 q2 (by decide); exact k1 b ⟨by simpa using b1, by simpa using b2⟩ rfl)
        | exact k0 (fun b hb e => q (by rw [e]; exact win_not (by decide) (by have := hb.1; simpa using this) (by have := hb.2; simpa using this)))
  · refine e_table (pc := 1) dX0_mayEverBe_1 ⟨51, (Or.inl ⟨Or.inr (by decide), by decide⟩), ?_⟩
    refine e_iload_n (pc := 51) (i := 1) dX0_mayEverBe_51 rfl rfl ?_
    refine e_iconst' (pc := 52) (nI 0) dX0_mayEverBe_52 (by decide) ?_
    refine e_bipush' (pc := 53) (nI 12) dX0_mayEverBe_53 (by decide) ?_
    refine e_callS3 (pc := 55) (M' := mX5_within) dX0_mayEverBe_55 jX5_within lkX0_28 (by decide) (Nat.le_of_ble_eq_true rfl) (Nat.le_of_ble_eq_true rfl) ?_
    refine sp_within _ _ _ (fun q1 q2 => ?_) (fun q => ?_)
    · have hh : 0 ≤ 0 ∧ True := ⟨by omega, trivial⟩
      refine e_iret (pc := 58) (st := []) (ty := .boolean) dX0_mayEverBe_58 rfl rfl ?_
      first
        | (obtain ⟨b, b1, b2, rfl⟩ := win_nat (by decide) q1 q2 (by decide); exact k1 b ⟨by simpa using b1, by simpa using b2⟩ rfl)
        | exact k0 (fun b hb e => q (by rw [e]; exact win_not (by decide) (by have := hb.1; simpa using this) (by have := hb.2; simpa using this)))
    · have hh : 0 ≤ 0 := by omega
      refine e_iret (pc := 58) (st := []) (ty := .boolean) dX0_mayEverBe_58 rfl rfl ?_
      first
        | (obtain ⟨b, b1, b2, rfl⟩ := win_nat (by decide) q1 q2 (by decide); exact k1 b ⟨by simpa using b1, by simpa using b2⟩ rfl)
        | exact k0 (fun b hb e => q (by rw [e]; exact win_not (by decide) (by have := hb.1; simpa using this) (by have := hb.2; simpa using this)))
theorem sp_mayBe {sc : PSc} {i : Nat} {R : Rw} {S : PS} {Q : PQ} {w a b : Nat} (hi : rI i) (hv : Vd R) (hr : RowAt S i R) (hw : w < R 20) (ha : a < 4) (hb : b ≤ 12) (k : Q (some (.int (nI (if okM R w a b then 1 else 0)))) S) : E sc mX0_mayBe 0 (pL0 mX0_mayBe [.ref i, .int (nI w), .int (nI a), .int (nI b)]) [] S Q := by
  show E sc mX0_mayBe 0 [.ref i, .int (nI w), .int (nI a), .int (nI b)] [] S Q
  have h5 := hv.1
  obtain ⟨hk4, ht2, ht12, hdt, hbr⟩ := hv.2 w hw
  refine e_iload_n (pc := 0) (i := 2) dX0_mayBe_0 rfl rfl ?_
  rcases (show a = 0 ∨ a = 1 ∨ a = 2 ∨ a = 3 by omega) with rfl | rfl | rfl | rfl
  · refine e_table (pc := 1) dX0_mayBe_1 ⟨103, (Or.inl ⟨Or.inl (by decide), by decide⟩), ?_⟩
    refine e_iconst' (pc := 103) (nI 1) dX0_mayBe_103 (by decide) ?_
    refine e_iret (pc := 104) (st := []) (ty := .boolean) dX0_mayBe_104 rfl rfl ?_
    first
      | exact qeq k (by rw [if_pos (show okM R w _ b = true by simp [okM]; omega)])
      | exact qeq k (by rw [if_neg (show ¬ okM R w _ b = true by simp [okM]; omega)])
      | exact qeq k (by rw [if_pos (show okM R w _ b = true by simp [okM])])
  · refine e_table (pc := 1) dX0_mayBe_1 ⟨28, (Or.inr ⟨by decide, by decide, 27, by decide, by decide⟩), ?_⟩
    refine e_iload_n (pc := 28) (i := 3) dX0_mayBe_28 rfl rfl ?_
    refine e_aload_n (pc := 29) (i := 0) dX0_mayBe_29 rfl rfl ?_
    refine e_getR (pc := 30) dX0_mayBe_30 (fX0_18 rfl) (rI_sh hi) rfl ?_
    refine e_iload_n (pc := 33) (i := 1) dX0_mayBe_33 rfl rfl ?_
    refine e_iald (pc := 34) dX0_mayBe_34 (rI_a3 hi) (rin hv hw) ?_
    refine E.it (nI (R (10 + w))) (rg hv hr hw) ?_
    refine e_icmp_le (pc := 35) (tgt := 63) dX0_mayBe_35 (by decide) (fun h35 => ?_) (fun h35 => ?_)
    · replace h35 := (nI_leI (by omega) (by omega)).mp h35
      refine e_iconst' (pc := 63) (nI 0) dX0_mayBe_63 (by decide) ?_
      refine e_iret (pc := 64) (st := []) (ty := .boolean) dX0_mayBe_64 rfl rfl ?_
      first
        | exact qeq k (by rw [if_pos (show okM R w _ b = true by simp [okM]; omega)])
        | exact qeq k (by rw [if_neg (show ¬ okM R w _ b = true by simp [okM]; omega)])
        | exact qeq k (by rw [if_pos (show okM R w _ b = true by simp [okM])])
    · replace h35 := mt (nI_leI (by omega) (by omega)).mpr h35
      refine e_aload_n (pc := 38) (i := 0) dX0_mayBe_38 rfl rfl ?_
      refine e_getR (pc := 39) dX0_mayBe_39 (fX0_21 rfl) (rI_sh hi) rfl ?_
      refine e_iload_n (pc := 42) (i := 1) dX0_mayBe_42 rfl rfl ?_
      refine e_iald (pc := 43) dX0_mayBe_43 (rI_a4 hi) (rin hv hw) ?_
      refine E.it (nI (R (15 + w))) (rb hv hr hw) ?_
      refine e_bipush' (pc := 44) (nI 12) dX0_mayBe_44 (by decide) ?_
      refine e_icmp_eq (pc := 46) (tgt := 59) dX0_mayBe_46 (by decide) (fun h46 => ?_) (fun h46 => ?_)
      · replace h46 := (nI_eq (by omega) (by omega)).mp h46
        refine e_iconst' (pc := 59) (nI 1) dX0_mayBe_59 (by decide) ?_
        refine e_goto (pc := 60) (tgt := 64) dX0_mayBe_60 (by decide) ?_
        refine e_iret (pc := 64) (st := []) (ty := .boolean) dX0_mayBe_64 rfl rfl ?_
        first
          | exact qeq k (by rw [if_pos (show okM R w _ b = true by simp [okM]; omega)])
          | exact qeq k (by rw [if_neg (show ¬ okM R w _ b = true by simp [okM]; omega)])
          | exact qeq k (by rw [if_pos (show okM R w _ b = true by simp [okM])])
      · replace h46 := mt (nI_eq (by omega) (by omega)).mpr h46
        refine e_iload_n (pc := 49) (i := 3) dX0_mayBe_49 rfl rfl ?_
        refine e_aload_n (pc := 50) (i := 0) dX0_mayBe_50 rfl rfl ?_
        refine e_getR (pc := 51) dX0_mayBe_51 (fX0_21 rfl) (rI_sh hi) rfl ?_
        refine e_iload_n (pc := 54) (i := 1) dX0_mayBe_54 rfl rfl ?_
        refine e_iald (pc := 55) dX0_mayBe_55 (rI_a4 hi) (rin hv hw) ?_
        refine E.it (nI (R (15 + w))) (rb hv hr hw) ?_
        refine e_icmp_le (pc := 56) (tgt := 63) dX0_mayBe_56 (by decide) (fun h56 => ?_) (fun h56 => ?_)
        · replace h56 := (nI_leI (by omega) (by omega)).mp h56
          refine e_iconst' (pc := 63) (nI 0) dX0_mayBe_63 (by decide) ?_
          refine e_iret (pc := 64) (st := []) (ty := .boolean) dX0_mayBe_64 rfl rfl ?_
          first
            | exact qeq k (by rw [if_pos (show okM R w _ b = true by simp [okM]; omega)])
            | exact qeq k (by rw [if_neg (show ¬ okM R w _ b = true by simp [okM]; omega)])
            | exact qeq k (by rw [if_pos (show okM R w _ b = true by simp [okM])])
        · replace h56 := mt (nI_leI (by omega) (by omega)).mpr h56
          refine e_iconst' (pc := 59) (nI 1) dX0_mayBe_59 (by decide) ?_
          refine e_goto (pc := 60) (tgt := 64) dX0_mayBe_60 (by decide) ?_
          refine e_iret (pc := 64) (st := []) (ty := .boolean) dX0_mayBe_64 rfl rfl ?_
          first
            | exact qeq k (by rw [if_pos (show okM R w _ b = true by simp [okM]; omega)])
            | exact qeq k (by rw [if_neg (show ¬ okM R w _ b = true by simp [okM]; omega)])
            | exact qeq k (by rw [if_pos (show okM R w _ b = true by simp [okM])])
  · refine e_table (pc := 1) dX0_mayBe_1 ⟨65, (Or.inr ⟨by decide, by decide, 64, by decide, by decide⟩), ?_⟩
    refine e_iload_n (pc := 65) (i := 3) dX0_mayBe_65 rfl rfl ?_
    refine e_aload_n (pc := 66) (i := 0) dX0_mayBe_66 rfl rfl ?_
    refine e_getR (pc := 67) dX0_mayBe_67 (fX0_15 rfl) (rI_sh hi) rfl ?_
    refine e_iload_n (pc := 70) (i := 1) dX0_mayBe_70 rfl rfl ?_
    refine e_iald (pc := 71) dX0_mayBe_71 (rI_a2 hi) (rin hv hw) ?_
    refine E.it (nI (R (5 + w))) (rt hv hr hw) ?_
    refine e_icmp_ge (pc := 72) (tgt := 79) dX0_mayBe_72 (by decide) (fun h72 => ?_) (fun h72 => ?_)
    · replace h72 := (nI_leI (by omega) (by omega)).mp h72
      refine e_iconst' (pc := 79) (nI 0) dX0_mayBe_79 (by decide) ?_
      refine e_iret (pc := 80) (st := []) (ty := .boolean) dX0_mayBe_80 rfl rfl ?_
      first
        | exact qeq k (by rw [if_pos (show okM R w _ b = true by simp [okM]; omega)])
        | exact qeq k (by rw [if_neg (show ¬ okM R w _ b = true by simp [okM]; omega)])
        | exact qeq k (by rw [if_pos (show okM R w _ b = true by simp [okM])])
    · replace h72 := mt (nI_leI (by omega) (by omega)).mpr h72
      refine e_iconst' (pc := 75) (nI 1) dX0_mayBe_75 (by decide) ?_
      refine e_goto (pc := 76) (tgt := 80) dX0_mayBe_76 (by decide) ?_
      refine e_iret (pc := 80) (st := []) (ty := .boolean) dX0_mayBe_80 rfl rfl ?_
      first
        | exact qeq k (by rw [if_pos (show okM R w _ b = true by simp [okM]; omega)])
        | exact qeq k (by rw [if_neg (show ¬ okM R w _ b = true by simp [okM]; omega)])
        | exact qeq k (by rw [if_pos (show okM R w _ b = true by simp [okM])])
  · refine e_table (pc := 1) dX0_mayBe_1 ⟨81, (Or.inr ⟨by decide, by decide, 80, by decide, by decide⟩), ?_⟩
    refine e_iload_n (pc := 81) (i := 3) dX0_mayBe_81 rfl rfl ?_
    refine e_bipush' (pc := 82) (nI 12) dX0_mayBe_82 (by decide) ?_
    refine e_icmp_eq (pc := 84) (tgt := 97) dX0_mayBe_84 (by decide) (fun h84 => ?_) (fun h84 => ?_)
    · replace h84 := (nI_eq (by omega) (by omega)).mp h84
      refine e_iconst' (pc := 97) (nI 1) dX0_mayBe_97 (by decide) ?_
      refine e_goto (pc := 98) (tgt := 102) dX0_mayBe_98 (by decide) ?_
      refine e_iret (pc := 102) (st := []) (ty := .boolean) dX0_mayBe_102 rfl rfl ?_
      first
        | exact qeq k (by rw [if_pos (show okM R w _ b = true by simp [okM]; omega)])
        | exact qeq k (by rw [if_neg (show ¬ okM R w _ b = true by simp [okM]; omega)])
        | exact qeq k (by rw [if_pos (show okM R w _ b = true by simp [okM])])
    · replace h84 := mt (nI_eq (by omega) (by omega)).mpr h84
      refine e_iload_n (pc := 87) (i := 3) dX0_mayBe_87 rfl rfl ?_
      refine e_aload_n (pc := 88) (i := 0) dX0_mayBe_88 rfl rfl ?_
      refine e_getR (pc := 89) dX0_mayBe_89 (fX0_15 rfl) (rI_sh hi) rfl ?_
      refine e_iload_n (pc := 92) (i := 1) dX0_mayBe_92 rfl rfl ?_
      refine e_iald (pc := 93) dX0_mayBe_93 (rI_a2 hi) (rin hv hw) ?_
      refine E.it (nI (R (5 + w))) (rt hv hr hw) ?_
      refine e_icmp_ge (pc := 94) (tgt := 101) dX0_mayBe_94 (by decide) (fun h94 => ?_) (fun h94 => ?_)
      · replace h94 := (nI_leI (by omega) (by omega)).mp h94
        refine e_iconst' (pc := 101) (nI 0) dX0_mayBe_101 (by decide) ?_
        refine e_iret (pc := 102) (st := []) (ty := .boolean) dX0_mayBe_102 rfl rfl ?_
        first
          | exact qeq k (by rw [if_pos (show okM R w _ b = true by simp [okM]; omega)])
          | exact qeq k (by rw [if_neg (show ¬ okM R w _ b = true by simp [okM]; omega)])
          | exact qeq k (by rw [if_pos (show okM R w _ b = true by simp [okM])])
      · replace h94 := mt (nI_leI (by omega) (by omega)).mpr h94
        refine e_iconst' (pc := 97) (nI 1) dX0_mayBe_97 (by decide) ?_
        refine e_goto (pc := 98) (tgt := 102) dX0_mayBe_98 (by decide) ?_
        refine e_iret (pc := 102) (st := []) (ty := .boolean) dX0_mayBe_102 rfl rfl ?_
        first
          | exact qeq k (by rw [if_pos (show okM R w _ b = true by simp [okM]; omega)])
          | exact qeq k (by rw [if_neg (show ¬ okM R w _ b = true by simp [okM]; omega)])
          | exact qeq k (by rw [if_pos (show okM R w _ b = true by simp [okM])])
theorem sp_change {sc : PSc} {i : Nat} {R : Rw} {S : PS} {Q : PQ} {w what v : Int32} (hi : rI i) (hv : Vd R) (hr : RowAt S i R) (k : ∀ S', RowAt S' i (altS R w what v).2 → S'.1 i 2 = S.1 i 2 → Fr i 5 S S' → Q (some (.int (altS R w what v).1)) S') : E sc mX0_change 0 (pL0 mX0_change [.ref i, .int w, .int what, .int v]) [] S Q := by
  show E sc mX0_change 0 [.ref i, .int w, .int what, .int v, .null] [] S Q
  have hv5 := hv.1
  have kb : (∀ j a b, altC R w what v j a b → False) → Q (some (.int (-1))) S := fun h => by
    have := k S; rw [altS_bad h] at this; exact this hr rfl Fr.rf
  refine e_aload_n (pc := 0) (i := 0) dX0_change_0 rfl rfl ?_
  refine e_iload_n (pc := 1) (i := 1) dX0_change_1 rfl rfl ?_
  refine e_callV1 (pc := 2) (M' := mX0_has) dX0_change_2 iX0_has lkX0_32 (by decide) (rI_r hi) (Nat.le_of_ble_eq_true rfl) (Nat.le_of_ble_eq_true rfl) ?_
  refine sp_has hi hv hr (fun j hj ew => ?_) (fun hz => ?_)
  · subst ew
    refine e_if_eq (pc := 5) (tgt := 25) dX0_change_5 (by decide) (fun h5 => absurd h5 (by decide)) (fun h5 => ?_)
    refine e_iload_n (pc := 8) (i := 2) dX0_change_8 rfl rfl ?_
    refine e_iconst' (pc := 9) (nI 0) dX0_change_9 (by decide) ?_
    refine e_iconst' (pc := 10) (nI 3) dX0_change_10 (by decide) ?_
    refine e_callS3 (pc := 11) (M' := mX5_within) dX0_change_11 jX5_within lkX0_28 (by decide) (Nat.le_of_ble_eq_true rfl) (Nat.le_of_ble_eq_true rfl) ?_
    refine sp_within _ _ _ (fun q1 q2 => ?_) (fun hz => ?_)
    · obtain ⟨a, -, ha, rfl⟩ := win_nat (by decide) q1 q2 (by decide)
      refine e_if_eq (pc := 14) (tgt := 25) dX0_change_14 (by decide) (fun h14 => absurd h14 (by decide)) (fun h14 => ?_)
      refine e_iload_n (pc := 17) (i := 2) dX0_change_17 rfl rfl ?_
      refine e_iload_n (pc := 18) (i := 3) dX0_change_18 rfl rfl ?_
      refine e_callS2 (pc := 19) (M' := mX0_mayEverBe) dX0_change_19 jX0_mayEverBe lkX0_36 (by decide) (Nat.le_of_ble_eq_true rfl) (Nat.le_of_ble_eq_true rfl) ?_
      refine sp_mayEverBe (by omega) (fun b hb ev => ?_) (fun hz => ?_)
      · subst ev
        have h12 := okE_le hb
        have ok := altS_ok hv5 hj (show a < 4 by omega) hb
        refine e_if_ne (pc := 22) (tgt := 27) dX0_change_22 (by decide) (fun h22 => ?_) (fun h22 => absurd h22 (by decide))
        refine e_aload_n (pc := 27) (i := 0) dX0_change_27 rfl rfl ?_
        refine e_iload_n (pc := 28) (i := 1) dX0_change_28 rfl rfl ?_
        refine e_iload_n (pc := 29) (i := 2) dX0_change_29 rfl rfl ?_
        refine e_iload_n (pc := 30) (i := 3) dX0_change_30 rfl rfl ?_
        refine e_callV3 (pc := 31) (M' := mX0_mayBe) dX0_change_31 iX0_mayBe lkX0_40 (by decide) (rI_r hi) (Nat.le_of_ble_eq_true rfl) (Nat.le_of_ble_eq_true rfl) ?_
        refine sp_mayBe hi hv hr hj (by omega) h12 ?_
        cases hm : okM R j a b
        · rw [hm] at ok
          refine e_if_ne (pc := 34) (tgt := 40) dX0_change_34 (by decide) (fun h34 => absurd (by decide) h34) (fun h34 => ?_)
          refine e_bipush' (pc := 37) (-2) dX0_change_37 (by decide) ?_
          refine e_iret (pc := 39) (st := []) (ty := .int) dX0_change_39 rfl rfl ?_
          have := k S; rw [ok] at this; exact this hr rfl Fr.rf
        · rw [hm] at ok
          refine e_if_ne (pc := 34) (tgt := 40) dX0_change_34 (by decide) (fun h34 => ?_) (fun h34 => absurd h34 (by decide))
          refine e_aload_n (pc := 40) (i := 0) dX0_change_40 rfl rfl ?_
          refine e_iload_n (pc := 41) (i := 1) dX0_change_41 rfl rfl ?_
          refine e_iload_n (pc := 42) (i := 2) dX0_change_42 rfl rfl ?_
          refine e_callV2 (pc := 43) (M' := mX0_part) dX0_change_43 iX0_part lkX0_43 (by decide) (rI_r hi) (Nat.le_of_ble_eq_true rfl) (Nat.le_of_ble_eq_true rfl) ?_
          refine sp_part hi hv hr hj (by omega) ?_
          refine e_istore (pc := 46) dX0_change_46 (by decide) rfl ?_
          refine e_aload_n (pc := 48) (i := 0) dX0_change_48 rfl rfl ?_
          refine e_iload_n (pc := 49) (i := 1) dX0_change_49 rfl rfl ?_
          refine e_iload_n (pc := 50) (i := 2) dX0_change_50 rfl rfl ?_
          refine e_iload_n (pc := 51) (i := 3) dX0_change_51 rfl rfl ?_
          refine e_callV3 (pc := 52) (M' := mX0_set) dX0_change_52 iX0_set lkX0_47 (by decide) (rI_r hi) (Nat.le_of_ble_eq_true rfl) (Nat.le_of_ble_eq_true rfl) ?_
          refine sp_set hi hv hr hj (show a < 4 by omega) (fun S' q1 q2 q3 => ?_)
          refine e_iload (pc := 55) dX0_change_55 rfl ?_
          refine e_iret (pc := 57) (st := []) (ty := .int) dX0_change_57 rfl rfl ?_
          have := k S'; rw [ok] at this; exact this q1 q2 q3
      · have nb : ∀ j2 a2 b, altC R (nI j) (nI a) v j2 a2 b → False := by
          intro j2 a2 b q
          have ea : a = a2 := (nI_eq (by omega) (by have := q.2.1; omega)).mp q.2.2.2.2.1
          subst ea
          exact hz b q.2.2.1 q.2.2.2.2.2
        refine e_if_ne (pc := 22) (tgt := 27) dX0_change_22 (by decide) (fun h22 => absurd (by decide) h22) (fun h22 => ?_)
        refine e_iconst' (pc := 25) (-1) dX0_change_25 (by decide) ?_
        refine e_iret (pc := 26) (st := []) (ty := .int) dX0_change_26 rfl rfl ?_
        exact kb nb
    · have nb : ∀ j2 a b, altC R (nI j) what v j2 a b → False := by
        intro j2 a b q
        rw [q.2.2.2.2.1] at hz
        exact hz (win_not (by decide) (by omega) (by have := q.2.1; omega))
      refine e_if_eq (pc := 14) (tgt := 25) dX0_change_14 (by decide) (fun h14 => ?_) (fun h14 => absurd (by decide) h14)
      refine e_iconst' (pc := 25) (-1) dX0_change_25 (by decide) ?_
      refine e_iret (pc := 26) (st := []) (ty := .int) dX0_change_26 rfl rfl ?_
      exact kb nb
  · have nb : ∀ j a b, altC R w what v j a b → False := by
      intro j a b q
      rcases hz with z | z
      · rw [q.2.2.2.1] at z; exact absurd z (nI_pos (by have := q.1; omega))
      · rw [q.2.2.2.1] at z; exact absurd z (nI_ge q.1 (by omega))
    refine e_if_eq (pc := 5) (tgt := 25) dX0_change_5 (by decide) (fun h5 => ?_) (fun h5 => absurd (by decide) h5)
    refine e_iconst' (pc := 25) (-1) dX0_change_25 (by decide) ?_
    refine e_iret (pc := 26) (st := []) (ty := .int) dX0_change_26 rfl rfl ?_
    exact kb nb
theorem sp_takeDP {sc : PSc} {i : Nat} {R : Rw} {S : PS} {Q : PQ} {w v : Int32} (hi : rI i) (hv : Vd R) (hr : RowAt S i R) (hc : R 21 < 2 ^ 30) (k0 : ∀ S', ((altS R w (nI 2) v).1 < 0 ∨ 999999 ≤ R 21) → Fr i 5 S S' → Q (some (.int (nI 0))) S') (k1 : ∀ S', ¬ (altS R w (nI 2) v).1 < 0 → R 21 < 999999 → RowAt S' i (pushR (altS R w (nI 2) v).2).1 → Fr i 5 S S' → Q (some (.int (nI 1))) S') : E sc mX0_takeDigitAndPush 0 (pL0 mX0_takeDigitAndPush [.ref i, .int w, .int v]) [] S Q := by
  show E sc mX0_takeDigitAndPush 0 [.ref i, .int w, .int v] [] S Q
  have e21 : (altS R w (nI 2) v).2 21 = R 21 := by
    have h5 := hv.1
    unfold altS
    split
    next h =>
      split
      · exact rs_ne _ _ (by have := h.1; have := h.2.1; omega)
      · rfl
    next => rfl
  refine e_aload_n (pc := 0) (i := 0) dX0_takeDigitAndPush_0 rfl rfl ?_
  refine e_iload_n (pc := 1) (i := 1) dX0_takeDigitAndPush_1 rfl rfl ?_
  refine e_iconst' (pc := 2) (nI 2) dX0_takeDigitAndPush_2 (by decide) ?_
  refine e_iload_n (pc := 3) (i := 2) dX0_takeDigitAndPush_3 rfl rfl ?_
  refine e_callV3 (pc := 4) (M' := mX0_change) dX0_takeDigitAndPush_4 iX0_change lkX0_75 (by decide) (rI_r hi) (Nat.le_of_ble_eq_true rfl) (Nat.le_of_ble_eq_true rfl) ?_
  refine sp_change hi hv hr (fun S1 q1 q2 q3 => ?_)
  refine e_if_lt (pc := 7) (tgt := 19) dX0_takeDigitAndPush_7 (by decide) (fun h7 => ?_) (fun h7 => ?_)
  · refine e_iconst' (pc := 19) (nI 0) dX0_takeDigitAndPush_19 (by decide) ?_
    refine e_iret (pc := 20) (st := []) (ty := .boolean) dX0_takeDigitAndPush_20 rfl rfl ?_
    first
      | exact k0 S1 (Or.inl h7) q3
      | exact k0 S1 (Or.inr (by omega)) q3
  · refine e_aload_n (pc := 10) (i := 0) dX0_takeDigitAndPush_10 rfl rfl ?_
    refine e_getI (pc := 11) dX0_takeDigitAndPush_11 (fX0_51 rfl) (rI_sh hi) rfl ?_
    refine E.it (nI (R 21)) (by rw [q1.2.1, e21]) ?_
    refine e_ldc' (pc := 14) (nI 999999) dX0_takeDigitAndPush_14 (kcX0_79 rfl) (by decide) ?_
    refine e_icmp_lt (pc := 16) (tgt := 21) dX0_takeDigitAndPush_16 (by decide) (fun h16 => ?_) (fun h16 => ?_)
    · replace h16 := (nI_ltI (by omega) (by omega)).mp h16
      refine e_aload_n (pc := 21) (i := 0) dX0_takeDigitAndPush_21 rfl rfl ?_
      refine e_callV0 (pc := 22) (M' := mX0_pushOnce) dX0_takeDigitAndPush_22 iX0_pushOnce lkX0_72 (by decide) (rI_r hi) (Nat.le_of_ble_eq_true rfl) (Nat.le_of_ble_eq_true rfl) ?_
      refine sp_pushOnce hi (altS_vd hv) q1 (fun S2 a b c => ?_)
      refine e_iconst' (pc := 25) (nI 1) dX0_takeDigitAndPush_25 (by decide) ?_
      refine e_iret (pc := 26) (st := []) (ty := .boolean) dX0_takeDigitAndPush_26 rfl rfl ?_
      exact k1 S2 h7 h16 a (q3.tr c)
    · replace h16 := mt (nI_ltI (by omega) (by omega)).mpr h16
      refine e_iconst' (pc := 19) (nI 0) dX0_takeDigitAndPush_19 (by decide) ?_
      refine e_iret (pc := 20) (st := []) (ty := .boolean) dX0_takeDigitAndPush_20 rfl rfl ?_
      first
        | exact k0 S1 (Or.inl h7) q3
        | exact k0 S1 (Or.inr (by omega)) q3
def addR (R : Rw) (kd th dg br : Nat) : Rw := rs (rs (rs (rs (rs R (R 20) kd) (5 + R 20) th) (10 + R 20) dg) (15 + R 20) br) 20 (R 20 + 1)
theorem addR_lt {R : Rw} {kd th dg br : Nat} (h5 : R 20 < 5) (b u : Nat) (hb : b < 4) (hu : u < R 20) : addR R kd th dg br (5 * b + u) = R (5 * b + u) := by
  unfold addR
  rw [rs_ne _ _ (by omega), rs_ne _ _ (by omega), rs_ne _ _ (by omega), rs_ne _ _ (by omega), rs_ne _ _ (by omega)]
theorem addR_at {R : Rw} {kd th dg br : Nat} (h5 : R 20 < 5) : addR R kd th dg br (R 20) = kd ∧ addR R kd th dg br (5 + R 20) = th ∧ addR R kd th dg br (10 + R 20) = dg ∧ addR R kd th dg br (15 + R 20) = br ∧ addR R kd th dg br 20 = R 20 + 1 ∧ addR R kd th dg br 21 = R 21 := by
  unfold addR
  refine ⟨?_, ?_, ?_, ?_, rs_at _ _ _, ?_⟩
  · rw [rs_ne _ _ (by omega), rs_ne _ _ (by omega), rs_ne _ _ (by omega), rs_ne _ _ (by omega), rs_at]
  · rw [rs_ne _ _ (by omega), rs_ne _ _ (by omega), rs_ne _ _ (by omega), rs_at]
  · rw [rs_ne _ _ (by omega), rs_ne _ _ (by omega), rs_at]
  · rw [rs_ne _ _ (by omega), rs_at]
  · rw [rs_ne _ _ (by omega), rs_ne _ _ (by omega), rs_ne _ _ (by omega), rs_ne _ _ (by omega), rs_ne _ _ (by omega)]
theorem addR_vd {R : Rw} {kd th dg br : Nat} (hv : Vd R) (h5 : R 20 < 5) (h1 : kd < 4) (h2 : 2 ≤ th) (h3 : th ≤ 12) (h4 : dg < th) (h6 : br < th ∨ br = 12) : Vd (addR R kd th dg br) := by
  obtain ⟨a1, a2, a3, a4, a5, a6⟩ := addR_at (kd := kd) (th := th) (dg := dg) (br := br) h5
  refine ⟨by omega, fun w hw => ?_⟩
  by_cases e : w = R 20
  · subst e
    rw [a1, a2, a3, a4]
    exact ⟨h1, h2, h3, h4, h6⟩
  · have hw : w < R 20 := by omega
    have b0 := addR_lt (kd := kd) (th := th) (dg := dg) (br := br) h5 0 w (by omega) hw
    have b1 := addR_lt (kd := kd) (th := th) (dg := dg) (br := br) h5 1 w (by omega) hw
    have b2 := addR_lt (kd := kd) (th := th) (dg := dg) (br := br) h5 2 w (by omega) hw
    have b3 := addR_lt (kd := kd) (th := th) (dg := dg) (br := br) h5 3 w (by omega) hw
    simp at b0 b1 b2 b3
    rw [b0, b1, b2, b3]
    exact hv.2 w hw
theorem sp_append {sc : PSc} {i : Nat} {R : Rw} {S : PS} {Q : PQ} {kd th dg br : Nat} (hi : rI i) (hv : Vd R) (hr : RowAt S i R) (h5 : R 20 < 5) (k : ∀ S', RowAt S' i (addR R kd th dg br) → Fr i 5 S S' → Q none S') : E sc mX0_append 0 (pL0 mX0_append [.ref i, .int (nI kd), .int (nI th), .int (nI dg), .int (nI br)]) [] S Q := by
  show E sc mX0_append 0 [.ref i, .int (nI kd), .int (nI th), .int (nI dg), .int (nI br)] [] S Q
  have hcl : (nI (R 20)).toNatClampNeg = R 20 := nI_clamp (by omega)
  have hin : vp_in (nI (R 20)) 5 := vp_in_nI h5 (by omega)
  refine e_aload_n (pc := 0) (i := 0) dX0_append_0 rfl rfl ?_
  refine e_getI (pc := 1) dX0_append_1 (fX0_24 rfl) (rI_sh hi) rfl ?_
  refine E.it (nI (R 20)) hr.1 ?_
  refine e_iconst' (pc := 4) (nI 5) dX0_append_4 (by decide) ?_
  refine e_icmp_lt (pc := 5) (tgt := 9) dX0_append_5 (by decide) (fun h9 => ?_) (fun h9 => absurd (nI_lt h5 (by omega)) h9)
  replace h9 := (nI_ltI (by omega) (by omega)).mp h9
  refine e_aload_n (pc := 9) (i := 0) dX0_append_9 rfl rfl ?_
  refine e_getR (pc := 10) dX0_append_10 (fX0_9 rfl) (rI_sh hi) rfl ?_
  refine e_aload_n (pc := 13) (i := 0) dX0_append_13 rfl rfl ?_
  refine e_getI (pc := 14) dX0_append_14 (fX0_24 rfl) (rI_sh hi) rfl ?_
  refine E.it (nI (R 20)) hr.1 ?_
  refine e_iload_n (pc := 17) (i := 1) dX0_append_17 rfl rfl ?_
  refine e_iast (pc := 18) dX0_append_18 (rI_a1 hi) hin ?_
  refine e_aload_n (pc := 19) (i := 0) dX0_append_19 rfl rfl ?_
  refine e_getR (pc := 20) dX0_append_20 (fX0_15 rfl) (rI_sh hi) rfl ?_
  refine e_aload_n (pc := 23) (i := 0) dX0_append_23 rfl rfl ?_
  refine e_getI (pc := 24) dX0_append_24 (fX0_24 rfl) (rI_sh hi) rfl ?_
  refine E.it (nI (R 20)) (by show up2 _ _ _ _ i 0 = _; rw [up2_ne _ _ _ (by omega)]; exact hr.1) ?_
  refine e_iload_n (pc := 27) (i := 2) dX0_append_27 rfl rfl ?_
  refine e_iast (pc := 28) dX0_append_28 (rI_a2 hi) hin ?_
  refine e_aload_n (pc := 29) (i := 0) dX0_append_29 rfl rfl ?_
  refine e_getR (pc := 30) dX0_append_30 (fX0_18 rfl) (rI_sh hi) rfl ?_
  refine e_aload_n (pc := 33) (i := 0) dX0_append_33 rfl rfl ?_
  refine e_getI (pc := 34) dX0_append_34 (fX0_24 rfl) (rI_sh hi) rfl ?_
  refine E.it (nI (R 20)) (by show up2 (up2 _ _ _ _) _ _ _ i 0 = _; rw [up2_ne _ _ _ (by omega), up2_ne _ _ _ (by omega)]; exact hr.1) ?_
  refine e_iload_n (pc := 37) (i := 3) dX0_append_37 rfl rfl ?_
  refine e_iast (pc := 38) dX0_append_38 (rI_a3 hi) hin ?_
  refine e_aload_n (pc := 39) (i := 0) dX0_append_39 rfl rfl ?_
  refine e_getR (pc := 40) dX0_append_40 (fX0_21 rfl) (rI_sh hi) rfl ?_
  refine e_aload_n (pc := 43) (i := 0) dX0_append_43 rfl rfl ?_
  refine e_getI (pc := 44) dX0_append_44 (fX0_24 rfl) (rI_sh hi) rfl ?_
  refine E.it (nI (R 20)) (by show up2 (up2 (up2 _ _ _ _) _ _ _) _ _ _ i 0 = _; rw [up2_ne _ _ _ (by omega), up2_ne _ _ _ (by omega), up2_ne _ _ _ (by omega)]; exact hr.1) ?_
  refine e_iload (pc := 47) dX0_append_47 rfl ?_
  refine e_iast (pc := 49) dX0_append_49 (rI_a4 hi) hin ?_
  refine e_aload_n (pc := 50) (i := 0) dX0_append_50 rfl rfl ?_
  refine e_dup (pc := 51) dX0_append_51 rfl ?_
  refine e_getI (pc := 52) dX0_append_52 (fX0_24 rfl) (rI_sh hi) rfl ?_
  refine E.it (nI (R 20)) (by show up2 (up2 (up2 (up2 _ _ _ _) _ _ _) _ _ _) _ _ _ i 0 = _; rw [up2_ne _ _ _ (by omega), up2_ne _ _ _ (by omega), up2_ne _ _ _ (by omega), up2_ne _ _ _ (by omega)]; exact hr.1) ?_
  refine e_iconst' (pc := 55) (nI 1) dX0_append_55 (by decide) ?_
  refine e_iadd (pc := 56) dX0_append_56 ?_
  refine E.it (nI (R 20 + 1)) (nI_add _ _) ?_
  refine e_putI (pc := 57) dX0_append_57 (pX0_24 rfl) (rI_sh hi) rfl (fun h => by cases h) ?_
  refine e_vret (pc := 60) (st := []) dX0_append_60 rfl ?_
  refine k _ ?_ (((((Fr.rf.up (by omega) (by omega)).up (by omega) (by omega)).up (by omega) (by omega)).up (by omega) (by omega)).up (by omega) (by omega))
  rw [hcl]
  obtain ⟨a1, a2, a3, a4, a5, a6⟩ := addR_at (kd := kd) (th := th) (dg := dg) (br := br) h5
  refine RowAt.mk ?_ ?_ (fun b u hb hu => ?_)
  · rw [a5]; show up2 _ _ _ _ i 0 = _; rw [up2_at]; rfl
  · rw [a6]; show up2 (up2 (up2 (up2 (up2 _ _ _ _) _ _ _) _ _ _) _ _ _) _ _ _ i 1 = _; rw [up2_at]; show up2 (up2 (up2 (up2 _ _ _ _) _ _ _) _ _ _) _ _ _ i 1 = _; rw [up2_ne _ _ _ (by omega), up2_ne _ _ _ (by omega), up2_ne _ _ _ (by omega), up2_ne _ _ _ (by omega)]; exact hr.2.1
  · rw [a5] at hu
    show up2 (up2 (up2 (up2 (up2 S.1 _ _ _) _ _ _) _ _ _) _ _ _) _ _ _ (i + 1 + b) u = _
    by_cases e : u = R 20
    · subst e
      rcases (show b = 0 ∨ b = 1 ∨ b = 2 ∨ b = 3 by omega) with rfl | rfl | rfl | rfl
      · rw [show 5 * 0 + R 20 = R 20 by omega, a1]; simp [up2]
      · rw [show 5 * 1 + R 20 = 5 + R 20 by omega, a2]; simp [up2]; omega
      · rw [show 5 * 2 + R 20 = 10 + R 20 by omega, a3]; simp [up2]; omega
      · rw [show 5 * 3 + R 20 = 15 + R 20 by omega, a4]; simp [up2]; omega
    · rw [addR_lt h5 b u hb (by omega), ← hr.get hb (by omega)]
      unfold up2
      rw [if_neg (by omega), if_neg (by omega), if_neg (by omega), if_neg (by omega), if_neg (by omega)]

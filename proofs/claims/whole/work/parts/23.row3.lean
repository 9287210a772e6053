theorem rI_apart {i j : Nat} (hi : rI i) (hj : rI j) (h : i ≠ j) : i + 5 ≤ j ∨ j + 5 ≤ i := by
  rcases hi with rfl | rfl | rfl | rfl <;> rcases hj with rfl | rfl | rfl | rfl <;> omega
theorem RowAt.frI {i j : Nat} {S S' : PS} {R : Rw} (h : RowAt S j R) (hf : Fr i 5 S S') (hi : rI i) (hj : rI j) (hn : i ≠ j) : RowAt S' j R := h.fr hf (by have := rI_apart hi hj hn; omega)
/-- a row is copied so far -/
def CpAt (S : PS) (i w : Nat) (R : Rw) : Prop := S.1 i 0 = nI (R 20) ∧ S.1 i 1 = nI (R 21) ∧ S.1 i 2 = nI 0 ∧ ∀ b u, b < 4 → u < w → S.1 (i + 1 + b) u = nI (R (5 * b + u))
theorem CpAt.step {S : PS} {i w : Nat} {R : Rw} {v0 v1 v2 v3 : Int32} (h : CpAt S i w R) (h0 : v0 = nI (R w)) (h1 : v1 = nI (R (5 + w))) (h2 : v2 = nI (R (10 + w))) (h3 : v3 = nI (R (15 + w))) : CpAt (up2 (up2 (up2 (up2 S.1 (i + 1) w v0) (i + 2) w v1) (i + 3) w v2) (i + 4) w v3, S.2) i (w + 1) R := by
  obtain ⟨a, b, c, d⟩ := h
  refine ⟨?_, ?_, ?_, fun q u hq hu => ?_⟩
  · show up2 (up2 (up2 (up2 S.1 _ _ _) _ _ _) _ _ _) _ _ _ i 0 = _
    rw [up2_ne _ _ _ (by omega), up2_ne _ _ _ (by omega), up2_ne _ _ _ (by omega), up2_ne _ _ _ (by omega)]; exact a
  · show up2 (up2 (up2 (up2 S.1 _ _ _) _ _ _) _ _ _) _ _ _ i 1 = _
    rw [up2_ne _ _ _ (by omega), up2_ne _ _ _ (by omega), up2_ne _ _ _ (by omega), up2_ne _ _ _ (by omega)]; exact b
  · show up2 (up2 (up2 (up2 S.1 _ _ _) _ _ _) _ _ _) _ _ _ i 2 = _
    rw [up2_ne _ _ _ (by omega), up2_ne _ _ _ (by omega), up2_ne _ _ _ (by omega), up2_ne _ _ _ (by omega)]; exact c
  · show up2 (up2 (up2 (up2 S.1 _ _ _) _ _ _) _ _ _) _ _ _ (i + 1 + q) u = _
    by_cases e : u = w
    · subst e
      subst h0; subst h1; subst h2; subst h3
      rcases (show q = 0 ∨ q = 1 ∨ q = 2 ∨ q = 3 by omega) with rfl | rfl | rfl | rfl
      · rw [show 5 * 0 + u = u by omega]; simp [up2]
      · rw [show 5 * 1 + u = 5 + u by omega]; simp [up2]
      · rw [show 5 * 2 + u = 10 + u by omega]; simp [up2]
      · rw [show 5 * 3 + u = 15 + u by omega]; simp [up2]
    · rw [← d q u hq (by omega)]
      unfold up2
      rw [if_neg (by omega), if_neg (by omega), if_neg (by omega), if_neg (by omega)]
theorem lp_copyOf {sc : PSc} {i j : Nat} {R : Rw} {S0 : PS} {Q : PQ} (hi : rI i) (hj : rI j) (hn0 : i ≠ j) (hv : Vd R) (hr0 : RowAt S0 j R) (k : ∀ S', RowAt S' i R → S'.1 i 2 = nI 0 → Fr i 5 S0 S' → Q none S') : ∀ (n : Nat) (w : Nat) (S : PS), w ≤ R 20 → R 20 - w < n → CpAt S i w R → Fr i 5 S0 S → E sc mX0_copyOf 23 [.ref i, .ref j, .int (nI w)] [] S Q := by
  intro n
  induction n with
  | zero => intro w S hw0 hn hc hf; exact absurd hn (by omega)
  | succ n ih =>
    intro w S hw0 hn hc hf
    have h5 := hv.1
    have hr := hr0.frI hf hi hj hn0
    have hap := rI_apart hi hj hn0
    refine e_iload_n (pc := 23) (i := 2) dX0_copyOf_23 rfl rfl ?_
    refine e_aload_n (pc := 24) (i := 0) dX0_copyOf_24 rfl rfl ?_
    refine e_getI (pc := 25) dX0_copyOf_25 (fX0_24 rfl) (rI_sh hi) rfl ?_
    refine E.it (nI (R 20)) hc.1 ?_
    refine e_icmp_ge (pc := 28) (tgt := 85) dX0_copyOf_28 (by decide) (fun h28 => ?_) (fun h28 => ?_)
    · replace h28 := (nI_leI (by omega) (by omega)).mp h28
      obtain e : w = R 20 := by omega
      refine e_vret (pc := 85) (st := []) dX0_copyOf_85 rfl ?_
      exact k S (RowAt.mk hc.1 hc.2.1 (fun b u hb hu => hc.2.2.2 b u hb (by omega))) hc.2.2.1 hf
    · replace h28 := mt (nI_leI (by omega) (by omega)).mpr h28
      have hw : w < R 20 := by omega
      refine e_aload_n (pc := 31) (i := 0) dX0_copyOf_31 rfl rfl ?_
      refine e_getR (pc := 32) dX0_copyOf_32 (fX0_9 rfl) (rI_sh hi) rfl ?_
      refine e_iload_n (pc := 35) (i := 2) dX0_copyOf_35 rfl rfl ?_
      refine e_aload_n (pc := 36) (i := 1) dX0_copyOf_36 rfl rfl ?_
      refine e_getR (pc := 37) dX0_copyOf_37 (fX0_9 rfl) (rI_sh hj) rfl ?_
      refine e_iload_n (pc := 40) (i := 2) dX0_copyOf_40 rfl rfl ?_
      refine e_iald (pc := 41) dX0_copyOf_41 (rI_a1 hj) (rin hv hw) ?_
      refine E.it (nI (R (w))) (by show S.1 (j + 1) _ = _; exact rk hv hr hw) ?_
      refine e_iast (pc := 42) dX0_copyOf_42 (rI_a1 hi) (rin hv hw) ?_
      refine e_aload_n (pc := 43) (i := 0) dX0_copyOf_43 rfl rfl ?_
      refine e_getR (pc := 44) dX0_copyOf_44 (fX0_15 rfl) (rI_sh hi) rfl ?_
      refine e_iload_n (pc := 47) (i := 2) dX0_copyOf_47 rfl rfl ?_
      refine e_aload_n (pc := 48) (i := 1) dX0_copyOf_48 rfl rfl ?_
      refine e_getR (pc := 49) dX0_copyOf_49 (fX0_15 rfl) (rI_sh hj) rfl ?_
      refine e_iload_n (pc := 52) (i := 2) dX0_copyOf_52 rfl rfl ?_
      refine e_iald (pc := 53) dX0_copyOf_53 (rI_a2 hj) (rin hv hw) ?_
      refine E.it (nI (R (5 + w))) (by show (up2 S.1 _ _ _) (j + 2) _ = _; rw [up2_ne _ _ _ (by omega)]; exact rt hv hr hw) ?_
      refine e_iast (pc := 54) dX0_copyOf_54 (rI_a2 hi) (rin hv hw) ?_
      refine e_aload_n (pc := 55) (i := 0) dX0_copyOf_55 rfl rfl ?_
      refine e_getR (pc := 56) dX0_copyOf_56 (fX0_18 rfl) (rI_sh hi) rfl ?_
      refine e_iload_n (pc := 59) (i := 2) dX0_copyOf_59 rfl rfl ?_
      refine e_aload_n (pc := 60) (i := 1) dX0_copyOf_60 rfl rfl ?_
      refine e_getR (pc := 61) dX0_copyOf_61 (fX0_18 rfl) (rI_sh hj) rfl ?_
      refine e_iload_n (pc := 64) (i := 2) dX0_copyOf_64 rfl rfl ?_
      refine e_iald (pc := 65) dX0_copyOf_65 (rI_a3 hj) (rin hv hw) ?_
      refine E.it (nI (R (10 + w))) (by show (up2 (up2 S.1 _ _ _) _ _ _) (j + 3) _ = _; rw [up2_ne _ _ _ (by omega), up2_ne _ _ _ (by omega)]; exact rg hv hr hw) ?_
      refine e_iast (pc := 66) dX0_copyOf_66 (rI_a3 hi) (rin hv hw) ?_
      refine e_aload_n (pc := 67) (i := 0) dX0_copyOf_67 rfl rfl ?_
      refine e_getR (pc := 68) dX0_copyOf_68 (fX0_21 rfl) (rI_sh hi) rfl ?_
      refine e_iload_n (pc := 71) (i := 2) dX0_copyOf_71 rfl rfl ?_
      refine e_aload_n (pc := 72) (i := 1) dX0_copyOf_72 rfl rfl ?_
      refine e_getR (pc := 73) dX0_copyOf_73 (fX0_21 rfl) (rI_sh hj) rfl ?_
      refine e_iload_n (pc := 76) (i := 2) dX0_copyOf_76 rfl rfl ?_
      refine e_iald (pc := 77) dX0_copyOf_77 (rI_a4 hj) (rin hv hw) ?_
      refine E.it (nI (R (15 + w))) (by show (up2 (up2 (up2 S.1 _ _ _) _ _ _) _ _ _) (j + 4) _ = _; rw [up2_ne _ _ _ (by omega), up2_ne _ _ _ (by omega), up2_ne _ _ _ (by omega)]; exact rb hv hr hw) ?_
      refine e_iast (pc := 78) dX0_copyOf_78 (rI_a4 hi) (rin hv hw) ?_
      refine e_iinc' (pc := 79) (nI (w + 1)) dX0_copyOf_79 rfl (by decide) rfl (nI_1 _) ?_
      refine e_goto (pc := 82) (tgt := 23) dX0_copyOf_82 (by decide) ?_
      rw [rcl hv hw]
      exact ih (w + 1) _ (by omega) (by omega) (hc.step rfl rfl rfl rfl) ((((hf.up (by omega) (by omega)).up (by omega) (by omega)).up (by omega) (by omega)).up (by omega) (by omega))
theorem sp_copyOf {sc : PSc} {i j : Nat} {R : Rw} {S : PS} {Q : PQ} (hi : rI i) (hj : rI j) (hn : i ≠ j) (hv : Vd R) (hr : RowAt S j R) (k : ∀ S', RowAt S' i R → S'.1 i 2 = nI 0 → Fr i 5 S S' → Q none S') : E sc mX0_copyOf 0 (pL0 mX0_copyOf [.ref i, .ref j]) [] S Q := by
  show E sc mX0_copyOf 0 [.ref i, .ref j, .null] [] S Q
  refine e_aload_n (pc := 0) (i := 0) dX0_copyOf_0 rfl rfl ?_
  refine e_aload_n (pc := 1) (i := 1) dX0_copyOf_1 rfl rfl ?_
  refine e_getI (pc := 2) dX0_copyOf_2 (fX0_24 rfl) (rI_sh hj) rfl ?_
  refine E.it (nI (R 20)) hr.1 ?_
  refine e_putI (pc := 5) dX0_copyOf_5 (pX0_24 rfl) (rI_sh hi) rfl (fun h => by cases h) ?_
  refine e_aload_n (pc := 8) (i := 0) dX0_copyOf_8 rfl rfl ?_
  refine e_aload_n (pc := 9) (i := 1) dX0_copyOf_9 rfl rfl ?_
  refine e_getI (pc := 10) dX0_copyOf_10 (fX0_51 rfl) (rI_sh hj) rfl ?_
  refine E.it (nI (R 21)) (by show up2 _ _ _ _ j 1 = _; rw [up2_ne _ _ _ (Ne.symm hn)]; exact hr.2.1) ?_
  refine e_putI (pc := 13) dX0_copyOf_13 (pX0_51 rfl) (rI_sh hi) rfl (fun h => by cases h) ?_
  refine e_aload_n (pc := 16) (i := 0) dX0_copyOf_16 rfl rfl ?_
  refine e_iconst' (pc := 17) (nI 0) dX0_copyOf_17 (by decide) ?_
  refine e_putI (pc := 18) dX0_copyOf_18 (pX0_54 rfl) (rI_sh hi) rfl (fun h => by cases h) ?_
  refine e_iconst' (pc := 21) (nI 0) dX0_copyOf_21 (by decide) ?_
  refine e_istore_n (pc := 22) (i := 2) dX0_copyOf_22 rfl (by decide) rfl ?_
  refine lp_copyOf hi hj hn hv hr k (R 20 + 1) 0 _ (by omega) (by omega) ⟨?_, ?_, ?_, fun b u hb hu => by omega⟩ (((Fr.rf.up (by omega) (by omega)).up (by omega) (by omega)).up (by omega) (by omega))
  · show up2 (up2 (up2 _ _ _ _) _ _ _) _ _ _ i 0 = _; simp [up2]
  · show up2 (up2 (up2 _ _ _ _) _ _ _) _ _ _ i 1 = _; simp [up2]
  · show up2 (up2 (up2 _ _ _ _) _ _ _) _ _ _ i 2 = _; simp [up2]
def swR (R : Rw) (a b : Nat) : Rw := fun x => if x < 20 then (if x % 5 = a then R (x - a + b) else if x % 5 = b then R (x - b + a) else R x) else R x
theorem swR_at {R : Rw} {a b q u : Nat} (ha : a < 5) (hb : b < 5) (hq : q < 4) (hu : u < 5) : swR R a b (5 * q + u) = if u = a then R (5 * q + b) else if u = b then R (5 * q + a) else R (5 * q + u) := by
  unfold swR
  rw [if_pos (by omega), show (5 * q + u) % 5 = u by omega]
  by_cases h1 : u = a
  · rw [if_pos h1, if_pos h1, show 5 * q + u - a + b = 5 * q + b by omega]
  · rw [if_neg h1, if_neg h1]
    by_cases h2 : u = b
    · rw [if_pos h2, if_pos h2, show 5 * q + u - b + a = 5 * q + a by omega]
    · rw [if_neg h2, if_neg h2]
theorem swR_big {R : Rw} {a b x : Nat} (h : 20 ≤ x) : swR R a b x = R x := if_neg (by omega)
theorem sw_vd {R : Rw} {a b : Nat} (hv : Vd R) (ha : a < R 20) (hb : b < R 20) : Vd (swR R a b) := by
  have h5 := hv.1
  refine ⟨by rw [swR_big (by omega)]; exact h5, fun w hw => ?_⟩
  rw [swR_big (by omega)] at hw
  have e0 := swR_at (R := R) (a := a) (b := b) (q := 0) (u := w) (by omega) (by omega) (by omega) (by omega)
  have e1 := swR_at (R := R) (a := a) (b := b) (q := 1) (u := w) (by omega) (by omega) (by omega) (by omega)
  have e2 := swR_at (R := R) (a := a) (b := b) (q := 2) (u := w) (by omega) (by omega) (by omega) (by omega)
  have e3 := swR_at (R := R) (a := a) (b := b) (q := 3) (u := w) (by omega) (by omega) (by omega) (by omega)
  simp at e0 e1 e2 e3
  rw [e0, e1, e2, e3]
  by_cases h1 : w = a
  · simp only [if_pos h1]; exact hv.2 b hb
  · by_cases h2 : w = b
    · simp only [if_neg h1, if_pos h2]; exact hv.2 a ha
    · simp only [if_neg h1, if_neg h2]; exact hv.2 w hw
theorem sp_exchangeIn {sc : PSc} {c a b : Nat} {S : PS} {Q : PQ} (hs : shps[c]? = some (.inr (.inl (0, 5)))) (ha : a < 5) (hb : b < 5) (k : ∀ S' : PS, S'.2 = S.2 → (∀ j, j ≠ c → S'.1 j = S.1 j) → (∀ u, S'.1 c u = if u = b then S.1 c a else if u = a then S.1 c b else S.1 c u) → Q none S') : E sc mX0_exchangeIn 0 (pL0 mX0_exchangeIn [.ref c, .int (nI a), .int (nI b)]) [] S Q := by
  show E sc mX0_exchangeIn 0 [.ref c, .int (nI a), .int (nI b), .null] [] S Q
  have ea : (nI a).toNatClampNeg = a := nI_clamp (by omega)
  have eb : (nI b).toNatClampNeg = b := nI_clamp (by omega)
  refine e_aload_n (pc := 0) (i := 0) dX0_exchangeIn_0 rfl rfl ?_
  refine e_iload_n (pc := 1) (i := 1) dX0_exchangeIn_1 rfl rfl ?_
  refine e_iald (pc := 2) dX0_exchangeIn_2 hs (vp_in_nI ha (by decide)) ?_
  refine E.it (S.1 c a) (by rw [ea]) ?_
  refine e_istore_n (pc := 3) (i := 3) dX0_exchangeIn_3 rfl (by decide) rfl ?_
  refine e_aload_n (pc := 4) (i := 0) dX0_exchangeIn_4 rfl rfl ?_
  refine e_iload_n (pc := 5) (i := 1) dX0_exchangeIn_5 rfl rfl ?_
  refine e_aload_n (pc := 6) (i := 0) dX0_exchangeIn_6 rfl rfl ?_
  refine e_iload_n (pc := 7) (i := 2) dX0_exchangeIn_7 rfl rfl ?_
  refine e_iald (pc := 8) dX0_exchangeIn_8 hs (vp_in_nI hb (by decide)) ?_
  refine E.it (S.1 c b) (by rw [eb]) ?_
  refine e_iast (pc := 9) dX0_exchangeIn_9 hs (vp_in_nI ha (by decide)) ?_
  refine e_aload_n (pc := 10) (i := 0) dX0_exchangeIn_10 rfl rfl ?_
  refine e_iload_n (pc := 11) (i := 2) dX0_exchangeIn_11 rfl rfl ?_
  refine e_iload_n (pc := 12) (i := 3) dX0_exchangeIn_12 rfl rfl ?_
  refine e_iast (pc := 13) dX0_exchangeIn_13 hs (vp_in_nI hb (by decide)) ?_
  refine e_vret (pc := 14) (st := []) dX0_exchangeIn_14 rfl ?_
  rw [ea, eb]
  refine k _ rfl (fun j hj => ?_) (fun u => ?_)
  · show up2 (up2 S.1 _ _ _) _ _ _ j = _; rw [up2_ne _ _ _ hj, up2_ne _ _ _ hj]
  · show up2 (up2 S.1 _ _ _) _ _ _ c u = _; rw [up2_at, up2_at]
theorem sp_exchange {sc : PSc} {i : Nat} {R : Rw} {S : PS} {Q : PQ} {a b : Nat} (hi : rI i) (hv : Vd R) (hr : RowAt S i R) (ha : a < R 20) (hb : b < R 20) (k : ∀ S', RowAt S' i (swR R a b) → S'.1 i 2 = S.1 i 2 → Fr i 5 S S' → Q none S') : E sc mX0_exchange 0 (pL0 mX0_exchange [.ref i, .int (nI a), .int (nI b)]) [] S Q := by
  show E sc mX0_exchange 0 [.ref i, .int (nI a), .int (nI b)] [] S Q
  have h5 := hv.1
  refine e_aload_n (pc := 0) (i := 0) dX0_exchange_0 rfl rfl ?_
  refine e_getR (pc := 1) dX0_exchange_1 (fX0_9 rfl) (rI_sh hi) rfl ?_
  refine e_iload_n (pc := 4) (i := 1) dX0_exchange_4 rfl rfl ?_
  refine e_iload_n (pc := 5) (i := 2) dX0_exchange_5 rfl rfl ?_
  refine e_callS3 (pc := 6) (M' := mX0_exchangeIn) dX0_exchange_6 jX0_exchangeIn lkX0_57 (by decide) (Nat.le_of_ble_eq_true rfl) (Nat.le_of_ble_eq_true rfl) ?_
  refine sp_exchangeIn (rI_a1 hi) (by omega) (by omega) (fun S1 j1 f1 e1 => ?_)
  refine e_aload_n (pc := 9) (i := 0) dX0_exchange_9 rfl rfl ?_
  refine e_getR (pc := 10) dX0_exchange_10 (fX0_15 rfl) (rI_sh hi) rfl ?_
  refine e_iload_n (pc := 13) (i := 1) dX0_exchange_13 rfl rfl ?_
  refine e_iload_n (pc := 14) (i := 2) dX0_exchange_14 rfl rfl ?_
  refine e_callS3 (pc := 15) (M' := mX0_exchangeIn) dX0_exchange_15 jX0_exchangeIn lkX0_57 (by decide) (Nat.le_of_ble_eq_true rfl) (Nat.le_of_ble_eq_true rfl) ?_
  refine sp_exchangeIn (rI_a2 hi) (by omega) (by omega) (fun S2 j2 f2 e2 => ?_)
  refine e_aload_n (pc := 18) (i := 0) dX0_exchange_18 rfl rfl ?_
  refine e_getR (pc := 19) dX0_exchange_19 (fX0_18 rfl) (rI_sh hi) rfl ?_
  refine e_iload_n (pc := 22) (i := 1) dX0_exchange_22 rfl rfl ?_
  refine e_iload_n (pc := 23) (i := 2) dX0_exchange_23 rfl rfl ?_
  refine e_callS3 (pc := 24) (M' := mX0_exchangeIn) dX0_exchange_24 jX0_exchangeIn lkX0_57 (by decide) (Nat.le_of_ble_eq_true rfl) (Nat.le_of_ble_eq_true rfl) ?_
  refine sp_exchangeIn (rI_a3 hi) (by omega) (by omega) (fun S3 j3 f3 e3 => ?_)
  refine e_aload_n (pc := 27) (i := 0) dX0_exchange_27 rfl rfl ?_
  refine e_getR (pc := 28) dX0_exchange_28 (fX0_21 rfl) (rI_sh hi) rfl ?_
  refine e_iload_n (pc := 31) (i := 1) dX0_exchange_31 rfl rfl ?_
  refine e_iload_n (pc := 32) (i := 2) dX0_exchange_32 rfl rfl ?_
  refine e_callS3 (pc := 33) (M' := mX0_exchangeIn) dX0_exchange_33 jX0_exchangeIn lkX0_57 (by decide) (Nat.le_of_ble_eq_true rfl) (Nat.le_of_ble_eq_true rfl) ?_
  refine sp_exchangeIn (rI_a4 hi) (by omega) (by omega) (fun S4 j4 f4 e4 => ?_)
  refine e_vret (pc := 36) (st := []) dX0_exchange_36 rfl ?_
  have hgen : ∀ q u, q < 4 → S4.1 (i + 1 + q) u = if u = b then S.1 (i + 1 + q) a else if u = a then S.1 (i + 1 + q) b else S.1 (i + 1 + q) u := by
    intro q u hq
    rcases (show q = 0 ∨ q = 1 ∨ q = 2 ∨ q = 3 by omega) with rfl | rfl | rfl | rfl
    · rw [f4 _ (by omega), f3 _ (by omega), f2 _ (by omega)]; exact e1 u
    · rw [f4 _ (by omega), f3 _ (by omega)]; rw [← f1 (i + 2) (by omega)]; exact e2 u
    · rw [f4 _ (by omega)]; rw [← f1 (i + 3) (by omega), ← f2 (i + 3) (by omega)]; exact e3 u
    · rw [← f1 (i + 4) (by omega), ← f2 (i + 4) (by omega), ← f3 (i + 4) (by omega)]; exact e4 u
  have hk : ∀ j, (j < i + 1 ∨ i + 5 ≤ j) → S4.1 j = S.1 j := fun j hj => by rw [f4 _ (by omega), f3 _ (by omega), f2 _ (by omega), f1 _ (by omega)]
  refine k S4 ?_ (by rw [hk i (by omega)]) ⟨by rw [j4, j3, j2, j1], fun j hj => hk j (by omega)⟩
  refine RowAt.mk ?_ ?_ (fun q u hq hu => ?_)
  · rw [swR_big (by omega), hk i (by omega)]; exact hr.1
  · rw [swR_big (by omega), hk i (by omega)]; exact hr.2.1
  · rw [swR_big (by omega)] at hu
    rw [hgen q u hq, swR_at (by omega) (by omega) hq (by omega)]
    by_cases h1 : u = b
    · rw [if_pos h1, hr.get hq ha]
      by_cases h2 : u = a
      · rw [if_pos h2, ← h1, h2]
      · rw [if_neg h2, if_pos h1]
    · rw [if_neg h1]
      by_cases h2 : u = a
      · rw [if_pos h2, if_pos h2, hr.get hq hb]
      · rw [if_neg h2, if_neg h2, if_neg h1, hr.get hq hu]
def cb (R : Rw) : Nat → Nat
  | 0 => 0
  | k + 1 => if cy R k then cb R k ||| 2 ^ k else cb R k
def ts (R : Rw) : Nat → Nat
  | 0 => 0
  | k + 1 => ts R k + R (5 + k)
def bs (R : Rw) : Nat → Nat
  | 0 => 0
  | k + 1 => if R (15 + k) = 12 then bs R k else bs R k + 1
theorem rdk_zero {R : Rw} (hv : Vd R) : ∀ k, k ≤ R 20 → (rdk R k = 0 ↔ ∀ w, w < k → R (10 + w) = 0)
  | 0, _ => ⟨fun _ w hw => by omega, fun _ => rfl⟩
  | k + 1, hk => by
    have ih := rdk_zero hv k (by omega)
    have hp := (wt_pos hv k (by omega)).1
    rw [rdk]
    constructor
    · intro h w hw
      have h1 : rdk R k = 0 := by omega
      have h2 : wt R k * R (10 + k) = 0 := by omega
      by_cases e : w = k
      · subst e
        rcases Nat.mul_eq_zero.mp h2 with q | q
        · omega
        · exact q
      · exact ih.mp h1 w (by omega)
    · intro h
      rw [ih.mpr (fun w hw => h w (by omega)), h k (by omega)]
      simp
theorem rdk_inj {R R2 : Rw} (hv : Vd R) (hv2 : Vd R2) (hs : R2 20 = R 20) (ht : ∀ w, w < R 20 → R2 (5 + w) = R (5 + w)) : ∀ k, k ≤ R 20 → wt R2 k = wt R k ∧ (rdk R2 k = rdk R k ↔ ∀ w, w < k → R2 (10 + w) = R (10 + w))
  | 0, _ => ⟨rfl, fun _ w hw => by omega, fun _ => rfl⟩
  | k + 1, hk => by
    obtain ⟨hw, ih⟩ := rdk_inj hv hv2 hs ht k (by omega)
    have hp := (wt_pos hv k (by omega)).1
    have l1 := rdk_lt hv k (by omega)
    have l2 := rdk_lt hv2 k (by omega)
    refine ⟨by rw [wt, wt, hw, ht k (by omega)], ?_⟩
    rw [rdk, rdk, hw]
    rw [hw] at l2
    constructor
    · intro h
      have e1 : (rdk R2 k + wt R k * R2 (10 + k)) % wt R k = (rdk R k + wt R k * R (10 + k)) % wt R k := by rw [h]
      rw [Nat.add_mul_mod_self_left, Nat.add_mul_mod_self_left, Nat.mod_eq_of_lt l1, Nat.mod_eq_of_lt l2] at e1
      have e2 : wt R k * R2 (10 + k) = wt R k * R (10 + k) := by omega
      have e3 := Nat.eq_of_mul_eq_mul_left hp e2
      intro w hw2
      by_cases e : w = k
      · subst e; exact e3
      · exact ih.mp e1 w (by omega)
    · intro h
      rw [ih.mpr (fun w hw => h w (by omega)), h k (by omega)]
theorem lp_teethInAll {sc : PSc} {i : Nat} {R : Rw} {S : PS} {Q : PQ} (hi : rI i) (hv : Vd R) (hr : RowAt S i R) (k : Q (some (.int (nI (ts R (R 20))))) S) : ∀ (n : Nat) (j : Nat), j ≤ R 20 → R 20 - j < n → E sc mX0_teethInAll 4 [.ref i, .int (nI (ts R j)), .int (nI j)] [] S Q := by
  intro n
  induction n with
  | zero => intro j hj hn; exact absurd hn (by omega)
  | succ n ih =>
    intro j hj hn
    have h5 := hv.1
    refine e_iload_n (pc := 4) (i := 2) dX0_teethInAll_4 rfl rfl ?_
    refine e_aload_n (pc := 5) (i := 0) dX0_teethInAll_5 rfl rfl ?_
    refine e_getI (pc := 6) dX0_teethInAll_6 (fX0_24 rfl) (rI_sh hi) rfl ?_
    refine E.it (nI (R 20)) hr.1 ?_
    refine e_icmp_ge (pc := 9) (tgt := 27) dX0_teethInAll_9 (by decide) (fun h9 => ?_) (fun h9 => ?_)
    · replace h9 := (nI_leI (by omega) (by omega)).mp h9
      obtain e : j = R 20 := by omega
      refine e_iload_n (pc := 27) (i := 1) dX0_teethInAll_27 rfl rfl ?_
      refine e_iret (pc := 28) (st := []) (ty := .int) dX0_teethInAll_28 rfl rfl ?_
      exact qeq k (by rw [e])
    · replace h9 := mt (nI_leI (by omega) (by omega)).mpr h9
      have hw : j < R 20 := by omega
      have hvw := hv.2 j hw
      refine e_iload_n (pc := 12) (i := 1) dX0_teethInAll_12 rfl rfl ?_
      refine e_aload_n (pc := 13) (i := 0) dX0_teethInAll_13 rfl rfl ?_
      refine e_getR (pc := 14) dX0_teethInAll_14 (fX0_15 rfl) (rI_sh hi) rfl ?_
      refine e_iload_n (pc := 17) (i := 2) dX0_teethInAll_17 rfl rfl ?_
      refine e_iald (pc := 18) dX0_teethInAll_18 (rI_a2 hi) (rin hv hw) ?_
      refine E.it (nI (R (5 + j))) (rt hv hr hw) ?_
      refine e_iadd (pc := 19) dX0_teethInAll_19 ?_
      refine E.it (nI (ts R (j + 1))) (nI_add _ _) ?_
      refine e_istore_n (pc := 20) (i := 1) dX0_teethInAll_20 rfl (by decide) rfl ?_
      refine e_iinc' (pc := 21) (nI (j + 1)) dX0_teethInAll_21 rfl (by decide) rfl (nI_1 _) ?_
      refine e_goto (pc := 24) (tgt := 4) dX0_teethInAll_24 (by decide) ?_
      exact ih (j + 1) (by omega) (by omega)
theorem sp_teethInAll {sc : PSc} {i : Nat} {R : Rw} {S : PS} {Q : PQ} (hi : rI i) (hv : Vd R) (hr : RowAt S i R) (k : Q (some (.int (nI (ts R (R 20))))) S) : E sc mX0_teethInAll 0 (pL0 mX0_teethInAll [.ref i]) [] S Q := by
  show E sc mX0_teethInAll 0 [.ref i, .null, .null] [] S Q
  refine e_iconst' (pc := 0) (nI 0) dX0_teethInAll_0 (by decide) ?_
  refine e_istore_n (pc := 1) (i := 1) dX0_teethInAll_1 rfl (by decide) rfl ?_
  refine e_iconst' (pc := 2) (nI 0) dX0_teethInAll_2 (by decide) ?_
  refine e_istore_n (pc := 3) (i := 2) dX0_teethInAll_3 rfl (by decide) rfl ?_
  exact lp_teethInAll hi hv hr k (R 20 + 1) 0 (by omega) (by omega)
theorem lp_brokenInAll {sc : PSc} {i : Nat} {R : Rw} {S : PS} {Q : PQ} (hi : rI i) (hv : Vd R) (hr : RowAt S i R) (k : Q (some (.int (nI (bs R (R 20))))) S) : ∀ (n : Nat) (j : Nat), j ≤ R 20 → R 20 - j < n → E sc mX0_brokenInAll 4 [.ref i, .int (nI (bs R j)), .int (nI j)] [] S Q := by
  intro n
  induction n with
  | zero => intro j hj hn; exact absurd hn (by omega)
  | succ n ih =>
    intro j hj hn
    have h5 := hv.1
    refine e_iload_n (pc := 4) (i := 2) dX0_brokenInAll_4 rfl rfl ?_
    refine e_aload_n (pc := 5) (i := 0) dX0_brokenInAll_5 rfl rfl ?_
    refine e_getI (pc := 6) dX0_brokenInAll_6 (fX0_24 rfl) (rI_sh hi) rfl ?_
    refine E.it (nI (R 20)) hr.1 ?_
    refine e_icmp_ge (pc := 9) (tgt := 32) dX0_brokenInAll_9 (by decide) (fun h9 => ?_) (fun h9 => ?_)
    · replace h9 := (nI_leI (by omega) (by omega)).mp h9
      obtain e : j = R 20 := by omega
      refine e_iload_n (pc := 32) (i := 1) dX0_brokenInAll_32 rfl rfl ?_
      refine e_iret (pc := 33) (st := []) (ty := .int) dX0_brokenInAll_33 rfl rfl ?_
      exact qeq k (by rw [e])
    · replace h9 := mt (nI_leI (by omega) (by omega)).mpr h9
      have hw : j < R 20 := by omega
      have hvw := hv.2 j hw
      refine e_aload_n (pc := 12) (i := 0) dX0_brokenInAll_12 rfl rfl ?_
      refine e_getR (pc := 13) dX0_brokenInAll_13 (fX0_21 rfl) (rI_sh hi) rfl ?_
      refine e_iload_n (pc := 16) (i := 2) dX0_brokenInAll_16 rfl rfl ?_
      refine e_iald (pc := 17) dX0_brokenInAll_17 (rI_a4 hi) (rin hv hw) ?_
      refine E.it (nI (R (15 + j))) (rb hv hr hw) ?_
      refine e_bipush' (pc := 18) (nI 12) dX0_brokenInAll_18 (by decide) ?_
      refine e_icmp_eq (pc := 20) (tgt := 26) dX0_brokenInAll_20 (by decide) (fun h20 => ?_) (fun h20 => ?_)
      · replace h20 := (nI_eq (by omega) (by omega)).mp h20
        refine e_iinc' (pc := 26) (nI (j + 1)) dX0_brokenInAll_26 rfl (by decide) rfl (nI_1 _) ?_
        refine e_goto (pc := 29) (tgt := 4) dX0_brokenInAll_29 (by decide) ?_
        have := ih (j + 1) (by omega) (by omega)
        first
          | (rw [bs, if_pos h20] at this; exact this)
          | (rw [bs, if_neg h20] at this; exact this)
      · replace h20 := mt (nI_eq (by omega) (by omega)).mpr h20
        refine e_iinc' (pc := 23) (nI (bs R j + 1)) dX0_brokenInAll_23 rfl (by decide) rfl (nI_1 _) ?_
        refine e_iinc' (pc := 26) (nI (j + 1)) dX0_brokenInAll_26 rfl (by decide) rfl (nI_1 _) ?_
        refine e_goto (pc := 29) (tgt := 4) dX0_brokenInAll_29 (by decide) ?_
        have := ih (j + 1) (by omega) (by omega)
        first
          | (rw [bs, if_pos h20] at this; exact this)
          | (rw [bs, if_neg h20] at this; exact this)
theorem sp_brokenInAll {sc : PSc} {i : Nat} {R : Rw} {S : PS} {Q : PQ} (hi : rI i) (hv : Vd R) (hr : RowAt S i R) (k : Q (some (.int (nI (bs R (R 20))))) S) : E sc mX0_brokenInAll 0 (pL0 mX0_brokenInAll [.ref i]) [] S Q := by
  show E sc mX0_brokenInAll 0 [.ref i, .null, .null] [] S Q
  refine e_iconst' (pc := 0) (nI 0) dX0_brokenInAll_0 (by decide) ?_
  refine e_istore_n (pc := 1) (i := 1) dX0_brokenInAll_1 rfl (by decide) rfl ?_
  refine e_iconst' (pc := 2) (nI 0) dX0_brokenInAll_2 (by decide) ?_
  refine e_istore_n (pc := 3) (i := 2) dX0_brokenInAll_3 rfl (by decide) rfl ?_
  exact lp_brokenInAll hi hv hr k (R 20 + 1) 0 (by omega) (by omega)
theorem lp_carrying {sc : PSc} {i : Nat} {R : Rw} {S : PS} {Q : PQ} (hi : rI i) (hv : Vd R) (hr : RowAt S i R) (k : Q (some (.int (nI (cb R (R 20))))) S) : ∀ (n : Nat) (j : Nat), j ≤ R 20 → R 20 - j < n → E sc mX0_carrying 4 [.ref i, .int (nI (cb R j)), .int (nI j)] [] S Q := by
  intro n
  induction n with
  | zero => intro j hj hn; exact absurd hn (by omega)
  | succ n ih =>
    intro j hj hn
    have h5 := hv.1
    refine e_iload_n (pc := 4) (i := 2) dX0_carrying_4 rfl rfl ?_
    refine e_aload_n (pc := 5) (i := 0) dX0_carrying_5 rfl rfl ?_
    refine e_getI (pc := 6) dX0_carrying_6 (fX0_24 rfl) (rI_sh hi) rfl ?_
    refine E.it (nI (R 20)) hr.1 ?_
    refine e_icmp_ge (pc := 9) (tgt := 32) dX0_carrying_9 (by decide) (fun h9 => ?_) (fun h9 => ?_)
    · replace h9 := (nI_leI (by omega) (by omega)).mp h9
      obtain e : j = R 20 := by omega
      refine e_iload_n (pc := 32) (i := 1) dX0_carrying_32 rfl rfl ?_
      refine e_iret (pc := 33) (st := []) (ty := .int) dX0_carrying_33 rfl rfl ?_
      exact qeq k (by rw [e])
    · replace h9 := mt (nI_leI (by omega) (by omega)).mpr h9
      have hw : j < R 20 := by omega
      have hvw := hv.2 j hw
      refine e_aload_n (pc := 12) (i := 0) dX0_carrying_12 rfl rfl ?_
      refine e_iload_n (pc := 13) (i := 2) dX0_carrying_13 rfl rfl ?_
      refine e_callV1 (pc := 14) (M' := mX0_wouldCarry) dX0_carrying_14 iX0_wouldCarry lkX0_61 (by decide) (rI_r hi) (Nat.le_of_ble_eq_true rfl) (Nat.le_of_ble_eq_true rfl) ?_
      refine sp_wouldCarry hi hv hr hw ?_
      have hih := ih (j + 1) (by omega) (by omega)
      cases hc : cy R j
      · rw [cb, hc] at hih
        refine e_if_eq (pc := 17) (tgt := 26) dX0_carrying_17 (by decide) (fun h17 => ?_) (fun h17 => absurd (by decide) h17)
        refine e_iinc' (pc := 26) (nI (j + 1)) dX0_carrying_26 rfl (by decide) rfl (nI_1 _) ?_
        refine e_goto (pc := 29) (tgt := 4) dX0_carrying_29 (by decide) ?_
        exact hih
      · rw [cb, hc] at hih
        refine e_if_eq (pc := 17) (tgt := 26) dX0_carrying_17 (by decide) (fun h17 => absurd h17 (by decide)) (fun h17 => ?_)
        refine e_iload_n (pc := 20) (i := 1) dX0_carrying_20 rfl rfl ?_
        refine e_iconst' (pc := 21) (nI 1) dX0_carrying_21 (by decide) ?_
        refine e_iload_n (pc := 22) (i := 2) dX0_carrying_22 rfl rfl ?_
        refine e_ishl (pc := 23) dX0_carrying_23 ?_
        refine E.it (nI (2 ^ j)) (sh1 j (by omega)) ?_
        refine e_ior (pc := 24) dX0_carrying_24 ?_
        refine E.it (nI (cb R j ||| 2 ^ j)) (fa_or _ _) ?_
        refine e_istore_n (pc := 25) (i := 1) dX0_carrying_25 rfl (by decide) rfl ?_
        refine e_iinc' (pc := 26) (nI (j + 1)) dX0_carrying_26 rfl (by decide) rfl (nI_1 _) ?_
        refine e_goto (pc := 29) (tgt := 4) dX0_carrying_29 (by decide) ?_
        exact hih
theorem sp_carrying {sc : PSc} {i : Nat} {R : Rw} {S : PS} {Q : PQ} (hi : rI i) (hv : Vd R) (hr : RowAt S i R) (k : Q (some (.int (nI (cb R (R 20))))) S) : E sc mX0_carrying 0 (pL0 mX0_carrying [.ref i]) [] S Q := by
  show E sc mX0_carrying 0 [.ref i, .null, .null] [] S Q
  refine e_iconst' (pc := 0) (nI 0) dX0_carrying_0 (by decide) ?_
  refine e_istore_n (pc := 1) (i := 1) dX0_carrying_1 rfl (by decide) rfl ?_
  refine e_iconst' (pc := 2) (nI 0) dX0_carrying_2 (by decide) ?_
  refine e_istore_n (pc := 3) (i := 2) dX0_carrying_3 rfl (by decide) rfl ?_
  exact lp_carrying hi hv hr k (R 20 + 1) 0 (by omega) (by omega)
theorem i1_of {P : Prop} (h : P) {d : Decidable P} : nI (@ite Nat P d 1 0) = nI 1 := by rw [if_pos h]
theorem i0_of {P : Prop} (h : ¬ P) {d : Decidable P} : nI (@ite Nat P d 1 0) = nI 0 := by rw [if_neg h]
theorem lp_isAllZero {sc : PSc} {i : Nat} {R : Rw} {S : PS} {Q : PQ} (hi : rI i) (hv : Vd R) (hr : RowAt S i R) (k : Q (some (.int (nI (if reads R = 0 then 1 else 0)))) S) : ∀ (n : Nat) (j : Nat), j ≤ R 20 → R 20 - j < n → (∀ w, w < j → R (10 + w) = 0) → E sc mX0_isAllZero 2 [.ref i, .int (nI j)] [] S Q := by
  intro n
  induction n with
  | zero => intro j hj hn hz; exact absurd hn (by omega)
  | succ n ih =>
    intro j hj hn hz
    have h5 := hv.1
    refine e_iload_n (pc := 2) (i := 1) dX0_isAllZero_2 rfl rfl ?_
    refine e_aload_n (pc := 3) (i := 0) dX0_isAllZero_3 rfl rfl ?_
    refine e_getI (pc := 4) dX0_isAllZero_4 (fX0_24 rfl) (rI_sh hi) rfl ?_
    refine E.it (nI (R 20)) hr.1 ?_
    refine e_icmp_ge (pc := 7) (tgt := 27) dX0_isAllZero_7 (by decide) (fun h7 => ?_) (fun h7 => ?_)
    · replace h7 := (nI_leI (by omega) (by omega)).mp h7
      obtain e : j = R 20 := by omega
      refine e_iconst' (pc := 27) (nI 1) dX0_isAllZero_27 (by decide) ?_
      refine e_iret (pc := 28) (st := []) (ty := .boolean) dX0_isAllZero_28 rfl rfl ?_
      exact qeq k (i1_of ((rdk_zero hv _ (Nat.le_refl _)).mpr (fun w hw => hz w (by omega)))).symm
    · replace h7 := mt (nI_leI (by omega) (by omega)).mpr h7
      have hw : j < R 20 := by omega
      have hvw := hv.2 j hw
      refine e_aload_n (pc := 10) (i := 0) dX0_isAllZero_10 rfl rfl ?_
      refine e_getR (pc := 11) dX0_isAllZero_11 (fX0_18 rfl) (rI_sh hi) rfl ?_
      refine e_iload_n (pc := 14) (i := 1) dX0_isAllZero_14 rfl rfl ?_
      refine e_iald (pc := 15) dX0_isAllZero_15 (rI_a3 hi) (rin hv hw) ?_
      refine E.it (nI (R (10 + j))) (rg hv hr hw) ?_
      refine e_if_eq (pc := 16) (tgt := 21) dX0_isAllZero_16 (by decide) (fun h16 => ?_) (fun h16 => ?_)
      · replace h16 := (nI_eq (by have := hv.2 j hw; omega) (by omega)).mp (h16.trans nI_0.symm)
        refine e_iinc' (pc := 21) (nI (j + 1)) dX0_isAllZero_21 rfl (by decide) rfl (nI_1 _) ?_
        refine e_goto (pc := 24) (tgt := 2) dX0_isAllZero_24 (by decide) ?_
        exact ih (j + 1) (by omega) (by omega) (fun w hw2 => by by_cases e : w = j; (subst e; exact h16); exact hz w (by omega))
      · replace h16 : ¬ R (10 + j) = 0 := fun q => h16 (by rw [q]; exact nI_0)
        refine e_iconst' (pc := 19) (nI 0) dX0_isAllZero_19 (by decide) ?_
        refine e_iret (pc := 20) (st := []) (ty := .boolean) dX0_isAllZero_20 rfl rfl ?_
        exact qeq k (i0_of (fun q => h16 ((rdk_zero hv _ (Nat.le_refl _)).mp q j hw))).symm
theorem sp_isAllZero {sc : PSc} {i : Nat} {R : Rw} {S : PS} {Q : PQ} (hi : rI i) (hv : Vd R) (hr : RowAt S i R) (k : Q (some (.int (nI (if reads R = 0 then 1 else 0)))) S) : E sc mX0_isAllZero 0 (pL0 mX0_isAllZero [.ref i]) [] S Q := by
  show E sc mX0_isAllZero 0 [.ref i, .null] [] S Q
  refine e_iconst' (pc := 0) (nI 0) dX0_isAllZero_0 (by decide) ?_
  refine e_istore_n (pc := 1) (i := 1) dX0_isAllZero_1 rfl (by decide) rfl ?_
  exact lp_isAllZero hi hv hr k (R 20 + 1) 0 (by omega) (by omega) (fun w hw => by omega)
theorem lp_showsAs {sc : PSc} {i j : Nat} {R R2 : Rw} {S : PS} {Q : PQ} (hi : rI i) (hj : rI j) (hv : Vd R) (hr : RowAt S i R) (hv2 : Vd R2) (hr2 : RowAt S j R2) (hs : R2 20 = R 20) (ht : ∀ w, w < R 20 → R2 (5 + w) = R (5 + w)) (k : Q (some (.int (nI (if reads R = reads R2 then 1 else 0)))) S) : ∀ (n : Nat) (u : Nat), u ≤ R 20 → R 20 - u < n → (∀ w, w < u → R (10 + w) = R2 (10 + w)) → E sc mX0_showsAs 2 [.ref i, .ref j, .int (nI u)] [] S Q := by
  intro n
  induction n with
  | zero => intro u hu hn hz; exact absurd hn (by omega)
  | succ n ih =>
    intro u hu hn hz
    have h5 := hv.1
    have hin := (rdk_inj hv hv2 hs ht (R 20) (Nat.le_refl _)).2
    have er : reads R2 = rdk R2 (R 20) := by rw [reads, hs]
    refine e_iload_n (pc := 2) (i := 2) dX0_showsAs_2 rfl rfl ?_
    refine e_aload_n (pc := 3) (i := 0) dX0_showsAs_3 rfl rfl ?_
    refine e_getI (pc := 4) dX0_showsAs_4 (fX0_24 rfl) (rI_sh hi) rfl ?_
    refine E.it (nI (R 20)) hr.1 ?_
    refine e_icmp_ge (pc := 7) (tgt := 33) dX0_showsAs_7 (by decide) (fun h7 => ?_) (fun h7 => ?_)
    · replace h7 := (nI_leI (by omega) (by omega)).mp h7
      obtain e : u = R 20 := by omega
      refine e_iconst' (pc := 33) (nI 1) dX0_showsAs_33 (by decide) ?_
      refine e_iret (pc := 34) (st := []) (ty := .boolean) dX0_showsAs_34 rfl rfl ?_
      exact qeq k (i1_of (by rw [er]; exact (hin.mpr (fun w hw => (hz w (by omega)).symm)).symm)).symm
    · replace h7 := mt (nI_leI (by omega) (by omega)).mpr h7
      have hw : u < R 20 := by omega
      have hw2 : u < R2 20 := by omega
      have b1 := (hv.2 u hw).2.2
      have b2 := (hv2.2 u hw2).2.2
      refine e_aload_n (pc := 10) (i := 0) dX0_showsAs_10 rfl rfl ?_
      refine e_getR (pc := 11) dX0_showsAs_11 (fX0_18 rfl) (rI_sh hi) rfl ?_
      refine e_iload_n (pc := 14) (i := 2) dX0_showsAs_14 rfl rfl ?_
      refine e_iald (pc := 15) dX0_showsAs_15 (rI_a3 hi) (rin hv hw) ?_
      refine E.it (nI (R (10 + u))) (rg hv hr hw) ?_
      refine e_aload_n (pc := 16) (i := 1) dX0_showsAs_16 rfl rfl ?_
      refine e_getR (pc := 17) dX0_showsAs_17 (fX0_18 rfl) (rI_sh hj) rfl ?_
      refine e_iload_n (pc := 20) (i := 2) dX0_showsAs_20 rfl rfl ?_
      refine e_iald (pc := 21) dX0_showsAs_21 (rI_a3 hj) (rin hv hw) ?_
      refine E.it (nI (R2 (10 + u))) (rg hv2 hr2 hw2) ?_
      refine e_icmp_eq (pc := 22) (tgt := 27) dX0_showsAs_22 (by decide) (fun h22 => ?_) (fun h22 => ?_)
      · replace h22 := (nI_eq (by omega) (by omega)).mp h22
        refine e_iinc' (pc := 27) (nI (u + 1)) dX0_showsAs_27 rfl (by decide) rfl (nI_1 _) ?_
        refine e_goto (pc := 30) (tgt := 2) dX0_showsAs_30 (by decide) ?_
        exact ih (u + 1) (by omega) (by omega) (fun w hw3 => by by_cases e : w = u; (subst e; exact h22); exact hz w (by omega))
      · replace h22 := mt (nI_eq (by omega) (by omega)).mpr h22
        refine e_iconst' (pc := 25) (nI 0) dX0_showsAs_25 (by decide) ?_
        refine e_iret (pc := 26) (st := []) (ty := .boolean) dX0_showsAs_26 rfl rfl ?_
        exact qeq k (i0_of (fun q => h22 (hin.mp (by rw [← er, ← q]; rfl) u hw).symm)).symm
theorem sp_showsAs {sc : PSc} {i j : Nat} {R R2 : Rw} {S : PS} {Q : PQ} (hi : rI i) (hj : rI j) (hv : Vd R) (hr : RowAt S i R) (hv2 : Vd R2) (hr2 : RowAt S j R2) (hs : R2 20 = R 20) (ht : ∀ w, w < R 20 → R2 (5 + w) = R (5 + w)) (k : Q (some (.int (nI (if reads R = reads R2 then 1 else 0)))) S) : E sc mX0_showsAs 0 (pL0 mX0_showsAs [.ref i, .ref j]) [] S Q := by
  show E sc mX0_showsAs 0 [.ref i, .ref j, .null] [] S Q
  refine e_iconst' (pc := 0) (nI 0) dX0_showsAs_0 (by decide) ?_
  refine e_istore_n (pc := 1) (i := 2) dX0_showsAs_1 rfl (by decide) rfl ?_
  exact lp_showsAs hi hj hv hr hv2 hr2 hs ht k (R 20 + 1) 0 (by omega) (by omega) (fun w hw => by omega)

/-- all but the wheels, the count, the latest tear is as it was -/
def Rst2 (S S' : PS) : Prop := (∀ j, (11 ≤ j ∧ j ≤ 37 ∧ j ≠ 25) → S'.1 j = S.1 j) ∧ (∀ k, (k = 4 ∨ k = 18) → S'.1 54 k = S.1 54 k) ∧ (∀ k, 22 ≤ k → k < 66 → S'.1 55 k = S.1 55 k) ∧ (∀ j, ((57 ≤ j ∧ j ≤ 60) ∨ (62 ≤ j ∧ j ≤ 65)) → S'.1 j = S.1 j)
theorem Rst2.i2 {S S' : PS} (h : Rst2 S S') {k : Nat} (hk : k < 2) (hi : I2 S k) : I2 S' k := by
  unfold I2 at hi ⊢
  rw [h.1 22 (by omega), h.2.2.2 62 (by omega)]
  rcases hi with hi | ⟨a, b, R, c, d, e, f⟩
  · exact Or.inl hi
  · refine Or.inr ⟨a, b, R, c, d, ?_, f.of (fun q h1 h2 => h.2.2.1 q (by omega) (by omega)) c.1⟩
    obtain ⟨x, y, z⟩ := e
    have e : ∀ q, 11 + 5 * k ≤ q → q < 11 + 5 * k + 5 → S'.1 q = S.1 q := fun q h1 h2 => h.1 q (by omega)
    refine ⟨by rw [e _ (by omega) (by omega)]; exact x, by rw [e _ (by omega) (by omega)]; exact y, fun w hw => ?_⟩
    rw [e (11 + 5 * k + 1) (by omega) (by omega), e (11 + 5 * k + 2) (by omega) (by omega), e (11 + 5 * k + 3) (by omega) (by omega), e (11 + 5 * k + 4) (by omega) (by omega)]
    exact z w hw
theorem Rst2.i3 {S S' : PS} (h : Rst2 S S') {n : Nat} {tp : Nat → Nat} (hi : I3 S n tp) : I3 S' n tp := by
  unfold I3 at hi ⊢
  rw [h.1 23 (by omega), h.1 24 (by omega), h.2.1 4 (by omega), h.2.2.2 57 (by omega)]
  exact hi
theorem Rst2.i5 {S S' : PS} (h : Rst2 S S') {n : Nat} {sp sv : Nat → Nat} (hi : I5 S n sp sv) : I5 S' n sp sv := by
  unfold I5 at hi ⊢
  rw [h.1 26 (by omega), h.1 27 (by omega), h.1 28 (by omega), h.2.1 18 (by omega), h.2.2.2 60 (by omega)]
  exact hi
theorem Rst2.i6 {S S' : PS} (h : Rst2 S S') {k : Nat} (hk : k < 4) (hi : I6 S k) : I6 S' k := by
  unfold I6 at hi ⊢
  rw [h.1 (30 + 2 * k) (by omega), h.1 (31 + 2 * k) (by omega), h.2.2.2 63 (by omega), h.2.2.2 64 (by omega), h.2.2.2 65 (by omega)]
  exact hi
theorem Rst2.i8 {S S' : PS} (h : Rst2 S S') (hi : I8 S) : I8 S' := by
  unfold I8 at hi ⊢
  rw [h.2.2.2 58 (by omega), h.2.2.2 59 (by omega)]
  exact hi
theorem Rst2.inv {S S' : PS} {R : Rw} (h : Rst2 S S') (hi : InvS S) (hv : Vd R) (hc : R 21 ≤ 999999) (hr : RowAt S' 1 R) (hp : PgAt S' 0 R) (ht : S'.1 0 8 = S'.1 54 24) (hfl : S'.1 25 1 = S'.1 54 5) : InvS S' := by
  obtain ⟨a, ⟨b, c⟩, ⟨n, tp, d⟩, e, ⟨m, sp, sv, f⟩, g, i, j⟩ := hi
  refine ⟨⟨R, hv, hc, hr, hp⟩, ⟨h.i2 (by omega) b, h.i2 (by omega) c⟩, ⟨n, tp, h.i3 d⟩, ?_, ⟨m, sp, sv, h.i5 f⟩, fun k hk => h.i6 hk (g k hk), ?_, h.i8 j⟩
  · exact hfl
  · exact ht
/-- pairs from a sheet: whether one could not be taken, how many came, the fault, the row then -/
def rdF (c : Nat → Int32) (n f N : Nat) : Nat → Nat → Rw → Bool × Nat × Nat × Rw
  | 0, j, R => (false, j, 0, R)
  | t + 1, j, R => if j < N then (if f + 2 * j + 1 < n then (if (altS R (c (f + 2 * j)) (nI 2) (c (f + 2 * j + 1))).1 < 0 ∨ 999999 ≤ R 21 then (true, j, 0, R) else rdF c n f N t (j + 1) (pushR (altS R (c (f + 2 * j)) (nI 2) (c (f + 2 * j + 1))).2).1) else (false, j, 2, R)) else (false, j, 0, R)
theorem rdF_c {c : Nat → Int32} {n f N : Nat} : ∀ t j R, N - j < t → j ≤ N → (rdF c n f N t j R).2.1 ≤ N ∧ (rdF c n f N t j R).2.2.1 ≤ 2
  | 0, j, R, h, _ => absurd h (by omega)
  | t + 1, j, R, h, hj => by
    rw [rdF]
    by_cases h1 : j < N
    · rw [if_pos h1]
      by_cases h2 : f + 2 * j + 1 < n
      · rw [if_pos h2]
        by_cases h3 : (altS R (c (f + 2 * j)) (nI 2) (c (f + 2 * j + 1))).1 < 0 ∨ 999999 ≤ R 21
        · rw [if_pos h3]; exact ⟨hj, by show 0 ≤ 2; omega⟩
        · rw [if_neg h3]; exact rdF_c t (j + 1) _ (by omega) (by omega)
      · rw [if_neg h2]; exact ⟨hj, Nat.le_refl _⟩
    · rw [if_neg h1]; exact ⟨hj, by show 0 ≤ 2; omega⟩
theorem s_at {k : Nat} (h : k < 4) : [30, 32, 34, 36][(nI k).toNatClampNeg]? = some (30 + 2 * k) := by
  rw [nI_clamp (by omega)]
  rcases (show k = 0 ∨ k = 1 ∨ k = 2 ∨ k = 3 by omega) with rfl | rfl | rfl | rfl <;> rfl
theorem s_I {k : Nat} (h : k < 4) : sI (30 + 2 * k) := by unfold sI; omega
theorem sp_inN {sc : PSc} {S : PS} {Q : PQ} {q n : Nat} (hq : q < 2 ^ 31) (hn : n ≤ 40) (k1 : q < n → Q (some (.int (nI 1))) S) (k0 : ¬ q < n → Q (some (.int (nI 0))) S) : E sc mX6_in 0 (pL0 mX6_in [.long (lN q), .long (lN 0), .long (nI n - nI 1).toInt64]) [] S Q := by
  have e1 : (lN q).toInt = q := lN_toInt hq
  have e2 : (nI n - nI 1).toInt64.toInt = (n : Int) - 1 := by rw [Int32.toInt_toInt64, pk_sub_toInt (by omega) (by decide)]; rfl
  refine sp_in _ _ _ (fun h1 h2 => k1 ?_) (fun h => k0 (fun hq2 => h ⟨?_, ?_⟩))
  · rw [fa_le64, e1, e2] at h2; omega
  · rw [fa_le64, e1]; show (0 : Int) ≤ _; omega
  · rw [fa_le64, e1, e2]; omega
theorem n_inw {b n : Nat} (h : ¬ b < n) (hb : b < 2 ^ 31) (hn : n ≤ 40) : ¬ inw (nI b) n := by
  rintro ⟨j, e, hj⟩
  rw [nI_eq hb (by omega)] at e
  omega
theorem sp_pairNull {sc : PSc} {i : Nat} {S : PS} {Q : PQ} (hi : sI i) {x1 x2 : Int32} (h0 : S.1 i 0 = nI 0) (k : Q (some (.int (nI 1))) S) : E sc mX2_faultAtPair 0 (pL0 mX2_faultAtPair [.ref i, .int x1, .int x2]) [] S Q := by
  show E sc mX2_faultAtPair 0 [.ref i, .int x1, .int x2, .null] [] S Q
  refine e_aload_n (pc := 0) (i := 0) dX2_faultAtPair_0 rfl rfl ?_
  refine e_iload_n (pc := 1) (i := 1) dX2_faultAtPair_1 rfl rfl ?_
  refine e_iload_n (pc := 2) (i := 2) dX2_faultAtPair_2 rfl rfl ?_
  refine e_callV2 (pc := 3) (M' := mX2_faultAt) dX2_faultAtPair_3 iX2_faultAt lkX2_30 (by decide) (sI_r hi) (Nat.le_of_ble_eq_true rfl) (Nat.le_of_ble_eq_true rfl) ?_
  refine sp_faultNull hi h0 ?_
  refine e_istore_n (pc := 6) (i := 3) dX2_faultAtPair_6 rfl (by decide) rfl ?_
  refine e_iload_n (pc := 7) (i := 3) dX2_faultAtPair_7 rfl rfl ?_
  refine e_if_ne (pc := 8) (tgt := 22) dX2_faultAtPair_8 (by decide) (fun h8 => ?_) (fun h8 => absurd h8 (by decide))
  refine e_iload_n (pc := 22) (i := 3) dX2_faultAtPair_22 rfl rfl ?_
  refine e_iret (pc := 23) (st := []) (ty := .int) dX2_faultAtPair_23 rfl rfl ?_
  exact k
theorem sp_pairCast {sc : PSc} {i : Nat} {S : PS} {Q : PQ} (hi : sI i) {l : Nat} {x1 x2 : Int32} (h0 : S.1 i 0 = nI 1) (h1 : S.1 i 1 = nI l) (hx : ¬ x1 = nI l) (k : Q (some (.int (nI 3))) S) : E sc mX2_faultAtPair 0 (pL0 mX2_faultAtPair [.ref i, .int x1, .int x2]) [] S Q := by
  show E sc mX2_faultAtPair 0 [.ref i, .int x1, .int x2, .null] [] S Q
  refine e_aload_n (pc := 0) (i := 0) dX2_faultAtPair_0 rfl rfl ?_
  refine e_iload_n (pc := 1) (i := 1) dX2_faultAtPair_1 rfl rfl ?_
  refine e_iload_n (pc := 2) (i := 2) dX2_faultAtPair_2 rfl rfl ?_
  refine e_callV2 (pc := 3) (M' := mX2_faultAt) dX2_faultAtPair_3 iX2_faultAt lkX2_30 (by decide) (sI_r hi) (Nat.le_of_ble_eq_true rfl) (Nat.le_of_ble_eq_true rfl) ?_
  refine sp_faultCast hi h0 h1 hx ?_
  refine e_istore_n (pc := 6) (i := 3) dX2_faultAtPair_6 rfl (by decide) rfl ?_
  refine e_iload_n (pc := 7) (i := 3) dX2_faultAtPair_7 rfl rfl ?_
  refine e_if_ne (pc := 8) (tgt := 22) dX2_faultAtPair_8 (by decide) (fun h8 => ?_) (fun h8 => absurd h8 (by decide))
  refine e_iload_n (pc := 22) (i := 3) dX2_faultAtPair_22 rfl rfl ?_
  refine e_iret (pc := 23) (st := []) (ty := .int) dX2_faultAtPair_23 rfl rfl ?_
  exact k
theorem sp_pairOut {sc : PSc} {i : Nat} {S : PS} {Q : PQ} (hi : sI i) {l m : Nat} (h0 : S.1 i 0 = nI 1) (h1 : S.1 i 1 = nI l) (h2 : S.1 i 2 = nI m) (hm : m ≤ 40) {x2 : Int32} (hb : ¬ inw x2 m) (k : Q (some (.int (nI 2))) S) : E sc mX2_faultAtPair 0 (pL0 mX2_faultAtPair [.ref i, .int (nI l), .int x2]) [] S Q := by
  show E sc mX2_faultAtPair 0 [.ref i, .int (nI l), .int x2, .null] [] S Q
  refine e_aload_n (pc := 0) (i := 0) dX2_faultAtPair_0 rfl rfl ?_
  refine e_iload_n (pc := 1) (i := 1) dX2_faultAtPair_1 rfl rfl ?_
  refine e_iload_n (pc := 2) (i := 2) dX2_faultAtPair_2 rfl rfl ?_
  refine e_callV2 (pc := 3) (M' := mX2_faultAt) dX2_faultAtPair_3 iX2_faultAt lkX2_30 (by decide) (sI_r hi) (Nat.le_of_ble_eq_true rfl) (Nat.le_of_ble_eq_true rfl) ?_
  refine sp_faultOut hi h0 h1 h2 hm hb ?_
  refine e_istore_n (pc := 6) (i := 3) dX2_faultAtPair_6 rfl (by decide) rfl ?_
  refine e_iload_n (pc := 7) (i := 3) dX2_faultAtPair_7 rfl rfl ?_
  refine e_if_ne (pc := 8) (tgt := 22) dX2_faultAtPair_8 (by decide) (fun h8 => ?_) (fun h8 => absurd h8 (by decide))
  refine e_iload_n (pc := 22) (i := 3) dX2_faultAtPair_22 rfl rfl ?_
  refine e_iret (pc := 23) (st := []) (ty := .int) dX2_faultAtPair_23 rfl rfl ?_
  exact k
theorem sp_pairM {sc : PSc} {i : Nat} {S : PS} {Q : PQ} (hi : sI i) {l m : Nat} (h0 : S.1 i 0 = nI 1) (h1 : S.1 i 1 = nI l) (h2 : S.1 i 2 = nI m) (hm : m ≤ 40) {b : Nat} (hb : b < 2 ^ 20) (k1 : b + 1 < m → Q (some (.int (nI 0))) S) (k0 : ¬ b + 1 < m → Q (some (.int (nI 2))) S) : E sc mX2_faultAtPair 0 (pL0 mX2_faultAtPair [.ref i, .int (nI l), .int (nI b)]) [] S Q := by
  show E sc mX2_faultAtPair 0 [.ref i, .int (nI l), .int (nI b), .null] [] S Q
  by_cases hb1 : b < m
  · refine e_aload_n (pc := 0) (i := 0) dX2_faultAtPair_0 rfl rfl ?_
    refine e_iload_n (pc := 1) (i := 1) dX2_faultAtPair_1 rfl rfl ?_
    refine e_iload_n (pc := 2) (i := 2) dX2_faultAtPair_2 rfl rfl ?_
    refine e_callV2 (pc := 3) (M' := mX2_faultAt) dX2_faultAtPair_3 iX2_faultAt lkX2_30 (by decide) (sI_r hi) (Nat.le_of_ble_eq_true rfl) (Nat.le_of_ble_eq_true rfl) ?_
    refine sp_faultIn hi h0 h1 h2 hm hb1 ?_
    refine e_istore_n (pc := 6) (i := 3) dX2_faultAtPair_6 rfl (by decide) rfl ?_
    refine e_iload_n (pc := 7) (i := 3) dX2_faultAtPair_7 rfl rfl ?_
    refine e_if_ne (pc := 8) (tgt := 22) dX2_faultAtPair_8 (by decide) (fun h8 => absurd (by decide) h8) (fun h8 => ?_)
    refine e_aload_n (pc := 11) (i := 0) dX2_faultAtPair_11 rfl rfl ?_
    refine e_iload_n (pc := 12) (i := 1) dX2_faultAtPair_12 rfl rfl ?_
    refine e_iload_n (pc := 13) (i := 2) dX2_faultAtPair_13 rfl rfl ?_
    refine e_iconst' (pc := 14) (nI 1) dX2_faultAtPair_14 (by decide) ?_
    refine e_iadd (pc := 15) dX2_faultAtPair_15 ?_
    refine E.it (nI (b + 1)) (nI_add _ _) ?_
    refine e_callV2 (pc := 16) (M' := mX2_faultAt) dX2_faultAtPair_16 iX2_faultAt lkX2_30 (by decide) (sI_r hi) (Nat.le_of_ble_eq_true rfl) (Nat.le_of_ble_eq_true rfl) ?_
    by_cases hb2 : b + 1 < m
    · refine sp_faultIn hi h0 h1 h2 hm hb2 ?_
      refine e_goto (pc := 19) (tgt := 23) dX2_faultAtPair_19 (by decide) ?_
      refine e_iret (pc := 23) (st := []) (ty := .int) dX2_faultAtPair_23 rfl rfl ?_
      exact k1 hb2
    · refine sp_faultOut hi h0 h1 h2 hm (n_inw hb2 (by omega) hm) ?_
      refine e_goto (pc := 19) (tgt := 23) dX2_faultAtPair_19 (by decide) ?_
      refine e_iret (pc := 23) (st := []) (ty := .int) dX2_faultAtPair_23 rfl rfl ?_
      exact k0 hb2
  · refine e_aload_n (pc := 0) (i := 0) dX2_faultAtPair_0 rfl rfl ?_
    refine e_iload_n (pc := 1) (i := 1) dX2_faultAtPair_1 rfl rfl ?_
    refine e_iload_n (pc := 2) (i := 2) dX2_faultAtPair_2 rfl rfl ?_
    refine e_callV2 (pc := 3) (M' := mX2_faultAt) dX2_faultAtPair_3 iX2_faultAt lkX2_30 (by decide) (sI_r hi) (Nat.le_of_ble_eq_true rfl) (Nat.le_of_ble_eq_true rfl) ?_
    refine sp_faultOut hi h0 h1 h2 hm (n_inw hb1 (by omega) hm) ?_
    refine e_istore_n (pc := 6) (i := 3) dX2_faultAtPair_6 rfl (by decide) rfl ?_
    refine e_iload_n (pc := 7) (i := 3) dX2_faultAtPair_7 rfl rfl ?_
    refine e_if_ne (pc := 8) (tgt := 22) dX2_faultAtPair_8 (by decide) (fun h8 => ?_) (fun h8 => absurd h8 (by decide))
    refine e_iload_n (pc := 22) (i := 3) dX2_faultAtPair_22 rfl rfl ?_
    refine e_iret (pc := 23) (st := []) (ty := .int) dX2_faultAtPair_23 rfl rfl ?_
    exact k0 (by omega)
theorem lp_read {sc : PSc} {i l m f N : Nat} {x1 : Int32} {c : Nat → Int32} {S0 : PS} {Q : PQ} {ou : Bool × Nat × Nat × Rw} (hi : sI i) (h0 : S0.1 i 0 = nI 1) (h1 : S0.1 i 1 = nI l) (h2 : S0.1 i 2 = nI m) (hm : m ≤ 40) (hf : f < 40) (hN : N ≤ 20) (hc : ∀ x, x < m → S0.1 (i + 1) x = c x) (kF : ∀ S', ou.1 = true → Fr 6 5 S0 S' → Q (some (.int (-20 - nI ou.2.1))) S') (kO : ∀ S' z, ou.1 = false → RowAt S' 6 ou.2.2.2 → Vd ou.2.2.2 → ou.2.2.2 21 ≤ 999999 → Fr 6 5 S0 S' → E sc mX5_read 129 [.ref 0, .int x1, .int (nI l), .int (nI f), .int (nI N), .ref i, .int (nI ou.2.2.1), .int (nI ou.2.1), z] [] S' Q) : ∀ (n : Nat) (j : Nat) (R : Rw) (S : PS) (z : Value), j ≤ N → N - j < n → Vd R → R 21 ≤ 999999 → RowAt S 6 R → Fr 6 5 S0 S → rdF c m f N n j R = ou → E sc mX5_read 56 [.ref 0, .int x1, .int (nI l), .int (nI f), .int (nI N), .ref i, .int (nI 0), .int (nI j), z] [] S Q := by
  intro n
  induction n with
  | zero => intro j R S z hj hn hv hcc hr hfr ho; exact absurd hn (by omega)
  | succ n ih =>
    intro j R S z hj hn hv hcc hr hfr ho
    have hi2 : 30 ≤ i ∧ i ≤ 36 := by unfold sI at hi; omega
    have ei : S.1 i = S0.1 i := hfr.2 i (by omega)
    have ei1 : S.1 (i + 1) = S0.1 (i + 1) := hfr.2 (i + 1) (by omega)
    rw [rdF] at ho
    refine e_iload (pc := 56) dX5_read_56 rfl ?_
    refine e_iload (pc := 58) dX5_read_58 rfl ?_
    refine e_icmp_ge (pc := 60) (tgt := 129) dX5_read_60 (by decide) (fun h60 => ?_) (fun h60 => ?_)
    · replace h60 := (nI_leI (by omega) (by omega)).mp h60
      rw [if_neg (by omega)] at ho
      subst ho
      exact kO S _ rfl hr hv hcc hfr
    · replace h60 := mt (nI_leI (by omega) (by omega)).mpr h60
      rw [if_pos (by omega)] at ho
      refine e_iload_n (pc := 63) (i := 3) dX5_read_63 rfl rfl ?_
      refine e_iconst' (pc := 64) (nI 2) dX5_read_64 (by decide) ?_
      refine e_iload (pc := 65) dX5_read_65 rfl ?_
      refine e_imul (pc := 67) dX5_read_67 ?_
      refine E.it (nI (2 * j)) (pk_mul _ _) ?_
      refine e_iadd (pc := 68) dX5_read_68 ?_
      refine E.it (nI (f + 2 * j)) (nI_add _ _) ?_
      refine e_istore (pc := 69) dX5_read_69 (by decide) rfl ?_
      refine e_aload (pc := 71) dX5_read_71 rfl ?_
      refine e_iload_n (pc := 73) (i := 2) dX5_read_73 rfl rfl ?_
      refine e_iload (pc := 74) dX5_read_74 rfl ?_
      refine e_callV2 (pc := 76) (M' := mX2_faultAtPair) dX5_read_76 iX2_faultAtPair lkX5_233 (by decide) (sI_r hi) (Nat.le_of_ble_eq_true rfl) (Nat.le_of_ble_eq_true rfl) ?_
      refine sp_pairM (m := m) hi (by rw [ei]; exact h0) (by rw [ei]; exact h1) (by rw [ei]; exact h2) hm (by omega) (fun hb => ?_) (fun hb => ?_)
      · rw [if_pos hb] at ho
        refine e_istore (pc := 79) dX5_read_79 (by decide) rfl ?_
        refine e_iload (pc := 81) dX5_read_81 rfl ?_
        refine e_if_eq (pc := 83) (tgt := 89) dX5_read_83 (by decide) (fun h83 => ?_) (fun h83 => absurd rfl h83)
        refine e_aload_n (pc := 89) (i := 0) dX5_read_89 rfl rfl ?_
        refine e_getR (pc := 90) dX5_read_90 (fX5_16 rfl) sh_0 rfl ?_
        refine e_aload (pc := 93) dX5_read_93 rfl ?_
        refine e_getR (pc := 95) dX5_read_95 (fX5_236 rfl) (sI_sh hi) rfl ?_
        refine e_iload (pc := 98) dX5_read_98 rfl ?_
        refine e_iald (pc := 100) dX5_read_100 (sI_a hi) (vp_in_nI (by omega) (by omega)) ?_
        refine E.it (c (f + 2 * j)) (by rw [nI_clamp (by omega), ei1]; exact hc _ (by omega)) ?_
        refine e_aload (pc := 101) dX5_read_101 rfl ?_
        refine e_getR (pc := 103) dX5_read_103 (fX5_236 rfl) (sI_sh hi) rfl ?_
        refine e_iload (pc := 106) dX5_read_106 rfl ?_
        refine e_iconst' (pc := 108) (nI 1) dX5_read_108 (by decide) ?_
        refine e_iadd (pc := 109) dX5_read_109 ?_
        refine E.it (nI (f + 2 * j + 1)) (nI_add _ _) ?_
        refine e_iald (pc := 110) dX5_read_110 (sI_a hi) (vp_in_nI (by omega) (by omega)) ?_
        refine E.it (c (f + 2 * j + 1)) (by rw [nI_clamp (by omega), ei1]; exact hc _ (by omega)) ?_
        refine e_callV2 (pc := 111) (M' := mX0_takeDigitAndPush) dX5_read_111 iX0_takeDigitAndPush lkX5_239 (by decide) (rO_obj sh_6 rfl) (Nat.le_of_ble_eq_true rfl) (Nat.le_of_ble_eq_true rfl) ?_
        refine sp_takeDP r6 hv hr (by omega) (fun S2 hz f2 => ?_) (fun S2 z1 z2 a2 f2 => ?_)
        · rw [if_pos hz] at ho
          subst ho
          refine e_if_ne (pc := 114) (tgt := 123) dX5_read_114 (by decide) (fun h114 => absurd rfl h114) (fun h114 => ?_)
          refine e_bipush' (pc := 117) (-20) dX5_read_117 (by decide) ?_
          refine e_iload (pc := 119) dX5_read_119 rfl ?_
          refine e_isub (pc := 121) dX5_read_121 ?_
          refine e_iret (pc := 122) (st := []) (ty := .int) dX5_read_122 rfl rfl ?_
          exact kF S2 rfl (hfr.tr f2)
        · rw [if_neg (fun q => q.elim (fun q => z1 q) (fun q => absurd q (by omega)))] at ho
          refine e_if_ne (pc := 114) (tgt := 123) dX5_read_114 (by decide) (fun h114 => ?_) (fun h114 => absurd h114 (by decide))
          refine e_iinc' (pc := 123) (nI (j + 1)) dX5_read_123 rfl (by decide) rfl (nI_1 _) ?_
          refine e_goto (pc := 126) (tgt := 56) dX5_read_126 (by decide) ?_
          have hva := altS_vd (w := c (f + 2 * j)) (what := nI 2) (v := c (f + 2 * j + 1)) hv
          exact ih (j + 1) _ S2 _ (by omega) (by omega) (push_vd hva) (by rw [push_count hva, altS_c hv]; omega) a2 (hfr.tr f2) ho
      · rw [if_neg hb] at ho
        subst ho
        refine e_istore (pc := 79) dX5_read_79 (by decide) rfl ?_
        refine e_iload (pc := 81) dX5_read_81 rfl ?_
        refine e_if_eq (pc := 83) (tgt := 89) dX5_read_83 (by decide) (fun h83 => absurd h83 (by decide)) (fun h83 => ?_)
        refine e_goto (pc := 86) (tgt := 129) dX5_read_86 (by decide) ?_
        exact kO S _ rfl hr hv hcc hfr
theorem lm_half {sc : PSc} {k l m f N j q : Nat} {y z : Value} {S : PS} {Q : PQ} (hk : k < 4) (hl : l < 3) (h63 : S.1 63 k = nI l) (h64 : S.1 64 k = nI m) (hm : m ≤ 40) (hf : f < 40) (hN : N ≤ 20) (hq : q < 2 * N) (k1 : f + q < m → E sc mX6_read 132 [.ref 54, .int (nI k), .int (nI l), .int (nI f), .int (nI N), .int (nI 0), .int (nI j), .int (nI q), y, z] [] S Q) (k0 : ¬ f + q < m → E sc mX6_read 55 [.ref 54, .int (nI k), .int (nI l), .int (nI f), .int (nI N), .int (nI 2), .int (nI j), .int (nI (q + 1)), y, z] [] S Q) : E sc mX6_read 55 [.ref 54, .int (nI k), .int (nI l), .int (nI f), .int (nI N), .int (nI 0), .int (nI j), .int (nI q), y, z] [] S Q := by
  refine e_iload (pc := 55) dX6_read_55 rfl ?_
  refine e_iconst' (pc := 57) (nI 2) dX6_read_57 (by decide) ?_
  refine e_iload (pc := 58) dX6_read_58 rfl ?_
  refine e_imul (pc := 60) dX6_read_60 ?_
  refine E.it (nI (2 * N)) (pk_mul _ _) ?_
  refine e_icmp_ge (pc := 61) (tgt := 226) dX6_read_61 (by decide) (fun h61 => absurd ((nI_leI (by omega) (by omega)).mp h61) (by omega)) (fun h61 => ?_)
  replace h61 := mt (nI_leI (by omega) (by omega)).mpr h61
  refine e_iload (pc := 64) dX6_read_64 rfl ?_
  refine e_if_ne (pc := 66) (tgt := 226) dX6_read_66 (by decide) (fun h66 => absurd (by decide) h66) (fun h66 => ?_)
  refine e_aload_n (pc := 69) (i := 0) dX6_read_69 rfl rfl ?_
  refine e_getR (pc := 70) dX6_read_70 (fX6_35 rfl) sh_54 rfl ?_
  refine e_iload_n (pc := 73) (i := 1) dX6_read_73 rfl rfl ?_
  refine e_iald (pc := 74) dX6_read_74 sh_63 (vp_in_nI (by omega) (by omega)) ?_
  refine E.it (nI l) (by rw [nI_clamp (by omega)]; exact h63) ?_
  refine e_bipush' (pc := 75) (-4) dX6_read_75 (by decide) ?_
  refine e_icmp_ne (pc := 77) (tgt := 84) dX6_read_77 (by decide) (fun h77 => ?_) (fun h77 => absurd h77 (fun q => absurd (congrArg Int32.toInt q) (by rw [nI_toInt (by omega)]; show ¬ (l : Int) = -4; omega)))
  refine e_aload_n (pc := 84) (i := 0) dX6_read_84 rfl rfl ?_
  refine e_getR (pc := 85) dX6_read_85 (fX6_35 rfl) sh_54 rfl ?_
  refine e_iload_n (pc := 88) (i := 1) dX6_read_88 rfl rfl ?_
  refine e_iald (pc := 89) dX6_read_89 sh_63 (vp_in_nI (by omega) (by omega)) ?_
  refine E.it (nI l) (by rw [nI_clamp (by omega)]; exact h63) ?_
  refine e_iload_n (pc := 90) (i := 2) dX6_read_90 rfl rfl ?_
  refine e_icmp_eq (pc := 91) (tgt := 98) dX6_read_91 (by decide) (fun h91 => ?_) (fun h91 => absurd rfl h91)
  refine e_iload_n (pc := 98) (i := 3) dX6_read_98 rfl rfl ?_
  refine e_i2l (pc := 99) dX6_read_99 ?_
  refine E.lt (lN f) (nI_l (by omega)) ?_
  refine e_iload (pc := 100) dX6_read_100 rfl ?_
  refine e_i2l (pc := 102) dX6_read_102 ?_
  refine E.lt (lN q) (nI_l (by omega)) ?_
  refine e_ladd (pc := 103) dX6_read_103 ?_
  refine E.lt (lN (f + q)) (lN_add _ _) ?_
  refine e_lconst' (pc := 104) (lN 0) dX6_read_104 (by decide) ?_
  refine e_aload_n (pc := 105) (i := 0) dX6_read_105 rfl rfl ?_
  refine e_getR (pc := 106) dX6_read_106 (fX6_38 rfl) sh_54 rfl ?_
  refine e_iload_n (pc := 109) (i := 1) dX6_read_109 rfl rfl ?_
  refine e_iald (pc := 110) dX6_read_110 sh_64 (vp_in_nI (by omega) (by omega)) ?_
  refine E.it (nI m) (by rw [nI_clamp (by omega)]; exact h64) ?_
  refine e_iconst' (pc := 111) (nI 1) dX6_read_111 (by decide) ?_
  refine e_isub (pc := 112) dX6_read_112 ?_
  refine e_i2l (pc := 113) dX6_read_113 ?_
  refine e_callS3 (pc := 114) (M' := mX6_in) dX6_read_114 jX6_in lkX6_46 (by decide) (Nat.le_of_ble_eq_true rfl) (Nat.le_of_ble_eq_true rfl) ?_
  refine sp_inN (by omega) hm (fun hb => ?_) (fun hb => ?_)
  · refine e_if_ne (pc := 117) (tgt := 124) dX6_read_117 (by decide) (fun h117 => ?_) (fun h117 => absurd h117 (by decide))
    refine e_iconst' (pc := 124) (nI 0) dX6_read_124 (by decide) ?_
    refine e_istore (pc := 125) dX6_read_125 (by decide) rfl ?_
    refine e_iload (pc := 127) dX6_read_127 rfl ?_
    refine e_if_ne (pc := 129) (tgt := 220) dX6_read_129 (by decide) (fun h129 => absurd (by decide) h129) (fun h129 => ?_)
    exact k1 hb
  · refine e_if_ne (pc := 117) (tgt := 124) dX6_read_117 (by decide) (fun h117 => absurd rfl h117) (fun h117 => ?_)
    refine e_iconst' (pc := 120) (nI 2) dX6_read_120 (by decide) ?_
    refine e_goto (pc := 121) (tgt := 125) dX6_read_121 (by decide) ?_
    refine e_istore (pc := 125) dX6_read_125 (by decide) rfl ?_
    refine e_iload (pc := 127) dX6_read_127 rfl ?_
    refine e_if_ne (pc := 129) (tgt := 220) dX6_read_129 (by decide) (fun h129 => ?_) (fun h129 => absurd h129 (by decide))
    refine e_iinc' (pc := 220) (nI (q + 1)) dX6_read_220 rfl (by decide) rfl (nI_1 _) ?_
    refine e_goto (pc := 223) (tgt := 55) dX6_read_223 (by decide) ?_
    exact k0 hb
theorem lm_readX {sc : PSc} {b : Nat} {k2 l2 f2 N2 j2 i2 : Int32} {y z : Value} {S : PS} {Q : PQ} (hb : 0 < b) (hb3 : b < 4) (k : E sc mX6_read 226 [.ref 54, .int k2, .int l2, .int f2, .int N2, .int (nI b), .int j2, .int i2, y, z] [] S Q) : E sc mX6_read 55 [.ref 54, .int k2, .int l2, .int f2, .int N2, .int (nI b), .int j2, .int i2, y, z] [] S Q := by
  refine e_iload (pc := 55) dX6_read_55 rfl ?_
  refine e_iconst' (pc := 57) (nI 2) dX6_read_57 (by decide) ?_
  refine e_iload (pc := 58) dX6_read_58 rfl ?_
  refine e_imul (pc := 60) dX6_read_60 ?_
  refine e_icmp_ge (pc := 61) (tgt := 226) dX6_read_61 (by decide) (fun h61 => ?_) (fun h61 => ?_)
  · exact k
  · refine e_iload (pc := 64) dX6_read_64 rfl ?_
    refine e_if_ne (pc := 66) (tgt := 226) dX6_read_66 (by decide) (fun h66 => ?_) (fun h66 => absurd h66 (nI_ne0 hb (by omega)))
    exact k
theorem lm_read {sc : PSc} {k l m f N : Nat} {c : Nat → Int32} {R0 : Rw} {S0 : PS} {Q : PQ} {ou : Bool × Nat × Nat × Rw} (hk : k < 4) (hl : l < 3) (h63 : S0.1 63 k = nI l) (h64 : S0.1 64 k = nI m) (hm : m ≤ 40) (hf : f < 40) (hN : N ≤ 20) (hc : ∀ x, x < m → S0.1 65 (40 * k + x) = c x) (hv0 : Vd R0) (hp66 : PgAt S0 66 R0) (kF : ∀ S', ou.1 = true → PgAt S' 0 R0 → FrP 0 S0 S' → Q (some (.int (-20 - nI ou.2.1))) S') (kO : ∀ S' i2 y z, ou.1 = false → PgAt S' 0 ou.2.2.2 → FrP 0 S0 S' → E sc mX6_read 226 [.ref 54, .int (nI k), .int (nI l), .int (nI f), .int (nI N), .int (nI ou.2.2.1), .int (nI ou.2.1), .int i2, y, z] [] S' Q) : ∀ (n : Nat) (j : Nat) (R : Rw) (S : PS) (y z : Value), j ≤ N → N - j < n → Vd R → R 21 ≤ 999999 → PgAt S 0 R → FrP 0 S0 S → rdF c m f N n j R = ou → E sc mX6_read 55 [.ref 54, .int (nI k), .int (nI l), .int (nI f), .int (nI N), .int (nI 0), .int (nI j), .int (nI (2 * j)), y, z] [] S Q := by
  intro n
  induction n with
  | zero => intro j R S y z hj hn hv hcc hp hfr ho; exact absurd hn (by omega)
  | succ n ih =>
    intro j R S y z hj hn hv hcc hp hfr ho
    have e63 : S.1 63 = S0.1 63 := hfr.2.1 63 (by omega) (by omega)
    have e64 : S.1 64 = S0.1 64 := hfr.2.1 64 (by omega) (by omega)
    have e65 : S.1 65 = S0.1 65 := hfr.2.1 65 (by omega) (by omega)
    rw [rdF] at ho
    by_cases hjN : j < N
    · rw [if_pos hjN] at ho
      refine lm_half hk hl (by rw [e63]; exact h63) (by rw [e64]; exact h64) hm hf hN (by omega) (fun hb => ?_) (fun hb => ?_)
      · refine e_iload (pc := 132) dX6_read_132 rfl ?_
        refine e_iconst' (pc := 134) (nI 2) dX6_read_134 (by decide) ?_
        refine e_irem (pc := 135) dX6_read_135 (by decide) ?_
        refine E.it (nI 0) (by rw [pk_rem (by omega) (by decide) (by decide)]; exact congrArg nI (by omega)) ?_
        refine e_iconst' (pc := 136) (nI 1) dX6_read_136 (by decide) ?_
        refine e_icmp_ne (pc := 137) (tgt := 220) dX6_read_137 (by decide) (fun h137 => ?_) (fun h137 => absurd h137 (by decide))
        refine e_iinc' (pc := 220) (nI (2 * j + 1)) dX6_read_220 rfl (by decide) rfl (nI_1 _) ?_
        refine e_goto (pc := 223) (tgt := 55) dX6_read_223 (by decide) ?_
        refine lm_half hk hl (by rw [e63]; exact h63) (by rw [e64]; exact h64) hm hf hN (by omega) (fun hb2 => ?_) (fun hb2 => ?_)
        · rw [if_pos (by omega)] at ho
          refine e_iload (pc := 132) dX6_read_132 rfl ?_
          refine e_iconst' (pc := 134) (nI 2) dX6_read_134 (by decide) ?_
          refine e_irem (pc := 135) dX6_read_135 (by decide) ?_
          refine E.it (nI 1) (by rw [pk_rem (by omega) (by decide) (by decide)]; exact congrArg nI (by omega)) ?_
          refine e_iconst' (pc := 136) (nI 1) dX6_read_136 (by decide) ?_
          refine e_icmp_ne (pc := 137) (tgt := 220) dX6_read_137 (by decide) (fun h137 => absurd (by decide) h137) (fun h137 => ?_)
          refine e_bipush' (pc := 140) (nI 40) dX6_read_140 (by decide) ?_
          refine e_iload_n (pc := 142) (i := 1) dX6_read_142 rfl rfl ?_
          refine e_imul (pc := 143) dX6_read_143 ?_
          refine E.it (nI (40 * k)) (pk_mul _ _) ?_
          refine e_iload_n (pc := 144) (i := 3) dX6_read_144 rfl rfl ?_
          refine e_iadd (pc := 145) dX6_read_145 ?_
          refine E.it (nI (40 * k + f)) (nI_add _ _) ?_
          refine e_iload (pc := 146) dX6_read_146 rfl ?_
          refine e_iadd (pc := 148) dX6_read_148 ?_
          refine E.it (nI (40 * k + f + (2 * j + 1))) (nI_add _ _) ?_
          refine e_istore (pc := 149) dX6_read_149 (by decide) rfl ?_
          refine e_aload_n (pc := 151) (i := 0) dX6_read_151 rfl rfl ?_
          refine e_aload_n (pc := 152) (i := 0) dX6_read_152 rfl rfl ?_
          refine e_getR (pc := 153) dX6_read_153 (fX6_41 rfl) sh_54 rfl ?_
          refine e_iload (pc := 156) dX6_read_156 rfl ?_
          refine e_iconst' (pc := 158) (nI 1) dX6_read_158 (by decide) ?_
          refine e_isub (pc := 159) dX6_read_159 ?_
          refine E.it (nI (40 * k + (f + 2 * j))) ((pk_sub (by omega)).trans (congrArg nI (by omega))) ?_
          refine e_iald (pc := 160) dX6_read_160 sh_65 (vp_in_nI (by omega) (by omega)) ?_
          refine E.it (c (f + 2 * j)) (by rw [nI_clamp (by omega), e65]; exact hc _ (by omega)) ?_
          refine e_iconst' (pc := 161) (nI 2) dX6_read_161 (by decide) ?_
          refine e_aload_n (pc := 162) (i := 0) dX6_read_162 rfl rfl ?_
          refine e_getR (pc := 163) dX6_read_163 (fX6_41 rfl) sh_54 rfl ?_
          refine e_iload (pc := 166) dX6_read_166 rfl ?_
          refine e_iald (pc := 168) dX6_read_168 sh_65 (vp_in_nI (by omega) (by omega)) ?_
          refine E.it (c (f + 2 * j + 1)) (by rw [nI_clamp (by omega), e65, show 40 * k + f + (2 * j + 1) = 40 * k + (f + 2 * j + 1) by omega]; exact hc _ (by omega)) ?_
          refine e_callV3 (pc := 169) (M' := mX6_alters) dX6_read_169 iX6_alters lkX6_157 (by decide) (rO_obj sh_54 rfl) (Nat.le_of_ble_eq_true rfl) (Nat.le_of_ble_eq_true rfl) ?_
          have hva := altS_vd (w := c (f + 2 * j)) (what := nI 2) (v := c (f + 2 * j + 1)) hv
          have hac := altS_c (w := c (f + 2 * j)) (what := nI 2) (v := c (f + 2 * j + 1)) hv
          refine sp_alters hv hp (fun S2 p2 f2 => ?_)
          refine e_if_lt (pc := 172) (tgt := 191) dX6_read_172 (by decide) (fun h172 => ?_) (fun h172 => ?_)
          · rw [if_pos (Or.inl h172)] at ho
            subst ho
            refine e_iconst' (pc := 191) (nI 0) dX6_read_191 (by decide) ?_
            refine e_istore (pc := 192) dX6_read_192 (by decide) rfl ?_
            refine e_iload (pc := 194) dX6_read_194 rfl ?_
            refine e_if_ne (pc := 196) (tgt := 212) dX6_read_196 (by decide) (fun h196 => absurd (by decide) h196) (fun h196 => ?_)
            refine e_aload_n (pc := 199) (i := 0) dX6_read_199 rfl rfl ?_
            refine e_bipush' (pc := 200) (nI 66) dX6_read_200 (by decide) ?_
            refine e_iconst' (pc := 202) (nI 0) dX6_read_202 (by decide) ?_
            refine e_callV2 (pc := 203) (M' := mX6_copies) dX6_read_203 iX6_copies lkX6_167 (by decide) (rO_obj sh_54 rfl) (Nat.le_of_ble_eq_true rfl) (Nat.le_of_ble_eq_true rfl) ?_
            refine sp_copyPg (a := 66) (b := 0) (by omega) (by omega) (by omega) hv0 (hp66.of (fun q h1 h2 => by rw [f2.2.2 q (by omega), hfr.2.2.1 q (by omega)]) hv0.1) (fun S3 p3 f3 => ?_)
            refine e_bipush' (pc := 206) (-20) dX6_read_206 (by decide) ?_
            refine e_iload (pc := 208) dX6_read_208 rfl ?_
            refine e_isub (pc := 210) dX6_read_210 ?_
            refine e_iret (pc := 211) (st := []) (ty := .int) dX6_read_211 rfl rfl ?_
            exact kF S3 rfl p3 ((hfr.tr f2.P).tr f3.P)
          · refine e_aload_n (pc := 175) (i := 0) dX6_read_175 rfl rfl ?_
            refine e_getR (pc := 176) dX6_read_176 (fX6_7 rfl) sh_54 rfl ?_
            refine e_bipush' (pc := 179) (nI 21) dX6_read_179 (by decide) ?_
            refine e_iald (pc := 181) dX6_read_181 sh_55 (vp_in_nI (by omega) (by omega)) ?_
            refine E.it (nI (R 21)) (by rw [← hac]; exact p2.2.1) ?_
            refine e_ldc' (pc := 182) (nI 999999) dX6_read_182 (kcX6_163 rfl) (by decide) ?_
            refine e_icmp_ge (pc := 184) (tgt := 191) dX6_read_184 (by decide) (fun h184 => ?_) (fun h184 => ?_)
            · replace h184 := (nI_leI (by omega) (by omega)).mp h184
              rw [if_pos (Or.inr h184)] at ho
              subst ho
              refine e_iconst' (pc := 191) (nI 0) dX6_read_191 (by decide) ?_
              refine e_istore (pc := 192) dX6_read_192 (by decide) rfl ?_
              refine e_iload (pc := 194) dX6_read_194 rfl ?_
              refine e_if_ne (pc := 196) (tgt := 212) dX6_read_196 (by decide) (fun h196 => absurd (by decide) h196) (fun h196 => ?_)
              refine e_aload_n (pc := 199) (i := 0) dX6_read_199 rfl rfl ?_
              refine e_bipush' (pc := 200) (nI 66) dX6_read_200 (by decide) ?_
              refine e_iconst' (pc := 202) (nI 0) dX6_read_202 (by decide) ?_
              refine e_callV2 (pc := 203) (M' := mX6_copies) dX6_read_203 iX6_copies lkX6_167 (by decide) (rO_obj sh_54 rfl) (Nat.le_of_ble_eq_true rfl) (Nat.le_of_ble_eq_true rfl) ?_
              refine sp_copyPg (a := 66) (b := 0) (by omega) (by omega) (by omega) hv0 (hp66.of (fun q h1 h2 => by rw [f2.2.2 q (by omega), hfr.2.2.1 q (by omega)]) hv0.1) (fun S3 p3 f3 => ?_)
              refine e_bipush' (pc := 206) (-20) dX6_read_206 (by decide) ?_
              refine e_iload (pc := 208) dX6_read_208 rfl ?_
              refine e_isub (pc := 210) dX6_read_210 ?_
              refine e_iret (pc := 211) (st := []) (ty := .int) dX6_read_211 rfl rfl ?_
              exact kF S3 rfl p3 ((hfr.tr f2.P).tr f3.P)
            · replace h184 := mt (nI_leI (by omega) (by omega)).mpr h184
              rw [if_neg (fun q => q.elim (fun q => h172 q) (fun q => h184 q))] at ho
              refine e_iconst' (pc := 187) (nI 1) dX6_read_187 (by decide) ?_
              refine e_goto (pc := 188) (tgt := 192) dX6_read_188 (by decide) ?_
              refine e_istore (pc := 192) dX6_read_192 (by decide) rfl ?_
              refine e_iload (pc := 194) dX6_read_194 rfl ?_
              refine e_if_ne (pc := 196) (tgt := 212) dX6_read_196 (by decide) (fun h196 => ?_) (fun h196 => absurd h196 (by decide))
              refine e_aload_n (pc := 212) (i := 0) dX6_read_212 rfl rfl ?_
              refine e_iconst' (pc := 213) (nI 0) dX6_read_213 (by decide) ?_
              refine e_callV1 (pc := 214) (M' := mX6_pushOn) dX6_read_214 iX6_pushOn lkX6_164 (by decide) (rO_obj sh_54 rfl) (Nat.le_of_ble_eq_true rfl) (Nat.le_of_ble_eq_true rfl) ?_
              refine sp_pushOn (p := 0) (by omega) hva p2 (fun S3 p3 g3 f3 => ?_)
              refine e_iinc' (pc := 217) (nI (j + 1)) dX6_read_217 rfl (by decide) rfl (nI_1 _) ?_
              refine e_iinc' (pc := 220) (nI (2 * j + 1 + 1)) dX6_read_220 rfl (by decide) rfl (nI_1 _) ?_
              refine e_goto (pc := 223) (tgt := 55) dX6_read_223 (by decide) ?_
              exact ih (j + 1) _ S3 _ _ (by omega) (by omega) (push_vd hva) (by rw [push_count hva, hac]; omega) p3 ((hfr.tr f2.P).tr f3) ho
        · rw [if_neg (by omega)] at ho
          subst ho
          exact lm_readX (by omega) (by omega) (kO S _ _ _ rfl hp hfr)
      · rw [if_neg (by omega)] at ho
        subst ho
        exact lm_readX (by omega) (by omega) (kO S _ _ _ rfl hp hfr)
    · rw [if_neg hjN] at ho
      subst ho
      refine e_iload (pc := 55) dX6_read_55 rfl ?_
      refine e_iconst' (pc := 57) (nI 2) dX6_read_57 (by decide) ?_
      refine e_iload (pc := 58) dX6_read_58 rfl ?_
      refine e_imul (pc := 60) dX6_read_60 ?_
      refine E.it (nI (2 * N)) (pk_mul _ _) ?_
      refine e_icmp_ge (pc := 61) (tgt := 226) dX6_read_61 (by decide) (fun h61 => ?_) (fun h61 => absurd (nI_le (by omega) (by omega)) h61)
      replace h61 := (nI_leI (by omega) (by omega)).mp h61
      exact kO S _ _ _ rfl hp hfr
theorem fin_read {S S1 S2 : PS} {R2 : Rw} {t : Int32} (hI : InvS S) (hv : Vd R2) (hc : R2 21 ≤ 999999) (h1 : ∀ j, 11 ≤ j → S1.1 j = S.1 j) (hr : RowAt S1 1 R2) (h0 : S1.1 0 8 = t) (hp : PgAt S2 0 R2) (h2 : ∀ j, j ≠ 54 → j ≠ 55 → S2.1 j = S1.1 j) (h3 : ∀ k, 22 ≤ k → k < 66 → S2.1 55 k = S1.1 55 k) (h4 : ∀ k, (k = 4 ∨ k = 5 ∨ k = 18) → S2.1 54 k = S1.1 54 k) (h5 : S2.1 54 24 = t) : InvS S2 := by
  have hrs : Rst2 S S2 := ⟨fun j a => (h2 j (by omega) (by omega)).trans (h1 j (by omega)), fun k a => (h4 k (by omega)).trans (by rw [h1 54 (by omega)]), fun k a b => (h3 k a b).trans (by rw [h1 55 (by omega)]), fun j a => (h2 j (by omega) (by omega)).trans (h1 j (by omega))⟩
  refine hrs.inv hI hv hc ?_ hp ?_ ?_
  · obtain ⟨a, b, c⟩ := hr
    have e : ∀ q, 1 ≤ q → q < 6 → S2.1 q = S1.1 q := fun q h1 h2' => h2 q (by omega) (by omega)
    refine ⟨by rw [e 1 (by omega) (by omega)]; exact a, by rw [e 1 (by omega) (by omega)]; exact b, fun w hw => ?_⟩
    rw [e (1 + 1) (by omega) (by omega), e (1 + 2) (by omega) (by omega), e (1 + 3) (by omega) (by omega), e (1 + 4) (by omega) (by omega)]
    exact c w hw
  · rw [h2 0 (by omega) (by omega), h0, h5]
  · rw [h2 25 (by omega) (by omega), h1 25 (by omega), h4 5 (by omega), h1 54 (by omega)]; exact hI.2.2.2.1
theorem lp_readE {sc : PSc} {i : Nat} {x1 x2 x3 x4 b q : Int32} {z : Value} {R2 : Rw} {S : PS} {Q : PQ} (hv : Vd R2) (hr : RowAt S 6 R2) (k : ∀ S', RowAt S' 1 R2 → S'.1 0 8 = b → (∀ j, 11 ≤ j → S'.1 j = S.1 j) → Q (some (.int q)) S') : E sc mX5_read 129 [.ref 0, .int x1, .int x2, .int x3, .int x4, .ref i, .int b, .int q, z] [] S Q := by
  refine e_aload_n (pc := 129) (i := 0) dX5_read_129 rfl rfl ?_
  refine e_getR (pc := 130) dX5_read_130 (fX5_10 rfl) sh_0 rfl ?_
  refine e_aload_n (pc := 133) (i := 0) dX5_read_133 rfl rfl ?_
  refine e_getR (pc := 134) dX5_read_134 (fX5_16 rfl) sh_0 rfl ?_
  refine e_callV1 (pc := 137) (M' := mX0_copyOf) dX5_read_137 iX0_copyOf lkX5_90 (by decide) (rO_obj sh_1 rfl) (Nat.le_of_ble_eq_true rfl) (Nat.le_of_ble_eq_true rfl) ?_
  refine sp_copyOf r1 r6 (by omega) hv hr (fun S2 a2 b2 c2 => ?_)
  refine e_aload_n (pc := 140) (i := 0) dX5_read_140 rfl rfl ?_
  refine e_iload (pc := 141) dX5_read_141 rfl ?_
  refine e_putI (pc := 143) dX5_read_143 (pX5_53 rfl) sh_0 rfl (fun h => by cases h) ?_
  refine e_iload (pc := 146) dX5_read_146 rfl ?_
  refine e_iret (pc := 148) (st := []) (ty := .int) dX5_read_148 rfl rfl ?_
  refine k _ ?_ rfl (fun j hj => ?_)
  · refine ⟨a2.1, a2.2.1, a2.2.2⟩
  · show up2 S2.1 0 8 b j = _; rw [up2_ne _ _ _ (by omega)]; exact c2.2 j (by omega)
theorem lm_readE {sc : PSc} {x1 x2 x3 x4 b q i2 : Int32} {y z : Value} {S : PS} {Q : PQ} (k : Q (some (.int q)) (up2 S.1 54 24 b, S.2)) : E sc mX6_read 226 [.ref 54, .int x1, .int x2, .int x3, .int x4, .int b, .int q, .int i2, y, z] [] S Q := by
  refine e_aload_n (pc := 226) (i := 0) dX6_read_226 rfl rfl ?_
  refine e_iload (pc := 227) dX6_read_227 rfl ?_
  refine e_putI (pc := 229) dX6_read_229 (pX6_221 rfl) sh_54 rfl (fun h => by cases h) ?_
  refine e_iload (pc := 232) dX6_read_232 rfl ?_
  refine e_iret (pc := 234) (st := []) (ty := .int) dX6_read_234 rfl rfl ?_
  exact k
theorem b_read {sc : PSc} {S : PS} (hI : InvS S) (x y v w : Int32) : Bth sc mX5_read mX6_read [.int x, .int y, .int v, .int w] S := by
  obtain ⟨R, hv, hc, hr, hp⟩ := hI.1
  have hv5 := hv.1
  rcases Classical.em (inr x 0 3) with ⟨k, rfl, -, hk3⟩ | hn
  · have hk : k < 4 := by omega
    rcases Classical.em (inr y 0 2) with ⟨la, rfl, -, hla⟩ | hn
    · rcases Classical.em (inr w 0 20) with ⟨N, rfl, -, hN⟩ | hn
      · rcases Nat.eq_zero_or_pos N with rfl | hN0
        · show E sc mX5_read 0 [.ref 0, .int (nI k), .int (nI la), .int v, .int (nI 0), .null, .null, .null, .null] [] S _
          refine e_iload_n (pc := 0) (i := 1) dX5_read_0 rfl rfl ?_
          refine e_iconst' (pc := 1) (nI 0) dX5_read_1 (by decide) ?_
          refine e_iconst' (pc := 2) (nI 3) dX5_read_2 (by decide) ?_
          refine e_callS3 (pc := 3) (M' := mX5_within) dX5_read_3 jX5_within lkX5_70 (by decide) (Nat.le_of_ble_eq_true rfl) (Nat.le_of_ble_eq_true rfl) ?_
          refine sp_winY (by omega) (by omega) (by omega) ?_
          refine e_if_eq (pc := 6) (tgt := 29) dX5_read_6 (by decide) (fun h6 => absurd h6 (by decide)) (fun h6 => ?_)
          refine e_iload_n (pc := 9) (i := 2) dX5_read_9 rfl rfl ?_
          refine e_iconst' (pc := 10) (nI 0) dX5_read_10 (by decide) ?_
          refine e_iconst' (pc := 11) (nI 2) dX5_read_11 (by decide) ?_
          refine e_callS3 (pc := 12) (M' := mX5_within) dX5_read_12 jX5_within lkX5_70 (by decide) (Nat.le_of_ble_eq_true rfl) (Nat.le_of_ble_eq_true rfl) ?_
          refine sp_winY (by omega) (by omega) (by omega) ?_
          refine e_if_eq (pc := 15) (tgt := 29) dX5_read_15 (by decide) (fun h15 => absurd h15 (by decide)) (fun h15 => ?_)
          refine e_iload (pc := 18) dX5_read_18 rfl ?_
          refine e_iconst' (pc := 20) (nI 0) dX5_read_20 (by decide) ?_
          refine e_bipush' (pc := 21) (nI 20) dX5_read_21 (by decide) ?_
          refine e_callS3 (pc := 23) (M' := mX5_within) dX5_read_23 jX5_within lkX5_70 (by decide) (Nat.le_of_ble_eq_true rfl) (Nat.le_of_ble_eq_true rfl) ?_
          refine sp_winY (by omega) (by omega) (by omega) ?_
          refine e_if_ne (pc := 26) (tgt := 31) dX5_read_26 (by decide) (fun h26 => ?_) (fun h26 => absurd h26 (by decide))
          refine e_aload_n (pc := 31) (i := 0) dX5_read_31 rfl rfl ?_
          refine e_getR (pc := 32) dX5_read_32 (fX5_49 rfl) sh_0 rfl ?_
          refine e_iload_n (pc := 35) (i := 1) dX5_read_35 rfl rfl ?_
          refine e_aald (pc := 36) (r := (30 + 2 * k)) dX5_read_36 sh_29 (show vp_in (nI k) 4 from vp_in_nI (by omega) (by omega)) (s_at hk) ?_
          refine e_astore (pc := 37) dX5_read_37 (by decide) rfl ?_
          refine e_aload_n (pc := 39) (i := 0) dX5_read_39 rfl rfl ?_
          refine e_getR (pc := 40) dX5_read_40 (fX5_16 rfl) sh_0 rfl ?_
          refine e_aload_n (pc := 43) (i := 0) dX5_read_43 rfl rfl ?_
          refine e_getR (pc := 44) dX5_read_44 (fX5_10 rfl) sh_0 rfl ?_
          refine e_callV1 (pc := 47) (M' := mX0_copyOf) dX5_read_47 iX0_copyOf lkX5_90 (by decide) (rO_obj sh_6 rfl) (Nat.le_of_ble_eq_true rfl) (Nat.le_of_ble_eq_true rfl) ?_
          refine sp_copyOf r6 r1 (by omega) hv hr (fun Sa aa ba ca => ?_)
          have hI0 : ∀ j, 11 ≤ j → Sa.1 j = S.1 j := fun j hj => ca.2 j (by omega)
          refine e_iconst' (pc := 50) (nI 0) dX5_read_50 (by decide) ?_
          refine e_istore (pc := 51) dX5_read_51 (by decide) rfl ?_
          refine e_iconst' (pc := 53) (nI 0) dX5_read_53 (by decide) ?_
          refine e_istore (pc := 54) dX5_read_54 (by decide) rfl ?_
          refine e_iload (pc := 56) dX5_read_56 rfl ?_
          refine e_iload (pc := 58) dX5_read_58 rfl ?_
          refine e_icmp_ge (pc := 60) (tgt := 129) dX5_read_60 (by decide) (fun h60 => ?_) (fun h60 => absurd (by decide) h60)
          refine lp_readE hv aa (fun Sb rb0 tb fb => ?_)
          refine ⟨_, rfl, ?_⟩
          show E sc mX6_read 0 [.ref 54, .int (nI k), .int (nI la), .int v, .int (nI 0), .null, .null, .null, .null, .null] [] Sb _
          refine e_iload_n (pc := 0) (i := 1) dX6_read_0 rfl rfl ?_
          refine e_i2l (pc := 1) dX6_read_1 ?_
          refine e_lconst' (pc := 2) (lN 0) dX6_read_2 (by decide) ?_
          refine e_ldc2 (pc := 3) dX6_read_3 (klX6_148 rfl) ?_
          refine e_callS3 (pc := 6) (M' := mX6_in) dX6_read_6 jX6_in lkX6_46 (by decide) (Nat.le_of_ble_eq_true rfl) (Nat.le_of_ble_eq_true rfl) ?_
          refine sp_inY (lo := 0) (hi := 3) (by decide) (by decide) (by omega) (by omega) (by omega) ?_
          refine e_if_eq (pc := 9) (tgt := 37) dX6_read_9 (by decide) (fun h9 => absurd h9 (by decide)) (fun h9 => ?_)
          refine e_iload_n (pc := 12) (i := 2) dX6_read_12 rfl rfl ?_
          refine e_i2l (pc := 13) dX6_read_13 ?_
          refine e_lconst' (pc := 14) (lN 0) dX6_read_14 (by decide) ?_
          refine e_ldc2 (pc := 15) dX6_read_15 (klX6_150 rfl) ?_
          refine e_callS3 (pc := 18) (M' := mX6_in) dX6_read_18 jX6_in lkX6_46 (by decide) (Nat.le_of_ble_eq_true rfl) (Nat.le_of_ble_eq_true rfl) ?_
          refine sp_inY (lo := 0) (hi := 2) (by decide) (by decide) (by omega) (by omega) (by omega) ?_
          refine e_if_eq (pc := 21) (tgt := 37) dX6_read_21 (by decide) (fun h21 => absurd h21 (by decide)) (fun h21 => ?_)
          refine e_iload (pc := 24) dX6_read_24 rfl ?_
          refine e_i2l (pc := 26) dX6_read_26 ?_
          refine e_lconst' (pc := 27) (lN 0) dX6_read_27 (by decide) ?_
          refine e_ldc2 (pc := 28) dX6_read_28 (klX6_219 rfl) ?_
          refine e_callS3 (pc := 31) (M' := mX6_in) dX6_read_31 jX6_in lkX6_46 (by decide) (Nat.le_of_ble_eq_true rfl) (Nat.le_of_ble_eq_true rfl) ?_
          refine sp_inY (lo := 0) (hi := 20) (by decide) (by decide) (by omega) (by omega) (by omega) ?_
          refine e_if_ne (pc := 34) (tgt := 39) dX6_read_34 (by decide) (fun h34 => ?_) (fun h34 => absurd h34 (by decide))
          refine e_aload_n (pc := 39) (i := 0) dX6_read_39 rfl rfl ?_
          refine e_iconst' (pc := 40) (nI 0) dX6_read_40 (by decide) ?_
          refine e_bipush' (pc := 41) (nI 66) dX6_read_41 (by decide) ?_
          refine e_callV2 (pc := 43) (M' := mX6_copies) dX6_read_43 iX6_copies lkX6_167 (by decide) (rO_obj sh_54 rfl) (Nat.le_of_ble_eq_true rfl) (Nat.le_of_ble_eq_true rfl) ?_
          have hpb : PgAt Sb 0 R := hp.of (fun q h1 h2 => by rw [fb 55 (by omega), hI0 55 (by omega)]) hv5
          refine sp_copyPg (a := 0) (b := 66) (by omega) (by omega) (by omega) hv hpb (fun Sc pc fc => ?_)
          have hpc : PgAt Sc 0 R := hpb.of (fun q h1 h2 => fc.2.2 q (by omega)) hv5
          refine e_iconst' (pc := 46) (nI 0) dX6_read_46 (by decide) ?_
          refine e_istore (pc := 47) dX6_read_47 (by decide) rfl ?_
          refine e_iconst' (pc := 49) (nI 0) dX6_read_49 (by decide) ?_
          refine e_istore (pc := 50) dX6_read_50 (by decide) rfl ?_
          refine e_iconst' (pc := 52) (nI 0) dX6_read_52 (by decide) ?_
          refine e_istore (pc := 53) dX6_read_53 (by decide) rfl ?_
          refine e_iload (pc := 55) dX6_read_55 rfl ?_
          refine e_iconst' (pc := 57) (nI 2) dX6_read_57 (by decide) ?_
          refine e_iload (pc := 58) dX6_read_58 rfl ?_
          refine e_imul (pc := 60) dX6_read_60 ?_
          refine E.it (nI 0) (by decide) ?_
          refine e_icmp_ge (pc := 61) (tgt := 226) dX6_read_61 (by decide) (fun h61 => ?_) (fun h61 => absurd (by decide) h61)
          refine lm_readE ⟨rfl, ?_⟩
          refine fin_read (t := nI 0) hI hv hc (fun j hj => (fb j hj).trans (hI0 j hj)) rb0 tb ?_ (fun j h1 h2 => ?_) (fun q h1 h2 => ?_) (fun q hq => ?_) rfl
          · exact hpc.of (fun q h1 h2 => rfl) hv5
          · show up2 Sc.1 54 24 _ j = _; rw [up2_ne _ _ _ h1]; exact fc.2.1 j h2
          · exact fc.2.2 q (by omega)
          · show up2 Sc.1 54 24 _ 54 q = _; rw [up2_at]; exact (if_neg (by omega)).trans (by rw [fc.2.1 54 (by omega)])
        · rcases hI.2.2.2.2.2.1 k hk with ⟨e0, f0⟩ | ⟨l, m, hl, hm, e0, e1, e2, f0, f1, ec⟩
          · show E sc mX5_read 0 [.ref 0, .int (nI k), .int (nI la), .int v, .int (nI N), .null, .null, .null, .null] [] S _
            refine e_iload_n (pc := 0) (i := 1) dX5_read_0 rfl rfl ?_
            refine e_iconst' (pc := 1) (nI 0) dX5_read_1 (by decide) ?_
            refine e_iconst' (pc := 2) (nI 3) dX5_read_2 (by decide) ?_
            refine e_callS3 (pc := 3) (M' := mX5_within) dX5_read_3 jX5_within lkX5_70 (by decide) (Nat.le_of_ble_eq_true rfl) (Nat.le_of_ble_eq_true rfl) ?_
            refine sp_winY (by omega) (by omega) (by omega) ?_
            refine e_if_eq (pc := 6) (tgt := 29) dX5_read_6 (by decide) (fun h6 => absurd h6 (by decide)) (fun h6 => ?_)
            refine e_iload_n (pc := 9) (i := 2) dX5_read_9 rfl rfl ?_
            refine e_iconst' (pc := 10) (nI 0) dX5_read_10 (by decide) ?_
            refine e_iconst' (pc := 11) (nI 2) dX5_read_11 (by decide) ?_
            refine e_callS3 (pc := 12) (M' := mX5_within) dX5_read_12 jX5_within lkX5_70 (by decide) (Nat.le_of_ble_eq_true rfl) (Nat.le_of_ble_eq_true rfl) ?_
            refine sp_winY (by omega) (by omega) (by omega) ?_
            refine e_if_eq (pc := 15) (tgt := 29) dX5_read_15 (by decide) (fun h15 => absurd h15 (by decide)) (fun h15 => ?_)
            refine e_iload (pc := 18) dX5_read_18 rfl ?_
            refine e_iconst' (pc := 20) (nI 0) dX5_read_20 (by decide) ?_
            refine e_bipush' (pc := 21) (nI 20) dX5_read_21 (by decide) ?_
            refine e_callS3 (pc := 23) (M' := mX5_within) dX5_read_23 jX5_within lkX5_70 (by decide) (Nat.le_of_ble_eq_true rfl) (Nat.le_of_ble_eq_true rfl) ?_
            refine sp_winY (by omega) (by omega) (by omega) ?_
            refine e_if_ne (pc := 26) (tgt := 31) dX5_read_26 (by decide) (fun h26 => ?_) (fun h26 => absurd h26 (by decide))
            refine e_aload_n (pc := 31) (i := 0) dX5_read_31 rfl rfl ?_
            refine e_getR (pc := 32) dX5_read_32 (fX5_49 rfl) sh_0 rfl ?_
            refine e_iload_n (pc := 35) (i := 1) dX5_read_35 rfl rfl ?_
            refine e_aald (pc := 36) (r := (30 + 2 * k)) dX5_read_36 sh_29 (show vp_in (nI k) 4 from vp_in_nI (by omega) (by omega)) (s_at hk) ?_
            refine e_astore (pc := 37) dX5_read_37 (by decide) rfl ?_
            refine e_aload_n (pc := 39) (i := 0) dX5_read_39 rfl rfl ?_
            refine e_getR (pc := 40) dX5_read_40 (fX5_16 rfl) sh_0 rfl ?_
            refine e_aload_n (pc := 43) (i := 0) dX5_read_43 rfl rfl ?_
            refine e_getR (pc := 44) dX5_read_44 (fX5_10 rfl) sh_0 rfl ?_
            refine e_callV1 (pc := 47) (M' := mX0_copyOf) dX5_read_47 iX0_copyOf lkX5_90 (by decide) (rO_obj sh_6 rfl) (Nat.le_of_ble_eq_true rfl) (Nat.le_of_ble_eq_true rfl) ?_
            refine sp_copyOf r6 r1 (by omega) hv hr (fun Sa aa ba ca => ?_)
            have hI0 : ∀ j, 11 ≤ j → Sa.1 j = S.1 j := fun j hj => ca.2 j (by omega)
            refine e_iconst' (pc := 50) (nI 0) dX5_read_50 (by decide) ?_
            refine e_istore (pc := 51) dX5_read_51 (by decide) rfl ?_
            refine e_iconst' (pc := 53) (nI 0) dX5_read_53 (by decide) ?_
            refine e_istore (pc := 54) dX5_read_54 (by decide) rfl ?_
            refine e_iload (pc := 56) dX5_read_56 rfl ?_
            refine e_iload (pc := 58) dX5_read_58 rfl ?_
            refine e_icmp_ge (pc := 60) (tgt := 129) dX5_read_60 (by decide) (fun h60 => absurd ((nI_leI (by omega) (by omega)).mp h60) (by omega)) (fun h60 => ?_)
            replace h60 := mt (nI_leI (by omega) (by omega)).mpr h60
            refine e_iload_n (pc := 63) (i := 3) dX5_read_63 rfl rfl ?_
            refine e_iconst' (pc := 64) (nI 2) dX5_read_64 (by decide) ?_
            refine e_iload (pc := 65) dX5_read_65 rfl ?_
            refine e_imul (pc := 67) dX5_read_67 ?_
            refine E.it (nI 0) (by decide) ?_
            refine e_iadd (pc := 68) dX5_read_68 ?_
            refine E.it v (by rw [nI_0, Int32.add_zero]) ?_
            refine e_istore (pc := 69) dX5_read_69 (by decide) rfl ?_
            refine e_aload (pc := 71) dX5_read_71 rfl ?_
            refine e_iload_n (pc := 73) (i := 2) dX5_read_73 rfl rfl ?_
            refine e_iload (pc := 74) dX5_read_74 rfl ?_
            refine e_callV2 (pc := 76) (M' := mX2_faultAtPair) dX5_read_76 iX2_faultAtPair lkX5_233 (by decide) (sI_r (s_I hk)) (Nat.le_of_ble_eq_true rfl) (Nat.le_of_ble_eq_true rfl) ?_
            refine sp_pairNull (s_I hk) (by rw [ca.2 (30 + 2 * k) (by omega)]; exact e0) ?_
            refine e_istore (pc := 79) dX5_read_79 (by decide) rfl ?_
            refine e_iload (pc := 81) dX5_read_81 rfl ?_
            refine e_if_eq (pc := 83) (tgt := 89) dX5_read_83 (by decide) (fun h83 => absurd h83 (by decide)) (fun h83 => ?_)
            refine e_goto (pc := 86) (tgt := 129) dX5_read_86 (by decide) ?_
            refine lp_readE hv aa (fun Sb rb0 tb fb => ?_)
            refine ⟨_, rfl, ?_⟩
            show E sc mX6_read 0 [.ref 54, .int (nI k), .int (nI la), .int v, .int (nI N), .null, .null, .null, .null, .null] [] Sb _
            refine e_iload_n (pc := 0) (i := 1) dX6_read_0 rfl rfl ?_
            refine e_i2l (pc := 1) dX6_read_1 ?_
            refine e_lconst' (pc := 2) (lN 0) dX6_read_2 (by decide) ?_
            refine e_ldc2 (pc := 3) dX6_read_3 (klX6_148 rfl) ?_
            refine e_callS3 (pc := 6) (M' := mX6_in) dX6_read_6 jX6_in lkX6_46 (by decide) (Nat.le_of_ble_eq_true rfl) (Nat.le_of_ble_eq_true rfl) ?_
            refine sp_inY (lo := 0) (hi := 3) (by decide) (by decide) (by omega) (by omega) (by omega) ?_
            refine e_if_eq (pc := 9) (tgt := 37) dX6_read_9 (by decide) (fun h9 => absurd h9 (by decide)) (fun h9 => ?_)
            refine e_iload_n (pc := 12) (i := 2) dX6_read_12 rfl rfl ?_
            refine e_i2l (pc := 13) dX6_read_13 ?_
            refine e_lconst' (pc := 14) (lN 0) dX6_read_14 (by decide) ?_
            refine e_ldc2 (pc := 15) dX6_read_15 (klX6_150 rfl) ?_
            refine e_callS3 (pc := 18) (M' := mX6_in) dX6_read_18 jX6_in lkX6_46 (by decide) (Nat.le_of_ble_eq_true rfl) (Nat.le_of_ble_eq_true rfl) ?_
            refine sp_inY (lo := 0) (hi := 2) (by decide) (by decide) (by omega) (by omega) (by omega) ?_
            refine e_if_eq (pc := 21) (tgt := 37) dX6_read_21 (by decide) (fun h21 => absurd h21 (by decide)) (fun h21 => ?_)
            refine e_iload (pc := 24) dX6_read_24 rfl ?_
            refine e_i2l (pc := 26) dX6_read_26 ?_
            refine e_lconst' (pc := 27) (lN 0) dX6_read_27 (by decide) ?_
            refine e_ldc2 (pc := 28) dX6_read_28 (klX6_219 rfl) ?_
            refine e_callS3 (pc := 31) (M' := mX6_in) dX6_read_31 jX6_in lkX6_46 (by decide) (Nat.le_of_ble_eq_true rfl) (Nat.le_of_ble_eq_true rfl) ?_
            refine sp_inY (lo := 0) (hi := 20) (by decide) (by decide) (by omega) (by omega) (by omega) ?_
            refine e_if_ne (pc := 34) (tgt := 39) dX6_read_34 (by decide) (fun h34 => ?_) (fun h34 => absurd h34 (by decide))
            refine e_aload_n (pc := 39) (i := 0) dX6_read_39 rfl rfl ?_
            refine e_iconst' (pc := 40) (nI 0) dX6_read_40 (by decide) ?_
            refine e_bipush' (pc := 41) (nI 66) dX6_read_41 (by decide) ?_
            refine e_callV2 (pc := 43) (M' := mX6_copies) dX6_read_43 iX6_copies lkX6_167 (by decide) (rO_obj sh_54 rfl) (Nat.le_of_ble_eq_true rfl) (Nat.le_of_ble_eq_true rfl) ?_
            have hpb : PgAt Sb 0 R := hp.of (fun q h1 h2 => by rw [fb 55 (by omega), hI0 55 (by omega)]) hv5
            refine sp_copyPg (a := 0) (b := 66) (by omega) (by omega) (by omega) hv hpb (fun Sc pc fc => ?_)
            have hpc : PgAt Sc 0 R := hpb.of (fun q h1 h2 => fc.2.2 q (by omega)) hv5
            refine e_iconst' (pc := 46) (nI 0) dX6_read_46 (by decide) ?_
            refine e_istore (pc := 47) dX6_read_47 (by decide) rfl ?_
            refine e_iconst' (pc := 49) (nI 0) dX6_read_49 (by decide) ?_
            refine e_istore (pc := 50) dX6_read_50 (by decide) rfl ?_
            refine e_iconst' (pc := 52) (nI 0) dX6_read_52 (by decide) ?_
            refine e_istore (pc := 53) dX6_read_53 (by decide) rfl ?_
            refine e_iload (pc := 55) dX6_read_55 rfl ?_
            refine e_iconst' (pc := 57) (nI 2) dX6_read_57 (by decide) ?_
            refine e_iload (pc := 58) dX6_read_58 rfl ?_
            refine e_imul (pc := 60) dX6_read_60 ?_
            refine E.it (nI (2 * N)) (pk_mul _ _) ?_
            refine e_icmp_ge (pc := 61) (tgt := 226) dX6_read_61 (by decide) (fun h61 => absurd ((nI_leI (by omega) (by omega)).mp h61) (by omega)) (fun h61 => ?_)
            replace h61 := mt (nI_leI (by omega) (by omega)).mpr h61
            refine e_iload (pc := 64) dX6_read_64 rfl ?_
            refine e_if_ne (pc := 66) (tgt := 226) dX6_read_66 (by decide) (fun h66 => absurd (by decide) h66) (fun h66 => ?_)
            refine e_aload_n (pc := 69) (i := 0) dX6_read_69 rfl rfl ?_
            refine e_getR (pc := 70) dX6_read_70 (fX6_35 rfl) sh_54 rfl ?_
            refine e_iload_n (pc := 73) (i := 1) dX6_read_73 rfl rfl ?_
            refine e_iald (pc := 74) dX6_read_74 sh_63 (vp_in_nI (by omega) (by omega)) ?_
            refine E.it (-4) (by rw [nI_clamp (by omega), fc.2.1 63 (by omega), fb 63 (by omega), hI0 63 (by omega)]; exact f0) ?_
            refine e_bipush' (pc := 75) (-4) dX6_read_75 (by decide) ?_
            refine e_icmp_ne (pc := 77) (tgt := 84) dX6_read_77 (by decide) (fun h77 => absurd rfl h77) (fun h77 => ?_)
            refine e_iconst' (pc := 80) (nI 1) dX6_read_80 (by decide) ?_
            refine e_goto (pc := 81) (tgt := 125) dX6_read_81 (by decide) ?_
            refine e_istore (pc := 125) dX6_read_125 (by decide) rfl ?_
            refine e_iload (pc := 127) dX6_read_127 rfl ?_
            refine e_if_ne (pc := 129) (tgt := 220) dX6_read_129 (by decide) (fun h129 => ?_) (fun h129 => absurd h129 (by decide))
            refine e_iinc' (pc := 220) (nI (0 + 1)) dX6_read_220 rfl (by decide) rfl (nI_1 _) ?_
            refine e_goto (pc := 223) (tgt := 55) dX6_read_223 (by decide) ?_
            refine lm_readX (by omega) (by omega) ?_
            refine lm_readE ⟨rfl, ?_⟩
            refine fin_read (t := nI 1) hI hv hc (fun j hj => (fb j hj).trans (hI0 j hj)) rb0 tb ?_ (fun j h1 h2 => ?_) (fun q h1 h2 => ?_) (fun q hq => ?_) rfl
            · exact hpc.of (fun q h1 h2 => rfl) hv5
            · show up2 Sc.1 54 24 _ j = _; rw [up2_ne _ _ _ h1]; exact fc.2.1 j h2
            · exact fc.2.2 q (by omega)
            · show up2 Sc.1 54 24 _ 54 q = _; rw [up2_at]; exact (if_neg (by omega)).trans (by rw [fc.2.1 54 (by omega)])
          · by_cases hll : la = l
            · subst hll
              rcases Classical.em (inw v m) with ⟨f, rfl, hf⟩ | hn
              · obtain ⟨c, hcd⟩ : ∃ c : Nat → Int32, c = fun x => S.1 65 (40 * k + x) := ⟨_, rfl⟩
                have hcc : ∀ x, x < m → S.1 (30 + 2 * k + 1) x = c x := fun x hx => by rw [hcd, show 30 + 2 * k + 1 = 31 + 2 * k by omega]; exact ec x hx
                obtain ⟨ou, hou⟩ : ∃ ou, ou = rdF c m f N 21 0 R := ⟨_, rfl⟩
                have hob := rdF_c (c := c) (n := m) (f := f) (N := N) 21 0 R (by omega) (by omega)
                rw [← hou] at hob
                show E sc mX5_read 0 [.ref 0, .int (nI k), .int (nI la), .int (nI f), .int (nI N), .null, .null, .null, .null] [] S _
                refine e_iload_n (pc := 0) (i := 1) dX5_read_0 rfl rfl ?_
                refine e_iconst' (pc := 1) (nI 0) dX5_read_1 (by decide) ?_
                refine e_iconst' (pc := 2) (nI 3) dX5_read_2 (by decide) ?_
                refine e_callS3 (pc := 3) (M' := mX5_within) dX5_read_3 jX5_within lkX5_70 (by decide) (Nat.le_of_ble_eq_true rfl) (Nat.le_of_ble_eq_true rfl) ?_
                refine sp_winY (by omega) (by omega) (by omega) ?_
                refine e_if_eq (pc := 6) (tgt := 29) dX5_read_6 (by decide) (fun h6 => absurd h6 (by decide)) (fun h6 => ?_)
                refine e_iload_n (pc := 9) (i := 2) dX5_read_9 rfl rfl ?_
                refine e_iconst' (pc := 10) (nI 0) dX5_read_10 (by decide) ?_
                refine e_iconst' (pc := 11) (nI 2) dX5_read_11 (by decide) ?_
                refine e_callS3 (pc := 12) (M' := mX5_within) dX5_read_12 jX5_within lkX5_70 (by decide) (Nat.le_of_ble_eq_true rfl) (Nat.le_of_ble_eq_true rfl) ?_
                refine sp_winY (by omega) (by omega) (by omega) ?_
                refine e_if_eq (pc := 15) (tgt := 29) dX5_read_15 (by decide) (fun h15 => absurd h15 (by decide)) (fun h15 => ?_)
                refine e_iload (pc := 18) dX5_read_18 rfl ?_
                refine e_iconst' (pc := 20) (nI 0) dX5_read_20 (by decide) ?_
                refine e_bipush' (pc := 21) (nI 20) dX5_read_21 (by decide) ?_
                refine e_callS3 (pc := 23) (M' := mX5_within) dX5_read_23 jX5_within lkX5_70 (by decide) (Nat.le_of_ble_eq_true rfl) (Nat.le_of_ble_eq_true rfl) ?_
                refine sp_winY (by omega) (by omega) (by omega) ?_
                refine e_if_ne (pc := 26) (tgt := 31) dX5_read_26 (by decide) (fun h26 => ?_) (fun h26 => absurd h26 (by decide))
                refine e_aload_n (pc := 31) (i := 0) dX5_read_31 rfl rfl ?_
                refine e_getR (pc := 32) dX5_read_32 (fX5_49 rfl) sh_0 rfl ?_
                refine e_iload_n (pc := 35) (i := 1) dX5_read_35 rfl rfl ?_
                refine e_aald (pc := 36) (r := (30 + 2 * k)) dX5_read_36 sh_29 (show vp_in (nI k) 4 from vp_in_nI (by omega) (by omega)) (s_at hk) ?_
                refine e_astore (pc := 37) dX5_read_37 (by decide) rfl ?_
                refine e_aload_n (pc := 39) (i := 0) dX5_read_39 rfl rfl ?_
                refine e_getR (pc := 40) dX5_read_40 (fX5_16 rfl) sh_0 rfl ?_
                refine e_aload_n (pc := 43) (i := 0) dX5_read_43 rfl rfl ?_
                refine e_getR (pc := 44) dX5_read_44 (fX5_10 rfl) sh_0 rfl ?_
                refine e_callV1 (pc := 47) (M' := mX0_copyOf) dX5_read_47 iX0_copyOf lkX5_90 (by decide) (rO_obj sh_6 rfl) (Nat.le_of_ble_eq_true rfl) (Nat.le_of_ble_eq_true rfl) ?_
                refine sp_copyOf r6 r1 (by omega) hv hr (fun Sa aa ba ca => ?_)
                have hI0 : ∀ j, 11 ≤ j → Sa.1 j = S.1 j := fun j hj => ca.2 j (by omega)
                refine e_iconst' (pc := 50) (nI 0) dX5_read_50 (by decide) ?_
                refine e_istore (pc := 51) dX5_read_51 (by decide) rfl ?_
                refine e_iconst' (pc := 53) (nI 0) dX5_read_53 (by decide) ?_
                refine e_istore (pc := 54) dX5_read_54 (by decide) rfl ?_
                refine lp_read (c := c) (m := m) (ou := ou) (s_I hk) (by rw [ca.2 (30 + 2 * k) (by omega)]; exact e0) (by rw [ca.2 (30 + 2 * k) (by omega)]; exact e1) (by rw [ca.2 (30 + 2 * k) (by omega)]; exact e2) hm (by omega) hN (fun x hx => by rw [ca.2 (30 + 2 * k + 1) (by omega)]; exact hcc x hx) (fun Sb hO fb0 => ?_) (fun Sz z hO rz hvo hco fz => ?_) 21 0 R Sa _ (by omega) (by omega) hv hc aa Fr.rf hou.symm
                · refine ⟨_, rfl, ?_⟩
                  have fb : ∀ j, 11 ≤ j → Sb.1 j = Sa.1 j := fun j hj => fb0.2 j (by omega)
                  show E sc mX6_read 0 [.ref 54, .int (nI k), .int (nI la), .int (nI f), .int (nI N), .null, .null, .null, .null, .null] [] Sb _
                  refine e_iload_n (pc := 0) (i := 1) dX6_read_0 rfl rfl ?_
                  refine e_i2l (pc := 1) dX6_read_1 ?_
                  refine e_lconst' (pc := 2) (lN 0) dX6_read_2 (by decide) ?_
                  refine e_ldc2 (pc := 3) dX6_read_3 (klX6_148 rfl) ?_
                  refine e_callS3 (pc := 6) (M' := mX6_in) dX6_read_6 jX6_in lkX6_46 (by decide) (Nat.le_of_ble_eq_true rfl) (Nat.le_of_ble_eq_true rfl) ?_
                  refine sp_inY (lo := 0) (hi := 3) (by decide) (by decide) (by omega) (by omega) (by omega) ?_
                  refine e_if_eq (pc := 9) (tgt := 37) dX6_read_9 (by decide) (fun h9 => absurd h9 (by decide)) (fun h9 => ?_)
                  refine e_iload_n (pc := 12) (i := 2) dX6_read_12 rfl rfl ?_
                  refine e_i2l (pc := 13) dX6_read_13 ?_
                  refine e_lconst' (pc := 14) (lN 0) dX6_read_14 (by decide) ?_
                  refine e_ldc2 (pc := 15) dX6_read_15 (klX6_150 rfl) ?_
                  refine e_callS3 (pc := 18) (M' := mX6_in) dX6_read_18 jX6_in lkX6_46 (by decide) (Nat.le_of_ble_eq_true rfl) (Nat.le_of_ble_eq_true rfl) ?_
                  refine sp_inY (lo := 0) (hi := 2) (by decide) (by decide) (by omega) (by omega) (by omega) ?_
                  refine e_if_eq (pc := 21) (tgt := 37) dX6_read_21 (by decide) (fun h21 => absurd h21 (by decide)) (fun h21 => ?_)
                  refine e_iload (pc := 24) dX6_read_24 rfl ?_
                  refine e_i2l (pc := 26) dX6_read_26 ?_
                  refine e_lconst' (pc := 27) (lN 0) dX6_read_27 (by decide) ?_
                  refine e_ldc2 (pc := 28) dX6_read_28 (klX6_219 rfl) ?_
                  refine e_callS3 (pc := 31) (M' := mX6_in) dX6_read_31 jX6_in lkX6_46 (by decide) (Nat.le_of_ble_eq_true rfl) (Nat.le_of_ble_eq_true rfl) ?_
                  refine sp_inY (lo := 0) (hi := 20) (by decide) (by decide) (by omega) (by omega) (by omega) ?_
                  refine e_if_ne (pc := 34) (tgt := 39) dX6_read_34 (by decide) (fun h34 => ?_) (fun h34 => absurd h34 (by decide))
                  refine e_aload_n (pc := 39) (i := 0) dX6_read_39 rfl rfl ?_
                  refine e_iconst' (pc := 40) (nI 0) dX6_read_40 (by decide) ?_
                  refine e_bipush' (pc := 41) (nI 66) dX6_read_41 (by decide) ?_
                  refine e_callV2 (pc := 43) (M' := mX6_copies) dX6_read_43 iX6_copies lkX6_167 (by decide) (rO_obj sh_54 rfl) (Nat.le_of_ble_eq_true rfl) (Nat.le_of_ble_eq_true rfl) ?_
                  have hpb : PgAt Sb 0 R := hp.of (fun q h1 h2 => by rw [fb 55 (by omega), hI0 55 (by omega)]) hv5
                  refine sp_copyPg (a := 0) (b := 66) (by omega) (by omega) (by omega) hv hpb (fun Sc pc fc => ?_)
                  have hpc : PgAt Sc 0 R := hpb.of (fun q h1 h2 => fc.2.2 q (by omega)) hv5
                  refine e_iconst' (pc := 46) (nI 0) dX6_read_46 (by decide) ?_
                  refine e_istore (pc := 47) dX6_read_47 (by decide) rfl ?_
                  refine e_iconst' (pc := 49) (nI 0) dX6_read_49 (by decide) ?_
                  refine e_istore (pc := 50) dX6_read_50 (by decide) rfl ?_
                  refine e_iconst' (pc := 52) (nI 0) dX6_read_52 (by decide) ?_
                  refine e_istore (pc := 53) dX6_read_53 (by decide) rfl ?_
                  refine lm_read (c := c) (R0 := R) (ou := ou) hk hl (by rw [fc.2.1 63 (by omega), fb 63 (by omega), hI0 63 (by omega)]; exact f0) (by rw [fc.2.1 64 (by omega), fb 64 (by omega), hI0 64 (by omega)]; exact f1) hm (by omega) hN (fun x hx => by rw [fc.2.1 65 (by omega), fb 65 (by omega), hI0 65 (by omega), hcd]) hv pc (fun Sd hF pd fd => ?_) (fun Sd i2 y z hF _ _ => ?_) 21 0 R Sc _ _ (by omega) (by omega) hv hc hpc FrP.rf hou.symm
                  · refine ⟨rfl, ?_⟩
                    refine Rst.inv (S := S) ⟨fun j a => ?_, fun q a => ?_, fun q h1 h2 => ?_, fun j a => ?_⟩ hI hv hc ?_ pd
                    · rw [fd.2.1 j (by omega) (by omega), fc.2.1 j (by omega), fb0.2 j (by omega), ca.2 j (by omega)]
                    · rw [fd.2.2.2 q (by omega), fc.2.1 54 (by omega), fb0.2 54 (by omega), ca.2 54 (by omega)]
                    · rw [fd.2.2.1 q (by omega), fc.2.2 q (by omega), fb0.2 55 (by omega), ca.2 55 (by omega)]
                    · rw [fd.2.1 j (by omega) (by omega), fc.2.1 j (by omega), fb0.2 j (by omega), ca.2 j (by omega)]
                    · exact fd.row (by omega) (fc.row (by omega) ((hr.frI ca r6 r1 (by omega)).frI fb0 r6 r1 (by omega)))
                  · rw [hF] at hO; cases hO
                · refine lp_readE hvo rz (fun Sb rb0 tb fb => ?_)
                  refine ⟨_, rfl, ?_⟩
                  show E sc mX6_read 0 [.ref 54, .int (nI k), .int (nI la), .int (nI f), .int (nI N), .null, .null, .null, .null, .null] [] Sb _
                  refine e_iload_n (pc := 0) (i := 1) dX6_read_0 rfl rfl ?_
                  refine e_i2l (pc := 1) dX6_read_1 ?_
                  refine e_lconst' (pc := 2) (lN 0) dX6_read_2 (by decide) ?_
                  refine e_ldc2 (pc := 3) dX6_read_3 (klX6_148 rfl) ?_
                  refine e_callS3 (pc := 6) (M' := mX6_in) dX6_read_6 jX6_in lkX6_46 (by decide) (Nat.le_of_ble_eq_true rfl) (Nat.le_of_ble_eq_true rfl) ?_
                  refine sp_inY (lo := 0) (hi := 3) (by decide) (by decide) (by omega) (by omega) (by omega) ?_
                  refine e_if_eq (pc := 9) (tgt := 37) dX6_read_9 (by decide) (fun h9 => absurd h9 (by decide)) (fun h9 => ?_)
                  refine e_iload_n (pc := 12) (i := 2) dX6_read_12 rfl rfl ?_
                  refine e_i2l (pc := 13) dX6_read_13 ?_
                  refine e_lconst' (pc := 14) (lN 0) dX6_read_14 (by decide) ?_
                  refine e_ldc2 (pc := 15) dX6_read_15 (klX6_150 rfl) ?_
                  refine e_callS3 (pc := 18) (M' := mX6_in) dX6_read_18 jX6_in lkX6_46 (by decide) (Nat.le_of_ble_eq_true rfl) (Nat.le_of_ble_eq_true rfl) ?_
                  refine sp_inY (lo := 0) (hi := 2) (by decide) (by decide) (by omega) (by omega) (by omega) ?_
                  refine e_if_eq (pc := 21) (tgt := 37) dX6_read_21 (by decide) (fun h21 => absurd h21 (by decide)) (fun h21 => ?_)
                  refine e_iload (pc := 24) dX6_read_24 rfl ?_
                  refine e_i2l (pc := 26) dX6_read_26 ?_
                  refine e_lconst' (pc := 27) (lN 0) dX6_read_27 (by decide) ?_
                  refine e_ldc2 (pc := 28) dX6_read_28 (klX6_219 rfl) ?_
                  refine e_callS3 (pc := 31) (M' := mX6_in) dX6_read_31 jX6_in lkX6_46 (by decide) (Nat.le_of_ble_eq_true rfl) (Nat.le_of_ble_eq_true rfl) ?_
                  refine sp_inY (lo := 0) (hi := 20) (by decide) (by decide) (by omega) (by omega) (by omega) ?_
                  refine e_if_ne (pc := 34) (tgt := 39) dX6_read_34 (by decide) (fun h34 => ?_) (fun h34 => absurd h34 (by decide))
                  refine e_aload_n (pc := 39) (i := 0) dX6_read_39 rfl rfl ?_
                  refine e_iconst' (pc := 40) (nI 0) dX6_read_40 (by decide) ?_
                  refine e_bipush' (pc := 41) (nI 66) dX6_read_41 (by decide) ?_
                  refine e_callV2 (pc := 43) (M' := mX6_copies) dX6_read_43 iX6_copies lkX6_167 (by decide) (rO_obj sh_54 rfl) (Nat.le_of_ble_eq_true rfl) (Nat.le_of_ble_eq_true rfl) ?_
                  have hpb : PgAt Sb 0 R := hp.of (fun q h1 h2 => by rw [fb 55 (by omega), fz.2 55 (by omega), hI0 55 (by omega)]) hv5
                  refine sp_copyPg (a := 0) (b := 66) (by omega) (by omega) (by omega) hv hpb (fun Sc pc fc => ?_)
                  have hpc : PgAt Sc 0 R := hpb.of (fun q h1 h2 => fc.2.2 q (by omega)) hv5
                  refine e_iconst' (pc := 46) (nI 0) dX6_read_46 (by decide) ?_
                  refine e_istore (pc := 47) dX6_read_47 (by decide) rfl ?_
                  refine e_iconst' (pc := 49) (nI 0) dX6_read_49 (by decide) ?_
                  refine e_istore (pc := 50) dX6_read_50 (by decide) rfl ?_
                  refine e_iconst' (pc := 52) (nI 0) dX6_read_52 (by decide) ?_
                  refine e_istore (pc := 53) dX6_read_53 (by decide) rfl ?_
                  refine lm_read (c := c) (R0 := R) (ou := ou) hk hl (by rw [fc.2.1 63 (by omega), fb 63 (by omega), fz.2 63 (by omega), hI0 63 (by omega)]; exact f0) (by rw [fc.2.1 64 (by omega), fb 64 (by omega), fz.2 64 (by omega), hI0 64 (by omega)]; exact f1) hm (by omega) hN (fun x hx => by rw [fc.2.1 65 (by omega), fb 65 (by omega), fz.2 65 (by omega), hI0 65 (by omega), hcd]) hv pc (fun Sd hF _ _ => ?_) (fun Sd i2 y z hF pd fd => ?_) 21 0 R Sc _ _ (by omega) (by omega) hv hc hpc FrP.rf hou.symm
                  · rw [hF] at hO; cases hO
                  · refine lm_readE ⟨rfl, ?_⟩
                    refine fin_read (t := nI ou.2.2.1) hI hvo hco (fun j hj => ((fb j hj).trans (fz.2 j (by omega))).trans (hI0 j hj)) rb0 tb (pd.of (fun q h1 h2 => rfl) hvo.1) (fun j h1 h2 => ?_) (fun q h1 h2 => ?_) (fun q hq => ?_) rfl
                    · show up2 Sd.1 54 24 _ j = _; rw [up2_ne _ _ _ h1]; exact (fd.2.1 j h1 h2).trans (fc.2.1 j h2)
                    · exact (fd.2.2.1 q (by omega)).trans (fc.2.2 q (by omega))
                    · show up2 Sd.1 54 24 _ 54 q = _; rw [up2_at]; exact (if_neg (by omega)).trans ((fd.2.2.2 q (by omega)).trans (by rw [fc.2.1 54 (by omega)]))
              · show E sc mX5_read 0 [.ref 0, .int (nI k), .int (nI la), .int v, .int (nI N), .null, .null, .null, .null] [] S _
                refine e_iload_n (pc := 0) (i := 1) dX5_read_0 rfl rfl ?_
                refine e_iconst' (pc := 1) (nI 0) dX5_read_1 (by decide) ?_
                refine e_iconst' (pc := 2) (nI 3) dX5_read_2 (by decide) ?_
                refine e_callS3 (pc := 3) (M' := mX5_within) dX5_read_3 jX5_within lkX5_70 (by decide) (Nat.le_of_ble_eq_true rfl) (Nat.le_of_ble_eq_true rfl) ?_
                refine sp_winY (by omega) (by omega) (by omega) ?_
                refine e_if_eq (pc := 6) (tgt := 29) dX5_read_6 (by decide) (fun h6 => absurd h6 (by decide)) (fun h6 => ?_)
                refine e_iload_n (pc := 9) (i := 2) dX5_read_9 rfl rfl ?_
                refine e_iconst' (pc := 10) (nI 0) dX5_read_10 (by decide) ?_
                refine e_iconst' (pc := 11) (nI 2) dX5_read_11 (by decide) ?_
                refine e_callS3 (pc := 12) (M' := mX5_within) dX5_read_12 jX5_within lkX5_70 (by decide) (Nat.le_of_ble_eq_true rfl) (Nat.le_of_ble_eq_true rfl) ?_
                refine sp_winY (by omega) (by omega) (by omega) ?_
                refine e_if_eq (pc := 15) (tgt := 29) dX5_read_15 (by decide) (fun h15 => absurd h15 (by decide)) (fun h15 => ?_)
                refine e_iload (pc := 18) dX5_read_18 rfl ?_
                refine e_iconst' (pc := 20) (nI 0) dX5_read_20 (by decide) ?_
                refine e_bipush' (pc := 21) (nI 20) dX5_read_21 (by decide) ?_
                refine e_callS3 (pc := 23) (M' := mX5_within) dX5_read_23 jX5_within lkX5_70 (by decide) (Nat.le_of_ble_eq_true rfl) (Nat.le_of_ble_eq_true rfl) ?_
                refine sp_winY (by omega) (by omega) (by omega) ?_
                refine e_if_ne (pc := 26) (tgt := 31) dX5_read_26 (by decide) (fun h26 => ?_) (fun h26 => absurd h26 (by decide))
                refine e_aload_n (pc := 31) (i := 0) dX5_read_31 rfl rfl ?_
                refine e_getR (pc := 32) dX5_read_32 (fX5_49 rfl) sh_0 rfl ?_
                refine e_iload_n (pc := 35) (i := 1) dX5_read_35 rfl rfl ?_
                refine e_aald (pc := 36) (r := (30 + 2 * k)) dX5_read_36 sh_29 (show vp_in (nI k) 4 from vp_in_nI (by omega) (by omega)) (s_at hk) ?_
                refine e_astore (pc := 37) dX5_read_37 (by decide) rfl ?_
                refine e_aload_n (pc := 39) (i := 0) dX5_read_39 rfl rfl ?_
                refine e_getR (pc := 40) dX5_read_40 (fX5_16 rfl) sh_0 rfl ?_
                refine e_aload_n (pc := 43) (i := 0) dX5_read_43 rfl rfl ?_
                refine e_getR (pc := 44) dX5_read_44 (fX5_10 rfl) sh_0 rfl ?_
                refine e_callV1 (pc := 47) (M' := mX0_copyOf) dX5_read_47 iX0_copyOf lkX5_90 (by decide) (rO_obj sh_6 rfl) (Nat.le_of_ble_eq_true rfl) (Nat.le_of_ble_eq_true rfl) ?_
                refine sp_copyOf r6 r1 (by omega) hv hr (fun Sa aa ba ca => ?_)
                have hI0 : ∀ j, 11 ≤ j → Sa.1 j = S.1 j := fun j hj => ca.2 j (by omega)
                refine e_iconst' (pc := 50) (nI 0) dX5_read_50 (by decide) ?_
                refine e_istore (pc := 51) dX5_read_51 (by decide) rfl ?_
                refine e_iconst' (pc := 53) (nI 0) dX5_read_53 (by decide) ?_
                refine e_istore (pc := 54) dX5_read_54 (by decide) rfl ?_
                refine e_iload (pc := 56) dX5_read_56 rfl ?_
                refine e_iload (pc := 58) dX5_read_58 rfl ?_
                refine e_icmp_ge (pc := 60) (tgt := 129) dX5_read_60 (by decide) (fun h60 => absurd ((nI_leI (by omega) (by omega)).mp h60) (by omega)) (fun h60 => ?_)
                replace h60 := mt (nI_leI (by omega) (by omega)).mpr h60
                refine e_iload_n (pc := 63) (i := 3) dX5_read_63 rfl rfl ?_
                refine e_iconst' (pc := 64) (nI 2) dX5_read_64 (by decide) ?_
                refine e_iload (pc := 65) dX5_read_65 rfl ?_
                refine e_imul (pc := 67) dX5_read_67 ?_
                refine E.it (nI 0) (by decide) ?_
                refine e_iadd (pc := 68) dX5_read_68 ?_
                refine E.it v (by rw [nI_0, Int32.add_zero]) ?_
                refine e_istore (pc := 69) dX5_read_69 (by decide) rfl ?_
                refine e_aload (pc := 71) dX5_read_71 rfl ?_
                refine e_iload_n (pc := 73) (i := 2) dX5_read_73 rfl rfl ?_
                refine e_iload (pc := 74) dX5_read_74 rfl ?_
                refine e_callV2 (pc := 76) (M' := mX2_faultAtPair) dX5_read_76 iX2_faultAtPair lkX5_233 (by decide) (sI_r (s_I hk)) (Nat.le_of_ble_eq_true rfl) (Nat.le_of_ble_eq_true rfl) ?_
                refine sp_pairOut (s_I hk) (by rw [ca.2 (30 + 2 * k) (by omega)]; exact e0) (by rw [ca.2 (30 + 2 * k) (by omega)]; exact e1) (by rw [ca.2 (30 + 2 * k) (by omega)]; exact e2) hm hn ?_
                refine e_istore (pc := 79) dX5_read_79 (by decide) rfl ?_
                refine e_iload (pc := 81) dX5_read_81 rfl ?_
                refine e_if_eq (pc := 83) (tgt := 89) dX5_read_83 (by decide) (fun h83 => absurd h83 (by decide)) (fun h83 => ?_)
                refine e_goto (pc := 86) (tgt := 129) dX5_read_86 (by decide) ?_
                refine lp_readE hv aa (fun Sb rb0 tb fb => ?_)
                refine ⟨_, rfl, ?_⟩
                show E sc mX6_read 0 [.ref 54, .int (nI k), .int (nI la), .int v, .int (nI N), .null, .null, .null, .null, .null] [] Sb _
                refine e_iload_n (pc := 0) (i := 1) dX6_read_0 rfl rfl ?_
                refine e_i2l (pc := 1) dX6_read_1 ?_
                refine e_lconst' (pc := 2) (lN 0) dX6_read_2 (by decide) ?_
                refine e_ldc2 (pc := 3) dX6_read_3 (klX6_148 rfl) ?_
                refine e_callS3 (pc := 6) (M' := mX6_in) dX6_read_6 jX6_in lkX6_46 (by decide) (Nat.le_of_ble_eq_true rfl) (Nat.le_of_ble_eq_true rfl) ?_
                refine sp_inY (lo := 0) (hi := 3) (by decide) (by decide) (by omega) (by omega) (by omega) ?_
                refine e_if_eq (pc := 9) (tgt := 37) dX6_read_9 (by decide) (fun h9 => absurd h9 (by decide)) (fun h9 => ?_)
                refine e_iload_n (pc := 12) (i := 2) dX6_read_12 rfl rfl ?_
                refine e_i2l (pc := 13) dX6_read_13 ?_
                refine e_lconst' (pc := 14) (lN 0) dX6_read_14 (by decide) ?_
                refine e_ldc2 (pc := 15) dX6_read_15 (klX6_150 rfl) ?_
                refine e_callS3 (pc := 18) (M' := mX6_in) dX6_read_18 jX6_in lkX6_46 (by decide) (Nat.le_of_ble_eq_true rfl) (Nat.le_of_ble_eq_true rfl) ?_
                refine sp_inY (lo := 0) (hi := 2) (by decide) (by decide) (by omega) (by omega) (by omega) ?_
                refine e_if_eq (pc := 21) (tgt := 37) dX6_read_21 (by decide) (fun h21 => absurd h21 (by decide)) (fun h21 => ?_)
                refine e_iload (pc := 24) dX6_read_24 rfl ?_
                refine e_i2l (pc := 26) dX6_read_26 ?_
                refine e_lconst' (pc := 27) (lN 0) dX6_read_27 (by decide) ?_
                refine e_ldc2 (pc := 28) dX6_read_28 (klX6_219 rfl) ?_
                refine e_callS3 (pc := 31) (M' := mX6_in) dX6_read_31 jX6_in lkX6_46 (by decide) (Nat.le_of_ble_eq_true rfl) (Nat.le_of_ble_eq_true rfl) ?_
                refine sp_inY (lo := 0) (hi := 20) (by decide) (by decide) (by omega) (by omega) (by omega) ?_
                refine e_if_ne (pc := 34) (tgt := 39) dX6_read_34 (by decide) (fun h34 => ?_) (fun h34 => absurd h34 (by decide))
                refine e_aload_n (pc := 39) (i := 0) dX6_read_39 rfl rfl ?_
                refine e_iconst' (pc := 40) (nI 0) dX6_read_40 (by decide) ?_
                refine e_bipush' (pc := 41) (nI 66) dX6_read_41 (by decide) ?_
                refine e_callV2 (pc := 43) (M' := mX6_copies) dX6_read_43 iX6_copies lkX6_167 (by decide) (rO_obj sh_54 rfl) (Nat.le_of_ble_eq_true rfl) (Nat.le_of_ble_eq_true rfl) ?_
                have hpb : PgAt Sb 0 R := hp.of (fun q h1 h2 => by rw [fb 55 (by omega), hI0 55 (by omega)]) hv5
                refine sp_copyPg (a := 0) (b := 66) (by omega) (by omega) (by omega) hv hpb (fun Sc pc fc => ?_)
                have hpc : PgAt Sc 0 R := hpb.of (fun q h1 h2 => fc.2.2 q (by omega)) hv5
                refine e_iconst' (pc := 46) (nI 0) dX6_read_46 (by decide) ?_
                refine e_istore (pc := 47) dX6_read_47 (by decide) rfl ?_
                refine e_iconst' (pc := 49) (nI 0) dX6_read_49 (by decide) ?_
                refine e_istore (pc := 50) dX6_read_50 (by decide) rfl ?_
                refine e_iconst' (pc := 52) (nI 0) dX6_read_52 (by decide) ?_
                refine e_istore (pc := 53) dX6_read_53 (by decide) rfl ?_
                refine e_iload (pc := 55) dX6_read_55 rfl ?_
                refine e_iconst' (pc := 57) (nI 2) dX6_read_57 (by decide) ?_
                refine e_iload (pc := 58) dX6_read_58 rfl ?_
                refine e_imul (pc := 60) dX6_read_60 ?_
                refine E.it (nI (2 * N)) (pk_mul _ _) ?_
                refine e_icmp_ge (pc := 61) (tgt := 226) dX6_read_61 (by decide) (fun h61 => absurd ((nI_leI (by omega) (by omega)).mp h61) (by omega)) (fun h61 => ?_)
                replace h61 := mt (nI_leI (by omega) (by omega)).mpr h61
                refine e_iload (pc := 64) dX6_read_64 rfl ?_
                refine e_if_ne (pc := 66) (tgt := 226) dX6_read_66 (by decide) (fun h66 => absurd (by decide) h66) (fun h66 => ?_)
                refine e_aload_n (pc := 69) (i := 0) dX6_read_69 rfl rfl ?_
                refine e_getR (pc := 70) dX6_read_70 (fX6_35 rfl) sh_54 rfl ?_
                refine e_iload_n (pc := 73) (i := 1) dX6_read_73 rfl rfl ?_
                refine e_iald (pc := 74) dX6_read_74 sh_63 (vp_in_nI (by omega) (by omega)) ?_
                refine E.it (nI la) (by rw [nI_clamp (by omega), fc.2.1 63 (by omega), fb 63 (by omega), hI0 63 (by omega)]; exact f0) ?_
                refine e_bipush' (pc := 75) (-4) dX6_read_75 (by decide) ?_
                refine e_icmp_ne (pc := 77) (tgt := 84) dX6_read_77 (by decide) (fun h77 => ?_) (fun h77 => absurd h77 (fun q => absurd (congrArg Int32.toInt q) (by rw [nI_toInt (by omega)]; show ¬ (la : Int) = -4; omega)))
                refine e_aload_n (pc := 84) (i := 0) dX6_read_84 rfl rfl ?_
                refine e_getR (pc := 85) dX6_read_85 (fX6_35 rfl) sh_54 rfl ?_
                refine e_iload_n (pc := 88) (i := 1) dX6_read_88 rfl rfl ?_
                refine e_iald (pc := 89) dX6_read_89 sh_63 (vp_in_nI (by omega) (by omega)) ?_
                refine E.it (nI la) (by rw [nI_clamp (by omega), fc.2.1 63 (by omega), fb 63 (by omega), hI0 63 (by omega)]; exact f0) ?_
                refine e_iload_n (pc := 90) (i := 2) dX6_read_90 rfl rfl ?_
                refine e_icmp_eq (pc := 91) (tgt := 98) dX6_read_91 (by decide) (fun h91 => ?_) (fun h91 => absurd rfl h91)
                refine e_iload_n (pc := 98) (i := 3) dX6_read_98 rfl rfl ?_
                refine e_i2l (pc := 99) dX6_read_99 ?_
                refine e_iload (pc := 100) dX6_read_100 rfl ?_
                refine e_i2l (pc := 102) dX6_read_102 ?_
                refine E.lt (lN 0) (nI_l (by omega)) ?_
                refine e_ladd (pc := 103) dX6_read_103 ?_
                refine E.lt v.toInt64 (Int64.add_zero _) ?_
                refine e_lconst' (pc := 104) (lN 0) dX6_read_104 (by decide) ?_
                refine e_aload_n (pc := 105) (i := 0) dX6_read_105 rfl rfl ?_
                refine e_getR (pc := 106) dX6_read_106 (fX6_38 rfl) sh_54 rfl ?_
                refine e_iload_n (pc := 109) (i := 1) dX6_read_109 rfl rfl ?_
                refine e_iald (pc := 110) dX6_read_110 sh_64 (vp_in_nI (by omega) (by omega)) ?_
                refine E.it (nI m) (by rw [nI_clamp (by omega), fc.2.1 64 (by omega), fb 64 (by omega), hI0 64 (by omega)]; exact f1) ?_
                refine e_iconst' (pc := 111) (nI 1) dX6_read_111 (by decide) ?_
                refine e_isub (pc := 112) dX6_read_112 ?_
                refine e_i2l (pc := 113) dX6_read_113 ?_
                refine e_callS3 (pc := 114) (M' := mX6_in) dX6_read_114 jX6_in lkX6_46 (by decide) (Nat.le_of_ble_eq_true rfl) (Nat.le_of_ble_eq_true rfl) ?_
                refine sp_inI (lo := 0) (hi := (m : Int) - 1) (by decide) (by rw [Int32.toInt_toInt64, pk_sub_toInt (by omega) (by decide)]; rfl) (fun b hb e g1 g2 => (hn ⟨b, e, by omega⟩).elim) (fun _ => ?_)
                refine e_if_ne (pc := 117) (tgt := 124) dX6_read_117 (by decide) (fun h117 => absurd (by decide) h117) (fun h117 => ?_)
                refine e_iconst' (pc := 120) (nI 2) dX6_read_120 (by decide) ?_
                refine e_goto (pc := 121) (tgt := 125) dX6_read_121 (by decide) ?_
                refine e_istore (pc := 125) dX6_read_125 (by decide) rfl ?_
                refine e_iload (pc := 127) dX6_read_127 rfl ?_
                refine e_if_ne (pc := 129) (tgt := 220) dX6_read_129 (by decide) (fun h129 => ?_) (fun h129 => absurd h129 (by decide))
                refine e_iinc' (pc := 220) (nI (0 + 1)) dX6_read_220 rfl (by decide) rfl (nI_1 _) ?_
                refine e_goto (pc := 223) (tgt := 55) dX6_read_223 (by decide) ?_
                refine lm_readX (by omega) (by omega) ?_
                refine lm_readE ⟨rfl, ?_⟩
                refine fin_read (t := nI 2) hI hv hc (fun j hj => (fb j hj).trans (hI0 j hj)) rb0 tb ?_ (fun j h1 h2 => ?_) (fun q h1 h2 => ?_) (fun q hq => ?_) rfl
                · exact hpc.of (fun q h1 h2 => rfl) hv5
                · show up2 Sc.1 54 24 _ j = _; rw [up2_ne _ _ _ h1]; exact fc.2.1 j h2
                · exact fc.2.2 q (by omega)
                · show up2 Sc.1 54 24 _ 54 q = _; rw [up2_at]; exact (if_neg (by omega)).trans (by rw [fc.2.1 54 (by omega)])
            · show E sc mX5_read 0 [.ref 0, .int (nI k), .int (nI la), .int v, .int (nI N), .null, .null, .null, .null] [] S _
              refine e_iload_n (pc := 0) (i := 1) dX5_read_0 rfl rfl ?_
              refine e_iconst' (pc := 1) (nI 0) dX5_read_1 (by decide) ?_
              refine e_iconst' (pc := 2) (nI 3) dX5_read_2 (by decide) ?_
              refine e_callS3 (pc := 3) (M' := mX5_within) dX5_read_3 jX5_within lkX5_70 (by decide) (Nat.le_of_ble_eq_true rfl) (Nat.le_of_ble_eq_true rfl) ?_
              refine sp_winY (by omega) (by omega) (by omega) ?_
              refine e_if_eq (pc := 6) (tgt := 29) dX5_read_6 (by decide) (fun h6 => absurd h6 (by decide)) (fun h6 => ?_)
              refine e_iload_n (pc := 9) (i := 2) dX5_read_9 rfl rfl ?_
              refine e_iconst' (pc := 10) (nI 0) dX5_read_10 (by decide) ?_
              refine e_iconst' (pc := 11) (nI 2) dX5_read_11 (by decide) ?_
              refine e_callS3 (pc := 12) (M' := mX5_within) dX5_read_12 jX5_within lkX5_70 (by decide) (Nat.le_of_ble_eq_true rfl) (Nat.le_of_ble_eq_true rfl) ?_
              refine sp_winY (by omega) (by omega) (by omega) ?_
              refine e_if_eq (pc := 15) (tgt := 29) dX5_read_15 (by decide) (fun h15 => absurd h15 (by decide)) (fun h15 => ?_)
              refine e_iload (pc := 18) dX5_read_18 rfl ?_
              refine e_iconst' (pc := 20) (nI 0) dX5_read_20 (by decide) ?_
              refine e_bipush' (pc := 21) (nI 20) dX5_read_21 (by decide) ?_
              refine e_callS3 (pc := 23) (M' := mX5_within) dX5_read_23 jX5_within lkX5_70 (by decide) (Nat.le_of_ble_eq_true rfl) (Nat.le_of_ble_eq_true rfl) ?_
              refine sp_winY (by omega) (by omega) (by omega) ?_
              refine e_if_ne (pc := 26) (tgt := 31) dX5_read_26 (by decide) (fun h26 => ?_) (fun h26 => absurd h26 (by decide))
              refine e_aload_n (pc := 31) (i := 0) dX5_read_31 rfl rfl ?_
              refine e_getR (pc := 32) dX5_read_32 (fX5_49 rfl) sh_0 rfl ?_
              refine e_iload_n (pc := 35) (i := 1) dX5_read_35 rfl rfl ?_
              refine e_aald (pc := 36) (r := (30 + 2 * k)) dX5_read_36 sh_29 (show vp_in (nI k) 4 from vp_in_nI (by omega) (by omega)) (s_at hk) ?_
              refine e_astore (pc := 37) dX5_read_37 (by decide) rfl ?_
              refine e_aload_n (pc := 39) (i := 0) dX5_read_39 rfl rfl ?_
              refine e_getR (pc := 40) dX5_read_40 (fX5_16 rfl) sh_0 rfl ?_
              refine e_aload_n (pc := 43) (i := 0) dX5_read_43 rfl rfl ?_
              refine e_getR (pc := 44) dX5_read_44 (fX5_10 rfl) sh_0 rfl ?_
              refine e_callV1 (pc := 47) (M' := mX0_copyOf) dX5_read_47 iX0_copyOf lkX5_90 (by decide) (rO_obj sh_6 rfl) (Nat.le_of_ble_eq_true rfl) (Nat.le_of_ble_eq_true rfl) ?_
              refine sp_copyOf r6 r1 (by omega) hv hr (fun Sa aa ba ca => ?_)
              have hI0 : ∀ j, 11 ≤ j → Sa.1 j = S.1 j := fun j hj => ca.2 j (by omega)
              refine e_iconst' (pc := 50) (nI 0) dX5_read_50 (by decide) ?_
              refine e_istore (pc := 51) dX5_read_51 (by decide) rfl ?_
              refine e_iconst' (pc := 53) (nI 0) dX5_read_53 (by decide) ?_
              refine e_istore (pc := 54) dX5_read_54 (by decide) rfl ?_
              refine e_iload (pc := 56) dX5_read_56 rfl ?_
              refine e_iload (pc := 58) dX5_read_58 rfl ?_
              refine e_icmp_ge (pc := 60) (tgt := 129) dX5_read_60 (by decide) (fun h60 => absurd ((nI_leI (by omega) (by omega)).mp h60) (by omega)) (fun h60 => ?_)
              replace h60 := mt (nI_leI (by omega) (by omega)).mpr h60
              refine e_iload_n (pc := 63) (i := 3) dX5_read_63 rfl rfl ?_
              refine e_iconst' (pc := 64) (nI 2) dX5_read_64 (by decide) ?_
              refine e_iload (pc := 65) dX5_read_65 rfl ?_
              refine e_imul (pc := 67) dX5_read_67 ?_
              refine E.it (nI 0) (by decide) ?_
              refine e_iadd (pc := 68) dX5_read_68 ?_
              refine E.it v (by rw [nI_0, Int32.add_zero]) ?_
              refine e_istore (pc := 69) dX5_read_69 (by decide) rfl ?_
              refine e_aload (pc := 71) dX5_read_71 rfl ?_
              refine e_iload_n (pc := 73) (i := 2) dX5_read_73 rfl rfl ?_
              refine e_iload (pc := 74) dX5_read_74 rfl ?_
              refine e_callV2 (pc := 76) (M' := mX2_faultAtPair) dX5_read_76 iX2_faultAtPair lkX5_233 (by decide) (sI_r (s_I hk)) (Nat.le_of_ble_eq_true rfl) (Nat.le_of_ble_eq_true rfl) ?_
              refine sp_pairCast (s_I hk) (by rw [ca.2 (30 + 2 * k) (by omega)]; exact e0) (by rw [ca.2 (30 + 2 * k) (by omega)]; exact e1) (fun q => hll ((nI_eq (by omega) (by omega)).mp q)) ?_
              refine e_istore (pc := 79) dX5_read_79 (by decide) rfl ?_
              refine e_iload (pc := 81) dX5_read_81 rfl ?_
              refine e_if_eq (pc := 83) (tgt := 89) dX5_read_83 (by decide) (fun h83 => absurd h83 (by decide)) (fun h83 => ?_)
              refine e_goto (pc := 86) (tgt := 129) dX5_read_86 (by decide) ?_
              refine lp_readE hv aa (fun Sb rb0 tb fb => ?_)
              refine ⟨_, rfl, ?_⟩
              show E sc mX6_read 0 [.ref 54, .int (nI k), .int (nI la), .int v, .int (nI N), .null, .null, .null, .null, .null] [] Sb _
              refine e_iload_n (pc := 0) (i := 1) dX6_read_0 rfl rfl ?_
              refine e_i2l (pc := 1) dX6_read_1 ?_
              refine e_lconst' (pc := 2) (lN 0) dX6_read_2 (by decide) ?_
              refine e_ldc2 (pc := 3) dX6_read_3 (klX6_148 rfl) ?_
              refine e_callS3 (pc := 6) (M' := mX6_in) dX6_read_6 jX6_in lkX6_46 (by decide) (Nat.le_of_ble_eq_true rfl) (Nat.le_of_ble_eq_true rfl) ?_
              refine sp_inY (lo := 0) (hi := 3) (by decide) (by decide) (by omega) (by omega) (by omega) ?_
              refine e_if_eq (pc := 9) (tgt := 37) dX6_read_9 (by decide) (fun h9 => absurd h9 (by decide)) (fun h9 => ?_)
              refine e_iload_n (pc := 12) (i := 2) dX6_read_12 rfl rfl ?_
              refine e_i2l (pc := 13) dX6_read_13 ?_
              refine e_lconst' (pc := 14) (lN 0) dX6_read_14 (by decide) ?_
              refine e_ldc2 (pc := 15) dX6_read_15 (klX6_150 rfl) ?_
              refine e_callS3 (pc := 18) (M' := mX6_in) dX6_read_18 jX6_in lkX6_46 (by decide) (Nat.le_of_ble_eq_true rfl) (Nat.le_of_ble_eq_true rfl) ?_
              refine sp_inY (lo := 0) (hi := 2) (by decide) (by decide) (by omega) (by omega) (by omega) ?_
              refine e_if_eq (pc := 21) (tgt := 37) dX6_read_21 (by decide) (fun h21 => absurd h21 (by decide)) (fun h21 => ?_)
              refine e_iload (pc := 24) dX6_read_24 rfl ?_
              refine e_i2l (pc := 26) dX6_read_26 ?_
              refine e_lconst' (pc := 27) (lN 0) dX6_read_27 (by decide) ?_
              refine e_ldc2 (pc := 28) dX6_read_28 (klX6_219 rfl) ?_
              refine e_callS3 (pc := 31) (M' := mX6_in) dX6_read_31 jX6_in lkX6_46 (by decide) (Nat.le_of_ble_eq_true rfl) (Nat.le_of_ble_eq_true rfl) ?_
              refine sp_inY (lo := 0) (hi := 20) (by decide) (by decide) (by omega) (by omega) (by omega) ?_
              refine e_if_ne (pc := 34) (tgt := 39) dX6_read_34 (by decide) (fun h34 => ?_) (fun h34 => absurd h34 (by decide))
              refine e_aload_n (pc := 39) (i := 0) dX6_read_39 rfl rfl ?_
              refine e_iconst' (pc := 40) (nI 0) dX6_read_40 (by decide) ?_
              refine e_bipush' (pc := 41) (nI 66) dX6_read_41 (by decide) ?_
              refine e_callV2 (pc := 43) (M' := mX6_copies) dX6_read_43 iX6_copies lkX6_167 (by decide) (rO_obj sh_54 rfl) (Nat.le_of_ble_eq_true rfl) (Nat.le_of_ble_eq_true rfl) ?_
              have hpb : PgAt Sb 0 R := hp.of (fun q h1 h2 => by rw [fb 55 (by omega), hI0 55 (by omega)]) hv5
              refine sp_copyPg (a := 0) (b := 66) (by omega) (by omega) (by omega) hv hpb (fun Sc pc fc => ?_)
              have hpc : PgAt Sc 0 R := hpb.of (fun q h1 h2 => fc.2.2 q (by omega)) hv5
              refine e_iconst' (pc := 46) (nI 0) dX6_read_46 (by decide) ?_
              refine e_istore (pc := 47) dX6_read_47 (by decide) rfl ?_
              refine e_iconst' (pc := 49) (nI 0) dX6_read_49 (by decide) ?_
              refine e_istore (pc := 50) dX6_read_50 (by decide) rfl ?_
              refine e_iconst' (pc := 52) (nI 0) dX6_read_52 (by decide) ?_
              refine e_istore (pc := 53) dX6_read_53 (by decide) rfl ?_
              refine e_iload (pc := 55) dX6_read_55 rfl ?_
              refine e_iconst' (pc := 57) (nI 2) dX6_read_57 (by decide) ?_
              refine e_iload (pc := 58) dX6_read_58 rfl ?_
              refine e_imul (pc := 60) dX6_read_60 ?_
              refine E.it (nI (2 * N)) (pk_mul _ _) ?_
              refine e_icmp_ge (pc := 61) (tgt := 226) dX6_read_61 (by decide) (fun h61 => absurd ((nI_leI (by omega) (by omega)).mp h61) (by omega)) (fun h61 => ?_)
              replace h61 := mt (nI_leI (by omega) (by omega)).mpr h61
              refine e_iload (pc := 64) dX6_read_64 rfl ?_
              refine e_if_ne (pc := 66) (tgt := 226) dX6_read_66 (by decide) (fun h66 => absurd (by decide) h66) (fun h66 => ?_)
              refine e_aload_n (pc := 69) (i := 0) dX6_read_69 rfl rfl ?_
              refine e_getR (pc := 70) dX6_read_70 (fX6_35 rfl) sh_54 rfl ?_
              refine e_iload_n (pc := 73) (i := 1) dX6_read_73 rfl rfl ?_
              refine e_iald (pc := 74) dX6_read_74 sh_63 (vp_in_nI (by omega) (by omega)) ?_
              refine E.it (nI l) (by rw [nI_clamp (by omega), fc.2.1 63 (by omega), fb 63 (by omega), hI0 63 (by omega)]; exact f0) ?_
              refine e_bipush' (pc := 75) (-4) dX6_read_75 (by decide) ?_
              refine e_icmp_ne (pc := 77) (tgt := 84) dX6_read_77 (by decide) (fun h77 => ?_) (fun h77 => absurd h77 (fun q => absurd (congrArg Int32.toInt q) (by rw [nI_toInt (by omega)]; show ¬ (l : Int) = -4; omega)))
              refine e_aload_n (pc := 84) (i := 0) dX6_read_84 rfl rfl ?_
              refine e_getR (pc := 85) dX6_read_85 (fX6_35 rfl) sh_54 rfl ?_
              refine e_iload_n (pc := 88) (i := 1) dX6_read_88 rfl rfl ?_
              refine e_iald (pc := 89) dX6_read_89 sh_63 (vp_in_nI (by omega) (by omega)) ?_
              refine E.it (nI l) (by rw [nI_clamp (by omega), fc.2.1 63 (by omega), fb 63 (by omega), hI0 63 (by omega)]; exact f0) ?_
              refine e_iload_n (pc := 90) (i := 2) dX6_read_90 rfl rfl ?_
              refine e_icmp_eq (pc := 91) (tgt := 98) dX6_read_91 (by decide) (fun h91 => (hll ((nI_eq (by omega) (by omega)).mp h91).symm).elim) (fun h91 => ?_)
              refine e_iconst' (pc := 94) (nI 3) dX6_read_94 (by decide) ?_
              refine e_goto (pc := 95) (tgt := 125) dX6_read_95 (by decide) ?_
              refine e_istore (pc := 125) dX6_read_125 (by decide) rfl ?_
              refine e_iload (pc := 127) dX6_read_127 rfl ?_
              refine e_if_ne (pc := 129) (tgt := 220) dX6_read_129 (by decide) (fun h129 => ?_) (fun h129 => absurd h129 (by decide))
              refine e_iinc' (pc := 220) (nI (0 + 1)) dX6_read_220 rfl (by decide) rfl (nI_1 _) ?_
              refine e_goto (pc := 223) (tgt := 55) dX6_read_223 (by decide) ?_
              refine lm_readX (by omega) (by omega) ?_
              refine lm_readE ⟨rfl, ?_⟩
              refine fin_read (t := nI 3) hI hv hc (fun j hj => (fb j hj).trans (hI0 j hj)) rb0 tb ?_ (fun j h1 h2 => ?_) (fun q h1 h2 => ?_) (fun q hq => ?_) rfl
              · exact hpc.of (fun q h1 h2 => rfl) hv5
              · show up2 Sc.1 54 24 _ j = _; rw [up2_ne _ _ _ h1]; exact fc.2.1 j h2
              · exact fc.2.2 q (by omega)
              · show up2 Sc.1 54 24 _ 54 q = _; rw [up2_at]; exact (if_neg (by omega)).trans (by rw [fc.2.1 54 (by omega)])
      · refine ask_both (-1) hI (fun Q kq => ?_) (fun S1 h1 Q kq => ?_)
        · show E sc mX5_read 0 [.ref 0, .int (nI k), .int (nI la), .int v, .int w, .null, .null, .null, .null] [] S Q
          refine e_iload_n (pc := 0) (i := 1) dX5_read_0 rfl rfl ?_
          refine e_iconst' (pc := 1) (nI 0) dX5_read_1 (by decide) ?_
          refine e_iconst' (pc := 2) (nI 3) dX5_read_2 (by decide) ?_
          refine e_callS3 (pc := 3) (M' := mX5_within) dX5_read_3 jX5_within lkX5_70 (by decide) (Nat.le_of_ble_eq_true rfl) (Nat.le_of_ble_eq_true rfl) ?_
          refine sp_winY (by omega) (by omega) (by omega) ?_
          refine e_if_eq (pc := 6) (tgt := 29) dX5_read_6 (by decide) (fun h6 => absurd h6 (by decide)) (fun h6 => ?_)
          refine e_iload_n (pc := 9) (i := 2) dX5_read_9 rfl rfl ?_
          refine e_iconst' (pc := 10) (nI 0) dX5_read_10 (by decide) ?_
          refine e_iconst' (pc := 11) (nI 2) dX5_read_11 (by decide) ?_
          refine e_callS3 (pc := 12) (M' := mX5_within) dX5_read_12 jX5_within lkX5_70 (by decide) (Nat.le_of_ble_eq_true rfl) (Nat.le_of_ble_eq_true rfl) ?_
          refine sp_winY (by omega) (by omega) (by omega) ?_
          refine e_if_eq (pc := 15) (tgt := 29) dX5_read_15 (by decide) (fun h15 => absurd h15 (by decide)) (fun h15 => ?_)
          refine e_iload (pc := 18) dX5_read_18 rfl ?_
          refine e_iconst' (pc := 20) (nI 0) dX5_read_20 (by decide) ?_
          refine e_bipush' (pc := 21) (nI 20) dX5_read_21 (by decide) ?_
          refine e_callS3 (pc := 23) (M' := mX5_within) dX5_read_23 jX5_within lkX5_70 (by decide) (Nat.le_of_ble_eq_true rfl) (Nat.le_of_ble_eq_true rfl) ?_
          refine sp_winX hn (by omega) (by omega) ?_
          refine e_if_ne (pc := 26) (tgt := 31) dX5_read_26 (by decide) (fun h26 => absurd (by decide) h26) (fun h26 => ?_)
          refine e_iconst' (pc := 29) (-1) dX5_read_29 (by decide) ?_
          refine e_iret (pc := 30) (st := []) (ty := .int) dX5_read_30 rfl rfl ?_
          exact kq _ Same.rf
        · show E sc mX6_read 0 [.ref 54, .int (nI k), .int (nI la), .int v, .int w, .null, .null, .null, .null, .null] [] S1 Q
          have hp := h1.pg (by omega) hv hp
          have hr := h1.row (by omega) hr
          refine e_iload_n (pc := 0) (i := 1) dX6_read_0 rfl rfl ?_
          refine e_i2l (pc := 1) dX6_read_1 ?_
          refine e_lconst' (pc := 2) (lN 0) dX6_read_2 (by decide) ?_
          refine e_ldc2 (pc := 3) dX6_read_3 (klX6_148 rfl) ?_
          refine e_callS3 (pc := 6) (M' := mX6_in) dX6_read_6 jX6_in lkX6_46 (by decide) (Nat.le_of_ble_eq_true rfl) (Nat.le_of_ble_eq_true rfl) ?_
          refine sp_inY (lo := 0) (hi := 3) (by decide) (by decide) (by omega) (by omega) (by omega) ?_
          refine e_if_eq (pc := 9) (tgt := 37) dX6_read_9 (by decide) (fun h9 => absurd h9 (by decide)) (fun h9 => ?_)
          refine e_iload_n (pc := 12) (i := 2) dX6_read_12 rfl rfl ?_
          refine e_i2l (pc := 13) dX6_read_13 ?_
          refine e_lconst' (pc := 14) (lN 0) dX6_read_14 (by decide) ?_
          refine e_ldc2 (pc := 15) dX6_read_15 (klX6_150 rfl) ?_
          refine e_callS3 (pc := 18) (M' := mX6_in) dX6_read_18 jX6_in lkX6_46 (by decide) (Nat.le_of_ble_eq_true rfl) (Nat.le_of_ble_eq_true rfl) ?_
          refine sp_inY (lo := 0) (hi := 2) (by decide) (by decide) (by omega) (by omega) (by omega) ?_
          refine e_if_eq (pc := 21) (tgt := 37) dX6_read_21 (by decide) (fun h21 => absurd h21 (by decide)) (fun h21 => ?_)
          refine e_iload (pc := 24) dX6_read_24 rfl ?_
          refine e_i2l (pc := 26) dX6_read_26 ?_
          refine e_lconst' (pc := 27) (lN 0) dX6_read_27 (by decide) ?_
          refine e_ldc2 (pc := 28) dX6_read_28 (klX6_219 rfl) ?_
          refine e_callS3 (pc := 31) (M' := mX6_in) dX6_read_31 jX6_in lkX6_46 (by decide) (Nat.le_of_ble_eq_true rfl) (Nat.le_of_ble_eq_true rfl) ?_
          refine sp_inX (lo := 0) (hi := 20) (by decide) (by decide) hn ?_
          refine e_if_ne (pc := 34) (tgt := 39) dX6_read_34 (by decide) (fun h34 => absurd (by decide) h34) (fun h34 => ?_)
          refine e_iconst' (pc := 37) (-1) dX6_read_37 (by decide) ?_
          refine e_iret (pc := 38) (st := []) (ty := .int) dX6_read_38 rfl rfl ?_
          exact kq _ Same.rf
    · refine ask_both (-1) hI (fun Q kq => ?_) (fun S1 h1 Q kq => ?_)
      · show E sc mX5_read 0 [.ref 0, .int (nI k), .int y, .int v, .int w, .null, .null, .null, .null] [] S Q
        refine e_iload_n (pc := 0) (i := 1) dX5_read_0 rfl rfl ?_
        refine e_iconst' (pc := 1) (nI 0) dX5_read_1 (by decide) ?_
        refine e_iconst' (pc := 2) (nI 3) dX5_read_2 (by decide) ?_
        refine e_callS3 (pc := 3) (M' := mX5_within) dX5_read_3 jX5_within lkX5_70 (by decide) (Nat.le_of_ble_eq_true rfl) (Nat.le_of_ble_eq_true rfl) ?_
        refine sp_winY (by omega) (by omega) (by omega) ?_
        refine e_if_eq (pc := 6) (tgt := 29) dX5_read_6 (by decide) (fun h6 => absurd h6 (by decide)) (fun h6 => ?_)
        refine e_iload_n (pc := 9) (i := 2) dX5_read_9 rfl rfl ?_
        refine e_iconst' (pc := 10) (nI 0) dX5_read_10 (by decide) ?_
        refine e_iconst' (pc := 11) (nI 2) dX5_read_11 (by decide) ?_
        refine e_callS3 (pc := 12) (M' := mX5_within) dX5_read_12 jX5_within lkX5_70 (by decide) (Nat.le_of_ble_eq_true rfl) (Nat.le_of_ble_eq_true rfl) ?_
        refine sp_winX hn (by omega) (by omega) ?_
        refine e_if_eq (pc := 15) (tgt := 29) dX5_read_15 (by decide) (fun h15 => ?_) (fun h15 => absurd (by decide) h15)
        refine e_iconst' (pc := 29) (-1) dX5_read_29 (by decide) ?_
        refine e_iret (pc := 30) (st := []) (ty := .int) dX5_read_30 rfl rfl ?_
        exact kq _ Same.rf
      · show E sc mX6_read 0 [.ref 54, .int (nI k), .int y, .int v, .int w, .null, .null, .null, .null, .null] [] S1 Q
        have hp := h1.pg (by omega) hv hp
        have hr := h1.row (by omega) hr
        refine e_iload_n (pc := 0) (i := 1) dX6_read_0 rfl rfl ?_
        refine e_i2l (pc := 1) dX6_read_1 ?_
        refine e_lconst' (pc := 2) (lN 0) dX6_read_2 (by decide) ?_
        refine e_ldc2 (pc := 3) dX6_read_3 (klX6_148 rfl) ?_
        refine e_callS3 (pc := 6) (M' := mX6_in) dX6_read_6 jX6_in lkX6_46 (by decide) (Nat.le_of_ble_eq_true rfl) (Nat.le_of_ble_eq_true rfl) ?_
        refine sp_inY (lo := 0) (hi := 3) (by decide) (by decide) (by omega) (by omega) (by omega) ?_
        refine e_if_eq (pc := 9) (tgt := 37) dX6_read_9 (by decide) (fun h9 => absurd h9 (by decide)) (fun h9 => ?_)
        refine e_iload_n (pc := 12) (i := 2) dX6_read_12 rfl rfl ?_
        refine e_i2l (pc := 13) dX6_read_13 ?_
        refine e_lconst' (pc := 14) (lN 0) dX6_read_14 (by decide) ?_
        refine e_ldc2 (pc := 15) dX6_read_15 (klX6_150 rfl) ?_
        refine e_callS3 (pc := 18) (M' := mX6_in) dX6_read_18 jX6_in lkX6_46 (by decide) (Nat.le_of_ble_eq_true rfl) (Nat.le_of_ble_eq_true rfl) ?_
        refine sp_inX (lo := 0) (hi := 2) (by decide) (by decide) hn ?_
        refine e_if_eq (pc := 21) (tgt := 37) dX6_read_21 (by decide) (fun h21 => ?_) (fun h21 => absurd (by decide) h21)
        refine e_iconst' (pc := 37) (-1) dX6_read_37 (by decide) ?_
        refine e_iret (pc := 38) (st := []) (ty := .int) dX6_read_38 rfl rfl ?_
        exact kq _ Same.rf
  · refine ask_both (-1) hI (fun Q k => ?_) (fun S1 h1 Q k => ?_)
    · show E sc mX5_read 0 [.ref 0, .int x, .int y, .int v, .int w, .null, .null, .null, .null] [] S Q
      refine e_iload_n (pc := 0) (i := 1) dX5_read_0 rfl rfl ?_
      refine e_iconst' (pc := 1) (nI 0) dX5_read_1 (by decide) ?_
      refine e_iconst' (pc := 2) (nI 3) dX5_read_2 (by decide) ?_
      refine e_callS3 (pc := 3) (M' := mX5_within) dX5_read_3 jX5_within lkX5_70 (by decide) (Nat.le_of_ble_eq_true rfl) (Nat.le_of_ble_eq_true rfl) ?_
      refine sp_winX hn (by omega) (by omega) ?_
      refine e_if_eq (pc := 6) (tgt := 29) dX5_read_6 (by decide) (fun h6 => ?_) (fun h6 => absurd (by decide) h6)
      refine e_iconst' (pc := 29) (-1) dX5_read_29 (by decide) ?_
      refine e_iret (pc := 30) (st := []) (ty := .int) dX5_read_30 rfl rfl ?_
      exact k _ Same.rf
    · show E sc mX6_read 0 [.ref 54, .int x, .int y, .int v, .int w, .null, .null, .null, .null, .null] [] S1 Q
      have hp := h1.pg (by omega) hv hp
      have hr := h1.row (by omega) hr
      refine e_iload_n (pc := 0) (i := 1) dX6_read_0 rfl rfl ?_
      refine e_i2l (pc := 1) dX6_read_1 ?_
      refine e_lconst' (pc := 2) (lN 0) dX6_read_2 (by decide) ?_
      refine e_ldc2 (pc := 3) dX6_read_3 (klX6_148 rfl) ?_
      refine e_callS3 (pc := 6) (M' := mX6_in) dX6_read_6 jX6_in lkX6_46 (by decide) (Nat.le_of_ble_eq_true rfl) (Nat.le_of_ble_eq_true rfl) ?_
      refine sp_inX (lo := 0) (hi := 3) (by decide) (by decide) hn ?_
      refine e_if_eq (pc := 9) (tgt := 37) dX6_read_9 (by decide) (fun h9 => ?_) (fun h9 => absurd (by decide) h9)
      refine e_iconst' (pc := 37) (-1) dX6_read_37 (by decide) ?_
      refine e_iret (pc := 38) (st := []) (ty := .int) dX6_read_38 rfl rfl ?_
      exact k _ Same.rf

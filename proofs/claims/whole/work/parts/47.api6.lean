/-- all but the wheels and the count is as it was -/
def Rst (S S' : PS) : Prop := (∀ j, (j = 0 ∨ (11 ≤ j ∧ j ≤ 37)) → S'.1 j = S.1 j) ∧ (∀ k, (k = 4 ∨ k = 5 ∨ k = 18 ∨ k = 24) → S'.1 54 k = S.1 54 k) ∧ (∀ k, 22 ≤ k → k < 66 → S'.1 55 k = S.1 55 k) ∧ (∀ j, ((57 ≤ j ∧ j ≤ 60) ∨ (62 ≤ j ∧ j ≤ 65)) → S'.1 j = S.1 j)
theorem Rst.tr {S S1 S2 : PS} (h : Rst S S1) (h2 : Rst S1 S2) : Rst S S2 := ⟨fun j a => (h2.1 j a).trans (h.1 j a), fun j a => (h2.2.1 j a).trans (h.2.1 j a), fun j a b => (h2.2.2.1 j a b).trans (h.2.2.1 j a b), fun j a => (h2.2.2.2 j a).trans (h.2.2.2 j a)⟩
theorem Rst.rf {S : PS} : Rst S S := ⟨fun _ _ => rfl, fun _ _ => rfl, fun _ _ _ => rfl, fun _ _ => rfl⟩
theorem Same.rst {S S' : PS} (h : Same S S') : Rst S S' := ⟨fun j a => h.1 j (by omega), h.2.1, fun k _ b => h.2.2.1 k b, h.2.2.2⟩
theorem Fr.rst {S S' : PS} (h : Fr 1 5 S S') : Rst S S' := ⟨fun j a => h.2 j (by omega), fun k _ => by rw [h.2 54 (by omega)], fun k _ _ => by rw [h.2 55 (by omega)], fun j a => h.2 j (by omega)⟩
theorem FrP.rst {S S' : PS} (h : FrP 0 S S') : Rst S S' := ⟨fun j a => h.2.1 j (by omega) (by omega), fun k a => h.2.2.2 k (by omega), fun k a b => h.2.2.1 k (by omega), fun j a => h.2.1 j (by omega) (by omega)⟩
theorem FrQ.rst {S S' : PS} (h : FrQ 0 S S') : Rst S S' := h.P.rst
theorem Rst.i2 {S S' : PS} (h : Rst S S') {k : Nat} (hk : k < 2) (hi : I2 S k) : I2 S' k := by
  unfold I2 at hi ⊢
  rw [h.1 22 (by omega), h.2.2.2 62 (by omega)]
  rcases hi with hi | ⟨a, b, R, c, d, e, f⟩
  · exact Or.inl hi
  · refine Or.inr ⟨a, b, R, c, d, ?_, f.of (fun q h1 h2 => h.2.2.1 q (by omega) (by omega)) c.1⟩
    obtain ⟨x, y, z⟩ := e
    have e : ∀ q, 11 + 5 * k ≤ q → q < 11 + 5 * k + 5 → S'.1 q = S.1 q := fun q h1 h2 => h.1 q (by omega)
    refine ⟨by rw [e _ (by omega) (by omega)]; exact x, by rw [e _ (by omega) (by omega)]; exact y, fun w hw => ?_⟩
    rw [e (11 + 5 * k + 1) (by omega) (by omega), e (11 + 5 * k + 2) (by omega) (by omega), e (11 + 5 * k + 3) (by omega) (by omega), e (11 + 5 * k + 4) (by omega) (by omega)]
    exact z w hw
theorem Rst.i3 {S S' : PS} (h : Rst S S') {n : Nat} {tp : Nat → Nat} (hi : I3 S n tp) : I3 S' n tp := by
  unfold I3 at hi ⊢
  rw [h.1 23 (by omega), h.1 24 (by omega), h.2.1 4 (by omega), h.2.2.2 57 (by omega)]
  exact hi
theorem Rst.i5 {S S' : PS} (h : Rst S S') {n : Nat} {sp sv : Nat → Nat} (hi : I5 S n sp sv) : I5 S' n sp sv := by
  unfold I5 at hi ⊢
  rw [h.1 26 (by omega), h.1 27 (by omega), h.1 28 (by omega), h.2.1 18 (by omega), h.2.2.2 60 (by omega)]
  exact hi
theorem Rst.i6 {S S' : PS} (h : Rst S S') {k : Nat} (hk : k < 4) (hi : I6 S k) : I6 S' k := by
  unfold I6 at hi ⊢
  rw [h.1 (30 + 2 * k) (by omega), h.1 (31 + 2 * k) (by omega), h.2.2.2 63 (by omega), h.2.2.2 64 (by omega), h.2.2.2 65 (by omega)]
  exact hi
theorem Rst.i8 {S S' : PS} (h : Rst S S') (hi : I8 S) : I8 S' := by
  unfold I8 at hi ⊢
  rw [h.2.2.2 58 (by omega), h.2.2.2 59 (by omega)]
  exact hi
theorem Rst.inv {S S' : PS} {R : Rw} (h : Rst S S') (hi : InvS S) (hv : Vd R) (hc : R 21 ≤ 999999) (hr : RowAt S' 1 R) (hp : PgAt S' 0 R) : InvS S' := by
  obtain ⟨a, ⟨b, c⟩, ⟨n, tp, d⟩, e, ⟨m, sp, sv, f⟩, g, i, j⟩ := hi
  refine ⟨⟨R, hv, hc, hr, hp⟩, ⟨h.i2 (by omega) b, h.i2 (by omega) c⟩, ⟨n, tp, h.i3 d⟩, ?_, ⟨m, sp, sv, h.i5 f⟩, fun k hk => h.i6 hk (g k hk), ?_, h.i8 j⟩
  · rw [h.1 25 (by omega), h.2.1 5 (by omega)]; exact e
  · rw [h.1 0 (by omega), h.2.1 24 (by omega)]; exact i
theorem Fr.pg {S S' : PS} (h : Fr 1 5 S S') {p : Nat} {R : Rw} (hv : Vd R) (hp : PgAt S p R) : PgAt S' p R := hp.of (fun k _ _ => by rw [h.2 55 (by omega)]) hv.1
theorem FrP.row {S S' : PS} {p i : Nat} (h : FrP p S S') (hi : i + 5 ≤ 54) {R : Rw} (hr : RowAt S i R) : RowAt S' i R := by
  obtain ⟨a, b, c⟩ := hr
  have e : ∀ q, i ≤ q → q < i + 5 → S'.1 q = S.1 q := fun q h1 h2 => h.2.1 q (by omega) (by omega)
  refine ⟨by rw [e i (by omega) (by omega)]; exact a, by rw [e i (by omega) (by omega)]; exact b, fun w hw => ?_⟩
  rw [e (i + 1) (by omega) (by omega), e (i + 2) (by omega) (by omega), e (i + 3) (by omega) (by omega), e (i + 4) (by omega) (by omega)]
  exact c w hw
theorem FrQ.row {S S' : PS} {p i : Nat} (h : FrQ p S S') (hi : i + 5 ≤ 54) {R : Rw} (hr : RowAt S i R) : RowAt S' i R := h.P.row hi hr
theorem b_alter {sc : PSc} {S : PS} (hI : InvS S) (w x y : Int32) : Bth sc mX5_alter mX6_alter [.int w, .int x, .int y] S := by
  obtain ⟨R, hv, hc, hr, hp⟩ := hI.1
  have hv5 := hv.1
  show E sc mX5_alter 0 [.ref 0, .int w, .int x, .int y] [] S _
  refine e_aload_n (pc := 0) (i := 0) dX5_alter_0 rfl rfl ?_
  refine e_getR (pc := 1) dX5_alter_1 (fX5_10 rfl) sh_0 rfl ?_
  refine e_iload_n (pc := 4) (i := 1) dX5_alter_4 rfl rfl ?_
  refine e_iload_n (pc := 5) (i := 2) dX5_alter_5 rfl rfl ?_
  refine e_iload_n (pc := 6) (i := 3) dX5_alter_6 rfl rfl ?_
  refine e_callV3 (pc := 7) (M' := mX0_change) dX5_alter_7 iX0_change lkX5_132 (by decide) (rO_obj sh_1 rfl) (Nat.le_of_ble_eq_true rfl) (Nat.le_of_ble_eq_true rfl) ?_
  refine sp_change r1 hv hr (fun S1 a b c => ?_)
  refine e_iret (pc := 10) (st := []) (ty := .int) dX5_alter_10 rfl rfl ?_
  refine ⟨_, rfl, ?_⟩
  show E sc mX6_alter 0 [.ref 54, .int w, .int x, .int y] [] _ _
  refine e_aload_n (pc := 0) (i := 0) dX6_alter_0 rfl rfl ?_
  refine e_iload_n (pc := 1) (i := 1) dX6_alter_1 rfl rfl ?_
  refine e_iload_n (pc := 2) (i := 2) dX6_alter_2 rfl rfl ?_
  refine e_iload_n (pc := 3) (i := 3) dX6_alter_3 rfl rfl ?_
  refine e_callV3 (pc := 4) (M' := mX6_alters) dX6_alter_4 iX6_alters lkX6_157 (by decide) (rO_obj sh_54 rfl) (Nat.le_of_ble_eq_true rfl) (Nat.le_of_ble_eq_true rfl) ?_
  refine sp_alters hv (c.pg hv hp) (fun S2 d f => ?_)
  refine e_iret (pc := 7) (st := []) (ty := .int) dX6_alter_7 rfl rfl ?_
  exact ⟨rfl, (c.rst.tr f.rst).inv hI (altS_vd hv) (by rw [altS_c hv]; exact hc) (f.row (by omega) a) d⟩
theorem b_turn {sc : PSc} {S : PS} (hI : InvS S) (w : Int32) : Bth sc mX5_turn mX6_turn [.int w] S := by
  obtain ⟨R, hv, hc, hr, hp⟩ := hI.1
  have hv5 := hv.1
  rcases Classical.em (inw w (R 20)) with ⟨j, rfl, hw⟩ | hn
  · show E sc mX5_turn 0 [.ref 0, .int (nI j)] [] S _
    refine e_aload_n (pc := 0) (i := 0) dX5_turn_0 rfl rfl ?_
    refine e_getR (pc := 1) dX5_turn_1 (fX5_10 rfl) sh_0 rfl ?_
    refine e_iload_n (pc := 4) (i := 1) dX5_turn_4 rfl rfl ?_
    refine e_callV1 (pc := 5) (M' := mX0_has) dX5_turn_5 iX0_has lkX5_120 (by decide) (rO_obj sh_1 rfl) (Nat.le_of_ble_eq_true rfl) (Nat.le_of_ble_eq_true rfl) ?_
    refine sp_hasY r1 hv hr hw ?_
    refine e_if_ne (pc := 8) (tgt := 13) dX5_turn_8 (by decide) (fun h8 => ?_) (fun h8 => absurd h8 (by decide))
    refine e_aload_n (pc := 13) (i := 0) dX5_turn_13 rfl rfl ?_
    refine e_getR (pc := 14) dX5_turn_14 (fX5_10 rfl) sh_0 rfl ?_
    refine e_iload_n (pc := 17) (i := 1) dX5_turn_17 rfl rfl ?_
    refine e_callV1 (pc := 18) (M' := mX0_turnFrom) dX5_turn_18 iX0_turnFrom lkX5_140 (by decide) (rO_obj sh_1 rfl) (Nat.le_of_ble_eq_true rfl) (Nat.le_of_ble_eq_true rfl) ?_
    refine sp_turnFrom r1 hv hr (by omega) (fun S1 a b c => ?_)
    refine e_aload_n (pc := 21) (i := 0) dX5_turn_21 rfl rfl ?_
    refine e_getR (pc := 22) dX5_turn_22 (fX5_10 rfl) sh_0 rfl ?_
    refine e_callV0 (pc := 25) (M' := mX0_reading) dX5_turn_25 iX0_reading lkX5_107 (by decide) (rO_obj sh_1 rfl) (Nat.le_of_ble_eq_true rfl) (Nat.le_of_ble_eq_true rfl) ?_
    refine sp_reading r1 (turn_vd hv) a ?_
    refine e_iret (pc := 28) (st := []) (ty := .int) dX5_turn_28 rfl rfl ?_
    refine ⟨_, rfl, ?_⟩
    show E sc mX6_turn 0 [.ref 54, .int (nI j)] [] _ _
    refine e_aload_n (pc := 0) (i := 0) dX6_turn_0 rfl rfl ?_
    refine e_iload_n (pc := 1) (i := 1) dX6_turn_1 rfl rfl ?_
    refine e_callV1 (pc := 2) (M' := mX6_isWheel) dX6_turn_2 iX6_isWheel lkX6_144 (by decide) (rO_obj sh_54 rfl) (Nat.le_of_ble_eq_true rfl) (Nat.le_of_ble_eq_true rfl) ?_
    refine sp_isWheelY hv (c.pg hv hp) hw ?_
    refine e_if_ne (pc := 5) (tgt := 10) dX6_turn_5 (by decide) (fun h5 => ?_) (fun h5 => absurd h5 (by decide))
    refine e_aload_n (pc := 10) (i := 0) dX6_turn_10 rfl rfl ?_
    refine e_iconst' (pc := 11) (nI 0) dX6_turn_11 (by decide) ?_
    refine e_iload_n (pc := 12) (i := 1) dX6_turn_12 rfl rfl ?_
    refine e_callV2 (pc := 13) (M' := mX6_turnedOn) dX6_turn_13 iX6_turnedOn lkX6_131 (by decide) (rO_obj sh_54 rfl) (Nat.le_of_ble_eq_true rfl) (Nat.le_of_ble_eq_true rfl) ?_
    refine sp_turnedOn (p := 0) (by omega) hv (c.pg hv hp) (by omega) (fun S2 d e f => ?_)
    refine e_aload_n (pc := 16) (i := 0) dX6_turn_16 rfl rfl ?_
    refine e_iconst' (pc := 17) (nI 0) dX6_turn_17 (by decide) ?_
    refine e_callV1 (pc := 18) (M' := mX6_readsOn) dX6_turn_18 iX6_readsOn lkX6_135 (by decide) (rO_obj sh_54 rfl) (Nat.le_of_ble_eq_true rfl) (Nat.le_of_ble_eq_true rfl) ?_
    refine sp_readsOn (p := 0) (by omega) (turn_vd hv) d ?_
    refine e_iret (pc := 21) (st := []) (ty := .int) dX6_turn_21 rfl rfl ?_
    exact ⟨rfl, (c.rst.tr f.rst).inv hI (turn_vd hv) (by rw [turnR, tf_keep 5 _ _ hv5 21 (by omega)]; exact hc) (f.row (by omega) a) d⟩
  · refine ask_both (-1) hI (fun Q k => ?_) (fun S1 h1 Q k => ?_)
    · show E sc mX5_turn 0 [.ref 0, .int w] [] S Q
      refine e_aload_n (pc := 0) (i := 0) dX5_turn_0 rfl rfl ?_
      refine e_getR (pc := 1) dX5_turn_1 (fX5_10 rfl) sh_0 rfl ?_
      refine e_iload_n (pc := 4) (i := 1) dX5_turn_4 rfl rfl ?_
      refine e_callV1 (pc := 5) (M' := mX0_has) dX5_turn_5 iX0_has lkX5_120 (by decide) (rO_obj sh_1 rfl) (Nat.le_of_ble_eq_true rfl) (Nat.le_of_ble_eq_true rfl) ?_
      refine sp_hasX r1 hv hr hn ?_
      refine e_if_ne (pc := 8) (tgt := 13) dX5_turn_8 (by decide) (fun h8 => absurd (by decide) h8) (fun h8 => ?_)
      refine e_iconst' (pc := 11) (-1) dX5_turn_11 (by decide) ?_
      refine e_iret (pc := 12) (st := []) (ty := .int) dX5_turn_12 rfl rfl ?_
      exact k _ Same.rf
    · show E sc mX6_turn 0 [.ref 54, .int w] [] S1 Q
      have hp := h1.pg (by omega) hv hp
      have hr := h1.row (by omega) hr
      refine e_aload_n (pc := 0) (i := 0) dX6_turn_0 rfl rfl ?_
      refine e_iload_n (pc := 1) (i := 1) dX6_turn_1 rfl rfl ?_
      refine e_callV1 (pc := 2) (M' := mX6_isWheel) dX6_turn_2 iX6_isWheel lkX6_144 (by decide) (rO_obj sh_54 rfl) (Nat.le_of_ble_eq_true rfl) (Nat.le_of_ble_eq_true rfl) ?_
      refine sp_isWheelX hv hp hn ?_
      refine e_if_ne (pc := 5) (tgt := 10) dX6_turn_5 (by decide) (fun h5 => absurd (by decide) h5) (fun h5 => ?_)
      refine e_iconst' (pc := 8) (-1) dX6_turn_8 (by decide) ?_
      refine e_iret (pc := 9) (st := []) (ty := .int) dX6_turn_9 rfl rfl ?_
      exact k _ Same.rf
theorem lm_pushes {sc : PSc} {m : Nat} {R : Rw} {S0 : PS} {Q : PQ} (hv : Vd R) (hm : m ≤ 1000) (k : ∀ S', PgAt S' 0 (pn R m) → FrP 0 S0 S' → Q (some (.int (nI (reads (pn R m))))) S') : ∀ (n j : Nat) (S : PS), j ≤ m → m - j < n → PgAt S 0 (pn R j) → FrP 0 S0 S → E sc mX6_pushes 33 [.ref 54, .int (nI m), .int (nI j)] [] S Q := by
  intro n
  induction n with
  | zero => intro j S hj hn; exact absurd hn (by omega)
  | succ n ih =>
    intro j S hj hn hp hf
    refine e_iload_n (pc := 33) (i := 2) dX6_pushes_33 rfl rfl ?_
    refine e_iload_n (pc := 34) (i := 1) dX6_pushes_34 rfl rfl ?_
    refine e_icmp_ge (pc := 35) (tgt := 49) dX6_pushes_35 (by decide) (fun h35 => ?_) (fun h35 => ?_)
    · replace h35 := (nI_leI (by omega) (by omega)).mp h35
      obtain rfl : j = m := by omega
      refine e_aload_n (pc := 49) (i := 0) dX6_pushes_49 rfl rfl ?_
      refine e_iconst' (pc := 50) (nI 0) dX6_pushes_50 (by decide) ?_
      refine e_callV1 (pc := 51) (M' := mX6_readsOn) dX6_pushes_51 iX6_readsOn lkX6_135 (by decide) (rO_obj sh_54 rfl) (Nat.le_of_ble_eq_true rfl) (Nat.le_of_ble_eq_true rfl) ?_
      refine sp_readsOn (p := 0) (by omega) (pn_vd hv j) hp ?_
      refine e_iret (pc := 54) (st := []) (ty := .int) dX6_pushes_54 rfl rfl ?_
      exact k S hp hf
    · replace h35 := mt (nI_leI (by omega) (by omega)).mpr h35
      refine e_aload_n (pc := 38) (i := 0) dX6_pushes_38 rfl rfl ?_
      refine e_iconst' (pc := 39) (nI 0) dX6_pushes_39 (by decide) ?_
      refine e_callV1 (pc := 40) (M' := mX6_pushOn) dX6_pushes_40 iX6_pushOn lkX6_164 (by decide) (rO_obj sh_54 rfl) (Nat.le_of_ble_eq_true rfl) (Nat.le_of_ble_eq_true rfl) ?_
      refine sp_pushOn (p := 0) (by omega) (pn_vd hv j) hp (fun S1 a b c => ?_)
      refine e_iinc' (pc := 43) (nI (j + 1)) dX6_pushes_43 rfl (by decide) rfl (nI_1 _) ?_
      refine e_goto (pc := 46) (tgt := 33) dX6_pushes_46 (by decide) ?_
      exact ih (j + 1) S1 (by omega) (by omega) a (hf.tr c)
theorem b_pushes {sc : PSc} {S : PS} (hI : InvS S) (x : Int32) : Bth sc mX5_pushes mX6_pushes [.int x] S := by
  obtain ⟨R, hv, hc, hr, hp⟩ := hI.1
  have hv5 := hv.1
  rcases Classical.em (inr x 0 1000) with ⟨m, rfl, -, hm⟩ | hn
  · by_cases hq : R 21 + m ≤ 999999
    · show E sc mX5_pushes 0 [.ref 0, .int (nI m)] [] S _
      refine e_iload_n (pc := 0) (i := 1) dX5_pushes_0 rfl rfl ?_
      refine e_iconst' (pc := 1) (nI 0) dX5_pushes_1 (by decide) ?_
      refine e_sipush' (pc := 2) (nI 1000) dX5_pushes_2 (by decide) ?_
      refine e_callS3 (pc := 5) (M' := mX5_within) dX5_pushes_5 jX5_within lkX5_70 (by decide) (Nat.le_of_ble_eq_true rfl) (Nat.le_of_ble_eq_true rfl) ?_
      refine sp_winY (by omega) (by omega) (by omega) ?_
      refine e_if_ne (pc := 8) (tgt := 13) dX5_pushes_8 (by decide) (fun h8 => ?_) (fun h8 => absurd h8 (by decide))
      refine e_aload_n (pc := 13) (i := 0) dX5_pushes_13 rfl rfl ?_
      refine e_getR (pc := 14) dX5_pushes_14 (fX5_10 rfl) sh_0 rfl ?_
      refine e_getI (pc := 17) dX5_pushes_17 (fX5_104 rfl) sh_1 rfl ?_
      refine E.it (nI (R 21)) hr.2.1 ?_
      refine e_iload_n (pc := 20) (i := 1) dX5_pushes_20 rfl rfl ?_
      refine e_iadd (pc := 21) dX5_pushes_21 ?_
      refine E.it (nI (R 21 + m)) (nI_add _ _) ?_
      refine e_ldc' (pc := 22) (nI 999999) dX5_pushes_22 (kcX5_147 rfl) (by decide) ?_
      refine e_icmp_le (pc := 24) (tgt := 30) dX5_pushes_24 (by decide) (fun h24 => ?_) (fun h24 => absurd (nI_le hq (by omega)) h24)
      replace h24 := (nI_leI (by omega) (by omega)).mp h24
      refine e_aload_n (pc := 30) (i := 0) dX5_pushes_30 rfl rfl ?_
      refine e_getR (pc := 31) dX5_pushes_31 (fX5_10 rfl) sh_0 rfl ?_
      refine e_iload_n (pc := 34) (i := 1) dX5_pushes_34 rfl rfl ?_
      refine e_callV1 (pc := 35) (M' := mX0_push) dX5_pushes_35 iX0_push lkX5_148 (by decide) (rO_obj sh_1 rfl) (Nat.le_of_ble_eq_true rfl) (Nat.le_of_ble_eq_true rfl) ?_
      refine sp_push r1 hv hr (by omega) (fun S1 a b c => ?_)
      refine e_aload_n (pc := 38) (i := 0) dX5_pushes_38 rfl rfl ?_
      refine e_getR (pc := 39) dX5_pushes_39 (fX5_10 rfl) sh_0 rfl ?_
      refine e_callV0 (pc := 42) (M' := mX0_reading) dX5_pushes_42 iX0_reading lkX5_107 (by decide) (rO_obj sh_1 rfl) (Nat.le_of_ble_eq_true rfl) (Nat.le_of_ble_eq_true rfl) ?_
      refine sp_reading r1 (pn_vd hv m) a ?_
      refine e_iret (pc := 45) (st := []) (ty := .int) dX5_pushes_45 rfl rfl ?_
      refine ⟨_, rfl, ?_⟩
      show E sc mX6_pushes 0 [.ref 54, .int (nI m), .null] [] _ _
      refine e_iload_n (pc := 0) (i := 1) dX6_pushes_0 rfl rfl ?_
      refine e_i2l (pc := 1) dX6_pushes_1 ?_
      refine e_lconst' (pc := 2) (lN 0) dX6_pushes_2 (by decide) ?_
      refine e_ldc2 (pc := 3) dX6_pushes_3 (klX6_161 rfl) ?_
      refine e_callS3 (pc := 6) (M' := mX6_in) dX6_pushes_6 jX6_in lkX6_46 (by decide) (Nat.le_of_ble_eq_true rfl) (Nat.le_of_ble_eq_true rfl) ?_
      refine sp_inY (lo := 0) (hi := 1000) (by decide) (by decide) (by omega) (by omega) (by omega) ?_
      refine e_if_ne (pc := 9) (tgt := 14) dX6_pushes_9 (by decide) (fun h9 => ?_) (fun h9 => absurd h9 (by decide))
      refine e_aload_n (pc := 14) (i := 0) dX6_pushes_14 rfl rfl ?_
      refine e_getR (pc := 15) dX6_pushes_15 (fX6_7 rfl) sh_54 rfl ?_
      refine e_bipush' (pc := 18) (nI 21) dX6_pushes_18 (by decide) ?_
      refine e_iald (pc := 20) dX6_pushes_20 sh_55 (vp_in_nI (by omega) (by omega)) ?_
      refine E.it (nI (R 21)) (pgc (p := 0) (by omega) (c.pg hv hp)) ?_
      refine e_iload_n (pc := 21) (i := 1) dX6_pushes_21 rfl rfl ?_
      refine e_iadd (pc := 22) dX6_pushes_22 ?_
      refine E.it (nI (R 21 + m)) (nI_add _ _) ?_
      refine e_ldc' (pc := 23) (nI 999999) dX6_pushes_23 (kcX6_163 rfl) (by decide) ?_
      refine e_icmp_le (pc := 25) (tgt := 31) dX6_pushes_25 (by decide) (fun h25 => ?_) (fun h25 => absurd (nI_le hq (by omega)) h25)
      replace h25 := (nI_leI (by omega) (by omega)).mp h25
      refine e_iconst' (pc := 31) (nI 0) dX6_pushes_31 (by decide) ?_
      refine e_istore_n (pc := 32) (i := 2) dX6_pushes_32 rfl (by decide) rfl ?_
      refine lm_pushes hv hm (fun S2 d f => ?_) (m + 1) 0 _ (by omega) (by omega) (c.pg hv hp) FrP.rf
      exact ⟨rfl, (c.rst.tr f.rst).inv hI (pn_vd hv m) (by rw [pn_count hv]; exact hq) (f.row (by omega) a) d⟩
    · refine ask_both (-3) hI (fun Q k => ?_) (fun S1 h1 Q k => ?_)
      · show E sc mX5_pushes 0 [.ref 0, .int (nI m)] [] S Q
        refine e_iload_n (pc := 0) (i := 1) dX5_pushes_0 rfl rfl ?_
        refine e_iconst' (pc := 1) (nI 0) dX5_pushes_1 (by decide) ?_
        refine e_sipush' (pc := 2) (nI 1000) dX5_pushes_2 (by decide) ?_
        refine e_callS3 (pc := 5) (M' := mX5_within) dX5_pushes_5 jX5_within lkX5_70 (by decide) (Nat.le_of_ble_eq_true rfl) (Nat.le_of_ble_eq_true rfl) ?_
        refine sp_winY (by omega) (by omega) (by omega) ?_
        refine e_if_ne (pc := 8) (tgt := 13) dX5_pushes_8 (by decide) (fun h8 => ?_) (fun h8 => absurd h8 (by decide))
        refine e_aload_n (pc := 13) (i := 0) dX5_pushes_13 rfl rfl ?_
        refine e_getR (pc := 14) dX5_pushes_14 (fX5_10 rfl) sh_0 rfl ?_
        refine e_getI (pc := 17) dX5_pushes_17 (fX5_104 rfl) sh_1 rfl ?_
        refine E.it (nI (R 21)) hr.2.1 ?_
        refine e_iload_n (pc := 20) (i := 1) dX5_pushes_20 rfl rfl ?_
        refine e_iadd (pc := 21) dX5_pushes_21 ?_
        refine E.it (nI (R 21 + m)) (nI_add _ _) ?_
        refine e_ldc' (pc := 22) (nI 999999) dX5_pushes_22 (kcX5_147 rfl) (by decide) ?_
        refine e_icmp_le (pc := 24) (tgt := 30) dX5_pushes_24 (by decide) (fun h24 => absurd ((nI_leI (by omega) (by omega)).mp h24) hq) (fun h24 => ?_)
        replace h24 := mt (nI_leI (by omega) (by omega)).mpr h24
        refine e_bipush' (pc := 27) (-3) dX5_pushes_27 (by decide) ?_
        refine e_iret (pc := 29) (st := []) (ty := .int) dX5_pushes_29 rfl rfl ?_
        exact k _ Same.rf
      · show E sc mX6_pushes 0 [.ref 54, .int (nI m), .null] [] S1 Q
        have hp := h1.pg (by omega) hv hp
        have hr := h1.row (by omega) hr
        refine e_iload_n (pc := 0) (i := 1) dX6_pushes_0 rfl rfl ?_
        refine e_i2l (pc := 1) dX6_pushes_1 ?_
        refine e_lconst' (pc := 2) (lN 0) dX6_pushes_2 (by decide) ?_
        refine e_ldc2 (pc := 3) dX6_pushes_3 (klX6_161 rfl) ?_
        refine e_callS3 (pc := 6) (M' := mX6_in) dX6_pushes_6 jX6_in lkX6_46 (by decide) (Nat.le_of_ble_eq_true rfl) (Nat.le_of_ble_eq_true rfl) ?_
        refine sp_inY (lo := 0) (hi := 1000) (by decide) (by decide) (by omega) (by omega) (by omega) ?_
        refine e_if_ne (pc := 9) (tgt := 14) dX6_pushes_9 (by decide) (fun h9 => ?_) (fun h9 => absurd h9 (by decide))
        refine e_aload_n (pc := 14) (i := 0) dX6_pushes_14 rfl rfl ?_
        refine e_getR (pc := 15) dX6_pushes_15 (fX6_7 rfl) sh_54 rfl ?_
        refine e_bipush' (pc := 18) (nI 21) dX6_pushes_18 (by decide) ?_
        refine e_iald (pc := 20) dX6_pushes_20 sh_55 (vp_in_nI (by omega) (by omega)) ?_
        refine E.it (nI (R 21)) (pgc (p := 0) (by omega) hp) ?_
        refine e_iload_n (pc := 21) (i := 1) dX6_pushes_21 rfl rfl ?_
        refine e_iadd (pc := 22) dX6_pushes_22 ?_
        refine E.it (nI (R 21 + m)) (nI_add _ _) ?_
        refine e_ldc' (pc := 23) (nI 999999) dX6_pushes_23 (kcX6_163 rfl) (by decide) ?_
        refine e_icmp_le (pc := 25) (tgt := 31) dX6_pushes_25 (by decide) (fun h25 => absurd ((nI_leI (by omega) (by omega)).mp h25) hq) (fun h25 => ?_)
        replace h25 := mt (nI_leI (by omega) (by omega)).mpr h25
        refine e_bipush' (pc := 28) (-3) dX6_pushes_28 (by decide) ?_
        refine e_iret (pc := 30) (st := []) (ty := .int) dX6_pushes_30 rfl rfl ?_
        exact k _ Same.rf
  · refine ask_both (-1) hI (fun Q k => ?_) (fun S1 h1 Q k => ?_)
    · show E sc mX5_pushes 0 [.ref 0, .int x] [] S Q
      refine e_iload_n (pc := 0) (i := 1) dX5_pushes_0 rfl rfl ?_
      refine e_iconst' (pc := 1) (nI 0) dX5_pushes_1 (by decide) ?_
      refine e_sipush' (pc := 2) (nI 1000) dX5_pushes_2 (by decide) ?_
      refine e_callS3 (pc := 5) (M' := mX5_within) dX5_pushes_5 jX5_within lkX5_70 (by decide) (Nat.le_of_ble_eq_true rfl) (Nat.le_of_ble_eq_true rfl) ?_
      refine sp_winX hn (by omega) (by omega) ?_
      refine e_if_ne (pc := 8) (tgt := 13) dX5_pushes_8 (by decide) (fun h8 => absurd (by decide) h8) (fun h8 => ?_)
      refine e_iconst' (pc := 11) (-1) dX5_pushes_11 (by decide) ?_
      refine e_iret (pc := 12) (st := []) (ty := .int) dX5_pushes_12 rfl rfl ?_
      exact k _ Same.rf
    · show E sc mX6_pushes 0 [.ref 54, .int x, .null] [] S1 Q
      have hp := h1.pg (by omega) hv hp
      have hr := h1.row (by omega) hr
      refine e_iload_n (pc := 0) (i := 1) dX6_pushes_0 rfl rfl ?_
      refine e_i2l (pc := 1) dX6_pushes_1 ?_
      refine e_lconst' (pc := 2) (lN 0) dX6_pushes_2 (by decide) ?_
      refine e_ldc2 (pc := 3) dX6_pushes_3 (klX6_161 rfl) ?_
      refine e_callS3 (pc := 6) (M' := mX6_in) dX6_pushes_6 jX6_in lkX6_46 (by decide) (Nat.le_of_ble_eq_true rfl) (Nat.le_of_ble_eq_true rfl) ?_
      refine sp_inX (lo := 0) (hi := 1000) (by decide) (by decide) hn ?_
      refine e_if_ne (pc := 9) (tgt := 14) dX6_pushes_9 (by decide) (fun h9 => absurd (by decide) h9) (fun h9 => ?_)
      refine e_iconst' (pc := 12) (-1) dX6_pushes_12 (by decide) ?_
      refine e_iret (pc := 13) (st := []) (ty := .int) dX6_pushes_13 rfl rfl ?_
      exact k _ Same.rf
theorem cut_vd {R : Rw} {n : Nat} (hv : Vd R) (hn : n ≤ R 20) : Vd (rs R 20 n) := by
  have h5 := hv.1
  refine ⟨by rw [rs_at]; omega, fun w hw => ?_⟩
  rw [rs_at] at hw
  rw [rs_ne _ _ (show w ≠ 20 by omega), rs_ne _ _ (show 5 + w ≠ 20 by omega), rs_ne _ _ (show 10 + w ≠ 20 by omega), rs_ne _ _ (show 15 + w ≠ 20 by omega)]
  exact hv.2 w (by omega)
theorem RowAt.cut {S : PS} {i n : Nat} {R : Rw} (h : RowAt S i R) (hv : Vd R) (hn : n ≤ R 20) : RowAt (up2 S.1 i 0 (nI n), S.2) i (rs R 20 n) := by
  have h5 := hv.1
  refine RowAt.mk ?_ ?_ (fun b u hb hu => ?_)
  · rw [rs_at]; show up2 S.1 i 0 (nI n) i 0 = _; rw [up2_at]; exact if_pos rfl
  · rw [rs_ne _ _ (by omega)]; show up2 S.1 i 0 (nI n) i 1 = _; rw [up2_at]; exact h.2.1
  · rw [rs_at] at hu
    rw [rs_ne _ _ (by omega)]; show up2 S.1 i 0 (nI n) (i + 1 + b) u = _
    rw [up2_ne _ _ _ (by omega)]; exact h.get hb (by omega)
theorem PgAt.cut {S : PS} {p n : Nat} {R : Rw} (h : PgAt S p R) (hv : Vd R) (hn : n ≤ R 20) : PgAt (up2 S.1 55 (p + 20) (nI n), S.2) p (rs R 20 n) := by
  have h5 := hv.1
  have e : ∀ k, k ≠ p + 20 → up2 S.1 55 (p + 20) (nI n) 55 k = S.1 55 k := fun k hk => by rw [up2_at]; exact if_neg hk
  refine PgAt.mk ?_ ?_ (fun b u hb hu => ?_)
  · rw [rs_at]; show up2 S.1 55 (p + 20) (nI n) 55 (p + 20) = _; rw [up2_at]; exact if_pos rfl
  · rw [rs_ne _ _ (by omega)]; exact (e _ (by omega)).trans h.2.1
  · rw [rs_at] at hu
    rw [rs_ne _ _ (by omega)]; exact (e _ (by omega)).trans (h.gt hb (by omega))
theorem b_cut {sc : PSc} {S : PS} (hI : InvS S) (x : Int32) : Bth sc mX5_cut mX6_cut [.int x] S := by
  obtain ⟨R, hv, hc, hr, hp⟩ := hI.1
  have hv5 := hv.1
  rcases Classical.em (inr x 0 (R 20)) with ⟨m, rfl, -, hm⟩ | hn
  · show E sc mX5_cut 0 [.ref 0, .int (nI m), .null] [] S _
    refine e_iload_n (pc := 0) (i := 1) dX5_cut_0 rfl rfl ?_
    refine e_iconst' (pc := 1) (nI 0) dX5_cut_1 (by decide) ?_
    refine e_aload_n (pc := 2) (i := 0) dX5_cut_2 rfl rfl ?_
    refine e_getR (pc := 3) dX5_cut_3 (fX5_10 rfl) sh_0 rfl ?_
    refine e_getI (pc := 6) dX5_cut_6 (fX5_103 rfl) sh_1 rfl ?_
    refine E.it (nI (R 20)) hr.1 ?_
    refine e_callS3 (pc := 9) (M' := mX5_within) dX5_cut_9 jX5_within lkX5_70 (by decide) (Nat.le_of_ble_eq_true rfl) (Nat.le_of_ble_eq_true rfl) ?_
    refine sp_winY (by omega) (by omega) (by omega) ?_
    refine e_if_ne (pc := 12) (tgt := 17) dX5_cut_12 (by decide) (fun h12 => ?_) (fun h12 => absurd h12 (by decide))
    refine e_aload_n (pc := 17) (i := 0) dX5_cut_17 rfl rfl ?_
    refine e_getR (pc := 18) dX5_cut_18 (fX5_10 rfl) sh_0 rfl ?_
    refine e_getI (pc := 21) dX5_cut_21 (fX5_103 rfl) sh_1 rfl ?_
    refine E.it (nI (R 20)) hr.1 ?_
    refine e_istore_n (pc := 24) (i := 2) dX5_cut_24 rfl (by decide) rfl ?_
    refine e_aload_n (pc := 25) (i := 0) dX5_cut_25 rfl rfl ?_
    refine e_getR (pc := 26) dX5_cut_26 (fX5_10 rfl) sh_0 rfl ?_
    refine e_iload_n (pc := 29) (i := 1) dX5_cut_29 rfl rfl ?_
    refine e_putI (pc := 30) dX5_cut_30 (pX5_103 rfl) sh_1 rfl (fun h => by cases h) ?_
    refine e_iload_n (pc := 33) (i := 2) dX5_cut_33 rfl rfl ?_
    refine e_iret (pc := 34) (st := []) (ty := .int) dX5_cut_34 rfl rfl ?_
    have c : Fr 1 5 S (up2 S.1 1 0 (nI m), S.2) := Fr.rf.up (by omega) (by omega)
    have hp2 := c.pg hv hp
    refine ⟨_, rfl, ?_⟩
    show E sc mX6_cut 0 [.ref 54, .int (nI m), .null] [] _ _
    refine e_iload_n (pc := 0) (i := 1) dX6_cut_0 rfl rfl ?_
    refine e_i2l (pc := 1) dX6_cut_1 ?_
    refine e_lconst' (pc := 2) (lN 0) dX6_cut_2 (by decide) ?_
    refine e_aload_n (pc := 3) (i := 0) dX6_cut_3 rfl rfl ?_
    refine e_getR (pc := 4) dX6_cut_4 (fX6_7 rfl) sh_54 rfl ?_
    refine e_bipush' (pc := 7) (nI 20) dX6_cut_7 (by decide) ?_
    refine e_iald (pc := 9) dX6_cut_9 sh_55 (vp_in_nI (by omega) (by omega)) ?_
    refine E.it (nI (R 20)) (pgn (p := 0) (by omega) hp2) ?_
    refine e_i2l (pc := 10) dX6_cut_10 ?_
    refine e_callS3 (pc := 11) (M' := mX6_in) dX6_cut_11 jX6_in lkX6_46 (by decide) (Nat.le_of_ble_eq_true rfl) (Nat.le_of_ble_eq_true rfl) ?_
    refine sp_inY (lo := 0) (hi := R 20) (by decide) (by rw [Int32.toInt_toInt64, nI_toInt (by omega)]) (by omega) (by omega) (by omega) ?_
    refine e_if_ne (pc := 14) (tgt := 19) dX6_cut_14 (by decide) (fun h14 => ?_) (fun h14 => absurd h14 (by decide))
    refine e_aload_n (pc := 19) (i := 0) dX6_cut_19 rfl rfl ?_
    refine e_getR (pc := 20) dX6_cut_20 (fX6_7 rfl) sh_54 rfl ?_
    refine e_bipush' (pc := 23) (nI 20) dX6_cut_23 (by decide) ?_
    refine e_iald (pc := 25) dX6_cut_25 sh_55 (vp_in_nI (by omega) (by omega)) ?_
    refine E.it (nI (R 20)) (pgn (p := 0) (by omega) hp2) ?_
    refine e_istore_n (pc := 26) (i := 2) dX6_cut_26 rfl (by decide) rfl ?_
    refine e_aload_n (pc := 27) (i := 0) dX6_cut_27 rfl rfl ?_
    refine e_getR (pc := 28) dX6_cut_28 (fX6_7 rfl) sh_54 rfl ?_
    refine e_bipush' (pc := 31) (nI 20) dX6_cut_31 (by decide) ?_
    refine e_iload_n (pc := 33) (i := 1) dX6_cut_33 rfl rfl ?_
    refine e_iast (pc := 34) dX6_cut_34 sh_55 (vp_in_nI (by omega) (by omega)) ?_
    refine e_iload_n (pc := 35) (i := 2) dX6_cut_35 rfl rfl ?_
    refine e_iret (pc := 36) (st := []) (ty := .int) dX6_cut_36 rfl rfl ?_
    have f : FrQ 0 (up2 S.1 1 0 (nI m), S.2) (up2 (up2 S.1 1 0 (nI m)) 55 20 (nI m), S.2) := FrQ.up ⟨rfl, fun _ _ => rfl, fun _ _ => rfl⟩ (by omega) (by omega)
    exact ⟨rfl, (c.rst.tr f.rst).inv hI (cut_vd hv hm) (by rw [rs_ne _ _ (by omega)]; exact hc) (f.row (by omega) (hr.cut hv hm)) (hp2.cut hv hm)⟩
  · refine ask_both (-1) hI (fun Q k => ?_) (fun S1 h1 Q k => ?_)
    · show E sc mX5_cut 0 [.ref 0, .int x, .null] [] S Q
      refine e_iload_n (pc := 0) (i := 1) dX5_cut_0 rfl rfl ?_
      refine e_iconst' (pc := 1) (nI 0) dX5_cut_1 (by decide) ?_
      refine e_aload_n (pc := 2) (i := 0) dX5_cut_2 rfl rfl ?_
      refine e_getR (pc := 3) dX5_cut_3 (fX5_10 rfl) sh_0 rfl ?_
      refine e_getI (pc := 6) dX5_cut_6 (fX5_103 rfl) sh_1 rfl ?_
      refine E.it (nI (R 20)) hr.1 ?_
      refine e_callS3 (pc := 9) (M' := mX5_within) dX5_cut_9 jX5_within lkX5_70 (by decide) (Nat.le_of_ble_eq_true rfl) (Nat.le_of_ble_eq_true rfl) ?_
      refine sp_winX hn (by omega) (by omega) ?_
      refine e_if_ne (pc := 12) (tgt := 17) dX5_cut_12 (by decide) (fun h12 => absurd (by decide) h12) (fun h12 => ?_)
      refine e_iconst' (pc := 15) (-1) dX5_cut_15 (by decide) ?_
      refine e_iret (pc := 16) (st := []) (ty := .int) dX5_cut_16 rfl rfl ?_
      exact k _ Same.rf
    · show E sc mX6_cut 0 [.ref 54, .int x, .null] [] S1 Q
      have hp := h1.pg (by omega) hv hp
      have hr := h1.row (by omega) hr
      refine e_iload_n (pc := 0) (i := 1) dX6_cut_0 rfl rfl ?_
      refine e_i2l (pc := 1) dX6_cut_1 ?_
      refine e_lconst' (pc := 2) (lN 0) dX6_cut_2 (by decide) ?_
      refine e_aload_n (pc := 3) (i := 0) dX6_cut_3 rfl rfl ?_
      refine e_getR (pc := 4) dX6_cut_4 (fX6_7 rfl) sh_54 rfl ?_
      refine e_bipush' (pc := 7) (nI 20) dX6_cut_7 (by decide) ?_
      refine e_iald (pc := 9) dX6_cut_9 sh_55 (vp_in_nI (by omega) (by omega)) ?_
      refine E.it (nI (R 20)) (pgn (p := 0) (by omega) hp) ?_
      refine e_i2l (pc := 10) dX6_cut_10 ?_
      refine e_callS3 (pc := 11) (M' := mX6_in) dX6_cut_11 jX6_in lkX6_46 (by decide) (Nat.le_of_ble_eq_true rfl) (Nat.le_of_ble_eq_true rfl) ?_
      refine sp_inX (lo := 0) (hi := R 20) (by decide) (by rw [Int32.toInt_toInt64, nI_toInt (by omega)]) hn ?_
      refine e_if_ne (pc := 14) (tgt := 19) dX6_cut_14 (by decide) (fun h14 => absurd (by decide) h14) (fun h14 => ?_)
      refine e_iconst' (pc := 17) (-1) dX6_cut_17 (by decide) ?_
      refine e_iret (pc := 18) (st := []) (ty := .int) dX6_cut_18 rfl rfl ?_
      exact k _ Same.rf

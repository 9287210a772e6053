theorem I1.k {S S' : PS} (h : ∀ j, ((1 ≤ j ∧ j ≤ 5) ∨ j = 55) → S'.1 j = S.1 j) (hi : I1 S) : I1 S' := by
  obtain ⟨R, a, b, c, d⟩ := hi
  refine ⟨R, a, b, ?_, d.of (fun k _ _ => by rw [h 55 (by omega)]) a.1⟩
  obtain ⟨x, y, z⟩ := c
  refine ⟨by rw [h 1 (by omega)]; exact x, by rw [h 1 (by omega)]; exact y, fun w hw => ?_⟩
  rw [h (1 + 1) (by omega), h (1 + 2) (by omega), h (1 + 3) (by omega), h (1 + 4) (by omega)]
  exact z w hw
theorem row_k {S S' : PS} {i : Nat} {R : Rw} (h : ∀ q, i ≤ q → q < i + 5 → S'.1 q = S.1 q) (hr : RowAt S i R) : RowAt S' i R := by
  obtain ⟨x, y, z⟩ := hr
  refine ⟨by rw [h _ (by omega) (by omega)]; exact x, by rw [h _ (by omega) (by omega)]; exact y, fun w hw => ?_⟩
  rw [h (i + 1) (by omega) (by omega), h (i + 2) (by omega) (by omega), h (i + 3) (by omega) (by omega), h (i + 4) (by omega) (by omega)]
  exact z w hw
theorem I2.k {S S' : PS} {k : Nat} (hk : k < 2) (h : ∀ j, ((11 + 5 * k ≤ j ∧ j < 16 + 5 * k)) → S'.1 j = S.1 j) (h1 : S'.1 22 k = S.1 22 k) (h2 : S'.1 62 k = S.1 62 k) (h3 : ∀ q, 22 + 22 * k ≤ q → q < 44 + 22 * k → S'.1 55 q = S.1 55 q) (hi : I2 S k) : I2 S' k := by
  unfold I2 at hi ⊢
  rw [h1, h2]
  rcases hi with hi | ⟨a, b, R, c, d, e, f⟩
  · exact Or.inl hi
  · exact Or.inr ⟨a, b, R, c, d, row_k (fun q h1 h2 => h q (by omega)) e, f.of (fun q h1 h2 => h3 q (by omega) (by omega)) c.1⟩
theorem I3.k {S S' : PS} {n : Nat} {tp : Nat → Nat} (h : ∀ j, (j = 23 ∨ j = 24 ∨ j = 57) → S'.1 j = S.1 j) (h4 : S'.1 54 4 = S.1 54 4) (hi : I3 S n tp) : I3 S' n tp := by
  unfold I3 at hi ⊢
  rw [h 23 (by omega), h 24 (by omega), h 57 (by omega), h4]
  exact hi
theorem I5.k {S S' : PS} {n : Nat} {sp sv : Nat → Nat} (h : ∀ j, (j = 26 ∨ j = 27 ∨ j = 28 ∨ j = 60) → S'.1 j = S.1 j) (h4 : S'.1 54 18 = S.1 54 18) (hi : I5 S n sp sv) : I5 S' n sp sv := by
  unfold I5 at hi ⊢
  rw [h 26 (by omega), h 27 (by omega), h 28 (by omega), h 60 (by omega), h4]
  exact hi
theorem I6.k {S S' : PS} {k : Nat} (hk : k < 4) (h : ∀ j, ((30 ≤ j ∧ j ≤ 37) ∨ (63 ≤ j ∧ j ≤ 65)) → S'.1 j = S.1 j) (hi : I6 S k) : I6 S' k := by
  unfold I6 at hi ⊢
  rw [h (30 + 2 * k) (by omega), h (31 + 2 * k) (by omega), h 63 (by omega), h 64 (by omega), h 65 (by omega)]
  exact hi
theorem I8.k {S S' : PS} (h : ∀ j, (j = 58 ∨ j = 59) → S'.1 j = S.1 j) (hi : I8 S) : I8 S' := by
  unfold I8 at hi ⊢
  rw [h 58 (by omega), h 59 (by omega)]
  exact hi
theorem Inv_tape {S S' : PS} {n : Nat} {tp : Nat → Nat} (hI : InvS S) (h : ∀ j, j ≠ 23 → j ≠ 24 → j ≠ 57 → j ≠ 54 → S'.1 j = S.1 j) (h54 : ∀ k, k ≠ 4 → S'.1 54 k = S.1 54 k) (hn : I3 S' n tp) : InvS S' := by
  obtain ⟨a, ⟨b, c⟩, -, e, ⟨m, sp, sv, f⟩, g, i, j⟩ := hI
  have q : ∀ j, (j ≠ 23 ∧ j ≠ 24 ∧ j ≠ 57 ∧ j ≠ 54) → S'.1 j = S.1 j := fun j hj => h j hj.1 hj.2.1 hj.2.2.1 hj.2.2.2
  refine ⟨I1.k (fun j hj => q j (by omega)) a, ⟨I2.k (by omega) (fun j hj => q j (by omega)) (by rw [q 22 (by omega)]) (by rw [q 62 (by omega)]) (fun k _ _ => by rw [q 55 (by omega)]) b, I2.k (by omega) (fun j hj => q j (by omega)) (by rw [q 22 (by omega)]) (by rw [q 62 (by omega)]) (fun k _ _ => by rw [q 55 (by omega)]) c⟩, ⟨n, tp, hn⟩, ?_, ⟨m, sp, sv, I5.k (fun j hj => q j (by omega)) (h54 18 (by omega)) f⟩, fun k hk => I6.k hk (fun j hj => q j (by omega)) (g k hk), ?_, I8.k (fun j hj => q j (by omega)) j⟩
  · rw [q 25 (by omega), h54 5 (by omega)]; exact e
  · rw [q 0 (by omega), h54 24 (by omega)]; exact i
theorem Inv_seen {S S' : PS} {n : Nat} {sp sv : Nat → Nat} (hI : InvS S) (h : ∀ j, j ≠ 26 → j ≠ 27 → j ≠ 28 → j ≠ 60 → j ≠ 54 → S'.1 j = S.1 j) (h54 : ∀ k, k ≠ 18 → S'.1 54 k = S.1 54 k) (hn : I5 S' n sp sv) : InvS S' := by
  obtain ⟨a, ⟨b, c⟩, ⟨m, tp, f⟩, e, -, g, i, j⟩ := hI
  have q : ∀ j, (j ≠ 26 ∧ j ≠ 27 ∧ j ≠ 28 ∧ j ≠ 60 ∧ j ≠ 54) → S'.1 j = S.1 j := fun j hj => h j hj.1 hj.2.1 hj.2.2.1 hj.2.2.2.1 hj.2.2.2.2
  refine ⟨I1.k (fun j hj => q j (by omega)) a, ⟨I2.k (by omega) (fun j hj => q j (by omega)) (by rw [q 22 (by omega)]) (by rw [q 62 (by omega)]) (fun k _ _ => by rw [q 55 (by omega)]) b, I2.k (by omega) (fun j hj => q j (by omega)) (by rw [q 22 (by omega)]) (by rw [q 62 (by omega)]) (fun k _ _ => by rw [q 55 (by omega)]) c⟩, ⟨m, tp, I3.k (fun j hj => q j (by omega)) (h54 4 (by omega)) f⟩, ?_, ⟨n, sp, sv, hn⟩, fun k hk => I6.k hk (fun j hj => q j (by omega)) (g k hk), ?_, I8.k (fun j hj => q j (by omega)) j⟩
  · rw [q 25 (by omega), h54 5 (by omega)]; exact e
  · rw [q 0 (by omega), h54 24 (by omega)]; exact i
theorem Inv_img {S S' : PS} (hI : InvS S) (h : ∀ j, (j < 11 ∨ j = 21 ∨ 23 ≤ j) → j ≠ 55 → j ≠ 62 → S'.1 j = S.1 j) (h55 : ∀ k, (k < 22 ∨ 66 ≤ k) → S'.1 55 k = S.1 55 k) (hn : I2 S' 0 ∧ I2 S' 1) : InvS S' := by
  obtain ⟨⟨R, a1, a2, a3, a4⟩, -, ⟨m, tp, f⟩, e, ⟨m2, sp, sv, f2⟩, g, i, j⟩ := hI
  have q : ∀ j, ((j < 11 ∨ j = 21 ∨ 23 ≤ j) ∧ j ≠ 55 ∧ j ≠ 62) → S'.1 j = S.1 j := fun j hj => h j hj.1 hj.2.1 hj.2.2
  refine ⟨⟨R, a1, a2, row_k (fun j h1 h2 => q j (by omega)) a3, a4.of (fun k _ h2 => h55 k (by omega)) a1.1⟩, hn, ⟨m, tp, I3.k (fun j hj => q j (by omega)) (by rw [q 54 (by omega)]) f⟩, ?_, ⟨m2, sp, sv, I5.k (fun j hj => q j (by omega)) (by rw [q 54 (by omega)]) f2⟩, fun k hk => I6.k hk (fun j hj => q j (by omega)) (g k hk), ?_, I8.k (fun j hj => q j (by omega)) j⟩
  · rw [q 25 (by omega), q 54 (by omega)]; exact e
  · rw [q 0 (by omega), q 54 (by omega)]; exact i
theorem RowAt.cg {S : PS} {i : Nat} {R R2 : Rw} (h : RowAt S i R) (h20 : R2 20 = R 20) (h21 : R2 21 = R 21) (he : ∀ b u, b < 4 → u < R 20 → R2 (5 * b + u) = R (5 * b + u)) : RowAt S i R2 :=
  RowAt.mk (by rw [h20]; exact h.1) (by rw [h21]; exact h.2.1) (fun b u hb hu => by rw [h20] at hu; rw [he b u hb hu]; exact h.get hb hu)
theorem PgAt.cg {S : PS} {p : Nat} {R R2 : Rw} (h : PgAt S p R) (h20 : R2 20 = R 20) (h21 : R2 21 = R 21) (he : ∀ b u, b < 4 → u < R 20 → R2 (5 * b + u) = R (5 * b + u)) : PgAt S p R2 :=
  PgAt.mk (by rw [h20]; exact h.1) (by rw [h21]; exact h.2.1) (fun b u hb hu => by rw [h20] at hu; rw [he b u hb hu]; exact h.gt hb hu)
theorem e55 {S : PS} {k x : Nat} {v : Int32} (h : x ≠ k) : up2 S.1 55 k v 55 x = S.1 55 x := by rw [up2_at]; exact if_neg h
theorem addP {S : PS} {R : Rw} {kd th : Nat} (hp : PgAt S 0 R) (hv : Vd R) (h5 : R 20 < 5) : PgAt (up2 (up2 (up2 (up2 (up2 S.1 55 (R 20) (nI kd)) 55 (5 + R 20) (nI th)) 55 (10 + R 20) (nI 0)) 55 (15 + R 20) (nI 0)) 55 20 (nI (R 20 + 1)), S.2) 0 (addR R kd th 0 12) := by
  obtain ⟨a1, a2, a3, a4, a5, a6⟩ := addR_at (kd := kd) (th := th) (dg := 0) (br := 12) h5
  have ev : ∀ x, (up2 (up2 (up2 (up2 (up2 S.1 55 (R 20) (nI kd)) 55 (5 + R 20) (nI th)) 55 (10 + R 20) (nI 0)) 55 (15 + R 20) (nI 0)) 55 20 (nI (R 20 + 1))) 55 x = if x = 20 then nI (R 20 + 1) else if x = 15 + R 20 then nI 0 else if x = 10 + R 20 then nI 0 else if x = 5 + R 20 then nI th else if x = R 20 then nI kd else S.1 55 x := by
    intro x; rw [up2_at, up2_at, up2_at, up2_at, up2_at]
  refine PgAt.mk ?_ ?_ (fun b u hb hu => ?_)
  · rw [a5]; exact (ev _).trans (if_pos rfl)
  · rw [a6]
    refine (ev (0 + 21)).trans ?_
    rw [if_neg (by omega), if_neg (by omega), if_neg (by omega), if_neg (by omega), if_neg (by omega)]; exact hp.2.1
  · rw [a5] at hu
    refine (ev (0 + 5 * b + u)).trans ?_
    by_cases e : u = R 20
    · subst e
      rcases (show b = 0 ∨ b = 1 ∨ b = 2 ∨ b = 3 by omega) with rfl | rfl | rfl | rfl
      · rw [if_neg (by omega), if_neg (by omega), if_neg (by omega), if_neg (by omega), if_pos (by omega), show 5 * 0 + R 20 = R 20 by omega, a1]; rfl
      · rw [if_neg (by omega), if_neg (by omega), if_neg (by omega), if_pos (by omega), show 5 * 1 + R 20 = 5 + R 20 by omega, a2]; rfl
      · rw [if_neg (by omega), if_neg (by omega), if_pos (by omega), show 5 * 2 + R 20 = 10 + R 20 by omega, a3]; rfl
      · rw [if_neg (by omega), if_pos (by omega), show 5 * 3 + R 20 = 15 + R 20 by omega, a4]; rfl
    · rw [if_neg (by omega), if_neg (by omega), if_neg (by omega), if_neg (by omega), if_neg (by omega), addR_lt h5 b u hb (by omega)]
      exact hp.gt hb (by omega)
theorem b_add {sc : PSc} {S : PS} (hI : InvS S) (x y : Int32) : Bth sc mX5_add mX6_add [.int x, .int y] S := by
  obtain ⟨R, hv, hc, hr, hp⟩ := hI.1
  have hv5 := hv.1
  rcases Classical.em (inr x 0 3) with ⟨a, rfl, -, ha⟩ | hn
  · rcases Classical.em (inr y 2 12) with ⟨b, rfl, hb1, hb2⟩ | hn
    · by_cases h5 : R 20 < 5
      · show E sc mX5_add 0 [.ref 0, .int (nI a), .int (nI b)] [] S _
        refine e_iload_n (pc := 0) (i := 1) dX5_add_0 rfl rfl ?_
        refine e_iconst' (pc := 1) (nI 0) dX5_add_1 (by decide) ?_
        refine e_iconst' (pc := 2) (nI 3) dX5_add_2 (by decide) ?_
        refine e_callS3 (pc := 3) (M' := mX5_within) dX5_add_3 jX5_within lkX5_70 (by decide) (Nat.le_of_ble_eq_true rfl) (Nat.le_of_ble_eq_true rfl) ?_
        refine sp_winY (by omega) (by omega) (by omega) ?_
        refine e_if_eq (pc := 6) (tgt := 19) dX5_add_6 (by decide) (fun h6 => absurd h6 (by decide)) (fun h6 => ?_)
        refine e_iload_n (pc := 9) (i := 2) dX5_add_9 rfl rfl ?_
        refine e_iconst' (pc := 10) (nI 2) dX5_add_10 (by decide) ?_
        refine e_bipush' (pc := 11) (nI 12) dX5_add_11 (by decide) ?_
        refine e_callS3 (pc := 13) (M' := mX5_within) dX5_add_13 jX5_within lkX5_70 (by decide) (Nat.le_of_ble_eq_true rfl) (Nat.le_of_ble_eq_true rfl) ?_
        refine sp_winY (by omega) (by omega) (by omega) ?_
        refine e_if_ne (pc := 16) (tgt := 21) dX5_add_16 (by decide) (fun h16 => ?_) (fun h16 => absurd h16 (by decide))
        refine e_aload_n (pc := 21) (i := 0) dX5_add_21 rfl rfl ?_
        refine e_getR (pc := 22) dX5_add_22 (fX5_10 rfl) sh_0 rfl ?_
        refine e_getI (pc := 25) dX5_add_25 (fX5_103 rfl) sh_1 rfl ?_
        refine E.it (nI (R 20)) hr.1 ?_
        refine e_iconst' (pc := 28) (nI 5) dX5_add_28 (by decide) ?_
        refine e_icmp_lt (pc := 29) (tgt := 35) dX5_add_29 (by decide) (fun h29 => ?_) (fun h29 => absurd (nI_lt h5 (by omega)) h29)
        replace h29 := (nI_ltI (by omega) (by omega)).mp h29
        refine e_aload_n (pc := 35) (i := 0) dX5_add_35 rfl rfl ?_
        refine e_getR (pc := 36) dX5_add_36 (fX5_10 rfl) sh_0 rfl ?_
        refine e_iload_n (pc := 39) (i := 1) dX5_add_39 rfl rfl ?_
        refine e_iload_n (pc := 40) (i := 2) dX5_add_40 rfl rfl ?_
        refine e_iconst' (pc := 41) (nI 0) dX5_add_41 (by decide) ?_
        refine e_bipush' (pc := 42) (nI 12) dX5_add_42 (by decide) ?_
        refine e_callV4 (pc := 44) (M' := mX0_append) dX5_add_44 iX0_append lkX5_136 (by decide) (rO_obj sh_1 rfl) (Nat.le_of_ble_eq_true rfl) (Nat.le_of_ble_eq_true rfl) ?_
        refine sp_append r1 hv hr h5 (fun S1 q c => ?_)
        refine e_aload_n (pc := 47) (i := 0) dX5_add_47 rfl rfl ?_
        refine e_getR (pc := 48) dX5_add_48 (fX5_10 rfl) sh_0 rfl ?_
        refine e_getI (pc := 51) dX5_add_51 (fX5_103 rfl) sh_1 rfl ?_
        refine E.it (nI (R 20 + 1)) (q.1.trans (by rw [(addR_at h5).2.2.2.2.1])) ?_
        refine e_iret (pc := 54) (st := []) (ty := .int) dX5_add_54 rfl rfl ?_
        have hp2 := c.pg hv hp
        refine ⟨_, rfl, ?_⟩
        show E sc mX6_add 0 [.ref 54, .int (nI a), .int (nI b), .null] [] _ _
        refine e_iload_n (pc := 0) (i := 1) dX6_add_0 rfl rfl ?_
        refine e_i2l (pc := 1) dX6_add_1 ?_
        refine e_lconst' (pc := 2) (lN 0) dX6_add_2 (by decide) ?_
        refine e_ldc2 (pc := 3) dX6_add_3 (klX6_148 rfl) ?_
        refine e_callS3 (pc := 6) (M' := mX6_in) dX6_add_6 jX6_in lkX6_46 (by decide) (Nat.le_of_ble_eq_true rfl) (Nat.le_of_ble_eq_true rfl) ?_
        refine sp_inY (lo := 0) (hi := 3) (by decide) (by decide) (by omega) (by omega) (by omega) ?_
        refine e_if_eq (pc := 9) (tgt := 26) dX6_add_9 (by decide) (fun h9 => absurd h9 (by decide)) (fun h9 => ?_)
        refine e_iload_n (pc := 12) (i := 2) dX6_add_12 rfl rfl ?_
        refine e_i2l (pc := 13) dX6_add_13 ?_
        refine e_ldc2 (pc := 14) dX6_add_14 (klX6_150 rfl) ?_
        refine e_ldc2 (pc := 17) dX6_add_17 (klX6_152 rfl) ?_
        refine e_callS3 (pc := 20) (M' := mX6_in) dX6_add_20 jX6_in lkX6_46 (by decide) (Nat.le_of_ble_eq_true rfl) (Nat.le_of_ble_eq_true rfl) ?_
        refine sp_inY (lo := 2) (hi := 12) (by decide) (by decide) (by omega) (by omega) (by omega) ?_
        refine e_if_ne (pc := 23) (tgt := 28) dX6_add_23 (by decide) (fun h23 => ?_) (fun h23 => absurd h23 (by decide))
        refine e_aload_n (pc := 28) (i := 0) dX6_add_28 rfl rfl ?_
        refine e_getR (pc := 29) dX6_add_29 (fX6_7 rfl) sh_54 rfl ?_
        refine e_bipush' (pc := 32) (nI 20) dX6_add_32 (by decide) ?_
        refine e_iald (pc := 34) dX6_add_34 sh_55 (vp_in_nI (by omega) (by omega)) ?_
        refine E.it (nI (R 20)) (pgn (p := 0) (by omega) hp2) ?_
        refine e_istore_n (pc := 35) (i := 3) dX6_add_35 rfl (by decide) rfl ?_
        refine e_iload_n (pc := 36) (i := 3) dX6_add_36 rfl rfl ?_
        refine e_iconst' (pc := 37) (nI 5) dX6_add_37 (by decide) ?_
        refine e_icmp_ne (pc := 38) (tgt := 44) dX6_add_38 (by decide) (fun h38 => ?_) (fun h38 => absurd ((nI_eq (by omega) (by omega)).mp h38) (by omega))
        replace h38 := mt (nI_eq (by omega) (by omega)).mpr h38
        refine e_aload_n (pc := 44) (i := 0) dX6_add_44 rfl rfl ?_
        refine e_getR (pc := 45) dX6_add_45 (fX6_7 rfl) sh_54 rfl ?_
        refine e_iload_n (pc := 48) (i := 3) dX6_add_48 rfl rfl ?_
        refine e_iload_n (pc := 49) (i := 1) dX6_add_49 rfl rfl ?_
        refine e_iast (pc := 50) dX6_add_50 sh_55 (vp_in_nI (by omega) (by omega)) ?_
        refine e_aload_n (pc := 51) (i := 0) dX6_add_51 rfl rfl ?_
        refine e_getR (pc := 52) dX6_add_52 (fX6_7 rfl) sh_54 rfl ?_
        refine e_iconst' (pc := 55) (nI 5) dX6_add_55 (by decide) ?_
        refine e_iload_n (pc := 56) (i := 3) dX6_add_56 rfl rfl ?_
        refine e_iadd (pc := 57) dX6_add_57 ?_
        refine E.it (nI (5 + R 20)) (nI_add _ _) ?_
        refine e_iload_n (pc := 58) (i := 2) dX6_add_58 rfl rfl ?_
        refine e_iast (pc := 59) dX6_add_59 sh_55 (vp_in_nI (by omega) (by omega)) ?_
        refine e_aload_n (pc := 60) (i := 0) dX6_add_60 rfl rfl ?_
        refine e_getR (pc := 61) dX6_add_61 (fX6_7 rfl) sh_54 rfl ?_
        refine e_bipush' (pc := 64) (nI 10) dX6_add_64 (by decide) ?_
        refine e_iload_n (pc := 66) (i := 3) dX6_add_66 rfl rfl ?_
        refine e_iadd (pc := 67) dX6_add_67 ?_
        refine E.it (nI (10 + R 20)) (nI_add _ _) ?_
        refine e_iconst' (pc := 68) (nI 0) dX6_add_68 (by decide) ?_
        refine e_iast (pc := 69) dX6_add_69 sh_55 (vp_in_nI (by omega) (by omega)) ?_
        refine e_aload_n (pc := 70) (i := 0) dX6_add_70 rfl rfl ?_
        refine e_getR (pc := 71) dX6_add_71 (fX6_7 rfl) sh_54 rfl ?_
        refine e_bipush' (pc := 74) (nI 15) dX6_add_74 (by decide) ?_
        refine e_iload_n (pc := 76) (i := 3) dX6_add_76 rfl rfl ?_
        refine e_iadd (pc := 77) dX6_add_77 ?_
        refine E.it (nI (15 + R 20)) (nI_add _ _) ?_
        refine e_iconst' (pc := 78) (nI 0) dX6_add_78 (by decide) ?_
        refine e_iast (pc := 79) dX6_add_79 sh_55 (vp_in_nI (by omega) (by omega)) ?_
        refine e_aload_n (pc := 80) (i := 0) dX6_add_80 rfl rfl ?_
        refine e_getR (pc := 81) dX6_add_81 (fX6_7 rfl) sh_54 rfl ?_
        refine e_bipush' (pc := 84) (nI 20) dX6_add_84 (by decide) ?_
        refine e_dup2 (pc := 86) dX6_add_86 rfl rfl ?_
        refine e_iald (pc := 87) dX6_add_87 sh_55 (vp_in_nI (by omega) (by omega)) ?_
        refine E.it (nI (R 20)) (by rw [nI_clamp (show R 20 < 2 ^ 31 by omega), nI_clamp (show 5 + R 20 < 2 ^ 31 by omega), nI_clamp (show 10 + R 20 < 2 ^ 31 by omega), nI_clamp (show 15 + R 20 < 2 ^ 31 by omega), nI_clamp (show 20 < 2 ^ 31 by omega)]; exact (e55 (by omega)).trans ((e55 (by omega)).trans ((e55 (by omega)).trans ((e55 (by omega)).trans hp2.1)))) ?_
        refine e_iconst' (pc := 88) (nI 1) dX6_add_88 (by decide) ?_
        refine e_iadd (pc := 89) dX6_add_89 ?_
        refine E.it (nI (R 20 + 1)) (nI_add _ _) ?_
        refine e_iast (pc := 90) dX6_add_90 sh_55 (vp_in_nI (by omega) (by omega)) ?_
        refine e_aload_n (pc := 91) (i := 0) dX6_add_91 rfl rfl ?_
        refine e_getR (pc := 92) dX6_add_92 (fX6_7 rfl) sh_54 rfl ?_
        refine e_bipush' (pc := 95) (nI 20) dX6_add_95 (by decide) ?_
        refine e_iald (pc := 97) dX6_add_97 sh_55 (vp_in_nI (by omega) (by omega)) ?_
        refine E.it (nI (R 20 + 1)) (by rw [nI_clamp (show 20 < 2 ^ 31 by omega)]; rfl) ?_
        refine e_iret (pc := 98) (st := []) (ty := .int) dX6_add_98 rfl rfl ?_
        have hq := addP (kd := a) (th := b) hp2 hv h5
        rw [nI_clamp (show R 20 < 2 ^ 31 by omega), nI_clamp (show 5 + R 20 < 2 ^ 31 by omega), nI_clamp (show 10 + R 20 < 2 ^ 31 by omega), nI_clamp (show 15 + R 20 < 2 ^ 31 by omega), nI_clamp (show 20 < 2 ^ 31 by omega)]
        have f : FrQ 0 S1 (up2 (up2 (up2 (up2 (up2 S1.1 55 (R 20) (nI a)) 55 (5 + R 20) (nI b)) 55 (10 + R 20) (nI 0)) 55 (15 + R 20) (nI 0)) 55 20 (nI (R 20 + 1)), S1.2) := FrQ.up (FrQ.up (FrQ.up (FrQ.up (FrQ.up ⟨rfl, fun _ _ => rfl, fun _ _ => rfl⟩ (by omega) (by omega)) (by omega) (by omega)) (by omega) (by omega)) (by omega) (by omega)) (by omega) (by omega)
        exact ⟨rfl, (c.rst.tr f.rst).inv hI (addR_vd hv h5 (by omega) (by omega) (by omega) (by omega) (by omega)) (by rw [(addR_at h5).2.2.2.2.2]; exact hc) (f.row (by omega) q) hq⟩
      · refine ask_both (-3) hI (fun Q k => ?_) (fun S1 h1 Q k => ?_)
        · show E sc mX5_add 0 [.ref 0, .int (nI a), .int (nI b)] [] S Q
          refine e_iload_n (pc := 0) (i := 1) dX5_add_0 rfl rfl ?_
          refine e_iconst' (pc := 1) (nI 0) dX5_add_1 (by decide) ?_
          refine e_iconst' (pc := 2) (nI 3) dX5_add_2 (by decide) ?_
          refine e_callS3 (pc := 3) (M' := mX5_within) dX5_add_3 jX5_within lkX5_70 (by decide) (Nat.le_of_ble_eq_true rfl) (Nat.le_of_ble_eq_true rfl) ?_
          refine sp_winY (by omega) (by omega) (by omega) ?_
          refine e_if_eq (pc := 6) (tgt := 19) dX5_add_6 (by decide) (fun h6 => absurd h6 (by decide)) (fun h6 => ?_)
          refine e_iload_n (pc := 9) (i := 2) dX5_add_9 rfl rfl ?_
          refine e_iconst' (pc := 10) (nI 2) dX5_add_10 (by decide) ?_
          refine e_bipush' (pc := 11) (nI 12) dX5_add_11 (by decide) ?_
          refine e_callS3 (pc := 13) (M' := mX5_within) dX5_add_13 jX5_within lkX5_70 (by decide) (Nat.le_of_ble_eq_true rfl) (Nat.le_of_ble_eq_true rfl) ?_
          refine sp_winY (by omega) (by omega) (by omega) ?_
          refine e_if_ne (pc := 16) (tgt := 21) dX5_add_16 (by decide) (fun h16 => ?_) (fun h16 => absurd h16 (by decide))
          refine e_aload_n (pc := 21) (i := 0) dX5_add_21 rfl rfl ?_
          refine e_getR (pc := 22) dX5_add_22 (fX5_10 rfl) sh_0 rfl ?_
          refine e_getI (pc := 25) dX5_add_25 (fX5_103 rfl) sh_1 rfl ?_
          refine E.it (nI (R 20)) hr.1 ?_
          refine e_iconst' (pc := 28) (nI 5) dX5_add_28 (by decide) ?_
          refine e_icmp_lt (pc := 29) (tgt := 35) dX5_add_29 (by decide) (fun h29 => absurd ((nI_ltI (by omega) (by omega)).mp h29) h5) (fun h29 => ?_)
          replace h29 := mt (nI_ltI (by omega) (by omega)).mpr h29
          refine e_bipush' (pc := 32) (-3) dX5_add_32 (by decide) ?_
          refine e_iret (pc := 34) (st := []) (ty := .int) dX5_add_34 rfl rfl ?_
          exact k _ Same.rf
        · show E sc mX6_add 0 [.ref 54, .int (nI a), .int (nI b), .null] [] S1 Q
          have hp := h1.pg (by omega) hv hp
          have hr := h1.row (by omega) hr
          refine e_iload_n (pc := 0) (i := 1) dX6_add_0 rfl rfl ?_
          refine e_i2l (pc := 1) dX6_add_1 ?_
          refine e_lconst' (pc := 2) (lN 0) dX6_add_2 (by decide) ?_
          refine e_ldc2 (pc := 3) dX6_add_3 (klX6_148 rfl) ?_
          refine e_callS3 (pc := 6) (M' := mX6_in) dX6_add_6 jX6_in lkX6_46 (by decide) (Nat.le_of_ble_eq_true rfl) (Nat.le_of_ble_eq_true rfl) ?_
          refine sp_inY (lo := 0) (hi := 3) (by decide) (by decide) (by omega) (by omega) (by omega) ?_
          refine e_if_eq (pc := 9) (tgt := 26) dX6_add_9 (by decide) (fun h9 => absurd h9 (by decide)) (fun h9 => ?_)
          refine e_iload_n (pc := 12) (i := 2) dX6_add_12 rfl rfl ?_
          refine e_i2l (pc := 13) dX6_add_13 ?_
          refine e_ldc2 (pc := 14) dX6_add_14 (klX6_150 rfl) ?_
          refine e_ldc2 (pc := 17) dX6_add_17 (klX6_152 rfl) ?_
          refine e_callS3 (pc := 20) (M' := mX6_in) dX6_add_20 jX6_in lkX6_46 (by decide) (Nat.le_of_ble_eq_true rfl) (Nat.le_of_ble_eq_true rfl) ?_
          refine sp_inY (lo := 2) (hi := 12) (by decide) (by decide) (by omega) (by omega) (by omega) ?_
          refine e_if_ne (pc := 23) (tgt := 28) dX6_add_23 (by decide) (fun h23 => ?_) (fun h23 => absurd h23 (by decide))
          refine e_aload_n (pc := 28) (i := 0) dX6_add_28 rfl rfl ?_
          refine e_getR (pc := 29) dX6_add_29 (fX6_7 rfl) sh_54 rfl ?_
          refine e_bipush' (pc := 32) (nI 20) dX6_add_32 (by decide) ?_
          refine e_iald (pc := 34) dX6_add_34 sh_55 (vp_in_nI (by omega) (by omega)) ?_
          refine E.it (nI (R 20)) (pgn (p := 0) (by omega) hp) ?_
          refine e_istore_n (pc := 35) (i := 3) dX6_add_35 rfl (by decide) rfl ?_
          refine e_iload_n (pc := 36) (i := 3) dX6_add_36 rfl rfl ?_
          refine e_iconst' (pc := 37) (nI 5) dX6_add_37 (by decide) ?_
          refine e_icmp_ne (pc := 38) (tgt := 44) dX6_add_38 (by decide) (fun h38 => absurd (by rw [show R 20 = 5 by omega]) h38) (fun h38 => ?_)
          replace h38 := (nI_eq (by omega) (by omega)).mp h38
          refine e_bipush' (pc := 41) (-3) dX6_add_41 (by decide) ?_
          refine e_iret (pc := 43) (st := []) (ty := .int) dX6_add_43 rfl rfl ?_
          exact k _ Same.rf
    · refine ask_both (-1) hI (fun Q k => ?_) (fun S1 h1 Q k => ?_)
      · show E sc mX5_add 0 [.ref 0, .int (nI a), .int y] [] S Q
        refine e_iload_n (pc := 0) (i := 1) dX5_add_0 rfl rfl ?_
        refine e_iconst' (pc := 1) (nI 0) dX5_add_1 (by decide) ?_
        refine e_iconst' (pc := 2) (nI 3) dX5_add_2 (by decide) ?_
        refine e_callS3 (pc := 3) (M' := mX5_within) dX5_add_3 jX5_within lkX5_70 (by decide) (Nat.le_of_ble_eq_true rfl) (Nat.le_of_ble_eq_true rfl) ?_
        refine sp_winY (by omega) (by omega) (by omega) ?_
        refine e_if_eq (pc := 6) (tgt := 19) dX5_add_6 (by decide) (fun h6 => absurd h6 (by decide)) (fun h6 => ?_)
        refine e_iload_n (pc := 9) (i := 2) dX5_add_9 rfl rfl ?_
        refine e_iconst' (pc := 10) (nI 2) dX5_add_10 (by decide) ?_
        refine e_bipush' (pc := 11) (nI 12) dX5_add_11 (by decide) ?_
        refine e_callS3 (pc := 13) (M' := mX5_within) dX5_add_13 jX5_within lkX5_70 (by decide) (Nat.le_of_ble_eq_true rfl) (Nat.le_of_ble_eq_true rfl) ?_
        refine sp_winX hn (by omega) (by omega) ?_
        refine e_if_ne (pc := 16) (tgt := 21) dX5_add_16 (by decide) (fun h16 => absurd (by decide) h16) (fun h16 => ?_)
        refine e_iconst' (pc := 19) (-1) dX5_add_19 (by decide) ?_
        refine e_iret (pc := 20) (st := []) (ty := .int) dX5_add_20 rfl rfl ?_
        exact k _ Same.rf
      · show E sc mX6_add 0 [.ref 54, .int (nI a), .int y, .null] [] S1 Q
        have hp := h1.pg (by omega) hv hp
        have hr := h1.row (by omega) hr
        refine e_iload_n (pc := 0) (i := 1) dX6_add_0 rfl rfl ?_
        refine e_i2l (pc := 1) dX6_add_1 ?_
        refine e_lconst' (pc := 2) (lN 0) dX6_add_2 (by decide) ?_
        refine e_ldc2 (pc := 3) dX6_add_3 (klX6_148 rfl) ?_
        refine e_callS3 (pc := 6) (M' := mX6_in) dX6_add_6 jX6_in lkX6_46 (by decide) (Nat.le_of_ble_eq_true rfl) (Nat.le_of_ble_eq_true rfl) ?_
        refine sp_inY (lo := 0) (hi := 3) (by decide) (by decide) (by omega) (by omega) (by omega) ?_
        refine e_if_eq (pc := 9) (tgt := 26) dX6_add_9 (by decide) (fun h9 => absurd h9 (by decide)) (fun h9 => ?_)
        refine e_iload_n (pc := 12) (i := 2) dX6_add_12 rfl rfl ?_
        refine e_i2l (pc := 13) dX6_add_13 ?_
        refine e_ldc2 (pc := 14) dX6_add_14 (klX6_150 rfl) ?_
        refine e_ldc2 (pc := 17) dX6_add_17 (klX6_152 rfl) ?_
        refine e_callS3 (pc := 20) (M' := mX6_in) dX6_add_20 jX6_in lkX6_46 (by decide) (Nat.le_of_ble_eq_true rfl) (Nat.le_of_ble_eq_true rfl) ?_
        refine sp_inX (lo := 2) (hi := 12) (by decide) (by decide) hn ?_
        refine e_if_ne (pc := 23) (tgt := 28) dX6_add_23 (by decide) (fun h23 => absurd (by decide) h23) (fun h23 => ?_)
        refine e_iconst' (pc := 26) (-1) dX6_add_26 (by decide) ?_
        refine e_iret (pc := 27) (st := []) (ty := .int) dX6_add_27 rfl rfl ?_
        exact k _ Same.rf
  · refine ask_both (-1) hI (fun Q k => ?_) (fun S1 h1 Q k => ?_)
    · show E sc mX5_add 0 [.ref 0, .int x, .int y] [] S Q
      refine e_iload_n (pc := 0) (i := 1) dX5_add_0 rfl rfl ?_
      refine e_iconst' (pc := 1) (nI 0) dX5_add_1 (by decide) ?_
      refine e_iconst' (pc := 2) (nI 3) dX5_add_2 (by decide) ?_
      refine e_callS3 (pc := 3) (M' := mX5_within) dX5_add_3 jX5_within lkX5_70 (by decide) (Nat.le_of_ble_eq_true rfl) (Nat.le_of_ble_eq_true rfl) ?_
      refine sp_winX hn (by omega) (by omega) ?_
      refine e_if_eq (pc := 6) (tgt := 19) dX5_add_6 (by decide) (fun h6 => ?_) (fun h6 => absurd (by decide) h6)
      refine e_iconst' (pc := 19) (-1) dX5_add_19 (by decide) ?_
      refine e_iret (pc := 20) (st := []) (ty := .int) dX5_add_20 rfl rfl ?_
      exact k _ Same.rf
    · show E sc mX6_add 0 [.ref 54, .int x, .int y, .null] [] S1 Q
      have hp := h1.pg (by omega) hv hp
      have hr := h1.row (by omega) hr
      refine e_iload_n (pc := 0) (i := 1) dX6_add_0 rfl rfl ?_
      refine e_i2l (pc := 1) dX6_add_1 ?_
      refine e_lconst' (pc := 2) (lN 0) dX6_add_2 (by decide) ?_
      refine e_ldc2 (pc := 3) dX6_add_3 (klX6_148 rfl) ?_
      refine e_callS3 (pc := 6) (M' := mX6_in) dX6_add_6 jX6_in lkX6_46 (by decide) (Nat.le_of_ble_eq_true rfl) (Nat.le_of_ble_eq_true rfl) ?_
      refine sp_inX (lo := 0) (hi := 3) (by decide) (by decide) hn ?_
      refine e_if_eq (pc := 9) (tgt := 26) dX6_add_9 (by decide) (fun h9 => ?_) (fun h9 => absurd (by decide) h9)
      refine e_iconst' (pc := 26) (-1) dX6_add_26 (by decide) ?_
      refine e_iret (pc := 27) (st := []) (ty := .int) dX6_add_27 rfl rfl ?_
      exact k _ Same.rf
def clk (R : Rw) (j : Nat) : Rw := fun x => if 10 ≤ x ∧ x < 10 + j then 0 else R x
theorem clk_s (R : Rw) (j : Nat) : rs (clk R j) (10 + j) 0 = clk R (j + 1) := by
  funext x
  unfold rs clk
  by_cases h : x = 10 + j
  · rw [if_pos h, if_pos (by omega)]
  · rw [if_neg h]
    by_cases h2 : 10 ≤ x ∧ x < 10 + j
    · rw [if_pos h2, if_pos (by omega)]
    · rw [if_neg h2, if_neg (by omega)]
theorem clk_ne {R : Rw} {j x : Nat} (h : x < 10 ∨ 10 + j ≤ x) : clk R j x = R x := if_neg (by omega)
theorem clk_in {R : Rw} {j x : Nat} (h : 10 ≤ x) (h2 : x < 10 + j) : clk R j x = 0 := if_pos ⟨h, h2⟩
theorem clk_vd {R : Rw} {j : Nat} (hv : Vd R) (hj : j ≤ 5) : Vd (clk R j) := by
  have h5 := hv.1
  refine ⟨by rw [clk_ne (by omega)]; exact h5, fun w hw => ?_⟩
  rw [clk_ne (by omega)] at hw
  obtain ⟨a, b, c, d, e⟩ := hv.2 w hw
  rw [clk_ne (show w < 10 ∨ 10 + j ≤ w by omega), clk_ne (show 5 + w < 10 ∨ 10 + j ≤ 5 + w by omega), clk_ne (show 15 + w < 10 ∨ 10 + j ≤ 15 + w by omega)]
  refine ⟨a, b, c, ?_, e⟩
  by_cases q : w < j
  · rw [clk_in (by omega) (by omega)]; omega
  · rw [clk_ne (by omega)]; exact d
theorem lp_clear {sc : PSc} {R : Rw} {S0 : PS} {Q : PQ} {v : Int32} (hv : Vd R) (k : ∀ S', RowAt S' 1 (rs (clk R (R 20)) 21 0) → Fr 1 5 S0 S' → Q (some (.int v)) S') : ∀ (n j : Nat) (S : PS), j ≤ R 20 → R 20 - j < n → RowAt S 1 (clk R j) → Fr 1 5 S0 S → E sc mX5_clear 10 [.ref 0, .int v, .int (nI j)] [] S Q := by
  intro n
  induction n with
  | zero => intro j S hj hn; exact absurd hn (by omega)
  | succ n ih =>
    intro j S hj hn hr hf
    have h5 := hv.1
    have h20 : clk R j 20 = R 20 := clk_ne (by omega)
    refine e_iload_n (pc := 10) (i := 2) dX5_clear_10 rfl rfl ?_
    refine e_aload_n (pc := 11) (i := 0) dX5_clear_11 rfl rfl ?_
    refine e_getR (pc := 12) dX5_clear_12 (fX5_10 rfl) sh_0 rfl ?_
    refine e_getI (pc := 15) dX5_clear_15 (fX5_103 rfl) sh_1 rfl ?_
    refine E.it (nI (R 20)) (hr.1.trans (by rw [h20])) ?_
    refine e_icmp_ge (pc := 18) (tgt := 37) dX5_clear_18 (by decide) (fun h18 => ?_) (fun h18 => ?_)
    · replace h18 := (nI_leI (by omega) (by omega)).mp h18
      obtain e : j = R 20 := by omega
      refine e_aload_n (pc := 37) (i := 0) dX5_clear_37 rfl rfl ?_
      refine e_getR (pc := 38) dX5_clear_38 (fX5_10 rfl) sh_0 rfl ?_
      refine e_iconst' (pc := 41) (nI 0) dX5_clear_41 (by decide) ?_
      refine e_putI (pc := 42) dX5_clear_42 (pX5_104 rfl) sh_1 rfl (fun h => by cases h) ?_
      refine e_iload_n (pc := 45) (i := 1) dX5_clear_45 rfl rfl ?_
      refine e_iret (pc := 46) (st := []) (ty := .int) dX5_clear_46 rfl rfl ?_
      refine k _ ?_ (hf.up (by omega) (by omega))
      rw [← e]
      exact hr.cnt (clk_vd hv (by omega))
    · replace h18 := mt (nI_leI (by omega) (by omega)).mpr h18
      refine e_aload_n (pc := 21) (i := 0) dX5_clear_21 rfl rfl ?_
      refine e_getR (pc := 22) dX5_clear_22 (fX5_10 rfl) sh_0 rfl ?_
      refine e_getR (pc := 25) dX5_clear_25 (fX5_144 rfl) sh_1 rfl ?_
      refine e_iload_n (pc := 28) (i := 2) dX5_clear_28 rfl rfl ?_
      refine e_iconst' (pc := 29) (nI 0) dX5_clear_29 (by decide) ?_
      refine e_iast (pc := 30) dX5_clear_30 sh_4 (vp_in_nI (by omega) (by omega)) ?_
      refine e_iinc' (pc := 31) (nI (j + 1)) dX5_clear_31 rfl (by decide) rfl (nI_1 _) ?_
      refine e_goto (pc := 34) (tgt := 10) dX5_clear_34 (by decide) ?_
      refine ih (j + 1) _ (by omega) (by omega) ?_ (hf.up (by omega) (by omega))
      have := hr.dig (v := 0) (j := j) (clk_vd hv (by omega)) (by omega)
      rw [clk_s] at this
      exact this
theorem lm_clear {sc : PSc} {R : Rw} {S0 : PS} {Q : PQ} {v : Int32} (hv : Vd R) (k : ∀ S', PgAt S' 0 (rs (clk R 5) 21 0) → FrQ 0 S0 S' → Q (some (.int v)) S') : ∀ (n j : Nat) (S : PS), j ≤ 5 → 5 - j < n → PgAt S 0 (clk R j) → FrQ 0 S0 S → E sc mX6_clear 8 [.ref 54, .int v, .int (nI j)] [] S Q := by
  intro n
  induction n with
  | zero => intro j S hj hn; exact absurd hn (by omega)
  | succ n ih =>
    intro j S hj hn hp hf
    have h5 := hv.1
    have h20 : clk R j 20 = R 20 := clk_ne (by omega)
    refine e_iload_n (pc := 8) (i := 2) dX6_clear_8 rfl rfl ?_
    refine e_iconst' (pc := 9) (nI 5) dX6_clear_9 (by decide) ?_
    refine e_icmp_ge (pc := 10) (tgt := 29) dX6_clear_10 (by decide) (fun h10 => ?_) (fun h10 => ?_)
    · replace h10 := (nI_leI (by omega) (by omega)).mp h10
      obtain rfl : j = 5 := by omega
      refine e_aload_n (pc := 29) (i := 0) dX6_clear_29 rfl rfl ?_
      refine e_getR (pc := 30) dX6_clear_30 (fX6_7 rfl) sh_54 rfl ?_
      refine e_bipush' (pc := 33) (nI 21) dX6_clear_33 (by decide) ?_
      refine e_iconst' (pc := 35) (nI 0) dX6_clear_35 (by decide) ?_
      refine e_iast (pc := 36) dX6_clear_36 sh_55 (vp_in_nI (by omega) (by omega)) ?_
      refine e_iload_n (pc := 37) (i := 1) dX6_clear_37 rfl rfl ?_
      refine e_iret (pc := 38) (st := []) (ty := .int) dX6_clear_38 rfl rfl ?_
      refine k _ ?_ (hf.up (k := 21) (by omega) (by omega))
      have := hp.cnt (v := 0) (clk_vd hv (by omega))
      rw [Nat.zero_add] at this
      exact this
    · replace h10 := mt (nI_leI (by omega) (by omega)).mpr h10
      refine e_aload_n (pc := 13) (i := 0) dX6_clear_13 rfl rfl ?_
      refine e_getR (pc := 14) dX6_clear_14 (fX6_7 rfl) sh_54 rfl ?_
      refine e_bipush' (pc := 17) (nI 10) dX6_clear_17 (by decide) ?_
      refine e_iload_n (pc := 19) (i := 2) dX6_clear_19 rfl rfl ?_
      refine e_iadd (pc := 20) dX6_clear_20 ?_
      refine E.it (nI (10 + j)) (nI_add _ _) ?_
      refine e_iconst' (pc := 21) (nI 0) dX6_clear_21 (by decide) ?_
      refine e_iast (pc := 22) dX6_clear_22 sh_55 (vp_in_nI (by omega) (by omega)) ?_
      refine e_iinc' (pc := 23) (nI (j + 1)) dX6_clear_23 rfl (by decide) rfl (nI_1 _) ?_
      refine e_goto (pc := 26) (tgt := 8) dX6_clear_26 (by decide) ?_
      rw [nI_clamp (show 10 + j < 2 ^ 31 by omega)]
      refine ih (j + 1) _ (by omega) (by omega) ?_ (hf.up (by omega) (by omega))
      have := hp.set (a := 2) (v := 0) (w := j) (by omega) (by omega) (by omega)
      rw [show 5 * 2 + j = 10 + j by omega, clk_s, show 0 + 5 * 2 + j = 10 + j by omega] at this
      exact this
theorem b_clear {sc : PSc} {S : PS} (hI : InvS S) : Bth sc mX5_clear mX6_clear [] S := by
  obtain ⟨R, hv, hc, hr, hp⟩ := hI.1
  have hv5 := hv.1
  show E sc mX5_clear 0 [.ref 0, .null, .null] [] S _
  refine e_aload_n (pc := 0) (i := 0) dX5_clear_0 rfl rfl ?_
  refine e_getR (pc := 1) dX5_clear_1 (fX5_10 rfl) sh_0 rfl ?_
  refine e_callV0 (pc := 4) (M' := mX0_reading) dX5_clear_4 iX0_reading lkX5_107 (by decide) (rO_obj sh_1 rfl) (Nat.le_of_ble_eq_true rfl) (Nat.le_of_ble_eq_true rfl) ?_
  refine sp_reading r1 hv hr ?_
  refine e_istore_n (pc := 7) (i := 1) dX5_clear_7 rfl (by decide) rfl ?_
  refine e_iconst' (pc := 8) (nI 0) dX5_clear_8 (by decide) ?_
  refine e_istore_n (pc := 9) (i := 2) dX5_clear_9 rfl (by decide) rfl ?_
  refine lp_clear hv (fun S1 a c => ?_) (R 20 + 1) 0 _ (by omega) (by omega) (hr.cg rfl rfl (fun _ _ _ _ => if_neg (by omega))) Fr.rf
  refine ⟨_, rfl, ?_⟩
  show E sc mX6_clear 0 [.ref 54, .null, .null] [] _ _
  refine e_aload_n (pc := 0) (i := 0) dX6_clear_0 rfl rfl ?_
  refine e_iconst' (pc := 1) (nI 0) dX6_clear_1 (by decide) ?_
  refine e_callV1 (pc := 2) (M' := mX6_readsOn) dX6_clear_2 iX6_readsOn lkX6_135 (by decide) (rO_obj sh_54 rfl) (Nat.le_of_ble_eq_true rfl) (Nat.le_of_ble_eq_true rfl) ?_
  refine sp_readsOn (p := 0) (by omega) hv (c.pg hv hp) ?_
  refine e_istore_n (pc := 5) (i := 1) dX6_clear_5 rfl (by decide) rfl ?_
  refine e_iconst' (pc := 6) (nI 0) dX6_clear_6 (by decide) ?_
  refine e_istore_n (pc := 7) (i := 2) dX6_clear_7 rfl (by decide) rfl ?_
  refine lm_clear hv (fun S2 d f => ?_) 6 0 _ (by omega) (by omega) ((c.pg hv hp).cg rfl rfl (fun _ _ _ _ => if_neg (by omega))) ⟨rfl, fun _ _ => rfl, fun _ _ => rfl⟩
  have hq : ∀ x, (x < 10 ∨ x < 10 + R 20 ∨ 15 ≤ x) → rs (clk R 5) 21 0 x = rs (clk R (R 20)) 21 0 x := by
    intro x hx
    unfold rs clk
    by_cases h : x = 21
    · rw [if_pos h, if_pos h]
    · rw [if_neg h, if_neg h]
      by_cases h2 : 10 ≤ x ∧ x < 10 + 5
      · rw [if_pos h2, if_pos (by omega)]
      · rw [if_neg h2, if_neg (by omega)]
  have h20 : rs (clk R (R 20)) 21 0 20 = R 20 := by rw [rs_ne _ _ (by omega), clk_ne (by omega)]
  exact ⟨rfl, (c.rst.tr f.rst).inv hI (rc_vd (clk_vd hv (by omega))) (by rw [rs_at]; omega) (f.row (by omega) (a.cg (hq 20 (by omega)) (hq 21 (by omega)) (fun b u hb hu => hq _ (by omega)))) d⟩
theorem b_fault {sc : PSc} {S : PS} (hI : InvS S) : Bth sc mX5_fault mX6_fault [] S := by
  obtain ⟨R, hv, hc, hr, hp⟩ := hI.1
  have hv5 := hv.1
  refine ask_both (S.1 54 5) hI (fun Q k => ?_) (fun S1 h1 Q k => ?_)
  · show E sc mX5_fault 0 [.ref 0] [] S Q
    refine e_aload_n (pc := 0) (i := 0) dX5_fault_0 rfl rfl ?_
    refine e_getR (pc := 1) dX5_fault_1 (fX5_30 rfl) sh_0 rfl ?_
    refine e_getI (pc := 4) dX5_fault_4 (fX5_100 rfl) sh_25 rfl ?_
    refine E.it (S.1 54 5) hI.2.2.2.1 ?_
    refine e_iret (pc := 7) (st := []) (ty := .int) dX5_fault_7 rfl rfl ?_
    exact k _ Same.rf
  · show E sc mX6_fault 0 [.ref 54] [] S1 Q
    have hp := h1.pg (by omega) hv hp
    have hr := h1.row (by omega) hr
    refine e_aload_n (pc := 0) (i := 0) dX6_fault_0 rfl rfl ?_
    refine e_getI (pc := 1) dX6_fault_1 (fX6_111 rfl) sh_54 rfl ?_
    refine E.it (S.1 54 5) (h1.2.1 5 (by omega)) ?_
    refine e_iret (pc := 4) (st := []) (ty := .int) dX6_fault_4 rfl rfl ?_
    exact k _ Same.rf
theorem b_torn {sc : PSc} {S : PS} (hI : InvS S) : Bth sc mX5_torn mX6_torn [] S := by
  obtain ⟨R, hv, hc, hr, hp⟩ := hI.1
  have hv5 := hv.1
  refine ask_both (S.1 54 24) hI (fun Q k => ?_) (fun S1 h1 Q k => ?_)
  · show E sc mX5_torn 0 [.ref 0] [] S Q
    refine e_aload_n (pc := 0) (i := 0) dX5_torn_0 rfl rfl ?_
    refine e_getI (pc := 1) dX5_torn_1 (fX5_53 rfl) sh_0 rfl ?_
    refine E.it (S.1 54 24) hI.2.2.2.2.2.2.1 ?_
    refine e_iret (pc := 4) (st := []) (ty := .int) dX5_torn_4 rfl rfl ?_
    exact k _ Same.rf
  · show E sc mX6_torn 0 [.ref 54] [] S1 Q
    have hp := h1.pg (by omega) hv hp
    have hr := h1.row (by omega) hr
    refine e_aload_n (pc := 0) (i := 0) dX6_torn_0 rfl rfl ?_
    refine e_getI (pc := 1) dX6_torn_1 (fX6_221 rfl) sh_54 rfl ?_
    refine E.it (S.1 54 24) (h1.2.1 24 (by omega)) ?_
    refine e_iret (pc := 4) (st := []) (ty := .int) dX6_torn_4 rfl rfl ?_
    exact k _ Same.rf
theorem byte_n {b : Nat} (h : b < 128) : vp_nar .byte (nI b) = nI b := by rw [vp_nar_byte]; exact fa_byte_small h
theorem feed_inv {S S' : PS} {n b : Nat} {tp : Nat → Nat} (hI : InvS S) (hn : n < 160) (hb : b < 128) (ht : ∀ k, k < n → tp k < 128 ∧ S.1 24 k = nI (tp k) ∧ S.1 57 k = nI (tp k)) (e : S' = (up2 (up2 (up2 (up2 S.1 24 n (nI b)) 23 1 (nI (n + 1))) 57 n (nI b)) 54 4 (nI (n + 1)), S.2)) : InvS S' := by
  subst e
  refine Inv_tape (n := n + 1) (tp := fun k => if k = n then b else tp k) hI (fun j h1 h2 h3 h4 => ?_) (fun k hk => ?_) ⟨by omega, rfl, rfl, fun k hk => ?_⟩
  · show up2 (up2 (up2 (up2 S.1 24 n (nI b)) 23 1 (nI (n + 1))) 57 n (nI b)) 54 4 (nI (n + 1)) j = _
    rw [up2_ne _ _ _ h4, up2_ne _ _ _ h3, up2_ne _ _ _ h1, up2_ne _ _ _ h2]
  · show up2 (up2 (up2 (up2 S.1 24 n (nI b)) 23 1 (nI (n + 1))) 57 n (nI b)) 54 4 (nI (n + 1)) 54 k = _
    rw [up2_at]; show (if k = 4 then _ else _) = _; rw [if_neg hk]; rfl
  · have e1 : up2 (up2 (up2 (up2 S.1 24 n (nI b)) 23 1 (nI (n + 1))) 57 n (nI b)) 54 4 (nI (n + 1)) 24 k = if k = n then nI b else S.1 24 k := by
      rw [up2_ne _ _ _ (by decide), up2_ne _ _ _ (by decide), up2_ne _ _ _ (by decide), up2_at]
    have e2 : up2 (up2 (up2 (up2 S.1 24 n (nI b)) 23 1 (nI (n + 1))) 57 n (nI b)) 54 4 (nI (n + 1)) 57 k = if k = n then nI b else S.1 57 k := by
      rw [up2_ne _ _ _ (by decide), up2_at]; rfl
    by_cases h : k = n
    · refine ⟨?_, e1.trans ?_, e2.trans ?_⟩
      · show (if k = n then b else tp k) < 128; rw [if_pos h]; exact hb
      · show _ = nI (if k = n then b else tp k); rw [if_pos h, if_pos h]
      · show _ = nI (if k = n then b else tp k); rw [if_pos h, if_pos h]
    · refine ⟨?_, e1.trans ?_, e2.trans ?_⟩
      · show (if k = n then b else tp k) < 128; rw [if_neg h]; exact (ht k (by omega)).1
      · show _ = nI (if k = n then b else tp k); rw [if_neg h, if_neg h]; exact (ht k (by omega)).2.1
      · show _ = nI (if k = n then b else tp k); rw [if_neg h, if_neg h]; exact (ht k (by omega)).2.2
theorem b_feed {sc : PSc} {S : PS} (hI : InvS S) (x : Int32) : Bth sc mX5_feed mX6_feed [.int x] S := by
  obtain ⟨R, hv, hc, hr, hp⟩ := hI.1
  obtain ⟨n, tp, hn160, t23, t54, ttp⟩ := hI.2.2.1
  have hv5 := hv.1
  rcases Classical.em (inr x 0 127) with ⟨b, rfl, -, hb⟩ | hn
  · by_cases hn : n < 160
    · show E sc mX5_feed 0 [.ref 0, .int (nI b)] [] S _
      refine e_iload_n (pc := 0) (i := 1) dX5_feed_0 rfl rfl ?_
      refine e_iconst' (pc := 1) (nI 0) dX5_feed_1 (by decide) ?_
      refine e_bipush' (pc := 2) (nI 127) dX5_feed_2 (by decide) ?_
      refine e_callS3 (pc := 4) (M' := mX5_within) dX5_feed_4 jX5_within lkX5_70 (by decide) (Nat.le_of_ble_eq_true rfl) (Nat.le_of_ble_eq_true rfl) ?_
      refine sp_winY (by omega) (by omega) (by omega) ?_
      refine e_if_ne (pc := 7) (tgt := 12) dX5_feed_7 (by decide) (fun h7 => ?_) (fun h7 => absurd h7 (by decide))
      refine e_aload_n (pc := 12) (i := 0) dX5_feed_12 rfl rfl ?_
      refine e_getR (pc := 13) dX5_feed_13 (fX5_38 rfl) sh_0 rfl ?_
      refine e_getI (pc := 16) dX5_feed_16 (fX5_74 rfl) sh_23 rfl ?_
      refine E.it (nI n) t23 ?_
      refine e_sipush' (pc := 19) (nI 160) dX5_feed_19 (by decide) ?_
      refine e_icmp_lt (pc := 22) (tgt := 28) dX5_feed_22 (by decide) (fun h22 => ?_) (fun h22 => absurd (nI_lt hn (by omega)) h22)
      replace h22 := (nI_ltI (by omega) (by omega)).mp h22
      refine e_aload_n (pc := 28) (i := 0) dX5_feed_28 rfl rfl ?_
      refine e_getR (pc := 29) dX5_feed_29 (fX5_38 rfl) sh_0 rfl ?_
      refine e_getR (pc := 32) dX5_feed_32 (fX5_79 rfl) sh_23 rfl ?_
      refine e_aload_n (pc := 35) (i := 0) dX5_feed_35 rfl rfl ?_
      refine e_getR (pc := 36) dX5_feed_36 (fX5_38 rfl) sh_0 rfl ?_
      refine e_getI (pc := 39) dX5_feed_39 (fX5_74 rfl) sh_23 rfl ?_
      refine E.it (nI n) t23 ?_
      refine e_iload_n (pc := 42) (i := 1) dX5_feed_42 rfl rfl ?_
      refine e_i2b (pc := 43) dX5_feed_43 ?_
      refine E.it (nI b) (fa_byte_small (by omega)) ?_
      refine e_bast (pc := 44) dX5_feed_44 sh_24 (vp_in_nI (by omega) (by omega)) ?_
      rw [nI_clamp (show n < 2 ^ 31 by omega), byte_n (by omega)]
      refine e_aload_n (pc := 45) (i := 0) dX5_feed_45 rfl rfl ?_
      refine e_getR (pc := 46) dX5_feed_46 (fX5_38 rfl) sh_0 rfl ?_
      refine e_dup (pc := 49) dX5_feed_49 rfl ?_
      refine e_getI (pc := 50) dX5_feed_50 (fX5_74 rfl) sh_23 rfl ?_
      refine E.it (nI n) t23 ?_
      refine e_iconst' (pc := 53) (nI 1) dX5_feed_53 (by decide) ?_
      refine e_iadd (pc := 54) dX5_feed_54 ?_
      refine E.it (nI (n + 1)) (nI_add _ _) ?_
      refine e_putI (pc := 55) dX5_feed_55 (pX5_74 rfl) sh_23 rfl (fun h => by cases h) ?_
      refine e_aload_n (pc := 58) (i := 0) dX5_feed_58 rfl rfl ?_
      refine e_getR (pc := 59) dX5_feed_59 (fX5_38 rfl) sh_0 rfl ?_
      refine e_getI (pc := 62) dX5_feed_62 (fX5_74 rfl) sh_23 rfl ?_
      refine E.it (nI (n + 1)) rfl ?_
      refine e_iret (pc := 65) (st := []) (ty := .int) dX5_feed_65 rfl rfl ?_
      refine ⟨_, rfl, ?_⟩
      show E sc mX6_feed 0 [.ref 54, .int (nI b)] [] _ _
      refine e_iload_n (pc := 0) (i := 1) dX6_feed_0 rfl rfl ?_
      refine e_i2l (pc := 1) dX6_feed_1 ?_
      refine e_lconst' (pc := 2) (lN 0) dX6_feed_2 (by decide) ?_
      refine e_ldc2 (pc := 3) dX6_feed_3 (klX6_44 rfl) ?_
      refine e_callS3 (pc := 6) (M' := mX6_in) dX6_feed_6 jX6_in lkX6_46 (by decide) (Nat.le_of_ble_eq_true rfl) (Nat.le_of_ble_eq_true rfl) ?_
      refine sp_inY (lo := 0) (hi := 127) (by decide) (by decide) (by omega) (by omega) (by omega) ?_
      refine e_if_ne (pc := 9) (tgt := 14) dX6_feed_9 (by decide) (fun h9 => ?_) (fun h9 => absurd h9 (by decide))
      refine e_aload_n (pc := 14) (i := 0) dX6_feed_14 rfl rfl ?_
      refine e_getI (pc := 15) dX6_feed_15 (fX6_50 rfl) sh_54 rfl ?_
      refine E.it (nI n) t54 ?_
      refine e_sipush' (pc := 18) (nI 160) dX6_feed_18 (by decide) ?_
      refine e_icmp_ne (pc := 21) (tgt := 27) dX6_feed_21 (by decide) (fun h21 => ?_) (fun h21 => absurd ((nI_eq (by omega) (by omega)).mp h21) (by omega))
      replace h21 := mt (nI_eq (by omega) (by omega)).mpr h21
      refine e_aload_n (pc := 27) (i := 0) dX6_feed_27 rfl rfl ?_
      refine e_getR (pc := 28) dX6_feed_28 (fX6_16 rfl) sh_54 rfl ?_
      refine e_aload_n (pc := 31) (i := 0) dX6_feed_31 rfl rfl ?_
      refine e_getI (pc := 32) dX6_feed_32 (fX6_50 rfl) sh_54 rfl ?_
      refine E.it (nI n) t54 ?_
      refine e_iload_n (pc := 35) (i := 1) dX6_feed_35 rfl rfl ?_
      refine e_iast (pc := 36) dX6_feed_36 sh_57 (vp_in_nI (by omega) (by omega)) ?_
      rw [nI_clamp (show n < 2 ^ 31 by omega)]
      refine e_aload_n (pc := 37) (i := 0) dX6_feed_37 rfl rfl ?_
      refine e_dup (pc := 38) dX6_feed_38 rfl ?_
      refine e_getI (pc := 39) dX6_feed_39 (fX6_50 rfl) sh_54 rfl ?_
      refine E.it (nI n) t54 ?_
      refine e_iconst' (pc := 42) (nI 1) dX6_feed_42 (by decide) ?_
      refine e_iadd (pc := 43) dX6_feed_43 ?_
      refine E.it (nI (n + 1)) (nI_add _ _) ?_
      refine e_putI (pc := 44) dX6_feed_44 (pX6_50 rfl) sh_54 rfl (fun h => by cases h) ?_
      refine e_aload_n (pc := 47) (i := 0) dX6_feed_47 rfl rfl ?_
      refine e_getI (pc := 48) dX6_feed_48 (fX6_50 rfl) sh_54 rfl ?_
      refine E.it (nI (n + 1)) rfl ?_
      refine e_iret (pc := 51) (st := []) (ty := .int) dX6_feed_51 rfl rfl ?_
      exact ⟨rfl, feed_inv hI hn (by omega) ttp rfl⟩
    · refine ask_both (-3) hI (fun Q k => ?_) (fun S1 h1 Q k => ?_)
      · show E sc mX5_feed 0 [.ref 0, .int (nI b)] [] S Q
        refine e_iload_n (pc := 0) (i := 1) dX5_feed_0 rfl rfl ?_
        refine e_iconst' (pc := 1) (nI 0) dX5_feed_1 (by decide) ?_
        refine e_bipush' (pc := 2) (nI 127) dX5_feed_2 (by decide) ?_
        refine e_callS3 (pc := 4) (M' := mX5_within) dX5_feed_4 jX5_within lkX5_70 (by decide) (Nat.le_of_ble_eq_true rfl) (Nat.le_of_ble_eq_true rfl) ?_
        refine sp_winY (by omega) (by omega) (by omega) ?_
        refine e_if_ne (pc := 7) (tgt := 12) dX5_feed_7 (by decide) (fun h7 => ?_) (fun h7 => absurd h7 (by decide))
        refine e_aload_n (pc := 12) (i := 0) dX5_feed_12 rfl rfl ?_
        refine e_getR (pc := 13) dX5_feed_13 (fX5_38 rfl) sh_0 rfl ?_
        refine e_getI (pc := 16) dX5_feed_16 (fX5_74 rfl) sh_23 rfl ?_
        refine E.it (nI n) t23 ?_
        refine e_sipush' (pc := 19) (nI 160) dX5_feed_19 (by decide) ?_
        refine e_icmp_lt (pc := 22) (tgt := 28) dX5_feed_22 (by decide) (fun h22 => absurd ((nI_ltI (by omega) (by omega)).mp h22) hn) (fun h22 => ?_)
        replace h22 := mt (nI_ltI (by omega) (by omega)).mpr h22
        refine e_bipush' (pc := 25) (-3) dX5_feed_25 (by decide) ?_
        refine e_iret (pc := 27) (st := []) (ty := .int) dX5_feed_27 rfl rfl ?_
        exact k _ Same.rf
      · show E sc mX6_feed 0 [.ref 54, .int (nI b)] [] S1 Q
        have hp := h1.pg (by omega) hv hp
        have hr := h1.row (by omega) hr
        refine e_iload_n (pc := 0) (i := 1) dX6_feed_0 rfl rfl ?_
        refine e_i2l (pc := 1) dX6_feed_1 ?_
        refine e_lconst' (pc := 2) (lN 0) dX6_feed_2 (by decide) ?_
        refine e_ldc2 (pc := 3) dX6_feed_3 (klX6_44 rfl) ?_
        refine e_callS3 (pc := 6) (M' := mX6_in) dX6_feed_6 jX6_in lkX6_46 (by decide) (Nat.le_of_ble_eq_true rfl) (Nat.le_of_ble_eq_true rfl) ?_
        refine sp_inY (lo := 0) (hi := 127) (by decide) (by decide) (by omega) (by omega) (by omega) ?_
        refine e_if_ne (pc := 9) (tgt := 14) dX6_feed_9 (by decide) (fun h9 => ?_) (fun h9 => absurd h9 (by decide))
        refine e_aload_n (pc := 14) (i := 0) dX6_feed_14 rfl rfl ?_
        refine e_getI (pc := 15) dX6_feed_15 (fX6_50 rfl) sh_54 rfl ?_
        refine E.it (nI n) ((h1.2.1 4 (by omega)).trans t54) ?_
        refine e_sipush' (pc := 18) (nI 160) dX6_feed_18 (by decide) ?_
        refine e_icmp_ne (pc := 21) (tgt := 27) dX6_feed_21 (by decide) (fun h21 => absurd (by rw [show n = 160 by omega]) h21) (fun h21 => ?_)
        replace h21 := (nI_eq (by omega) (by omega)).mp h21
        refine e_bipush' (pc := 24) (-3) dX6_feed_24 (by decide) ?_
        refine e_iret (pc := 26) (st := []) (ty := .int) dX6_feed_26 rfl rfl ?_
        exact k _ Same.rf
  · refine ask_both (-1) hI (fun Q k => ?_) (fun S1 h1 Q k => ?_)
    · show E sc mX5_feed 0 [.ref 0, .int x] [] S Q
      refine e_iload_n (pc := 0) (i := 1) dX5_feed_0 rfl rfl ?_
      refine e_iconst' (pc := 1) (nI 0) dX5_feed_1 (by decide) ?_
      refine e_bipush' (pc := 2) (nI 127) dX5_feed_2 (by decide) ?_
      refine e_callS3 (pc := 4) (M' := mX5_within) dX5_feed_4 jX5_within lkX5_70 (by decide) (Nat.le_of_ble_eq_true rfl) (Nat.le_of_ble_eq_true rfl) ?_
      refine sp_winX hn (by omega) (by omega) ?_
      refine e_if_ne (pc := 7) (tgt := 12) dX5_feed_7 (by decide) (fun h7 => absurd (by decide) h7) (fun h7 => ?_)
      refine e_iconst' (pc := 10) (-1) dX5_feed_10 (by decide) ?_
      refine e_iret (pc := 11) (st := []) (ty := .int) dX5_feed_11 rfl rfl ?_
      exact k _ Same.rf
    · show E sc mX6_feed 0 [.ref 54, .int x] [] S1 Q
      have hp := h1.pg (by omega) hv hp
      have hr := h1.row (by omega) hr
      refine e_iload_n (pc := 0) (i := 1) dX6_feed_0 rfl rfl ?_
      refine e_i2l (pc := 1) dX6_feed_1 ?_
      refine e_lconst' (pc := 2) (lN 0) dX6_feed_2 (by decide) ?_
      refine e_ldc2 (pc := 3) dX6_feed_3 (klX6_44 rfl) ?_
      refine e_callS3 (pc := 6) (M' := mX6_in) dX6_feed_6 jX6_in lkX6_46 (by decide) (Nat.le_of_ble_eq_true rfl) (Nat.le_of_ble_eq_true rfl) ?_
      refine sp_inX (lo := 0) (hi := 127) (by decide) (by decide) hn ?_
      refine e_if_ne (pc := 9) (tgt := 14) dX6_feed_9 (by decide) (fun h9 => absurd (by decide) h9) (fun h9 => ?_)
      refine e_iconst' (pc := 12) (-1) dX6_feed_12 (by decide) ?_
      refine e_iret (pc := 13) (st := []) (ty := .int) dX6_feed_13 rfl rfl ?_
      exact k _ Same.rf
theorem b_end {sc : PSc} {S : PS} (hI : InvS S) (x : Int32) : Bth sc mX5_end mX6_end [.int x] S := by
  obtain ⟨R, hv, hc, hr, hp⟩ := hI.1
  obtain ⟨n, tp, hn160, t23, t54, ttp⟩ := hI.2.2.1
  have hv5 := hv.1
  rcases Classical.em (inr x 0 n) with ⟨b, rfl, -, hb⟩ | hn
  · show E sc mX5_end 0 [.ref 0, .int (nI b), .null] [] S _
    refine e_iload_n (pc := 0) (i := 1) dX5_end_0 rfl rfl ?_
    refine e_iconst' (pc := 1) (nI 0) dX5_end_1 (by decide) ?_
    refine e_aload_n (pc := 2) (i := 0) dX5_end_2 rfl rfl ?_
    refine e_getR (pc := 3) dX5_end_3 (fX5_38 rfl) sh_0 rfl ?_
    refine e_getI (pc := 6) dX5_end_6 (fX5_74 rfl) sh_23 rfl ?_
    refine E.it (nI n) t23 ?_
    refine e_callS3 (pc := 9) (M' := mX5_within) dX5_end_9 jX5_within lkX5_70 (by decide) (Nat.le_of_ble_eq_true rfl) (Nat.le_of_ble_eq_true rfl) ?_
    refine sp_winY (by omega) (by omega) (by omega) ?_
    refine e_if_ne (pc := 12) (tgt := 17) dX5_end_12 (by decide) (fun h12 => ?_) (fun h12 => absurd h12 (by decide))
    refine e_aload_n (pc := 17) (i := 0) dX5_end_17 rfl rfl ?_
    refine e_getR (pc := 18) dX5_end_18 (fX5_38 rfl) sh_0 rfl ?_
    refine e_getI (pc := 21) dX5_end_21 (fX5_74 rfl) sh_23 rfl ?_
    refine E.it (nI n) t23 ?_
    refine e_istore_n (pc := 24) (i := 2) dX5_end_24 rfl (by decide) rfl ?_
    refine e_aload_n (pc := 25) (i := 0) dX5_end_25 rfl rfl ?_
    refine e_getR (pc := 26) dX5_end_26 (fX5_38 rfl) sh_0 rfl ?_
    refine e_iload_n (pc := 29) (i := 1) dX5_end_29 rfl rfl ?_
    refine e_putI (pc := 30) dX5_end_30 (pX5_74 rfl) sh_23 rfl (fun h => by cases h) ?_
    refine e_iload_n (pc := 33) (i := 2) dX5_end_33 rfl rfl ?_
    refine e_iret (pc := 34) (st := []) (ty := .int) dX5_end_34 rfl rfl ?_
    refine ⟨_, rfl, ?_⟩
    show E sc mX6_end 0 [.ref 54, .int (nI b), .null] [] _ _
    refine e_iload_n (pc := 0) (i := 1) dX6_end_0 rfl rfl ?_
    refine e_i2l (pc := 1) dX6_end_1 ?_
    refine e_lconst' (pc := 2) (lN 0) dX6_end_2 (by decide) ?_
    refine e_aload_n (pc := 3) (i := 0) dX6_end_3 rfl rfl ?_
    refine e_getI (pc := 4) dX6_end_4 (fX6_50 rfl) sh_54 rfl ?_
    refine E.it (nI n) t54 ?_
    refine e_i2l (pc := 7) dX6_end_7 ?_
    refine e_callS3 (pc := 8) (M' := mX6_in) dX6_end_8 jX6_in lkX6_46 (by decide) (Nat.le_of_ble_eq_true rfl) (Nat.le_of_ble_eq_true rfl) ?_
    refine sp_inY (lo := 0) (hi := n) (by decide) (by rw [Int32.toInt_toInt64, nI_toInt (by omega)]) (by omega) (by omega) (by omega) ?_
    refine e_if_ne (pc := 11) (tgt := 16) dX6_end_11 (by decide) (fun h11 => ?_) (fun h11 => absurd h11 (by decide))
    refine e_aload_n (pc := 16) (i := 0) dX6_end_16 rfl rfl ?_
    refine e_getI (pc := 17) dX6_end_17 (fX6_50 rfl) sh_54 rfl ?_
    refine E.it (nI n) t54 ?_
    refine e_istore_n (pc := 20) (i := 2) dX6_end_20 rfl (by decide) rfl ?_
    refine e_aload_n (pc := 21) (i := 0) dX6_end_21 rfl rfl ?_
    refine e_iload_n (pc := 22) (i := 1) dX6_end_22 rfl rfl ?_
    refine e_putI (pc := 23) dX6_end_23 (pX6_50 rfl) sh_54 rfl (fun h => by cases h) ?_
    refine e_iload_n (pc := 26) (i := 2) dX6_end_26 rfl rfl ?_
    refine e_iret (pc := 27) (st := []) (ty := .int) dX6_end_27 rfl rfl ?_
    refine ⟨rfl, Inv_tape (n := b) (tp := tp) hI (fun j h1 h2 h3 h4 => ?_) (fun k hk => ?_) ⟨by omega, rfl, rfl, fun k hk => ttp k (by omega)⟩⟩
    · show up2 (up2 S.1 23 1 (nI b)) 54 4 (nI b) j = _; rw [up2_ne _ _ _ h4, up2_ne _ _ _ h1]
    · show up2 (up2 S.1 23 1 (nI b)) 54 4 (nI b) 54 k = _; rw [up2_at]; show (if k = 4 then _ else _) = _; rw [if_neg hk]; rfl
  · refine ask_both (-1) hI (fun Q k => ?_) (fun S1 h1 Q k => ?_)
    · show E sc mX5_end 0 [.ref 0, .int x, .null] [] S Q
      refine e_iload_n (pc := 0) (i := 1) dX5_end_0 rfl rfl ?_
      refine e_iconst' (pc := 1) (nI 0) dX5_end_1 (by decide) ?_
      refine e_aload_n (pc := 2) (i := 0) dX5_end_2 rfl rfl ?_
      refine e_getR (pc := 3) dX5_end_3 (fX5_38 rfl) sh_0 rfl ?_
      refine e_getI (pc := 6) dX5_end_6 (fX5_74 rfl) sh_23 rfl ?_
      refine E.it (nI n) t23 ?_
      refine e_callS3 (pc := 9) (M' := mX5_within) dX5_end_9 jX5_within lkX5_70 (by decide) (Nat.le_of_ble_eq_true rfl) (Nat.le_of_ble_eq_true rfl) ?_
      refine sp_winX hn (by omega) (by omega) ?_
      refine e_if_ne (pc := 12) (tgt := 17) dX5_end_12 (by decide) (fun h12 => absurd (by decide) h12) (fun h12 => ?_)
      refine e_iconst' (pc := 15) (-1) dX5_end_15 (by decide) ?_
      refine e_iret (pc := 16) (st := []) (ty := .int) dX5_end_16 rfl rfl ?_
      exact k _ Same.rf
    · show E sc mX6_end 0 [.ref 54, .int x, .null] [] S1 Q
      have hp := h1.pg (by omega) hv hp
      have hr := h1.row (by omega) hr
      refine e_iload_n (pc := 0) (i := 1) dX6_end_0 rfl rfl ?_
      refine e_i2l (pc := 1) dX6_end_1 ?_
      refine e_lconst' (pc := 2) (lN 0) dX6_end_2 (by decide) ?_
      refine e_aload_n (pc := 3) (i := 0) dX6_end_3 rfl rfl ?_
      refine e_getI (pc := 4) dX6_end_4 (fX6_50 rfl) sh_54 rfl ?_
      refine E.it (nI n) ((h1.2.1 4 (by omega)).trans t54) ?_
      refine e_i2l (pc := 7) dX6_end_7 ?_
      refine e_callS3 (pc := 8) (M' := mX6_in) dX6_end_8 jX6_in lkX6_46 (by decide) (Nat.le_of_ble_eq_true rfl) (Nat.le_of_ble_eq_true rfl) ?_
      refine sp_inX (lo := 0) (hi := n) (by decide) (by rw [Int32.toInt_toInt64, nI_toInt (by omega)]) hn ?_
      refine e_if_ne (pc := 11) (tgt := 16) dX6_end_11 (by decide) (fun h11 => absurd (by decide) h11) (fun h11 => ?_)
      refine e_iconst' (pc := 14) (-1) dX6_end_14 (by decide) ?_
      refine e_iret (pc := 15) (st := []) (ty := .int) dX6_end_15 rfl rfl ?_
      exact k _ Same.rf

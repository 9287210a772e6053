def nix (k : Nat) : Nat := if k = 0 then 4 else k - 1
def ltr (x i : Nat) : Nat := lets.getD (endsL.getD x 0 + i) 0
def nle (x : Nat) : Nat := endsL.getD (x + 1) 0 - endsL.getD x 0
theorem txt : ∀ k, k < 5 → (∀ i, i < sLen.getD k 0 → (sByt.getD k []).getD i 0 = nI (ltr (nix k) i) ∧ ltr (nix k) i < 128) ∧ sLen.getD k 0 ≤ 5 ∧ sLen.getD k 0 = nle (nix k) := by decide +kernel
def NmP (tp : Nat → Nat) (x s e : Nat) : Prop := e - s = nle x ∧ ∀ i, i < nle x → tp (s + i) = ltr x i
def NmD (tp : Nat → Nat) (x s e : Nat) : Decidable (NmP tp x s e) := inferInstanceAs (Decidable (e - s = nle x ∧ ∀ i, i < nle x → tp (s + i) = ltr x i))
theorem words : ∀ x, x < 5 → ∀ y, y < 5 → x ≠ y → nle x = nle y → ∃ i, i < nle x ∧ ltr x i ≠ ltr y i := by decide +kernel
theorem Nm_one {tp : Nat → Nat} {x y s e : Nat} (hx : x < 5) (hy : y < 5) (h1 : NmP tp x s e) (h2 : NmP tp y s e) : x = y := by
  by_cases q : x = y
  · exact q
  · obtain ⟨i, hi, hn⟩ := words x hx y hy q (h1.1.symm.trans h2.1)
    have a := h1.2 i hi
    have b := h2.2 i (by rw [← h2.1, h1.1]; exact hi)
    exact absurd (a.symm.trans b) hn
def nm (tp : Nat → Nat) (s e : Nat) : Nat := @ite Nat (NmP tp 4 s e) (NmD tp 4 s e) 4 (@ite Nat (NmP tp 0 s e) (NmD tp 0 s e) 0 (@ite Nat (NmP tp 1 s e) (NmD tp 1 s e) 1 (@ite Nat (NmP tp 2 s e) (NmD tp 2 s e) 2 (@ite Nat (NmP tp 3 s e) (NmD tp 3 s e) 3 5))))
theorem nm_y {tp : Nat → Nat} {x s e : Nat} (hx : x < 5) (h : NmP tp x s e) : nm tp s e = x := by
  have ne : ∀ y, y < 5 → y ≠ x → ¬ NmP tp y s e := fun y hy hn q => hn (Nm_one hy hx q h)
  unfold nm
  rcases (show x = 0 ∨ x = 1 ∨ x = 2 ∨ x = 3 ∨ x = 4 by omega) with rfl | rfl | rfl | rfl | rfl
  · rw [if_neg (ne 4 (by omega) (by omega)), if_pos h]
  · rw [if_neg (ne 4 (by omega) (by omega)), if_neg (ne 0 (by omega) (by omega)), if_pos h]
  · rw [if_neg (ne 4 (by omega) (by omega)), if_neg (ne 0 (by omega) (by omega)), if_neg (ne 1 (by omega) (by omega)), if_pos h]
  · rw [if_neg (ne 4 (by omega) (by omega)), if_neg (ne 0 (by omega) (by omega)), if_neg (ne 1 (by omega) (by omega)), if_neg (ne 2 (by omega) (by omega)), if_pos h]
  · rw [if_pos h]
theorem nm_n {tp : Nat → Nat} {s e : Nat} (h : ∀ x, x < 5 → ¬ NmP tp x s e) : nm tp s e = 5 := by
  unfold nm
  rw [if_neg (h 4 (by omega)), if_neg (h 0 (by omega)), if_neg (h 1 (by omega)), if_neg (h 2 (by omega)), if_neg (h 3 (by omega))]
theorem sp_coderJ {sc : PSc} {k : Nat} {S : PS} {Q : PQ} (hk : k < 5) (kk : Q (some (.int 0)) S) : E sc mJ0_coder_7d493 0 (pL0 mJ0_coder_7d493 [.ref (100 + k)]) [] S Q := by
  show E sc mJ0_coder_7d493 0 [.ref (100 + k)] [] S Q
  refine e_getsC (pc := 0) dJ0_coder_7d493_0 (gsJ0_38 rfl) ?_
  refine e_if_eq (pc := 3) (tgt := 13) dJ0_coder_7d493_3 (by decide) (fun h3 => absurd h3 (by decide)) (fun h3 => ?_)
  refine e_aload_n (pc := 6) (i := 0) dJ0_coder_7d493_6 rfl rfl ?_
  refine e_getSC (pc := 7) (k := k) dJ0_coder_7d493_7 hk (fJ0_15 rfl) ?_
  refine e_goto (pc := 10) (tgt := 14) dJ0_coder_7d493_10 (by decide) ?_
  refine e_iret (pc := 14) (st := []) (ty := .byte) dJ0_coder_7d493_14 rfl rfl ?_
  exact kk
theorem sp_latinJ {sc : PSc} {k : Nat} {S : PS} {Q : PQ} (hk : k < 5) (kk : Q (some (.int (nI 1))) S) : E sc mJ0_isLatin1_aae02 0 (pL0 mJ0_isLatin1_aae02 [.ref (100 + k)]) [] S Q := by
  show E sc mJ0_isLatin1_aae02 0 [.ref (100 + k)] [] S Q
  refine e_getsC (pc := 0) dJ0_isLatin1_aae02_0 (gsJ0_38 rfl) ?_
  refine e_if_eq (pc := 3) (tgt := 17) dJ0_isLatin1_aae02_3 (by decide) (fun h3 => absurd h3 (by decide)) (fun h3 => ?_)
  refine e_aload_n (pc := 6) (i := 0) dJ0_isLatin1_aae02_6 rfl rfl ?_
  refine e_getSC (pc := 7) (k := k) dJ0_isLatin1_aae02_7 hk (fJ0_15 rfl) ?_
  refine e_if_ne (pc := 10) (tgt := 17) dJ0_isLatin1_aae02_10 (by decide) (fun h10 => absurd rfl h10) (fun h10 => ?_)
  refine e_iconst' (pc := 13) (nI 1) dJ0_isLatin1_aae02_13 (by decide) ?_
  refine e_goto (pc := 14) (tgt := 18) dJ0_isLatin1_aae02_14 (by decide) ?_
  refine e_iret (pc := 18) (st := []) (ty := .boolean) dJ0_isLatin1_aae02_18 rfl rfl ?_
  exact kk
theorem sp_lenJ {sc : PSc} {k : Nat} {S : PS} {Q : PQ} (hk : k < 5) (kk : Q (some (.int (nI (sLen.getD k 0)))) S) : E sc mJ0_length_8abf5 0 (pL0 mJ0_length_8abf5 [.ref (100 + k)]) [] S Q := by
  show E sc mJ0_length_8abf5 0 [.ref (100 + k)] [] S Q
  have hl := (txt k hk).2.1
  refine e_aload_n (pc := 0) (i := 0) dJ0_length_8abf5_0 rfl rfl ?_
  refine e_getSV (pc := 1) (k := k) dJ0_length_8abf5_1 hk (fJ0_9 rfl) ?_
  refine e_alenS (pc := 4) (k := k) dJ0_length_8abf5_4 hk ?_
  refine E.it (nI (sLen.getD k 0)) rfl ?_
  refine e_aload_n (pc := 5) (i := 0) dJ0_length_8abf5_5 rfl rfl ?_
  refine e_callV0 (pc := 6) (M' := mJ0_coder_7d493) dJ0_length_8abf5_6 iJ0_coder_7d493 lkJ0_335 (by decide) (Or.inr ⟨k, hk, rfl, rfl⟩) (Nat.le_of_ble_eq_true rfl) (Nat.le_of_ble_eq_true rfl) ?_
  refine sp_coderJ hk ?_
  refine e_ishr (pc := 9) dJ0_length_8abf5_9 ?_
  refine E.it (nI (sLen.getD k 0)) ((pk_shrN (by omega) _ 0 (by decide)).trans (congrArg nI (Nat.div_one _))) ?_
  refine e_iret (pc := 10) (st := []) (ty := .int) dJ0_length_8abf5_10 rfl rfl ?_
  exact kk
theorem sp_ck3 {sc : PSc} {i m : Nat} {v : Value} {S : PS} {Q : PQ} (hv : v = .null ∨ v = .ref 98) (hi : i < m) (hm : m < 2 ^ 31) (kk : Q (some (.int (nI i))) S) : E sc mJ3_checkIndex_8e157 0 (pL0 mJ3_checkIndex_8e157 [.int (nI i), .int (nI m), v]) [] S Q := by
  rcases hv with rfl | rfl
  · show E sc mJ3_checkIndex_8e157 0 [.int (nI i), .int (nI m), .null] [] S Q
    refine e_iload_n (pc := 0) (i := 0) dJ3_checkIndex_8e157_0 rfl rfl ?_
    refine e_if_lt (pc := 1) (tgt := 9) dJ3_checkIndex_8e157_1 (by decide) (fun h1 => absurd h1 (nI_pos (by omega))) (fun h1 => ?_)
    refine e_iload_n (pc := 4) (i := 0) dJ3_checkIndex_8e157_4 rfl rfl ?_
    refine e_iload_n (pc := 5) (i := 1) dJ3_checkIndex_8e157_5 rfl rfl ?_
    refine e_icmp_lt (pc := 6) (tgt := 16) dJ3_checkIndex_8e157_6 (by decide) (fun h6 => ?_) (fun h6 => absurd (nI_lt hi (by omega)) h6)
    refine e_iload_n (pc := 16) (i := 0) dJ3_checkIndex_8e157_16 rfl rfl ?_
    refine e_iret (pc := 17) (st := []) (ty := .int) dJ3_checkIndex_8e157_17 rfl rfl ?_
    exact kk
  · show E sc mJ3_checkIndex_8e157 0 [.int (nI i), .int (nI m), .ref 98] [] S Q
    refine e_iload_n (pc := 0) (i := 0) dJ3_checkIndex_8e157_0 rfl rfl ?_
    refine e_if_lt (pc := 1) (tgt := 9) dJ3_checkIndex_8e157_1 (by decide) (fun h1 => absurd h1 (nI_pos (by omega))) (fun h1 => ?_)
    refine e_iload_n (pc := 4) (i := 0) dJ3_checkIndex_8e157_4 rfl rfl ?_
    refine e_iload_n (pc := 5) (i := 1) dJ3_checkIndex_8e157_5 rfl rfl ?_
    refine e_icmp_lt (pc := 6) (tgt := 16) dJ3_checkIndex_8e157_6 (by decide) (fun h6 => ?_) (fun h6 => absurd (nI_lt hi (by omega)) h6)
    refine e_iload_n (pc := 16) (i := 0) dJ3_checkIndex_8e157_16 rfl rfl ?_
    refine e_iret (pc := 17) (st := []) (ty := .int) dJ3_checkIndex_8e157_17 rfl rfl ?_
    exact kk
theorem sp_ck0 {sc : PSc} {i m : Nat} {S : PS} {Q : PQ} (hi : i < m) (hm : m < 2 ^ 31) (kk : Q none S) : E sc mJ0_checkIndex_df160 0 (pL0 mJ0_checkIndex_df160 [.int (nI i), .int (nI m)]) [] S Q := by
  show E sc mJ0_checkIndex_df160 0 [.int (nI i), .int (nI m)] [] S Q
  refine e_iload_n (pc := 0) (i := 0) dJ0_checkIndex_df160_0 rfl rfl ?_
  refine e_iload_n (pc := 1) (i := 1) dJ0_checkIndex_df160_1 rfl rfl ?_
  refine e_getsR (pc := 2) dJ0_checkIndex_df160_2 (gsJ0_1053 rfl) (fun sv hsv => ?_)
  rcases hsv with rfl | rfl
  · refine e_callS3 (pc := 5) (M' := mJ3_checkIndex_8e157) dJ0_checkIndex_df160_5 jJ3_checkIndex_8e157 lkJ0_1059 (by decide) (Nat.le_of_ble_eq_true rfl) (Nat.le_of_ble_eq_true rfl) ?_
    refine sp_ck3 (Or.inl rfl) hi hm ?_
    refine e_pop (pc := 8) dJ0_checkIndex_df160_8 rfl ?_
    refine e_vret (pc := 9) (st := []) dJ0_checkIndex_df160_9 rfl ?_
    exact kk
  · refine e_callS3 (pc := 5) (M' := mJ3_checkIndex_8e157) dJ0_checkIndex_df160_5 jJ3_checkIndex_8e157 lkJ0_1059 (by decide) (Nat.le_of_ble_eq_true rfl) (Nat.le_of_ble_eq_true rfl) ?_
    refine sp_ck3 (Or.inr rfl) hi hm ?_
    refine e_pop (pc := 8) dJ0_checkIndex_df160_8 rfl ?_
    refine e_vret (pc := 9) (st := []) dJ0_checkIndex_df160_9 rfl ?_
    exact kk
theorem sp_ch1 {sc : PSc} {k : Nat} {S : PS} {Q : PQ} (hk : k < 5) {i : Nat} (hi : i < sLen.getD k 0) (kk : Q (some (.int (nI (ltr (nix k) i)))) S) : E sc mJ1_charAt_3b067 0 (pL0 mJ1_charAt_3b067 [.ref (200 + k), .int (nI i)]) [] S Q := by
  show E sc mJ1_charAt_3b067 0 [.ref (200 + k), .int (nI i)] [] S Q
  have hl := (txt k hk).2.1
  obtain ⟨t1, t2⟩ := (txt k hk).1 i hi
  refine e_iload_n (pc := 0) (i := 1) dJ1_charAt_3b067_0 rfl rfl ?_
  refine e_aload_n (pc := 1) (i := 0) dJ1_charAt_3b067_1 rfl rfl ?_
  refine e_alenS (pc := 2) (k := k) dJ1_charAt_3b067_2 hk ?_
  refine E.it (nI (sLen.getD k 0)) rfl ?_
  refine e_callS2 (pc := 3) (M' := mJ0_checkIndex_df160) dJ1_charAt_3b067_3 jJ0_checkIndex_df160 lkJ1_9 (by decide) (Nat.le_of_ble_eq_true rfl) (Nat.le_of_ble_eq_true rfl) ?_
  refine sp_ck0 hi (by omega) ?_
  refine e_aload_n (pc := 6) (i := 0) dJ1_charAt_3b067_6 rfl rfl ?_
  refine e_iload_n (pc := 7) (i := 1) dJ1_charAt_3b067_7 rfl rfl ?_
  refine e_baldS (pc := 8) (k := k) dJ1_charAt_3b067_8 hk (vp_in_nI hi (by omega)) ?_
  refine E.it (nI (ltr (nix k) i)) (by rw [nI_clamp (by omega)]; exact t1) ?_
  refine e_sipush' (pc := 9) (nI 255) dJ1_charAt_3b067_9 (by decide) ?_
  refine e_iand (pc := 12) dJ1_charAt_3b067_12 ?_
  refine E.it (nI (ltr (nix k) i)) ((fa_mask _ 8).trans (congrArg nI (by omega))) ?_
  refine e_i2c (pc := 13) dJ1_charAt_3b067_13 ?_
  refine E.it (nI (ltr (nix k) i)) ((pk_char _).trans (congrArg nI (by rw [pk_tn (by omega)]; omega))) ?_
  refine e_iret (pc := 14) (st := []) (ty := .char) dJ1_charAt_3b067_14 rfl (pk_charN (by omega)).1 ?_
  exact kk
theorem sp_chJ {sc : PSc} {k : Nat} {S : PS} {Q : PQ} (hk : k < 5) {i : Nat} (hi : i < sLen.getD k 0) (kk : Q (some (.int (nI (ltr (nix k) i)))) S) : E sc mJ0_charAt_5068e 0 (pL0 mJ0_charAt_5068e [.ref (100 + k), .int (nI i)]) [] S Q := by
  show E sc mJ0_charAt_5068e 0 [.ref (100 + k), .int (nI i)] [] S Q
  have t2 := ((txt k hk).1 i hi).2
  refine e_aload_n (pc := 0) (i := 0) dJ0_charAt_5068e_0 rfl rfl ?_
  refine e_callV0 (pc := 1) (M' := mJ0_isLatin1_aae02) dJ0_charAt_5068e_1 iJ0_isLatin1_aae02 lkJ0_492 (by decide) (Or.inr ⟨k, hk, rfl, rfl⟩) (Nat.le_of_ble_eq_true rfl) (Nat.le_of_ble_eq_true rfl) ?_
  refine sp_latinJ hk ?_
  refine e_if_eq (pc := 4) (tgt := 16) dJ0_charAt_5068e_4 (by decide) (fun h4 => absurd h4 (by decide)) (fun h4 => ?_)
  refine e_aload_n (pc := 7) (i := 0) dJ0_charAt_5068e_7 rfl rfl ?_
  refine e_getSV (pc := 8) (k := k) dJ0_charAt_5068e_8 hk (fJ0_9 rfl) ?_
  refine e_iload_n (pc := 11) (i := 1) dJ0_charAt_5068e_11 rfl rfl ?_
  refine e_callS2 (pc := 12) (M' := mJ1_charAt_3b067) dJ0_charAt_5068e_12 jJ1_charAt_3b067 lkJ0_495 (by decide) (Nat.le_of_ble_eq_true rfl) (Nat.le_of_ble_eq_true rfl) ?_
  refine sp_ch1 hk hi ?_
  refine e_iret (pc := 15) (st := []) (ty := .char) dJ0_charAt_5068e_15 rfl (pk_charN (by omega)).1 ?_
  exact kk
theorem lp_isName {sc : PSc} {N : Nat} {tp : Nat → Nat} {S : PS} {Q : PQ} (ht : TpC S N tp) {k s e : Nat} (hk : k < 5) (h6 : S.1 25 6 = nI s) (h7 : S.1 25 7 = nI e) (hse : s ≤ e) (heN : e ≤ N) (k1 : NmP tp (nix k) s e → Q (some (.int (nI 1))) S) (k0 : ¬ NmP tp (nix k) s e → Q (some (.int (nI 0))) S) (hlen : e - s = sLen.getD k 0) : ∀ (n : Nat) (i : Nat), i ≤ sLen.getD k 0 → sLen.getD k 0 - i < n → (∀ j, j < i → tp (s + j) = ltr (nix k) j) → E sc mX4_isName 20 [.ref 25, .ref (100 + k), .int (nI i)] [] S Q := by
  intro n
  induction n with
  | zero => intro i hi hn hz; exact absurd hn (by omega)
  | succ n ih =>
    intro i hi hn hz
    have hN := ht.1
    obtain ⟨x1, x2, x3⟩ := txt k hk
    refine e_iload_n (pc := 20) (i := 2) dX4_isName_20 rfl rfl ?_
    refine e_aload_n (pc := 21) (i := 1) dX4_isName_21 rfl rfl ?_
    refine e_callV0 (pc := 22) (M' := mJ0_length_8abf5) dX4_isName_22 iJ0_length_8abf5 lkX4_115 (by decide) (Or.inr ⟨k, hk, rfl, rfl⟩) (Nat.le_of_ble_eq_true rfl) (Nat.le_of_ble_eq_true rfl) ?_
    refine sp_lenJ hk ?_
    refine e_icmp_ge (pc := 25) (tgt := 58) dX4_isName_25 (by decide) (fun h25 => ?_) (fun h25 => ?_)
    · replace h25 := (nI_leI (by omega) (by omega)).mp h25
      refine e_iconst' (pc := 58) (nI 1) dX4_isName_58 (by decide) ?_
      refine e_iret (pc := 59) (st := []) (ty := .boolean) dX4_isName_59 rfl rfl ?_
      exact k1 ⟨hlen.trans x3, fun j hj => hz j (by rw [← x3] at hj; omega)⟩
    · replace h25 := mt (nI_leI (by omega) (by omega)).mpr h25
      have hb := (ht.2.2 (s + i) (by omega)).1
      have hl := (x1 i (by omega)).2
      refine e_aload_n (pc := 28) (i := 0) dX4_isName_28 rfl rfl ?_
      refine e_getR (pc := 29) dX4_isName_29 (fX4_12 rfl) sh_25 rfl ?_
      refine e_getR (pc := 32) dX4_isName_32 (fX4_96 rfl) sh_23 rfl ?_
      refine e_aload_n (pc := 35) (i := 0) dX4_isName_35 rfl rfl ?_
      refine e_getI (pc := 36) dX4_isName_36 (fX4_93 rfl) sh_25 rfl ?_
      refine E.it (nI s) h6 ?_
      refine e_iload_n (pc := 39) (i := 2) dX4_isName_39 rfl rfl ?_
      refine e_iadd (pc := 40) dX4_isName_40 ?_
      refine E.it (nI (s + i)) (nI_add _ _) ?_
      refine e_bald (pc := 41) dX4_isName_41 sh_24 (vp_in_nI (by omega) (by omega)) ?_
      refine E.it (nI (tp (s + i))) (by rw [nI_clamp (by omega)]; exact (ht.2.2 (s + i) (by omega)).2) ?_
      refine e_aload_n (pc := 42) (i := 1) dX4_isName_42 rfl rfl ?_
      refine e_iload_n (pc := 43) (i := 2) dX4_isName_43 rfl rfl ?_
      refine e_callV1 (pc := 44) (M' := mJ0_charAt_5068e) dX4_isName_44 iJ0_charAt_5068e lkX4_119 (by decide) (Or.inr ⟨k, hk, rfl, rfl⟩) (Nat.le_of_ble_eq_true rfl) (Nat.le_of_ble_eq_true rfl) ?_
      refine sp_chJ hk (by omega) ?_
      refine e_icmp_eq (pc := 47) (tgt := 52) dX4_isName_47 (by decide) (fun h47 => ?_) (fun h47 => ?_)
      · replace h47 := (nI_eq (by omega) (by omega)).mp h47
        refine e_iinc' (pc := 52) (nI (i + 1)) dX4_isName_52 rfl (by decide) rfl (nI_1 _) ?_
        refine e_goto (pc := 55) (tgt := 20) dX4_isName_55 (by decide) ?_
        refine ih (i + 1) (by omega) (by omega) (fun j hj => ?_)
        by_cases q : j = i
        · subst q; exact h47
        · exact hz j (by omega)
      · replace h47 := mt (nI_eq (by omega) (by omega)).mpr h47
        refine e_iconst' (pc := 50) (nI 0) dX4_isName_50 (by decide) ?_
        refine e_iret (pc := 51) (st := []) (ty := .boolean) dX4_isName_51 rfl rfl ?_
        exact k0 (fun q => h47 (q.2 i (by rw [← x3]; omega)))
theorem sp_isName {sc : PSc} {N : Nat} {tp : Nat → Nat} {S : PS} {Q : PQ} (ht : TpC S N tp) {k s e : Nat} (hk : k < 5) (h6 : S.1 25 6 = nI s) (h7 : S.1 25 7 = nI e) (hse : s ≤ e) (heN : e ≤ N) (k1 : NmP tp (nix k) s e → Q (some (.int (nI 1))) S) (k0 : ¬ NmP tp (nix k) s e → Q (some (.int (nI 0))) S) : E sc mX4_isName 0 (pL0 mX4_isName [.ref 25, .ref (100 + k)]) [] S Q := by
  show E sc mX4_isName 0 [.ref 25, .ref (100 + k), .null] [] S Q
  have hN := ht.1
  obtain ⟨x1, x2, x3⟩ := txt k hk
  refine e_aload_n (pc := 0) (i := 0) dX4_isName_0 rfl rfl ?_
  refine e_getI (pc := 1) dX4_isName_1 (fX4_37 rfl) sh_25 rfl ?_
  refine E.it (nI e) h7 ?_
  refine e_aload_n (pc := 4) (i := 0) dX4_isName_4 rfl rfl ?_
  refine e_getI (pc := 5) dX4_isName_5 (fX4_93 rfl) sh_25 rfl ?_
  refine E.it (nI s) h6 ?_
  refine e_isub (pc := 8) dX4_isName_8 ?_
  refine E.it (nI (e - s)) (pk_sub (by omega)) ?_
  refine e_aload_n (pc := 9) (i := 1) dX4_isName_9 rfl rfl ?_
  refine e_callV0 (pc := 10) (M' := mJ0_length_8abf5) dX4_isName_10 iJ0_length_8abf5 lkX4_115 (by decide) (Or.inr ⟨k, hk, rfl, rfl⟩) (Nat.le_of_ble_eq_true rfl) (Nat.le_of_ble_eq_true rfl) ?_
  refine sp_lenJ hk ?_
  refine e_icmp_eq (pc := 13) (tgt := 18) dX4_isName_13 (by decide) (fun h13 => ?_) (fun h13 => ?_)
  · replace h13 := (nI_eq (by omega) (by omega)).mp h13
    refine e_iconst' (pc := 18) (nI 0) dX4_isName_18 (by decide) ?_
    refine e_istore_n (pc := 19) (i := 2) dX4_isName_19 rfl (by decide) rfl ?_
    exact lp_isName ht hk h6 h7 hse heN k1 k0 h13 (sLen.getD k 0 + 1) 0 (by omega) (by omega) (fun j hj => by omega)
  · replace h13 := mt (nI_eq (by omega) (by omega)).mpr h13
    refine e_iconst' (pc := 16) (nI 0) dX4_isName_16 (by decide) ?_
    refine e_iret (pc := 17) (st := []) (ty := .boolean) dX4_isName_17 rfl rfl ?_
    exact k0 (fun q => h13 (q.1.trans x3.symm))
theorem sp_kindNamed {sc : PSc} {N : Nat} {tp : Nat → Nat} {S : PS} {Q : PQ} (ht : TpC S N tp) {s e : Nat} (g6 : S.1 25 6 = nI s) (g7 : S.1 25 7 = nI e) (hse : s ≤ e) (heN : e ≤ N) (ky : ∀ x, x < 4 → NmP tp x s e → Q (some (.int (nI x))) S) (kn : ¬ NmP tp 0 s e → ¬ NmP tp 1 s e → ¬ NmP tp 2 s e → ¬ NmP tp 3 s e → Q (some (.int (-4))) S) : E sc mX4_kindNamed 0 (pL0 mX4_kindNamed [.ref 25]) [] S Q := by
  show E sc mX4_kindNamed 0 [.ref 25] [] S Q
  refine e_aload_n (pc := 0) (i := 0) dX4_kindNamed_0 rfl rfl ?_
  refine e_ldcS (pc := 1) (k := 1) dX4_kindNamed_1 ⟨by decide, _, rfl⟩ ?_
  refine e_callV1 (pc := 3) (M' := mX4_isName) dX4_kindNamed_3 iX4_isName lkX4_60 (by decide) (rO_obj sh_25 rfl) (Nat.le_of_ble_eq_true rfl) (Nat.le_of_ble_eq_true rfl) ?_
  refine sp_isName (k := 1) ht (by omega) g6 g7 hse heN (fun a1 => ?_) (fun b1 => ?_)
  · refine e_if_eq (pc := 6) (tgt := 11) dX4_kindNamed_6 (by decide) (fun h6 => absurd h6 (by decide)) (fun h6 => ?_)
    refine e_iconst' (pc := 9) (nI 0) dX4_kindNamed_9 (by decide) ?_
    refine e_iret (pc := 10) (st := []) (ty := .int) dX4_kindNamed_10 rfl rfl ?_
    exact ky 0 (by omega) a1
  · refine e_if_eq (pc := 6) (tgt := 11) dX4_kindNamed_6 (by decide) (fun h6 => ?_) (fun h6 => absurd rfl h6)
    refine e_aload_n (pc := 11) (i := 0) dX4_kindNamed_11 rfl rfl ?_
    refine e_ldcS (pc := 12) (k := 2) dX4_kindNamed_12 ⟨by decide, _, rfl⟩ ?_
    refine e_callV1 (pc := 14) (M' := mX4_isName) dX4_kindNamed_14 iX4_isName lkX4_60 (by decide) (rO_obj sh_25 rfl) (Nat.le_of_ble_eq_true rfl) (Nat.le_of_ble_eq_true rfl) ?_
    refine sp_isName (k := 2) ht (by omega) g6 g7 hse heN (fun a2 => ?_) (fun b2 => ?_)
    · refine e_if_eq (pc := 17) (tgt := 22) dX4_kindNamed_17 (by decide) (fun h17 => absurd h17 (by decide)) (fun h17 => ?_)
      refine e_iconst' (pc := 20) (nI 1) dX4_kindNamed_20 (by decide) ?_
      refine e_iret (pc := 21) (st := []) (ty := .int) dX4_kindNamed_21 rfl rfl ?_
      exact ky 1 (by omega) a2
    · refine e_if_eq (pc := 17) (tgt := 22) dX4_kindNamed_17 (by decide) (fun h17 => ?_) (fun h17 => absurd rfl h17)
      refine e_aload_n (pc := 22) (i := 0) dX4_kindNamed_22 rfl rfl ?_
      refine e_ldcS (pc := 23) (k := 3) dX4_kindNamed_23 ⟨by decide, _, rfl⟩ ?_
      refine e_callV1 (pc := 25) (M' := mX4_isName) dX4_kindNamed_25 iX4_isName lkX4_60 (by decide) (rO_obj sh_25 rfl) (Nat.le_of_ble_eq_true rfl) (Nat.le_of_ble_eq_true rfl) ?_
      refine sp_isName (k := 3) ht (by omega) g6 g7 hse heN (fun a3 => ?_) (fun b3 => ?_)
      · refine e_if_eq (pc := 28) (tgt := 33) dX4_kindNamed_28 (by decide) (fun h28 => absurd h28 (by decide)) (fun h28 => ?_)
        refine e_iconst' (pc := 31) (nI 2) dX4_kindNamed_31 (by decide) ?_
        refine e_iret (pc := 32) (st := []) (ty := .int) dX4_kindNamed_32 rfl rfl ?_
        exact ky 2 (by omega) a3
      · refine e_if_eq (pc := 28) (tgt := 33) dX4_kindNamed_28 (by decide) (fun h28 => ?_) (fun h28 => absurd rfl h28)
        refine e_aload_n (pc := 33) (i := 0) dX4_kindNamed_33 rfl rfl ?_
        refine e_ldcS (pc := 34) (k := 4) dX4_kindNamed_34 ⟨by decide, _, rfl⟩ ?_
        refine e_callV1 (pc := 36) (M' := mX4_isName) dX4_kindNamed_36 iX4_isName lkX4_60 (by decide) (rO_obj sh_25 rfl) (Nat.le_of_ble_eq_true rfl) (Nat.le_of_ble_eq_true rfl) ?_
        refine sp_isName (k := 4) ht (by omega) g6 g7 hse heN (fun a4 => ?_) (fun b4 => ?_)
        · refine e_if_eq (pc := 39) (tgt := 46) dX4_kindNamed_39 (by decide) (fun h39 => absurd h39 (by decide)) (fun h39 => ?_)
          refine e_iconst' (pc := 42) (nI 3) dX4_kindNamed_42 (by decide) ?_
          refine e_goto (pc := 43) (tgt := 48) dX4_kindNamed_43 (by decide) ?_
          refine e_iret (pc := 48) (st := []) (ty := .int) dX4_kindNamed_48 rfl rfl ?_
          exact ky 3 (by omega) a4
        · refine e_if_eq (pc := 39) (tgt := 46) dX4_kindNamed_39 (by decide) (fun h39 => ?_) (fun h39 => absurd rfl h39)
          refine e_bipush' (pc := 46) (-4) dX4_kindNamed_46 (by decide) ?_
          refine e_iret (pc := 48) (st := []) (ty := .int) dX4_kindNamed_48 rfl rfl ?_
          exact kn b1 b2 b3 b4
def lnC (N : Nat) (tp : Nat → Nat) (R : Rw) (cd : Bool) (p : Nat) : Res := if cd = true then .inl (4, tst N tp p) else nB N tp 0 99 (te N tp p) (eB N tp (te N tp (te N tp p)) (.inr (rs R 21 (tv N tp (te N tp p)), true, te N tp (te N tp (te N tp p)))))
def lnW (N : Nat) (tp : Nat → Nat) (R : Rw) (x : Nat) (cd : Bool) (p : Nat) : Res := if 5 ≤ R 20 then .inl (5, tst N tp p) else nB N tp 2 12 (te N tp p) (nB N tp 0 (tv N tp (te N tp p) - 1) (te N tp (te N tp p)) (if tk N tp (te N tp (te N tp (te N tp p))) = 4 then .inl (1, tst N tp (te N tp (te N tp (te N tp p)))) else if tk N tp (te N tp (te N tp (te N tp p))) = 2 then (if tv N tp (te N tp (te N tp (te N tp p))) < tv N tp (te N tp p) then eB N tp (te N tp (te N tp (te N tp (te N tp p)))) (.inr (addR R x (tv N tp (te N tp p)) (tv N tp (te N tp (te N tp p))) (tv N tp (te N tp (te N tp (te N tp p)))), cd, te N tp (te N tp (te N tp (te N tp (te N tp p)))))) else .inl (3, tst N tp (te N tp (te N tp (te N tp p))))) else eB N tp (te N tp (te N tp (te N tp p))) (.inr (addR R x (tv N tp (te N tp p)) (tv N tp (te N tp (te N tp p))) 12, cd, te N tp (te N tp (te N tp (te N tp p)))))))
def ln (N : Nat) (tp : Nat → Nat) (R : Rw) (cd : Bool) (p : Nat) : Res := if tk N tp p = 1 then (if nm tp (tst N tp p) (te N tp p) = 4 then lnC N tp R cd p else if nm tp (tst N tp p) (te N tp p) < 4 then lnW N tp R (nm tp (tst N tp p) (te N tp p)) cd p else .inl (2, tst N tp p)) else .inl (2, tst N tp p)
def FrL (S S' : PS) : Prop := (∀ j, j ≠ 25 → (j < 6 ∨ 11 ≤ j) → S'.1 j = S.1 j) ∧ S'.1 25 3 = S.1 25 3
theorem FrL.rf {S : PS} : FrL S S := ⟨fun _ _ _ => rfl, rfl⟩
theorem FrL.n {S S1 S2 : PS} (h : FrL S S1) (h2 : FrN S1 S2) : FrL S S2 := ⟨fun j a b => (h2.1 j a).trans (h.1 j a b), h2.2.1.trans h.2⟩
theorem FrL.r {S S1 S2 : PS} (h : FrL S S1) (h2 : Fr 6 5 S1 S2) : FrL S S2 := ⟨fun j a b => (h2.2 j (by omega)).trans (h.1 j a b), by rw [h2.2 25 (by omega)]; exact h.2⟩
theorem FrL.t {S S1 S2 : PS} (h : FrL S S1) (h2 : FrL S1 S2) : FrL S S2 := ⟨fun j a b => (h2.1 j a b).trans (h.1 j a b), h2.2.trans h.2⟩
theorem FrL.up {S S1 : PS} {k : Nat} {v : Int32} (h : FrL S S1) (h3 : k ≠ 3) : FrL S (up2 S1.1 25 k v, S1.2) := by
  refine ⟨fun j a b => (up2_ne _ _ _ a).trans (h.1 j a b), ?_⟩
  show up2 S1.1 25 k v 25 3 = _; rw [up2_at]; exact (if_neg (fun q => h3 q.symm)).trans h.2
theorem RowAt.n {S S' : PS} {R : Rw} (h : RowAt S 6 R) (hf : ∀ j, j ≠ 25 → S'.1 j = S.1 j) : RowAt S' 6 R := by
  obtain ⟨a, b, c⟩ := h
  refine ⟨by rw [hf 6 (by omega)]; exact a, by rw [hf 6 (by omega)]; exact b, fun w hw => ?_⟩
  rw [hf (6 + 1) (by omega), hf (6 + 2) (by omega), hf (6 + 3) (by omega), hf (6 + 4) (by omega)]
  exact c w hw
theorem RowAt.c6 {S : PS} {R : Rw} {v : Nat} (hv : Vd R) (h : RowAt S 6 R) : RowAt (up2 S.1 6 1 (nI v), S.2) 6 (rs R 21 v) := by
  have h5 := hv.1
  obtain ⟨a, b, c⟩ := h
  refine ⟨?_, ?_, fun w hw => ?_⟩
  · rw [rs_ne _ _ (by omega)]; exact a
  · rw [rs_at]; rfl
  · rw [rs_ne _ _ (by omega)] at hw
    rw [rs_ne _ _ (show w ≠ 21 by omega), rs_ne _ _ (show 5 + w ≠ 21 by omega), rs_ne _ _ (show 10 + w ≠ 21 by omega), rs_ne _ _ (show 15 + w ≠ 21 by omega)]
    exact c w hw
theorem sp_tellCount {sc : PSc} {N : Nat} {tp : Nat → Nat} {S : PS} {Q : PQ} (ht : TpC S N tp) {p : Nat} {cd : Bool} {R : Rw} {ou : Res} (hp : p ≤ N) (hk1 : tk N tp p = 1) (c0 : CurC S N tp p) (hv : Vd R) (hc9 : R 21 ≤ 99) (hr : RowAt S 6 R) (h4 : S.1 25 4 = nI (if cd then 1 else 0)) (ho : lnC N tp R cd p = ou) (kF : ∀ c s S', ou = .inl (c, s) → FrL S S' → FailC S' c s → Q (some (.int (nI 0))) S') (kO : ∀ R' cd' p' S', ou = .inr (R', cd', p') → FrL S S' → S'.1 25 1 = S.1 25 1 → RowAt S' 6 R' → Vd R' → R' 21 ≤ 99 → S'.1 25 4 = nI (if cd' then 1 else 0) → S'.1 25 7 = nI p' → p < p' → p' ≤ N → Q (some (.int (nI 1))) S') : E sc mX4_tellCount 0 (pL0 mX4_tellCount [.ref 25, .ref 6]) [] S Q := by
  show E sc mX4_tellCount 0 [.ref 25, .ref 6] [] S Q
  have hb1 := te_b (N := N) (tp := tp) hp (by omega) (by omega)
  unfold lnC at ho
  cases cd
  · rw [if_neg (by decide)] at ho
    refine e_aload_n (pc := 0) (i := 0) dX4_tellCount_0 rfl rfl ?_
    refine e_getI (pc := 1) dX4_tellCount_1 (fX4_33 rfl) sh_25 rfl ?_
    refine E.it (nI 0) h4 ?_
    refine e_if_eq (pc := 4) (tgt := 13) dX4_tellCount_4 (by decide) (fun h4_ => ?_) (fun h4_ => absurd rfl h4_)
    refine e_aload_n (pc := 13) (i := 0) dX4_tellCount_13 rfl rfl ?_
    refine e_iconst' (pc := 14) (nI 1) dX4_tellCount_14 (by decide) ?_
    refine e_putI (pc := 15) dX4_tellCount_15 (pX4_33 rfl) sh_25 rfl (fun _ => by decide) ?_
    refine e_aload_n (pc := 18) (i := 0) dX4_tellCount_18 rfl rfl ?_
    refine e_iconst' (pc := 19) (nI 0) dX4_tellCount_19 (by decide) ?_
    refine e_bipush' (pc := 20) (nI 99) dX4_tellCount_20 (by decide) ?_
    refine e_callV2 (pc := 22) (M' := mX4_nextNumber) dX4_tellCount_22 iX4_nextNumber lkX4_75 (by decide) (rO_obj sh_25 rfl) (Nat.le_of_ble_eq_true rfl) (Nat.le_of_ble_eq_true rfl) ?_
    refine sp_nextNumber (S := (up2 S.1 25 4 (nI 1), S.2)) (p := te N tp p) (l := 0) (h := 99) ht (by omega) (c0.2.2.1 (by omega)) (by omega) (by omega) (fun c s hb S1 f1 g1 => ?_) (fun n2 n3 n4 hb S1 f1 g1 c1 => ?_)
    · rw [hb] at ho
      subst ho
      refine e_if_ne (pc := 25) (tgt := 30) dX4_tellCount_25 (by decide) (fun h25 => absurd rfl h25) (fun h25 => ?_)
      refine e_iconst' (pc := 28) (nI 0) dX4_tellCount_28 (by decide) ?_
      refine e_iret (pc := 29) (st := []) (ty := .boolean) dX4_tellCount_29 rfl rfl ?_
      exact kF c s S1 rfl ((FrL.rf.up (by decide)).n f1) g1
    · rw [hb] at ho
      have hb2 := te_b (N := N) (tp := tp) (p := te N tp p) (by omega) (by omega) (by omega)
      refine e_if_ne (pc := 25) (tgt := 30) dX4_tellCount_25 (by decide) (fun h25 => ?_) (fun h25 => absurd h25 (by decide))
      refine e_aload_n (pc := 30) (i := 1) dX4_tellCount_30 rfl rfl ?_
      refine e_aload_n (pc := 31) (i := 0) dX4_tellCount_31 rfl rfl ?_
      refine e_getI (pc := 32) dX4_tellCount_32 (fX4_79 rfl) sh_25 rfl ?_
      refine E.it (nI (tv N tp (te N tp p))) (c1.2.2.2 n2) ?_
      refine e_putI (pc := 35) dX4_tellCount_35 (pX4_27 rfl) (rI_sh r6) rfl (fun h => by cases h) ?_
      have hr1 : RowAt (up2 S1.1 6 1 (nI (tv N tp (te N tp p))), S1.2) 6 (rs R 21 (tv N tp (te N tp p))) := (RowAt.n (S := (up2 S.1 25 4 (nI 1), S.2)) (hr.n (fun j hj => up2_ne _ _ _ hj)) f1.1).c6 hv
      have fr1 : FrL S (up2 S1.1 6 1 (nI (tv N tp (te N tp p))), S1.2) := ((FrL.rf.up (by decide)).n f1).r (Fr.rf.up (by omega) (by omega))
      refine e_aload_n (pc := 38) (i := 0) dX4_tellCount_38 rfl rfl ?_
      refine e_callV0 (pc := 39) (M' := mX4_nextToken) dX4_tellCount_39 iX4_nextToken lkX4_43 (by decide) (rO_obj sh_25 rfl) (Nat.le_of_ble_eq_true rfl) (Nat.le_of_ble_eq_true rfl) ?_
      refine sp_nextToken (S := (up2 S1.1 6 1 (nI (tv N tp (te N tp p))), S1.2)) (p := te N tp (te N tp p)) (TpC.n (S := (up2 S.1 25 4 (nI 1), S.2)) (S' := S1) ht f1) (by omega) (c1.2.2.1 (by omega)) (fun k4 S2 f2 g2 => ?_) (fun k4 S2 f2 g2 c2 => ?_)
      · unfold eB at ho
        rw [if_pos k4] at ho
        subst ho
        refine e_if_eq (pc := 42) (tgt := 56) dX4_tellCount_42 (by decide) (fun h42 => ?_) (fun h42 => absurd rfl h42)
        refine e_iconst' (pc := 56) (nI 0) dX4_tellCount_56 (by decide) ?_
        refine e_iret (pc := 57) (st := []) (ty := .boolean) dX4_tellCount_57 rfl rfl ?_
        exact kF 1 _ S2 rfl (fr1.n f2) g2
      · unfold eB at ho
        rw [if_neg k4] at ho
        refine e_if_eq (pc := 42) (tgt := 56) dX4_tellCount_42 (by decide) (fun h42 => absurd h42 (by decide)) (fun h42 => ?_)
        refine e_aload_n (pc := 45) (i := 0) dX4_tellCount_45 rfl rfl ?_
        refine e_callV0 (pc := 46) (M' := mX4_lineEnds) dX4_tellCount_46 iX4_lineEnds lkX4_82 (by decide) (rO_obj sh_25 rfl) (Nat.le_of_ble_eq_true rfl) (Nat.le_of_ble_eq_true rfl) ?_
        refine sp_lineEnds c2 (fun k3 g3 => ?_) (fun k3 => ?_)
        · rw [if_neg k3] at ho
          subst ho
          refine e_if_eq (pc := 49) (tgt := 56) dX4_tellCount_49 (by decide) (fun h49 => ?_) (fun h49 => absurd rfl h49)
          refine e_iconst' (pc := 56) (nI 0) dX4_tellCount_56 (by decide) ?_
          refine e_iret (pc := 57) (st := []) (ty := .boolean) dX4_tellCount_57 rfl rfl ?_
          exact kF 2 _ _ rfl (((fr1.n f2).up (by decide)).up (by decide)) g3
        · rw [if_pos k3] at ho
          subst ho
          have hb3 := te_b (N := N) (tp := tp) (p := te N tp (te N tp p)) (by omega) (by omega) (by omega)
          refine e_if_eq (pc := 49) (tgt := 56) dX4_tellCount_49 (by decide) (fun h49 => absurd h49 (by decide)) (fun h49 => ?_)
          refine e_iconst' (pc := 52) (nI 1) dX4_tellCount_52 (by decide) ?_
          refine e_goto (pc := 53) (tgt := 57) dX4_tellCount_53 (by decide) ?_
          refine e_iret (pc := 57) (st := []) (ty := .boolean) dX4_tellCount_57 rfl rfl ?_
          refine kO _ _ _ S2 rfl (fr1.n f2) (g2.trans g1) (hr1.n f2.1) (rc_vd hv) (by rw [rs_at]; exact (tv_le n2).1) ?_ (c2.2.2.1 (by omega)) (by omega) (by omega)
          rw [f2.2.2]; exact f1.2.2.trans rfl
  · rw [if_pos rfl] at ho
    subst ho
    refine e_aload_n (pc := 0) (i := 0) dX4_tellCount_0 rfl rfl ?_
    refine e_getI (pc := 1) dX4_tellCount_1 (fX4_33 rfl) sh_25 rfl ?_
    refine E.it (nI 1) h4 ?_
    refine e_if_eq (pc := 4) (tgt := 13) dX4_tellCount_4 (by decide) (fun h4_ => absurd h4_ (by decide)) (fun h4_ => ?_)
    refine e_aload_n (pc := 7) (i := 0) dX4_tellCount_7 rfl rfl ?_
    refine e_iconst' (pc := 8) (nI 4) dX4_tellCount_8 (by decide) ?_
    refine e_callV1 (pc := 9) (M' := mX4_fail) dX4_tellCount_9 iX4_fail lkX4_54 (by decide) (rO_obj sh_25 rfl) (Nat.le_of_ble_eq_true rfl) (Nat.le_of_ble_eq_true rfl) ?_
    refine sp_failC (s := tst N tp p) c0.2.1 ?_
    refine e_iret (pc := 12) (st := []) (ty := .boolean) dX4_tellCount_12 rfl rfl ?_
    exact kF 4 _ _ rfl ((FrL.rf.up (by decide)).up (by decide)) ⟨rfl, rfl⟩
theorem sp_tellWheel {sc : PSc} {N : Nat} {tp : Nat → Nat} {S : PS} {Q : PQ} (ht : TpC S N tp) {p : Nat} {cd : Bool} {R : Rw} {ou : Res} (hp : p ≤ N) (hk1 : tk N tp p = 1) (c0 : CurC S N tp p) (hv : Vd R) (hc9 : R 21 ≤ 99) (hr : RowAt S 6 R) (h4 : S.1 25 4 = nI (if cd then 1 else 0)) {x : Nat} (hx : x < 4) (ho : lnW N tp R x cd p = ou) (kF : ∀ c s S', ou = .inl (c, s) → FrL S S' → FailC S' c s → Q (some (.int (nI 0))) S') (kO : ∀ R' cd' p' S', ou = .inr (R', cd', p') → FrL S S' → S'.1 25 1 = S.1 25 1 → RowAt S' 6 R' → Vd R' → R' 21 ≤ 99 → S'.1 25 4 = nI (if cd' then 1 else 0) → S'.1 25 7 = nI p' → p < p' → p' ≤ N → Q (some (.int (nI 1))) S') : E sc mX4_tellWheel 0 (pL0 mX4_tellWheel [.ref 25, .ref 6, .int (nI x)]) [] S Q := by
  show E sc mX4_tellWheel 0 [.ref 25, .ref 6, .int (nI x), .null, .null, .null] [] S Q
  have h5 := hv.1
  have hb1 := te_b (N := N) (tp := tp) hp (by omega) (by omega)
  unfold lnW at ho
  refine e_aload_n (pc := 0) (i := 1) dX4_tellWheel_0 rfl rfl ?_
  refine e_getI (pc := 1) dX4_tellWheel_1 (fX4_22 rfl) (rI_sh r6) rfl ?_
  refine E.it (nI (R 20)) hr.1 ?_
  refine e_iconst' (pc := 4) (nI 5) dX4_tellWheel_4 (by decide) ?_
  refine e_icmp_lt (pc := 5) (tgt := 14) dX4_tellWheel_5 (by decide) (fun h5 => ?_) (fun h5 => ?_)
  · replace h5 := (nI_ltI (by omega) (by omega)).mp h5
    rw [if_neg (by omega)] at ho
    refine e_aload_n (pc := 14) (i := 0) dX4_tellWheel_14 rfl rfl ?_
    refine e_iconst' (pc := 15) (nI 2) dX4_tellWheel_15 (by decide) ?_
    refine e_bipush' (pc := 16) (nI 12) dX4_tellWheel_16 (by decide) ?_
    refine e_callV2 (pc := 18) (M' := mX4_nextNumber) dX4_tellWheel_18 iX4_nextNumber lkX4_75 (by decide) (rO_obj sh_25 rfl) (Nat.le_of_ble_eq_true rfl) (Nat.le_of_ble_eq_true rfl) ?_
    refine sp_nextNumber (p := te N tp p) (l := 2) (h := 12) ht (by omega) (c0.2.2.1 (by omega)) (by omega) (by omega) (fun c s hb S1 f1 g1 => ?_) (fun n2 n3 n4 hb S1 f1 g1 c1 => ?_)
    · rw [hb] at ho
      subst ho
      refine e_if_ne (pc := 21) (tgt := 26) dX4_tellWheel_21 (by decide) (fun h21 => absurd rfl h21) (fun h21 => ?_)
      refine e_iconst' (pc := 24) (nI 0) dX4_tellWheel_24 (by decide) ?_
      refine e_iret (pc := 25) (st := []) (ty := .boolean) dX4_tellWheel_25 rfl rfl ?_
      exact kF c s S1 rfl (FrL.rf.n f1) g1
    · rw [hb] at ho
      have hb2 := te_b (N := N) (tp := tp) (p := te N tp p) (by omega) (by omega) (by omega)
      refine e_if_ne (pc := 21) (tgt := 26) dX4_tellWheel_21 (by decide) (fun h21 => ?_) (fun h21 => absurd h21 (by decide))
      refine e_aload_n (pc := 26) (i := 0) dX4_tellWheel_26 rfl rfl ?_
      refine e_getI (pc := 27) dX4_tellWheel_27 (fX4_79 rfl) sh_25 rfl ?_
      refine E.it (nI (tv N tp (te N tp p))) (c1.2.2.2 n2) ?_
      refine e_istore_n (pc := 30) (i := 3) dX4_tellWheel_30 rfl (by decide) rfl ?_
      refine e_aload_n (pc := 31) (i := 0) dX4_tellWheel_31 rfl rfl ?_
      refine e_iconst' (pc := 32) (nI 0) dX4_tellWheel_32 (by decide) ?_
      refine e_iload_n (pc := 33) (i := 3) dX4_tellWheel_33 rfl rfl ?_
      refine e_iconst' (pc := 34) (nI 1) dX4_tellWheel_34 (by decide) ?_
      refine e_isub (pc := 35) dX4_tellWheel_35 ?_
      refine E.it (nI (tv N tp (te N tp p) - 1)) (pk_sub (by omega)) ?_
      refine e_callV2 (pc := 36) (M' := mX4_nextNumber) dX4_tellWheel_36 iX4_nextNumber lkX4_75 (by decide) (rO_obj sh_25 rfl) (Nat.le_of_ble_eq_true rfl) (Nat.le_of_ble_eq_true rfl) ?_
      refine sp_nextNumber (p := te N tp (te N tp p)) (l := 0) (h := tv N tp (te N tp p) - 1) (ht.n f1) (by omega) (c1.2.2.1 (by omega)) (by omega) (by omega) (fun c s hb S2 f2 g2 => ?_) (fun m2 m3 m4 hb S2 f2 g2 c2 => ?_)
      · rw [hb] at ho
        subst ho
        refine e_if_ne (pc := 39) (tgt := 44) dX4_tellWheel_39 (by decide) (fun h39 => absurd rfl h39) (fun h39 => ?_)
        refine e_iconst' (pc := 42) (nI 0) dX4_tellWheel_42 (by decide) ?_
        refine e_iret (pc := 43) (st := []) (ty := .boolean) dX4_tellWheel_43 rfl rfl ?_
        exact kF c s S2 rfl ((FrL.rf.n f1).n f2) g2
      · rw [hb] at ho
        have hb3 := te_b (N := N) (tp := tp) (p := te N tp (te N tp p)) (by omega) (by omega) (by omega)
        refine e_if_ne (pc := 39) (tgt := 44) dX4_tellWheel_39 (by decide) (fun h39 => ?_) (fun h39 => absurd h39 (by decide))
        refine e_aload_n (pc := 44) (i := 0) dX4_tellWheel_44 rfl rfl ?_
        refine e_getI (pc := 45) dX4_tellWheel_45 (fX4_79 rfl) sh_25 rfl ?_
        refine E.it (nI (tv N tp (te N tp (te N tp p)))) (c2.2.2.2 m2) ?_
        refine e_istore (pc := 48) dX4_tellWheel_48 (by decide) rfl ?_
        refine e_bipush' (pc := 50) (nI 12) dX4_tellWheel_50 (by decide) ?_
        refine e_istore (pc := 52) dX4_tellWheel_52 (by decide) rfl ?_
        refine e_aload_n (pc := 54) (i := 0) dX4_tellWheel_54 rfl rfl ?_
        refine e_callV0 (pc := 55) (M' := mX4_nextToken) dX4_tellWheel_55 iX4_nextToken lkX4_43 (by decide) (rO_obj sh_25 rfl) (Nat.le_of_ble_eq_true rfl) (Nat.le_of_ble_eq_true rfl) ?_
        refine sp_nextToken (p := te N tp (te N tp (te N tp p))) ((ht.n f1).n f2) (by omega) (c2.2.2.1 (by omega)) (fun k4 S3 f3 g3 => ?_) (fun k4 S3 f3 g3 c3 => ?_)
        · rw [if_pos k4] at ho
          subst ho
          refine e_if_ne (pc := 58) (tgt := 63) dX4_tellWheel_58 (by decide) (fun h58 => absurd rfl h58) (fun h58 => ?_)
          refine e_iconst' (pc := 61) (nI 0) dX4_tellWheel_61 (by decide) ?_
          refine e_iret (pc := 62) (st := []) (ty := .boolean) dX4_tellWheel_62 rfl rfl ?_
          exact kF 1 _ S3 rfl (((FrL.rf.n f1).n f2).n f3) g3
        · rw [if_neg k4] at ho
          have htk := tk_le (N := N) (tp := tp) (p := te N tp (te N tp (te N tp p)))
          refine e_if_ne (pc := 58) (tgt := 63) dX4_tellWheel_58 (by decide) (fun h58 => ?_) (fun h58 => absurd h58 (by decide))
          refine e_aload_n (pc := 63) (i := 0) dX4_tellWheel_63 rfl rfl ?_
          refine e_getI (pc := 64) dX4_tellWheel_64 (fX4_47 rfl) sh_25 rfl ?_
          refine E.it (nI (tk N tp (te N tp (te N tp (te N tp p))))) c3.1 ?_
          refine e_iconst' (pc := 67) (nI 2) dX4_tellWheel_67 (by decide) ?_
          refine e_icmp_ne (pc := 68) (tgt := 100) dX4_tellWheel_68 (by decide) (fun h68 => ?_) (fun h68 => ?_)
          · replace h68 := mt (nI_eq (by omega) (by omega)).mpr h68
            rw [if_neg h68] at ho
            unfold eB at ho
            rw [if_neg k4] at ho
            refine e_aload_n (pc := 100) (i := 1) dX4_tellWheel_100 rfl rfl ?_
            refine e_iload_n (pc := 101) (i := 2) dX4_tellWheel_101 rfl rfl ?_
            refine e_iload_n (pc := 102) (i := 3) dX4_tellWheel_102 rfl rfl ?_
            refine e_iload (pc := 103) dX4_tellWheel_103 rfl ?_
            refine e_iload (pc := 105) dX4_tellWheel_105 rfl ?_
            refine e_callV4 (pc := 107) (M' := mX0_append) dX4_tellWheel_107 iX0_append lkX4_85 (by decide) (rI_r r6) (Nat.le_of_ble_eq_true rfl) (Nat.le_of_ble_eq_true rfl) ?_
            refine sp_append (i := 6) (R := R) (kd := x) (th := tv N tp (te N tp p)) (dg := tv N tp (te N tp (te N tp p))) (br := 12) r6 hv (((hr.n f1.1).n f2.1).n f3.1) (by omega) (fun Sa ra fa => ?_)
            have ca : CurC Sa N tp (te N tp (te N tp (te N tp p))) := by unfold CurC; rw [fa.2 25 (by omega)]; exact c3
            refine e_aload_n (pc := 110) (i := 0) dX4_tellWheel_110 rfl rfl ?_
            refine e_callV0 (pc := 111) (M' := mX4_lineEnds) dX4_tellWheel_111 iX4_lineEnds lkX4_82 (by decide) (rO_obj sh_25 rfl) (Nat.le_of_ble_eq_true rfl) (Nat.le_of_ble_eq_true rfl) ?_
            refine sp_lineEnds ca (fun k3 g3 => ?_) (fun k3 => ?_)
            · rw [if_neg k3] at ho
              subst ho
              refine e_iret (pc := 114) (st := []) (ty := .boolean) dX4_tellWheel_114 rfl rfl ?_
              exact kF 2 _ _ rfl ((((((FrL.rf.n f1).n f2).n f3).r fa).up (by decide)).up (by decide)) g3
            · rw [if_pos k3] at ho
              subst ho
              have hb9 := te_b (N := N) (tp := tp) (p := te N tp (te N tp (te N tp p))) (by omega) (by omega) (by omega)
              refine e_iret (pc := 114) (st := []) (ty := .boolean) dX4_tellWheel_114 rfl rfl ?_
              refine kO _ _ _ Sa rfl ((((FrL.rf.n f1).n f2).n f3).r fa) (by rw [fa.2 25 (by omega)]; exact (g3.trans (g2.trans g1))) ra (addR_vd hv (by omega) hx n3 n4 (by omega) (Or.inr rfl)) (by rw [(addR_at (by omega)).2.2.2.2.2]; exact hc9) (by rw [fa.2 25 (by omega)]; exact (f3.2.2.trans (f2.2.2.trans (f1.2.2.trans h4)))) (by rw [fa.2 25 (by omega)]; exact c3.2.2.1 (by omega)) (by omega) (by omega)
          · replace h68 := (nI_eq (by omega) (by omega)).mp h68
            rw [if_pos h68] at ho
            have hv3 := (tv_le h68).1
            refine e_aload_n (pc := 71) (i := 0) dX4_tellWheel_71 rfl rfl ?_
            refine e_getI (pc := 72) dX4_tellWheel_72 (fX4_79 rfl) sh_25 rfl ?_
            refine E.it (nI (tv N tp (te N tp (te N tp (te N tp p))))) (c3.2.2.2 h68) ?_
            refine e_iload_n (pc := 75) (i := 3) dX4_tellWheel_75 rfl rfl ?_
            refine e_icmp_lt (pc := 76) (tgt := 85) dX4_tellWheel_76 (by decide) (fun h76 => ?_) (fun h76 => ?_)
            · replace h76 := (nI_ltI (by omega) (by omega)).mp h76
              rw [if_pos h76] at ho
              unfold eB at ho
              have hb4 := te_b (N := N) (tp := tp) (p := te N tp (te N tp (te N tp p))) (by omega) (by omega) (by omega)
              refine e_aload_n (pc := 85) (i := 0) dX4_tellWheel_85 rfl rfl ?_
              refine e_getI (pc := 86) dX4_tellWheel_86 (fX4_79 rfl) sh_25 rfl ?_
              refine E.it (nI (tv N tp (te N tp (te N tp (te N tp p))))) (c3.2.2.2 h68) ?_
              refine e_istore (pc := 89) dX4_tellWheel_89 (by decide) rfl ?_
              refine e_aload_n (pc := 91) (i := 0) dX4_tellWheel_91 rfl rfl ?_
              refine e_callV0 (pc := 92) (M' := mX4_nextToken) dX4_tellWheel_92 iX4_nextToken lkX4_43 (by decide) (rO_obj sh_25 rfl) (Nat.le_of_ble_eq_true rfl) (Nat.le_of_ble_eq_true rfl) ?_
              refine sp_nextToken (p := te N tp (te N tp (te N tp (te N tp p)))) (((ht.n f1).n f2).n f3) (by omega) (c3.2.2.1 (by omega)) (fun k5 S4 f4 g4 => ?_) (fun k5 S4 f4 g4 c4 => ?_)
              · rw [if_pos k5] at ho
                subst ho
                refine e_if_ne (pc := 95) (tgt := 100) dX4_tellWheel_95 (by decide) (fun h95 => absurd rfl h95) (fun h95 => ?_)
                refine e_iconst' (pc := 98) (nI 0) dX4_tellWheel_98 (by decide) ?_
                refine e_iret (pc := 99) (st := []) (ty := .boolean) dX4_tellWheel_99 rfl rfl ?_
                exact kF 1 _ S4 rfl ((((FrL.rf.n f1).n f2).n f3).n f4) g4
              · rw [if_neg k5] at ho
                refine e_if_ne (pc := 95) (tgt := 100) dX4_tellWheel_95 (by decide) (fun h95 => ?_) (fun h95 => absurd h95 (by decide))
                refine e_aload_n (pc := 100) (i := 1) dX4_tellWheel_100 rfl rfl ?_
                refine e_iload_n (pc := 101) (i := 2) dX4_tellWheel_101 rfl rfl ?_
                refine e_iload_n (pc := 102) (i := 3) dX4_tellWheel_102 rfl rfl ?_
                refine e_iload (pc := 103) dX4_tellWheel_103 rfl ?_
                refine e_iload (pc := 105) dX4_tellWheel_105 rfl ?_
                refine e_callV4 (pc := 107) (M' := mX0_append) dX4_tellWheel_107 iX0_append lkX4_85 (by decide) (rI_r r6) (Nat.le_of_ble_eq_true rfl) (Nat.le_of_ble_eq_true rfl) ?_
                refine sp_append (i := 6) (R := R) (kd := x) (th := tv N tp (te N tp p)) (dg := tv N tp (te N tp (te N tp p))) (br := tv N tp (te N tp (te N tp (te N tp p)))) r6 hv ((((hr.n f1.1).n f2.1).n f3.1).n f4.1) (by omega) (fun Sa ra fa => ?_)
                have ca : CurC Sa N tp (te N tp (te N tp (te N tp (te N tp p)))) := by unfold CurC; rw [fa.2 25 (by omega)]; exact c4
                refine e_aload_n (pc := 110) (i := 0) dX4_tellWheel_110 rfl rfl ?_
                refine e_callV0 (pc := 111) (M' := mX4_lineEnds) dX4_tellWheel_111 iX4_lineEnds lkX4_82 (by decide) (rO_obj sh_25 rfl) (Nat.le_of_ble_eq_true rfl) (Nat.le_of_ble_eq_true rfl) ?_
                refine sp_lineEnds ca (fun k3 g3 => ?_) (fun k3 => ?_)
                · rw [if_neg k3] at ho
                  subst ho
                  refine e_iret (pc := 114) (st := []) (ty := .boolean) dX4_tellWheel_114 rfl rfl ?_
                  exact kF 2 _ _ rfl (((((((FrL.rf.n f1).n f2).n f3).n f4).r fa).up (by decide)).up (by decide)) g3
                · rw [if_pos k3] at ho
                  subst ho
                  have hb9 := te_b (N := N) (tp := tp) (p := te N tp (te N tp (te N tp (te N tp p)))) (by omega) (by omega) (by omega)
                  refine e_iret (pc := 114) (st := []) (ty := .boolean) dX4_tellWheel_114 rfl rfl ?_
                  refine kO _ _ _ Sa rfl (((((FrL.rf.n f1).n f2).n f3).n f4).r fa) (by rw [fa.2 25 (by omega)]; exact (g4.trans (g3.trans (g2.trans g1)))) ra (addR_vd hv (by omega) hx n3 n4 (by omega) (Or.inl h76)) (by rw [(addR_at (by omega)).2.2.2.2.2]; exact hc9) (by rw [fa.2 25 (by omega)]; exact (f4.2.2.trans (f3.2.2.trans (f2.2.2.trans (f1.2.2.trans h4))))) (by rw [fa.2 25 (by omega)]; exact c4.2.2.1 (by omega)) (by omega) (by omega)
            · replace h76 := mt (nI_ltI (by omega) (by omega)).mpr h76
              rw [if_neg h76] at ho
              subst ho
              refine e_aload_n (pc := 79) (i := 0) dX4_tellWheel_79 rfl rfl ?_
              refine e_iconst' (pc := 80) (nI 3) dX4_tellWheel_80 (by decide) ?_
              refine e_callV1 (pc := 81) (M' := mX4_fail) dX4_tellWheel_81 iX4_fail lkX4_54 (by decide) (rO_obj sh_25 rfl) (Nat.le_of_ble_eq_true rfl) (Nat.le_of_ble_eq_true rfl) ?_
              refine sp_failC (s := tst N tp (te N tp (te N tp (te N tp p)))) c3.2.1 ?_
              refine e_iret (pc := 84) (st := []) (ty := .boolean) dX4_tellWheel_84 rfl rfl ?_
              exact kF 3 _ _ rfl (((((FrL.rf.n f1).n f2).n f3).up (by decide)).up (by decide)) ⟨rfl, rfl⟩
  · replace h5 := mt (nI_ltI (by omega) (by omega)).mpr h5
    rw [if_pos (by omega)] at ho
    subst ho
    refine e_aload_n (pc := 8) (i := 0) dX4_tellWheel_8 rfl rfl ?_
    refine e_iconst' (pc := 9) (nI 5) dX4_tellWheel_9 (by decide) ?_
    refine e_callV1 (pc := 10) (M' := mX4_fail) dX4_tellWheel_10 iX4_fail lkX4_54 (by decide) (rO_obj sh_25 rfl) (Nat.le_of_ble_eq_true rfl) (Nat.le_of_ble_eq_true rfl) ?_
    refine sp_failC (s := tst N tp p) c0.2.1 ?_
    refine e_iret (pc := 13) (st := []) (ty := .boolean) dX4_tellWheel_13 rfl rfl ?_
    exact kF 5 _ _ rfl ((FrL.rf.up (by decide)).up (by decide)) ⟨rfl, rfl⟩
theorem sp_tellLine {sc : PSc} {N : Nat} {tp : Nat → Nat} {S : PS} {Q : PQ} (ht : TpC S N tp) {p : Nat} {cd : Bool} {R : Rw} {ou : Res} (hp : p ≤ N) (hk0 : tk N tp p ≠ 0) (hk4 : tk N tp p ≠ 4) (c0 : CurC S N tp p) (hv : Vd R) (hc9 : R 21 ≤ 99) (hr : RowAt S 6 R) (h4 : S.1 25 4 = nI (if cd then 1 else 0)) (ho : ln N tp R cd p = ou) (kF : ∀ c s S', ou = .inl (c, s) → FrL S S' → FailC S' c s → Q (some (.int (nI 0))) S') (kO : ∀ R' cd' p' S', ou = .inr (R', cd', p') → FrL S S' → S'.1 25 1 = S.1 25 1 → RowAt S' 6 R' → Vd R' → R' 21 ≤ 99 → S'.1 25 4 = nI (if cd' then 1 else 0) → S'.1 25 7 = nI p' → p < p' → p' ≤ N → Q (some (.int (nI 1))) S') : E sc mX4_tellLine 0 (pL0 mX4_tellLine [.ref 25, .ref 6]) [] S Q := by
  show E sc mX4_tellLine 0 [.ref 25, .ref 6, .null] [] S Q
  have htk := tk_le (N := N) (tp := tp) (p := p)
  have hb1 := te_b (N := N) (tp := tp) hp hk0 hk4
  unfold ln at ho
  refine e_aload_n (pc := 0) (i := 0) dX4_tellLine_0 rfl rfl ?_
  refine e_getI (pc := 1) dX4_tellLine_1 (fX4_47 rfl) sh_25 rfl ?_
  refine E.it (nI (tk N tp p)) c0.1 ?_
  refine e_iconst' (pc := 4) (nI 1) dX4_tellLine_4 (by decide) ?_
  refine e_icmp_eq (pc := 5) (tgt := 14) dX4_tellLine_5 (by decide) (fun h5 => ?_) (fun h5 => ?_)
  · replace h5 := (nI_eq (by omega) (by omega)).mp h5
    rw [if_pos h5] at ho
    refine e_aload_n (pc := 14) (i := 0) dX4_tellLine_14 rfl rfl ?_
    refine e_ldcS (pc := 15) (k := 0) dX4_tellLine_15 ⟨by decide, _, rfl⟩ ?_
    refine e_callV1 (pc := 17) (M' := mX4_isName) dX4_tellLine_17 iX4_isName lkX4_60 (by decide) (rO_obj sh_25 rfl) (Nat.le_of_ble_eq_true rfl) (Nat.le_of_ble_eq_true rfl) ?_
    refine sp_isName (k := 0) ht (by omega) c0.2.1 (c0.2.2.1 hk0) (by omega) (by omega) (fun a0 => ?_) (fun b0 => ?_)
    · rw [if_pos (nm_y (x := 4) (by omega) a0)] at ho
      refine e_if_eq (pc := 20) (tgt := 29) dX4_tellLine_20 (by decide) (fun h20 => absurd h20 (by decide)) (fun h20 => ?_)
      refine e_aload_n (pc := 23) (i := 0) dX4_tellLine_23 rfl rfl ?_
      refine e_aload_n (pc := 24) (i := 1) dX4_tellLine_24 rfl rfl ?_
      refine e_callV1 (pc := 25) (M' := mX4_tellCount) dX4_tellLine_25 iX4_tellCount lkX4_64 (by decide) (rO_obj sh_25 rfl) (Nat.le_of_ble_eq_true rfl) (Nat.le_of_ble_eq_true rfl) ?_
      refine sp_tellCount ht hp h5 c0 hv hc9 hr h4 ho (fun c s S1 e f g => ?_) (fun R1 cd1 p1 S1 e1 e2 e3 e4 e5 e6 e7 e8 e9 e10 => ?_)
      · exact e_iret (pc := 28) (st := []) (ty := .boolean) dX4_tellLine_28 rfl rfl (kF c s S1 e f g)
      · exact e_iret (pc := 28) (st := []) (ty := .boolean) dX4_tellLine_28 rfl rfl (kO R1 cd1 p1 S1 e1 e2 e3 e4 e5 e6 e7 e8 e9 e10)
    · refine e_if_eq (pc := 20) (tgt := 29) dX4_tellLine_20 (by decide) (fun h20 => ?_) (fun h20 => absurd rfl h20)
      refine e_aload_n (pc := 29) (i := 0) dX4_tellLine_29 rfl rfl ?_
      refine e_callV0 (pc := 30) (M' := mX4_kindNamed) dX4_tellLine_30 iX4_kindNamed lkX4_67 (by decide) (rO_obj sh_25 rfl) (Nat.le_of_ble_eq_true rfl) (Nat.le_of_ble_eq_true rfl) ?_
      refine sp_kindNamed ht c0.2.1 (c0.2.2.1 hk0) (by omega) (by omega) (fun x hx ax => ?_) (fun b1 b2 b3 b4 => ?_)
      · have hnm := nm_y (show x < 5 by omega) ax
        rw [hnm, if_neg (by omega), if_pos hx] at ho
        have hx4 : ¬ nI x = -4 := fun q => absurd (show nI x < 0 by rw [q]; decide) (nI_pos (by omega))
        refine e_istore_n (pc := 33) (i := 2) dX4_tellLine_33 rfl (by decide) rfl ?_
        refine e_iload_n (pc := 34) (i := 2) dX4_tellLine_34 rfl rfl ?_
        refine e_bipush' (pc := 35) (-4) dX4_tellLine_35 (by decide) ?_
        refine e_icmp_ne (pc := 37) (tgt := 48) dX4_tellLine_37 (by decide) (fun h37 => ?_) (fun h37 => absurd h37 hx4)
        refine e_aload_n (pc := 48) (i := 0) dX4_tellLine_48 rfl rfl ?_
        refine e_aload_n (pc := 49) (i := 1) dX4_tellLine_49 rfl rfl ?_
        refine e_iload_n (pc := 50) (i := 2) dX4_tellLine_50 rfl rfl ?_
        refine e_callV2 (pc := 51) (M' := mX4_tellWheel) dX4_tellLine_51 iX4_tellWheel lkX4_71 (by decide) (rO_obj sh_25 rfl) (Nat.le_of_ble_eq_true rfl) (Nat.le_of_ble_eq_true rfl) ?_
        refine sp_tellWheel (x := x) ht hp h5 c0 hv hc9 hr h4 hx ho (fun c s S1 e f g => ?_) (fun R1 cd1 p1 S1 e1 e2 e3 e4 e5 e6 e7 e8 e9 e10 => ?_)
        · exact e_iret (pc := 54) (st := []) (ty := .boolean) dX4_tellLine_54 rfl rfl (kF c s S1 e f g)
        · exact e_iret (pc := 54) (st := []) (ty := .boolean) dX4_tellLine_54 rfl rfl (kO R1 cd1 p1 S1 e1 e2 e3 e4 e5 e6 e7 e8 e9 e10)
      · have hnm := nm_n (tp := tp) (s := tst N tp p) (e := te N tp p) (fun x hx => by rcases (show x = 0 ∨ x = 1 ∨ x = 2 ∨ x = 3 ∨ x = 4 by omega) with rfl | rfl | rfl | rfl | rfl <;> assumption)
        rw [hnm, if_neg (by omega), if_neg (by omega)] at ho
        subst ho
        refine e_istore_n (pc := 33) (i := 2) dX4_tellLine_33 rfl (by decide) rfl ?_
        refine e_iload_n (pc := 34) (i := 2) dX4_tellLine_34 rfl rfl ?_
        refine e_bipush' (pc := 35) (-4) dX4_tellLine_35 (by decide) ?_
        refine e_icmp_ne (pc := 37) (tgt := 48) dX4_tellLine_37 (by decide) (fun h37 => absurd rfl h37) (fun h37 => ?_)
        refine e_aload_n (pc := 40) (i := 0) dX4_tellLine_40 rfl rfl ?_
        refine e_iconst' (pc := 41) (nI 2) dX4_tellLine_41 (by decide) ?_
        refine e_callV1 (pc := 42) (M' := mX4_fail) dX4_tellLine_42 iX4_fail lkX4_54 (by decide) (rO_obj sh_25 rfl) (Nat.le_of_ble_eq_true rfl) (Nat.le_of_ble_eq_true rfl) ?_
        refine sp_failC (s := tst N tp p) c0.2.1 ?_
        refine e_goto (pc := 45) (tgt := 54) dX4_tellLine_45 (by decide) ?_
        exact e_iret (pc := 54) (st := []) (ty := .boolean) dX4_tellLine_54 rfl rfl (kF 2 _ _ rfl ((FrL.rf.up (by decide)).up (by decide)) ⟨rfl, rfl⟩)
  · replace h5 := mt (nI_eq (by omega) (by omega)).mpr h5
    rw [if_neg h5] at ho
    subst ho
    refine e_aload_n (pc := 8) (i := 0) dX4_tellLine_8 rfl rfl ?_
    refine e_iconst' (pc := 9) (nI 2) dX4_tellLine_9 (by decide) ?_
    refine e_callV1 (pc := 10) (M' := mX4_fail) dX4_tellLine_10 iX4_fail lkX4_54 (by decide) (rO_obj sh_25 rfl) (Nat.le_of_ble_eq_true rfl) (Nat.le_of_ble_eq_true rfl) ?_
    refine sp_failC (s := tst N tp p) c0.2.1 ?_
    refine e_iret (pc := 13) (st := []) (ty := .boolean) dX4_tellLine_13 rfl rfl ?_
    exact kF 2 _ _ rfl ((FrL.rf.up (by decide)).up (by decide)) ⟨rfl, rfl⟩
def psT (N : Nat) (tp : Nat → Nat) : Nat → Nat → Nat → Bool → Rw → (Nat × Nat) ⊕ (Nat × Rw)
  | 0, _, L, _, R => .inr (L, R)
  | t + 1, p, L, cd, R => if tk N tp p = 4 then .inl (1, tst N tp p) else if tk N tp p = 0 then .inr (L, R) else match ln N tp R cd p with
    | .inl f => .inl f
    | .inr (R', cd', p') => psT N tp t p' (L + 1) cd' R'
def FrT (S S' : PS) : Prop := ∀ j, j ≠ 25 → (j < 6 ∨ 11 ≤ j) → S'.1 j = S.1 j
theorem FrT.n {S S1 S2 : PS} (h : FrT S S1) (h2 : FrN S1 S2) : FrT S S2 := fun j a b => (h2.1 j a).trans (h j a b)
theorem FrT.l {S S1 S2 : PS} (h : FrT S S1) (h2 : FrL S1 S2) : FrT S S2 := fun j a b => (h2.1 j a b).trans (h j a b)
theorem FrT.up {S S1 : PS} {k : Nat} {v : Int32} (h : FrT S S1) : FrT S (up2 S1.1 25 k v, S1.2) := fun j a b => (up2_ne _ _ _ a).trans (h j a b)
theorem lp_tell {sc : PSc} {N : Nat} {tp : Nat → Nat} {S0 : PS} {Q : PQ} (ht : TpC S0 N tp) {ou : (Nat × Nat) ⊕ (Nat × Rw)} (kF : ∀ c s S', ou = .inl (c, s) → FrT S0 S' → FailC S' c s → Q (some (.int (nI 0))) S') (kO : ∀ L' R' S', ou = .inr (L', R') → FrT S0 S' → RowAt S' 6 R' → Vd R' → R' 21 ≤ 99 → S'.1 25 3 = nI L' → S'.1 25 1 = nI 0 → Q (some (.int (nI 1))) S') : ∀ (n : Nat) (i p L : Nat) (cd : Bool) (R : Rw) (S : PS), i ≤ p → p ≤ N → N - p < n → FrT S0 S → S.1 25 7 = nI p → S.1 25 3 = nI L → S.1 25 4 = nI (if cd then 1 else 0) → S.1 25 1 = nI 0 → Vd R → R 21 ≤ 99 → RowAt S 6 R → psT N tp n p L cd R = ou → E sc mX4_tell 32 [.ref 25, .ref 6, .int (nI i)] [] S Q := by
  intro n
  induction n with
  | zero => intro i p L cd R S hi hp hn hf h7 h3 h4 h1 hv hc9 hr ho; exact absurd hn (by omega)
  | succ n ih =>
    intro i p L cd R S hi hp hn hf h7 h3 h4 h1 hv hc9 hr ho
    have hN := ht.1
    have ht := ht.of (hf 23 (by omega) (by omega)) (hf 24 (by omega) (by omega))
    have htk := tk_le (N := N) (tp := tp) (p := p)
    rw [psT] at ho
    refine e_iload_n (pc := 32) (i := 2) dX4_tell_32 rfl rfl ?_
    refine e_aload_n (pc := 33) (i := 0) dX4_tell_33 rfl rfl ?_
    refine e_getR (pc := 34) dX4_tell_34 (fX4_12 rfl) sh_25 rfl ?_
    refine e_getI (pc := 37) dX4_tell_37 (fX4_40 rfl) sh_23 rfl ?_
    refine E.it (nI N) ht.2.1 ?_
    refine e_icmp_gt (pc := 40) (tgt := 87) dX4_tell_40 (by decide) (fun h40 => absurd ((nI_ltI (by omega) (by omega)).mp h40) (by omega)) (fun h40 => ?_)
    replace h40 := mt (nI_ltI (by omega) (by omega)).mpr h40
    refine e_aload_n (pc := 43) (i := 0) dX4_tell_43 rfl rfl ?_
    refine e_callV0 (pc := 44) (M' := mX4_nextToken) dX4_tell_44 iX4_nextToken lkX4_43 (by decide) (rO_obj sh_25 rfl) (Nat.le_of_ble_eq_true rfl) (Nat.le_of_ble_eq_true rfl) ?_
    refine sp_nextToken ht hp h7 (fun k4 S1 f1 g1 => ?_) (fun k4 S1 f1 g1 c1 => ?_)
    · rw [if_pos k4] at ho
      subst ho
      refine e_if_ne (pc := 47) (tgt := 52) dX4_tell_47 (by decide) (fun h47 => absurd rfl h47) (fun h47 => ?_)
      refine e_iconst' (pc := 50) (nI 0) dX4_tell_50 (by decide) ?_
      refine e_iret (pc := 51) (st := []) (ty := .boolean) dX4_tell_51 rfl rfl ?_
      exact kF 1 _ S1 rfl (hf.n f1) g1
    · rw [if_neg k4] at ho
      refine e_if_ne (pc := 47) (tgt := 52) dX4_tell_47 (by decide) (fun h47 => ?_) (fun h47 => absurd h47 (by decide))
      refine e_aload_n (pc := 52) (i := 0) dX4_tell_52 rfl rfl ?_
      refine e_getI (pc := 53) dX4_tell_53 (fX4_47 rfl) sh_25 rfl ?_
      refine E.it (nI (tk N tp p)) c1.1 ?_
      refine e_if_ne (pc := 56) (tgt := 61) dX4_tell_56 (by decide) (fun h56 => ?_) (fun h56 => ?_)
      · rw [← nI_0] at h56
        replace h56 := mt (nI_eq (by omega) (by omega)).mpr h56
        rw [if_neg h56] at ho
        refine e_aload_n (pc := 61) (i := 0) dX4_tell_61 rfl rfl ?_
        refine e_aload_n (pc := 62) (i := 1) dX4_tell_62 rfl rfl ?_
        refine e_callV1 (pc := 63) (M' := mX4_tellLine) dX4_tell_63 iX4_tellLine lkX4_50 (by decide) (rO_obj sh_25 rfl) (Nat.le_of_ble_eq_true rfl) (Nat.le_of_ble_eq_true rfl) ?_
        refine sp_tellLine (ou := ln N tp R cd p) (ht.n f1) hp h56 k4 c1 hv hc9 (hr.n f1.1) (f1.2.2.trans h4) rfl (fun c s S2 e f g => ?_) (fun R1 cd1 p1 S2 e1 e2 e3 e4 e5 e6 e7 e8 e9 e10 => ?_)
        · rw [e] at ho
          subst ho
          refine e_if_ne (pc := 66) (tgt := 71) dX4_tell_66 (by decide) (fun h66 => absurd rfl h66) (fun h66 => ?_)
          refine e_iconst' (pc := 69) (nI 0) dX4_tell_69 (by decide) ?_
          refine e_iret (pc := 70) (st := []) (ty := .boolean) dX4_tell_70 rfl rfl ?_
          exact kF c s S2 rfl ((hf.n f1).l f) g
        · rw [e1] at ho
          refine e_if_ne (pc := 66) (tgt := 71) dX4_tell_66 (by decide) (fun h66 => ?_) (fun h66 => absurd h66 (by decide))
          refine e_aload_n (pc := 71) (i := 0) dX4_tell_71 rfl rfl ?_
          refine e_dup (pc := 72) dX4_tell_72 rfl ?_
          refine e_getI (pc := 73) dX4_tell_73 (fX4_30 rfl) sh_25 rfl ?_
          refine E.it (nI L) (e2.2.trans (f1.2.1.trans h3)) ?_
          refine e_iconst' (pc := 76) (nI 1) dX4_tell_76 (by decide) ?_
          refine e_iadd (pc := 77) dX4_tell_77 ?_
          refine E.it (nI (L + 1)) (nI_add _ _) ?_
          refine e_putI (pc := 78) dX4_tell_78 (pX4_30 rfl) sh_25 rfl (fun h => by cases h) ?_
          refine e_iinc' (pc := 81) (nI (i + 1)) dX4_tell_81 rfl (by decide) rfl (nI_1 _) ?_
          refine e_goto (pc := 84) (tgt := 32) dX4_tell_84 (by decide) ?_
          exact ih (i + 1) p1 (L + 1) cd1 R1 _ (by omega) e10 (by omega) (((hf.n f1).l e2).up) e8 rfl e7 (e3.trans (g1.trans h1)) e5 e6 (e4.n (fun j hj => up2_ne _ _ _ hj)) ho
      · rw [← nI_0] at h56
        replace h56 := (nI_eq (by omega) (by omega)).mp h56
        rw [if_pos h56] at ho
        subst ho
        refine e_iconst' (pc := 59) (nI 1) dX4_tell_59 (by decide) ?_
        refine e_iret (pc := 60) (st := []) (ty := .boolean) dX4_tell_60 rfl rfl ?_
        exact kO L R S1 rfl (hf.n f1) (hr.n f1.1) hv hc9 (f1.2.1.trans h3) (g1.trans h1)
def R0 : Rw := fun _ => 0
theorem R0_vd : Vd R0 := ⟨Nat.zero_le _, fun w hw => absurd hw (Nat.not_lt_zero w)⟩
theorem sp_tell {sc : PSc} {N : Nat} {tp : Nat → Nat} {S0 : PS} {Q : PQ} (ht : TpC S0 N tp) {ou : (Nat × Nat) ⊕ (Nat × Rw)} (ho : psT N tp (N + 1) 0 0 false R0 = ou) (kF : ∀ c s S', ou = .inl (c, s) → FrT S0 S' → FailC S' c s → Q (some (.int (nI 0))) S') (kO : ∀ L' R' S', ou = .inr (L', R') → FrT S0 S' → RowAt S' 6 R' → Vd R' → R' 21 ≤ 99 → S'.1 25 3 = nI L' → S'.1 25 1 = nI 0 → Q (some (.int (nI 1))) S') : E sc mX4_tell 0 (pL0 mX4_tell [.ref 25, .ref 6]) [] S0 Q := by
  show E sc mX4_tell 0 [.ref 25, .ref 6, .null] [] S0 Q
  refine e_aload_n (pc := 0) (i := 1) dX4_tell_0 rfl rfl ?_
  refine e_iconst' (pc := 1) (nI 0) dX4_tell_1 (by decide) ?_
  refine e_putI (pc := 2) dX4_tell_2 (pX4_22 rfl) (rI_sh r6) rfl (fun h => by cases h) ?_
  refine e_aload_n (pc := 5) (i := 1) dX4_tell_5 rfl rfl ?_
  refine e_iconst' (pc := 6) (nI 0) dX4_tell_6 (by decide) ?_
  refine e_putI (pc := 7) dX4_tell_7 (pX4_27 rfl) (rI_sh r6) rfl (fun h => by cases h) ?_
  refine e_aload_n (pc := 10) (i := 0) dX4_tell_10 rfl rfl ?_
  refine e_iconst' (pc := 11) (nI 0) dX4_tell_11 (by decide) ?_
  refine e_putI (pc := 12) dX4_tell_12 (pX4_18 rfl) sh_25 rfl (fun h => by cases h) ?_
  refine e_aload_n (pc := 15) (i := 0) dX4_tell_15 rfl rfl ?_
  refine e_iconst' (pc := 16) (nI 0) dX4_tell_16 (by decide) ?_
  refine e_putI (pc := 17) dX4_tell_17 (pX4_30 rfl) sh_25 rfl (fun h => by cases h) ?_
  refine e_aload_n (pc := 20) (i := 0) dX4_tell_20 rfl rfl ?_
  refine e_iconst' (pc := 21) (nI 0) dX4_tell_21 (by decide) ?_
  refine e_putI (pc := 22) dX4_tell_22 (pX4_33 rfl) sh_25 rfl (fun _ => by decide) ?_
  refine e_aload_n (pc := 25) (i := 0) dX4_tell_25 rfl rfl ?_
  refine e_iconst' (pc := 26) (nI 0) dX4_tell_26 (by decide) ?_
  refine e_putI (pc := 27) dX4_tell_27 (pX4_37 rfl) sh_25 rfl (fun h => by cases h) ?_
  refine e_iconst' (pc := 30) (nI 0) dX4_tell_30 (by decide) ?_
  refine e_istore_n (pc := 31) (i := 2) dX4_tell_31 rfl (by decide) rfl ?_
  refine lp_tell (S0 := S0) ht kF kO (N + 1) 0 0 0 false R0 _ (by omega) (by omega) (by omega) ?_ rfl rfl rfl rfl R0_vd (Nat.zero_le _) ⟨rfl, rfl, fun w hw => absurd hw (Nat.not_lt_zero w)⟩ ho
  refine FrT.up (FrT.up (FrT.up (FrT.up (fun j a b => ?_))))
  exact (up2_ne _ _ _ (by omega)).trans (up2_ne _ _ _ (by omega))

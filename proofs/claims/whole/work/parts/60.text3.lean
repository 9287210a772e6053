def FrM (S S' : PS) : Prop := (∀ j, j ≠ 54 → S'.1 j = S.1 j) ∧ ∀ k, (k < 6 ∨ 12 ≤ k) → S'.1 54 k = S.1 54 k
theorem FrM.rf {S : PS} : FrM S S := ⟨fun _ _ => rfl, fun _ _ => rfl⟩
theorem FrM.tr {S S1 S2 : PS} (h : FrM S S1) (h2 : FrM S1 S2) : FrM S S2 := ⟨fun j a => (h2.1 j a).trans (h.1 j a), fun k a => (h2.2 k a).trans (h.2 k a)⟩
theorem FrM.up {S S1 : PS} {k : Nat} {v : Int32} (h : FrM S S1) (h1 : 6 ≤ k) (h2 : k < 12) : FrM S (up2 S1.1 54 k v, S1.2) := by
  refine ⟨fun j a => (up2_ne _ _ _ a).trans (h.1 j a), fun q a => ?_⟩
  show up2 S1.1 54 k v 54 q = _; rw [up2_at]; exact (if_neg (by omega)).trans (h.2 q a)
theorem TpM.m {S S' : PS} {N : Nat} {tp : Nat → Nat} (h : TpM S N tp) (hf : FrM S S') : TpM S' N tp := h.of (hf.2 4 (by omega)) (hf.1 57 (by decide))
def BadM (S : PS) (c s : Nat) : Prop := S.1 54 6 = nI c ∧ S.1 54 7 = nI s
def CurM (S : PS) (N : Nat) (tp : Nat → Nat) (p : Nat) : Prop := tk N tp p ≠ 4 ∧ S.1 54 6 = nI 0 ∧ (tk N tp p ≠ 0 → S.1 54 8 = nI (te N tp p)) ∧ S.1 54 9 = nI (tst N tp p) ∧ S.1 54 10 = nI (tk N tp p) ∧ (tk N tp p = 2 → S.1 54 11 = nI (tv N tp p))
def Aft (S : PS) (N : Nat) (tp : Nat → Nat) (p : Nat) : Prop := (tk N tp p = 4 ∧ BadM S 1 (tst N tp p)) ∨ CurM S N tp p
theorem sp_inC {sc : PSc} {S : PS} {Q : PQ} {c lo hi : Nat} {A B : Int64} (hA : A.toInt = lo) (hB : B.toInt = hi) (hc : c < 2 ^ 31) (k1 : lo ≤ c → c ≤ hi → Q (some (.int (nI 1))) S) (k0 : ¬ (lo ≤ c ∧ c ≤ hi) → Q (some (.int (nI 0))) S) : E sc mX6_in 0 (pL0 mX6_in [.long (nI c).toInt64, .long A, .long B]) [] S Q := by
  refine sp_inI (lo := lo) (hi := (hi : Int)) hA hB (fun b hb e h1 h2 => ?_) (fun h => k0 (fun q => h c hc rfl q.1 (by omega)))
  rw [nI_eq hc hb] at e
  subst e
  exact k1 h1 (by omega)
theorem sp_inM {sc : PSc} {S : PS} {Q : PQ} {lo hi : Nat} {A B : Int64} (hA : A.toInt = lo) (hB : B.toInt = hi) (k0 : Q (some (.int (nI 0))) S) : E sc mX6_in 0 (pL0 mX6_in [.long (-4 : Int32).toInt64, .long A, .long B]) [] S Q := by
  refine sp_inI (lo := lo) (hi := (hi : Int)) hA hB (fun b hb e h1 h2 => ?_) (fun h => k0)
  exact absurd (show nI b < 0 by rw [← e]; decide) (nI_pos hb)
theorem nn4 {c : Nat} (h : c < 2 ^ 31) : ¬ nI c = -4 := fun q => absurd (show nI c < 0 by rw [q]; decide) (nI_pos h)
theorem sp_byteAt {sc : PSc} {N : Nat} {tp : Nat → Nat} {S : PS} {Q : PQ} (ht : TpM S N tp) {q : Nat} (hq : q < 2 ^ 31) (k1 : q < N → tp q < 128 → Q (some (.int (nI (tp q)))) S) (k0 : ¬ q < N → Q (some (.int (-4))) S) : E sc mX6_byteAt 0 (pL0 mX6_byteAt [.ref 54, .int (nI q)]) [] S Q := by
  show E sc mX6_byteAt 0 [.ref 54, .int (nI q)] [] S Q
  have hN := ht.1
  refine e_iload_n (pc := 0) (i := 1) dX6_byteAt_0 rfl rfl ?_
  refine e_aload_n (pc := 1) (i := 0) dX6_byteAt_1 rfl rfl ?_
  refine e_getI (pc := 2) dX6_byteAt_2 (fX6_50 rfl) sh_54 rfl ?_
  refine E.it (nI N) ht.2.1 ?_
  refine e_icmp_ge (pc := 5) (tgt := 17) dX6_byteAt_5 (by decide) (fun h5 => ?_) (fun h5 => ?_)
  · replace h5 := (nI_leI (by omega) (by omega)).mp h5
    refine e_bipush' (pc := 17) (-4) dX6_byteAt_17 (by decide) ?_
    refine e_iret (pc := 19) (st := []) (ty := .int) dX6_byteAt_19 rfl rfl ?_
    exact k0 (by omega)
  · replace h5 := mt (nI_leI (by omega) (by omega)).mpr h5
    refine e_aload_n (pc := 8) (i := 0) dX6_byteAt_8 rfl rfl ?_
    refine e_getR (pc := 9) dX6_byteAt_9 (fX6_16 rfl) sh_54 rfl ?_
    refine e_iload_n (pc := 12) (i := 1) dX6_byteAt_12 rfl rfl ?_
    refine e_iald (pc := 13) dX6_byteAt_13 sh_57 (vp_in_nI (by omega) (by omega)) ?_
    refine E.it (nI (tp q)) (by rw [nI_clamp hq]; exact (ht.2.2 q (by omega)).2) ?_
    refine e_goto (pc := 14) (tgt := 19) dX6_byteAt_14 (by decide) ?_
    refine e_iret (pc := 19) (st := []) (ty := .int) dX6_byteAt_19 rfl rfl ?_
    exact k1 (by omega) (ht.2.2 q (by omega)).1
theorem sp_fails {sc : PSc} {c s : Nat} {S : PS} {Q : PQ} (h6 : S.1 54 6 = nI 0) (h9 : S.1 54 9 = nI s) (k : Q none (up2 (up2 S.1 54 6 (nI c)) 54 7 (nI s), S.2)) : E sc mX6_fails 0 (pL0 mX6_fails [.ref 54, .int (nI c)]) [] S Q := by
  show E sc mX6_fails 0 [.ref 54, .int (nI c)] [] S Q
  refine e_aload_n (pc := 0) (i := 0) dX6_fails_0 rfl rfl ?_
  refine e_getI (pc := 1) dX6_fails_1 (fX6_54 rfl) sh_54 rfl ?_
  refine E.it (nI 0) h6 ?_
  refine e_if_ne (pc := 4) (tgt := 20) dX6_fails_4 (by decide) (fun h4 => absurd (by decide) h4) (fun h4 => ?_)
  refine e_aload_n (pc := 7) (i := 0) dX6_fails_7 rfl rfl ?_
  refine e_iload_n (pc := 8) (i := 1) dX6_fails_8 rfl rfl ?_
  refine e_putI (pc := 9) dX6_fails_9 (pX6_54 rfl) sh_54 rfl (fun h => by cases h) ?_
  refine e_aload_n (pc := 12) (i := 0) dX6_fails_12 rfl rfl ?_
  refine e_aload_n (pc := 13) (i := 0) dX6_fails_13 rfl rfl ?_
  refine e_getI (pc := 14) dX6_fails_14 (fX6_57 rfl) sh_54 rfl ?_
  refine E.it (nI s) h9 ?_
  refine e_putI (pc := 17) dX6_fails_17 (pX6_60 rfl) sh_54 rfl (fun h => by cases h) ?_
  refine e_vret (pc := 20) (st := []) dX6_fails_20 rfl ?_
  exact k
theorem lm_skip {sc : PSc} {N : Nat} {tp : Nat → Nat} {S0 : PS} {Q : PQ} (ht : TpM S0 N tp) {p : Nat} (k : ∀ S', S'.1 54 8 = nI (tst N tp p) → (∀ j, j ≠ 54 → S'.1 j = S0.1 j) → (∀ k, k ≠ 8 → S'.1 54 k = S0.1 54 k) → E sc mX6_step 34 [.ref 54, .null] [] S' Q) : ∀ (n : Nat) (q : Nat) (S : PS), q ≤ N → N - q < n → rn N (inB tp 32 32) p = rn N (inB tp 32 32) q → S.1 54 8 = nI q → (∀ j, j ≠ 54 → S.1 j = S0.1 j) → (∀ k, k ≠ 8 → S.1 54 k = S0.1 54 k) → E sc mX6_step 8 [.ref 54, .null] [] S Q := by
  intro n
  induction n with
  | zero => intro q S hq hn he h8 hf hg; exact absurd hn (by omega)
  | succ n ih =>
    intro q S hq hn he h8 hf hg
    have hN := ht.1
    have ht := ht.of (hg 4 (by omega)) (hf 57 (by omega))
    refine e_aload_n (pc := 8) (i := 0) dX6_step_8 rfl rfl ?_
    refine e_aload_n (pc := 9) (i := 0) dX6_step_9 rfl rfl ?_
    refine e_getI (pc := 10) dX6_step_10 (fX6_66 rfl) sh_54 rfl ?_
    refine E.it (nI q) h8 ?_
    refine e_callV1 (pc := 13) (M' := mX6_byteAt) dX6_step_13 iX6_byteAt lkX6_69 (by decide) (rO_obj sh_54 rfl) (Nat.le_of_ble_eq_true rfl) (Nat.le_of_ble_eq_true rfl) ?_
    refine sp_byteAt ht (q := q) (by omega) (fun b1 b2 => ?_) (fun b0 => ?_)
    · refine e_bipush' (pc := 16) (nI 32) dX6_step_16 (by decide) ?_
      refine e_icmp_ne (pc := 18) (tgt := 34) dX6_step_18 (by decide) (fun h18 => ?_) (fun h18 => ?_)
      · replace h18 := mt (nI_eq (by omega) (by omega)).mpr h18
        rw [rn_n (p := q) (fun _ => inB_n (by omega))] at he
        exact k S (h8.trans (congrArg nI he.symm)) hf hg
      · replace h18 := (nI_eq (by omega) (by omega)).mp h18
        rw [rn_y (p := q) (by omega) (inB_y (by omega) (by omega))] at he
        refine e_aload_n (pc := 21) (i := 0) dX6_step_21 rfl rfl ?_
        refine e_dup (pc := 22) dX6_step_22 rfl ?_
        refine e_getI (pc := 23) dX6_step_23 (fX6_66 rfl) sh_54 rfl ?_
        refine E.it (nI q) h8 ?_
        refine e_iconst' (pc := 26) (nI 1) dX6_step_26 (by decide) ?_
        refine e_iadd (pc := 27) dX6_step_27 ?_
        refine E.it (nI (q + 1)) (nI_add _ _) ?_
        refine e_putI (pc := 28) dX6_step_28 (pX6_66 rfl) sh_54 rfl (fun h => by cases h) ?_
        refine e_goto (pc := 31) (tgt := 8) dX6_step_31 (by decide) ?_
        exact ih (q + 1) _ (by omega) (by omega) he rfl (fun j a => (up2_ne _ _ _ a).trans (hf j a)) (fun k a => by show up2 S.1 54 8 _ 54 k = _; rw [up2_at]; exact (if_neg a).trans (hg k a))
    · rw [rn_n (p := q) (by omega)] at he
      refine e_bipush' (pc := 16) (nI 32) dX6_step_16 (by decide) ?_
      refine e_icmp_ne (pc := 18) (tgt := 34) dX6_step_18 (by decide) (fun h18 => ?_) (fun h18 => absurd h18 (by decide))
      exact k S (h8.trans (congrArg nI he.symm)) hf hg
theorem lm_lets {sc : PSc} {N : Nat} {tp : Nat → Nat} {S0 : PS} {Q : PQ} (ht : TpM S0 N tp) {s : Nat} {x : Int32} (k : ∀ S', S'.1 54 8 = nI (rn N (inB tp 97 122) s) → (∀ j, j ≠ 54 → S'.1 j = S0.1 j) → (∀ k, k ≠ 8 → S'.1 54 k = S0.1 54 k) → E sc mX6_step 118 [.ref 54, .int x] [] S' Q) : ∀ (n : Nat) (q : Nat) (S : PS), q ≤ N → N - q < n → rn N (inB tp 97 122) s = rn N (inB tp 97 122) q → S.1 54 8 = nI q → (∀ j, j ≠ 54 → S.1 j = S0.1 j) → (∀ k, k ≠ 8 → S.1 54 k = S0.1 54 k) → E sc mX6_step 84 [.ref 54, .int x] [] S Q := by
  intro n
  induction n with
  | zero => intro q S hq hn he h8 hf hg; exact absurd hn (by omega)
  | succ n ih =>
    intro q S hq hn he h8 hf hg
    have hN := ht.1
    have ht := ht.of (hg 4 (by omega)) (hf 57 (by omega))
    refine e_aload_n (pc := 84) (i := 0) dX6_step_84 rfl rfl ?_
    refine e_aload_n (pc := 85) (i := 0) dX6_step_85 rfl rfl ?_
    refine e_getI (pc := 86) dX6_step_86 (fX6_66 rfl) sh_54 rfl ?_
    refine E.it (nI q) h8 ?_
    refine e_callV1 (pc := 89) (M' := mX6_byteAt) dX6_step_89 iX6_byteAt lkX6_69 (by decide) (rO_obj sh_54 rfl) (Nat.le_of_ble_eq_true rfl) (Nat.le_of_ble_eq_true rfl) ?_
    refine sp_byteAt ht (q := q) (by omega) (fun b1 b2 => ?_) (fun b0 => ?_)
    · refine e_i2l (pc := 92) dX6_step_92 ?_
      refine e_ldc2 (pc := 93) dX6_step_93 (klX6_76 rfl) ?_
      refine e_ldc2 (pc := 96) dX6_step_96 (klX6_78 rfl) ?_
      refine e_callS3 (pc := 99) (M' := mX6_in) dX6_step_99 jX6_in lkX6_46 (by decide) (Nat.le_of_ble_eq_true rfl) (Nat.le_of_ble_eq_true rfl) ?_
      refine sp_inC (lo := 97) (hi := 122) (by decide) (by decide) (by omega) (fun z1 z2 => ?_) (fun z => ?_)
      · rw [rn_y (p := q) (by omega) (inB_y z1 z2)] at he
        refine e_if_eq (pc := 102) (tgt := 118) dX6_step_102 (by decide) (fun h102 => absurd h102 (by decide)) (fun h102 => ?_)
        refine e_aload_n (pc := 105) (i := 0) dX6_step_105 rfl rfl ?_
        refine e_dup (pc := 106) dX6_step_106 rfl ?_
        refine e_getI (pc := 107) dX6_step_107 (fX6_66 rfl) sh_54 rfl ?_
        refine E.it (nI q) h8 ?_
        refine e_iconst' (pc := 110) (nI 1) dX6_step_110 (by decide) ?_
        refine e_iadd (pc := 111) dX6_step_111 ?_
        refine E.it (nI (q + 1)) (nI_add _ _) ?_
        refine e_putI (pc := 112) dX6_step_112 (pX6_66 rfl) sh_54 rfl (fun h => by cases h) ?_
        refine e_goto (pc := 115) (tgt := 84) dX6_step_115 (by decide) ?_
        exact ih (q + 1) _ (by omega) (by omega) he rfl (fun j a => (up2_ne _ _ _ a).trans (hf j a)) (fun k a => by show up2 S.1 54 8 _ 54 k = _; rw [up2_at]; exact (if_neg a).trans (hg k a))
      · rw [rn_n (p := q) (fun _ => inB_n z)] at he
        refine e_if_eq (pc := 102) (tgt := 118) dX6_step_102 (by decide) (fun h102 => ?_) (fun h102 => absurd rfl h102)
        exact k S (h8.trans (congrArg nI he.symm)) hf hg
    · rw [rn_n (p := q) (by omega)] at he
      refine e_i2l (pc := 92) dX6_step_92 ?_
      refine e_ldc2 (pc := 93) dX6_step_93 (klX6_76 rfl) ?_
      refine e_ldc2 (pc := 96) dX6_step_96 (klX6_78 rfl) ?_
      refine e_callS3 (pc := 99) (M' := mX6_in) dX6_step_99 jX6_in lkX6_46 (by decide) (Nat.le_of_ble_eq_true rfl) (Nat.le_of_ble_eq_true rfl) ?_
      refine sp_inM (lo := 97) (hi := 122) (by decide) (by decide) ?_
      refine e_if_eq (pc := 102) (tgt := 118) dX6_step_102 (by decide) (fun h102 => ?_) (fun h102 => absurd (by decide) h102)
      exact k S (h8.trans (congrArg nI he.symm)) hf hg
theorem lm_figs {sc : PSc} {N : Nat} {tp : Nat → Nat} {S0 : PS} {Q : PQ} (ht : TpM S0 N tp) {s : Nat} {x : Int32} (h9 : S0.1 54 9 = nI s) (k : ∀ S', S'.1 54 8 = nI (rn N (inB tp 48 57) s) → S'.1 54 11 = nI (fv tp s (min (rn N (inB tp 48 57) s - s) 2)) → (∀ j, j ≠ 54 → S'.1 j = S0.1 j) → (∀ k, k ≠ 8 → k ≠ 11 → S'.1 54 k = S0.1 54 k) → E sc mX6_step 217 [.ref 54, .int x] [] S' Q) : ∀ (n : Nat) (q : Nat) (S : PS), q ≤ N → N - q < n → s ≤ q → rn N (inB tp 48 57) s = rn N (inB tp 48 57) q → S.1 54 8 = nI q → S.1 54 11 = nI (fv tp s (min (q - s) 2)) → (∀ j, j ≠ 54 → S.1 j = S0.1 j) → (∀ k, k ≠ 8 → k ≠ 11 → S.1 54 k = S0.1 54 k) → E sc mX6_step 140 [.ref 54, .int x] [] S Q := by
  intro n
  induction n with
  | zero => intro q S hq hn hsq he h8 h11 hf hg; exact absurd hn (by omega)
  | succ n ih =>
    intro q S hq hn hsq he h8 h11 hf hg
    have hN := ht.1
    have ht := ht.of (hg 4 (by omega) (by omega)) (hf 57 (by omega))
    refine e_aload_n (pc := 140) (i := 0) dX6_step_140 rfl rfl ?_
    refine e_aload_n (pc := 141) (i := 0) dX6_step_141 rfl rfl ?_
    refine e_getI (pc := 142) dX6_step_142 (fX6_66 rfl) sh_54 rfl ?_
    refine E.it (nI q) h8 ?_
    refine e_callV1 (pc := 145) (M' := mX6_byteAt) dX6_step_145 iX6_byteAt lkX6_69 (by decide) (rO_obj sh_54 rfl) (Nat.le_of_ble_eq_true rfl) (Nat.le_of_ble_eq_true rfl) ?_
    refine sp_byteAt ht (q := q) (by omega) (fun b1 b2 => ?_) (fun b0 => ?_)
    · refine e_i2l (pc := 148) dX6_step_148 ?_
      refine e_ldc2 (pc := 149) dX6_step_149 (klX6_80 rfl) ?_
      refine e_ldc2 (pc := 152) dX6_step_152 (klX6_82 rfl) ?_
      refine e_callS3 (pc := 155) (M' := mX6_in) dX6_step_155 jX6_in lkX6_46 (by decide) (Nat.le_of_ble_eq_true rfl) (Nat.le_of_ble_eq_true rfl) ?_
      refine sp_inC (lo := 48) (hi := 57) (by decide) (by decide) (by omega) (fun z1 z2 => ?_) (fun z => ?_)
      · rw [rn_y (p := q) (by omega) (inB_y z1 z2)] at he
        refine e_if_eq (pc := 158) (tgt := 217) dX6_step_158 (by decide) (fun h158 => absurd h158 (by decide)) (fun h158 => ?_)
        refine e_aload_n (pc := 161) (i := 0) dX6_step_161 rfl rfl ?_
        refine e_aload_n (pc := 162) (i := 0) dX6_step_162 rfl rfl ?_
        refine e_getI (pc := 163) dX6_step_163 (fX6_66 rfl) sh_54 rfl ?_
        refine E.it (nI q) h8 ?_
        refine e_aload_n (pc := 166) (i := 0) dX6_step_166 rfl rfl ?_
        refine e_getI (pc := 167) dX6_step_167 (fX6_57 rfl) sh_54 rfl ?_
        refine E.it (nI s) ((hg 9 (by omega) (by omega)).trans h9) ?_
        refine e_isub (pc := 170) dX6_step_170 ?_
        refine E.it (nI (q - s)) (pk_sub (by omega)) ?_
        refine e_iconst' (pc := 171) (nI 2) dX6_step_171 (by decide) ?_
        refine e_icmp_ge (pc := 172) (tgt := 197) dX6_step_172 (by decide) (fun h172 => ?_) (fun h172 => ?_)
        · replace h172 := (nI_leI (by omega) (by omega)).mp h172
          have em : min (q + 1 - s) 2 = min (q - s) 2 := by omega
          refine e_aload_n (pc := 197) (i := 0) dX6_step_197 rfl rfl ?_
          refine e_getI (pc := 198) dX6_step_198 (fX6_73 rfl) sh_54 rfl ?_
          refine E.it (nI (fv tp s (min (q - s) 2))) h11 ?_
          refine e_putI (pc := 201) dX6_step_201 (pX6_73 rfl) sh_54 rfl (fun h => by cases h) ?_
          refine e_aload_n (pc := 204) (i := 0) dX6_step_204 rfl rfl ?_
          refine e_dup (pc := 205) dX6_step_205 rfl ?_
          refine e_getI (pc := 206) dX6_step_206 (fX6_66 rfl) sh_54 rfl ?_
          refine E.it (nI q) h8 ?_
          refine e_iconst' (pc := 209) (nI 1) dX6_step_209 (by decide) ?_
          refine e_iadd (pc := 210) dX6_step_210 ?_
          refine E.it (nI (q + 1)) (nI_add _ _) ?_
          refine e_putI (pc := 211) dX6_step_211 (pX6_66 rfl) sh_54 rfl (fun h => by cases h) ?_
          refine e_goto (pc := 214) (tgt := 140) dX6_step_214 (by decide) ?_
          exact ih (q + 1) _ (by omega) (by omega) (by omega) he rfl (by rw [em]; rfl) (fun j a => (up2_ne _ _ _ a).trans ((up2_ne _ _ _ a).trans (hf j a))) (fun k a b => by show up2 (up2 S.1 54 11 _) 54 8 _ 54 k = _; rw [up2_at]; refine (if_neg a).trans ?_; show up2 S.1 54 11 _ 54 k = _; rw [up2_at]; exact (if_neg b).trans (hg k a b))
        · replace h172 := mt (nI_leI (by omega) (by omega)).mpr h172
          have em : min (q + 1 - s) 2 = q - s + 1 := by omega
          have em2 : min (q - s) 2 = q - s := by omega
          refine e_bipush' (pc := 175) (nI 10) dX6_step_175 (by decide) ?_
          refine e_aload_n (pc := 177) (i := 0) dX6_step_177 rfl rfl ?_
          refine e_getI (pc := 178) dX6_step_178 (fX6_73 rfl) sh_54 rfl ?_
          refine E.it (nI (fv tp s (min (q - s) 2))) h11 ?_
          refine e_imul (pc := 181) dX6_step_181 ?_
          refine E.it (nI (10 * (fv tp s (min (q - s) 2)))) (pk_mul _ _) ?_
          refine e_aload_n (pc := 182) (i := 0) dX6_step_182 rfl rfl ?_
          refine e_aload_n (pc := 183) (i := 0) dX6_step_183 rfl rfl ?_
          refine e_getI (pc := 184) dX6_step_184 (fX6_66 rfl) sh_54 rfl ?_
          refine E.it (nI q) h8 ?_
          refine e_callV1 (pc := 187) (M' := mX6_byteAt) dX6_step_187 iX6_byteAt lkX6_69 (by decide) (rO_obj sh_54 rfl) (Nat.le_of_ble_eq_true rfl) (Nat.le_of_ble_eq_true rfl) ?_
          refine sp_byteAt ht (q := q) (by omega) (fun _ _ => ?_) (fun b0 => absurd b1 b0)
          · refine e_iadd (pc := 190) dX6_step_190 ?_
            refine e_bipush' (pc := 191) (nI 48) dX6_step_191 (by decide) ?_
            refine e_isub (pc := 193) dX6_step_193 ?_
            refine E.it (nI (fv tp s (min (q + 1 - s) 2))) (by rw [em, fv, show s + (q - s) = q by omega, em2, nI_add]; exact pk_sub (by omega)) ?_
            refine e_goto (pc := 194) (tgt := 201) dX6_step_194 (by decide) ?_
            refine e_putI (pc := 201) dX6_step_201 (pX6_73 rfl) sh_54 rfl (fun h => by cases h) ?_
            refine e_aload_n (pc := 204) (i := 0) dX6_step_204 rfl rfl ?_
            refine e_dup (pc := 205) dX6_step_205 rfl ?_
            refine e_getI (pc := 206) dX6_step_206 (fX6_66 rfl) sh_54 rfl ?_
            refine E.it (nI q) h8 ?_
            refine e_iconst' (pc := 209) (nI 1) dX6_step_209 (by decide) ?_
            refine e_iadd (pc := 210) dX6_step_210 ?_
            refine E.it (nI (q + 1)) (nI_add _ _) ?_
            refine e_putI (pc := 211) dX6_step_211 (pX6_66 rfl) sh_54 rfl (fun h => by cases h) ?_
            refine e_goto (pc := 214) (tgt := 140) dX6_step_214 (by decide) ?_
            exact ih (q + 1) _ (by omega) (by omega) (by omega) he rfl rfl (fun j a => (up2_ne _ _ _ a).trans ((up2_ne _ _ _ a).trans (hf j a))) (fun k a b => by show up2 (up2 S.1 54 11 _) 54 8 _ 54 k = _; rw [up2_at]; refine (if_neg a).trans ?_; show up2 S.1 54 11 _ 54 k = _; rw [up2_at]; exact (if_neg b).trans (hg k a b))
      · rw [rn_n (p := q) (fun _ => inB_n z)] at he
        refine e_if_eq (pc := 158) (tgt := 217) dX6_step_158 (by decide) (fun h158 => ?_) (fun h158 => absurd rfl h158)
        exact k S (h8.trans (congrArg nI he.symm)) (h11.trans (by rw [he])) hf hg
    · rw [rn_n (p := q) (by omega)] at he
      refine e_i2l (pc := 148) dX6_step_148 ?_
      refine e_ldc2 (pc := 149) dX6_step_149 (klX6_80 rfl) ?_
      refine e_ldc2 (pc := 152) dX6_step_152 (klX6_82 rfl) ?_
      refine e_callS3 (pc := 155) (M' := mX6_in) dX6_step_155 jX6_in lkX6_46 (by decide) (Nat.le_of_ble_eq_true rfl) (Nat.le_of_ble_eq_true rfl) ?_
      refine sp_inM (lo := 48) (hi := 57) (by decide) (by decide) ?_
      refine e_if_eq (pc := 158) (tgt := 217) dX6_step_158 (by decide) (fun h158 => ?_) (fun h158 => absurd (by decide) h158)
      exact k S (h8.trans (congrArg nI he.symm)) (h11.trans (by rw [he])) hf hg
theorem sp_stepB {sc : PSc} {b : Nat} {S : PS} {Q : PQ} (h6 : S.1 54 6 = nI b) (hb : 0 < b) (hb8 : b < 8) (k : Q none S) : E sc mX6_step 0 (pL0 mX6_step [.ref 54]) [] S Q := by
  show E sc mX6_step 0 [.ref 54, .null] [] S Q
  refine e_aload_n (pc := 0) (i := 0) dX6_step_0 rfl rfl ?_
  refine e_getI (pc := 1) dX6_step_1 (fX6_54 rfl) sh_54 rfl ?_
  refine E.it (nI b) h6 ?_
  refine e_if_le (pc := 4) (tgt := 8) dX6_step_4 (by decide) (fun h4 => absurd h4 (nI_nle hb (by omega))) (fun h4 => ?_)
  refine e_vret (pc := 7) (st := []) dX6_step_7 rfl ?_
  exact k
theorem sp_stepG {sc : PSc} {N : Nat} {tp : Nat → Nat} {S : PS} {Q : PQ} (ht : TpM S N tp) {p : Nat} (hp : p ≤ N) (h6 : S.1 54 6 = nI 0) (h8 : S.1 54 8 = nI p) (k : ∀ S', FrM S S' → Aft S' N tp p → Q none S') : E sc mX6_step 0 (pL0 mX6_step [.ref 54]) [] S Q := by
  show E sc mX6_step 0 [.ref 54, .null] [] S Q
  have hN := ht.1
  have hsb := tst_b (N := N) (tp := tp) hp
  refine e_aload_n (pc := 0) (i := 0) dX6_step_0 rfl rfl ?_
  refine e_getI (pc := 1) dX6_step_1 (fX6_54 rfl) sh_54 rfl ?_
  refine E.it (nI 0) h6 ?_
  refine e_if_le (pc := 4) (tgt := 8) dX6_step_4 (by decide) (fun h4 => ?_) (fun h4 => absurd (by decide) h4)
  refine lm_skip (S0 := S) ht (p := p) (fun S1 e8 f1 g1 => ?_) (N + 1) p S hp (by omega) rfl h8 (fun _ _ => rfl) (fun _ _ => rfl)
  have fm : FrM S S1 := ⟨f1, fun q a => g1 q (by omega)⟩
  have g6 := (g1 6 (by omega)).trans h6
  have ht1 := ht.m fm
  refine e_aload_n (pc := 34) (i := 0) dX6_step_34 rfl rfl ?_
  refine e_aload_n (pc := 35) (i := 0) dX6_step_35 rfl rfl ?_
  refine e_getI (pc := 36) dX6_step_36 (fX6_66 rfl) sh_54 rfl ?_
  refine E.it (nI (tst N tp p)) e8 ?_
  refine e_putI (pc := 39) dX6_step_39 (pX6_57 rfl) sh_54 rfl (fun h => by cases h) ?_
  refine e_aload_n (pc := 42) (i := 0) dX6_step_42 rfl rfl ?_
  refine e_aload_n (pc := 43) (i := 0) dX6_step_43 rfl rfl ?_
  refine e_getI (pc := 44) dX6_step_44 (fX6_66 rfl) sh_54 rfl ?_
  refine E.it (nI (tst N tp p)) e8 ?_
  refine e_callV1 (pc := 47) (M' := mX6_byteAt) dX6_step_47 iX6_byteAt lkX6_69 (by decide) (rO_obj sh_54 rfl) (Nat.le_of_ble_eq_true rfl) (Nat.le_of_ble_eq_true rfl) ?_
  refine sp_byteAt (S := (up2 S1.1 54 9 (nI (tst N tp p)), S1.2)) ht1 (q := tst N tp p) (by omega) (fun b1 b2 => ?_) (fun b0 => ?_)
  · refine e_istore_n (pc := 50) (i := 1) dX6_step_50 rfl (by decide) rfl ?_
    refine e_aload_n (pc := 51) (i := 0) dX6_step_51 rfl rfl ?_
    refine e_iconst' (pc := 52) (nI 0) dX6_step_52 (by decide) ?_
    refine e_putI (pc := 53) dX6_step_53 (pX6_73 rfl) sh_54 rfl (fun h => by cases h) ?_
    refine e_iload_n (pc := 56) (i := 1) dX6_step_56 rfl rfl ?_
    refine e_bipush' (pc := 57) (-4) dX6_step_57 (by decide) ?_
    refine e_icmp_ne (pc := 59) (tgt := 70) dX6_step_59 (by decide) (fun h59 => ?_) (fun h59 => absurd h59 (nn4 (by omega)))
    refine e_iload_n (pc := 70) (i := 1) dX6_step_70 rfl rfl ?_
    refine e_i2l (pc := 71) dX6_step_71 ?_
    refine e_ldc2 (pc := 72) dX6_step_72 (klX6_76 rfl) ?_
    refine e_ldc2 (pc := 75) dX6_step_75 (klX6_78 rfl) ?_
    refine e_callS3 (pc := 78) (M' := mX6_in) dX6_step_78 jX6_in lkX6_46 (by decide) (Nat.le_of_ble_eq_true rfl) (Nat.le_of_ble_eq_true rfl) ?_
    refine sp_inC (lo := 97) (hi := 122) (by decide) (by decide) (by omega) (fun z1 z2 => ?_) (fun z => ?_)
    · obtain ⟨hk, he⟩ := tk_n (N := N) (tp := tp) (p := p) (by omega) (inB_y z1 z2)
      refine e_if_eq (pc := 81) (tgt := 126) dX6_step_81 (by decide) (fun h81 => absurd h81 (by decide)) (fun h81 => ?_)
      refine lm_lets (S0 := (up2 (up2 S1.1 54 9 (nI (tst N tp p))) 54 11 (nI 0), S1.2)) (s := tst N tp p) ht1 (fun S2 e82 f2 g2 => ?_) (N + 1) (tst N tp p) _ (by omega) (by omega) rfl e8 (fun _ _ => rfl) (fun _ _ => rfl)
      have fm2 : FrM S S2 := ⟨fun j a => (f2 j a).trans ((up2_ne _ _ _ a).trans ((up2_ne _ _ _ a).trans (fm.1 j a))), fun q a => (g2 q (by omega)).trans (by show up2 (up2 S1.1 54 9 _) 54 11 _ 54 q = _; rw [up2_at]; refine (if_neg (by omega)).trans ?_; show up2 S1.1 54 9 _ 54 q = _; rw [up2_at]; exact (if_neg (by omega)).trans (fm.2 q a))⟩
      refine e_aload_n (pc := 118) (i := 0) dX6_step_118 rfl rfl ?_
      refine e_iconst' (pc := 119) (nI 1) dX6_step_119 (by decide) ?_
      refine e_putI (pc := 120) dX6_step_120 (pX6_63 rfl) sh_54 rfl (fun h => by cases h) ?_
      refine e_goto (pc := 123) (tgt := 269) dX6_step_123 (by decide) ?_
      refine e_vret (pc := 269) (st := []) dX6_step_269 rfl ?_
      refine k _ (fm2.up (by omega) (by omega)) (Or.inr ⟨by rw [hk]; decide, (g2 6 (by omega)).trans g6, fun _ => e82.trans (congrArg nI he.symm), g2 9 (by omega), ?_, fun q => by rw [hk] at q; cases q⟩)
      rw [hk]; rfl
    · refine e_if_eq (pc := 81) (tgt := 126) dX6_step_81 (by decide) (fun h81 => ?_) (fun h81 => absurd rfl h81)
      refine e_iload_n (pc := 126) (i := 1) dX6_step_126 rfl rfl ?_
      refine e_i2l (pc := 127) dX6_step_127 ?_
      refine e_ldc2 (pc := 128) dX6_step_128 (klX6_80 rfl) ?_
      refine e_ldc2 (pc := 131) dX6_step_131 (klX6_82 rfl) ?_
      refine e_callS3 (pc := 134) (M' := mX6_in) dX6_step_134 jX6_in lkX6_46 (by decide) (Nat.le_of_ble_eq_true rfl) (Nat.le_of_ble_eq_true rfl) ?_
      refine sp_inC (lo := 48) (hi := 57) (by decide) (by decide) (by omega) (fun y1 y2 => ?_) (fun y => ?_)
      · obtain ⟨hk, he⟩ := tk_d (N := N) (tp := tp) (p := p) (by omega) (inB_y y1 y2)
        have hse := rn_s (N := N) (P := inB tp 48 57) b1 (inB_y y1 y2)
        have hsb2 := rn_b (N := N) (P := inB tp 48 57) (p := tst N tp p) (by omega)
        rw [← he] at hse hsb2
        refine e_if_eq (pc := 137) (tgt := 243) dX6_step_137 (by decide) (fun h137 => absurd h137 (by decide)) (fun h137 => ?_)
        refine lm_figs (S0 := (up2 (up2 S1.1 54 9 (nI (tst N tp p))) 54 11 (nI 0), S1.2)) (s := tst N tp p) ht1 rfl (fun S2 e82 e112 f2 g2 => ?_) (N + 1) (tst N tp p) _ (by omega) (by omega) (by omega) rfl e8 (by rw [Nat.sub_self]; rfl) (fun _ _ => rfl) (fun _ _ _ => rfl)
        rw [← he] at e82 e112
        have fm2 : FrM S S2 := ⟨fun j a => (f2 j a).trans ((up2_ne _ _ _ a).trans ((up2_ne _ _ _ a).trans (fm.1 j a))), fun q a => (g2 q (by omega) (by omega)).trans (by show up2 (up2 S1.1 54 9 _) 54 11 _ 54 q = _; rw [up2_at]; refine (if_neg (by omega)).trans ?_; show up2 S1.1 54 9 _ 54 q = _; rw [up2_at]; exact (if_neg (by omega)).trans (fm.2 q a))⟩
        refine e_aload_n (pc := 217) (i := 0) dX6_step_217 rfl rfl ?_
        refine e_iconst' (pc := 218) (nI 2) dX6_step_218 (by decide) ?_
        refine e_putI (pc := 219) dX6_step_219 (pX6_63 rfl) sh_54 rfl (fun h => by cases h) ?_
        refine e_aload_n (pc := 222) (i := 0) dX6_step_222 rfl rfl ?_
        refine e_getI (pc := 223) dX6_step_223 (fX6_66 rfl) sh_54 rfl ?_
        refine E.it (nI (te N tp p)) e82 ?_
        refine e_aload_n (pc := 226) (i := 0) dX6_step_226 rfl rfl ?_
        refine e_getI (pc := 227) dX6_step_227 (fX6_57 rfl) sh_54 rfl ?_
        refine E.it (nI (tst N tp p)) (g2 9 (by omega) (by omega)) ?_
        refine e_isub (pc := 230) dX6_step_230 ?_
        refine E.it (nI (te N tp p - tst N tp p)) (pk_sub (by omega)) ?_
        refine e_iconst' (pc := 231) (nI 2) dX6_step_231 (by decide) ?_
        refine e_icmp_le (pc := 232) (tgt := 269) dX6_step_232 (by decide) (fun h232 => ?_) (fun h232 => ?_)
        · replace h232 := (nI_leI (by omega) (by omega)).mp h232
          rw [if_pos h232] at hk
          refine e_vret (pc := 269) (st := []) dX6_step_269 rfl ?_
          refine k _ (fm2.up (by omega) (by omega)) (Or.inr ⟨by rw [hk]; decide, (g2 6 (by omega) (by omega)).trans g6, fun _ => e82, g2 9 (by omega) (by omega), ?_, fun _ => ?_⟩)
          · rw [hk]; rfl
          · refine Eq.trans e112 ?_; rw [show min (te N tp p - tst N tp p) 2 = te N tp p - tst N tp p by omega]; rfl
        · replace h232 := mt (nI_leI (by omega) (by omega)).mpr h232
          rw [if_neg h232] at hk
          refine e_aload_n (pc := 235) (i := 0) dX6_step_235 rfl rfl ?_
          refine e_iconst' (pc := 236) (nI 1) dX6_step_236 (by decide) ?_
          refine e_callV1 (pc := 237) (M' := mX6_fails) dX6_step_237 iX6_fails lkX6_84 (by decide) (rO_obj sh_54 rfl) (Nat.le_of_ble_eq_true rfl) (Nat.le_of_ble_eq_true rfl) ?_
          refine sp_fails (s := tst N tp p) ((g2 6 (by omega) (by omega)).trans g6) (g2 9 (by omega) (by omega)) ?_
          refine e_goto (pc := 240) (tgt := 269) dX6_step_240 (by decide) ?_
          refine e_vret (pc := 269) (st := []) dX6_step_269 rfl ?_
          exact k _ (((fm2.up (by omega) (by omega)).up (by omega) (by omega)).up (by omega) (by omega)) (Or.inl ⟨hk, rfl, rfl⟩)
      · refine e_if_eq (pc := 137) (tgt := 243) dX6_step_137 (by decide) (fun h137 => ?_) (fun h137 => absurd rfl h137)
        refine e_aload_n (pc := 243) (i := 0) dX6_step_243 rfl rfl ?_
        refine e_iconst' (pc := 244) (nI 3) dX6_step_244 (by decide) ?_
        refine e_putI (pc := 245) dX6_step_245 (pX6_63 rfl) sh_54 rfl (fun h => by cases h) ?_
        refine e_aload_n (pc := 248) (i := 0) dX6_step_248 rfl rfl ?_
        refine e_dup (pc := 249) dX6_step_249 rfl ?_
        refine e_getI (pc := 250) dX6_step_250 (fX6_66 rfl) sh_54 rfl ?_
        refine E.it (nI (tst N tp p)) e8 ?_
        refine e_iconst' (pc := 253) (nI 1) dX6_step_253 (by decide) ?_
        refine e_iadd (pc := 254) dX6_step_254 ?_
        refine E.it (nI (tst N tp p + 1)) (nI_add _ _) ?_
        refine e_putI (pc := 255) dX6_step_255 (pX6_66 rfl) sh_54 rfl (fun h => by cases h) ?_
        refine e_iload_n (pc := 258) (i := 1) dX6_step_258 rfl rfl ?_
        refine e_bipush' (pc := 259) (nI 59) dX6_step_259 (by decide) ?_
        refine e_icmp_eq (pc := 261) (tgt := 269) dX6_step_261 (by decide) (fun h261 => ?_) (fun h261 => ?_)
        · replace h261 := (nI_eq (by omega) (by omega)).mp h261
          obtain ⟨hk, he⟩ := tk_s (N := N) (tp := tp) (p := p) (by omega) h261
          refine e_vret (pc := 269) (st := []) dX6_step_269 rfl ?_
          refine k _ ((((fm.up (by omega) (by omega)).up (by omega) (by omega)).up (by omega) (by omega)).up (by omega) (by omega)) (Or.inr ⟨by rw [hk]; decide, g6, fun _ => ?_, rfl, ?_, fun q => by rw [hk] at q; cases q⟩)
          · rw [he]; rfl
          · rw [hk]; rfl
        · replace h261 := mt (nI_eq (by omega) (by omega)).mpr h261
          refine e_aload_n (pc := 264) (i := 0) dX6_step_264 rfl rfl ?_
          refine e_iconst' (pc := 265) (nI 1) dX6_step_265 (by decide) ?_
          refine e_callV1 (pc := 266) (M' := mX6_fails) dX6_step_266 iX6_fails lkX6_84 (by decide) (rO_obj sh_54 rfl) (Nat.le_of_ble_eq_true rfl) (Nat.le_of_ble_eq_true rfl) ?_
          refine sp_fails (s := tst N tp p) g6 rfl ?_
          refine e_vret (pc := 269) (st := []) dX6_step_269 rfl ?_
          exact k _ ((((((fm.up (by omega) (by omega)).up (by omega) (by omega)).up (by omega) (by omega)).up (by omega) (by omega)).up (by omega) (by omega)).up (by omega) (by omega)) (Or.inl ⟨tk_x (by omega) h261 (inB_n z) (inB_n y), rfl, rfl⟩)
  · have hk := tk_0 (N := N) (tp := tp) (p := p) (by omega)
    refine e_istore_n (pc := 50) (i := 1) dX6_step_50 rfl (by decide) rfl ?_
    refine e_aload_n (pc := 51) (i := 0) dX6_step_51 rfl rfl ?_
    refine e_iconst' (pc := 52) (nI 0) dX6_step_52 (by decide) ?_
    refine e_putI (pc := 53) dX6_step_53 (pX6_73 rfl) sh_54 rfl (fun h => by cases h) ?_
    refine e_iload_n (pc := 56) (i := 1) dX6_step_56 rfl rfl ?_
    refine e_bipush' (pc := 57) (-4) dX6_step_57 (by decide) ?_
    refine e_icmp_ne (pc := 59) (tgt := 70) dX6_step_59 (by decide) (fun h59 => absurd rfl h59) (fun h59 => ?_)
    refine e_aload_n (pc := 62) (i := 0) dX6_step_62 rfl rfl ?_
    refine e_iconst' (pc := 63) (nI 0) dX6_step_63 (by decide) ?_
    refine e_putI (pc := 64) dX6_step_64 (pX6_63 rfl) sh_54 rfl (fun h => by cases h) ?_
    refine e_goto (pc := 67) (tgt := 269) dX6_step_67 (by decide) ?_
    refine e_vret (pc := 269) (st := []) dX6_step_269 rfl ?_
    refine k _ (((fm.up (by omega) (by omega)).up (by omega) (by omega)).up (by omega) (by omega)) (Or.inr ⟨by rw [hk]; decide, g6, fun q => absurd hk q, rfl, ?_, fun q => by rw [hk] at q; cases q⟩)
    rw [hk]; rfl
theorem nB_bad {N : Nat} {tp : Nat → Nat} {l h p c : Nat} (h4 : tk N tp p ≠ 4) (hb : (tk N tp p ≠ 2 ∧ c = 2) ∨ (tk N tp p = 2 ∧ ¬ (l ≤ tv N tp p ∧ tv N tp p ≤ h) ∧ c = 3)) (co : Res) : nB N tp l h p co = .inl (c, tst N tp p) := by
  unfold nB
  rw [if_neg h4]
  rcases hb with ⟨a, rfl⟩ | ⟨a, b, rfl⟩
  · rw [if_neg a]
  · rw [if_pos a, if_neg b]
theorem nB_4 {N : Nat} {tp : Nat → Nat} {l h p : Nat} (h4 : tk N tp p = 4) (co : Res) : nB N tp l h p co = .inl (1, tst N tp p) := by
  unfold nB; rw [if_pos h4]
theorem nB_ok {N : Nat} {tp : Nat → Nat} {l h p : Nat} (h2 : tk N tp p = 2) (h3 : l ≤ tv N tp p) (h4 : tv N tp p ≤ h) (co : Res) : nB N tp l h p co = co := by
  unfold nB; rw [if_neg (by omega), if_pos h2, if_pos ⟨h3, h4⟩]
theorem sp_numberB {sc : PSc} {l b : Nat} {x2 : Int32} {S : PS} {Q : PQ} (hb6 : S.1 54 6 = nI b) (hb : 0 < b) (hb8 : b < 8) (k : Q (some (.int (nI l))) S) : E sc mX6_number 0 (pL0 mX6_number [.ref 54, .int (nI l), .int x2]) [] S Q := by
  show E sc mX6_number 0 [.ref 54, .int (nI l), .int x2, .null] [] S Q
  have hne : ¬ nI b = 0 := nI_ne0 hb (by omega)
  refine e_aload_n (pc := 0) (i := 0) dX6_number_0 rfl rfl ?_
  refine e_getI (pc := 1) dX6_number_1 (fX6_54 rfl) sh_54 rfl ?_
  refine E.it (nI b) hb6 ?_
  refine e_if_ne (pc := 4) (tgt := 20) dX6_number_4 (by decide) (fun h4 => ?_) (fun h4 => absurd h4 hne)
  refine e_aload_n (pc := 20) (i := 0) dX6_number_20 rfl rfl ?_
  refine e_getI (pc := 21) dX6_number_21 (fX6_54 rfl) sh_54 rfl ?_
  refine E.it (nI b) hb6 ?_
  refine e_if_ne (pc := 24) (tgt := 47) dX6_number_24 (by decide) (fun h24 => ?_) (fun h24 => absurd h24 hne)
  refine e_aload_n (pc := 47) (i := 0) dX6_number_47 rfl rfl ?_
  refine e_getI (pc := 48) dX6_number_48 (fX6_54 rfl) sh_54 rfl ?_
  refine E.it (nI b) hb6 ?_
  refine e_if_ne (pc := 51) (tgt := 61) dX6_number_51 (by decide) (fun h51 => ?_) (fun h51 => absurd h51 hne)
  refine e_iload_n (pc := 61) (i := 1) dX6_number_61 rfl rfl ?_
  refine e_istore_n (pc := 62) (i := 3) dX6_number_62 rfl (by decide) rfl ?_
  refine e_aload_n (pc := 63) (i := 0) dX6_number_63 rfl rfl ?_
  refine e_callV0 (pc := 64) (M' := mX6_step) dX6_number_64 iX6_step lkX6_88 (by decide) (rO_obj sh_54 rfl) (Nat.le_of_ble_eq_true rfl) (Nat.le_of_ble_eq_true rfl) ?_
  refine sp_stepB hb6 hb hb8 ?_
  refine e_iload_n (pc := 67) (i := 3) dX6_number_67 rfl rfl ?_
  refine e_iret (pc := 68) (st := []) (ty := .int) dX6_number_68 rfl rfl ?_
  exact k
theorem sp_numberG {sc : PSc} {N : Nat} {tp : Nat → Nat} {S : PS} {Q : PQ} (ht : TpM S N tp) {l h p : Nat} (hp : p ≤ N) (hl : l < 128) (hh : h < 128) (cm : CurM S N tp p) (kB : ∀ c S', ((tk N tp p ≠ 2 ∧ c = 2) ∨ (tk N tp p = 2 ∧ ¬ (l ≤ tv N tp p ∧ tv N tp p ≤ h) ∧ c = 3)) → FrM S S' → BadM S' c (tst N tp p) → Q (some (.int (nI l))) S') (kO : tk N tp p = 2 → l ≤ tv N tp p → tv N tp p ≤ h → ∀ S', FrM S S' → Aft S' N tp (te N tp p) → Q (some (.int (nI (tv N tp p)))) S') : E sc mX6_number 0 (pL0 mX6_number [.ref 54, .int (nI l), .int (nI h)]) [] S Q := by
  show E sc mX6_number 0 [.ref 54, .int (nI l), .int (nI h), .null] [] S Q
  have htk := tk_le (N := N) (tp := tp) (p := p)
  refine e_aload_n (pc := 0) (i := 0) dX6_number_0 rfl rfl ?_
  refine e_getI (pc := 1) dX6_number_1 (fX6_54 rfl) sh_54 rfl ?_
  refine E.it (nI 0) cm.2.1 ?_
  refine e_if_ne (pc := 4) (tgt := 20) dX6_number_4 (by decide) (fun h4 => absurd (by decide) h4) (fun h4 => ?_)
  refine e_aload_n (pc := 7) (i := 0) dX6_number_7 rfl rfl ?_
  refine e_getI (pc := 8) dX6_number_8 (fX6_63 rfl) sh_54 rfl ?_
  refine E.it (nI (tk N tp p)) cm.2.2.2.2.1 ?_
  refine e_iconst' (pc := 11) (nI 2) dX6_number_11 (by decide) ?_
  refine e_icmp_eq (pc := 12) (tgt := 20) dX6_number_12 (by decide) (fun h12 => ?_) (fun h12 => ?_)
  · replace h12 := (nI_eq (by omega) (by omega)).mp h12
    have hv := (tv_le h12).1
    refine e_aload_n (pc := 20) (i := 0) dX6_number_20 rfl rfl ?_
    refine e_getI (pc := 21) dX6_number_21 (fX6_54 rfl) sh_54 rfl ?_
    refine E.it (nI 0) cm.2.1 ?_
    refine e_if_ne (pc := 24) (tgt := 47) dX6_number_24 (by decide) (fun h24 => absurd (by decide) h24) (fun h24 => ?_)
    refine e_aload_n (pc := 27) (i := 0) dX6_number_27 rfl rfl ?_
    refine e_getI (pc := 28) dX6_number_28 (fX6_73 rfl) sh_54 rfl ?_
    refine E.it (nI (tv N tp p)) (cm.2.2.2.2.2 h12) ?_
    refine e_i2l (pc := 31) dX6_number_31 ?_
    refine e_iload_n (pc := 32) (i := 1) dX6_number_32 rfl rfl ?_
    refine e_i2l (pc := 33) dX6_number_33 ?_
    refine e_iload_n (pc := 34) (i := 2) dX6_number_34 rfl rfl ?_
    refine e_i2l (pc := 35) dX6_number_35 ?_
    refine e_callS3 (pc := 36) (M' := mX6_in) dX6_number_36 jX6_in lkX6_46 (by decide) (Nat.le_of_ble_eq_true rfl) (Nat.le_of_ble_eq_true rfl) ?_
    refine sp_inC (lo := l) (hi := h) (by rw [Int32.toInt_toInt64, nI_toInt (by omega)]) (by rw [Int32.toInt_toInt64, nI_toInt (by omega)]) (by omega) (fun z1 z2 => ?_) (fun z => ?_)
    · refine e_if_ne (pc := 39) (tgt := 47) dX6_number_39 (by decide) (fun h39 => ?_) (fun h39 => absurd h39 (by decide))
      refine e_aload_n (pc := 47) (i := 0) dX6_number_47 rfl rfl ?_
      refine e_getI (pc := 48) dX6_number_48 (fX6_54 rfl) sh_54 rfl ?_
      refine E.it (nI 0) cm.2.1 ?_
      refine e_if_ne (pc := 51) (tgt := 61) dX6_number_51 (by decide) (fun h51 => absurd (by decide) h51) (fun h51 => ?_)
      refine e_aload_n (pc := 54) (i := 0) dX6_number_54 rfl rfl ?_
      refine e_getI (pc := 55) dX6_number_55 (fX6_73 rfl) sh_54 rfl ?_
      refine E.it (nI (tv N tp p)) (cm.2.2.2.2.2 h12) ?_
      refine e_goto (pc := 58) (tgt := 62) dX6_number_58 (by decide) ?_
      refine e_istore_n (pc := 62) (i := 3) dX6_number_62 rfl (by decide) rfl ?_
      refine e_aload_n (pc := 63) (i := 0) dX6_number_63 rfl rfl ?_
      refine e_callV0 (pc := 64) (M' := mX6_step) dX6_number_64 iX6_step lkX6_88 (by decide) (rO_obj sh_54 rfl) (Nat.le_of_ble_eq_true rfl) (Nat.le_of_ble_eq_true rfl) ?_
      refine sp_stepG ht (p := te N tp p) (te_b (N := N) (tp := tp) hp (by omega) (by omega)).2.1 cm.2.1 (cm.2.2.1 (by omega)) (fun S1 f1 a1 => ?_)
      refine e_iload_n (pc := 67) (i := 3) dX6_number_67 rfl rfl ?_
      refine e_iret (pc := 68) (st := []) (ty := .int) dX6_number_68 rfl rfl ?_
      exact kO h12 z1 z2 S1 f1 a1
    · refine e_if_ne (pc := 39) (tgt := 47) dX6_number_39 (by decide) (fun h39 => absurd rfl h39) (fun h39 => ?_)
      refine e_aload_n (pc := 42) (i := 0) dX6_number_42 rfl rfl ?_
      refine e_iconst' (pc := 43) (nI 3) dX6_number_43 (by decide) ?_
      refine e_callV1 (pc := 44) (M' := mX6_fails) dX6_number_44 iX6_fails lkX6_84 (by decide) (rO_obj sh_54 rfl) (Nat.le_of_ble_eq_true rfl) (Nat.le_of_ble_eq_true rfl) ?_
      refine sp_fails (s := tst N tp p) cm.2.1 cm.2.2.2.1 ?_
      refine e_aload_n (pc := 47) (i := 0) dX6_number_47 rfl rfl ?_
      refine e_getI (pc := 48) dX6_number_48 (fX6_54 rfl) sh_54 rfl ?_
      refine E.it (nI 3) rfl ?_
      refine e_if_ne (pc := 51) (tgt := 61) dX6_number_51 (by decide) (fun h51 => ?_) (fun h51 => absurd h51 (by decide))
      refine e_iload_n (pc := 61) (i := 1) dX6_number_61 rfl rfl ?_
      refine e_istore_n (pc := 62) (i := 3) dX6_number_62 rfl (by decide) rfl ?_
      refine e_aload_n (pc := 63) (i := 0) dX6_number_63 rfl rfl ?_
      refine e_callV0 (pc := 64) (M' := mX6_step) dX6_number_64 iX6_step lkX6_88 (by decide) (rO_obj sh_54 rfl) (Nat.le_of_ble_eq_true rfl) (Nat.le_of_ble_eq_true rfl) ?_
      refine sp_stepB (b := 3) rfl (by omega) (by omega) ?_
      refine e_iload_n (pc := 67) (i := 3) dX6_number_67 rfl rfl ?_
      refine e_iret (pc := 68) (st := []) (ty := .int) dX6_number_68 rfl rfl ?_
      exact kB 3 _ (Or.inr ⟨h12, z, rfl⟩) ((FrM.rf.up (by omega) (by omega)).up (by omega) (by omega)) ⟨rfl, rfl⟩
  · replace h12 := mt (nI_eq (by omega) (by omega)).mpr h12
    refine e_aload_n (pc := 15) (i := 0) dX6_number_15 rfl rfl ?_
    refine e_iconst' (pc := 16) (nI 2) dX6_number_16 (by decide) ?_
    refine e_callV1 (pc := 17) (M' := mX6_fails) dX6_number_17 iX6_fails lkX6_84 (by decide) (rO_obj sh_54 rfl) (Nat.le_of_ble_eq_true rfl) (Nat.le_of_ble_eq_true rfl) ?_
    refine sp_fails (s := tst N tp p) cm.2.1 cm.2.2.2.1 ?_
    refine e_aload_n (pc := 20) (i := 0) dX6_number_20 rfl rfl ?_
    refine e_getI (pc := 21) dX6_number_21 (fX6_54 rfl) sh_54 rfl ?_
    refine E.it (nI 2) rfl ?_
    refine e_if_ne (pc := 24) (tgt := 47) dX6_number_24 (by decide) (fun h24 => ?_) (fun h24 => absurd h24 (by decide))
    refine e_aload_n (pc := 47) (i := 0) dX6_number_47 rfl rfl ?_
    refine e_getI (pc := 48) dX6_number_48 (fX6_54 rfl) sh_54 rfl ?_
    refine E.it (nI 2) rfl ?_
    refine e_if_ne (pc := 51) (tgt := 61) dX6_number_51 (by decide) (fun h51 => ?_) (fun h51 => absurd h51 (by decide))
    refine e_iload_n (pc := 61) (i := 1) dX6_number_61 rfl rfl ?_
    refine e_istore_n (pc := 62) (i := 3) dX6_number_62 rfl (by decide) rfl ?_
    refine e_aload_n (pc := 63) (i := 0) dX6_number_63 rfl rfl ?_
    refine e_callV0 (pc := 64) (M' := mX6_step) dX6_number_64 iX6_step lkX6_88 (by decide) (rO_obj sh_54 rfl) (Nat.le_of_ble_eq_true rfl) (Nat.le_of_ble_eq_true rfl) ?_
    refine sp_stepB (b := 2) rfl (by omega) (by omega) ?_
    refine e_iload_n (pc := 67) (i := 3) dX6_number_67 rfl rfl ?_
    refine e_iret (pc := 68) (st := []) (ty := .int) dX6_number_68 rfl rfl ?_
    exact kB 2 _ (Or.inl ⟨h12, rfl⟩) ((FrM.rf.up (by omega) (by omega)).up (by omega) (by omega)) ⟨rfl, rfl⟩

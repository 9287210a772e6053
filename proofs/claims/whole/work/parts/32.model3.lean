def mx (R : Rw) : Nat → Nat
  | 0 => reads R
  | n + 1 => max (mx R n) (reads (pn R (n + 1)))
def zc (R : Rw) : Nat → Nat
  | 0 => 0
  | n + 1 => zc R n + if reads (pn R (n + 1)) = 0 then 1 else 0
theorem mx_le {R : Rw} (hv : Vd R) : ∀ n, mx R n ≤ 248831
  | 0 => reads_le hv
  | n + 1 => by
    have a := mx_le hv n
    have b := reads_le (pn_vd hv (n + 1))
    rw [mx]; omega
/-- the first of n places from j on where p is so, or -4 -/
def ftS (p : Nat → Bool) : Nat → Nat → Int32
  | 0, _ => -4
  | n + 1, j => if p j then nI j else ftS p n (j + 1)
theorem nI_max {a b : Nat} (ha : a < 2 ^ 31) (hb : b < 2 ^ 31) : (if nI a < nI b then nI b else nI a) = nI (max a b) := by
  by_cases h : a < b
  · rw [if_pos (nI_lt h hb), Nat.max_eq_right (by omega)]
  · rw [if_neg (nI_nlt (by omega) ha), Nat.max_eq_left (by omega)]
def FrG (S S' : PS) : Prop := S'.2 = S.2 ∧ (∀ j, j ≠ 54 → j ≠ 55 → S'.1 j = S.1 j) ∧ (∀ k, (k < 88 ∨ 110 ≤ k) → S'.1 55 k = S.1 55 k) ∧ (∀ k, k ≠ 14 → k ≠ 15 → k ≠ 16 → S'.1 54 k = S.1 54 k)
theorem FrG.rf {S : PS} : FrG S S := ⟨rfl, fun _ _ _ => rfl, fun _ _ => rfl, fun _ _ _ _ => rfl⟩
theorem FrG.tr {S S1 S2 : PS} (h : FrG S S1) (h2 : FrG S1 S2) : FrG S S2 := ⟨h2.1.trans h.1, fun j a b => (h2.2.1 j a b).trans (h.2.1 j a b), fun k a => (h2.2.2.1 k a).trans (h.2.2.1 k a), fun k a b c => (h2.2.2.2 k a b c).trans (h.2.2.2 k a b c)⟩
theorem FrP.G {S S' : PS} (h : FrP 88 S S') : FrG S S' := ⟨h.1, h.2.1, fun k a => h.2.2.1 k (by omega), fun k a _ _ => h.2.2.2 k a⟩
theorem FrQ.G {S S' : PS} (h : FrQ 88 S S') : FrG S S' := h.P.G
theorem FrG.up {S S1 : PS} {q : Nat} {v : Int32} (h : FrG S S1) (hq : q = 14 ∨ q = 15 ∨ q = 16) : FrG S (up2 S1.1 54 q v, S1.2) := by
  refine ⟨h.1, fun j a b => ?_, fun k a => ?_, fun k a b c => ?_⟩
  · show up2 S1.1 54 q v j = _; rw [up2_ne _ _ _ a]; exact h.2.1 j a b
  · show up2 S1.1 54 q v 55 k = _; rw [up2_ne _ _ _ (by decide)]; exact h.2.2.1 k a
  · show up2 S1.1 54 q v 54 k = _; rw [up2_at]; exact (if_neg (by omega)).trans (h.2.2.2 k a b c)
theorem ite_nI {P : Prop} {d : Decidable P} {a b c : Nat} : nI (a + @ite Nat P d b c) = if P then nI (a + b) else nI (a + c) := by split <;> rfl
theorem lp_pushesGo {sc : PSc} {p m : Nat} {R : Rw} {S0 : PS} {Q : PQ} (hv : Vd R) (hm : m ≤ 1000) (k : ∀ S', PgAt S' 88 (pn R m) → S'.1 54 14 = nI (cn R m) → S'.1 54 15 = nI (mx R m) → S'.1 54 16 = nI (zc R m) → FrG S0 S' → Q (some (.int (nI (reads (pn R m))))) S') : ∀ (n : Nat) (j : Nat) (S : PS), j ≤ m → m - j < n → PgAt S 88 (pn R j) → S.1 54 14 = nI (cn R j) → S.1 54 15 = nI (mx R j) → S.1 54 16 = nI (zc R j) → FrG S0 S → E sc mX6_pushesGo 32 [.ref 54, .int (nI p), .int (nI m), .int (nI (reads (pn R j))), .int (nI j)] [] S Q := by
  intro n
  induction n with
  | zero => intro j S hj hn hr hc hx hz hf; exact absurd hn (by omega)
  | succ n ih =>
    intro j S hj hn hr hc hx hz hf
    have hb1 := mx_le hv j
    have hb2 := reads_le (pn_vd hv (j + 1))
    refine e_iload (pc := 32) dX6_pushesGo_32 rfl ?_
    refine e_iload_n (pc := 34) (i := 2) dX6_pushesGo_34 rfl rfl ?_
    refine e_icmp_ge (pc := 35) (tgt := 95) dX6_pushesGo_35 (by decide) (fun h35 => ?_) (fun h35 => ?_)
    · replace h35 := (nI_leI (by omega) (by omega)).mp h35
      obtain rfl : j = m := by omega
      refine e_iload_n (pc := 95) (i := 3) dX6_pushesGo_95 rfl rfl ?_
      refine e_iret (pc := 96) (st := []) (ty := .int) dX6_pushesGo_96 rfl rfl ?_
      exact k S hr hc hx hz hf
    · replace h35 := mt (nI_leI (by omega) (by omega)).mpr h35
      refine e_aload_n (pc := 38) (i := 0) dX6_pushesGo_38 rfl rfl ?_
      refine e_bipush' (pc := 39) (nI 88) dX6_pushesGo_39 (by decide) ?_
      refine e_callV1 (pc := 41) (M' := mX6_pushOn) dX6_pushesGo_41 iX6_pushOn lkX6_164 (by decide) (rO_obj sh_54 rfl) (Nat.le_of_ble_eq_true rfl) (Nat.le_of_ble_eq_true rfl) ?_
      refine sp_pushOn (p := 88) (by omega) (pn_vd hv j) hr (fun S1 a b c => ?_)
      have a : PgAt S1 88 (pn R (j + 1)) := a
      have e15 : S1.1 54 15 = nI (mx R j) := (c.2.2.2 15 (by decide)).trans hx
      have e16 : S1.1 54 16 = nI (zc R j) := (c.2.2.2 16 (by decide)).trans hz
      have e14 : S1.1 54 14 = nI (cn R (j + 1)) := by rw [b, hc, nI_add]; rfl
      have hf1 := hf.tr c.G
      refine e_aload_n (pc := 44) (i := 0) dX6_pushesGo_44 rfl rfl ?_
      refine e_bipush' (pc := 45) (nI 88) dX6_pushesGo_45 (by decide) ?_
      refine e_callV1 (pc := 47) (M' := mX6_readsOn) dX6_pushesGo_47 iX6_readsOn lkX6_135 (by decide) (rO_obj sh_54 rfl) (Nat.le_of_ble_eq_true rfl) (Nat.le_of_ble_eq_true rfl) ?_
      refine sp_readsOn (p := 88) (by omega) (pn_vd hv (j + 1)) a ?_
      refine e_istore_n (pc := 50) (i := 3) dX6_pushesGo_50 rfl (by decide) rfl ?_
      refine e_aload_n (pc := 51) (i := 0) dX6_pushesGo_51 rfl rfl ?_
      refine e_iload_n (pc := 52) (i := 3) dX6_pushesGo_52 rfl rfl ?_
      refine e_aload_n (pc := 53) (i := 0) dX6_pushesGo_53 rfl rfl ?_
      refine e_getI (pc := 54) dX6_pushesGo_54 (fX6_173 rfl) sh_54 rfl ?_
      refine E.it (nI (mx R j)) e15 ?_
      refine e_icmp_le (pc := 57) (tgt := 64) dX6_pushesGo_57 (by decide) (fun h57 => ?_) (fun h57 => ?_)
      · replace h57 := (nI_leI (by omega) (by omega)).mp h57
        have emx : mx R (j + 1) = mx R j := by rw [mx]; omega
        refine e_aload_n (pc := 64) (i := 0) dX6_pushesGo_64 rfl rfl ?_
        refine e_getI (pc := 65) dX6_pushesGo_65 (fX6_173 rfl) sh_54 rfl ?_
        refine E.it (nI (mx R j)) e15 ?_
        refine e_putI (pc := 68) dX6_pushesGo_68 (pX6_173 rfl) sh_54 rfl (fun h => by cases h) ?_
        refine e_aload_n (pc := 71) (i := 0) dX6_pushesGo_71 rfl rfl ?_
        refine e_dup (pc := 72) dX6_pushesGo_72 rfl ?_
        refine e_getI (pc := 73) dX6_pushesGo_73 (fX6_170 rfl) sh_54 rfl ?_
        refine E.it (nI (zc R j)) e16 ?_
        refine e_iload_n (pc := 76) (i := 3) dX6_pushesGo_76 rfl rfl ?_
        refine e_if_ne (pc := 77) (tgt := 84) dX6_pushesGo_77 (by decide) (fun h77 => ?_) (fun h77 => ?_)
        · have ezc : zc R (j + 1) = zc R j + 0 := by rw [zc, if_neg (fun q => h77 (by rw [q]; exact nI_0))]
          refine e_iconst' (pc := 84) (nI 0) dX6_pushesGo_84 (by decide) ?_
          refine e_iadd (pc := 85) dX6_pushesGo_85 ?_
          refine E.it (nI (zc R j + 0)) (nI_add _ _) ?_
          refine e_putI (pc := 86) dX6_pushesGo_86 (pX6_170 rfl) sh_54 rfl (fun h => by cases h) ?_
          refine e_iinc' (pc := 89) (nI (j + 1)) dX6_pushesGo_89 rfl (by decide) rfl (nI_1 _) ?_
          refine e_goto (pc := 92) (tgt := 32) dX6_pushesGo_92 (by decide) ?_
          refine ih (j + 1) _ (by omega) (by omega) (PgAt.car (PgAt.car a)) ?_ ?_ ?_ ((hf1.up (by omega)).up (by omega))
          · show S1.1 54 14 = _; exact e14
          · rw [emx]; rfl
          · rw [ezc]; rfl
        · have ezc : zc R (j + 1) = zc R j + 1 := by rw [zc, if_pos ((nI_eq (by omega) (by omega)).mp (h77.trans nI_0.symm))]
          refine e_iconst' (pc := 80) (nI 1) dX6_pushesGo_80 (by decide) ?_
          refine e_goto (pc := 81) (tgt := 85) dX6_pushesGo_81 (by decide) ?_
          refine e_iadd (pc := 85) dX6_pushesGo_85 ?_
          refine E.it (nI (zc R j + 1)) (nI_add _ _) ?_
          refine e_putI (pc := 86) dX6_pushesGo_86 (pX6_170 rfl) sh_54 rfl (fun h => by cases h) ?_
          refine e_iinc' (pc := 89) (nI (j + 1)) dX6_pushesGo_89 rfl (by decide) rfl (nI_1 _) ?_
          refine e_goto (pc := 92) (tgt := 32) dX6_pushesGo_92 (by decide) ?_
          refine ih (j + 1) _ (by omega) (by omega) (PgAt.car (PgAt.car a)) ?_ ?_ ?_ ((hf1.up (by omega)).up (by omega))
          · show S1.1 54 14 = _; exact e14
          · rw [emx]; rfl
          · rw [ezc]; rfl
      · replace h57 := mt (nI_leI (by omega) (by omega)).mpr h57
        have emx : mx R (j + 1) = reads (pn R (j + 1)) := by rw [mx]; omega
        refine e_iload_n (pc := 60) (i := 3) dX6_pushesGo_60 rfl rfl ?_
        refine e_goto (pc := 61) (tgt := 68) dX6_pushesGo_61 (by decide) ?_
        refine e_putI (pc := 68) dX6_pushesGo_68 (pX6_173 rfl) sh_54 rfl (fun h => by cases h) ?_
        refine e_aload_n (pc := 71) (i := 0) dX6_pushesGo_71 rfl rfl ?_
        refine e_dup (pc := 72) dX6_pushesGo_72 rfl ?_
        refine e_getI (pc := 73) dX6_pushesGo_73 (fX6_170 rfl) sh_54 rfl ?_
        refine E.it (nI (zc R j)) e16 ?_
        refine e_iload_n (pc := 76) (i := 3) dX6_pushesGo_76 rfl rfl ?_
        refine e_if_ne (pc := 77) (tgt := 84) dX6_pushesGo_77 (by decide) (fun h77 => ?_) (fun h77 => ?_)
        · have ezc : zc R (j + 1) = zc R j + 0 := by rw [zc, if_neg (fun q => h77 (by rw [q]; exact nI_0))]
          refine e_iconst' (pc := 84) (nI 0) dX6_pushesGo_84 (by decide) ?_
          refine e_iadd (pc := 85) dX6_pushesGo_85 ?_
          refine E.it (nI (zc R j + 0)) (nI_add _ _) ?_
          refine e_putI (pc := 86) dX6_pushesGo_86 (pX6_170 rfl) sh_54 rfl (fun h => by cases h) ?_
          refine e_iinc' (pc := 89) (nI (j + 1)) dX6_pushesGo_89 rfl (by decide) rfl (nI_1 _) ?_
          refine e_goto (pc := 92) (tgt := 32) dX6_pushesGo_92 (by decide) ?_
          refine ih (j + 1) _ (by omega) (by omega) (PgAt.car (PgAt.car a)) ?_ ?_ ?_ ((hf1.up (by omega)).up (by omega))
          · show S1.1 54 14 = _; exact e14
          · rw [emx]; rfl
          · rw [ezc]; rfl
        · have ezc : zc R (j + 1) = zc R j + 1 := by rw [zc, if_pos ((nI_eq (by omega) (by omega)).mp (h77.trans nI_0.symm))]
          refine e_iconst' (pc := 80) (nI 1) dX6_pushesGo_80 (by decide) ?_
          refine e_goto (pc := 81) (tgt := 85) dX6_pushesGo_81 (by decide) ?_
          refine e_iadd (pc := 85) dX6_pushesGo_85 ?_
          refine E.it (nI (zc R j + 1)) (nI_add _ _) ?_
          refine e_putI (pc := 86) dX6_pushesGo_86 (pX6_170 rfl) sh_54 rfl (fun h => by cases h) ?_
          refine e_iinc' (pc := 89) (nI (j + 1)) dX6_pushesGo_89 rfl (by decide) rfl (nI_1 _) ?_
          refine e_goto (pc := 92) (tgt := 32) dX6_pushesGo_92 (by decide) ?_
          refine ih (j + 1) _ (by omega) (by omega) (PgAt.car (PgAt.car a)) ?_ ?_ ?_ ((hf1.up (by omega)).up (by omega))
          · show S1.1 54 14 = _; exact e14
          · rw [emx]; rfl
          · rw [ezc]; rfl
theorem sp_pushesGo {sc : PSc} {p m : Nat} {R : Rw} {S : PS} {Q : PQ} (hp : p + 22 ≤ 132) (hd : p + 22 ≤ 88 ∨ 110 ≤ p) (hv : Vd R) (hr : PgAt S p R) (hm : m ≤ 1000) (k : ∀ S', PgAt S' 88 (pn R m) → S'.1 54 14 = nI (cn R m) → S'.1 54 15 = nI (mx R m) → S'.1 54 16 = nI (zc R m) → FrG S S' → Q (some (.int (nI (reads (pn R m))))) S') : E sc mX6_pushesGo 0 (pL0 mX6_pushesGo [.ref 54, .int (nI p), .int (nI m)]) [] S Q := by
  show E sc mX6_pushesGo 0 [.ref 54, .int (nI p), .int (nI m), .null, .null] [] S Q
  refine e_aload_n (pc := 0) (i := 0) dX6_pushesGo_0 rfl rfl ?_
  refine e_iload_n (pc := 1) (i := 1) dX6_pushesGo_1 rfl rfl ?_
  refine e_bipush' (pc := 2) (nI 88) dX6_pushesGo_2 (by decide) ?_
  refine e_callV2 (pc := 4) (M' := mX6_copies) dX6_pushesGo_4 iX6_copies lkX6_167 (by decide) (rO_obj sh_54 rfl) (Nat.le_of_ble_eq_true rfl) (Nat.le_of_ble_eq_true rfl) ?_
  refine sp_copyPg (b := 88) hp (by omega) (by omega) hv hr (fun S1 a f => ?_)
  refine e_aload_n (pc := 7) (i := 0) dX6_pushesGo_7 rfl rfl ?_
  refine e_iconst' (pc := 8) (nI 0) dX6_pushesGo_8 (by decide) ?_
  refine e_putI (pc := 9) dX6_pushesGo_9 (pX6_125 rfl) sh_54 rfl (fun h => by cases h) ?_
  refine e_aload_n (pc := 12) (i := 0) dX6_pushesGo_12 rfl rfl ?_
  refine e_iconst' (pc := 13) (nI 0) dX6_pushesGo_13 (by decide) ?_
  refine e_putI (pc := 14) dX6_pushesGo_14 (pX6_170 rfl) sh_54 rfl (fun h => by cases h) ?_
  refine e_aload_n (pc := 17) (i := 0) dX6_pushesGo_17 rfl rfl ?_
  refine e_bipush' (pc := 18) (nI 88) dX6_pushesGo_18 (by decide) ?_
  refine e_callV1 (pc := 20) (M' := mX6_readsOn) dX6_pushesGo_20 iX6_readsOn lkX6_135 (by decide) (rO_obj sh_54 rfl) (Nat.le_of_ble_eq_true rfl) (Nat.le_of_ble_eq_true rfl) ?_
  refine sp_readsOn (p := 88) (by omega) hv (PgAt.car (PgAt.car a)) ?_
  refine e_istore_n (pc := 23) (i := 3) dX6_pushesGo_23 rfl (by decide) rfl ?_
  refine e_aload_n (pc := 24) (i := 0) dX6_pushesGo_24 rfl rfl ?_
  refine e_iload_n (pc := 25) (i := 3) dX6_pushesGo_25 rfl rfl ?_
  refine e_putI (pc := 26) dX6_pushesGo_26 (pX6_173 rfl) sh_54 rfl (fun h => by cases h) ?_
  refine e_iconst' (pc := 29) (nI 0) dX6_pushesGo_29 (by decide) ?_
  refine e_istore (pc := 30) dX6_pushesGo_30 (by decide) rfl ?_
  refine lp_pushesGo (S0 := S) (R := R) hv hm k (m + 1) 0 _ (by omega) (by omega) (PgAt.car (PgAt.car (PgAt.car a))) rfl rfl rfl (((f.G.up (by omega)).up (by omega)).up (by omega))
theorem sp_errorBehind {sc : PSc} {p m : Nat} {R : Rw} {S : PS} {Q : PQ} (hp : p + 22 ≤ 132) (hd : p + 22 ≤ 88 ∨ 110 ≤ p) (hv : Vd R) (hr : PgAt S p R) (hm : m ≤ 1000) (hc : R 21 ≤ 999999) (k : ∀ S', FrG S S' → Q (some (.int (nI (err (pn R m))))) S') : E sc mX6_errorBehind 0 (pL0 mX6_errorBehind [.ref 54, .int (nI p), .int (nI m)]) [] S Q := by
  show E sc mX6_errorBehind 0 [.ref 54, .int (nI p), .int (nI m)] [] S Q
  refine e_aload_n (pc := 0) (i := 0) dX6_errorBehind_0 rfl rfl ?_
  refine e_iload_n (pc := 1) (i := 1) dX6_errorBehind_1 rfl rfl ?_
  refine e_iload_n (pc := 2) (i := 2) dX6_errorBehind_2 rfl rfl ?_
  refine e_callV2 (pc := 3) (M' := mX6_pushesGo) dX6_errorBehind_3 iX6_pushesGo lkX6_176 (by decide) (rO_obj sh_54 rfl) (Nat.le_of_ble_eq_true rfl) (Nat.le_of_ble_eq_true rfl) ?_
  refine sp_pushesGo hp hd hv hr hm (fun S1 a b c d f => ?_)
  refine e_pop (pc := 6) dX6_errorBehind_6 rfl ?_
  refine e_aload_n (pc := 7) (i := 0) dX6_errorBehind_7 rfl rfl ?_
  refine e_bipush' (pc := 8) (nI 88) dX6_errorBehind_8 (by decide) ?_
  refine e_callV1 (pc := 10) (M' := mX6_errorOn) dX6_errorBehind_10 iX6_errorOn lkX6_141 (by decide) (rO_obj sh_54 rfl) (Nat.le_of_ble_eq_true rfl) (Nat.le_of_ble_eq_true rfl) ?_
  refine sp_errorOn (p := 88) (by omega) (pn_vd hv m) a (by rw [pn_count hv]; omega) ?_
  refine e_iret (pc := 13) (st := []) (ty := .int) dX6_errorBehind_13 rfl rfl ?_
  exact k S1 f
theorem lp_firstTimeR {sc : PSc} {v fr : Nat} {R : Rw} {S0 : PS} {Q : PQ} {T : Int32} (hv : Vd R) (hb : v ≤ 248831) (hfr : fr ≤ 1) (k : ∀ S', FrG S0 S' → Q (some (.int T)) S') : ∀ (n : Nat) (j : Nat) (S : PS) (z : Value), j ≤ 1001 → 1001 - j < n → PgAt S 88 (pn R j) → FrG S0 S → T = ftS (fun j => decide (fr ≤ j) && decide (reads (pn R j) = v)) (1001 - j) j → E sc mX6_firstTime 10 [.ref 54, .int (-4), .int (nI v), .int (nI fr), .int (nI j), z] [] S Q := by
  intro n
  induction n with
  | zero => intro j S z hj hn hr hf he; exact absurd hn (by omega)
  | succ n ih =>
    intro j S z hj hn hr hf he
    have hb1 := reads_le (pn_vd hv j)
    have hvv := pn_vd hv j
    have h20 : pn R j 20 = R 20 := pn_keep hv (by omega) (by omega) j
    have h5 := hv.1
    refine e_iload (pc := 10) dX6_firstTime_10 rfl ?_
    refine e_sipush' (pc := 12) (nI 1000) dX6_firstTime_12 (by decide) ?_
    refine e_icmp_gt (pc := 15) (tgt := 71) dX6_firstTime_15 (by decide) (fun h15 => ?_) (fun h15 => ?_)
    · replace h15 := (nI_ltI (by omega) (by omega)).mp h15
      obtain rfl : j = 1001 := by omega
      refine e_bipush' (pc := 71) (-4) dX6_firstTime_71 (by decide) ?_
      refine e_iret (pc := 73) (st := []) (ty := .int) dX6_firstTime_73 rfl rfl ?_
      rw [he] at k; exact k S hf
    · replace h15 := mt (nI_ltI (by omega) (by omega)).mpr h15
      obtain ⟨q, hq⟩ : ∃ q, 1001 - j = q + 1 := ⟨1000 - j, by omega⟩
      rw [hq, ftS] at he
      refine e_iload_n (pc := 18) (i := 1) dX6_firstTime_18 rfl rfl ?_
      refine e_bipush' (pc := 19) (-4) dX6_firstTime_19 (by decide) ?_
      refine e_icmp_ne (pc := 21) (tgt := 33) dX6_firstTime_21 (by decide) (fun h21 => absurd rfl h21) (fun h21 => ?_)
      refine e_aload_n (pc := 24) (i := 0) dX6_firstTime_24 rfl rfl ?_
      refine e_bipush' (pc := 25) (nI 88) dX6_firstTime_25 (by decide) ?_
      refine e_callV1 (pc := 27) (M' := mX6_readsOn) dX6_firstTime_27 iX6_readsOn lkX6_135 (by decide) (rO_obj sh_54 rfl) (Nat.le_of_ble_eq_true rfl) (Nat.le_of_ble_eq_true rfl) ?_
      refine sp_readsOn (p := 88) (by omega) hvv hr ?_
      refine e_goto (pc := 30) (tgt := 42) dX6_firstTime_30 (by decide) ?_
      refine e_istore (pc := 42) dX6_firstTime_42 (by decide) rfl ?_
      refine e_iload (pc := 44) dX6_firstTime_44 rfl ?_
      refine e_iload_n (pc := 46) (i := 3) dX6_firstTime_46 rfl rfl ?_
      refine e_icmp_lt (pc := 47) (tgt := 59) dX6_firstTime_47 (by decide) (fun h47 => ?_) (fun h47 => ?_)
      · replace h47 := (nI_ltI (by omega) (by omega)).mp h47
        refine e_aload_n (pc := 59) (i := 0) dX6_firstTime_59 rfl rfl ?_
        refine e_bipush' (pc := 60) (nI 88) dX6_firstTime_60 (by decide) ?_
        refine e_callV1 (pc := 62) (M' := mX6_pushOn) dX6_firstTime_62 iX6_pushOn lkX6_164 (by decide) (rO_obj sh_54 rfl) (Nat.le_of_ble_eq_true rfl) (Nat.le_of_ble_eq_true rfl) ?_
        refine sp_pushOn (p := 88) (by omega) hvv hr (fun S1 a b c => ?_)
        have ea : 1001 - (j + 1) = q := by omega
        refine e_iinc' (pc := 65) (nI (j + 1)) dX6_firstTime_65 rfl (by decide) rfl (nI_1 _) ?_
        refine e_goto (pc := 68) (tgt := 10) dX6_firstTime_68 (by decide) ?_
        refine ih (j + 1) S1 _ (by omega) (by omega) a (hf.tr c.G) ?_
        rw [he, ea, if_neg (by simp; omega)]
      · replace h47 := mt (nI_ltI (by omega) (by omega)).mpr h47
        refine e_iload (pc := 50) dX6_firstTime_50 rfl ?_
        refine e_iload_n (pc := 52) (i := 2) dX6_firstTime_52 rfl rfl ?_
        refine e_icmp_ne (pc := 53) (tgt := 59) dX6_firstTime_53 (by decide) (fun h53 => ?_) (fun h53 => ?_)
        · replace h53 := mt (nI_eq (by omega) (by omega)).mpr h53
          refine e_aload_n (pc := 59) (i := 0) dX6_firstTime_59 rfl rfl ?_
          refine e_bipush' (pc := 60) (nI 88) dX6_firstTime_60 (by decide) ?_
          refine e_callV1 (pc := 62) (M' := mX6_pushOn) dX6_firstTime_62 iX6_pushOn lkX6_164 (by decide) (rO_obj sh_54 rfl) (Nat.le_of_ble_eq_true rfl) (Nat.le_of_ble_eq_true rfl) ?_
          refine sp_pushOn (p := 88) (by omega) hvv hr (fun S1 a b c => ?_)
          have ea : 1001 - (j + 1) = q := by omega
          refine e_iinc' (pc := 65) (nI (j + 1)) dX6_firstTime_65 rfl (by decide) rfl (nI_1 _) ?_
          refine e_goto (pc := 68) (tgt := 10) dX6_firstTime_68 (by decide) ?_
          refine ih (j + 1) S1 _ (by omega) (by omega) a (hf.tr c.G) ?_
          rw [he, ea, if_neg (by simp; omega)]
        · replace h53 := (nI_eq (by omega) (by omega)).mp h53
          refine e_iload (pc := 56) dX6_firstTime_56 rfl ?_
          refine e_iret (pc := 58) (st := []) (ty := .int) dX6_firstTime_58 rfl rfl ?_
          rw [he] at k
          rw [if_pos (by simp; omega)] at k
          exact k S hf
theorem sp_firstTimeR {sc : PSc} {v fr : Nat} {R : Rw} {S : PS} {Q : PQ} (hv : Vd R) (hr : PgAt S 0 R) (hb : v ≤ 248831) (hfr : fr ≤ 1) (k : ∀ S', FrG S S' → Q (some (.int (ftS (fun j => decide (fr ≤ j) && decide (reads (pn R j) = v)) 1001 0))) S') : E sc mX6_firstTime 0 (pL0 mX6_firstTime [.ref 54, .int (-4), .int (nI v), .int (nI fr)]) [] S Q := by
  show E sc mX6_firstTime 0 [.ref 54, .int (-4), .int (nI v), .int (nI fr), .null, .null] [] S Q
  refine e_aload_n (pc := 0) (i := 0) dX6_firstTime_0 rfl rfl ?_
  refine e_iconst' (pc := 1) (nI 0) dX6_firstTime_1 (by decide) ?_
  refine e_bipush' (pc := 2) (nI 88) dX6_firstTime_2 (by decide) ?_
  refine e_callV2 (pc := 4) (M' := mX6_copies) dX6_firstTime_4 iX6_copies lkX6_167 (by decide) (rO_obj sh_54 rfl) (Nat.le_of_ble_eq_true rfl) (Nat.le_of_ble_eq_true rfl) ?_
  refine sp_copyPg (b := 88) (by omega) (by omega) (by omega) hv hr (fun S1 a f => ?_)
  refine e_iconst' (pc := 7) (nI 0) dX6_firstTime_7 (by decide) ?_
  refine e_istore (pc := 8) dX6_firstTime_8 (by decide) rfl ?_
  exact lp_firstTimeR hv hb hfr k 1002 0 S1 _ (by omega) (by omega) a f.G rfl
theorem lp_firstTimeW {sc : PSc} {v fr : Nat} {R : Rw} {S0 : PS} {Q : PQ} {T : Int32} {u : Nat} (hu : u < R 20) (hv : Vd R) (hb : v ≤ 248831) (hfr : fr ≤ 1) (k : ∀ S', FrG S0 S' → Q (some (.int T)) S') : ∀ (n : Nat) (j : Nat) (S : PS) (z : Value), j ≤ 1001 → 1001 - j < n → PgAt S 88 (pn R j) → FrG S0 S → T = ftS (fun j => decide (fr ≤ j) && decide (pn R j (10 + u) = v)) (1001 - j) j → E sc mX6_firstTime 10 [.ref 54, .int (nI u), .int (nI v), .int (nI fr), .int (nI j), z] [] S Q := by
  intro n
  induction n with
  | zero => intro j S z hj hn hr hf he; exact absurd hn (by omega)
  | succ n ih =>
    intro j S z hj hn hr hf he
    have hb1 := reads_le (pn_vd hv j)
    have hvv := pn_vd hv j
    have h20 : pn R j 20 = R 20 := pn_keep hv (by omega) (by omega) j
    have h5 := hv.1
    refine e_iload (pc := 10) dX6_firstTime_10 rfl ?_
    refine e_sipush' (pc := 12) (nI 1000) dX6_firstTime_12 (by decide) ?_
    refine e_icmp_gt (pc := 15) (tgt := 71) dX6_firstTime_15 (by decide) (fun h15 => ?_) (fun h15 => ?_)
    · replace h15 := (nI_ltI (by omega) (by omega)).mp h15
      obtain rfl : j = 1001 := by omega
      refine e_bipush' (pc := 71) (-4) dX6_firstTime_71 (by decide) ?_
      refine e_iret (pc := 73) (st := []) (ty := .int) dX6_firstTime_73 rfl rfl ?_
      rw [he] at k; exact k S hf
    · replace h15 := mt (nI_ltI (by omega) (by omega)).mpr h15
      obtain ⟨q, hq⟩ : ∃ q, 1001 - j = q + 1 := ⟨1000 - j, by omega⟩
      rw [hq, ftS] at he
      refine e_iload_n (pc := 18) (i := 1) dX6_firstTime_18 rfl rfl ?_
      refine e_bipush' (pc := 19) (-4) dX6_firstTime_19 (by decide) ?_
      refine e_icmp_ne (pc := 21) (tgt := 33) dX6_firstTime_21 (by decide) (fun h21 => ?_) (fun h21 => absurd h21 (fun q => absurd (congrArg Int32.toInt q) (by rw [nI_toInt (by omega)]; show ¬ (u : Int) = -4; omega)))
      refine e_aload_n (pc := 33) (i := 0) dX6_firstTime_33 rfl rfl ?_
      refine e_getR (pc := 34) dX6_firstTime_34 (fX6_7 rfl) sh_54 rfl ?_
      refine e_bipush' (pc := 37) (nI 98) dX6_firstTime_37 (by decide) ?_
      refine e_iload_n (pc := 39) (i := 1) dX6_firstTime_39 rfl rfl ?_
      refine e_iadd (pc := 40) dX6_firstTime_40 ?_
      refine E.it (nI (98 + u)) (nI_add _ _) ?_
      refine e_iald (pc := 41) dX6_firstTime_41 sh_55 (vp_in_nI (by omega) (by omega)) ?_
      refine E.it (nI (pn R j (10 + u))) (by rw [nI_clamp (by omega)]; exact (hr.2.2 u (by omega)).2.2.1) ?_
      refine e_istore (pc := 42) dX6_firstTime_42 (by decide) rfl ?_
      refine e_iload (pc := 44) dX6_firstTime_44 rfl ?_
      refine e_iload_n (pc := 46) (i := 3) dX6_firstTime_46 rfl rfl ?_
      refine e_icmp_lt (pc := 47) (tgt := 59) dX6_firstTime_47 (by decide) (fun h47 => ?_) (fun h47 => ?_)
      · replace h47 := (nI_ltI (by omega) (by omega)).mp h47
        refine e_aload_n (pc := 59) (i := 0) dX6_firstTime_59 rfl rfl ?_
        refine e_bipush' (pc := 60) (nI 88) dX6_firstTime_60 (by decide) ?_
        refine e_callV1 (pc := 62) (M' := mX6_pushOn) dX6_firstTime_62 iX6_pushOn lkX6_164 (by decide) (rO_obj sh_54 rfl) (Nat.le_of_ble_eq_true rfl) (Nat.le_of_ble_eq_true rfl) ?_
        refine sp_pushOn (p := 88) (by omega) hvv hr (fun S1 a b c => ?_)
        have ea : 1001 - (j + 1) = q := by omega
        refine e_iinc' (pc := 65) (nI (j + 1)) dX6_firstTime_65 rfl (by decide) rfl (nI_1 _) ?_
        refine e_goto (pc := 68) (tgt := 10) dX6_firstTime_68 (by decide) ?_
        refine ih (j + 1) S1 _ (by omega) (by omega) a (hf.tr c.G) ?_
        rw [he, ea, if_neg (by simp; omega)]
      · replace h47 := mt (nI_ltI (by omega) (by omega)).mpr h47
        refine e_iload (pc := 50) dX6_firstTime_50 rfl ?_
        refine e_iload_n (pc := 52) (i := 2) dX6_firstTime_52 rfl rfl ?_
        have hdu := hvv.2 u (by omega)
        refine e_icmp_ne (pc := 53) (tgt := 59) dX6_firstTime_53 (by decide) (fun h53 => ?_) (fun h53 => ?_)
        · replace h53 := mt (nI_eq (by omega) (by omega)).mpr h53
          refine e_aload_n (pc := 59) (i := 0) dX6_firstTime_59 rfl rfl ?_
          refine e_bipush' (pc := 60) (nI 88) dX6_firstTime_60 (by decide) ?_
          refine e_callV1 (pc := 62) (M' := mX6_pushOn) dX6_firstTime_62 iX6_pushOn lkX6_164 (by decide) (rO_obj sh_54 rfl) (Nat.le_of_ble_eq_true rfl) (Nat.le_of_ble_eq_true rfl) ?_
          refine sp_pushOn (p := 88) (by omega) hvv hr (fun S1 a b c => ?_)
          have ea : 1001 - (j + 1) = q := by omega
          refine e_iinc' (pc := 65) (nI (j + 1)) dX6_firstTime_65 rfl (by decide) rfl (nI_1 _) ?_
          refine e_goto (pc := 68) (tgt := 10) dX6_firstTime_68 (by decide) ?_
          refine ih (j + 1) S1 _ (by omega) (by omega) a (hf.tr c.G) ?_
          rw [he, ea, if_neg (by simp; omega)]
        · replace h53 := (nI_eq (by omega) (by omega)).mp h53
          refine e_iload (pc := 56) dX6_firstTime_56 rfl ?_
          refine e_iret (pc := 58) (st := []) (ty := .int) dX6_firstTime_58 rfl rfl ?_
          rw [he] at k
          rw [if_pos (by simp; omega)] at k
          exact k S hf
theorem sp_firstTimeW {sc : PSc} {v fr : Nat} {R : Rw} {S : PS} {Q : PQ} {u : Nat} (hu : u < R 20) (hv : Vd R) (hr : PgAt S 0 R) (hb : v ≤ 248831) (hfr : fr ≤ 1) (k : ∀ S', FrG S S' → Q (some (.int (ftS (fun j => decide (fr ≤ j) && decide (pn R j (10 + u) = v)) 1001 0))) S') : E sc mX6_firstTime 0 (pL0 mX6_firstTime [.ref 54, .int (nI u), .int (nI v), .int (nI fr)]) [] S Q := by
  show E sc mX6_firstTime 0 [.ref 54, .int (nI u), .int (nI v), .int (nI fr), .null, .null] [] S Q
  refine e_aload_n (pc := 0) (i := 0) dX6_firstTime_0 rfl rfl ?_
  refine e_iconst' (pc := 1) (nI 0) dX6_firstTime_1 (by decide) ?_
  refine e_bipush' (pc := 2) (nI 88) dX6_firstTime_2 (by decide) ?_
  refine e_callV2 (pc := 4) (M' := mX6_copies) dX6_firstTime_4 iX6_copies lkX6_167 (by decide) (rO_obj sh_54 rfl) (Nat.le_of_ble_eq_true rfl) (Nat.le_of_ble_eq_true rfl) ?_
  refine sp_copyPg (b := 88) (by omega) (by omega) (by omega) hv hr (fun S1 a f => ?_)
  refine e_iconst' (pc := 7) (nI 0) dX6_firstTime_7 (by decide) ?_
  refine e_istore (pc := 8) dX6_firstTime_8 (by decide) rfl ?_
  exact lp_firstTimeW hu hv hb hfr k 1002 0 S1 _ (by omega) (by omega) a f.G rfl

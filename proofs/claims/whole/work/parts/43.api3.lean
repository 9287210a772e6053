def bestF (f : Nat → Nat) (i0 : Nat) : Nat → Nat × Int32
  | 0 => (i0, -4)
  | w + 1 => if f w < (bestF f i0 w).1 then (f w, nI w) else bestF f i0 w
theorem bestF_le {f : Nat → Nat} {i0 b : Nat} (h0 : i0 ≤ b) (hf : ∀ w, f w ≤ b) : ∀ n, (bestF f i0 n).1 ≤ b
  | 0 => h0
  | n + 1 => by
    rw [bestF]
    split
    · exact hf n
    · exact bestF_le h0 hf n
def pv (a v : Nat) : Int32 := if a = 3 then nI v - nI 12 else nI v
theorem PgAt.gt {S : PS} {p : Nat} {R : Rw} (h : PgAt S p R) {b u : Nat} (hb : b < 4) (hu : u < R 20) : S.1 55 (p + 5 * b + u) = pv b (R (5 * b + u)) := by
  obtain ⟨h0, h1, h2, h3⟩ := h.2.2 u hu
  rcases (show b = 0 ∨ b = 1 ∨ b = 2 ∨ b = 3 by omega) with rfl | rfl | rfl | rfl
  · simp [pv]; exact h0
  · exact h1
  · exact h2
  · exact h3
theorem PgAt.mk {S : PS} {p : Nat} {R : Rw} (h0 : S.1 55 (p + 20) = nI (R 20)) (h1 : S.1 55 (p + 21) = nI (R 21)) (h : ∀ b u, b < 4 → u < R 20 → S.1 55 (p + 5 * b + u) = pv b (R (5 * b + u))) : PgAt S p R := by
  refine ⟨h0, h1, fun w hw => ⟨?_, ?_, ?_, ?_⟩⟩
  · have := h 0 w (by omega) hw; simpa [pv] using this
  · exact h 1 w (by omega) hw
  · exact h 2 w (by omega) hw
  · exact h 3 w (by omega) hw
theorem PgAt.set {S : PS} {p a w v : Nat} {R : Rw} (h : PgAt S p R) (h5 : R 20 ≤ 5) (hw : w < 5) (ha : a < 4) : PgAt (up2 S.1 55 (p + 5 * a + w) (pv a v), S.2) p (rs R (5 * a + w) v) := by
  have e : ∀ k, k ≠ p + 5 * a + w → up2 S.1 55 (p + 5 * a + w) (pv a v) 55 k = S.1 55 k := fun k hk => by rw [up2_at]; exact if_neg hk
  refine PgAt.mk ?_ ?_ (fun b u hb hu => ?_)
  · rw [rs_ne _ _ (by omega)]; exact (e _ (by omega)).trans h.1
  · rw [rs_ne _ _ (by omega)]; exact (e _ (by omega)).trans h.2.1
  · rw [rs_ne _ _ (by omega)] at hu
    by_cases q : b = a ∧ u = w
    · obtain ⟨rfl, rfl⟩ := q
      rw [rs_at]; show up2 S.1 55 (p + 5 * b + u) (pv b v) 55 (p + 5 * b + u) = _; rw [up2_at]; exact if_pos rfl
    · rw [rs_ne _ _ (by omega), ← h.gt hb hu]; exact e _ (by omega)
theorem FrQ.up {p k : Nat} {v : Int32} {S S1 : PS} (h : FrQ p S S1) (h1 : p ≤ k) (h2 : k < p + 22) : FrQ p S (up2 S1.1 55 k v, S1.2) := by
  refine ⟨h.1, fun j b => ?_, fun q a => ?_⟩
  · show up2 S1.1 55 k v j = _; rw [up2_ne _ _ _ b]; exact h.2.1 j b
  · show up2 S1.1 55 k v 55 q = _; rw [up2_at]; exact (if_neg (by omega)).trans (h.2.2 q a)
theorem set_vd {R : Rw} {a w v : Nat} (hv : Vd R) (hw : w < R 20) (h : (a = 0 ∧ v < 4) ∨ (a = 2 ∧ v < R (5 + w)) ∨ (a = 3 ∧ (v < R (5 + w) ∨ v = 12))) : Vd (rs R (5 * a + w) v) := by
  have q := hv.2 w hw
  rcases h with ⟨rfl, h⟩ | ⟨rfl, h⟩ | ⟨rfl, h⟩
  · exact alt_vd hv hw (by omega) (by simp [okE]; omega) (by simp [okM])
  · exact alt_vd hv hw (by omega) (by simp [okE]; omega) (by simp [okM]; omega)
  · exact alt_vd hv hw (by omega) (by simp [okE]; omega) (by simp [okM]; omega)
theorem rs_21 {R : Rw} {i v : Nat} (h : i < 20) : rs R i v 21 = R 21 := rs_ne _ _ (by omega)
theorem sp_tryPart {sc : PSc} {w a v : Nat} {R : Rw} {S : PS} {Q : PQ} (hv : Vd R) (hr : RowAt S 1 R) (hw : w < R 20) (ha : a < 4) (k : ∀ S', RowAt S' 6 (rs R (5 * a + w) v) → S'.1 6 2 = nI 0 → Fr 6 5 S S' → Q none S') : E sc mX5_tryPart 0 (pL0 mX5_tryPart [.ref 0, .int (nI w), .int (nI a), .int (nI v)]) [] S Q := by
  show E sc mX5_tryPart 0 [.ref 0, .int (nI w), .int (nI a), .int (nI v)] [] S Q
  refine e_aload_n (pc := 0) (i := 0) dX5_tryPart_0 rfl rfl ?_
  refine e_getR (pc := 1) dX5_tryPart_1 (fX5_16 rfl) sh_0 rfl ?_
  refine e_aload_n (pc := 4) (i := 0) dX5_tryPart_4 rfl rfl ?_
  refine e_getR (pc := 5) dX5_tryPart_5 (fX5_10 rfl) sh_0 rfl ?_
  refine e_callV1 (pc := 8) (M' := mX0_copyOf) dX5_tryPart_8 iX0_copyOf lkX5_90 (by decide) (rO_obj sh_6 rfl) (Nat.le_of_ble_eq_true rfl) (Nat.le_of_ble_eq_true rfl) ?_
  refine sp_copyOf r6 r1 (by omega) hv hr (fun S1 ht hc0 hf => ?_)
  refine e_aload_n (pc := 11) (i := 0) dX5_tryPart_11 rfl rfl ?_
  refine e_getR (pc := 12) dX5_tryPart_12 (fX5_16 rfl) sh_0 rfl ?_
  refine e_iload_n (pc := 15) (i := 1) dX5_tryPart_15 rfl rfl ?_
  refine e_iload_n (pc := 16) (i := 2) dX5_tryPart_16 rfl rfl ?_
  refine e_iload_n (pc := 17) (i := 3) dX5_tryPart_17 rfl rfl ?_
  refine e_callV3 (pc := 18) (M' := mX0_set) dX5_tryPart_18 iX0_set lkX5_254 (by decide) (rO_obj sh_6 rfl) (Nat.le_of_ble_eq_true rfl) (Nat.le_of_ble_eq_true rfl) ?_
  refine sp_set r6 hv ht hw ha (fun S2 q1 q2 q3 => ?_)
  refine e_vret (pc := 21) (st := []) dX5_tryPart_21 rfl ?_
  exact k S2 q1 (q2.trans hc0) (hf.tr q3)
theorem sp_trialErr {sc : PSc} {m : Nat} {R : Rw} {S : PS} {Q : PQ} (hv : Vd R) (hr : RowAt S 6 R) (hc : R 21 ≤ 999999) (hm : m ≤ 1000) (k : ∀ S', Fr 6 5 S S' → Q (some (.int (nI (err (pn R m))))) S') : E sc mX5_trialErrorBehind 0 (pL0 mX5_trialErrorBehind [.ref 0, .int (nI m)]) [] S Q := by
  show E sc mX5_trialErrorBehind 0 [.ref 0, .int (nI m)] [] S Q
  refine e_aload_n (pc := 0) (i := 0) dX5_trialErrorBehind_0 rfl rfl ?_
  refine e_getR (pc := 1) dX5_trialErrorBehind_1 (fX5_16 rfl) sh_0 rfl ?_
  refine e_iload_n (pc := 4) (i := 1) dX5_trialErrorBehind_4 rfl rfl ?_
  refine e_callV1 (pc := 5) (M' := mX0_push) dX5_trialErrorBehind_5 iX0_push lkX5_148 (by decide) (rO_obj sh_6 rfl) (Nat.le_of_ble_eq_true rfl) (Nat.le_of_ble_eq_true rfl) ?_
  refine sp_push r6 hv hr (by omega) (fun S2 a b c => ?_)
  refine e_aload_n (pc := 8) (i := 0) dX5_trialErrorBehind_8 rfl rfl ?_
  refine e_getR (pc := 9) dX5_trialErrorBehind_9 (fX5_16 rfl) sh_0 rfl ?_
  refine e_callV0 (pc := 12) (M' := mX0_error) dX5_trialErrorBehind_12 iX0_error lkX5_114 (by decide) (rO_obj sh_6 rfl) (Nat.le_of_ble_eq_true rfl) (Nat.le_of_ble_eq_true rfl) ?_
  refine sp_error r6 (pn_vd hv m) a (by rw [pn_count hv]; omega) ?_
  refine e_iret (pc := 15) (st := []) (ty := .int) dX5_trialErrorBehind_15 rfl rfl ?_
  exact k S2 c
theorem lp_mend0 {sc : PSc} {m : Nat} {R : Rw} {S0 : PS} {Q : PQ} (hv : Vd R) (hc : R 21 ≤ 999999) (hr0 : RowAt S0 1 R) (hm : m ≤ 200) (hbd : ∀ w, w ≤ R 20 → (bestF (fun w => err (pn (rs R (15 + w) 12) m)) (err (pn R m)) w).1 ≤ 248831) (k : ∀ S', Fr 6 5 S0 S' → Q (some (.int ((bestF (fun w => err (pn (rs R (15 + w) 12) m)) (err (pn R m)) (R 20)).2))) S') : ∀ (n : Nat) (j : Nat) (S : PS) (z : Value), j ≤ R 20 → R 20 - j < n → Fr 6 5 S0 S → E sc mX5_mend 46 [.ref 0, .int (nI m), .int (nI 0), .int (nI (bestF (fun w => err (pn (rs R (15 + w) 12) m)) (err (pn R m)) j).1), .int (bestF (fun w => err (pn (rs R (15 + w) 12) m)) (err (pn R m)) j).2, .int (nI j), z] [] S Q := by
  intro n
  induction n with
  | zero => intro j S z hj hn hf; exact absurd hn (by omega)
  | succ n ih =>
    intro j S z hj hn hf
    have h5 := hv.1
    have hr := hr0.frI hf r6 r1 (by omega)
    have hb1 := hbd j hj
    refine e_iload (pc := 46) dX5_mend_46 rfl ?_
    refine e_aload_n (pc := 48) (i := 0) dX5_mend_48 rfl rfl ?_
    refine e_getR (pc := 49) dX5_mend_49 (fX5_10 rfl) sh_0 rfl ?_
    refine e_getI (pc := 52) dX5_mend_52 (fX5_103 rfl) sh_1 rfl ?_
    refine E.it (nI (R 20)) hr.1 ?_
    refine e_icmp_ge (pc := 55) (tgt := 93) dX5_mend_55 (by decide) (fun h55 => ?_) (fun h55 => ?_)
    · replace h55 := (nI_leI (by omega) (by omega)).mp h55
      obtain e : j = R 20 := by omega
      rw [e]
      refine e_iload (pc := 93) dX5_mend_93 rfl ?_
      refine e_bipush' (pc := 95) (-4) dX5_mend_95 (by decide) ?_
      refine e_icmp_eq (pc := 97) (tgt := 104) dX5_mend_97 (by decide) (fun h97 => ?_) (fun h97 => ?_)
      · refine e_iload (pc := 104) dX5_mend_104 rfl ?_
        refine e_goto (pc := 106) (tgt := 110) dX5_mend_106 (by decide) ?_
        refine e_iret (pc := 110) (st := []) (ty := .int) dX5_mend_110 rfl rfl ?_
        exact k S hf
      · refine e_iload_n (pc := 100) (i := 2) dX5_mend_100 rfl rfl ?_
        refine e_if_ne (pc := 101) (tgt := 109) dX5_mend_101 (by decide) (fun h101 => absurd (by decide) h101) (fun h101 => ?_)
        refine e_iload (pc := 104) dX5_mend_104 rfl ?_
        refine e_goto (pc := 106) (tgt := 110) dX5_mend_106 (by decide) ?_
        refine e_iret (pc := 110) (st := []) (ty := .int) dX5_mend_110 rfl rfl ?_
        exact k S hf
    · replace h55 := mt (nI_leI (by omega) (by omega)).mpr h55
      have hw : j < R 20 := by omega
      have hvd : Vd (rs R (15 + j) 12) := set_vd (a := 3) hv hw (by omega)
      have hb2 := err_le (pn_vd hvd m)
      have hih := fun S2 z2 => ih (j + 1) S2 z2 (by omega) (by omega)
      rw [bestF] at hih
      refine e_aload_n (pc := 58) (i := 0) dX5_mend_58 rfl rfl ?_
      refine e_iload (pc := 59) dX5_mend_59 rfl ?_
      refine e_iconst' (pc := 61) (nI 3) dX5_mend_61 (by decide) ?_
      refine e_bipush' (pc := 62) (nI 12) dX5_mend_62 (by decide) ?_
      refine e_callV3 (pc := 64) (M' := mX5_tryPart) dX5_mend_64 iX5_tryPart lkX5_173 (by decide) (rO_obj sh_0 rfl) (Nat.le_of_ble_eq_true rfl) (Nat.le_of_ble_eq_true rfl) ?_
      refine sp_tryPart (v := 12) hv hr hw (by omega) (fun S2 q1 q2 q3 => ?_)
      refine e_aload_n (pc := 67) (i := 0) dX5_mend_67 rfl rfl ?_
      refine e_iload_n (pc := 68) (i := 1) dX5_mend_68 rfl rfl ?_
      refine e_callV1 (pc := 69) (M' := mX5_trialErrorBehind) dX5_mend_69 iX5_trialErrorBehind lkX5_170 (by decide) (rO_obj sh_0 rfl) (Nat.le_of_ble_eq_true rfl) (Nat.le_of_ble_eq_true rfl) ?_
      refine sp_trialErr hvd q1 (by rw [rs_21 (by omega)]; exact hc) (by omega) (fun S3 q4 => ?_)
      refine e_istore (pc := 72) dX5_mend_72 (by decide) rfl ?_
      refine e_iload (pc := 74) dX5_mend_74 rfl ?_
      refine e_iload_n (pc := 76) (i := 3) dX5_mend_76 rfl rfl ?_
      refine e_icmp_ge (pc := 77) (tgt := 87) dX5_mend_77 (by decide) (fun h77 => ?_) (fun h77 => ?_)
      · replace h77 := (nI_leI (by omega) (by omega)).mp h77
        rw [if_neg (by omega)] at hih
        refine e_iinc' (pc := 87) (nI (j + 1)) dX5_mend_87 rfl (by decide) rfl (nI_1 _) ?_
        refine e_goto (pc := 90) (tgt := 46) dX5_mend_90 (by decide) ?_
        exact hih S3 _ ((hf.tr q3).tr q4)
      · replace h77 := mt (nI_leI (by omega) (by omega)).mpr h77
        rw [if_pos (by omega)] at hih
        refine e_iload (pc := 80) dX5_mend_80 rfl ?_
        refine e_istore_n (pc := 82) (i := 3) dX5_mend_82 rfl (by decide) rfl ?_
        refine e_iload (pc := 83) dX5_mend_83 rfl ?_
        refine e_istore (pc := 85) dX5_mend_85 (by decide) rfl ?_
        refine e_iinc' (pc := 87) (nI (j + 1)) dX5_mend_87 rfl (by decide) rfl (nI_1 _) ?_
        refine e_goto (pc := 90) (tgt := 46) dX5_mend_90 (by decide) ?_
        exact hih S3 _ ((hf.tr q3).tr q4)
theorem lm_mend0 {sc : PSc} {m : Nat} {R : Rw} {S0 : PS} {Q : PQ} (hv : Vd R) (hc : R 21 ≤ 999999) (hp0 : PgAt S0 0 R) (hm : m ≤ 200) (hbd : ∀ w, w ≤ R 20 → (bestF (fun w => err (pn (rs R (15 + w) 12) m)) (err (pn R m)) w).1 ≤ 248831) (k : ∀ S', Same S0 S' → Q (some (.int ((bestF (fun w => err (pn (rs R (15 + w) 12) m)) (err (pn R m)) (R 20)).2))) S') : ∀ (n : Nat) (j : Nat) (S : PS) (z : Value), j ≤ R 20 → R 20 - j < n → Same S0 S → E sc mX6_mend 38 [.ref 54, .int (nI m), .int (nI 0), .int (nI (bestF (fun w => err (pn (rs R (15 + w) 12) m)) (err (pn R m)) j).1), .int (bestF (fun w => err (pn (rs R (15 + w) 12) m)) (err (pn R m)) j).2, .int (nI j), z] [] S Q := by
  intro n
  induction n with
  | zero => intro j S z hj hn hf; exact absurd hn (by omega)
  | succ n ih =>
    intro j S z hj hn hf
    have h5 := hv.1
    have hp := hf.pg (by omega) hv hp0
    have hb1 := hbd j hj
    refine e_iload (pc := 38) dX6_mend_38 rfl ?_
    refine e_aload_n (pc := 40) (i := 0) dX6_mend_40 rfl rfl ?_
    refine e_getR (pc := 41) dX6_mend_41 (fX6_7 rfl) sh_54 rfl ?_
    refine e_bipush' (pc := 44) (nI 20) dX6_mend_44 (by decide) ?_
    refine e_iald (pc := 46) dX6_mend_46 sh_55 (vp_in_nI (by omega) (by omega)) ?_
    refine E.it (nI (R (20))) (pgn (p := 0) (by omega) hp) ?_
    refine e_icmp_ge (pc := 47) (tgt := 111) dX6_mend_47 (by decide) (fun h47 => ?_) (fun h47 => ?_)
    · replace h47 := (nI_leI (by omega) (by omega)).mp h47
      obtain e : j = R 20 := by omega
      rw [e]
      refine e_iload (pc := 111) dX6_mend_111 rfl ?_
      refine e_bipush' (pc := 113) (-4) dX6_mend_113 (by decide) ?_
      refine e_icmp_eq (pc := 115) (tgt := 122) dX6_mend_115 (by decide) (fun h115 => ?_) (fun h115 => ?_)
      · refine e_iload (pc := 122) dX6_mend_122 rfl ?_
        refine e_goto (pc := 124) (tgt := 128) dX6_mend_124 (by decide) ?_
        refine e_iret (pc := 128) (st := []) (ty := .int) dX6_mend_128 rfl rfl ?_
        exact k S hf
      · refine e_iload_n (pc := 118) (i := 2) dX6_mend_118 rfl rfl ?_
        refine e_if_ne (pc := 119) (tgt := 127) dX6_mend_119 (by decide) (fun h119 => absurd (by decide) h119) (fun h119 => ?_)
        refine e_iload (pc := 122) dX6_mend_122 rfl ?_
        refine e_goto (pc := 124) (tgt := 128) dX6_mend_124 (by decide) ?_
        refine e_iret (pc := 128) (st := []) (ty := .int) dX6_mend_128 rfl rfl ?_
        exact k S hf
    · replace h47 := mt (nI_leI (by omega) (by omega)).mpr h47
      have hw : j < R 20 := by omega
      have hvd : Vd (rs R (15 + j) 12) := set_vd (a := 3) hv hw (by omega)
      have hb2 := err_le (pn_vd hvd m)
      have hih := fun S2 z2 => ih (j + 1) S2 z2 (by omega) (by omega)
      rw [bestF] at hih
      refine e_aload_n (pc := 50) (i := 0) dX6_mend_50 rfl rfl ?_
      refine e_iconst' (pc := 51) (nI 0) dX6_mend_51 (by decide) ?_
      refine e_bipush' (pc := 52) (nI 110) dX6_mend_52 (by decide) ?_
      refine e_callV2 (pc := 54) (M' := mX6_copies) dX6_mend_54 iX6_copies lkX6_167 (by decide) (rO_obj sh_54 rfl) (Nat.le_of_ble_eq_true rfl) (Nat.le_of_ble_eq_true rfl) ?_
      refine sp_copyPg (b := 110) (by omega) (by omega) (by omega) hv hp (fun S1 p1 f1 => ?_)
      refine e_aload_n (pc := 57) (i := 0) dX6_mend_57 rfl rfl ?_
      refine e_getR (pc := 58) dX6_mend_58 (fX6_7 rfl) sh_54 rfl ?_
      refine e_bipush' (pc := 61) (nI 125) dX6_mend_61 (by decide) ?_
      refine e_iload (pc := 63) dX6_mend_63 rfl ?_
      refine e_iadd (pc := 65) dX6_mend_65 ?_
      refine E.it (nI (125 + j)) (nI_add _ _) ?_
      refine e_iconst' (pc := 66) (nI 0) dX6_mend_66 (by decide) ?_
      refine e_iast (pc := 67) dX6_mend_67 sh_55 (vp_in_nI (by omega) (by omega)) ?_
      rw [nI_clamp (show 125 + j < 2 ^ 31 by omega)]
      have p2 : PgAt (up2 S1.1 55 (125 + j) (nI 0), S1.2) 110 (rs R (15 + j) 12) := p1.set (a := 3) (v := 12) h5 (by omega) (by omega)
      have f2 : FrQ 110 S (up2 S1.1 55 (125 + j) (nI 0), S1.2) := f1.up (by omega) (by omega)
      refine e_aload_n (pc := 68) (i := 0) dX6_mend_68 rfl rfl ?_
      refine e_bipush' (pc := 69) (nI 110) dX6_mend_69 (by decide) ?_
      refine e_iload_n (pc := 71) (i := 1) dX6_mend_71 rfl rfl ?_
      refine e_callV2 (pc := 72) (M' := mX6_errorBehind) dX6_mend_72 iX6_errorBehind lkX6_187 (by decide) (rO_obj sh_54 rfl) (Nat.le_of_ble_eq_true rfl) (Nat.le_of_ble_eq_true rfl) ?_
      refine sp_errorBehind (p := 110) (by omega) (by omega) hvd p2 (by omega) (by rw [rs_21 (by omega)]; exact hc) (fun S3 q4 => ?_)
      refine e_istore (pc := 75) dX6_mend_75 (by decide) rfl ?_
      refine e_iload (pc := 77) dX6_mend_77 rfl ?_
      refine e_iload_n (pc := 79) (i := 3) dX6_mend_79 rfl rfl ?_
      refine e_icmp_ge (pc := 80) (tgt := 88) dX6_mend_80 (by decide) (fun h80 => ?_) (fun h80 => ?_)
      · replace h80 := (nI_leI (by omega) (by omega)).mp h80
        rw [if_neg (by omega)] at hih
        refine e_iload (pc := 88) dX6_mend_88 rfl ?_
        refine e_istore (pc := 90) dX6_mend_90 (by decide) rfl ?_
        refine e_iload (pc := 92) dX6_mend_92 rfl ?_
        refine e_iload_n (pc := 94) (i := 3) dX6_mend_94 rfl rfl ?_
        refine e_icmp_ge (pc := 95) (tgt := 103) dX6_mend_95 (by decide) (fun h95 => ?_) (fun h95 => absurd (nI_le h80 (by omega)) h95)
        refine e_iload_n (pc := 103) (i := 3) dX6_mend_103 rfl rfl ?_
        refine e_istore_n (pc := 104) (i := 3) dX6_mend_104 rfl (by decide) rfl ?_
        refine e_iinc' (pc := 105) (nI (j + 1)) dX6_mend_105 rfl (by decide) rfl (nI_1 _) ?_
        refine e_goto (pc := 108) (tgt := 38) dX6_mend_108 (by decide) ?_
        exact hih S3 _ ((hf.tr (f2.same (by omega))).tr q4.same)
      · replace h80 := mt (nI_leI (by omega) (by omega)).mpr h80
        rw [if_pos (by omega)] at hih
        refine e_iload (pc := 83) dX6_mend_83 rfl ?_
        refine e_goto (pc := 85) (tgt := 90) dX6_mend_85 (by decide) ?_
        refine e_istore (pc := 90) dX6_mend_90 (by decide) rfl ?_
        refine e_iload (pc := 92) dX6_mend_92 rfl ?_
        refine e_iload_n (pc := 94) (i := 3) dX6_mend_94 rfl rfl ?_
        refine e_icmp_ge (pc := 95) (tgt := 103) dX6_mend_95 (by decide) (fun h95 => absurd ((nI_leI (by omega) (by omega)).mp h95) h80) (fun h95 => ?_)
        refine e_iload (pc := 98) dX6_mend_98 rfl ?_
        refine e_goto (pc := 100) (tgt := 104) dX6_mend_100 (by decide) ?_
        refine e_istore_n (pc := 104) (i := 3) dX6_mend_104 rfl (by decide) rfl ?_
        refine e_iinc' (pc := 105) (nI (j + 1)) dX6_mend_105 rfl (by decide) rfl (nI_1 _) ?_
        refine e_goto (pc := 108) (tgt := 38) dX6_mend_108 (by decide) ?_
        exact hih S3 _ ((hf.tr (f2.same (by omega))).tr q4.same)
theorem lp_mend1 {sc : PSc} {m : Nat} {R : Rw} {S0 : PS} {Q : PQ} (hv : Vd R) (hc : R 21 ≤ 999999) (hr0 : RowAt S0 1 R) (hm : m ≤ 200) (hbd : ∀ w, w ≤ R 20 → (bestF (fun w => err (pn (rs R (15 + w) 12) m)) (err (pn R m)) w).1 ≤ 248831) (k : ∀ S', Fr 6 5 S0 S' → Q (some (.int (if (bestF (fun w => err (pn (rs R (15 + w) 12) m)) (err (pn R m)) (R 20)).2 = -4 then -4 else nI (bestF (fun w => err (pn (rs R (15 + w) 12) m)) (err (pn R m)) (R 20)).1))) S') : ∀ (n : Nat) (j : Nat) (S : PS) (z : Value), j ≤ R 20 → R 20 - j < n → Fr 6 5 S0 S → E sc mX5_mend 46 [.ref 0, .int (nI m), .int (nI 1), .int (nI (bestF (fun w => err (pn (rs R (15 + w) 12) m)) (err (pn R m)) j).1), .int (bestF (fun w => err (pn (rs R (15 + w) 12) m)) (err (pn R m)) j).2, .int (nI j), z] [] S Q := by
  intro n
  induction n with
  | zero => intro j S z hj hn hf; exact absurd hn (by omega)
  | succ n ih =>
    intro j S z hj hn hf
    have h5 := hv.1
    have hr := hr0.frI hf r6 r1 (by omega)
    have hb1 := hbd j hj
    refine e_iload (pc := 46) dX5_mend_46 rfl ?_
    refine e_aload_n (pc := 48) (i := 0) dX5_mend_48 rfl rfl ?_
    refine e_getR (pc := 49) dX5_mend_49 (fX5_10 rfl) sh_0 rfl ?_
    refine e_getI (pc := 52) dX5_mend_52 (fX5_103 rfl) sh_1 rfl ?_
    refine E.it (nI (R 20)) hr.1 ?_
    refine e_icmp_ge (pc := 55) (tgt := 93) dX5_mend_55 (by decide) (fun h55 => ?_) (fun h55 => ?_)
    · replace h55 := (nI_leI (by omega) (by omega)).mp h55
      obtain e : j = R 20 := by omega
      rw [e]
      refine e_iload (pc := 93) dX5_mend_93 rfl ?_
      refine e_bipush' (pc := 95) (-4) dX5_mend_95 (by decide) ?_
      refine e_icmp_eq (pc := 97) (tgt := 104) dX5_mend_97 (by decide) (fun h97 => ?_) (fun h97 => ?_)
      · refine e_iload (pc := 104) dX5_mend_104 rfl ?_
        refine e_goto (pc := 106) (tgt := 110) dX5_mend_106 (by decide) ?_
        refine e_iret (pc := 110) (st := []) (ty := .int) dX5_mend_110 rfl rfl ?_
        first
          | exact qeq (k S hf) (by rw [if_pos h97, h97])
          | exact qeq (k S hf) (by rw [if_neg h97])
      · refine e_iload_n (pc := 100) (i := 2) dX5_mend_100 rfl rfl ?_
        refine e_if_ne (pc := 101) (tgt := 109) dX5_mend_101 (by decide) (fun h101 => ?_) (fun h101 => absurd h101 (by decide))
        refine e_iload_n (pc := 109) (i := 3) dX5_mend_109 rfl rfl ?_
        refine e_iret (pc := 110) (st := []) (ty := .int) dX5_mend_110 rfl rfl ?_
        first
          | exact qeq (k S hf) (by rw [if_pos h97, h97])
          | exact qeq (k S hf) (by rw [if_neg h97])
    · replace h55 := mt (nI_leI (by omega) (by omega)).mpr h55
      have hw : j < R 20 := by omega
      have hvd : Vd (rs R (15 + j) 12) := set_vd (a := 3) hv hw (by omega)
      have hb2 := err_le (pn_vd hvd m)
      have hih := fun S2 z2 => ih (j + 1) S2 z2 (by omega) (by omega)
      rw [bestF] at hih
      refine e_aload_n (pc := 58) (i := 0) dX5_mend_58 rfl rfl ?_
      refine e_iload (pc := 59) dX5_mend_59 rfl ?_
      refine e_iconst' (pc := 61) (nI 3) dX5_mend_61 (by decide) ?_
      refine e_bipush' (pc := 62) (nI 12) dX5_mend_62 (by decide) ?_
      refine e_callV3 (pc := 64) (M' := mX5_tryPart) dX5_mend_64 iX5_tryPart lkX5_173 (by decide) (rO_obj sh_0 rfl) (Nat.le_of_ble_eq_true rfl) (Nat.le_of_ble_eq_true rfl) ?_
      refine sp_tryPart (v := 12) hv hr hw (by omega) (fun S2 q1 q2 q3 => ?_)
      refine e_aload_n (pc := 67) (i := 0) dX5_mend_67 rfl rfl ?_
      refine e_iload_n (pc := 68) (i := 1) dX5_mend_68 rfl rfl ?_
      refine e_callV1 (pc := 69) (M' := mX5_trialErrorBehind) dX5_mend_69 iX5_trialErrorBehind lkX5_170 (by decide) (rO_obj sh_0 rfl) (Nat.le_of_ble_eq_true rfl) (Nat.le_of_ble_eq_true rfl) ?_
      refine sp_trialErr hvd q1 (by rw [rs_21 (by omega)]; exact hc) (by omega) (fun S3 q4 => ?_)
      refine e_istore (pc := 72) dX5_mend_72 (by decide) rfl ?_
      refine e_iload (pc := 74) dX5_mend_74 rfl ?_
      refine e_iload_n (pc := 76) (i := 3) dX5_mend_76 rfl rfl ?_
      refine e_icmp_ge (pc := 77) (tgt := 87) dX5_mend_77 (by decide) (fun h77 => ?_) (fun h77 => ?_)
      · replace h77 := (nI_leI (by omega) (by omega)).mp h77
        rw [if_neg (by omega)] at hih
        refine e_iinc' (pc := 87) (nI (j + 1)) dX5_mend_87 rfl (by decide) rfl (nI_1 _) ?_
        refine e_goto (pc := 90) (tgt := 46) dX5_mend_90 (by decide) ?_
        exact hih S3 _ ((hf.tr q3).tr q4)
      · replace h77 := mt (nI_leI (by omega) (by omega)).mpr h77
        rw [if_pos (by omega)] at hih
        refine e_iload (pc := 80) dX5_mend_80 rfl ?_
        refine e_istore_n (pc := 82) (i := 3) dX5_mend_82 rfl (by decide) rfl ?_
        refine e_iload (pc := 83) dX5_mend_83 rfl ?_
        refine e_istore (pc := 85) dX5_mend_85 (by decide) rfl ?_
        refine e_iinc' (pc := 87) (nI (j + 1)) dX5_mend_87 rfl (by decide) rfl (nI_1 _) ?_
        refine e_goto (pc := 90) (tgt := 46) dX5_mend_90 (by decide) ?_
        exact hih S3 _ ((hf.tr q3).tr q4)
theorem lm_mend1 {sc : PSc} {m : Nat} {R : Rw} {S0 : PS} {Q : PQ} (hv : Vd R) (hc : R 21 ≤ 999999) (hp0 : PgAt S0 0 R) (hm : m ≤ 200) (hbd : ∀ w, w ≤ R 20 → (bestF (fun w => err (pn (rs R (15 + w) 12) m)) (err (pn R m)) w).1 ≤ 248831) (k : ∀ S', Same S0 S' → Q (some (.int (if (bestF (fun w => err (pn (rs R (15 + w) 12) m)) (err (pn R m)) (R 20)).2 = -4 then -4 else nI (bestF (fun w => err (pn (rs R (15 + w) 12) m)) (err (pn R m)) (R 20)).1))) S') : ∀ (n : Nat) (j : Nat) (S : PS) (z : Value), j ≤ R 20 → R 20 - j < n → Same S0 S → E sc mX6_mend 38 [.ref 54, .int (nI m), .int (nI 1), .int (nI (bestF (fun w => err (pn (rs R (15 + w) 12) m)) (err (pn R m)) j).1), .int (bestF (fun w => err (pn (rs R (15 + w) 12) m)) (err (pn R m)) j).2, .int (nI j), z] [] S Q := by
  intro n
  induction n with
  | zero => intro j S z hj hn hf; exact absurd hn (by omega)
  | succ n ih =>
    intro j S z hj hn hf
    have h5 := hv.1
    have hp := hf.pg (by omega) hv hp0
    have hb1 := hbd j hj
    refine e_iload (pc := 38) dX6_mend_38 rfl ?_
    refine e_aload_n (pc := 40) (i := 0) dX6_mend_40 rfl rfl ?_
    refine e_getR (pc := 41) dX6_mend_41 (fX6_7 rfl) sh_54 rfl ?_
    refine e_bipush' (pc := 44) (nI 20) dX6_mend_44 (by decide) ?_
    refine e_iald (pc := 46) dX6_mend_46 sh_55 (vp_in_nI (by omega) (by omega)) ?_
    refine E.it (nI (R (20))) (pgn (p := 0) (by omega) hp) ?_
    refine e_icmp_ge (pc := 47) (tgt := 111) dX6_mend_47 (by decide) (fun h47 => ?_) (fun h47 => ?_)
    · replace h47 := (nI_leI (by omega) (by omega)).mp h47
      obtain e : j = R 20 := by omega
      rw [e]
      refine e_iload (pc := 111) dX6_mend_111 rfl ?_
      refine e_bipush' (pc := 113) (-4) dX6_mend_113 (by decide) ?_
      refine e_icmp_eq (pc := 115) (tgt := 122) dX6_mend_115 (by decide) (fun h115 => ?_) (fun h115 => ?_)
      · refine e_iload (pc := 122) dX6_mend_122 rfl ?_
        refine e_goto (pc := 124) (tgt := 128) dX6_mend_124 (by decide) ?_
        refine e_iret (pc := 128) (st := []) (ty := .int) dX6_mend_128 rfl rfl ?_
        first
          | exact qeq (k S hf) (by rw [if_pos h115, h115])
          | exact qeq (k S hf) (by rw [if_neg h115])
      · refine e_iload_n (pc := 118) (i := 2) dX6_mend_118 rfl rfl ?_
        refine e_if_ne (pc := 119) (tgt := 127) dX6_mend_119 (by decide) (fun h119 => ?_) (fun h119 => absurd h119 (by decide))
        refine e_iload_n (pc := 127) (i := 3) dX6_mend_127 rfl rfl ?_
        refine e_iret (pc := 128) (st := []) (ty := .int) dX6_mend_128 rfl rfl ?_
        first
          | exact qeq (k S hf) (by rw [if_pos h115, h115])
          | exact qeq (k S hf) (by rw [if_neg h115])
    · replace h47 := mt (nI_leI (by omega) (by omega)).mpr h47
      have hw : j < R 20 := by omega
      have hvd : Vd (rs R (15 + j) 12) := set_vd (a := 3) hv hw (by omega)
      have hb2 := err_le (pn_vd hvd m)
      have hih := fun S2 z2 => ih (j + 1) S2 z2 (by omega) (by omega)
      rw [bestF] at hih
      refine e_aload_n (pc := 50) (i := 0) dX6_mend_50 rfl rfl ?_
      refine e_iconst' (pc := 51) (nI 0) dX6_mend_51 (by decide) ?_
      refine e_bipush' (pc := 52) (nI 110) dX6_mend_52 (by decide) ?_
      refine e_callV2 (pc := 54) (M' := mX6_copies) dX6_mend_54 iX6_copies lkX6_167 (by decide) (rO_obj sh_54 rfl) (Nat.le_of_ble_eq_true rfl) (Nat.le_of_ble_eq_true rfl) ?_
      refine sp_copyPg (b := 110) (by omega) (by omega) (by omega) hv hp (fun S1 p1 f1 => ?_)
      refine e_aload_n (pc := 57) (i := 0) dX6_mend_57 rfl rfl ?_
      refine e_getR (pc := 58) dX6_mend_58 (fX6_7 rfl) sh_54 rfl ?_
      refine e_bipush' (pc := 61) (nI 125) dX6_mend_61 (by decide) ?_
      refine e_iload (pc := 63) dX6_mend_63 rfl ?_
      refine e_iadd (pc := 65) dX6_mend_65 ?_
      refine E.it (nI (125 + j)) (nI_add _ _) ?_
      refine e_iconst' (pc := 66) (nI 0) dX6_mend_66 (by decide) ?_
      refine e_iast (pc := 67) dX6_mend_67 sh_55 (vp_in_nI (by omega) (by omega)) ?_
      rw [nI_clamp (show 125 + j < 2 ^ 31 by omega)]
      have p2 : PgAt (up2 S1.1 55 (125 + j) (nI 0), S1.2) 110 (rs R (15 + j) 12) := p1.set (a := 3) (v := 12) h5 (by omega) (by omega)
      have f2 : FrQ 110 S (up2 S1.1 55 (125 + j) (nI 0), S1.2) := f1.up (by omega) (by omega)
      refine e_aload_n (pc := 68) (i := 0) dX6_mend_68 rfl rfl ?_
      refine e_bipush' (pc := 69) (nI 110) dX6_mend_69 (by decide) ?_
      refine e_iload_n (pc := 71) (i := 1) dX6_mend_71 rfl rfl ?_
      refine e_callV2 (pc := 72) (M' := mX6_errorBehind) dX6_mend_72 iX6_errorBehind lkX6_187 (by decide) (rO_obj sh_54 rfl) (Nat.le_of_ble_eq_true rfl) (Nat.le_of_ble_eq_true rfl) ?_
      refine sp_errorBehind (p := 110) (by omega) (by omega) hvd p2 (by omega) (by rw [rs_21 (by omega)]; exact hc) (fun S3 q4 => ?_)
      refine e_istore (pc := 75) dX6_mend_75 (by decide) rfl ?_
      refine e_iload (pc := 77) dX6_mend_77 rfl ?_
      refine e_iload_n (pc := 79) (i := 3) dX6_mend_79 rfl rfl ?_
      refine e_icmp_ge (pc := 80) (tgt := 88) dX6_mend_80 (by decide) (fun h80 => ?_) (fun h80 => ?_)
      · replace h80 := (nI_leI (by omega) (by omega)).mp h80
        rw [if_neg (by omega)] at hih
        refine e_iload (pc := 88) dX6_mend_88 rfl ?_
        refine e_istore (pc := 90) dX6_mend_90 (by decide) rfl ?_
        refine e_iload (pc := 92) dX6_mend_92 rfl ?_
        refine e_iload_n (pc := 94) (i := 3) dX6_mend_94 rfl rfl ?_
        refine e_icmp_ge (pc := 95) (tgt := 103) dX6_mend_95 (by decide) (fun h95 => ?_) (fun h95 => absurd (nI_le h80 (by omega)) h95)
        refine e_iload_n (pc := 103) (i := 3) dX6_mend_103 rfl rfl ?_
        refine e_istore_n (pc := 104) (i := 3) dX6_mend_104 rfl (by decide) rfl ?_
        refine e_iinc' (pc := 105) (nI (j + 1)) dX6_mend_105 rfl (by decide) rfl (nI_1 _) ?_
        refine e_goto (pc := 108) (tgt := 38) dX6_mend_108 (by decide) ?_
        exact hih S3 _ ((hf.tr (f2.same (by omega))).tr q4.same)
      · replace h80 := mt (nI_leI (by omega) (by omega)).mpr h80
        rw [if_pos (by omega)] at hih
        refine e_iload (pc := 83) dX6_mend_83 rfl ?_
        refine e_goto (pc := 85) (tgt := 90) dX6_mend_85 (by decide) ?_
        refine e_istore (pc := 90) dX6_mend_90 (by decide) rfl ?_
        refine e_iload (pc := 92) dX6_mend_92 rfl ?_
        refine e_iload_n (pc := 94) (i := 3) dX6_mend_94 rfl rfl ?_
        refine e_icmp_ge (pc := 95) (tgt := 103) dX6_mend_95 (by decide) (fun h95 => absurd ((nI_leI (by omega) (by omega)).mp h95) h80) (fun h95 => ?_)
        refine e_iload (pc := 98) dX6_mend_98 rfl ?_
        refine e_goto (pc := 100) (tgt := 104) dX6_mend_100 (by decide) ?_
        refine e_istore_n (pc := 104) (i := 3) dX6_mend_104 rfl (by decide) rfl ?_
        refine e_iinc' (pc := 105) (nI (j + 1)) dX6_mend_105 rfl (by decide) rfl (nI_1 _) ?_
        refine e_goto (pc := 108) (tgt := 38) dX6_mend_108 (by decide) ?_
        exact hih S3 _ ((hf.tr (f2.same (by omega))).tr q4.same)
theorem b_mend {sc : PSc} {S : PS} (hI : InvS S) (x y : Int32) : Bth sc mX5_mend mX6_mend [.int x, .int y] S := by
  obtain ⟨R, hv, hc, hr, hp⟩ := hI.1
  have hv5 := hv.1
  rcases Classical.em (inr x 0 200) with ⟨m, rfl, -, hm⟩ | hn
  · rcases Classical.em (inr y 0 1) with ⟨a, rfl, -, ha⟩ | hn
    · have hbd : ∀ w, w ≤ R 20 → (bestF (fun w => err (pn (rs R (15 + w) 12) m)) (err (pn R m)) w).1 ≤ 248831 := by
        intro w
        induction w with
        | zero => intro _; exact err_le (pn_vd hv m)
        | succ w ih =>
          intro hw
          rw [bestF]
          split
          · exact err_le (pn_vd (set_vd (a := 3) hv (by omega) (by omega)) m)
          · exact ih (by omega)
      rcases (show a = 0 ∨ a = 1 by omega) with rfl | rfl
      · refine ask_both ((bestF (fun w => err (pn (rs R (15 + w) 12) m)) (err (pn R m)) (R 20)).2) hI (fun Q k => ?_) (fun S1 h1 Q k => ?_)
        · show E sc mX5_mend 0 [.ref 0, .int (nI m), .int (nI 0), .null, .null, .null, .null] [] S Q
          refine e_iload_n (pc := 0) (i := 1) dX5_mend_0 rfl rfl ?_
          refine e_iconst' (pc := 1) (nI 0) dX5_mend_1 (by decide) ?_
          refine e_sipush' (pc := 2) (nI 200) dX5_mend_2 (by decide) ?_
          refine e_callS3 (pc := 5) (M' := mX5_within) dX5_mend_5 jX5_within lkX5_70 (by decide) (Nat.le_of_ble_eq_true rfl) (Nat.le_of_ble_eq_true rfl) ?_
          refine sp_winY (by omega) (by omega) (by omega) ?_
          refine e_if_eq (pc := 8) (tgt := 20) dX5_mend_8 (by decide) (fun h8 => absurd h8 (by decide)) (fun h8 => ?_)
          refine e_iload_n (pc := 11) (i := 2) dX5_mend_11 rfl rfl ?_
          refine e_iconst' (pc := 12) (nI 0) dX5_mend_12 (by decide) ?_
          refine e_iconst' (pc := 13) (nI 1) dX5_mend_13 (by decide) ?_
          refine e_callS3 (pc := 14) (M' := mX5_within) dX5_mend_14 jX5_within lkX5_70 (by decide) (Nat.le_of_ble_eq_true rfl) (Nat.le_of_ble_eq_true rfl) ?_
          refine sp_winY (by omega) (by omega) (by omega) ?_
          refine e_if_ne (pc := 17) (tgt := 22) dX5_mend_17 (by decide) (fun h17 => ?_) (fun h17 => absurd h17 (by decide))
          refine e_aload_n (pc := 22) (i := 0) dX5_mend_22 rfl rfl ?_
          refine e_getR (pc := 23) dX5_mend_23 (fX5_16 rfl) sh_0 rfl ?_
          refine e_aload_n (pc := 26) (i := 0) dX5_mend_26 rfl rfl ?_
          refine e_getR (pc := 27) dX5_mend_27 (fX5_10 rfl) sh_0 rfl ?_
          refine e_callV1 (pc := 30) (M' := mX0_copyOf) dX5_mend_30 iX0_copyOf lkX5_90 (by decide) (rO_obj sh_6 rfl) (Nat.le_of_ble_eq_true rfl) (Nat.le_of_ble_eq_true rfl) ?_
          refine sp_copyOf r6 r1 (by omega) hv hr (fun S1 ht hc0 hf => ?_)
          refine e_aload_n (pc := 33) (i := 0) dX5_mend_33 rfl rfl ?_
          refine e_iload_n (pc := 34) (i := 1) dX5_mend_34 rfl rfl ?_
          refine e_callV1 (pc := 35) (M' := mX5_trialErrorBehind) dX5_mend_35 iX5_trialErrorBehind lkX5_170 (by decide) (rO_obj sh_0 rfl) (Nat.le_of_ble_eq_true rfl) (Nat.le_of_ble_eq_true rfl) ?_
          refine sp_trialErr hv ht hc (by omega) (fun S3 q4 => ?_)
          refine e_istore_n (pc := 38) (i := 3) dX5_mend_38 rfl (by decide) rfl ?_
          refine e_bipush' (pc := 39) (-4) dX5_mend_39 (by decide) ?_
          refine e_istore (pc := 41) dX5_mend_41 (by decide) rfl ?_
          refine e_iconst' (pc := 43) (nI 0) dX5_mend_43 (by decide) ?_
          refine e_istore (pc := 44) dX5_mend_44 (by decide) rfl ?_
          exact lp_mend0 hv hc hr hm hbd (fun S2 h2 => k S2 h2.same) (R 20 + 1) 0 S3 _ (by omega) (by omega) (hf.tr q4)
        · show E sc mX6_mend 0 [.ref 54, .int (nI m), .int (nI 0), .null, .null, .null, .null] [] S1 Q
          have hp := h1.pg (by omega) hv hp
          have hr := h1.row (by omega) hr
          refine e_iload_n (pc := 0) (i := 1) dX6_mend_0 rfl rfl ?_
          refine e_i2l (pc := 1) dX6_mend_1 ?_
          refine e_lconst' (pc := 2) (lN 0) dX6_mend_2 (by decide) ?_
          refine e_ldc2 (pc := 3) dX6_mend_3 (klX6_185 rfl) ?_
          refine e_callS3 (pc := 6) (M' := mX6_in) dX6_mend_6 jX6_in lkX6_46 (by decide) (Nat.le_of_ble_eq_true rfl) (Nat.le_of_ble_eq_true rfl) ?_
          refine sp_inY (lo := 0) (hi := 200) (by decide) (by decide) (by omega) (by omega) (by omega) ?_
          refine e_if_eq (pc := 9) (tgt := 22) dX6_mend_9 (by decide) (fun h9 => absurd h9 (by decide)) (fun h9 => ?_)
          refine e_iload_n (pc := 12) (i := 2) dX6_mend_12 rfl rfl ?_
          refine e_i2l (pc := 13) dX6_mend_13 ?_
          refine e_lconst' (pc := 14) (lN 0) dX6_mend_14 (by decide) ?_
          refine e_lconst' (pc := 15) (lN 1) dX6_mend_15 (by decide) ?_
          refine e_callS3 (pc := 16) (M' := mX6_in) dX6_mend_16 jX6_in lkX6_46 (by decide) (Nat.le_of_ble_eq_true rfl) (Nat.le_of_ble_eq_true rfl) ?_
          refine sp_inY (lo := 0) (hi := 1) (by decide) (by decide) (by omega) (by omega) (by omega) ?_
          refine e_if_ne (pc := 19) (tgt := 24) dX6_mend_19 (by decide) (fun h19 => ?_) (fun h19 => absurd h19 (by decide))
          refine e_aload_n (pc := 24) (i := 0) dX6_mend_24 rfl rfl ?_
          refine e_iconst' (pc := 25) (nI 0) dX6_mend_25 (by decide) ?_
          refine e_iload_n (pc := 26) (i := 1) dX6_mend_26 rfl rfl ?_
          refine e_callV2 (pc := 27) (M' := mX6_errorBehind) dX6_mend_27 iX6_errorBehind lkX6_187 (by decide) (rO_obj sh_54 rfl) (Nat.le_of_ble_eq_true rfl) (Nat.le_of_ble_eq_true rfl) ?_
          refine sp_errorBehind (p := 0) (by omega) (by omega) hv hp (by omega) hc (fun S3 q4 => ?_)
          refine e_istore_n (pc := 30) (i := 3) dX6_mend_30 rfl (by decide) rfl ?_
          refine e_bipush' (pc := 31) (-4) dX6_mend_31 (by decide) ?_
          refine e_istore (pc := 33) dX6_mend_33 (by decide) rfl ?_
          refine e_iconst' (pc := 35) (nI 0) dX6_mend_35 (by decide) ?_
          refine e_istore (pc := 36) dX6_mend_36 (by decide) rfl ?_
          exact lm_mend0 hv hc hp hm hbd k (R 20 + 1) 0 S3 _ (by omega) (by omega) q4.same
      · refine ask_both (if (bestF (fun w => err (pn (rs R (15 + w) 12) m)) (err (pn R m)) (R 20)).2 = -4 then -4 else nI (bestF (fun w => err (pn (rs R (15 + w) 12) m)) (err (pn R m)) (R 20)).1) hI (fun Q k => ?_) (fun S1 h1 Q k => ?_)
        · show E sc mX5_mend 0 [.ref 0, .int (nI m), .int (nI 1), .null, .null, .null, .null] [] S Q
          refine e_iload_n (pc := 0) (i := 1) dX5_mend_0 rfl rfl ?_
          refine e_iconst' (pc := 1) (nI 0) dX5_mend_1 (by decide) ?_
          refine e_sipush' (pc := 2) (nI 200) dX5_mend_2 (by decide) ?_
          refine e_callS3 (pc := 5) (M' := mX5_within) dX5_mend_5 jX5_within lkX5_70 (by decide) (Nat.le_of_ble_eq_true rfl) (Nat.le_of_ble_eq_true rfl) ?_
          refine sp_winY (by omega) (by omega) (by omega) ?_
          refine e_if_eq (pc := 8) (tgt := 20) dX5_mend_8 (by decide) (fun h8 => absurd h8 (by decide)) (fun h8 => ?_)
          refine e_iload_n (pc := 11) (i := 2) dX5_mend_11 rfl rfl ?_
          refine e_iconst' (pc := 12) (nI 0) dX5_mend_12 (by decide) ?_
          refine e_iconst' (pc := 13) (nI 1) dX5_mend_13 (by decide) ?_
          refine e_callS3 (pc := 14) (M' := mX5_within) dX5_mend_14 jX5_within lkX5_70 (by decide) (Nat.le_of_ble_eq_true rfl) (Nat.le_of_ble_eq_true rfl) ?_
          refine sp_winY (by omega) (by omega) (by omega) ?_
          refine e_if_ne (pc := 17) (tgt := 22) dX5_mend_17 (by decide) (fun h17 => ?_) (fun h17 => absurd h17 (by decide))
          refine e_aload_n (pc := 22) (i := 0) dX5_mend_22 rfl rfl ?_
          refine e_getR (pc := 23) dX5_mend_23 (fX5_16 rfl) sh_0 rfl ?_
          refine e_aload_n (pc := 26) (i := 0) dX5_mend_26 rfl rfl ?_
          refine e_getR (pc := 27) dX5_mend_27 (fX5_10 rfl) sh_0 rfl ?_
          refine e_callV1 (pc := 30) (M' := mX0_copyOf) dX5_mend_30 iX0_copyOf lkX5_90 (by decide) (rO_obj sh_6 rfl) (Nat.le_of_ble_eq_true rfl) (Nat.le_of_ble_eq_true rfl) ?_
          refine sp_copyOf r6 r1 (by omega) hv hr (fun S1 ht hc0 hf => ?_)
          refine e_aload_n (pc := 33) (i := 0) dX5_mend_33 rfl rfl ?_
          refine e_iload_n (pc := 34) (i := 1) dX5_mend_34 rfl rfl ?_
          refine e_callV1 (pc := 35) (M' := mX5_trialErrorBehind) dX5_mend_35 iX5_trialErrorBehind lkX5_170 (by decide) (rO_obj sh_0 rfl) (Nat.le_of_ble_eq_true rfl) (Nat.le_of_ble_eq_true rfl) ?_
          refine sp_trialErr hv ht hc (by omega) (fun S3 q4 => ?_)
          refine e_istore_n (pc := 38) (i := 3) dX5_mend_38 rfl (by decide) rfl ?_
          refine e_bipush' (pc := 39) (-4) dX5_mend_39 (by decide) ?_
          refine e_istore (pc := 41) dX5_mend_41 (by decide) rfl ?_
          refine e_iconst' (pc := 43) (nI 0) dX5_mend_43 (by decide) ?_
          refine e_istore (pc := 44) dX5_mend_44 (by decide) rfl ?_
          exact lp_mend1 hv hc hr hm hbd (fun S2 h2 => k S2 h2.same) (R 20 + 1) 0 S3 _ (by omega) (by omega) (hf.tr q4)
        · show E sc mX6_mend 0 [.ref 54, .int (nI m), .int (nI 1), .null, .null, .null, .null] [] S1 Q
          have hp := h1.pg (by omega) hv hp
          have hr := h1.row (by omega) hr
          refine e_iload_n (pc := 0) (i := 1) dX6_mend_0 rfl rfl ?_
          refine e_i2l (pc := 1) dX6_mend_1 ?_
          refine e_lconst' (pc := 2) (lN 0) dX6_mend_2 (by decide) ?_
          refine e_ldc2 (pc := 3) dX6_mend_3 (klX6_185 rfl) ?_
          refine e_callS3 (pc := 6) (M' := mX6_in) dX6_mend_6 jX6_in lkX6_46 (by decide) (Nat.le_of_ble_eq_true rfl) (Nat.le_of_ble_eq_true rfl) ?_
          refine sp_inY (lo := 0) (hi := 200) (by decide) (by decide) (by omega) (by omega) (by omega) ?_
          refine e_if_eq (pc := 9) (tgt := 22) dX6_mend_9 (by decide) (fun h9 => absurd h9 (by decide)) (fun h9 => ?_)
          refine e_iload_n (pc := 12) (i := 2) dX6_mend_12 rfl rfl ?_
          refine e_i2l (pc := 13) dX6_mend_13 ?_
          refine e_lconst' (pc := 14) (lN 0) dX6_mend_14 (by decide) ?_
          refine e_lconst' (pc := 15) (lN 1) dX6_mend_15 (by decide) ?_
          refine e_callS3 (pc := 16) (M' := mX6_in) dX6_mend_16 jX6_in lkX6_46 (by decide) (Nat.le_of_ble_eq_true rfl) (Nat.le_of_ble_eq_true rfl) ?_
          refine sp_inY (lo := 0) (hi := 1) (by decide) (by decide) (by omega) (by omega) (by omega) ?_
          refine e_if_ne (pc := 19) (tgt := 24) dX6_mend_19 (by decide) (fun h19 => ?_) (fun h19 => absurd h19 (by decide))
          refine e_aload_n (pc := 24) (i := 0) dX6_mend_24 rfl rfl ?_
          refine e_iconst' (pc := 25) (nI 0) dX6_mend_25 (by decide) ?_
          refine e_iload_n (pc := 26) (i := 1) dX6_mend_26 rfl rfl ?_
          refine e_callV2 (pc := 27) (M' := mX6_errorBehind) dX6_mend_27 iX6_errorBehind lkX6_187 (by decide) (rO_obj sh_54 rfl) (Nat.le_of_ble_eq_true rfl) (Nat.le_of_ble_eq_true rfl) ?_
          refine sp_errorBehind (p := 0) (by omega) (by omega) hv hp (by omega) hc (fun S3 q4 => ?_)
          refine e_istore_n (pc := 30) (i := 3) dX6_mend_30 rfl (by decide) rfl ?_
          refine e_bipush' (pc := 31) (-4) dX6_mend_31 (by decide) ?_
          refine e_istore (pc := 33) dX6_mend_33 (by decide) rfl ?_
          refine e_iconst' (pc := 35) (nI 0) dX6_mend_35 (by decide) ?_
          refine e_istore (pc := 36) dX6_mend_36 (by decide) rfl ?_
          exact lm_mend1 hv hc hp hm hbd k (R 20 + 1) 0 S3 _ (by omega) (by omega) q4.same
    · refine ask_both (-1) hI (fun Q k => ?_) (fun S1 h1 Q k => ?_)
      · show E sc mX5_mend 0 [.ref 0, .int (nI m), .int y, .null, .null, .null, .null] [] S Q
        refine e_iload_n (pc := 0) (i := 1) dX5_mend_0 rfl rfl ?_
        refine e_iconst' (pc := 1) (nI 0) dX5_mend_1 (by decide) ?_
        refine e_sipush' (pc := 2) (nI 200) dX5_mend_2 (by decide) ?_
        refine e_callS3 (pc := 5) (M' := mX5_within) dX5_mend_5 jX5_within lkX5_70 (by decide) (Nat.le_of_ble_eq_true rfl) (Nat.le_of_ble_eq_true rfl) ?_
        refine sp_winY (by omega) (by omega) (by omega) ?_
        refine e_if_eq (pc := 8) (tgt := 20) dX5_mend_8 (by decide) (fun h8 => absurd h8 (by decide)) (fun h8 => ?_)
        refine e_iload_n (pc := 11) (i := 2) dX5_mend_11 rfl rfl ?_
        refine e_iconst' (pc := 12) (nI 0) dX5_mend_12 (by decide) ?_
        refine e_iconst' (pc := 13) (nI 1) dX5_mend_13 (by decide) ?_
        refine e_callS3 (pc := 14) (M' := mX5_within) dX5_mend_14 jX5_within lkX5_70 (by decide) (Nat.le_of_ble_eq_true rfl) (Nat.le_of_ble_eq_true rfl) ?_
        refine sp_winX hn (by omega) (by omega) ?_
        refine e_if_ne (pc := 17) (tgt := 22) dX5_mend_17 (by decide) (fun h17 => absurd (by decide) h17) (fun h17 => ?_)
        refine e_iconst' (pc := 20) (-1) dX5_mend_20 (by decide) ?_
        refine e_iret (pc := 21) (st := []) (ty := .int) dX5_mend_21 rfl rfl ?_
        exact k _ Same.rf
      · show E sc mX6_mend 0 [.ref 54, .int (nI m), .int y, .null, .null, .null, .null] [] S1 Q
        have hp := h1.pg (by omega) hv hp
        have hr := h1.row (by omega) hr
        refine e_iload_n (pc := 0) (i := 1) dX6_mend_0 rfl rfl ?_
        refine e_i2l (pc := 1) dX6_mend_1 ?_
        refine e_lconst' (pc := 2) (lN 0) dX6_mend_2 (by decide) ?_
        refine e_ldc2 (pc := 3) dX6_mend_3 (klX6_185 rfl) ?_
        refine e_callS3 (pc := 6) (M' := mX6_in) dX6_mend_6 jX6_in lkX6_46 (by decide) (Nat.le_of_ble_eq_true rfl) (Nat.le_of_ble_eq_true rfl) ?_
        refine sp_inY (lo := 0) (hi := 200) (by decide) (by decide) (by omega) (by omega) (by omega) ?_
        refine e_if_eq (pc := 9) (tgt := 22) dX6_mend_9 (by decide) (fun h9 => absurd h9 (by decide)) (fun h9 => ?_)
        refine e_iload_n (pc := 12) (i := 2) dX6_mend_12 rfl rfl ?_
        refine e_i2l (pc := 13) dX6_mend_13 ?_
        refine e_lconst' (pc := 14) (lN 0) dX6_mend_14 (by decide) ?_
        refine e_lconst' (pc := 15) (lN 1) dX6_mend_15 (by decide) ?_
        refine e_callS3 (pc := 16) (M' := mX6_in) dX6_mend_16 jX6_in lkX6_46 (by decide) (Nat.le_of_ble_eq_true rfl) (Nat.le_of_ble_eq_true rfl) ?_
        refine sp_inX (lo := 0) (hi := 1) (by decide) (by decide) hn ?_
        refine e_if_ne (pc := 19) (tgt := 24) dX6_mend_19 (by decide) (fun h19 => absurd (by decide) h19) (fun h19 => ?_)
        refine e_iconst' (pc := 22) (-1) dX6_mend_22 (by decide) ?_
        refine e_iret (pc := 23) (st := []) (ty := .int) dX6_mend_23 rfl rfl ?_
        exact k _ Same.rf
  · refine ask_both (-1) hI (fun Q k => ?_) (fun S1 h1 Q k => ?_)
    · show E sc mX5_mend 0 [.ref 0, .int x, .int y, .null, .null, .null, .null] [] S Q
      refine e_iload_n (pc := 0) (i := 1) dX5_mend_0 rfl rfl ?_
      refine e_iconst' (pc := 1) (nI 0) dX5_mend_1 (by decide) ?_
      refine e_sipush' (pc := 2) (nI 200) dX5_mend_2 (by decide) ?_
      refine e_callS3 (pc := 5) (M' := mX5_within) dX5_mend_5 jX5_within lkX5_70 (by decide) (Nat.le_of_ble_eq_true rfl) (Nat.le_of_ble_eq_true rfl) ?_
      refine sp_winX hn (by omega) (by omega) ?_
      refine e_if_eq (pc := 8) (tgt := 20) dX5_mend_8 (by decide) (fun h8 => ?_) (fun h8 => absurd (by decide) h8)
      refine e_iconst' (pc := 20) (-1) dX5_mend_20 (by decide) ?_
      refine e_iret (pc := 21) (st := []) (ty := .int) dX5_mend_21 rfl rfl ?_
      exact k _ Same.rf
    · show E sc mX6_mend 0 [.ref 54, .int x, .int y, .null, .null, .null, .null] [] S1 Q
      have hp := h1.pg (by omega) hv hp
      have hr := h1.row (by omega) hr
      refine e_iload_n (pc := 0) (i := 1) dX6_mend_0 rfl rfl ?_
      refine e_i2l (pc := 1) dX6_mend_1 ?_
      refine e_lconst' (pc := 2) (lN 0) dX6_mend_2 (by decide) ?_
      refine e_ldc2 (pc := 3) dX6_mend_3 (klX6_185 rfl) ?_
      refine e_callS3 (pc := 6) (M' := mX6_in) dX6_mend_6 jX6_in lkX6_46 (by decide) (Nat.le_of_ble_eq_true rfl) (Nat.le_of_ble_eq_true rfl) ?_
      refine sp_inX (lo := 0) (hi := 200) (by decide) (by decide) hn ?_
      refine e_if_eq (pc := 9) (tgt := 22) dX6_mend_9 (by decide) (fun h9 => ?_) (fun h9 => absurd (by decide) h9)
      refine e_iconst' (pc := 22) (-1) dX6_mend_22 (by decide) ?_
      refine e_iret (pc := 23) (st := []) (ty := .int) dX6_mend_23 rfl rfl ?_
      exact k _ Same.rf

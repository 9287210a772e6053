/-- the least of f below m, the first one, from a first number on -/
def lbi (f : Nat → Nat) (i0 : Nat) : Nat → Nat × Nat
  | 0 => (i0, 0)
  | v + 1 => if f v < (lbi f i0 v).1 then (f v, v) else lbi f i0 v
theorem lbi_init {f : Nat → Nat} {i0 i1 : Nat} (h0 : f 0 < i0) (h1 : f 0 < i1) : ∀ v, lbi f i0 (v + 1) = lbi f i1 (v + 1)
  | 0 => by rw [lbi, lbi, lbi, lbi, if_pos h0, if_pos h1]
  | v + 1 => by rw [lbi, lbi_init h0 h1 v, ← lbi]
theorem lbi_le {f : Nat → Nat} {i0 b n : Nat} (hf : ∀ v, v < n → f v ≤ b) (h0 : b < i0) : ∀ v, v ≤ n → (lbi f i0 v).1 ≤ i0
  | 0, _ => Nat.le_refl _
  | v + 1, h => by
    rw [lbi]
    split
    · have := hf v (by omega)
      show f v ≤ i0
      omega
    · exact lbi_le hf h0 v (by omega)
theorem rs_rs (R : Rw) (i v u : Nat) : rs (rs R i v) i u = rs R i u := by
  funext j
  unfold rs
  split <;> rfl
theorem lp_best00 {sc : PSc} {w m c : Nat} {R : Rw} {S0 : PS} {Q : PQ} (hv : Vd R) (hc : R 21 ≤ 999999) (hr0 : RowAt S0 1 R) (hw : w < R 20) (hm : m ≤ 200) (hcv : c ≤ 4) (hc12 : c ≤ 12) (k : ∀ S', Fr 6 5 S0 S' → Q (some (.int (nI (lbi (fun v => err (pn (rs R (5 * 0 + w) v) m)) 248832 c).2))) S') : ∀ (n : Nat) (j : Nat) (S : PS) (z : Value), j ≤ c → c - j < n → Fr 6 5 S0 S → E sc mX5_bestPart 64 [.ref 0, .int (nI w), .int (nI 0), .int (nI m), .int (nI 0), .int (nI c), .int (nI (lbi (fun v => err (pn (rs R (5 * 0 + w) v) m)) 248832 j).1), .int (nI (lbi (fun v => err (pn (rs R (5 * 0 + w) v) m)) 248832 j).2), .int (nI j), z] [] S Q := by
  intro n
  induction n with
  | zero => intro j S z hj hn hf; exact absurd hn (by omega)
  | succ n ih =>
    intro j S z hj hn hf
    have h5 := hv.1
    have htw := hv.2 w hw
    have hr := hr0.frI hf r6 r1 (by omega)
    have hq : ∀ v, v < c → Vd (rs R (5 * 0 + w) v) := fun v hv2 => set_vd (a := 0) hv hw (Or.inl ⟨rfl, by omega⟩)
    have hb1 := lbi_le (f := fun v => err (pn (rs R (5 * 0 + w) v) m)) (i0 := 248832) (n := c) (fun v hv2 => err_le (pn_vd (hq v hv2) m)) (by omega) j hj
    refine e_iload (pc := 64) dX5_bestPart_64 rfl ?_
    refine e_iload (pc := 66) dX5_bestPart_66 rfl ?_
    refine e_icmp_ge (pc := 68) (tgt := 132) dX5_bestPart_68 (by decide) (fun h68 => ?_) (fun h68 => ?_)
    · replace h68 := (nI_leI (by omega) (by omega)).mp h68
      obtain rfl : j = c := by omega
      refine e_iload (pc := 132) dX5_bestPart_132 rfl ?_
      refine e_if_ne (pc := 134) (tgt := 142) dX5_bestPart_134 (by decide) (fun h134 => absurd (by decide) h134) (fun h134 => ?_)
      refine e_iload (pc := 137) dX5_bestPart_137 rfl ?_
      refine e_goto (pc := 139) (tgt := 144) dX5_bestPart_139 (by decide) ?_
      refine e_iret (pc := 144) (st := []) (ty := .int) dX5_bestPart_144 rfl rfl ?_
      exact k S hf
    · replace h68 := mt (nI_leI (by omega) (by omega)).mpr h68
      have hvd := hq j (by omega)
      have hb2 := err_le (pn_vd hvd m)
      have hih := fun S2 z2 => ih (j + 1) S2 z2 (by omega) (by omega)
      rw [lbi] at hih
      refine e_aload_n (pc := 71) (i := 0) dX5_bestPart_71 rfl rfl ?_
      refine e_iload_n (pc := 72) (i := 1) dX5_bestPart_72 rfl rfl ?_
      refine e_iload_n (pc := 73) (i := 2) dX5_bestPart_73 rfl rfl ?_
      refine e_iload (pc := 74) dX5_bestPart_74 rfl ?_
      refine e_callV3 (pc := 76) (M' := mX5_tryPart) dX5_bestPart_76 iX5_tryPart lkX5_173 (by decide) (rO_obj sh_0 rfl) (Nat.le_of_ble_eq_true rfl) (Nat.le_of_ble_eq_true rfl) ?_
      refine sp_tryPart (a := 0) (v := j) hv hr hw (by omega) (fun S2 q1 q2 q3 => ?_)
      refine e_aload_n (pc := 79) (i := 0) dX5_bestPart_79 rfl rfl ?_
      refine e_getR (pc := 80) dX5_bestPart_80 (fX5_16 rfl) sh_0 rfl ?_
      refine e_iload_n (pc := 83) (i := 3) dX5_bestPart_83 rfl rfl ?_
      refine e_callV1 (pc := 84) (M' := mX0_push) dX5_bestPart_84 iX0_push lkX5_148 (by decide) (rO_obj sh_6 rfl) (Nat.le_of_ble_eq_true rfl) (Nat.le_of_ble_eq_true rfl) ?_
      refine sp_push r6 hvd q1 (by omega) (fun S3 q4 q5 q6 => ?_)
      refine e_iload_n (pc := 87) (i := 2) dX5_bestPart_87 rfl rfl ?_
      refine e_iconst' (pc := 88) (nI 3) dX5_bestPart_88 (by decide) ?_
      refine e_icmp_ne (pc := 89) (tgt := 102) dX5_bestPart_89 (by decide) (fun h89 => ?_) (fun h89 => absurd h89 (by decide))
      refine e_aload_n (pc := 102) (i := 0) dX5_bestPart_102 rfl rfl ?_
      refine e_getR (pc := 103) dX5_bestPart_103 (fX5_16 rfl) sh_0 rfl ?_
      refine e_callV0 (pc := 106) (M' := mX0_error) dX5_bestPart_106 iX0_error lkX5_114 (by decide) (rO_obj sh_6 rfl) (Nat.le_of_ble_eq_true rfl) (Nat.le_of_ble_eq_true rfl) ?_
      refine sp_error r6 (pn_vd hvd m) q4 (by rw [pn_count hvd, rs_21 (by omega)]; omega) ?_
      refine e_istore (pc := 109) dX5_bestPart_109 (by decide) rfl ?_
      refine e_iload (pc := 111) dX5_bestPart_111 rfl ?_
      refine e_iload (pc := 113) dX5_bestPart_113 rfl ?_
      refine e_icmp_ge (pc := 115) (tgt := 126) dX5_bestPart_115 (by decide) (fun h115 => ?_) (fun h115 => ?_)
      · replace h115 := (nI_leI (by omega) (by omega)).mp h115
        rw [if_neg (by omega)] at hih
        refine e_iinc' (pc := 126) (nI (j + 1)) dX5_bestPart_126 rfl (by decide) rfl (nI_1 _) ?_
        refine e_goto (pc := 129) (tgt := 64) dX5_bestPart_129 (by decide) ?_
        exact hih S3 _ ((hf.tr q3).tr q6)
      · replace h115 := mt (nI_leI (by omega) (by omega)).mpr h115
        rw [if_pos (by omega)] at hih
        refine e_iload (pc := 118) dX5_bestPart_118 rfl ?_
        refine e_istore (pc := 120) dX5_bestPart_120 (by decide) rfl ?_
        refine e_iload (pc := 122) dX5_bestPart_122 rfl ?_
        refine e_istore (pc := 124) dX5_bestPart_124 (by decide) rfl ?_
        refine e_iinc' (pc := 126) (nI (j + 1)) dX5_bestPart_126 rfl (by decide) rfl (nI_1 _) ?_
        refine e_goto (pc := 129) (tgt := 64) dX5_bestPart_129 (by decide) ?_
        exact hih S3 _ ((hf.tr q3).tr q6)
theorem lm_best00 {sc : PSc} {w m c : Nat} {R : Rw} {S0 : PS} {Q : PQ} (hv : Vd R) (hc : R 21 ≤ 999999) (hw : w < R 20) (hm : m ≤ 200) (hcv : c ≤ 4) (hc12 : c ≤ 12) (k : ∀ S', Same S0 S' → Q (some (.int (nI (lbi (fun v => err (pn (rs R (5 * 0 + w) v) m)) 1000000 c).2))) S') : ∀ (n : Nat) (j : Nat) (S : PS) (z : Value) (R2 : Rw), j ≤ c → c - j < n → Same S0 S → PgAt S 110 R2 → R2 20 = R 20 → (∀ v, rs R2 (5 * 0 + w) v = rs R (5 * 0 + w) v) → E sc mX6_leastAt 17 [.ref 54, .int (nI (5 * 0 + w)), .int (nI 0), .int (nI c), .int (nI m), .int (nI 0), .int (nI 0), .int (nI (lbi (fun v => err (pn (rs R (5 * 0 + w) v) m)) 1000000 j).1), .int (nI (lbi (fun v => err (pn (rs R (5 * 0 + w) v) m)) 1000000 j).2), .int (nI j), z] [] S Q := by
  intro n
  induction n with
  | zero => intro j S z R2 hj hn hf p1 h20 hrs; exact absurd hn (by omega)
  | succ n ih =>
    intro j S z R2 hj hn hf p1 h20 hrs
    have h5 := hv.1
    have htw := hv.2 w hw
    have hq : ∀ v, v < c → Vd (rs R (5 * 0 + w) v) := fun v hv2 => set_vd (a := 0) hv hw (Or.inl ⟨rfl, by omega⟩)
    have hb1 := lbi_le (f := fun v => err (pn (rs R (5 * 0 + w) v) m)) (i0 := 1000000) (n := c) (fun v hv2 => err_le (pn_vd (hq v hv2) m)) (by omega) j hj
    refine e_iload (pc := 17) dX6_leastAt_17 rfl ?_
    refine e_iload_n (pc := 19) (i := 3) dX6_leastAt_19 rfl rfl ?_
    refine e_icmp_ge (pc := 20) (tgt := 100) dX6_leastAt_20 (by decide) (fun h20 => ?_) (fun h20 => ?_)
    · replace h20 := (nI_leI (by omega) (by omega)).mp h20
      obtain rfl : j = c := by omega
      refine e_iload (pc := 100) dX6_leastAt_100 rfl ?_
      refine e_if_ne (pc := 102) (tgt := 110) dX6_leastAt_102 (by decide) (fun h102 => absurd (by decide) h102) (fun h102 => ?_)
      refine e_iload (pc := 105) dX6_leastAt_105 rfl ?_
      refine e_goto (pc := 107) (tgt := 112) dX6_leastAt_107 (by decide) ?_
      refine e_iret (pc := 112) (st := []) (ty := .int) dX6_leastAt_112 rfl rfl ?_
      exact k S hf
    · replace h20 := mt (nI_leI (by omega) (by omega)).mpr h20
      have hvd := hq j (by omega)
      have hb2 := err_le (pn_vd hvd m)
      have hih := fun S2 z2 => ih (j + 1) S2 z2
      rw [lbi] at hih
      refine e_aload_n (pc := 23) (i := 0) dX6_leastAt_23 rfl rfl ?_
      refine e_getR (pc := 24) dX6_leastAt_24 (fX6_7 rfl) sh_54 rfl ?_
      refine e_bipush' (pc := 27) (nI 110) dX6_leastAt_27 (by decide) ?_
      refine e_iload_n (pc := 29) (i := 1) dX6_leastAt_29 rfl rfl ?_
      refine e_iadd (pc := 30) dX6_leastAt_30 ?_
      refine E.it (nI (110 + (5 * 0 + w))) (nI_add _ _) ?_
      refine e_iload_n (pc := 31) (i := 2) dX6_leastAt_31 rfl rfl ?_
      refine e_iload (pc := 32) dX6_leastAt_32 rfl ?_
      refine e_iadd (pc := 34) dX6_leastAt_34 ?_
      refine E.it (nI j) (by rw [nI_add, Nat.zero_add]) ?_
      refine e_iast (pc := 35) dX6_leastAt_35 sh_55 (vp_in_nI (by omega) (by omega)) ?_
      rw [nI_clamp (show 110 + (5 * 0 + w) < 2 ^ 31 by omega), ← Nat.add_assoc]
      have p2 := p1.set (a := 0) (v := j) (by omega) (show w < 5 by omega) (by omega)
      rw [hrs] at p2
      have f2 : FrQ 110 S (up2 S.1 55 (110 + 5 * 0 + w) (pv 0 j), S.2) := FrQ.up ⟨rfl, fun _ _ => rfl, fun _ _ => rfl⟩ (by omega) (by omega)
      refine e_iload (pc := 36) dX6_leastAt_36 rfl ?_
      refine e_if_eq (pc := 38) (tgt := 52) dX6_leastAt_38 (by decide) (fun h38 => ?_) (fun h38 => absurd (by decide) h38)
      refine e_aload_n (pc := 52) (i := 0) dX6_leastAt_52 rfl rfl ?_
      refine e_bipush' (pc := 53) (nI 110) dX6_leastAt_53 (by decide) ?_
      refine e_iload (pc := 55) dX6_leastAt_55 rfl ?_
      refine e_callV2 (pc := 57) (M' := mX6_errorBehind) dX6_leastAt_57 iX6_errorBehind lkX6_187 (by decide) (rO_obj sh_54 rfl) (Nat.le_of_ble_eq_true rfl) (Nat.le_of_ble_eq_true rfl) ?_
      refine sp_errorBehind (p := 110) (by omega) (by omega) hvd p2 (by omega) (by rw [rs_21 (by omega)]; exact hc) (fun S3 q4 => ?_)
      refine e_istore (pc := 60) dX6_leastAt_60 (by decide) rfl ?_
      refine e_iload (pc := 62) dX6_leastAt_62 rfl ?_
      refine e_iload (pc := 64) dX6_leastAt_64 rfl ?_
      refine e_icmp_ge (pc := 66) (tgt := 74) dX6_leastAt_66 (by decide) (fun h66 => ?_) (fun h66 => ?_)
      · replace h66 := (nI_leI (by omega) (by omega)).mp h66
        rw [if_neg (by omega)] at hih
        refine e_iload (pc := 74) dX6_leastAt_74 rfl ?_
        refine e_istore (pc := 76) dX6_leastAt_76 (by decide) rfl ?_
        refine e_iload (pc := 78) dX6_leastAt_78 rfl ?_
        refine e_iload (pc := 80) dX6_leastAt_80 rfl ?_
        refine e_icmp_ge (pc := 82) (tgt := 90) dX6_leastAt_82 (by decide) (fun h82 => ?_) (fun h82 => absurd (nI_le h66 (by omega)) h82)
        refine e_iload (pc := 90) dX6_leastAt_90 rfl ?_
        refine e_istore (pc := 92) dX6_leastAt_92 (by decide) rfl ?_
        refine e_iinc' (pc := 94) (nI (j + 1)) dX6_leastAt_94 rfl (by decide) rfl (nI_1 _) ?_
        refine e_goto (pc := 97) (tgt := 17) dX6_leastAt_97 (by decide) ?_
        refine hih S3 _ (rs R (5 * 0 + w) j) (by omega) (by omega) ((hf.tr (f2.same (by omega))).tr q4.same) ?_ (rs_ne _ _ (by omega)) (fun v => rs_rs _ _ _ _)
        refine p2.of (fun x h1 h2 => q4.2.2.1 x (by omega)) ?_
        rw [rs_ne _ _ (by omega)]; exact h5
      · replace h66 := mt (nI_leI (by omega) (by omega)).mpr h66
        rw [if_pos (by omega)] at hih
        refine e_iload (pc := 69) dX6_leastAt_69 rfl ?_
        refine e_goto (pc := 71) (tgt := 76) dX6_leastAt_71 (by decide) ?_
        refine e_istore (pc := 76) dX6_leastAt_76 (by decide) rfl ?_
        refine e_iload (pc := 78) dX6_leastAt_78 rfl ?_
        refine e_iload (pc := 80) dX6_leastAt_80 rfl ?_
        refine e_icmp_ge (pc := 82) (tgt := 90) dX6_leastAt_82 (by decide) (fun h82 => absurd ((nI_leI (by omega) (by omega)).mp h82) h66) (fun h82 => ?_)
        refine e_iload (pc := 85) dX6_leastAt_85 rfl ?_
        refine e_goto (pc := 87) (tgt := 92) dX6_leastAt_87 (by decide) ?_
        refine e_istore (pc := 92) dX6_leastAt_92 (by decide) rfl ?_
        refine e_iinc' (pc := 94) (nI (j + 1)) dX6_leastAt_94 rfl (by decide) rfl (nI_1 _) ?_
        refine e_goto (pc := 97) (tgt := 17) dX6_leastAt_97 (by decide) ?_
        refine hih S3 _ (rs R (5 * 0 + w) j) (by omega) (by omega) ((hf.tr (f2.same (by omega))).tr q4.same) ?_ (rs_ne _ _ (by omega)) (fun v => rs_rs _ _ _ _)
        refine p2.of (fun x h1 h2 => q4.2.2.1 x (by omega)) ?_
        rw [rs_ne _ _ (by omega)]; exact h5
theorem lp_best01 {sc : PSc} {w m c : Nat} {R : Rw} {S0 : PS} {Q : PQ} (hv : Vd R) (hc : R 21 ≤ 999999) (hr0 : RowAt S0 1 R) (hw : w < R 20) (hm : m ≤ 200) (hcv : c ≤ 4) (hc12 : c ≤ 12) (k : ∀ S', Fr 6 5 S0 S' → Q (some (.int (nI (lbi (fun v => err (pn (rs R (5 * 0 + w) v) m)) 248832 c).1))) S') : ∀ (n : Nat) (j : Nat) (S : PS) (z : Value), j ≤ c → c - j < n → Fr 6 5 S0 S → E sc mX5_bestPart 64 [.ref 0, .int (nI w), .int (nI 0), .int (nI m), .int (nI 1), .int (nI c), .int (nI (lbi (fun v => err (pn (rs R (5 * 0 + w) v) m)) 248832 j).1), .int (nI (lbi (fun v => err (pn (rs R (5 * 0 + w) v) m)) 248832 j).2), .int (nI j), z] [] S Q := by
  intro n
  induction n with
  | zero => intro j S z hj hn hf; exact absurd hn (by omega)
  | succ n ih =>
    intro j S z hj hn hf
    have h5 := hv.1
    have htw := hv.2 w hw
    have hr := hr0.frI hf r6 r1 (by omega)
    have hq : ∀ v, v < c → Vd (rs R (5 * 0 + w) v) := fun v hv2 => set_vd (a := 0) hv hw (Or.inl ⟨rfl, by omega⟩)
    have hb1 := lbi_le (f := fun v => err (pn (rs R (5 * 0 + w) v) m)) (i0 := 248832) (n := c) (fun v hv2 => err_le (pn_vd (hq v hv2) m)) (by omega) j hj
    refine e_iload (pc := 64) dX5_bestPart_64 rfl ?_
    refine e_iload (pc := 66) dX5_bestPart_66 rfl ?_
    refine e_icmp_ge (pc := 68) (tgt := 132) dX5_bestPart_68 (by decide) (fun h68 => ?_) (fun h68 => ?_)
    · replace h68 := (nI_leI (by omega) (by omega)).mp h68
      obtain rfl : j = c := by omega
      refine e_iload (pc := 132) dX5_bestPart_132 rfl ?_
      refine e_if_ne (pc := 134) (tgt := 142) dX5_bestPart_134 (by decide) (fun h134 => ?_) (fun h134 => absurd h134 (by decide))
      refine e_iload (pc := 142) dX5_bestPart_142 rfl ?_
      refine e_iret (pc := 144) (st := []) (ty := .int) dX5_bestPart_144 rfl rfl ?_
      exact k S hf
    · replace h68 := mt (nI_leI (by omega) (by omega)).mpr h68
      have hvd := hq j (by omega)
      have hb2 := err_le (pn_vd hvd m)
      have hih := fun S2 z2 => ih (j + 1) S2 z2 (by omega) (by omega)
      rw [lbi] at hih
      refine e_aload_n (pc := 71) (i := 0) dX5_bestPart_71 rfl rfl ?_
      refine e_iload_n (pc := 72) (i := 1) dX5_bestPart_72 rfl rfl ?_
      refine e_iload_n (pc := 73) (i := 2) dX5_bestPart_73 rfl rfl ?_
      refine e_iload (pc := 74) dX5_bestPart_74 rfl ?_
      refine e_callV3 (pc := 76) (M' := mX5_tryPart) dX5_bestPart_76 iX5_tryPart lkX5_173 (by decide) (rO_obj sh_0 rfl) (Nat.le_of_ble_eq_true rfl) (Nat.le_of_ble_eq_true rfl) ?_
      refine sp_tryPart (a := 0) (v := j) hv hr hw (by omega) (fun S2 q1 q2 q3 => ?_)
      refine e_aload_n (pc := 79) (i := 0) dX5_bestPart_79 rfl rfl ?_
      refine e_getR (pc := 80) dX5_bestPart_80 (fX5_16 rfl) sh_0 rfl ?_
      refine e_iload_n (pc := 83) (i := 3) dX5_bestPart_83 rfl rfl ?_
      refine e_callV1 (pc := 84) (M' := mX0_push) dX5_bestPart_84 iX0_push lkX5_148 (by decide) (rO_obj sh_6 rfl) (Nat.le_of_ble_eq_true rfl) (Nat.le_of_ble_eq_true rfl) ?_
      refine sp_push r6 hvd q1 (by omega) (fun S3 q4 q5 q6 => ?_)
      refine e_iload_n (pc := 87) (i := 2) dX5_bestPart_87 rfl rfl ?_
      refine e_iconst' (pc := 88) (nI 3) dX5_bestPart_88 (by decide) ?_
      refine e_icmp_ne (pc := 89) (tgt := 102) dX5_bestPart_89 (by decide) (fun h89 => ?_) (fun h89 => absurd h89 (by decide))
      refine e_aload_n (pc := 102) (i := 0) dX5_bestPart_102 rfl rfl ?_
      refine e_getR (pc := 103) dX5_bestPart_103 (fX5_16 rfl) sh_0 rfl ?_
      refine e_callV0 (pc := 106) (M' := mX0_error) dX5_bestPart_106 iX0_error lkX5_114 (by decide) (rO_obj sh_6 rfl) (Nat.le_of_ble_eq_true rfl) (Nat.le_of_ble_eq_true rfl) ?_
      refine sp_error r6 (pn_vd hvd m) q4 (by rw [pn_count hvd, rs_21 (by omega)]; omega) ?_
      refine e_istore (pc := 109) dX5_bestPart_109 (by decide) rfl ?_
      refine e_iload (pc := 111) dX5_bestPart_111 rfl ?_
      refine e_iload (pc := 113) dX5_bestPart_113 rfl ?_
      refine e_icmp_ge (pc := 115) (tgt := 126) dX5_bestPart_115 (by decide) (fun h115 => ?_) (fun h115 => ?_)
      · replace h115 := (nI_leI (by omega) (by omega)).mp h115
        rw [if_neg (by omega)] at hih
        refine e_iinc' (pc := 126) (nI (j + 1)) dX5_bestPart_126 rfl (by decide) rfl (nI_1 _) ?_
        refine e_goto (pc := 129) (tgt := 64) dX5_bestPart_129 (by decide) ?_
        exact hih S3 _ ((hf.tr q3).tr q6)
      · replace h115 := mt (nI_leI (by omega) (by omega)).mpr h115
        rw [if_pos (by omega)] at hih
        refine e_iload (pc := 118) dX5_bestPart_118 rfl ?_
        refine e_istore (pc := 120) dX5_bestPart_120 (by decide) rfl ?_
        refine e_iload (pc := 122) dX5_bestPart_122 rfl ?_
        refine e_istore (pc := 124) dX5_bestPart_124 (by decide) rfl ?_
        refine e_iinc' (pc := 126) (nI (j + 1)) dX5_bestPart_126 rfl (by decide) rfl (nI_1 _) ?_
        refine e_goto (pc := 129) (tgt := 64) dX5_bestPart_129 (by decide) ?_
        exact hih S3 _ ((hf.tr q3).tr q6)
theorem lm_best01 {sc : PSc} {w m c : Nat} {R : Rw} {S0 : PS} {Q : PQ} (hv : Vd R) (hc : R 21 ≤ 999999) (hw : w < R 20) (hm : m ≤ 200) (hcv : c ≤ 4) (hc12 : c ≤ 12) (k : ∀ S', Same S0 S' → Q (some (.int (nI (lbi (fun v => err (pn (rs R (5 * 0 + w) v) m)) 1000000 c).1))) S') : ∀ (n : Nat) (j : Nat) (S : PS) (z : Value) (R2 : Rw), j ≤ c → c - j < n → Same S0 S → PgAt S 110 R2 → R2 20 = R 20 → (∀ v, rs R2 (5 * 0 + w) v = rs R (5 * 0 + w) v) → E sc mX6_leastAt 17 [.ref 54, .int (nI (5 * 0 + w)), .int (nI 0), .int (nI c), .int (nI m), .int (nI 0), .int (nI 1), .int (nI (lbi (fun v => err (pn (rs R (5 * 0 + w) v) m)) 1000000 j).1), .int (nI (lbi (fun v => err (pn (rs R (5 * 0 + w) v) m)) 1000000 j).2), .int (nI j), z] [] S Q := by
  intro n
  induction n with
  | zero => intro j S z R2 hj hn hf p1 h20 hrs; exact absurd hn (by omega)
  | succ n ih =>
    intro j S z R2 hj hn hf p1 h20 hrs
    have h5 := hv.1
    have htw := hv.2 w hw
    have hq : ∀ v, v < c → Vd (rs R (5 * 0 + w) v) := fun v hv2 => set_vd (a := 0) hv hw (Or.inl ⟨rfl, by omega⟩)
    have hb1 := lbi_le (f := fun v => err (pn (rs R (5 * 0 + w) v) m)) (i0 := 1000000) (n := c) (fun v hv2 => err_le (pn_vd (hq v hv2) m)) (by omega) j hj
    refine e_iload (pc := 17) dX6_leastAt_17 rfl ?_
    refine e_iload_n (pc := 19) (i := 3) dX6_leastAt_19 rfl rfl ?_
    refine e_icmp_ge (pc := 20) (tgt := 100) dX6_leastAt_20 (by decide) (fun h20 => ?_) (fun h20 => ?_)
    · replace h20 := (nI_leI (by omega) (by omega)).mp h20
      obtain rfl : j = c := by omega
      refine e_iload (pc := 100) dX6_leastAt_100 rfl ?_
      refine e_if_ne (pc := 102) (tgt := 110) dX6_leastAt_102 (by decide) (fun h102 => ?_) (fun h102 => absurd h102 (by decide))
      refine e_iload (pc := 110) dX6_leastAt_110 rfl ?_
      refine e_iret (pc := 112) (st := []) (ty := .int) dX6_leastAt_112 rfl rfl ?_
      exact k S hf
    · replace h20 := mt (nI_leI (by omega) (by omega)).mpr h20
      have hvd := hq j (by omega)
      have hb2 := err_le (pn_vd hvd m)
      have hih := fun S2 z2 => ih (j + 1) S2 z2
      rw [lbi] at hih
      refine e_aload_n (pc := 23) (i := 0) dX6_leastAt_23 rfl rfl ?_
      refine e_getR (pc := 24) dX6_leastAt_24 (fX6_7 rfl) sh_54 rfl ?_
      refine e_bipush' (pc := 27) (nI 110) dX6_leastAt_27 (by decide) ?_
      refine e_iload_n (pc := 29) (i := 1) dX6_leastAt_29 rfl rfl ?_
      refine e_iadd (pc := 30) dX6_leastAt_30 ?_
      refine E.it (nI (110 + (5 * 0 + w))) (nI_add _ _) ?_
      refine e_iload_n (pc := 31) (i := 2) dX6_leastAt_31 rfl rfl ?_
      refine e_iload (pc := 32) dX6_leastAt_32 rfl ?_
      refine e_iadd (pc := 34) dX6_leastAt_34 ?_
      refine E.it (nI j) (by rw [nI_add, Nat.zero_add]) ?_
      refine e_iast (pc := 35) dX6_leastAt_35 sh_55 (vp_in_nI (by omega) (by omega)) ?_
      rw [nI_clamp (show 110 + (5 * 0 + w) < 2 ^ 31 by omega), ← Nat.add_assoc]
      have p2 := p1.set (a := 0) (v := j) (by omega) (show w < 5 by omega) (by omega)
      rw [hrs] at p2
      have f2 : FrQ 110 S (up2 S.1 55 (110 + 5 * 0 + w) (pv 0 j), S.2) := FrQ.up ⟨rfl, fun _ _ => rfl, fun _ _ => rfl⟩ (by omega) (by omega)
      refine e_iload (pc := 36) dX6_leastAt_36 rfl ?_
      refine e_if_eq (pc := 38) (tgt := 52) dX6_leastAt_38 (by decide) (fun h38 => ?_) (fun h38 => absurd (by decide) h38)
      refine e_aload_n (pc := 52) (i := 0) dX6_leastAt_52 rfl rfl ?_
      refine e_bipush' (pc := 53) (nI 110) dX6_leastAt_53 (by decide) ?_
      refine e_iload (pc := 55) dX6_leastAt_55 rfl ?_
      refine e_callV2 (pc := 57) (M' := mX6_errorBehind) dX6_leastAt_57 iX6_errorBehind lkX6_187 (by decide) (rO_obj sh_54 rfl) (Nat.le_of_ble_eq_true rfl) (Nat.le_of_ble_eq_true rfl) ?_
      refine sp_errorBehind (p := 110) (by omega) (by omega) hvd p2 (by omega) (by rw [rs_21 (by omega)]; exact hc) (fun S3 q4 => ?_)
      refine e_istore (pc := 60) dX6_leastAt_60 (by decide) rfl ?_
      refine e_iload (pc := 62) dX6_leastAt_62 rfl ?_
      refine e_iload (pc := 64) dX6_leastAt_64 rfl ?_
      refine e_icmp_ge (pc := 66) (tgt := 74) dX6_leastAt_66 (by decide) (fun h66 => ?_) (fun h66 => ?_)
      · replace h66 := (nI_leI (by omega) (by omega)).mp h66
        rw [if_neg (by omega)] at hih
        refine e_iload (pc := 74) dX6_leastAt_74 rfl ?_
        refine e_istore (pc := 76) dX6_leastAt_76 (by decide) rfl ?_
        refine e_iload (pc := 78) dX6_leastAt_78 rfl ?_
        refine e_iload (pc := 80) dX6_leastAt_80 rfl ?_
        refine e_icmp_ge (pc := 82) (tgt := 90) dX6_leastAt_82 (by decide) (fun h82 => ?_) (fun h82 => absurd (nI_le h66 (by omega)) h82)
        refine e_iload (pc := 90) dX6_leastAt_90 rfl ?_
        refine e_istore (pc := 92) dX6_leastAt_92 (by decide) rfl ?_
        refine e_iinc' (pc := 94) (nI (j + 1)) dX6_leastAt_94 rfl (by decide) rfl (nI_1 _) ?_
        refine e_goto (pc := 97) (tgt := 17) dX6_leastAt_97 (by decide) ?_
        refine hih S3 _ (rs R (5 * 0 + w) j) (by omega) (by omega) ((hf.tr (f2.same (by omega))).tr q4.same) ?_ (rs_ne _ _ (by omega)) (fun v => rs_rs _ _ _ _)
        refine p2.of (fun x h1 h2 => q4.2.2.1 x (by omega)) ?_
        rw [rs_ne _ _ (by omega)]; exact h5
      · replace h66 := mt (nI_leI (by omega) (by omega)).mpr h66
        rw [if_pos (by omega)] at hih
        refine e_iload (pc := 69) dX6_leastAt_69 rfl ?_
        refine e_goto (pc := 71) (tgt := 76) dX6_leastAt_71 (by decide) ?_
        refine e_istore (pc := 76) dX6_leastAt_76 (by decide) rfl ?_
        refine e_iload (pc := 78) dX6_leastAt_78 rfl ?_
        refine e_iload (pc := 80) dX6_leastAt_80 rfl ?_
        refine e_icmp_ge (pc := 82) (tgt := 90) dX6_leastAt_82 (by decide) (fun h82 => absurd ((nI_leI (by omega) (by omega)).mp h82) h66) (fun h82 => ?_)
        refine e_iload (pc := 85) dX6_leastAt_85 rfl ?_
        refine e_goto (pc := 87) (tgt := 92) dX6_leastAt_87 (by decide) ?_
        refine e_istore (pc := 92) dX6_leastAt_92 (by decide) rfl ?_
        refine e_iinc' (pc := 94) (nI (j + 1)) dX6_leastAt_94 rfl (by decide) rfl (nI_1 _) ?_
        refine e_goto (pc := 97) (tgt := 17) dX6_leastAt_97 (by decide) ?_
        refine hih S3 _ (rs R (5 * 0 + w) j) (by omega) (by omega) ((hf.tr (f2.same (by omega))).tr q4.same) ?_ (rs_ne _ _ (by omega)) (fun v => rs_rs _ _ _ _)
        refine p2.of (fun x h1 h2 => q4.2.2.1 x (by omega)) ?_
        rw [rs_ne _ _ (by omega)]; exact h5
theorem b_kind {sc : PSc} {S : PS} (hI : InvS S) (w x y : Int32) : Bth sc mX5_kind mX6_kind [.int w, .int x, .int y] S := by
  obtain ⟨R, hv, hc, hr, hp⟩ := hI.1
  have hv5 := hv.1
  rcases Classical.em (inw w (R 20)) with ⟨w, rfl, hw⟩ | hn
  · have htw := hv.2 w hw
    rcases Classical.em (inr x 0 200) with ⟨m, rfl, -, hm⟩ | hn
    · rcases Classical.em (inr y 0 1) with ⟨a, rfl, -, ha⟩ | hn
      · rcases (show a = 0 ∨ a = 1 by omega) with rfl | rfl
        · refine ask_both (nI (lbi (fun v => err (pn (rs R (5 * 0 + w) v) m)) 248832 4).2) hI (fun Q k => ?_) (fun S1 h1 Q k => ?_)
          · show E sc mX5_kind 0 [.ref 0, .int (nI w), .int (nI m), .int (nI 0)] [] S Q
            refine e_aload_n (pc := 0) (i := 0) dX5_kind_0 rfl rfl ?_
            refine e_iload_n (pc := 1) (i := 1) dX5_kind_1 rfl rfl ?_
            refine e_iconst' (pc := 2) (nI 0) dX5_kind_2 (by decide) ?_
            refine e_iload_n (pc := 3) (i := 2) dX5_kind_3 rfl rfl ?_
            refine e_iload_n (pc := 4) (i := 3) dX5_kind_4 rfl rfl ?_
            refine e_callV4 (pc := 5) (M' := mX5_bestPart) dX5_kind_5 iX5_bestPart lkX5_181 (by decide) (rO_obj sh_0 rfl) (Nat.le_of_ble_eq_true rfl) (Nat.le_of_ble_eq_true rfl) ?_
            show E sc mX5_bestPart 0 [.ref 0, .int (nI w), .int (nI 0), .int (nI m), .int (nI 0), .null, .null, .null, .null, .null] [] S _
            refine e_aload_n (pc := 0) (i := 0) dX5_bestPart_0 rfl rfl ?_
            refine e_getR (pc := 1) dX5_bestPart_1 (fX5_10 rfl) sh_0 rfl ?_
            refine e_iload_n (pc := 4) (i := 1) dX5_bestPart_4 rfl rfl ?_
            refine e_callV1 (pc := 5) (M' := mX0_has) dX5_bestPart_5 iX0_has lkX5_120 (by decide) (rO_obj sh_1 rfl) (Nat.le_of_ble_eq_true rfl) (Nat.le_of_ble_eq_true rfl) ?_
            refine sp_hasY r1 hv hr hw ?_
            refine e_if_eq (pc := 8) (tgt := 32) dX5_bestPart_8 (by decide) (fun h8 => absurd h8 (by decide)) (fun h8 => ?_)
            refine e_iload_n (pc := 11) (i := 3) dX5_bestPart_11 rfl rfl ?_
            refine e_iconst' (pc := 12) (nI 0) dX5_bestPart_12 (by decide) ?_
            refine e_sipush' (pc := 13) (nI 200) dX5_bestPart_13 (by decide) ?_
            refine e_callS3 (pc := 16) (M' := mX5_within) dX5_bestPart_16 jX5_within lkX5_70 (by decide) (Nat.le_of_ble_eq_true rfl) (Nat.le_of_ble_eq_true rfl) ?_
            refine sp_winY (by omega) (by omega) (by omega) ?_
            refine e_if_eq (pc := 19) (tgt := 32) dX5_bestPart_19 (by decide) (fun h19 => absurd h19 (by decide)) (fun h19 => ?_)
            refine e_iload (pc := 22) dX5_bestPart_22 rfl ?_
            refine e_iconst' (pc := 24) (nI 0) dX5_bestPart_24 (by decide) ?_
            refine e_iconst' (pc := 25) (nI 1) dX5_bestPart_25 (by decide) ?_
            refine e_callS3 (pc := 26) (M' := mX5_within) dX5_bestPart_26 jX5_within lkX5_70 (by decide) (Nat.le_of_ble_eq_true rfl) (Nat.le_of_ble_eq_true rfl) ?_
            refine sp_winY (by omega) (by omega) (by omega) ?_
            refine e_if_ne (pc := 29) (tgt := 34) dX5_bestPart_29 (by decide) (fun h29 => ?_) (fun h29 => absurd h29 (by decide))
            refine e_iload_n (pc := 34) (i := 2) dX5_bestPart_34 rfl rfl ?_
            refine e_if_ne (pc := 35) (tgt := 42) dX5_bestPart_35 (by decide) (fun h35 => absurd (by decide) h35) (fun h35 => ?_)
            refine e_iconst' (pc := 38) (nI 4) dX5_bestPart_38 (by decide) ?_
            refine e_goto (pc := 39) (tgt := 51) dX5_bestPart_39 (by decide) ?_
            refine e_istore (pc := 51) dX5_bestPart_51 (by decide) rfl ?_
            refine e_ldcw' (pc := 53) (nI 248832) dX5_bestPart_53 (kcX5_257 rfl) (by decide) ?_
            refine e_istore (pc := 56) dX5_bestPart_56 (by decide) rfl ?_
            refine e_iconst' (pc := 58) (nI 0) dX5_bestPart_58 (by decide) ?_
            refine e_istore (pc := 59) dX5_bestPart_59 (by decide) rfl ?_
            refine e_iconst' (pc := 61) (nI 0) dX5_bestPart_61 (by decide) ?_
            refine e_istore (pc := 62) dX5_bestPart_62 (by decide) rfl ?_
            refine lp_best00 (c := 4) hv hc hr hw hm (by omega) (by omega) (fun S2 h2 => ?_) (4 + 1) 0 S _ (by omega) (by omega) Fr.rf
            refine e_iret (pc := 8) (st := []) (ty := .int) dX5_kind_8 rfl rfl ?_
            exact k S2 h2.same
          · show E sc mX6_kind 0 [.ref 54, .int (nI w), .int (nI m), .int (nI 0)] [] S1 Q
            have hp := h1.pg (by omega) hv hp
            refine e_aload_n (pc := 0) (i := 0) dX6_kind_0 rfl rfl ?_
            refine e_iload_n (pc := 1) (i := 1) dX6_kind_1 rfl rfl ?_
            refine e_callV1 (pc := 2) (M' := mX6_isWheel) dX6_kind_2 iX6_isWheel lkX6_144 (by decide) (rO_obj sh_54 rfl) (Nat.le_of_ble_eq_true rfl) (Nat.le_of_ble_eq_true rfl) ?_
            refine sp_isWheelY hv hp hw ?_
            refine e_if_eq (pc := 5) (tgt := 43) dX6_kind_5 (by decide) (fun h5 => absurd h5 (by decide)) (fun h5 => ?_)
            refine e_iload_n (pc := 8) (i := 2) dX6_kind_8 rfl rfl ?_
            refine e_i2l (pc := 9) dX6_kind_9 ?_
            refine e_lconst' (pc := 10) (lN 0) dX6_kind_10 (by decide) ?_
            refine e_ldc2 (pc := 11) dX6_kind_11 (klX6_185 rfl) ?_
            refine e_callS3 (pc := 14) (M' := mX6_in) dX6_kind_14 jX6_in lkX6_46 (by decide) (Nat.le_of_ble_eq_true rfl) (Nat.le_of_ble_eq_true rfl) ?_
            refine sp_inY (lo := 0) (hi := 200) (by decide) (by decide) (by omega) (by omega) (by omega) ?_
            refine e_if_eq (pc := 17) (tgt := 43) dX6_kind_17 (by decide) (fun h17 => absurd h17 (by decide)) (fun h17 => ?_)
            refine e_iload_n (pc := 20) (i := 3) dX6_kind_20 rfl rfl ?_
            refine e_i2l (pc := 21) dX6_kind_21 ?_
            refine e_lconst' (pc := 22) (lN 0) dX6_kind_22 (by decide) ?_
            refine e_lconst' (pc := 23) (lN 1) dX6_kind_23 (by decide) ?_
            refine e_callS3 (pc := 24) (M' := mX6_in) dX6_kind_24 jX6_in lkX6_46 (by decide) (Nat.le_of_ble_eq_true rfl) (Nat.le_of_ble_eq_true rfl) ?_
            refine sp_inY (lo := 0) (hi := 1) (by decide) (by decide) (by omega) (by omega) (by omega) ?_
            refine e_if_eq (pc := 27) (tgt := 43) dX6_kind_27 (by decide) (fun h27 => absurd h27 (by decide)) (fun h27 => ?_)
            refine e_aload_n (pc := 30) (i := 0) dX6_kind_30 rfl rfl ?_
            refine e_iload_n (pc := 31) (i := 1) dX6_kind_31 rfl rfl ?_
            refine e_iconst' (pc := 32) (nI 0) dX6_kind_32 (by decide) ?_
            refine e_iconst' (pc := 33) (nI 4) dX6_kind_33 (by decide) ?_
            refine e_iload_n (pc := 34) (i := 2) dX6_kind_34 rfl rfl ?_
            refine e_iconst' (pc := 35) (nI 0) dX6_kind_35 (by decide) ?_
            refine e_iload_n (pc := 36) (i := 3) dX6_kind_36 rfl rfl ?_
            refine e_callV6 (pc := 37) (M' := mX6_leastAt) dX6_kind_37 iX6_leastAt lkX6_191 (by decide) (rO_obj sh_54 rfl) (Nat.le_of_ble_eq_true rfl) (Nat.le_of_ble_eq_true rfl) ?_
            show E sc mX6_leastAt 0 [.ref 54, .int (nI (w)), .int (nI 0), .int (nI 4), .int (nI m), .int (nI 0), .int (nI 0), .null, .null, .null, .null] [] S1 _
            have hat : nI (w) = nI (5 * 0 + w) := by first | rfl | (congr 1; omega)
            rw [hat]
            refine e_ldc' (pc := 0) (nI 1000000) dX6_leastAt_0 (kcX6_190 rfl) (by decide) ?_
            refine e_istore (pc := 2) dX6_leastAt_2 (by decide) rfl ?_
            refine e_iconst' (pc := 4) (nI 0) dX6_leastAt_4 (by decide) ?_
            refine e_istore (pc := 5) dX6_leastAt_5 (by decide) rfl ?_
            refine e_aload_n (pc := 7) (i := 0) dX6_leastAt_7 rfl rfl ?_
            refine e_iconst' (pc := 8) (nI 0) dX6_leastAt_8 (by decide) ?_
            refine e_bipush' (pc := 9) (nI 110) dX6_leastAt_9 (by decide) ?_
            refine e_callV2 (pc := 11) (M' := mX6_copies) dX6_leastAt_11 iX6_copies lkX6_167 (by decide) (rO_obj sh_54 rfl) (Nat.le_of_ble_eq_true rfl) (Nat.le_of_ble_eq_true rfl) ?_
            refine sp_copyPg (b := 110) (by omega) (by omega) (by omega) hv hp (fun S2 p1 f1 => ?_)
            refine e_iconst' (pc := 14) (nI 0) dX6_leastAt_14 (by decide) ?_
            refine e_istore (pc := 15) dX6_leastAt_15 (by decide) rfl ?_
            refine lm_best00 (c := 4) hv hc hw hm (by omega) (by omega) (fun S3 h3 => ?_) (4 + 1) 0 S2 _ R (by omega) (by omega) (f1.same (by omega)) p1 rfl (fun _ => rfl)
            refine e_goto (pc := 40) (tgt := 44) dX6_kind_40 (by decide) ?_
            refine e_iret (pc := 44) (st := []) (ty := .int) dX6_kind_44 rfl rfl ?_
            refine qeq (k S3 h3) ?_
            obtain ⟨q, hq⟩ : ∃ q, 4 = q + 1 := ⟨4 - 1, by omega⟩
            rw [hq, lbi_init (i0 := 1000000) (i1 := 248832) (by have := err_le (pn_vd (set_vd (a := 0) (v := 0) hv hw (Or.inl ⟨rfl, by omega⟩)) m); omega) (by have := err_le (pn_vd (set_vd (a := 0) (v := 0) hv hw (Or.inl ⟨rfl, by omega⟩)) m); omega)]
        · refine ask_both (nI (lbi (fun v => err (pn (rs R (5 * 0 + w) v) m)) 248832 4).1) hI (fun Q k => ?_) (fun S1 h1 Q k => ?_)
          · show E sc mX5_kind 0 [.ref 0, .int (nI w), .int (nI m), .int (nI 1)] [] S Q
            refine e_aload_n (pc := 0) (i := 0) dX5_kind_0 rfl rfl ?_
            refine e_iload_n (pc := 1) (i := 1) dX5_kind_1 rfl rfl ?_
            refine e_iconst' (pc := 2) (nI 0) dX5_kind_2 (by decide) ?_
            refine e_iload_n (pc := 3) (i := 2) dX5_kind_3 rfl rfl ?_
            refine e_iload_n (pc := 4) (i := 3) dX5_kind_4 rfl rfl ?_
            refine e_callV4 (pc := 5) (M' := mX5_bestPart) dX5_kind_5 iX5_bestPart lkX5_181 (by decide) (rO_obj sh_0 rfl) (Nat.le_of_ble_eq_true rfl) (Nat.le_of_ble_eq_true rfl) ?_
            show E sc mX5_bestPart 0 [.ref 0, .int (nI w), .int (nI 0), .int (nI m), .int (nI 1), .null, .null, .null, .null, .null] [] S _
            refine e_aload_n (pc := 0) (i := 0) dX5_bestPart_0 rfl rfl ?_
            refine e_getR (pc := 1) dX5_bestPart_1 (fX5_10 rfl) sh_0 rfl ?_
            refine e_iload_n (pc := 4) (i := 1) dX5_bestPart_4 rfl rfl ?_
            refine e_callV1 (pc := 5) (M' := mX0_has) dX5_bestPart_5 iX0_has lkX5_120 (by decide) (rO_obj sh_1 rfl) (Nat.le_of_ble_eq_true rfl) (Nat.le_of_ble_eq_true rfl) ?_
            refine sp_hasY r1 hv hr hw ?_
            refine e_if_eq (pc := 8) (tgt := 32) dX5_bestPart_8 (by decide) (fun h8 => absurd h8 (by decide)) (fun h8 => ?_)
            refine e_iload_n (pc := 11) (i := 3) dX5_bestPart_11 rfl rfl ?_
            refine e_iconst' (pc := 12) (nI 0) dX5_bestPart_12 (by decide) ?_
            refine e_sipush' (pc := 13) (nI 200) dX5_bestPart_13 (by decide) ?_
            refine e_callS3 (pc := 16) (M' := mX5_within) dX5_bestPart_16 jX5_within lkX5_70 (by decide) (Nat.le_of_ble_eq_true rfl) (Nat.le_of_ble_eq_true rfl) ?_
            refine sp_winY (by omega) (by omega) (by omega) ?_
            refine e_if_eq (pc := 19) (tgt := 32) dX5_bestPart_19 (by decide) (fun h19 => absurd h19 (by decide)) (fun h19 => ?_)
            refine e_iload (pc := 22) dX5_bestPart_22 rfl ?_
            refine e_iconst' (pc := 24) (nI 0) dX5_bestPart_24 (by decide) ?_
            refine e_iconst' (pc := 25) (nI 1) dX5_bestPart_25 (by decide) ?_
            refine e_callS3 (pc := 26) (M' := mX5_within) dX5_bestPart_26 jX5_within lkX5_70 (by decide) (Nat.le_of_ble_eq_true rfl) (Nat.le_of_ble_eq_true rfl) ?_
            refine sp_winY (by omega) (by omega) (by omega) ?_
            refine e_if_ne (pc := 29) (tgt := 34) dX5_bestPart_29 (by decide) (fun h29 => ?_) (fun h29 => absurd h29 (by decide))
            refine e_iload_n (pc := 34) (i := 2) dX5_bestPart_34 rfl rfl ?_
            refine e_if_ne (pc := 35) (tgt := 42) dX5_bestPart_35 (by decide) (fun h35 => absurd (by decide) h35) (fun h35 => ?_)
            refine e_iconst' (pc := 38) (nI 4) dX5_bestPart_38 (by decide) ?_
            refine e_goto (pc := 39) (tgt := 51) dX5_bestPart_39 (by decide) ?_
            refine e_istore (pc := 51) dX5_bestPart_51 (by decide) rfl ?_
            refine e_ldcw' (pc := 53) (nI 248832) dX5_bestPart_53 (kcX5_257 rfl) (by decide) ?_
            refine e_istore (pc := 56) dX5_bestPart_56 (by decide) rfl ?_
            refine e_iconst' (pc := 58) (nI 0) dX5_bestPart_58 (by decide) ?_
            refine e_istore (pc := 59) dX5_bestPart_59 (by decide) rfl ?_
            refine e_iconst' (pc := 61) (nI 0) dX5_bestPart_61 (by decide) ?_
            refine e_istore (pc := 62) dX5_bestPart_62 (by decide) rfl ?_
            refine lp_best01 (c := 4) hv hc hr hw hm (by omega) (by omega) (fun S2 h2 => ?_) (4 + 1) 0 S _ (by omega) (by omega) Fr.rf
            refine e_iret (pc := 8) (st := []) (ty := .int) dX5_kind_8 rfl rfl ?_
            exact k S2 h2.same
          · show E sc mX6_kind 0 [.ref 54, .int (nI w), .int (nI m), .int (nI 1)] [] S1 Q
            have hp := h1.pg (by omega) hv hp
            refine e_aload_n (pc := 0) (i := 0) dX6_kind_0 rfl rfl ?_
            refine e_iload_n (pc := 1) (i := 1) dX6_kind_1 rfl rfl ?_
            refine e_callV1 (pc := 2) (M' := mX6_isWheel) dX6_kind_2 iX6_isWheel lkX6_144 (by decide) (rO_obj sh_54 rfl) (Nat.le_of_ble_eq_true rfl) (Nat.le_of_ble_eq_true rfl) ?_
            refine sp_isWheelY hv hp hw ?_
            refine e_if_eq (pc := 5) (tgt := 43) dX6_kind_5 (by decide) (fun h5 => absurd h5 (by decide)) (fun h5 => ?_)
            refine e_iload_n (pc := 8) (i := 2) dX6_kind_8 rfl rfl ?_
            refine e_i2l (pc := 9) dX6_kind_9 ?_
            refine e_lconst' (pc := 10) (lN 0) dX6_kind_10 (by decide) ?_
            refine e_ldc2 (pc := 11) dX6_kind_11 (klX6_185 rfl) ?_
            refine e_callS3 (pc := 14) (M' := mX6_in) dX6_kind_14 jX6_in lkX6_46 (by decide) (Nat.le_of_ble_eq_true rfl) (Nat.le_of_ble_eq_true rfl) ?_
            refine sp_inY (lo := 0) (hi := 200) (by decide) (by decide) (by omega) (by omega) (by omega) ?_
            refine e_if_eq (pc := 17) (tgt := 43) dX6_kind_17 (by decide) (fun h17 => absurd h17 (by decide)) (fun h17 => ?_)
            refine e_iload_n (pc := 20) (i := 3) dX6_kind_20 rfl rfl ?_
            refine e_i2l (pc := 21) dX6_kind_21 ?_
            refine e_lconst' (pc := 22) (lN 0) dX6_kind_22 (by decide) ?_
            refine e_lconst' (pc := 23) (lN 1) dX6_kind_23 (by decide) ?_
            refine e_callS3 (pc := 24) (M' := mX6_in) dX6_kind_24 jX6_in lkX6_46 (by decide) (Nat.le_of_ble_eq_true rfl) (Nat.le_of_ble_eq_true rfl) ?_
            refine sp_inY (lo := 0) (hi := 1) (by decide) (by decide) (by omega) (by omega) (by omega) ?_
            refine e_if_eq (pc := 27) (tgt := 43) dX6_kind_27 (by decide) (fun h27 => absurd h27 (by decide)) (fun h27 => ?_)
            refine e_aload_n (pc := 30) (i := 0) dX6_kind_30 rfl rfl ?_
            refine e_iload_n (pc := 31) (i := 1) dX6_kind_31 rfl rfl ?_
            refine e_iconst' (pc := 32) (nI 0) dX6_kind_32 (by decide) ?_
            refine e_iconst' (pc := 33) (nI 4) dX6_kind_33 (by decide) ?_
            refine e_iload_n (pc := 34) (i := 2) dX6_kind_34 rfl rfl ?_
            refine e_iconst' (pc := 35) (nI 0) dX6_kind_35 (by decide) ?_
            refine e_iload_n (pc := 36) (i := 3) dX6_kind_36 rfl rfl ?_
            refine e_callV6 (pc := 37) (M' := mX6_leastAt) dX6_kind_37 iX6_leastAt lkX6_191 (by decide) (rO_obj sh_54 rfl) (Nat.le_of_ble_eq_true rfl) (Nat.le_of_ble_eq_true rfl) ?_
            show E sc mX6_leastAt 0 [.ref 54, .int (nI (w)), .int (nI 0), .int (nI 4), .int (nI m), .int (nI 0), .int (nI 1), .null, .null, .null, .null] [] S1 _
            have hat : nI (w) = nI (5 * 0 + w) := by first | rfl | (congr 1; omega)
            rw [hat]
            refine e_ldc' (pc := 0) (nI 1000000) dX6_leastAt_0 (kcX6_190 rfl) (by decide) ?_
            refine e_istore (pc := 2) dX6_leastAt_2 (by decide) rfl ?_
            refine e_iconst' (pc := 4) (nI 0) dX6_leastAt_4 (by decide) ?_
            refine e_istore (pc := 5) dX6_leastAt_5 (by decide) rfl ?_
            refine e_aload_n (pc := 7) (i := 0) dX6_leastAt_7 rfl rfl ?_
            refine e_iconst' (pc := 8) (nI 0) dX6_leastAt_8 (by decide) ?_
            refine e_bipush' (pc := 9) (nI 110) dX6_leastAt_9 (by decide) ?_
            refine e_callV2 (pc := 11) (M' := mX6_copies) dX6_leastAt_11 iX6_copies lkX6_167 (by decide) (rO_obj sh_54 rfl) (Nat.le_of_ble_eq_true rfl) (Nat.le_of_ble_eq_true rfl) ?_
            refine sp_copyPg (b := 110) (by omega) (by omega) (by omega) hv hp (fun S2 p1 f1 => ?_)
            refine e_iconst' (pc := 14) (nI 0) dX6_leastAt_14 (by decide) ?_
            refine e_istore (pc := 15) dX6_leastAt_15 (by decide) rfl ?_
            refine lm_best01 (c := 4) hv hc hw hm (by omega) (by omega) (fun S3 h3 => ?_) (4 + 1) 0 S2 _ R (by omega) (by omega) (f1.same (by omega)) p1 rfl (fun _ => rfl)
            refine e_goto (pc := 40) (tgt := 44) dX6_kind_40 (by decide) ?_
            refine e_iret (pc := 44) (st := []) (ty := .int) dX6_kind_44 rfl rfl ?_
            refine qeq (k S3 h3) ?_
            obtain ⟨q, hq⟩ : ∃ q, 4 = q + 1 := ⟨4 - 1, by omega⟩
            rw [hq, lbi_init (i0 := 1000000) (i1 := 248832) (by have := err_le (pn_vd (set_vd (a := 0) (v := 0) hv hw (Or.inl ⟨rfl, by omega⟩)) m); omega) (by have := err_le (pn_vd (set_vd (a := 0) (v := 0) hv hw (Or.inl ⟨rfl, by omega⟩)) m); omega)]
      · refine ask_both (-1) hI (fun Q k => ?_) (fun S1 h1 Q k => ?_)
        · show E sc mX5_kind 0 [.ref 0, .int (nI w), .int (nI m), .int y] [] S Q
          refine e_aload_n (pc := 0) (i := 0) dX5_kind_0 rfl rfl ?_
          refine e_iload_n (pc := 1) (i := 1) dX5_kind_1 rfl rfl ?_
          refine e_iconst' (pc := 2) (nI 0) dX5_kind_2 (by decide) ?_
          refine e_iload_n (pc := 3) (i := 2) dX5_kind_3 rfl rfl ?_
          refine e_iload_n (pc := 4) (i := 3) dX5_kind_4 rfl rfl ?_
          refine e_callV4 (pc := 5) (M' := mX5_bestPart) dX5_kind_5 iX5_bestPart lkX5_181 (by decide) (rO_obj sh_0 rfl) (Nat.le_of_ble_eq_true rfl) (Nat.le_of_ble_eq_true rfl) ?_
          show E sc mX5_bestPart 0 [.ref 0, .int (nI w), .int (nI 0), .int (nI m), .int y, .null, .null, .null, .null, .null] [] S _
          refine e_aload_n (pc := 0) (i := 0) dX5_bestPart_0 rfl rfl ?_
          refine e_getR (pc := 1) dX5_bestPart_1 (fX5_10 rfl) sh_0 rfl ?_
          refine e_iload_n (pc := 4) (i := 1) dX5_bestPart_4 rfl rfl ?_
          refine e_callV1 (pc := 5) (M' := mX0_has) dX5_bestPart_5 iX0_has lkX5_120 (by decide) (rO_obj sh_1 rfl) (Nat.le_of_ble_eq_true rfl) (Nat.le_of_ble_eq_true rfl) ?_
          refine sp_hasY r1 hv hr hw ?_
          refine e_if_eq (pc := 8) (tgt := 32) dX5_bestPart_8 (by decide) (fun h8 => absurd h8 (by decide)) (fun h8 => ?_)
          refine e_iload_n (pc := 11) (i := 3) dX5_bestPart_11 rfl rfl ?_
          refine e_iconst' (pc := 12) (nI 0) dX5_bestPart_12 (by decide) ?_
          refine e_sipush' (pc := 13) (nI 200) dX5_bestPart_13 (by decide) ?_
          refine e_callS3 (pc := 16) (M' := mX5_within) dX5_bestPart_16 jX5_within lkX5_70 (by decide) (Nat.le_of_ble_eq_true rfl) (Nat.le_of_ble_eq_true rfl) ?_
          refine sp_winY (by omega) (by omega) (by omega) ?_
          refine e_if_eq (pc := 19) (tgt := 32) dX5_bestPart_19 (by decide) (fun h19 => absurd h19 (by decide)) (fun h19 => ?_)
          refine e_iload (pc := 22) dX5_bestPart_22 rfl ?_
          refine e_iconst' (pc := 24) (nI 0) dX5_bestPart_24 (by decide) ?_
          refine e_iconst' (pc := 25) (nI 1) dX5_bestPart_25 (by decide) ?_
          refine e_callS3 (pc := 26) (M' := mX5_within) dX5_bestPart_26 jX5_within lkX5_70 (by decide) (Nat.le_of_ble_eq_true rfl) (Nat.le_of_ble_eq_true rfl) ?_
          refine sp_winX hn (by omega) (by omega) ?_
          refine e_if_ne (pc := 29) (tgt := 34) dX5_bestPart_29 (by decide) (fun h29 => absurd (by decide) h29) (fun h29 => ?_)
          refine e_iconst' (pc := 32) (-1) dX5_bestPart_32 (by decide) ?_
          refine e_iret (pc := 33) (st := []) (ty := .int) dX5_bestPart_33 rfl rfl ?_
          refine e_iret (pc := 8) (st := []) (ty := .int) dX5_kind_8 rfl rfl ?_
          exact k _ Same.rf
        · show E sc mX6_kind 0 [.ref 54, .int (nI w), .int (nI m), .int y] [] S1 Q
          have hp := h1.pg (by omega) hv hp
          refine e_aload_n (pc := 0) (i := 0) dX6_kind_0 rfl rfl ?_
          refine e_iload_n (pc := 1) (i := 1) dX6_kind_1 rfl rfl ?_
          refine e_callV1 (pc := 2) (M' := mX6_isWheel) dX6_kind_2 iX6_isWheel lkX6_144 (by decide) (rO_obj sh_54 rfl) (Nat.le_of_ble_eq_true rfl) (Nat.le_of_ble_eq_true rfl) ?_
          refine sp_isWheelY hv hp hw ?_
          refine e_if_eq (pc := 5) (tgt := 43) dX6_kind_5 (by decide) (fun h5 => absurd h5 (by decide)) (fun h5 => ?_)
          refine e_iload_n (pc := 8) (i := 2) dX6_kind_8 rfl rfl ?_
          refine e_i2l (pc := 9) dX6_kind_9 ?_
          refine e_lconst' (pc := 10) (lN 0) dX6_kind_10 (by decide) ?_
          refine e_ldc2 (pc := 11) dX6_kind_11 (klX6_185 rfl) ?_
          refine e_callS3 (pc := 14) (M' := mX6_in) dX6_kind_14 jX6_in lkX6_46 (by decide) (Nat.le_of_ble_eq_true rfl) (Nat.le_of_ble_eq_true rfl) ?_
          refine sp_inY (lo := 0) (hi := 200) (by decide) (by decide) (by omega) (by omega) (by omega) ?_
          refine e_if_eq (pc := 17) (tgt := 43) dX6_kind_17 (by decide) (fun h17 => absurd h17 (by decide)) (fun h17 => ?_)
          refine e_iload_n (pc := 20) (i := 3) dX6_kind_20 rfl rfl ?_
          refine e_i2l (pc := 21) dX6_kind_21 ?_
          refine e_lconst' (pc := 22) (lN 0) dX6_kind_22 (by decide) ?_
          refine e_lconst' (pc := 23) (lN 1) dX6_kind_23 (by decide) ?_
          refine e_callS3 (pc := 24) (M' := mX6_in) dX6_kind_24 jX6_in lkX6_46 (by decide) (Nat.le_of_ble_eq_true rfl) (Nat.le_of_ble_eq_true rfl) ?_
          refine sp_inX (lo := 0) (hi := 1) (by decide) (by decide) hn ?_
          refine e_if_eq (pc := 27) (tgt := 43) dX6_kind_27 (by decide) (fun h27 => ?_) (fun h27 => absurd (by decide) h27)
          refine e_iconst' (pc := 43) (-1) dX6_kind_43 (by decide) ?_
          refine e_iret (pc := 44) (st := []) (ty := .int) dX6_kind_44 rfl rfl ?_
          exact k _ Same.rf
    · refine ask_both (-1) hI (fun Q k => ?_) (fun S1 h1 Q k => ?_)
      · show E sc mX5_kind 0 [.ref 0, .int (nI w), .int x, .int y] [] S Q
        refine e_aload_n (pc := 0) (i := 0) dX5_kind_0 rfl rfl ?_
        refine e_iload_n (pc := 1) (i := 1) dX5_kind_1 rfl rfl ?_
        refine e_iconst' (pc := 2) (nI 0) dX5_kind_2 (by decide) ?_
        refine e_iload_n (pc := 3) (i := 2) dX5_kind_3 rfl rfl ?_
        refine e_iload_n (pc := 4) (i := 3) dX5_kind_4 rfl rfl ?_
        refine e_callV4 (pc := 5) (M' := mX5_bestPart) dX5_kind_5 iX5_bestPart lkX5_181 (by decide) (rO_obj sh_0 rfl) (Nat.le_of_ble_eq_true rfl) (Nat.le_of_ble_eq_true rfl) ?_
        show E sc mX5_bestPart 0 [.ref 0, .int (nI w), .int (nI 0), .int x, .int y, .null, .null, .null, .null, .null] [] S _
        refine e_aload_n (pc := 0) (i := 0) dX5_bestPart_0 rfl rfl ?_
        refine e_getR (pc := 1) dX5_bestPart_1 (fX5_10 rfl) sh_0 rfl ?_
        refine e_iload_n (pc := 4) (i := 1) dX5_bestPart_4 rfl rfl ?_
        refine e_callV1 (pc := 5) (M' := mX0_has) dX5_bestPart_5 iX0_has lkX5_120 (by decide) (rO_obj sh_1 rfl) (Nat.le_of_ble_eq_true rfl) (Nat.le_of_ble_eq_true rfl) ?_
        refine sp_hasY r1 hv hr hw ?_
        refine e_if_eq (pc := 8) (tgt := 32) dX5_bestPart_8 (by decide) (fun h8 => absurd h8 (by decide)) (fun h8 => ?_)
        refine e_iload_n (pc := 11) (i := 3) dX5_bestPart_11 rfl rfl ?_
        refine e_iconst' (pc := 12) (nI 0) dX5_bestPart_12 (by decide) ?_
        refine e_sipush' (pc := 13) (nI 200) dX5_bestPart_13 (by decide) ?_
        refine e_callS3 (pc := 16) (M' := mX5_within) dX5_bestPart_16 jX5_within lkX5_70 (by decide) (Nat.le_of_ble_eq_true rfl) (Nat.le_of_ble_eq_true rfl) ?_
        refine sp_winX hn (by omega) (by omega) ?_
        refine e_if_eq (pc := 19) (tgt := 32) dX5_bestPart_19 (by decide) (fun h19 => ?_) (fun h19 => absurd (by decide) h19)
        refine e_iconst' (pc := 32) (-1) dX5_bestPart_32 (by decide) ?_
        refine e_iret (pc := 33) (st := []) (ty := .int) dX5_bestPart_33 rfl rfl ?_
        refine e_iret (pc := 8) (st := []) (ty := .int) dX5_kind_8 rfl rfl ?_
        exact k _ Same.rf
      · show E sc mX6_kind 0 [.ref 54, .int (nI w), .int x, .int y] [] S1 Q
        have hp := h1.pg (by omega) hv hp
        refine e_aload_n (pc := 0) (i := 0) dX6_kind_0 rfl rfl ?_
        refine e_iload_n (pc := 1) (i := 1) dX6_kind_1 rfl rfl ?_
        refine e_callV1 (pc := 2) (M' := mX6_isWheel) dX6_kind_2 iX6_isWheel lkX6_144 (by decide) (rO_obj sh_54 rfl) (Nat.le_of_ble_eq_true rfl) (Nat.le_of_ble_eq_true rfl) ?_
        refine sp_isWheelY hv hp hw ?_
        refine e_if_eq (pc := 5) (tgt := 43) dX6_kind_5 (by decide) (fun h5 => absurd h5 (by decide)) (fun h5 => ?_)
        refine e_iload_n (pc := 8) (i := 2) dX6_kind_8 rfl rfl ?_
        refine e_i2l (pc := 9) dX6_kind_9 ?_
        refine e_lconst' (pc := 10) (lN 0) dX6_kind_10 (by decide) ?_
        refine e_ldc2 (pc := 11) dX6_kind_11 (klX6_185 rfl) ?_
        refine e_callS3 (pc := 14) (M' := mX6_in) dX6_kind_14 jX6_in lkX6_46 (by decide) (Nat.le_of_ble_eq_true rfl) (Nat.le_of_ble_eq_true rfl) ?_
        refine sp_inX (lo := 0) (hi := 200) (by decide) (by decide) hn ?_
        refine e_if_eq (pc := 17) (tgt := 43) dX6_kind_17 (by decide) (fun h17 => ?_) (fun h17 => absurd (by decide) h17)
        refine e_iconst' (pc := 43) (-1) dX6_kind_43 (by decide) ?_
        refine e_iret (pc := 44) (st := []) (ty := .int) dX6_kind_44 rfl rfl ?_
        exact k _ Same.rf
  · refine ask_both (-1) hI (fun Q k => ?_) (fun S1 h1 Q k => ?_)
    · show E sc mX5_kind 0 [.ref 0, .int w, .int x, .int y] [] S Q
      refine e_aload_n (pc := 0) (i := 0) dX5_kind_0 rfl rfl ?_
      refine e_iload_n (pc := 1) (i := 1) dX5_kind_1 rfl rfl ?_
      refine e_iconst' (pc := 2) (nI 0) dX5_kind_2 (by decide) ?_
      refine e_iload_n (pc := 3) (i := 2) dX5_kind_3 rfl rfl ?_
      refine e_iload_n (pc := 4) (i := 3) dX5_kind_4 rfl rfl ?_
      refine e_callV4 (pc := 5) (M' := mX5_bestPart) dX5_kind_5 iX5_bestPart lkX5_181 (by decide) (rO_obj sh_0 rfl) (Nat.le_of_ble_eq_true rfl) (Nat.le_of_ble_eq_true rfl) ?_
      show E sc mX5_bestPart 0 [.ref 0, .int w, .int (nI 0), .int x, .int y, .null, .null, .null, .null, .null] [] S _
      refine e_aload_n (pc := 0) (i := 0) dX5_bestPart_0 rfl rfl ?_
      refine e_getR (pc := 1) dX5_bestPart_1 (fX5_10 rfl) sh_0 rfl ?_
      refine e_iload_n (pc := 4) (i := 1) dX5_bestPart_4 rfl rfl ?_
      refine e_callV1 (pc := 5) (M' := mX0_has) dX5_bestPart_5 iX0_has lkX5_120 (by decide) (rO_obj sh_1 rfl) (Nat.le_of_ble_eq_true rfl) (Nat.le_of_ble_eq_true rfl) ?_
      refine sp_hasX r1 hv hr hn ?_
      refine e_if_eq (pc := 8) (tgt := 32) dX5_bestPart_8 (by decide) (fun h8 => ?_) (fun h8 => absurd (by decide) h8)
      refine e_iconst' (pc := 32) (-1) dX5_bestPart_32 (by decide) ?_
      refine e_iret (pc := 33) (st := []) (ty := .int) dX5_bestPart_33 rfl rfl ?_
      refine e_iret (pc := 8) (st := []) (ty := .int) dX5_kind_8 rfl rfl ?_
      exact k _ Same.rf
    · show E sc mX6_kind 0 [.ref 54, .int w, .int x, .int y] [] S1 Q
      have hp := h1.pg (by omega) hv hp
      refine e_aload_n (pc := 0) (i := 0) dX6_kind_0 rfl rfl ?_
      refine e_iload_n (pc := 1) (i := 1) dX6_kind_1 rfl rfl ?_
      refine e_callV1 (pc := 2) (M' := mX6_isWheel) dX6_kind_2 iX6_isWheel lkX6_144 (by decide) (rO_obj sh_54 rfl) (Nat.le_of_ble_eq_true rfl) (Nat.le_of_ble_eq_true rfl) ?_
      refine sp_isWheelX hv hp hn ?_
      refine e_if_eq (pc := 5) (tgt := 43) dX6_kind_5 (by decide) (fun h5 => ?_) (fun h5 => absurd (by decide) h5)
      refine e_iconst' (pc := 43) (-1) dX6_kind_43 (by decide) ?_
      refine e_iret (pc := 44) (st := []) (ty := .int) dX6_kind_44 rfl rfl ?_
      exact k _ Same.rf
theorem lp_best20 {sc : PSc} {w m c : Nat} {R : Rw} {S0 : PS} {Q : PQ} (hv : Vd R) (hc : R 21 ≤ 999999) (hr0 : RowAt S0 1 R) (hw : w < R 20) (hm : m ≤ 200) (hcv : c = R (5 + w)) (hc12 : c ≤ 12) (k : ∀ S', Fr 6 5 S0 S' → Q (some (.int (nI (lbi (fun v => err (pn (rs R (5 * 2 + w) v) m)) 248832 c).2))) S') : ∀ (n : Nat) (j : Nat) (S : PS) (z : Value), j ≤ c → c - j < n → Fr 6 5 S0 S → E sc mX5_bestPart 64 [.ref 0, .int (nI w), .int (nI 2), .int (nI m), .int (nI 0), .int (nI c), .int (nI (lbi (fun v => err (pn (rs R (5 * 2 + w) v) m)) 248832 j).1), .int (nI (lbi (fun v => err (pn (rs R (5 * 2 + w) v) m)) 248832 j).2), .int (nI j), z] [] S Q := by
  intro n
  induction n with
  | zero => intro j S z hj hn hf; exact absurd hn (by omega)
  | succ n ih =>
    intro j S z hj hn hf
    have h5 := hv.1
    have htw := hv.2 w hw
    have hr := hr0.frI hf r6 r1 (by omega)
    have hq : ∀ v, v < c → Vd (rs R (5 * 2 + w) v) := fun v hv2 => set_vd (a := 2) hv hw (Or.inr (Or.inl ⟨rfl, by omega⟩))
    have hb1 := lbi_le (f := fun v => err (pn (rs R (5 * 2 + w) v) m)) (i0 := 248832) (n := c) (fun v hv2 => err_le (pn_vd (hq v hv2) m)) (by omega) j hj
    refine e_iload (pc := 64) dX5_bestPart_64 rfl ?_
    refine e_iload (pc := 66) dX5_bestPart_66 rfl ?_
    refine e_icmp_ge (pc := 68) (tgt := 132) dX5_bestPart_68 (by decide) (fun h68 => ?_) (fun h68 => ?_)
    · replace h68 := (nI_leI (by omega) (by omega)).mp h68
      obtain rfl : j = c := by omega
      refine e_iload (pc := 132) dX5_bestPart_132 rfl ?_
      refine e_if_ne (pc := 134) (tgt := 142) dX5_bestPart_134 (by decide) (fun h134 => absurd (by decide) h134) (fun h134 => ?_)
      refine e_iload (pc := 137) dX5_bestPart_137 rfl ?_
      refine e_goto (pc := 139) (tgt := 144) dX5_bestPart_139 (by decide) ?_
      refine e_iret (pc := 144) (st := []) (ty := .int) dX5_bestPart_144 rfl rfl ?_
      exact k S hf
    · replace h68 := mt (nI_leI (by omega) (by omega)).mpr h68
      have hvd := hq j (by omega)
      have hb2 := err_le (pn_vd hvd m)
      have hih := fun S2 z2 => ih (j + 1) S2 z2 (by omega) (by omega)
      rw [lbi] at hih
      refine e_aload_n (pc := 71) (i := 0) dX5_bestPart_71 rfl rfl ?_
      refine e_iload_n (pc := 72) (i := 1) dX5_bestPart_72 rfl rfl ?_
      refine e_iload_n (pc := 73) (i := 2) dX5_bestPart_73 rfl rfl ?_
      refine e_iload (pc := 74) dX5_bestPart_74 rfl ?_
      refine e_callV3 (pc := 76) (M' := mX5_tryPart) dX5_bestPart_76 iX5_tryPart lkX5_173 (by decide) (rO_obj sh_0 rfl) (Nat.le_of_ble_eq_true rfl) (Nat.le_of_ble_eq_true rfl) ?_
      refine sp_tryPart (a := 2) (v := j) hv hr hw (by omega) (fun S2 q1 q2 q3 => ?_)
      refine e_aload_n (pc := 79) (i := 0) dX5_bestPart_79 rfl rfl ?_
      refine e_getR (pc := 80) dX5_bestPart_80 (fX5_16 rfl) sh_0 rfl ?_
      refine e_iload_n (pc := 83) (i := 3) dX5_bestPart_83 rfl rfl ?_
      refine e_callV1 (pc := 84) (M' := mX0_push) dX5_bestPart_84 iX0_push lkX5_148 (by decide) (rO_obj sh_6 rfl) (Nat.le_of_ble_eq_true rfl) (Nat.le_of_ble_eq_true rfl) ?_
      refine sp_push r6 hvd q1 (by omega) (fun S3 q4 q5 q6 => ?_)
      refine e_iload_n (pc := 87) (i := 2) dX5_bestPart_87 rfl rfl ?_
      refine e_iconst' (pc := 88) (nI 3) dX5_bestPart_88 (by decide) ?_
      refine e_icmp_ne (pc := 89) (tgt := 102) dX5_bestPart_89 (by decide) (fun h89 => ?_) (fun h89 => absurd h89 (by decide))
      refine e_aload_n (pc := 102) (i := 0) dX5_bestPart_102 rfl rfl ?_
      refine e_getR (pc := 103) dX5_bestPart_103 (fX5_16 rfl) sh_0 rfl ?_
      refine e_callV0 (pc := 106) (M' := mX0_error) dX5_bestPart_106 iX0_error lkX5_114 (by decide) (rO_obj sh_6 rfl) (Nat.le_of_ble_eq_true rfl) (Nat.le_of_ble_eq_true rfl) ?_
      refine sp_error r6 (pn_vd hvd m) q4 (by rw [pn_count hvd, rs_21 (by omega)]; omega) ?_
      refine e_istore (pc := 109) dX5_bestPart_109 (by decide) rfl ?_
      refine e_iload (pc := 111) dX5_bestPart_111 rfl ?_
      refine e_iload (pc := 113) dX5_bestPart_113 rfl ?_
      refine e_icmp_ge (pc := 115) (tgt := 126) dX5_bestPart_115 (by decide) (fun h115 => ?_) (fun h115 => ?_)
      · replace h115 := (nI_leI (by omega) (by omega)).mp h115
        rw [if_neg (by omega)] at hih
        refine e_iinc' (pc := 126) (nI (j + 1)) dX5_bestPart_126 rfl (by decide) rfl (nI_1 _) ?_
        refine e_goto (pc := 129) (tgt := 64) dX5_bestPart_129 (by decide) ?_
        exact hih S3 _ ((hf.tr q3).tr q6)
      · replace h115 := mt (nI_leI (by omega) (by omega)).mpr h115
        rw [if_pos (by omega)] at hih
        refine e_iload (pc := 118) dX5_bestPart_118 rfl ?_
        refine e_istore (pc := 120) dX5_bestPart_120 (by decide) rfl ?_
        refine e_iload (pc := 122) dX5_bestPart_122 rfl ?_
        refine e_istore (pc := 124) dX5_bestPart_124 (by decide) rfl ?_
        refine e_iinc' (pc := 126) (nI (j + 1)) dX5_bestPart_126 rfl (by decide) rfl (nI_1 _) ?_
        refine e_goto (pc := 129) (tgt := 64) dX5_bestPart_129 (by decide) ?_
        exact hih S3 _ ((hf.tr q3).tr q6)
theorem lm_best20 {sc : PSc} {w m c : Nat} {R : Rw} {S0 : PS} {Q : PQ} (hv : Vd R) (hc : R 21 ≤ 999999) (hw : w < R 20) (hm : m ≤ 200) (hcv : c = R (5 + w)) (hc12 : c ≤ 12) (k : ∀ S', Same S0 S' → Q (some (.int (nI (lbi (fun v => err (pn (rs R (5 * 2 + w) v) m)) 1000000 c).2))) S') : ∀ (n : Nat) (j : Nat) (S : PS) (z : Value) (R2 : Rw), j ≤ c → c - j < n → Same S0 S → PgAt S 110 R2 → R2 20 = R 20 → (∀ v, rs R2 (5 * 2 + w) v = rs R (5 * 2 + w) v) → E sc mX6_leastAt 17 [.ref 54, .int (nI (5 * 2 + w)), .int (nI 0), .int (nI c), .int (nI m), .int (nI 0), .int (nI 0), .int (nI (lbi (fun v => err (pn (rs R (5 * 2 + w) v) m)) 1000000 j).1), .int (nI (lbi (fun v => err (pn (rs R (5 * 2 + w) v) m)) 1000000 j).2), .int (nI j), z] [] S Q := by
  intro n
  induction n with
  | zero => intro j S z R2 hj hn hf p1 h20 hrs; exact absurd hn (by omega)
  | succ n ih =>
    intro j S z R2 hj hn hf p1 h20 hrs
    have h5 := hv.1
    have htw := hv.2 w hw
    have hq : ∀ v, v < c → Vd (rs R (5 * 2 + w) v) := fun v hv2 => set_vd (a := 2) hv hw (Or.inr (Or.inl ⟨rfl, by omega⟩))
    have hb1 := lbi_le (f := fun v => err (pn (rs R (5 * 2 + w) v) m)) (i0 := 1000000) (n := c) (fun v hv2 => err_le (pn_vd (hq v hv2) m)) (by omega) j hj
    refine e_iload (pc := 17) dX6_leastAt_17 rfl ?_
    refine e_iload_n (pc := 19) (i := 3) dX6_leastAt_19 rfl rfl ?_
    refine e_icmp_ge (pc := 20) (tgt := 100) dX6_leastAt_20 (by decide) (fun h20 => ?_) (fun h20 => ?_)
    · replace h20 := (nI_leI (by omega) (by omega)).mp h20
      obtain rfl : j = c := by omega
      refine e_iload (pc := 100) dX6_leastAt_100 rfl ?_
      refine e_if_ne (pc := 102) (tgt := 110) dX6_leastAt_102 (by decide) (fun h102 => absurd (by decide) h102) (fun h102 => ?_)
      refine e_iload (pc := 105) dX6_leastAt_105 rfl ?_
      refine e_goto (pc := 107) (tgt := 112) dX6_leastAt_107 (by decide) ?_
      refine e_iret (pc := 112) (st := []) (ty := .int) dX6_leastAt_112 rfl rfl ?_
      exact k S hf
    · replace h20 := mt (nI_leI (by omega) (by omega)).mpr h20
      have hvd := hq j (by omega)
      have hb2 := err_le (pn_vd hvd m)
      have hih := fun S2 z2 => ih (j + 1) S2 z2
      rw [lbi] at hih
      refine e_aload_n (pc := 23) (i := 0) dX6_leastAt_23 rfl rfl ?_
      refine e_getR (pc := 24) dX6_leastAt_24 (fX6_7 rfl) sh_54 rfl ?_
      refine e_bipush' (pc := 27) (nI 110) dX6_leastAt_27 (by decide) ?_
      refine e_iload_n (pc := 29) (i := 1) dX6_leastAt_29 rfl rfl ?_
      refine e_iadd (pc := 30) dX6_leastAt_30 ?_
      refine E.it (nI (110 + (5 * 2 + w))) (nI_add _ _) ?_
      refine e_iload_n (pc := 31) (i := 2) dX6_leastAt_31 rfl rfl ?_
      refine e_iload (pc := 32) dX6_leastAt_32 rfl ?_
      refine e_iadd (pc := 34) dX6_leastAt_34 ?_
      refine E.it (nI j) (by rw [nI_add, Nat.zero_add]) ?_
      refine e_iast (pc := 35) dX6_leastAt_35 sh_55 (vp_in_nI (by omega) (by omega)) ?_
      rw [nI_clamp (show 110 + (5 * 2 + w) < 2 ^ 31 by omega), ← Nat.add_assoc]
      have p2 := p1.set (a := 2) (v := j) (by omega) (show w < 5 by omega) (by omega)
      rw [hrs] at p2
      have f2 : FrQ 110 S (up2 S.1 55 (110 + 5 * 2 + w) (pv 2 j), S.2) := FrQ.up ⟨rfl, fun _ _ => rfl, fun _ _ => rfl⟩ (by omega) (by omega)
      refine e_iload (pc := 36) dX6_leastAt_36 rfl ?_
      refine e_if_eq (pc := 38) (tgt := 52) dX6_leastAt_38 (by decide) (fun h38 => ?_) (fun h38 => absurd (by decide) h38)
      refine e_aload_n (pc := 52) (i := 0) dX6_leastAt_52 rfl rfl ?_
      refine e_bipush' (pc := 53) (nI 110) dX6_leastAt_53 (by decide) ?_
      refine e_iload (pc := 55) dX6_leastAt_55 rfl ?_
      refine e_callV2 (pc := 57) (M' := mX6_errorBehind) dX6_leastAt_57 iX6_errorBehind lkX6_187 (by decide) (rO_obj sh_54 rfl) (Nat.le_of_ble_eq_true rfl) (Nat.le_of_ble_eq_true rfl) ?_
      refine sp_errorBehind (p := 110) (by omega) (by omega) hvd p2 (by omega) (by rw [rs_21 (by omega)]; exact hc) (fun S3 q4 => ?_)
      refine e_istore (pc := 60) dX6_leastAt_60 (by decide) rfl ?_
      refine e_iload (pc := 62) dX6_leastAt_62 rfl ?_
      refine e_iload (pc := 64) dX6_leastAt_64 rfl ?_
      refine e_icmp_ge (pc := 66) (tgt := 74) dX6_leastAt_66 (by decide) (fun h66 => ?_) (fun h66 => ?_)
      · replace h66 := (nI_leI (by omega) (by omega)).mp h66
        rw [if_neg (by omega)] at hih
        refine e_iload (pc := 74) dX6_leastAt_74 rfl ?_
        refine e_istore (pc := 76) dX6_leastAt_76 (by decide) rfl ?_
        refine e_iload (pc := 78) dX6_leastAt_78 rfl ?_
        refine e_iload (pc := 80) dX6_leastAt_80 rfl ?_
        refine e_icmp_ge (pc := 82) (tgt := 90) dX6_leastAt_82 (by decide) (fun h82 => ?_) (fun h82 => absurd (nI_le h66 (by omega)) h82)
        refine e_iload (pc := 90) dX6_leastAt_90 rfl ?_
        refine e_istore (pc := 92) dX6_leastAt_92 (by decide) rfl ?_
        refine e_iinc' (pc := 94) (nI (j + 1)) dX6_leastAt_94 rfl (by decide) rfl (nI_1 _) ?_
        refine e_goto (pc := 97) (tgt := 17) dX6_leastAt_97 (by decide) ?_
        refine hih S3 _ (rs R (5 * 2 + w) j) (by omega) (by omega) ((hf.tr (f2.same (by omega))).tr q4.same) ?_ (rs_ne _ _ (by omega)) (fun v => rs_rs _ _ _ _)
        refine p2.of (fun x h1 h2 => q4.2.2.1 x (by omega)) ?_
        rw [rs_ne _ _ (by omega)]; exact h5
      · replace h66 := mt (nI_leI (by omega) (by omega)).mpr h66
        rw [if_pos (by omega)] at hih
        refine e_iload (pc := 69) dX6_leastAt_69 rfl ?_
        refine e_goto (pc := 71) (tgt := 76) dX6_leastAt_71 (by decide) ?_
        refine e_istore (pc := 76) dX6_leastAt_76 (by decide) rfl ?_
        refine e_iload (pc := 78) dX6_leastAt_78 rfl ?_
        refine e_iload (pc := 80) dX6_leastAt_80 rfl ?_
        refine e_icmp_ge (pc := 82) (tgt := 90) dX6_leastAt_82 (by decide) (fun h82 => absurd ((nI_leI (by omega) (by omega)).mp h82) h66) (fun h82 => ?_)
        refine e_iload (pc := 85) dX6_leastAt_85 rfl ?_
        refine e_goto (pc := 87) (tgt := 92) dX6_leastAt_87 (by decide) ?_
        refine e_istore (pc := 92) dX6_leastAt_92 (by decide) rfl ?_
        refine e_iinc' (pc := 94) (nI (j + 1)) dX6_leastAt_94 rfl (by decide) rfl (nI_1 _) ?_
        refine e_goto (pc := 97) (tgt := 17) dX6_leastAt_97 (by decide) ?_
        refine hih S3 _ (rs R (5 * 2 + w) j) (by omega) (by omega) ((hf.tr (f2.same (by omega))).tr q4.same) ?_ (rs_ne _ _ (by omega)) (fun v => rs_rs _ _ _ _)
        refine p2.of (fun x h1 h2 => q4.2.2.1 x (by omega)) ?_
        rw [rs_ne _ _ (by omega)]; exact h5
theorem lp_best21 {sc : PSc} {w m c : Nat} {R : Rw} {S0 : PS} {Q : PQ} (hv : Vd R) (hc : R 21 ≤ 999999) (hr0 : RowAt S0 1 R) (hw : w < R 20) (hm : m ≤ 200) (hcv : c = R (5 + w)) (hc12 : c ≤ 12) (k : ∀ S', Fr 6 5 S0 S' → Q (some (.int (nI (lbi (fun v => err (pn (rs R (5 * 2 + w) v) m)) 248832 c).1))) S') : ∀ (n : Nat) (j : Nat) (S : PS) (z : Value), j ≤ c → c - j < n → Fr 6 5 S0 S → E sc mX5_bestPart 64 [.ref 0, .int (nI w), .int (nI 2), .int (nI m), .int (nI 1), .int (nI c), .int (nI (lbi (fun v => err (pn (rs R (5 * 2 + w) v) m)) 248832 j).1), .int (nI (lbi (fun v => err (pn (rs R (5 * 2 + w) v) m)) 248832 j).2), .int (nI j), z] [] S Q := by
  intro n
  induction n with
  | zero => intro j S z hj hn hf; exact absurd hn (by omega)
  | succ n ih =>
    intro j S z hj hn hf
    have h5 := hv.1
    have htw := hv.2 w hw
    have hr := hr0.frI hf r6 r1 (by omega)
    have hq : ∀ v, v < c → Vd (rs R (5 * 2 + w) v) := fun v hv2 => set_vd (a := 2) hv hw (Or.inr (Or.inl ⟨rfl, by omega⟩))
    have hb1 := lbi_le (f := fun v => err (pn (rs R (5 * 2 + w) v) m)) (i0 := 248832) (n := c) (fun v hv2 => err_le (pn_vd (hq v hv2) m)) (by omega) j hj
    refine e_iload (pc := 64) dX5_bestPart_64 rfl ?_
    refine e_iload (pc := 66) dX5_bestPart_66 rfl ?_
    refine e_icmp_ge (pc := 68) (tgt := 132) dX5_bestPart_68 (by decide) (fun h68 => ?_) (fun h68 => ?_)
    · replace h68 := (nI_leI (by omega) (by omega)).mp h68
      obtain rfl : j = c := by omega
      refine e_iload (pc := 132) dX5_bestPart_132 rfl ?_
      refine e_if_ne (pc := 134) (tgt := 142) dX5_bestPart_134 (by decide) (fun h134 => ?_) (fun h134 => absurd h134 (by decide))
      refine e_iload (pc := 142) dX5_bestPart_142 rfl ?_
      refine e_iret (pc := 144) (st := []) (ty := .int) dX5_bestPart_144 rfl rfl ?_
      exact k S hf
    · replace h68 := mt (nI_leI (by omega) (by omega)).mpr h68
      have hvd := hq j (by omega)
      have hb2 := err_le (pn_vd hvd m)
      have hih := fun S2 z2 => ih (j + 1) S2 z2 (by omega) (by omega)
      rw [lbi] at hih
      refine e_aload_n (pc := 71) (i := 0) dX5_bestPart_71 rfl rfl ?_
      refine e_iload_n (pc := 72) (i := 1) dX5_bestPart_72 rfl rfl ?_
      refine e_iload_n (pc := 73) (i := 2) dX5_bestPart_73 rfl rfl ?_
      refine e_iload (pc := 74) dX5_bestPart_74 rfl ?_
      refine e_callV3 (pc := 76) (M' := mX5_tryPart) dX5_bestPart_76 iX5_tryPart lkX5_173 (by decide) (rO_obj sh_0 rfl) (Nat.le_of_ble_eq_true rfl) (Nat.le_of_ble_eq_true rfl) ?_
      refine sp_tryPart (a := 2) (v := j) hv hr hw (by omega) (fun S2 q1 q2 q3 => ?_)
      refine e_aload_n (pc := 79) (i := 0) dX5_bestPart_79 rfl rfl ?_
      refine e_getR (pc := 80) dX5_bestPart_80 (fX5_16 rfl) sh_0 rfl ?_
      refine e_iload_n (pc := 83) (i := 3) dX5_bestPart_83 rfl rfl ?_
      refine e_callV1 (pc := 84) (M' := mX0_push) dX5_bestPart_84 iX0_push lkX5_148 (by decide) (rO_obj sh_6 rfl) (Nat.le_of_ble_eq_true rfl) (Nat.le_of_ble_eq_true rfl) ?_
      refine sp_push r6 hvd q1 (by omega) (fun S3 q4 q5 q6 => ?_)
      refine e_iload_n (pc := 87) (i := 2) dX5_bestPart_87 rfl rfl ?_
      refine e_iconst' (pc := 88) (nI 3) dX5_bestPart_88 (by decide) ?_
      refine e_icmp_ne (pc := 89) (tgt := 102) dX5_bestPart_89 (by decide) (fun h89 => ?_) (fun h89 => absurd h89 (by decide))
      refine e_aload_n (pc := 102) (i := 0) dX5_bestPart_102 rfl rfl ?_
      refine e_getR (pc := 103) dX5_bestPart_103 (fX5_16 rfl) sh_0 rfl ?_
      refine e_callV0 (pc := 106) (M' := mX0_error) dX5_bestPart_106 iX0_error lkX5_114 (by decide) (rO_obj sh_6 rfl) (Nat.le_of_ble_eq_true rfl) (Nat.le_of_ble_eq_true rfl) ?_
      refine sp_error r6 (pn_vd hvd m) q4 (by rw [pn_count hvd, rs_21 (by omega)]; omega) ?_
      refine e_istore (pc := 109) dX5_bestPart_109 (by decide) rfl ?_
      refine e_iload (pc := 111) dX5_bestPart_111 rfl ?_
      refine e_iload (pc := 113) dX5_bestPart_113 rfl ?_
      refine e_icmp_ge (pc := 115) (tgt := 126) dX5_bestPart_115 (by decide) (fun h115 => ?_) (fun h115 => ?_)
      · replace h115 := (nI_leI (by omega) (by omega)).mp h115
        rw [if_neg (by omega)] at hih
        refine e_iinc' (pc := 126) (nI (j + 1)) dX5_bestPart_126 rfl (by decide) rfl (nI_1 _) ?_
        refine e_goto (pc := 129) (tgt := 64) dX5_bestPart_129 (by decide) ?_
        exact hih S3 _ ((hf.tr q3).tr q6)
      · replace h115 := mt (nI_leI (by omega) (by omega)).mpr h115
        rw [if_pos (by omega)] at hih
        refine e_iload (pc := 118) dX5_bestPart_118 rfl ?_
        refine e_istore (pc := 120) dX5_bestPart_120 (by decide) rfl ?_
        refine e_iload (pc := 122) dX5_bestPart_122 rfl ?_
        refine e_istore (pc := 124) dX5_bestPart_124 (by decide) rfl ?_
        refine e_iinc' (pc := 126) (nI (j + 1)) dX5_bestPart_126 rfl (by decide) rfl (nI_1 _) ?_
        refine e_goto (pc := 129) (tgt := 64) dX5_bestPart_129 (by decide) ?_
        exact hih S3 _ ((hf.tr q3).tr q6)
theorem lm_best21 {sc : PSc} {w m c : Nat} {R : Rw} {S0 : PS} {Q : PQ} (hv : Vd R) (hc : R 21 ≤ 999999) (hw : w < R 20) (hm : m ≤ 200) (hcv : c = R (5 + w)) (hc12 : c ≤ 12) (k : ∀ S', Same S0 S' → Q (some (.int (nI (lbi (fun v => err (pn (rs R (5 * 2 + w) v) m)) 1000000 c).1))) S') : ∀ (n : Nat) (j : Nat) (S : PS) (z : Value) (R2 : Rw), j ≤ c → c - j < n → Same S0 S → PgAt S 110 R2 → R2 20 = R 20 → (∀ v, rs R2 (5 * 2 + w) v = rs R (5 * 2 + w) v) → E sc mX6_leastAt 17 [.ref 54, .int (nI (5 * 2 + w)), .int (nI 0), .int (nI c), .int (nI m), .int (nI 0), .int (nI 1), .int (nI (lbi (fun v => err (pn (rs R (5 * 2 + w) v) m)) 1000000 j).1), .int (nI (lbi (fun v => err (pn (rs R (5 * 2 + w) v) m)) 1000000 j).2), .int (nI j), z] [] S Q := by
  intro n
  induction n with
  | zero => intro j S z R2 hj hn hf p1 h20 hrs; exact absurd hn (by omega)
  | succ n ih =>
    intro j S z R2 hj hn hf p1 h20 hrs
    have h5 := hv.1
    have htw := hv.2 w hw
    have hq : ∀ v, v < c → Vd (rs R (5 * 2 + w) v) := fun v hv2 => set_vd (a := 2) hv hw (Or.inr (Or.inl ⟨rfl, by omega⟩))
    have hb1 := lbi_le (f := fun v => err (pn (rs R (5 * 2 + w) v) m)) (i0 := 1000000) (n := c) (fun v hv2 => err_le (pn_vd (hq v hv2) m)) (by omega) j hj
    refine e_iload (pc := 17) dX6_leastAt_17 rfl ?_
    refine e_iload_n (pc := 19) (i := 3) dX6_leastAt_19 rfl rfl ?_
    refine e_icmp_ge (pc := 20) (tgt := 100) dX6_leastAt_20 (by decide) (fun h20 => ?_) (fun h20 => ?_)
    · replace h20 := (nI_leI (by omega) (by omega)).mp h20
      obtain rfl : j = c := by omega
      refine e_iload (pc := 100) dX6_leastAt_100 rfl ?_
      refine e_if_ne (pc := 102) (tgt := 110) dX6_leastAt_102 (by decide) (fun h102 => ?_) (fun h102 => absurd h102 (by decide))
      refine e_iload (pc := 110) dX6_leastAt_110 rfl ?_
      refine e_iret (pc := 112) (st := []) (ty := .int) dX6_leastAt_112 rfl rfl ?_
      exact k S hf
    · replace h20 := mt (nI_leI (by omega) (by omega)).mpr h20
      have hvd := hq j (by omega)
      have hb2 := err_le (pn_vd hvd m)
      have hih := fun S2 z2 => ih (j + 1) S2 z2
      rw [lbi] at hih
      refine e_aload_n (pc := 23) (i := 0) dX6_leastAt_23 rfl rfl ?_
      refine e_getR (pc := 24) dX6_leastAt_24 (fX6_7 rfl) sh_54 rfl ?_
      refine e_bipush' (pc := 27) (nI 110) dX6_leastAt_27 (by decide) ?_
      refine e_iload_n (pc := 29) (i := 1) dX6_leastAt_29 rfl rfl ?_
      refine e_iadd (pc := 30) dX6_leastAt_30 ?_
      refine E.it (nI (110 + (5 * 2 + w))) (nI_add _ _) ?_
      refine e_iload_n (pc := 31) (i := 2) dX6_leastAt_31 rfl rfl ?_
      refine e_iload (pc := 32) dX6_leastAt_32 rfl ?_
      refine e_iadd (pc := 34) dX6_leastAt_34 ?_
      refine E.it (nI j) (by rw [nI_add, Nat.zero_add]) ?_
      refine e_iast (pc := 35) dX6_leastAt_35 sh_55 (vp_in_nI (by omega) (by omega)) ?_
      rw [nI_clamp (show 110 + (5 * 2 + w) < 2 ^ 31 by omega), ← Nat.add_assoc]
      have p2 := p1.set (a := 2) (v := j) (by omega) (show w < 5 by omega) (by omega)
      rw [hrs] at p2
      have f2 : FrQ 110 S (up2 S.1 55 (110 + 5 * 2 + w) (pv 2 j), S.2) := FrQ.up ⟨rfl, fun _ _ => rfl, fun _ _ => rfl⟩ (by omega) (by omega)
      refine e_iload (pc := 36) dX6_leastAt_36 rfl ?_
      refine e_if_eq (pc := 38) (tgt := 52) dX6_leastAt_38 (by decide) (fun h38 => ?_) (fun h38 => absurd (by decide) h38)
      refine e_aload_n (pc := 52) (i := 0) dX6_leastAt_52 rfl rfl ?_
      refine e_bipush' (pc := 53) (nI 110) dX6_leastAt_53 (by decide) ?_
      refine e_iload (pc := 55) dX6_leastAt_55 rfl ?_
      refine e_callV2 (pc := 57) (M' := mX6_errorBehind) dX6_leastAt_57 iX6_errorBehind lkX6_187 (by decide) (rO_obj sh_54 rfl) (Nat.le_of_ble_eq_true rfl) (Nat.le_of_ble_eq_true rfl) ?_
      refine sp_errorBehind (p := 110) (by omega) (by omega) hvd p2 (by omega) (by rw [rs_21 (by omega)]; exact hc) (fun S3 q4 => ?_)
      refine e_istore (pc := 60) dX6_leastAt_60 (by decide) rfl ?_
      refine e_iload (pc := 62) dX6_leastAt_62 rfl ?_
      refine e_iload (pc := 64) dX6_leastAt_64 rfl ?_
      refine e_icmp_ge (pc := 66) (tgt := 74) dX6_leastAt_66 (by decide) (fun h66 => ?_) (fun h66 => ?_)
      · replace h66 := (nI_leI (by omega) (by omega)).mp h66
        rw [if_neg (by omega)] at hih
        refine e_iload (pc := 74) dX6_leastAt_74 rfl ?_
        refine e_istore (pc := 76) dX6_leastAt_76 (by decide) rfl ?_
        refine e_iload (pc := 78) dX6_leastAt_78 rfl ?_
        refine e_iload (pc := 80) dX6_leastAt_80 rfl ?_
        refine e_icmp_ge (pc := 82) (tgt := 90) dX6_leastAt_82 (by decide) (fun h82 => ?_) (fun h82 => absurd (nI_le h66 (by omega)) h82)
        refine e_iload (pc := 90) dX6_leastAt_90 rfl ?_
        refine e_istore (pc := 92) dX6_leastAt_92 (by decide) rfl ?_
        refine e_iinc' (pc := 94) (nI (j + 1)) dX6_leastAt_94 rfl (by decide) rfl (nI_1 _) ?_
        refine e_goto (pc := 97) (tgt := 17) dX6_leastAt_97 (by decide) ?_
        refine hih S3 _ (rs R (5 * 2 + w) j) (by omega) (by omega) ((hf.tr (f2.same (by omega))).tr q4.same) ?_ (rs_ne _ _ (by omega)) (fun v => rs_rs _ _ _ _)
        refine p2.of (fun x h1 h2 => q4.2.2.1 x (by omega)) ?_
        rw [rs_ne _ _ (by omega)]; exact h5
      · replace h66 := mt (nI_leI (by omega) (by omega)).mpr h66
        rw [if_pos (by omega)] at hih
        refine e_iload (pc := 69) dX6_leastAt_69 rfl ?_
        refine e_goto (pc := 71) (tgt := 76) dX6_leastAt_71 (by decide) ?_
        refine e_istore (pc := 76) dX6_leastAt_76 (by decide) rfl ?_
        refine e_iload (pc := 78) dX6_leastAt_78 rfl ?_
        refine e_iload (pc := 80) dX6_leastAt_80 rfl ?_
        refine e_icmp_ge (pc := 82) (tgt := 90) dX6_leastAt_82 (by decide) (fun h82 => absurd ((nI_leI (by omega) (by omega)).mp h82) h66) (fun h82 => ?_)
        refine e_iload (pc := 85) dX6_leastAt_85 rfl ?_
        refine e_goto (pc := 87) (tgt := 92) dX6_leastAt_87 (by decide) ?_
        refine e_istore (pc := 92) dX6_leastAt_92 (by decide) rfl ?_
        refine e_iinc' (pc := 94) (nI (j + 1)) dX6_leastAt_94 rfl (by decide) rfl (nI_1 _) ?_
        refine e_goto (pc := 97) (tgt := 17) dX6_leastAt_97 (by decide) ?_
        refine hih S3 _ (rs R (5 * 2 + w) j) (by omega) (by omega) ((hf.tr (f2.same (by omega))).tr q4.same) ?_ (rs_ne _ _ (by omega)) (fun v => rs_rs _ _ _ _)
        refine p2.of (fun x h1 h2 => q4.2.2.1 x (by omega)) ?_
        rw [rs_ne _ _ (by omega)]; exact h5
theorem b_begin {sc : PSc} {S : PS} (hI : InvS S) (w x y : Int32) : Bth sc mX5_begin mX6_begin [.int w, .int x, .int y] S := by
  obtain ⟨R, hv, hc, hr, hp⟩ := hI.1
  have hv5 := hv.1
  rcases Classical.em (inw w (R 20)) with ⟨w, rfl, hw⟩ | hn
  · have htw := hv.2 w hw
    rcases Classical.em (inr x 0 200) with ⟨m, rfl, -, hm⟩ | hn
    · rcases Classical.em (inr y 0 1) with ⟨a, rfl, -, ha⟩ | hn
      · rcases (show a = 0 ∨ a = 1 by omega) with rfl | rfl
        · refine ask_both (nI (lbi (fun v => err (pn (rs R (5 * 2 + w) v) m)) 248832 (R (5 + w))).2) hI (fun Q k => ?_) (fun S1 h1 Q k => ?_)
          · show E sc mX5_begin 0 [.ref 0, .int (nI w), .int (nI m), .int (nI 0)] [] S Q
            refine e_aload_n (pc := 0) (i := 0) dX5_begin_0 rfl rfl ?_
            refine e_iload_n (pc := 1) (i := 1) dX5_begin_1 rfl rfl ?_
            refine e_iconst' (pc := 2) (nI 2) dX5_begin_2 (by decide) ?_
            refine e_iload_n (pc := 3) (i := 2) dX5_begin_3 rfl rfl ?_
            refine e_iload_n (pc := 4) (i := 3) dX5_begin_4 rfl rfl ?_
            refine e_callV4 (pc := 5) (M' := mX5_bestPart) dX5_begin_5 iX5_bestPart lkX5_181 (by decide) (rO_obj sh_0 rfl) (Nat.le_of_ble_eq_true rfl) (Nat.le_of_ble_eq_true rfl) ?_
            show E sc mX5_bestPart 0 [.ref 0, .int (nI w), .int (nI 2), .int (nI m), .int (nI 0), .null, .null, .null, .null, .null] [] S _
            refine e_aload_n (pc := 0) (i := 0) dX5_bestPart_0 rfl rfl ?_
            refine e_getR (pc := 1) dX5_bestPart_1 (fX5_10 rfl) sh_0 rfl ?_
            refine e_iload_n (pc := 4) (i := 1) dX5_bestPart_4 rfl rfl ?_
            refine e_callV1 (pc := 5) (M' := mX0_has) dX5_bestPart_5 iX0_has lkX5_120 (by decide) (rO_obj sh_1 rfl) (Nat.le_of_ble_eq_true rfl) (Nat.le_of_ble_eq_true rfl) ?_
            refine sp_hasY r1 hv hr hw ?_
            refine e_if_eq (pc := 8) (tgt := 32) dX5_bestPart_8 (by decide) (fun h8 => absurd h8 (by decide)) (fun h8 => ?_)
            refine e_iload_n (pc := 11) (i := 3) dX5_bestPart_11 rfl rfl ?_
            refine e_iconst' (pc := 12) (nI 0) dX5_bestPart_12 (by decide) ?_
            refine e_sipush' (pc := 13) (nI 200) dX5_bestPart_13 (by decide) ?_
            refine e_callS3 (pc := 16) (M' := mX5_within) dX5_bestPart_16 jX5_within lkX5_70 (by decide) (Nat.le_of_ble_eq_true rfl) (Nat.le_of_ble_eq_true rfl) ?_
            refine sp_winY (by omega) (by omega) (by omega) ?_
            refine e_if_eq (pc := 19) (tgt := 32) dX5_bestPart_19 (by decide) (fun h19 => absurd h19 (by decide)) (fun h19 => ?_)
            refine e_iload (pc := 22) dX5_bestPart_22 rfl ?_
            refine e_iconst' (pc := 24) (nI 0) dX5_bestPart_24 (by decide) ?_
            refine e_iconst' (pc := 25) (nI 1) dX5_bestPart_25 (by decide) ?_
            refine e_callS3 (pc := 26) (M' := mX5_within) dX5_bestPart_26 jX5_within lkX5_70 (by decide) (Nat.le_of_ble_eq_true rfl) (Nat.le_of_ble_eq_true rfl) ?_
            refine sp_winY (by omega) (by omega) (by omega) ?_
            refine e_if_ne (pc := 29) (tgt := 34) dX5_bestPart_29 (by decide) (fun h29 => ?_) (fun h29 => absurd h29 (by decide))
            refine e_iload_n (pc := 34) (i := 2) dX5_bestPart_34 rfl rfl ?_
            refine e_if_ne (pc := 35) (tgt := 42) dX5_bestPart_35 (by decide) (fun h35 => ?_) (fun h35 => absurd h35 (by decide))
            refine e_aload_n (pc := 42) (i := 0) dX5_bestPart_42 rfl rfl ?_
            refine e_getR (pc := 43) dX5_bestPart_43 (fX5_10 rfl) sh_0 rfl ?_
            refine e_getR (pc := 46) dX5_bestPart_46 (fX5_204 rfl) sh_1 rfl ?_
            refine e_iload_n (pc := 49) (i := 1) dX5_bestPart_49 rfl rfl ?_
            refine e_iald (pc := 50) dX5_bestPart_50 sh_3 (rin hv hw) ?_
            refine E.it (nI (R (5 + w))) (rt hv hr hw) ?_
            refine e_istore (pc := 51) dX5_bestPart_51 (by decide) rfl ?_
            refine e_ldcw' (pc := 53) (nI 248832) dX5_bestPart_53 (kcX5_257 rfl) (by decide) ?_
            refine e_istore (pc := 56) dX5_bestPart_56 (by decide) rfl ?_
            refine e_iconst' (pc := 58) (nI 0) dX5_bestPart_58 (by decide) ?_
            refine e_istore (pc := 59) dX5_bestPart_59 (by decide) rfl ?_
            refine e_iconst' (pc := 61) (nI 0) dX5_bestPart_61 (by decide) ?_
            refine e_istore (pc := 62) dX5_bestPart_62 (by decide) rfl ?_
            refine lp_best20 (c := (R (5 + w))) hv hc hr hw hm rfl (by omega) (fun S2 h2 => ?_) ((R (5 + w)) + 1) 0 S _ (by omega) (by omega) Fr.rf
            refine e_iret (pc := 8) (st := []) (ty := .int) dX5_begin_8 rfl rfl ?_
            exact k S2 h2.same
          · show E sc mX6_begin 0 [.ref 54, .int (nI w), .int (nI m), .int (nI 0)] [] S1 Q
            have hp := h1.pg (by omega) hv hp
            refine e_aload_n (pc := 0) (i := 0) dX6_begin_0 rfl rfl ?_
            refine e_iload_n (pc := 1) (i := 1) dX6_begin_1 rfl rfl ?_
            refine e_callV1 (pc := 2) (M' := mX6_isWheel) dX6_begin_2 iX6_isWheel lkX6_144 (by decide) (rO_obj sh_54 rfl) (Nat.le_of_ble_eq_true rfl) (Nat.le_of_ble_eq_true rfl) ?_
            refine sp_isWheelY hv hp hw ?_
            refine e_if_eq (pc := 5) (tgt := 53) dX6_begin_5 (by decide) (fun h5 => absurd h5 (by decide)) (fun h5 => ?_)
            refine e_iload_n (pc := 8) (i := 2) dX6_begin_8 rfl rfl ?_
            refine e_i2l (pc := 9) dX6_begin_9 ?_
            refine e_lconst' (pc := 10) (lN 0) dX6_begin_10 (by decide) ?_
            refine e_ldc2 (pc := 11) dX6_begin_11 (klX6_185 rfl) ?_
            refine e_callS3 (pc := 14) (M' := mX6_in) dX6_begin_14 jX6_in lkX6_46 (by decide) (Nat.le_of_ble_eq_true rfl) (Nat.le_of_ble_eq_true rfl) ?_
            refine sp_inY (lo := 0) (hi := 200) (by decide) (by decide) (by omega) (by omega) (by omega) ?_
            refine e_if_eq (pc := 17) (tgt := 53) dX6_begin_17 (by decide) (fun h17 => absurd h17 (by decide)) (fun h17 => ?_)
            refine e_iload_n (pc := 20) (i := 3) dX6_begin_20 rfl rfl ?_
            refine e_i2l (pc := 21) dX6_begin_21 ?_
            refine e_lconst' (pc := 22) (lN 0) dX6_begin_22 (by decide) ?_
            refine e_lconst' (pc := 23) (lN 1) dX6_begin_23 (by decide) ?_
            refine e_callS3 (pc := 24) (M' := mX6_in) dX6_begin_24 jX6_in lkX6_46 (by decide) (Nat.le_of_ble_eq_true rfl) (Nat.le_of_ble_eq_true rfl) ?_
            refine sp_inY (lo := 0) (hi := 1) (by decide) (by decide) (by omega) (by omega) (by omega) ?_
            refine e_if_eq (pc := 27) (tgt := 53) dX6_begin_27 (by decide) (fun h27 => absurd h27 (by decide)) (fun h27 => ?_)
            refine e_aload_n (pc := 30) (i := 0) dX6_begin_30 rfl rfl ?_
            refine e_bipush' (pc := 31) (nI 10) dX6_begin_31 (by decide) ?_
            refine e_iload_n (pc := 33) (i := 1) dX6_begin_33 rfl rfl ?_
            refine e_iadd (pc := 34) dX6_begin_34 ?_
            refine E.it (nI (10 + w)) (nI_add _ _) ?_
            refine e_iconst' (pc := 35) (nI 0) dX6_begin_35 (by decide) ?_
            refine e_aload_n (pc := 36) (i := 0) dX6_begin_36 rfl rfl ?_
            refine e_getR (pc := 37) dX6_begin_37 (fX6_7 rfl) sh_54 rfl ?_
            refine e_iconst' (pc := 40) (nI 5) dX6_begin_40 (by decide) ?_
            refine e_iload_n (pc := 41) (i := 1) dX6_begin_41 rfl rfl ?_
            refine e_iadd (pc := 42) dX6_begin_42 ?_
            refine E.it (nI (5 + w)) (nI_add _ _) ?_
            refine e_iald (pc := 43) dX6_begin_43 sh_55 (vp_in_nI (by omega) (by omega)) ?_
            refine E.it (nI (R (5 + w))) (by rw [nI_clamp (by omega)]; have := (hp.2.2 w hw).2.1; simpa using this) ?_
            refine e_iload_n (pc := 44) (i := 2) dX6_begin_44 rfl rfl ?_
            refine e_iconst' (pc := 45) (nI 0) dX6_begin_45 (by decide) ?_
            refine e_iload_n (pc := 46) (i := 3) dX6_begin_46 rfl rfl ?_
            refine e_callV6 (pc := 47) (M' := mX6_leastAt) dX6_begin_47 iX6_leastAt lkX6_191 (by decide) (rO_obj sh_54 rfl) (Nat.le_of_ble_eq_true rfl) (Nat.le_of_ble_eq_true rfl) ?_
            show E sc mX6_leastAt 0 [.ref 54, .int (nI (10 + w)), .int (nI 0), .int (nI (R (5 + w))), .int (nI m), .int (nI 0), .int (nI 0), .null, .null, .null, .null] [] S1 _
            have hat : nI (10 + w) = nI (5 * 2 + w) := by first | rfl | (congr 1; omega)
            rw [hat]
            refine e_ldc' (pc := 0) (nI 1000000) dX6_leastAt_0 (kcX6_190 rfl) (by decide) ?_
            refine e_istore (pc := 2) dX6_leastAt_2 (by decide) rfl ?_
            refine e_iconst' (pc := 4) (nI 0) dX6_leastAt_4 (by decide) ?_
            refine e_istore (pc := 5) dX6_leastAt_5 (by decide) rfl ?_
            refine e_aload_n (pc := 7) (i := 0) dX6_leastAt_7 rfl rfl ?_
            refine e_iconst' (pc := 8) (nI 0) dX6_leastAt_8 (by decide) ?_
            refine e_bipush' (pc := 9) (nI 110) dX6_leastAt_9 (by decide) ?_
            refine e_callV2 (pc := 11) (M' := mX6_copies) dX6_leastAt_11 iX6_copies lkX6_167 (by decide) (rO_obj sh_54 rfl) (Nat.le_of_ble_eq_true rfl) (Nat.le_of_ble_eq_true rfl) ?_
            refine sp_copyPg (b := 110) (by omega) (by omega) (by omega) hv hp (fun S2 p1 f1 => ?_)
            refine e_iconst' (pc := 14) (nI 0) dX6_leastAt_14 (by decide) ?_
            refine e_istore (pc := 15) dX6_leastAt_15 (by decide) rfl ?_
            refine lm_best20 (c := (R (5 + w))) hv hc hw hm rfl (by omega) (fun S3 h3 => ?_) ((R (5 + w)) + 1) 0 S2 _ R (by omega) (by omega) (f1.same (by omega)) p1 rfl (fun _ => rfl)
            refine e_goto (pc := 50) (tgt := 54) dX6_begin_50 (by decide) ?_
            refine e_iret (pc := 54) (st := []) (ty := .int) dX6_begin_54 rfl rfl ?_
            refine qeq (k S3 h3) ?_
            obtain ⟨q, hq⟩ : ∃ q, (R (5 + w)) = q + 1 := ⟨(R (5 + w)) - 1, by omega⟩
            rw [hq, lbi_init (i0 := 1000000) (i1 := 248832) (by have := err_le (pn_vd (set_vd (a := 2) (v := 0) hv hw (Or.inr (Or.inl ⟨rfl, by omega⟩))) m); omega) (by have := err_le (pn_vd (set_vd (a := 2) (v := 0) hv hw (Or.inr (Or.inl ⟨rfl, by omega⟩))) m); omega)]
        · refine ask_both (nI (lbi (fun v => err (pn (rs R (5 * 2 + w) v) m)) 248832 (R (5 + w))).1) hI (fun Q k => ?_) (fun S1 h1 Q k => ?_)
          · show E sc mX5_begin 0 [.ref 0, .int (nI w), .int (nI m), .int (nI 1)] [] S Q
            refine e_aload_n (pc := 0) (i := 0) dX5_begin_0 rfl rfl ?_
            refine e_iload_n (pc := 1) (i := 1) dX5_begin_1 rfl rfl ?_
            refine e_iconst' (pc := 2) (nI 2) dX5_begin_2 (by decide) ?_
            refine e_iload_n (pc := 3) (i := 2) dX5_begin_3 rfl rfl ?_
            refine e_iload_n (pc := 4) (i := 3) dX5_begin_4 rfl rfl ?_
            refine e_callV4 (pc := 5) (M' := mX5_bestPart) dX5_begin_5 iX5_bestPart lkX5_181 (by decide) (rO_obj sh_0 rfl) (Nat.le_of_ble_eq_true rfl) (Nat.le_of_ble_eq_true rfl) ?_
            show E sc mX5_bestPart 0 [.ref 0, .int (nI w), .int (nI 2), .int (nI m), .int (nI 1), .null, .null, .null, .null, .null] [] S _
            refine e_aload_n (pc := 0) (i := 0) dX5_bestPart_0 rfl rfl ?_
            refine e_getR (pc := 1) dX5_bestPart_1 (fX5_10 rfl) sh_0 rfl ?_
            refine e_iload_n (pc := 4) (i := 1) dX5_bestPart_4 rfl rfl ?_
            refine e_callV1 (pc := 5) (M' := mX0_has) dX5_bestPart_5 iX0_has lkX5_120 (by decide) (rO_obj sh_1 rfl) (Nat.le_of_ble_eq_true rfl) (Nat.le_of_ble_eq_true rfl) ?_
            refine sp_hasY r1 hv hr hw ?_
            refine e_if_eq (pc := 8) (tgt := 32) dX5_bestPart_8 (by decide) (fun h8 => absurd h8 (by decide)) (fun h8 => ?_)
            refine e_iload_n (pc := 11) (i := 3) dX5_bestPart_11 rfl rfl ?_
            refine e_iconst' (pc := 12) (nI 0) dX5_bestPart_12 (by decide) ?_
            refine e_sipush' (pc := 13) (nI 200) dX5_bestPart_13 (by decide) ?_
            refine e_callS3 (pc := 16) (M' := mX5_within) dX5_bestPart_16 jX5_within lkX5_70 (by decide) (Nat.le_of_ble_eq_true rfl) (Nat.le_of_ble_eq_true rfl) ?_
            refine sp_winY (by omega) (by omega) (by omega) ?_
            refine e_if_eq (pc := 19) (tgt := 32) dX5_bestPart_19 (by decide) (fun h19 => absurd h19 (by decide)) (fun h19 => ?_)
            refine e_iload (pc := 22) dX5_bestPart_22 rfl ?_
            refine e_iconst' (pc := 24) (nI 0) dX5_bestPart_24 (by decide) ?_
            refine e_iconst' (pc := 25) (nI 1) dX5_bestPart_25 (by decide) ?_
            refine e_callS3 (pc := 26) (M' := mX5_within) dX5_bestPart_26 jX5_within lkX5_70 (by decide) (Nat.le_of_ble_eq_true rfl) (Nat.le_of_ble_eq_true rfl) ?_
            refine sp_winY (by omega) (by omega) (by omega) ?_
            refine e_if_ne (pc := 29) (tgt := 34) dX5_bestPart_29 (by decide) (fun h29 => ?_) (fun h29 => absurd h29 (by decide))
            refine e_iload_n (pc := 34) (i := 2) dX5_bestPart_34 rfl rfl ?_
            refine e_if_ne (pc := 35) (tgt := 42) dX5_bestPart_35 (by decide) (fun h35 => ?_) (fun h35 => absurd h35 (by decide))
            refine e_aload_n (pc := 42) (i := 0) dX5_bestPart_42 rfl rfl ?_
            refine e_getR (pc := 43) dX5_bestPart_43 (fX5_10 rfl) sh_0 rfl ?_
            refine e_getR (pc := 46) dX5_bestPart_46 (fX5_204 rfl) sh_1 rfl ?_
            refine e_iload_n (pc := 49) (i := 1) dX5_bestPart_49 rfl rfl ?_
            refine e_iald (pc := 50) dX5_bestPart_50 sh_3 (rin hv hw) ?_
            refine E.it (nI (R (5 + w))) (rt hv hr hw) ?_
            refine e_istore (pc := 51) dX5_bestPart_51 (by decide) rfl ?_
            refine e_ldcw' (pc := 53) (nI 248832) dX5_bestPart_53 (kcX5_257 rfl) (by decide) ?_
            refine e_istore (pc := 56) dX5_bestPart_56 (by decide) rfl ?_
            refine e_iconst' (pc := 58) (nI 0) dX5_bestPart_58 (by decide) ?_
            refine e_istore (pc := 59) dX5_bestPart_59 (by decide) rfl ?_
            refine e_iconst' (pc := 61) (nI 0) dX5_bestPart_61 (by decide) ?_
            refine e_istore (pc := 62) dX5_bestPart_62 (by decide) rfl ?_
            refine lp_best21 (c := (R (5 + w))) hv hc hr hw hm rfl (by omega) (fun S2 h2 => ?_) ((R (5 + w)) + 1) 0 S _ (by omega) (by omega) Fr.rf
            refine e_iret (pc := 8) (st := []) (ty := .int) dX5_begin_8 rfl rfl ?_
            exact k S2 h2.same
          · show E sc mX6_begin 0 [.ref 54, .int (nI w), .int (nI m), .int (nI 1)] [] S1 Q
            have hp := h1.pg (by omega) hv hp
            refine e_aload_n (pc := 0) (i := 0) dX6_begin_0 rfl rfl ?_
            refine e_iload_n (pc := 1) (i := 1) dX6_begin_1 rfl rfl ?_
            refine e_callV1 (pc := 2) (M' := mX6_isWheel) dX6_begin_2 iX6_isWheel lkX6_144 (by decide) (rO_obj sh_54 rfl) (Nat.le_of_ble_eq_true rfl) (Nat.le_of_ble_eq_true rfl) ?_
            refine sp_isWheelY hv hp hw ?_
            refine e_if_eq (pc := 5) (tgt := 53) dX6_begin_5 (by decide) (fun h5 => absurd h5 (by decide)) (fun h5 => ?_)
            refine e_iload_n (pc := 8) (i := 2) dX6_begin_8 rfl rfl ?_
            refine e_i2l (pc := 9) dX6_begin_9 ?_
            refine e_lconst' (pc := 10) (lN 0) dX6_begin_10 (by decide) ?_
            refine e_ldc2 (pc := 11) dX6_begin_11 (klX6_185 rfl) ?_
            refine e_callS3 (pc := 14) (M' := mX6_in) dX6_begin_14 jX6_in lkX6_46 (by decide) (Nat.le_of_ble_eq_true rfl) (Nat.le_of_ble_eq_true rfl) ?_
            refine sp_inY (lo := 0) (hi := 200) (by decide) (by decide) (by omega) (by omega) (by omega) ?_
            refine e_if_eq (pc := 17) (tgt := 53) dX6_begin_17 (by decide) (fun h17 => absurd h17 (by decide)) (fun h17 => ?_)
            refine e_iload_n (pc := 20) (i := 3) dX6_begin_20 rfl rfl ?_
            refine e_i2l (pc := 21) dX6_begin_21 ?_
            refine e_lconst' (pc := 22) (lN 0) dX6_begin_22 (by decide) ?_
            refine e_lconst' (pc := 23) (lN 1) dX6_begin_23 (by decide) ?_
            refine e_callS3 (pc := 24) (M' := mX6_in) dX6_begin_24 jX6_in lkX6_46 (by decide) (Nat.le_of_ble_eq_true rfl) (Nat.le_of_ble_eq_true rfl) ?_
            refine sp_inY (lo := 0) (hi := 1) (by decide) (by decide) (by omega) (by omega) (by omega) ?_
            refine e_if_eq (pc := 27) (tgt := 53) dX6_begin_27 (by decide) (fun h27 => absurd h27 (by decide)) (fun h27 => ?_)
            refine e_aload_n (pc := 30) (i := 0) dX6_begin_30 rfl rfl ?_
            refine e_bipush' (pc := 31) (nI 10) dX6_begin_31 (by decide) ?_
            refine e_iload_n (pc := 33) (i := 1) dX6_begin_33 rfl rfl ?_
            refine e_iadd (pc := 34) dX6_begin_34 ?_
            refine E.it (nI (10 + w)) (nI_add _ _) ?_
            refine e_iconst' (pc := 35) (nI 0) dX6_begin_35 (by decide) ?_
            refine e_aload_n (pc := 36) (i := 0) dX6_begin_36 rfl rfl ?_
            refine e_getR (pc := 37) dX6_begin_37 (fX6_7 rfl) sh_54 rfl ?_
            refine e_iconst' (pc := 40) (nI 5) dX6_begin_40 (by decide) ?_
            refine e_iload_n (pc := 41) (i := 1) dX6_begin_41 rfl rfl ?_
            refine e_iadd (pc := 42) dX6_begin_42 ?_
            refine E.it (nI (5 + w)) (nI_add _ _) ?_
            refine e_iald (pc := 43) dX6_begin_43 sh_55 (vp_in_nI (by omega) (by omega)) ?_
            refine E.it (nI (R (5 + w))) (by rw [nI_clamp (by omega)]; have := (hp.2.2 w hw).2.1; simpa using this) ?_
            refine e_iload_n (pc := 44) (i := 2) dX6_begin_44 rfl rfl ?_
            refine e_iconst' (pc := 45) (nI 0) dX6_begin_45 (by decide) ?_
            refine e_iload_n (pc := 46) (i := 3) dX6_begin_46 rfl rfl ?_
            refine e_callV6 (pc := 47) (M' := mX6_leastAt) dX6_begin_47 iX6_leastAt lkX6_191 (by decide) (rO_obj sh_54 rfl) (Nat.le_of_ble_eq_true rfl) (Nat.le_of_ble_eq_true rfl) ?_
            show E sc mX6_leastAt 0 [.ref 54, .int (nI (10 + w)), .int (nI 0), .int (nI (R (5 + w))), .int (nI m), .int (nI 0), .int (nI 1), .null, .null, .null, .null] [] S1 _
            have hat : nI (10 + w) = nI (5 * 2 + w) := by first | rfl | (congr 1; omega)
            rw [hat]
            refine e_ldc' (pc := 0) (nI 1000000) dX6_leastAt_0 (kcX6_190 rfl) (by decide) ?_
            refine e_istore (pc := 2) dX6_leastAt_2 (by decide) rfl ?_
            refine e_iconst' (pc := 4) (nI 0) dX6_leastAt_4 (by decide) ?_
            refine e_istore (pc := 5) dX6_leastAt_5 (by decide) rfl ?_
            refine e_aload_n (pc := 7) (i := 0) dX6_leastAt_7 rfl rfl ?_
            refine e_iconst' (pc := 8) (nI 0) dX6_leastAt_8 (by decide) ?_
            refine e_bipush' (pc := 9) (nI 110) dX6_leastAt_9 (by decide) ?_
            refine e_callV2 (pc := 11) (M' := mX6_copies) dX6_leastAt_11 iX6_copies lkX6_167 (by decide) (rO_obj sh_54 rfl) (Nat.le_of_ble_eq_true rfl) (Nat.le_of_ble_eq_true rfl) ?_
            refine sp_copyPg (b := 110) (by omega) (by omega) (by omega) hv hp (fun S2 p1 f1 => ?_)
            refine e_iconst' (pc := 14) (nI 0) dX6_leastAt_14 (by decide) ?_
            refine e_istore (pc := 15) dX6_leastAt_15 (by decide) rfl ?_
            refine lm_best21 (c := (R (5 + w))) hv hc hw hm rfl (by omega) (fun S3 h3 => ?_) ((R (5 + w)) + 1) 0 S2 _ R (by omega) (by omega) (f1.same (by omega)) p1 rfl (fun _ => rfl)
            refine e_goto (pc := 50) (tgt := 54) dX6_begin_50 (by decide) ?_
            refine e_iret (pc := 54) (st := []) (ty := .int) dX6_begin_54 rfl rfl ?_
            refine qeq (k S3 h3) ?_
            obtain ⟨q, hq⟩ : ∃ q, (R (5 + w)) = q + 1 := ⟨(R (5 + w)) - 1, by omega⟩
            rw [hq, lbi_init (i0 := 1000000) (i1 := 248832) (by have := err_le (pn_vd (set_vd (a := 2) (v := 0) hv hw (Or.inr (Or.inl ⟨rfl, by omega⟩))) m); omega) (by have := err_le (pn_vd (set_vd (a := 2) (v := 0) hv hw (Or.inr (Or.inl ⟨rfl, by omega⟩))) m); omega)]
      · refine ask_both (-1) hI (fun Q k => ?_) (fun S1 h1 Q k => ?_)
        · show E sc mX5_begin 0 [.ref 0, .int (nI w), .int (nI m), .int y] [] S Q
          refine e_aload_n (pc := 0) (i := 0) dX5_begin_0 rfl rfl ?_
          refine e_iload_n (pc := 1) (i := 1) dX5_begin_1 rfl rfl ?_
          refine e_iconst' (pc := 2) (nI 2) dX5_begin_2 (by decide) ?_
          refine e_iload_n (pc := 3) (i := 2) dX5_begin_3 rfl rfl ?_
          refine e_iload_n (pc := 4) (i := 3) dX5_begin_4 rfl rfl ?_
          refine e_callV4 (pc := 5) (M' := mX5_bestPart) dX5_begin_5 iX5_bestPart lkX5_181 (by decide) (rO_obj sh_0 rfl) (Nat.le_of_ble_eq_true rfl) (Nat.le_of_ble_eq_true rfl) ?_
          show E sc mX5_bestPart 0 [.ref 0, .int (nI w), .int (nI 2), .int (nI m), .int y, .null, .null, .null, .null, .null] [] S _
          refine e_aload_n (pc := 0) (i := 0) dX5_bestPart_0 rfl rfl ?_
          refine e_getR (pc := 1) dX5_bestPart_1 (fX5_10 rfl) sh_0 rfl ?_
          refine e_iload_n (pc := 4) (i := 1) dX5_bestPart_4 rfl rfl ?_
          refine e_callV1 (pc := 5) (M' := mX0_has) dX5_bestPart_5 iX0_has lkX5_120 (by decide) (rO_obj sh_1 rfl) (Nat.le_of_ble_eq_true rfl) (Nat.le_of_ble_eq_true rfl) ?_
          refine sp_hasY r1 hv hr hw ?_
          refine e_if_eq (pc := 8) (tgt := 32) dX5_bestPart_8 (by decide) (fun h8 => absurd h8 (by decide)) (fun h8 => ?_)
          refine e_iload_n (pc := 11) (i := 3) dX5_bestPart_11 rfl rfl ?_
          refine e_iconst' (pc := 12) (nI 0) dX5_bestPart_12 (by decide) ?_
          refine e_sipush' (pc := 13) (nI 200) dX5_bestPart_13 (by decide) ?_
          refine e_callS3 (pc := 16) (M' := mX5_within) dX5_bestPart_16 jX5_within lkX5_70 (by decide) (Nat.le_of_ble_eq_true rfl) (Nat.le_of_ble_eq_true rfl) ?_
          refine sp_winY (by omega) (by omega) (by omega) ?_
          refine e_if_eq (pc := 19) (tgt := 32) dX5_bestPart_19 (by decide) (fun h19 => absurd h19 (by decide)) (fun h19 => ?_)
          refine e_iload (pc := 22) dX5_bestPart_22 rfl ?_
          refine e_iconst' (pc := 24) (nI 0) dX5_bestPart_24 (by decide) ?_
          refine e_iconst' (pc := 25) (nI 1) dX5_bestPart_25 (by decide) ?_
          refine e_callS3 (pc := 26) (M' := mX5_within) dX5_bestPart_26 jX5_within lkX5_70 (by decide) (Nat.le_of_ble_eq_true rfl) (Nat.le_of_ble_eq_true rfl) ?_
          refine sp_winX hn (by omega) (by omega) ?_
          refine e_if_ne (pc := 29) (tgt := 34) dX5_bestPart_29 (by decide) (fun h29 => absurd (by decide) h29) (fun h29 => ?_)
          refine e_iconst' (pc := 32) (-1) dX5_bestPart_32 (by decide) ?_
          refine e_iret (pc := 33) (st := []) (ty := .int) dX5_bestPart_33 rfl rfl ?_
          refine e_iret (pc := 8) (st := []) (ty := .int) dX5_begin_8 rfl rfl ?_
          exact k _ Same.rf
        · show E sc mX6_begin 0 [.ref 54, .int (nI w), .int (nI m), .int y] [] S1 Q
          have hp := h1.pg (by omega) hv hp
          refine e_aload_n (pc := 0) (i := 0) dX6_begin_0 rfl rfl ?_
          refine e_iload_n (pc := 1) (i := 1) dX6_begin_1 rfl rfl ?_
          refine e_callV1 (pc := 2) (M' := mX6_isWheel) dX6_begin_2 iX6_isWheel lkX6_144 (by decide) (rO_obj sh_54 rfl) (Nat.le_of_ble_eq_true rfl) (Nat.le_of_ble_eq_true rfl) ?_
          refine sp_isWheelY hv hp hw ?_
          refine e_if_eq (pc := 5) (tgt := 53) dX6_begin_5 (by decide) (fun h5 => absurd h5 (by decide)) (fun h5 => ?_)
          refine e_iload_n (pc := 8) (i := 2) dX6_begin_8 rfl rfl ?_
          refine e_i2l (pc := 9) dX6_begin_9 ?_
          refine e_lconst' (pc := 10) (lN 0) dX6_begin_10 (by decide) ?_
          refine e_ldc2 (pc := 11) dX6_begin_11 (klX6_185 rfl) ?_
          refine e_callS3 (pc := 14) (M' := mX6_in) dX6_begin_14 jX6_in lkX6_46 (by decide) (Nat.le_of_ble_eq_true rfl) (Nat.le_of_ble_eq_true rfl) ?_
          refine sp_inY (lo := 0) (hi := 200) (by decide) (by decide) (by omega) (by omega) (by omega) ?_
          refine e_if_eq (pc := 17) (tgt := 53) dX6_begin_17 (by decide) (fun h17 => absurd h17 (by decide)) (fun h17 => ?_)
          refine e_iload_n (pc := 20) (i := 3) dX6_begin_20 rfl rfl ?_
          refine e_i2l (pc := 21) dX6_begin_21 ?_
          refine e_lconst' (pc := 22) (lN 0) dX6_begin_22 (by decide) ?_
          refine e_lconst' (pc := 23) (lN 1) dX6_begin_23 (by decide) ?_
          refine e_callS3 (pc := 24) (M' := mX6_in) dX6_begin_24 jX6_in lkX6_46 (by decide) (Nat.le_of_ble_eq_true rfl) (Nat.le_of_ble_eq_true rfl) ?_
          refine sp_inX (lo := 0) (hi := 1) (by decide) (by decide) hn ?_
          refine e_if_eq (pc := 27) (tgt := 53) dX6_begin_27 (by decide) (fun h27 => ?_) (fun h27 => absurd (by decide) h27)
          refine e_iconst' (pc := 53) (-1) dX6_begin_53 (by decide) ?_
          refine e_iret (pc := 54) (st := []) (ty := .int) dX6_begin_54 rfl rfl ?_
          exact k _ Same.rf
    · refine ask_both (-1) hI (fun Q k => ?_) (fun S1 h1 Q k => ?_)
      · show E sc mX5_begin 0 [.ref 0, .int (nI w), .int x, .int y] [] S Q
        refine e_aload_n (pc := 0) (i := 0) dX5_begin_0 rfl rfl ?_
        refine e_iload_n (pc := 1) (i := 1) dX5_begin_1 rfl rfl ?_
        refine e_iconst' (pc := 2) (nI 2) dX5_begin_2 (by decide) ?_
        refine e_iload_n (pc := 3) (i := 2) dX5_begin_3 rfl rfl ?_
        refine e_iload_n (pc := 4) (i := 3) dX5_begin_4 rfl rfl ?_
        refine e_callV4 (pc := 5) (M' := mX5_bestPart) dX5_begin_5 iX5_bestPart lkX5_181 (by decide) (rO_obj sh_0 rfl) (Nat.le_of_ble_eq_true rfl) (Nat.le_of_ble_eq_true rfl) ?_
        show E sc mX5_bestPart 0 [.ref 0, .int (nI w), .int (nI 2), .int x, .int y, .null, .null, .null, .null, .null] [] S _
        refine e_aload_n (pc := 0) (i := 0) dX5_bestPart_0 rfl rfl ?_
        refine e_getR (pc := 1) dX5_bestPart_1 (fX5_10 rfl) sh_0 rfl ?_
        refine e_iload_n (pc := 4) (i := 1) dX5_bestPart_4 rfl rfl ?_
        refine e_callV1 (pc := 5) (M' := mX0_has) dX5_bestPart_5 iX0_has lkX5_120 (by decide) (rO_obj sh_1 rfl) (Nat.le_of_ble_eq_true rfl) (Nat.le_of_ble_eq_true rfl) ?_
        refine sp_hasY r1 hv hr hw ?_
        refine e_if_eq (pc := 8) (tgt := 32) dX5_bestPart_8 (by decide) (fun h8 => absurd h8 (by decide)) (fun h8 => ?_)
        refine e_iload_n (pc := 11) (i := 3) dX5_bestPart_11 rfl rfl ?_
        refine e_iconst' (pc := 12) (nI 0) dX5_bestPart_12 (by decide) ?_
        refine e_sipush' (pc := 13) (nI 200) dX5_bestPart_13 (by decide) ?_
        refine e_callS3 (pc := 16) (M' := mX5_within) dX5_bestPart_16 jX5_within lkX5_70 (by decide) (Nat.le_of_ble_eq_true rfl) (Nat.le_of_ble_eq_true rfl) ?_
        refine sp_winX hn (by omega) (by omega) ?_
        refine e_if_eq (pc := 19) (tgt := 32) dX5_bestPart_19 (by decide) (fun h19 => ?_) (fun h19 => absurd (by decide) h19)
        refine e_iconst' (pc := 32) (-1) dX5_bestPart_32 (by decide) ?_
        refine e_iret (pc := 33) (st := []) (ty := .int) dX5_bestPart_33 rfl rfl ?_
        refine e_iret (pc := 8) (st := []) (ty := .int) dX5_begin_8 rfl rfl ?_
        exact k _ Same.rf
      · show E sc mX6_begin 0 [.ref 54, .int (nI w), .int x, .int y] [] S1 Q
        have hp := h1.pg (by omega) hv hp
        refine e_aload_n (pc := 0) (i := 0) dX6_begin_0 rfl rfl ?_
        refine e_iload_n (pc := 1) (i := 1) dX6_begin_1 rfl rfl ?_
        refine e_callV1 (pc := 2) (M' := mX6_isWheel) dX6_begin_2 iX6_isWheel lkX6_144 (by decide) (rO_obj sh_54 rfl) (Nat.le_of_ble_eq_true rfl) (Nat.le_of_ble_eq_true rfl) ?_
        refine sp_isWheelY hv hp hw ?_
        refine e_if_eq (pc := 5) (tgt := 53) dX6_begin_5 (by decide) (fun h5 => absurd h5 (by decide)) (fun h5 => ?_)
        refine e_iload_n (pc := 8) (i := 2) dX6_begin_8 rfl rfl ?_
        refine e_i2l (pc := 9) dX6_begin_9 ?_
        refine e_lconst' (pc := 10) (lN 0) dX6_begin_10 (by decide) ?_
        refine e_ldc2 (pc := 11) dX6_begin_11 (klX6_185 rfl) ?_
        refine e_callS3 (pc := 14) (M' := mX6_in) dX6_begin_14 jX6_in lkX6_46 (by decide) (Nat.le_of_ble_eq_true rfl) (Nat.le_of_ble_eq_true rfl) ?_
        refine sp_inX (lo := 0) (hi := 200) (by decide) (by decide) hn ?_
        refine e_if_eq (pc := 17) (tgt := 53) dX6_begin_17 (by decide) (fun h17 => ?_) (fun h17 => absurd (by decide) h17)
        refine e_iconst' (pc := 53) (-1) dX6_begin_53 (by decide) ?_
        refine e_iret (pc := 54) (st := []) (ty := .int) dX6_begin_54 rfl rfl ?_
        exact k _ Same.rf
  · refine ask_both (-1) hI (fun Q k => ?_) (fun S1 h1 Q k => ?_)
    · show E sc mX5_begin 0 [.ref 0, .int w, .int x, .int y] [] S Q
      refine e_aload_n (pc := 0) (i := 0) dX5_begin_0 rfl rfl ?_
      refine e_iload_n (pc := 1) (i := 1) dX5_begin_1 rfl rfl ?_
      refine e_iconst' (pc := 2) (nI 2) dX5_begin_2 (by decide) ?_
      refine e_iload_n (pc := 3) (i := 2) dX5_begin_3 rfl rfl ?_
      refine e_iload_n (pc := 4) (i := 3) dX5_begin_4 rfl rfl ?_
      refine e_callV4 (pc := 5) (M' := mX5_bestPart) dX5_begin_5 iX5_bestPart lkX5_181 (by decide) (rO_obj sh_0 rfl) (Nat.le_of_ble_eq_true rfl) (Nat.le_of_ble_eq_true rfl) ?_
      show E sc mX5_bestPart 0 [.ref 0, .int w, .int (nI 2), .int x, .int y, .null, .null, .null, .null, .null] [] S _
      refine e_aload_n (pc := 0) (i := 0) dX5_bestPart_0 rfl rfl ?_
      refine e_getR (pc := 1) dX5_bestPart_1 (fX5_10 rfl) sh_0 rfl ?_
      refine e_iload_n (pc := 4) (i := 1) dX5_bestPart_4 rfl rfl ?_
      refine e_callV1 (pc := 5) (M' := mX0_has) dX5_bestPart_5 iX0_has lkX5_120 (by decide) (rO_obj sh_1 rfl) (Nat.le_of_ble_eq_true rfl) (Nat.le_of_ble_eq_true rfl) ?_
      refine sp_hasX r1 hv hr hn ?_
      refine e_if_eq (pc := 8) (tgt := 32) dX5_bestPart_8 (by decide) (fun h8 => ?_) (fun h8 => absurd (by decide) h8)
      refine e_iconst' (pc := 32) (-1) dX5_bestPart_32 (by decide) ?_
      refine e_iret (pc := 33) (st := []) (ty := .int) dX5_bestPart_33 rfl rfl ?_
      refine e_iret (pc := 8) (st := []) (ty := .int) dX5_begin_8 rfl rfl ?_
      exact k _ Same.rf
    · show E sc mX6_begin 0 [.ref 54, .int w, .int x, .int y] [] S1 Q
      have hp := h1.pg (by omega) hv hp
      refine e_aload_n (pc := 0) (i := 0) dX6_begin_0 rfl rfl ?_
      refine e_iload_n (pc := 1) (i := 1) dX6_begin_1 rfl rfl ?_
      refine e_callV1 (pc := 2) (M' := mX6_isWheel) dX6_begin_2 iX6_isWheel lkX6_144 (by decide) (rO_obj sh_54 rfl) (Nat.le_of_ble_eq_true rfl) (Nat.le_of_ble_eq_true rfl) ?_
      refine sp_isWheelX hv hp hn ?_
      refine e_if_eq (pc := 5) (tgt := 53) dX6_begin_5 (by decide) (fun h5 => ?_) (fun h5 => absurd (by decide) h5)
      refine e_iconst' (pc := 53) (-1) dX6_begin_53 (by decide) ?_
      refine e_iret (pc := 54) (st := []) (ty := .int) dX6_begin_54 rfl rfl ?_
      exact k _ Same.rf
theorem lp_best30 {sc : PSc} {w m c : Nat} {R : Rw} {S0 : PS} {Q : PQ} (hv : Vd R) (hc : R 21 ≤ 999999) (hr0 : RowAt S0 1 R) (hw : w < R 20) (hm : m ≤ 200) (hcv : c = R (5 + w)) (hc12 : c ≤ 12) (k : ∀ S', Fr 6 5 S0 S' → Q (some (.int (nI (lbi (fun v => reads (pn (rs R (5 * 3 + w) v) m)) 248832 c).2))) S') : ∀ (n : Nat) (j : Nat) (S : PS) (z : Value), j ≤ c → c - j < n → Fr 6 5 S0 S → E sc mX5_bestPart 64 [.ref 0, .int (nI w), .int (nI 3), .int (nI m), .int (nI 0), .int (nI c), .int (nI (lbi (fun v => reads (pn (rs R (5 * 3 + w) v) m)) 248832 j).1), .int (nI (lbi (fun v => reads (pn (rs R (5 * 3 + w) v) m)) 248832 j).2), .int (nI j), z] [] S Q := by
  intro n
  induction n with
  | zero => intro j S z hj hn hf; exact absurd hn (by omega)
  | succ n ih =>
    intro j S z hj hn hf
    have h5 := hv.1
    have htw := hv.2 w hw
    have hr := hr0.frI hf r6 r1 (by omega)
    have hq : ∀ v, v < c → Vd (rs R (5 * 3 + w) v) := fun v hv2 => set_vd (a := 3) hv hw (Or.inr (Or.inr ⟨rfl, Or.inl (by omega)⟩))
    have hb1 := lbi_le (f := fun v => reads (pn (rs R (5 * 3 + w) v) m)) (i0 := 248832) (n := c) (fun v hv2 => reads_le (pn_vd (hq v hv2) m)) (by omega) j hj
    refine e_iload (pc := 64) dX5_bestPart_64 rfl ?_
    refine e_iload (pc := 66) dX5_bestPart_66 rfl ?_
    refine e_icmp_ge (pc := 68) (tgt := 132) dX5_bestPart_68 (by decide) (fun h68 => ?_) (fun h68 => ?_)
    · replace h68 := (nI_leI (by omega) (by omega)).mp h68
      obtain rfl : j = c := by omega
      refine e_iload (pc := 132) dX5_bestPart_132 rfl ?_
      refine e_if_ne (pc := 134) (tgt := 142) dX5_bestPart_134 (by decide) (fun h134 => absurd (by decide) h134) (fun h134 => ?_)
      refine e_iload (pc := 137) dX5_bestPart_137 rfl ?_
      refine e_goto (pc := 139) (tgt := 144) dX5_bestPart_139 (by decide) ?_
      refine e_iret (pc := 144) (st := []) (ty := .int) dX5_bestPart_144 rfl rfl ?_
      exact k S hf
    · replace h68 := mt (nI_leI (by omega) (by omega)).mpr h68
      have hvd := hq j (by omega)
      have hb2 := reads_le (pn_vd hvd m)
      have hih := fun S2 z2 => ih (j + 1) S2 z2 (by omega) (by omega)
      rw [lbi] at hih
      refine e_aload_n (pc := 71) (i := 0) dX5_bestPart_71 rfl rfl ?_
      refine e_iload_n (pc := 72) (i := 1) dX5_bestPart_72 rfl rfl ?_
      refine e_iload_n (pc := 73) (i := 2) dX5_bestPart_73 rfl rfl ?_
      refine e_iload (pc := 74) dX5_bestPart_74 rfl ?_
      refine e_callV3 (pc := 76) (M' := mX5_tryPart) dX5_bestPart_76 iX5_tryPart lkX5_173 (by decide) (rO_obj sh_0 rfl) (Nat.le_of_ble_eq_true rfl) (Nat.le_of_ble_eq_true rfl) ?_
      refine sp_tryPart (a := 3) (v := j) hv hr hw (by omega) (fun S2 q1 q2 q3 => ?_)
      refine e_aload_n (pc := 79) (i := 0) dX5_bestPart_79 rfl rfl ?_
      refine e_getR (pc := 80) dX5_bestPart_80 (fX5_16 rfl) sh_0 rfl ?_
      refine e_iload_n (pc := 83) (i := 3) dX5_bestPart_83 rfl rfl ?_
      refine e_callV1 (pc := 84) (M' := mX0_push) dX5_bestPart_84 iX0_push lkX5_148 (by decide) (rO_obj sh_6 rfl) (Nat.le_of_ble_eq_true rfl) (Nat.le_of_ble_eq_true rfl) ?_
      refine sp_push r6 hvd q1 (by omega) (fun S3 q4 q5 q6 => ?_)
      refine e_iload_n (pc := 87) (i := 2) dX5_bestPart_87 rfl rfl ?_
      refine e_iconst' (pc := 88) (nI 3) dX5_bestPart_88 (by decide) ?_
      refine e_icmp_ne (pc := 89) (tgt := 102) dX5_bestPart_89 (by decide) (fun h89 => absurd (by decide) h89) (fun h89 => ?_)
      refine e_aload_n (pc := 92) (i := 0) dX5_bestPart_92 rfl rfl ?_
      refine e_getR (pc := 93) dX5_bestPart_93 (fX5_16 rfl) sh_0 rfl ?_
      refine e_callV0 (pc := 96) (M' := mX0_reading) dX5_bestPart_96 iX0_reading lkX5_107 (by decide) (rO_obj sh_6 rfl) (Nat.le_of_ble_eq_true rfl) (Nat.le_of_ble_eq_true rfl) ?_
      refine sp_reading r6 (pn_vd hvd m) q4 ?_
      refine e_goto (pc := 99) (tgt := 109) dX5_bestPart_99 (by decide) ?_
      refine e_istore (pc := 109) dX5_bestPart_109 (by decide) rfl ?_
      refine e_iload (pc := 111) dX5_bestPart_111 rfl ?_
      refine e_iload (pc := 113) dX5_bestPart_113 rfl ?_
      refine e_icmp_ge (pc := 115) (tgt := 126) dX5_bestPart_115 (by decide) (fun h115 => ?_) (fun h115 => ?_)
      · replace h115 := (nI_leI (by omega) (by omega)).mp h115
        rw [if_neg (by omega)] at hih
        refine e_iinc' (pc := 126) (nI (j + 1)) dX5_bestPart_126 rfl (by decide) rfl (nI_1 _) ?_
        refine e_goto (pc := 129) (tgt := 64) dX5_bestPart_129 (by decide) ?_
        exact hih S3 _ ((hf.tr q3).tr q6)
      · replace h115 := mt (nI_leI (by omega) (by omega)).mpr h115
        rw [if_pos (by omega)] at hih
        refine e_iload (pc := 118) dX5_bestPart_118 rfl ?_
        refine e_istore (pc := 120) dX5_bestPart_120 (by decide) rfl ?_
        refine e_iload (pc := 122) dX5_bestPart_122 rfl ?_
        refine e_istore (pc := 124) dX5_bestPart_124 (by decide) rfl ?_
        refine e_iinc' (pc := 126) (nI (j + 1)) dX5_bestPart_126 rfl (by decide) rfl (nI_1 _) ?_
        refine e_goto (pc := 129) (tgt := 64) dX5_bestPart_129 (by decide) ?_
        exact hih S3 _ ((hf.tr q3).tr q6)
theorem lm_best30 {sc : PSc} {w m c : Nat} {R : Rw} {S0 : PS} {Q : PQ} (hv : Vd R) (hc : R 21 ≤ 999999) (hw : w < R 20) (hm : m ≤ 200) (hcv : c = R (5 + w)) (hc12 : c ≤ 12) (k : ∀ S', Same S0 S' → Q (some (.int (nI (lbi (fun v => reads (pn (rs R (5 * 3 + w) v) m)) 1000000 c).2))) S') : ∀ (n : Nat) (j : Nat) (S : PS) (z : Value) (R2 : Rw), j ≤ c → c - j < n → Same S0 S → PgAt S 110 R2 → R2 20 = R 20 → (∀ v, rs R2 (5 * 3 + w) v = rs R (5 * 3 + w) v) → E sc mX6_leastAt 17 [.ref 54, .int (nI (5 * 3 + w)), .int (-12), .int (nI c), .int (nI m), .int (nI 1), .int (nI 0), .int (nI (lbi (fun v => reads (pn (rs R (5 * 3 + w) v) m)) 1000000 j).1), .int (nI (lbi (fun v => reads (pn (rs R (5 * 3 + w) v) m)) 1000000 j).2), .int (nI j), z] [] S Q := by
  intro n
  induction n with
  | zero => intro j S z R2 hj hn hf p1 h20 hrs; exact absurd hn (by omega)
  | succ n ih =>
    intro j S z R2 hj hn hf p1 h20 hrs
    have h5 := hv.1
    have htw := hv.2 w hw
    have hq : ∀ v, v < c → Vd (rs R (5 * 3 + w) v) := fun v hv2 => set_vd (a := 3) hv hw (Or.inr (Or.inr ⟨rfl, Or.inl (by omega)⟩))
    have hb1 := lbi_le (f := fun v => reads (pn (rs R (5 * 3 + w) v) m)) (i0 := 1000000) (n := c) (fun v hv2 => reads_le (pn_vd (hq v hv2) m)) (by omega) j hj
    refine e_iload (pc := 17) dX6_leastAt_17 rfl ?_
    refine e_iload_n (pc := 19) (i := 3) dX6_leastAt_19 rfl rfl ?_
    refine e_icmp_ge (pc := 20) (tgt := 100) dX6_leastAt_20 (by decide) (fun h20 => ?_) (fun h20 => ?_)
    · replace h20 := (nI_leI (by omega) (by omega)).mp h20
      obtain rfl : j = c := by omega
      refine e_iload (pc := 100) dX6_leastAt_100 rfl ?_
      refine e_if_ne (pc := 102) (tgt := 110) dX6_leastAt_102 (by decide) (fun h102 => absurd (by decide) h102) (fun h102 => ?_)
      refine e_iload (pc := 105) dX6_leastAt_105 rfl ?_
      refine e_goto (pc := 107) (tgt := 112) dX6_leastAt_107 (by decide) ?_
      refine e_iret (pc := 112) (st := []) (ty := .int) dX6_leastAt_112 rfl rfl ?_
      exact k S hf
    · replace h20 := mt (nI_leI (by omega) (by omega)).mpr h20
      have hvd := hq j (by omega)
      have hb2 := reads_le (pn_vd hvd m)
      have hih := fun S2 z2 => ih (j + 1) S2 z2
      rw [lbi] at hih
      refine e_aload_n (pc := 23) (i := 0) dX6_leastAt_23 rfl rfl ?_
      refine e_getR (pc := 24) dX6_leastAt_24 (fX6_7 rfl) sh_54 rfl ?_
      refine e_bipush' (pc := 27) (nI 110) dX6_leastAt_27 (by decide) ?_
      refine e_iload_n (pc := 29) (i := 1) dX6_leastAt_29 rfl rfl ?_
      refine e_iadd (pc := 30) dX6_leastAt_30 ?_
      refine E.it (nI (110 + (5 * 3 + w))) (nI_add _ _) ?_
      refine e_iload_n (pc := 31) (i := 2) dX6_leastAt_31 rfl rfl ?_
      refine e_iload (pc := 32) dX6_leastAt_32 rfl ?_
      refine e_iadd (pc := 34) dX6_leastAt_34 ?_
      refine E.it (pv 3 j) (by show -12 + nI j = nI j - nI 12; rw [Int32.sub_eq_add_neg, Int32.add_comm]; rfl) ?_
      refine e_iast (pc := 35) dX6_leastAt_35 sh_55 (vp_in_nI (by omega) (by omega)) ?_
      rw [nI_clamp (show 110 + (5 * 3 + w) < 2 ^ 31 by omega), ← Nat.add_assoc]
      have p2 := p1.set (a := 3) (v := j) (by omega) (show w < 5 by omega) (by omega)
      rw [hrs] at p2
      have f2 : FrQ 110 S (up2 S.1 55 (110 + 5 * 3 + w) (pv 3 j), S.2) := FrQ.up ⟨rfl, fun _ _ => rfl, fun _ _ => rfl⟩ (by omega) (by omega)
      refine e_iload (pc := 36) dX6_leastAt_36 rfl ?_
      refine e_if_eq (pc := 38) (tgt := 52) dX6_leastAt_38 (by decide) (fun h38 => absurd h38 (by decide)) (fun h38 => ?_)
      refine e_aload_n (pc := 41) (i := 0) dX6_leastAt_41 rfl rfl ?_
      refine e_bipush' (pc := 42) (nI 110) dX6_leastAt_42 (by decide) ?_
      refine e_iload (pc := 44) dX6_leastAt_44 rfl ?_
      refine e_callV2 (pc := 46) (M' := mX6_pushesGo) dX6_leastAt_46 iX6_pushesGo lkX6_176 (by decide) (rO_obj sh_54 rfl) (Nat.le_of_ble_eq_true rfl) (Nat.le_of_ble_eq_true rfl) ?_
      refine sp_pushesGo (p := 110) (by omega) (by omega) hvd p2 (by omega) (fun S3 g1 g2 g3 g4 q4 => ?_)
      refine e_goto (pc := 49) (tgt := 60) dX6_leastAt_49 (by decide) ?_
      refine e_istore (pc := 60) dX6_leastAt_60 (by decide) rfl ?_
      refine e_iload (pc := 62) dX6_leastAt_62 rfl ?_
      refine e_iload (pc := 64) dX6_leastAt_64 rfl ?_
      refine e_icmp_ge (pc := 66) (tgt := 74) dX6_leastAt_66 (by decide) (fun h66 => ?_) (fun h66 => ?_)
      · replace h66 := (nI_leI (by omega) (by omega)).mp h66
        rw [if_neg (by omega)] at hih
        refine e_iload (pc := 74) dX6_leastAt_74 rfl ?_
        refine e_istore (pc := 76) dX6_leastAt_76 (by decide) rfl ?_
        refine e_iload (pc := 78) dX6_leastAt_78 rfl ?_
        refine e_iload (pc := 80) dX6_leastAt_80 rfl ?_
        refine e_icmp_ge (pc := 82) (tgt := 90) dX6_leastAt_82 (by decide) (fun h82 => ?_) (fun h82 => absurd (nI_le h66 (by omega)) h82)
        refine e_iload (pc := 90) dX6_leastAt_90 rfl ?_
        refine e_istore (pc := 92) dX6_leastAt_92 (by decide) rfl ?_
        refine e_iinc' (pc := 94) (nI (j + 1)) dX6_leastAt_94 rfl (by decide) rfl (nI_1 _) ?_
        refine e_goto (pc := 97) (tgt := 17) dX6_leastAt_97 (by decide) ?_
        refine hih S3 _ (rs R (5 * 3 + w) j) (by omega) (by omega) ((hf.tr (f2.same (by omega))).tr q4.same) ?_ (rs_ne _ _ (by omega)) (fun v => rs_rs _ _ _ _)
        refine p2.of (fun x h1 h2 => q4.2.2.1 x (by omega)) ?_
        rw [rs_ne _ _ (by omega)]; exact h5
      · replace h66 := mt (nI_leI (by omega) (by omega)).mpr h66
        rw [if_pos (by omega)] at hih
        refine e_iload (pc := 69) dX6_leastAt_69 rfl ?_
        refine e_goto (pc := 71) (tgt := 76) dX6_leastAt_71 (by decide) ?_
        refine e_istore (pc := 76) dX6_leastAt_76 (by decide) rfl ?_
        refine e_iload (pc := 78) dX6_leastAt_78 rfl ?_
        refine e_iload (pc := 80) dX6_leastAt_80 rfl ?_
        refine e_icmp_ge (pc := 82) (tgt := 90) dX6_leastAt_82 (by decide) (fun h82 => absurd ((nI_leI (by omega) (by omega)).mp h82) h66) (fun h82 => ?_)
        refine e_iload (pc := 85) dX6_leastAt_85 rfl ?_
        refine e_goto (pc := 87) (tgt := 92) dX6_leastAt_87 (by decide) ?_
        refine e_istore (pc := 92) dX6_leastAt_92 (by decide) rfl ?_
        refine e_iinc' (pc := 94) (nI (j + 1)) dX6_leastAt_94 rfl (by decide) rfl (nI_1 _) ?_
        refine e_goto (pc := 97) (tgt := 17) dX6_leastAt_97 (by decide) ?_
        refine hih S3 _ (rs R (5 * 3 + w) j) (by omega) (by omega) ((hf.tr (f2.same (by omega))).tr q4.same) ?_ (rs_ne _ _ (by omega)) (fun v => rs_rs _ _ _ _)
        refine p2.of (fun x h1 h2 => q4.2.2.1 x (by omega)) ?_
        rw [rs_ne _ _ (by omega)]; exact h5
theorem lp_best31 {sc : PSc} {w m c : Nat} {R : Rw} {S0 : PS} {Q : PQ} (hv : Vd R) (hc : R 21 ≤ 999999) (hr0 : RowAt S0 1 R) (hw : w < R 20) (hm : m ≤ 200) (hcv : c = R (5 + w)) (hc12 : c ≤ 12) (k : ∀ S', Fr 6 5 S0 S' → Q (some (.int (nI (lbi (fun v => reads (pn (rs R (5 * 3 + w) v) m)) 248832 c).1))) S') : ∀ (n : Nat) (j : Nat) (S : PS) (z : Value), j ≤ c → c - j < n → Fr 6 5 S0 S → E sc mX5_bestPart 64 [.ref 0, .int (nI w), .int (nI 3), .int (nI m), .int (nI 1), .int (nI c), .int (nI (lbi (fun v => reads (pn (rs R (5 * 3 + w) v) m)) 248832 j).1), .int (nI (lbi (fun v => reads (pn (rs R (5 * 3 + w) v) m)) 248832 j).2), .int (nI j), z] [] S Q := by
  intro n
  induction n with
  | zero => intro j S z hj hn hf; exact absurd hn (by omega)
  | succ n ih =>
    intro j S z hj hn hf
    have h5 := hv.1
    have htw := hv.2 w hw
    have hr := hr0.frI hf r6 r1 (by omega)
    have hq : ∀ v, v < c → Vd (rs R (5 * 3 + w) v) := fun v hv2 => set_vd (a := 3) hv hw (Or.inr (Or.inr ⟨rfl, Or.inl (by omega)⟩))
    have hb1 := lbi_le (f := fun v => reads (pn (rs R (5 * 3 + w) v) m)) (i0 := 248832) (n := c) (fun v hv2 => reads_le (pn_vd (hq v hv2) m)) (by omega) j hj
    refine e_iload (pc := 64) dX5_bestPart_64 rfl ?_
    refine e_iload (pc := 66) dX5_bestPart_66 rfl ?_
    refine e_icmp_ge (pc := 68) (tgt := 132) dX5_bestPart_68 (by decide) (fun h68 => ?_) (fun h68 => ?_)
    · replace h68 := (nI_leI (by omega) (by omega)).mp h68
      obtain rfl : j = c := by omega
      refine e_iload (pc := 132) dX5_bestPart_132 rfl ?_
      refine e_if_ne (pc := 134) (tgt := 142) dX5_bestPart_134 (by decide) (fun h134 => ?_) (fun h134 => absurd h134 (by decide))
      refine e_iload (pc := 142) dX5_bestPart_142 rfl ?_
      refine e_iret (pc := 144) (st := []) (ty := .int) dX5_bestPart_144 rfl rfl ?_
      exact k S hf
    · replace h68 := mt (nI_leI (by omega) (by omega)).mpr h68
      have hvd := hq j (by omega)
      have hb2 := reads_le (pn_vd hvd m)
      have hih := fun S2 z2 => ih (j + 1) S2 z2 (by omega) (by omega)
      rw [lbi] at hih
      refine e_aload_n (pc := 71) (i := 0) dX5_bestPart_71 rfl rfl ?_
      refine e_iload_n (pc := 72) (i := 1) dX5_bestPart_72 rfl rfl ?_
      refine e_iload_n (pc := 73) (i := 2) dX5_bestPart_73 rfl rfl ?_
      refine e_iload (pc := 74) dX5_bestPart_74 rfl ?_
      refine e_callV3 (pc := 76) (M' := mX5_tryPart) dX5_bestPart_76 iX5_tryPart lkX5_173 (by decide) (rO_obj sh_0 rfl) (Nat.le_of_ble_eq_true rfl) (Nat.le_of_ble_eq_true rfl) ?_
      refine sp_tryPart (a := 3) (v := j) hv hr hw (by omega) (fun S2 q1 q2 q3 => ?_)
      refine e_aload_n (pc := 79) (i := 0) dX5_bestPart_79 rfl rfl ?_
      refine e_getR (pc := 80) dX5_bestPart_80 (fX5_16 rfl) sh_0 rfl ?_
      refine e_iload_n (pc := 83) (i := 3) dX5_bestPart_83 rfl rfl ?_
      refine e_callV1 (pc := 84) (M' := mX0_push) dX5_bestPart_84 iX0_push lkX5_148 (by decide) (rO_obj sh_6 rfl) (Nat.le_of_ble_eq_true rfl) (Nat.le_of_ble_eq_true rfl) ?_
      refine sp_push r6 hvd q1 (by omega) (fun S3 q4 q5 q6 => ?_)
      refine e_iload_n (pc := 87) (i := 2) dX5_bestPart_87 rfl rfl ?_
      refine e_iconst' (pc := 88) (nI 3) dX5_bestPart_88 (by decide) ?_
      refine e_icmp_ne (pc := 89) (tgt := 102) dX5_bestPart_89 (by decide) (fun h89 => absurd (by decide) h89) (fun h89 => ?_)
      refine e_aload_n (pc := 92) (i := 0) dX5_bestPart_92 rfl rfl ?_
      refine e_getR (pc := 93) dX5_bestPart_93 (fX5_16 rfl) sh_0 rfl ?_
      refine e_callV0 (pc := 96) (M' := mX0_reading) dX5_bestPart_96 iX0_reading lkX5_107 (by decide) (rO_obj sh_6 rfl) (Nat.le_of_ble_eq_true rfl) (Nat.le_of_ble_eq_true rfl) ?_
      refine sp_reading r6 (pn_vd hvd m) q4 ?_
      refine e_goto (pc := 99) (tgt := 109) dX5_bestPart_99 (by decide) ?_
      refine e_istore (pc := 109) dX5_bestPart_109 (by decide) rfl ?_
      refine e_iload (pc := 111) dX5_bestPart_111 rfl ?_
      refine e_iload (pc := 113) dX5_bestPart_113 rfl ?_
      refine e_icmp_ge (pc := 115) (tgt := 126) dX5_bestPart_115 (by decide) (fun h115 => ?_) (fun h115 => ?_)
      · replace h115 := (nI_leI (by omega) (by omega)).mp h115
        rw [if_neg (by omega)] at hih
        refine e_iinc' (pc := 126) (nI (j + 1)) dX5_bestPart_126 rfl (by decide) rfl (nI_1 _) ?_
        refine e_goto (pc := 129) (tgt := 64) dX5_bestPart_129 (by decide) ?_
        exact hih S3 _ ((hf.tr q3).tr q6)
      · replace h115 := mt (nI_leI (by omega) (by omega)).mpr h115
        rw [if_pos (by omega)] at hih
        refine e_iload (pc := 118) dX5_bestPart_118 rfl ?_
        refine e_istore (pc := 120) dX5_bestPart_120 (by decide) rfl ?_
        refine e_iload (pc := 122) dX5_bestPart_122 rfl ?_
        refine e_istore (pc := 124) dX5_bestPart_124 (by decide) rfl ?_
        refine e_iinc' (pc := 126) (nI (j + 1)) dX5_bestPart_126 rfl (by decide) rfl (nI_1 _) ?_
        refine e_goto (pc := 129) (tgt := 64) dX5_bestPart_129 (by decide) ?_
        exact hih S3 _ ((hf.tr q3).tr q6)
theorem lm_best31 {sc : PSc} {w m c : Nat} {R : Rw} {S0 : PS} {Q : PQ} (hv : Vd R) (hc : R 21 ≤ 999999) (hw : w < R 20) (hm : m ≤ 200) (hcv : c = R (5 + w)) (hc12 : c ≤ 12) (k : ∀ S', Same S0 S' → Q (some (.int (nI (lbi (fun v => reads (pn (rs R (5 * 3 + w) v) m)) 1000000 c).1))) S') : ∀ (n : Nat) (j : Nat) (S : PS) (z : Value) (R2 : Rw), j ≤ c → c - j < n → Same S0 S → PgAt S 110 R2 → R2 20 = R 20 → (∀ v, rs R2 (5 * 3 + w) v = rs R (5 * 3 + w) v) → E sc mX6_leastAt 17 [.ref 54, .int (nI (5 * 3 + w)), .int (-12), .int (nI c), .int (nI m), .int (nI 1), .int (nI 1), .int (nI (lbi (fun v => reads (pn (rs R (5 * 3 + w) v) m)) 1000000 j).1), .int (nI (lbi (fun v => reads (pn (rs R (5 * 3 + w) v) m)) 1000000 j).2), .int (nI j), z] [] S Q := by
  intro n
  induction n with
  | zero => intro j S z R2 hj hn hf p1 h20 hrs; exact absurd hn (by omega)
  | succ n ih =>
    intro j S z R2 hj hn hf p1 h20 hrs
    have h5 := hv.1
    have htw := hv.2 w hw
    have hq : ∀ v, v < c → Vd (rs R (5 * 3 + w) v) := fun v hv2 => set_vd (a := 3) hv hw (Or.inr (Or.inr ⟨rfl, Or.inl (by omega)⟩))
    have hb1 := lbi_le (f := fun v => reads (pn (rs R (5 * 3 + w) v) m)) (i0 := 1000000) (n := c) (fun v hv2 => reads_le (pn_vd (hq v hv2) m)) (by omega) j hj
    refine e_iload (pc := 17) dX6_leastAt_17 rfl ?_
    refine e_iload_n (pc := 19) (i := 3) dX6_leastAt_19 rfl rfl ?_
    refine e_icmp_ge (pc := 20) (tgt := 100) dX6_leastAt_20 (by decide) (fun h20 => ?_) (fun h20 => ?_)
    · replace h20 := (nI_leI (by omega) (by omega)).mp h20
      obtain rfl : j = c := by omega
      refine e_iload (pc := 100) dX6_leastAt_100 rfl ?_
      refine e_if_ne (pc := 102) (tgt := 110) dX6_leastAt_102 (by decide) (fun h102 => ?_) (fun h102 => absurd h102 (by decide))
      refine e_iload (pc := 110) dX6_leastAt_110 rfl ?_
      refine e_iret (pc := 112) (st := []) (ty := .int) dX6_leastAt_112 rfl rfl ?_
      exact k S hf
    · replace h20 := mt (nI_leI (by omega) (by omega)).mpr h20
      have hvd := hq j (by omega)
      have hb2 := reads_le (pn_vd hvd m)
      have hih := fun S2 z2 => ih (j + 1) S2 z2
      rw [lbi] at hih
      refine e_aload_n (pc := 23) (i := 0) dX6_leastAt_23 rfl rfl ?_
      refine e_getR (pc := 24) dX6_leastAt_24 (fX6_7 rfl) sh_54 rfl ?_
      refine e_bipush' (pc := 27) (nI 110) dX6_leastAt_27 (by decide) ?_
      refine e_iload_n (pc := 29) (i := 1) dX6_leastAt_29 rfl rfl ?_
      refine e_iadd (pc := 30) dX6_leastAt_30 ?_
      refine E.it (nI (110 + (5 * 3 + w))) (nI_add _ _) ?_
      refine e_iload_n (pc := 31) (i := 2) dX6_leastAt_31 rfl rfl ?_
      refine e_iload (pc := 32) dX6_leastAt_32 rfl ?_
      refine e_iadd (pc := 34) dX6_leastAt_34 ?_
      refine E.it (pv 3 j) (by show -12 + nI j = nI j - nI 12; rw [Int32.sub_eq_add_neg, Int32.add_comm]; rfl) ?_
      refine e_iast (pc := 35) dX6_leastAt_35 sh_55 (vp_in_nI (by omega) (by omega)) ?_
      rw [nI_clamp (show 110 + (5 * 3 + w) < 2 ^ 31 by omega), ← Nat.add_assoc]
      have p2 := p1.set (a := 3) (v := j) (by omega) (show w < 5 by omega) (by omega)
      rw [hrs] at p2
      have f2 : FrQ 110 S (up2 S.1 55 (110 + 5 * 3 + w) (pv 3 j), S.2) := FrQ.up ⟨rfl, fun _ _ => rfl, fun _ _ => rfl⟩ (by omega) (by omega)
      refine e_iload (pc := 36) dX6_leastAt_36 rfl ?_
      refine e_if_eq (pc := 38) (tgt := 52) dX6_leastAt_38 (by decide) (fun h38 => absurd h38 (by decide)) (fun h38 => ?_)
      refine e_aload_n (pc := 41) (i := 0) dX6_leastAt_41 rfl rfl ?_
      refine e_bipush' (pc := 42) (nI 110) dX6_leastAt_42 (by decide) ?_
      refine e_iload (pc := 44) dX6_leastAt_44 rfl ?_
      refine e_callV2 (pc := 46) (M' := mX6_pushesGo) dX6_leastAt_46 iX6_pushesGo lkX6_176 (by decide) (rO_obj sh_54 rfl) (Nat.le_of_ble_eq_true rfl) (Nat.le_of_ble_eq_true rfl) ?_
      refine sp_pushesGo (p := 110) (by omega) (by omega) hvd p2 (by omega) (fun S3 g1 g2 g3 g4 q4 => ?_)
      refine e_goto (pc := 49) (tgt := 60) dX6_leastAt_49 (by decide) ?_
      refine e_istore (pc := 60) dX6_leastAt_60 (by decide) rfl ?_
      refine e_iload (pc := 62) dX6_leastAt_62 rfl ?_
      refine e_iload (pc := 64) dX6_leastAt_64 rfl ?_
      refine e_icmp_ge (pc := 66) (tgt := 74) dX6_leastAt_66 (by decide) (fun h66 => ?_) (fun h66 => ?_)
      · replace h66 := (nI_leI (by omega) (by omega)).mp h66
        rw [if_neg (by omega)] at hih
        refine e_iload (pc := 74) dX6_leastAt_74 rfl ?_
        refine e_istore (pc := 76) dX6_leastAt_76 (by decide) rfl ?_
        refine e_iload (pc := 78) dX6_leastAt_78 rfl ?_
        refine e_iload (pc := 80) dX6_leastAt_80 rfl ?_
        refine e_icmp_ge (pc := 82) (tgt := 90) dX6_leastAt_82 (by decide) (fun h82 => ?_) (fun h82 => absurd (nI_le h66 (by omega)) h82)
        refine e_iload (pc := 90) dX6_leastAt_90 rfl ?_
        refine e_istore (pc := 92) dX6_leastAt_92 (by decide) rfl ?_
        refine e_iinc' (pc := 94) (nI (j + 1)) dX6_leastAt_94 rfl (by decide) rfl (nI_1 _) ?_
        refine e_goto (pc := 97) (tgt := 17) dX6_leastAt_97 (by decide) ?_
        refine hih S3 _ (rs R (5 * 3 + w) j) (by omega) (by omega) ((hf.tr (f2.same (by omega))).tr q4.same) ?_ (rs_ne _ _ (by omega)) (fun v => rs_rs _ _ _ _)
        refine p2.of (fun x h1 h2 => q4.2.2.1 x (by omega)) ?_
        rw [rs_ne _ _ (by omega)]; exact h5
      · replace h66 := mt (nI_leI (by omega) (by omega)).mpr h66
        rw [if_pos (by omega)] at hih
        refine e_iload (pc := 69) dX6_leastAt_69 rfl ?_
        refine e_goto (pc := 71) (tgt := 76) dX6_leastAt_71 (by decide) ?_
        refine e_istore (pc := 76) dX6_leastAt_76 (by decide) rfl ?_
        refine e_iload (pc := 78) dX6_leastAt_78 rfl ?_
        refine e_iload (pc := 80) dX6_leastAt_80 rfl ?_
        refine e_icmp_ge (pc := 82) (tgt := 90) dX6_leastAt_82 (by decide) (fun h82 => absurd ((nI_leI (by omega) (by omega)).mp h82) h66) (fun h82 => ?_)
        refine e_iload (pc := 85) dX6_leastAt_85 rfl ?_
        refine e_goto (pc := 87) (tgt := 92) dX6_leastAt_87 (by decide) ?_
        refine e_istore (pc := 92) dX6_leastAt_92 (by decide) rfl ?_
        refine e_iinc' (pc := 94) (nI (j + 1)) dX6_leastAt_94 rfl (by decide) rfl (nI_1 _) ?_
        refine e_goto (pc := 97) (tgt := 17) dX6_leastAt_97 (by decide) ?_
        refine hih S3 _ (rs R (5 * 3 + w) j) (by omega) (by omega) ((hf.tr (f2.same (by omega))).tr q4.same) ?_ (rs_ne _ _ (by omega)) (fun v => rs_rs _ _ _ _)
        refine p2.of (fun x h1 h2 => q4.2.2.1 x (by omega)) ?_
        rw [rs_ne _ _ (by omega)]; exact h5
theorem b_file {sc : PSc} {S : PS} (hI : InvS S) (w x y : Int32) : Bth sc mX5_file mX6_file [.int w, .int x, .int y] S := by
  obtain ⟨R, hv, hc, hr, hp⟩ := hI.1
  have hv5 := hv.1
  rcases Classical.em (inw w (R 20)) with ⟨w, rfl, hw⟩ | hn
  · have htw := hv.2 w hw
    rcases Classical.em (inr x 0 200) with ⟨m, rfl, -, hm⟩ | hn
    · rcases Classical.em (inr y 0 1) with ⟨a, rfl, -, ha⟩ | hn
      · rcases (show a = 0 ∨ a = 1 by omega) with rfl | rfl
        · refine ask_both (nI (lbi (fun v => reads (pn (rs R (5 * 3 + w) v) m)) 248832 (R (5 + w))).2) hI (fun Q k => ?_) (fun S1 h1 Q k => ?_)
          · show E sc mX5_file 0 [.ref 0, .int (nI w), .int (nI m), .int (nI 0)] [] S Q
            refine e_aload_n (pc := 0) (i := 0) dX5_file_0 rfl rfl ?_
            refine e_iload_n (pc := 1) (i := 1) dX5_file_1 rfl rfl ?_
            refine e_iconst' (pc := 2) (nI 3) dX5_file_2 (by decide) ?_
            refine e_iload_n (pc := 3) (i := 2) dX5_file_3 rfl rfl ?_
            refine e_iload_n (pc := 4) (i := 3) dX5_file_4 rfl rfl ?_
            refine e_callV4 (pc := 5) (M' := mX5_bestPart) dX5_file_5 iX5_bestPart lkX5_181 (by decide) (rO_obj sh_0 rfl) (Nat.le_of_ble_eq_true rfl) (Nat.le_of_ble_eq_true rfl) ?_
            show E sc mX5_bestPart 0 [.ref 0, .int (nI w), .int (nI 3), .int (nI m), .int (nI 0), .null, .null, .null, .null, .null] [] S _
            refine e_aload_n (pc := 0) (i := 0) dX5_bestPart_0 rfl rfl ?_
            refine e_getR (pc := 1) dX5_bestPart_1 (fX5_10 rfl) sh_0 rfl ?_
            refine e_iload_n (pc := 4) (i := 1) dX5_bestPart_4 rfl rfl ?_
            refine e_callV1 (pc := 5) (M' := mX0_has) dX5_bestPart_5 iX0_has lkX5_120 (by decide) (rO_obj sh_1 rfl) (Nat.le_of_ble_eq_true rfl) (Nat.le_of_ble_eq_true rfl) ?_
            refine sp_hasY r1 hv hr hw ?_
            refine e_if_eq (pc := 8) (tgt := 32) dX5_bestPart_8 (by decide) (fun h8 => absurd h8 (by decide)) (fun h8 => ?_)
            refine e_iload_n (pc := 11) (i := 3) dX5_bestPart_11 rfl rfl ?_
            refine e_iconst' (pc := 12) (nI 0) dX5_bestPart_12 (by decide) ?_
            refine e_sipush' (pc := 13) (nI 200) dX5_bestPart_13 (by decide) ?_
            refine e_callS3 (pc := 16) (M' := mX5_within) dX5_bestPart_16 jX5_within lkX5_70 (by decide) (Nat.le_of_ble_eq_true rfl) (Nat.le_of_ble_eq_true rfl) ?_
            refine sp_winY (by omega) (by omega) (by omega) ?_
            refine e_if_eq (pc := 19) (tgt := 32) dX5_bestPart_19 (by decide) (fun h19 => absurd h19 (by decide)) (fun h19 => ?_)
            refine e_iload (pc := 22) dX5_bestPart_22 rfl ?_
            refine e_iconst' (pc := 24) (nI 0) dX5_bestPart_24 (by decide) ?_
            refine e_iconst' (pc := 25) (nI 1) dX5_bestPart_25 (by decide) ?_
            refine e_callS3 (pc := 26) (M' := mX5_within) dX5_bestPart_26 jX5_within lkX5_70 (by decide) (Nat.le_of_ble_eq_true rfl) (Nat.le_of_ble_eq_true rfl) ?_
            refine sp_winY (by omega) (by omega) (by omega) ?_
            refine e_if_ne (pc := 29) (tgt := 34) dX5_bestPart_29 (by decide) (fun h29 => ?_) (fun h29 => absurd h29 (by decide))
            refine e_iload_n (pc := 34) (i := 2) dX5_bestPart_34 rfl rfl ?_
            refine e_if_ne (pc := 35) (tgt := 42) dX5_bestPart_35 (by decide) (fun h35 => ?_) (fun h35 => absurd h35 (by decide))
            refine e_aload_n (pc := 42) (i := 0) dX5_bestPart_42 rfl rfl ?_
            refine e_getR (pc := 43) dX5_bestPart_43 (fX5_10 rfl) sh_0 rfl ?_
            refine e_getR (pc := 46) dX5_bestPart_46 (fX5_204 rfl) sh_1 rfl ?_
            refine e_iload_n (pc := 49) (i := 1) dX5_bestPart_49 rfl rfl ?_
            refine e_iald (pc := 50) dX5_bestPart_50 sh_3 (rin hv hw) ?_
            refine E.it (nI (R (5 + w))) (rt hv hr hw) ?_
            refine e_istore (pc := 51) dX5_bestPart_51 (by decide) rfl ?_
            refine e_ldcw' (pc := 53) (nI 248832) dX5_bestPart_53 (kcX5_257 rfl) (by decide) ?_
            refine e_istore (pc := 56) dX5_bestPart_56 (by decide) rfl ?_
            refine e_iconst' (pc := 58) (nI 0) dX5_bestPart_58 (by decide) ?_
            refine e_istore (pc := 59) dX5_bestPart_59 (by decide) rfl ?_
            refine e_iconst' (pc := 61) (nI 0) dX5_bestPart_61 (by decide) ?_
            refine e_istore (pc := 62) dX5_bestPart_62 (by decide) rfl ?_
            refine lp_best30 (c := (R (5 + w))) hv hc hr hw hm rfl (by omega) (fun S2 h2 => ?_) ((R (5 + w)) + 1) 0 S _ (by omega) (by omega) Fr.rf
            refine e_iret (pc := 8) (st := []) (ty := .int) dX5_file_8 rfl rfl ?_
            exact k S2 h2.same
          · show E sc mX6_file 0 [.ref 54, .int (nI w), .int (nI m), .int (nI 0)] [] S1 Q
            have hp := h1.pg (by omega) hv hp
            refine e_aload_n (pc := 0) (i := 0) dX6_file_0 rfl rfl ?_
            refine e_iload_n (pc := 1) (i := 1) dX6_file_1 rfl rfl ?_
            refine e_callV1 (pc := 2) (M' := mX6_isWheel) dX6_file_2 iX6_isWheel lkX6_144 (by decide) (rO_obj sh_54 rfl) (Nat.le_of_ble_eq_true rfl) (Nat.le_of_ble_eq_true rfl) ?_
            refine sp_isWheelY hv hp hw ?_
            refine e_if_eq (pc := 5) (tgt := 54) dX6_file_5 (by decide) (fun h5 => absurd h5 (by decide)) (fun h5 => ?_)
            refine e_iload_n (pc := 8) (i := 2) dX6_file_8 rfl rfl ?_
            refine e_i2l (pc := 9) dX6_file_9 ?_
            refine e_lconst' (pc := 10) (lN 0) dX6_file_10 (by decide) ?_
            refine e_ldc2 (pc := 11) dX6_file_11 (klX6_185 rfl) ?_
            refine e_callS3 (pc := 14) (M' := mX6_in) dX6_file_14 jX6_in lkX6_46 (by decide) (Nat.le_of_ble_eq_true rfl) (Nat.le_of_ble_eq_true rfl) ?_
            refine sp_inY (lo := 0) (hi := 200) (by decide) (by decide) (by omega) (by omega) (by omega) ?_
            refine e_if_eq (pc := 17) (tgt := 54) dX6_file_17 (by decide) (fun h17 => absurd h17 (by decide)) (fun h17 => ?_)
            refine e_iload_n (pc := 20) (i := 3) dX6_file_20 rfl rfl ?_
            refine e_i2l (pc := 21) dX6_file_21 ?_
            refine e_lconst' (pc := 22) (lN 0) dX6_file_22 (by decide) ?_
            refine e_lconst' (pc := 23) (lN 1) dX6_file_23 (by decide) ?_
            refine e_callS3 (pc := 24) (M' := mX6_in) dX6_file_24 jX6_in lkX6_46 (by decide) (Nat.le_of_ble_eq_true rfl) (Nat.le_of_ble_eq_true rfl) ?_
            refine sp_inY (lo := 0) (hi := 1) (by decide) (by decide) (by omega) (by omega) (by omega) ?_
            refine e_if_eq (pc := 27) (tgt := 54) dX6_file_27 (by decide) (fun h27 => absurd h27 (by decide)) (fun h27 => ?_)
            refine e_aload_n (pc := 30) (i := 0) dX6_file_30 rfl rfl ?_
            refine e_bipush' (pc := 31) (nI 15) dX6_file_31 (by decide) ?_
            refine e_iload_n (pc := 33) (i := 1) dX6_file_33 rfl rfl ?_
            refine e_iadd (pc := 34) dX6_file_34 ?_
            refine E.it (nI (15 + w)) (nI_add _ _) ?_
            refine e_bipush' (pc := 35) (-12) dX6_file_35 (by decide) ?_
            refine e_aload_n (pc := 37) (i := 0) dX6_file_37 rfl rfl ?_
            refine e_getR (pc := 38) dX6_file_38 (fX6_7 rfl) sh_54 rfl ?_
            refine e_iconst' (pc := 41) (nI 5) dX6_file_41 (by decide) ?_
            refine e_iload_n (pc := 42) (i := 1) dX6_file_42 rfl rfl ?_
            refine e_iadd (pc := 43) dX6_file_43 ?_
            refine E.it (nI (5 + w)) (nI_add _ _) ?_
            refine e_iald (pc := 44) dX6_file_44 sh_55 (vp_in_nI (by omega) (by omega)) ?_
            refine E.it (nI (R (5 + w))) (by rw [nI_clamp (by omega)]; have := (hp.2.2 w hw).2.1; simpa using this) ?_
            refine e_iload_n (pc := 45) (i := 2) dX6_file_45 rfl rfl ?_
            refine e_iconst' (pc := 46) (nI 1) dX6_file_46 (by decide) ?_
            refine e_iload_n (pc := 47) (i := 3) dX6_file_47 rfl rfl ?_
            refine e_callV6 (pc := 48) (M' := mX6_leastAt) dX6_file_48 iX6_leastAt lkX6_191 (by decide) (rO_obj sh_54 rfl) (Nat.le_of_ble_eq_true rfl) (Nat.le_of_ble_eq_true rfl) ?_
            show E sc mX6_leastAt 0 [.ref 54, .int (nI (15 + w)), .int (-12), .int (nI (R (5 + w))), .int (nI m), .int (nI 1), .int (nI 0), .null, .null, .null, .null] [] S1 _
            have hat : nI (15 + w) = nI (5 * 3 + w) := by first | rfl | (congr 1; omega)
            rw [hat]
            refine e_ldc' (pc := 0) (nI 1000000) dX6_leastAt_0 (kcX6_190 rfl) (by decide) ?_
            refine e_istore (pc := 2) dX6_leastAt_2 (by decide) rfl ?_
            refine e_iconst' (pc := 4) (nI 0) dX6_leastAt_4 (by decide) ?_
            refine e_istore (pc := 5) dX6_leastAt_5 (by decide) rfl ?_
            refine e_aload_n (pc := 7) (i := 0) dX6_leastAt_7 rfl rfl ?_
            refine e_iconst' (pc := 8) (nI 0) dX6_leastAt_8 (by decide) ?_
            refine e_bipush' (pc := 9) (nI 110) dX6_leastAt_9 (by decide) ?_
            refine e_callV2 (pc := 11) (M' := mX6_copies) dX6_leastAt_11 iX6_copies lkX6_167 (by decide) (rO_obj sh_54 rfl) (Nat.le_of_ble_eq_true rfl) (Nat.le_of_ble_eq_true rfl) ?_
            refine sp_copyPg (b := 110) (by omega) (by omega) (by omega) hv hp (fun S2 p1 f1 => ?_)
            refine e_iconst' (pc := 14) (nI 0) dX6_leastAt_14 (by decide) ?_
            refine e_istore (pc := 15) dX6_leastAt_15 (by decide) rfl ?_
            refine lm_best30 (c := (R (5 + w))) hv hc hw hm rfl (by omega) (fun S3 h3 => ?_) ((R (5 + w)) + 1) 0 S2 _ R (by omega) (by omega) (f1.same (by omega)) p1 rfl (fun _ => rfl)
            refine e_goto (pc := 51) (tgt := 55) dX6_file_51 (by decide) ?_
            refine e_iret (pc := 55) (st := []) (ty := .int) dX6_file_55 rfl rfl ?_
            refine qeq (k S3 h3) ?_
            obtain ⟨q, hq⟩ : ∃ q, (R (5 + w)) = q + 1 := ⟨(R (5 + w)) - 1, by omega⟩
            rw [hq, lbi_init (i0 := 1000000) (i1 := 248832) (by have := reads_le (pn_vd (set_vd (a := 3) (v := 0) hv hw (Or.inr (Or.inr ⟨rfl, Or.inl (by omega)⟩))) m); omega) (by have := reads_le (pn_vd (set_vd (a := 3) (v := 0) hv hw (Or.inr (Or.inr ⟨rfl, Or.inl (by omega)⟩))) m); omega)]
        · refine ask_both (nI (lbi (fun v => reads (pn (rs R (5 * 3 + w) v) m)) 248832 (R (5 + w))).1) hI (fun Q k => ?_) (fun S1 h1 Q k => ?_)
          · show E sc mX5_file 0 [.ref 0, .int (nI w), .int (nI m), .int (nI 1)] [] S Q
            refine e_aload_n (pc := 0) (i := 0) dX5_file_0 rfl rfl ?_
            refine e_iload_n (pc := 1) (i := 1) dX5_file_1 rfl rfl ?_
            refine e_iconst' (pc := 2) (nI 3) dX5_file_2 (by decide) ?_
            refine e_iload_n (pc := 3) (i := 2) dX5_file_3 rfl rfl ?_
            refine e_iload_n (pc := 4) (i := 3) dX5_file_4 rfl rfl ?_
            refine e_callV4 (pc := 5) (M' := mX5_bestPart) dX5_file_5 iX5_bestPart lkX5_181 (by decide) (rO_obj sh_0 rfl) (Nat.le_of_ble_eq_true rfl) (Nat.le_of_ble_eq_true rfl) ?_
            show E sc mX5_bestPart 0 [.ref 0, .int (nI w), .int (nI 3), .int (nI m), .int (nI 1), .null, .null, .null, .null, .null] [] S _
            refine e_aload_n (pc := 0) (i := 0) dX5_bestPart_0 rfl rfl ?_
            refine e_getR (pc := 1) dX5_bestPart_1 (fX5_10 rfl) sh_0 rfl ?_
            refine e_iload_n (pc := 4) (i := 1) dX5_bestPart_4 rfl rfl ?_
            refine e_callV1 (pc := 5) (M' := mX0_has) dX5_bestPart_5 iX0_has lkX5_120 (by decide) (rO_obj sh_1 rfl) (Nat.le_of_ble_eq_true rfl) (Nat.le_of_ble_eq_true rfl) ?_
            refine sp_hasY r1 hv hr hw ?_
            refine e_if_eq (pc := 8) (tgt := 32) dX5_bestPart_8 (by decide) (fun h8 => absurd h8 (by decide)) (fun h8 => ?_)
            refine e_iload_n (pc := 11) (i := 3) dX5_bestPart_11 rfl rfl ?_
            refine e_iconst' (pc := 12) (nI 0) dX5_bestPart_12 (by decide) ?_
            refine e_sipush' (pc := 13) (nI 200) dX5_bestPart_13 (by decide) ?_
            refine e_callS3 (pc := 16) (M' := mX5_within) dX5_bestPart_16 jX5_within lkX5_70 (by decide) (Nat.le_of_ble_eq_true rfl) (Nat.le_of_ble_eq_true rfl) ?_
            refine sp_winY (by omega) (by omega) (by omega) ?_
            refine e_if_eq (pc := 19) (tgt := 32) dX5_bestPart_19 (by decide) (fun h19 => absurd h19 (by decide)) (fun h19 => ?_)
            refine e_iload (pc := 22) dX5_bestPart_22 rfl ?_
            refine e_iconst' (pc := 24) (nI 0) dX5_bestPart_24 (by decide) ?_
            refine e_iconst' (pc := 25) (nI 1) dX5_bestPart_25 (by decide) ?_
            refine e_callS3 (pc := 26) (M' := mX5_within) dX5_bestPart_26 jX5_within lkX5_70 (by decide) (Nat.le_of_ble_eq_true rfl) (Nat.le_of_ble_eq_true rfl) ?_
            refine sp_winY (by omega) (by omega) (by omega) ?_
            refine e_if_ne (pc := 29) (tgt := 34) dX5_bestPart_29 (by decide) (fun h29 => ?_) (fun h29 => absurd h29 (by decide))
            refine e_iload_n (pc := 34) (i := 2) dX5_bestPart_34 rfl rfl ?_
            refine e_if_ne (pc := 35) (tgt := 42) dX5_bestPart_35 (by decide) (fun h35 => ?_) (fun h35 => absurd h35 (by decide))
            refine e_aload_n (pc := 42) (i := 0) dX5_bestPart_42 rfl rfl ?_
            refine e_getR (pc := 43) dX5_bestPart_43 (fX5_10 rfl) sh_0 rfl ?_
            refine e_getR (pc := 46) dX5_bestPart_46 (fX5_204 rfl) sh_1 rfl ?_
            refine e_iload_n (pc := 49) (i := 1) dX5_bestPart_49 rfl rfl ?_
            refine e_iald (pc := 50) dX5_bestPart_50 sh_3 (rin hv hw) ?_
            refine E.it (nI (R (5 + w))) (rt hv hr hw) ?_
            refine e_istore (pc := 51) dX5_bestPart_51 (by decide) rfl ?_
            refine e_ldcw' (pc := 53) (nI 248832) dX5_bestPart_53 (kcX5_257 rfl) (by decide) ?_
            refine e_istore (pc := 56) dX5_bestPart_56 (by decide) rfl ?_
            refine e_iconst' (pc := 58) (nI 0) dX5_bestPart_58 (by decide) ?_
            refine e_istore (pc := 59) dX5_bestPart_59 (by decide) rfl ?_
            refine e_iconst' (pc := 61) (nI 0) dX5_bestPart_61 (by decide) ?_
            refine e_istore (pc := 62) dX5_bestPart_62 (by decide) rfl ?_
            refine lp_best31 (c := (R (5 + w))) hv hc hr hw hm rfl (by omega) (fun S2 h2 => ?_) ((R (5 + w)) + 1) 0 S _ (by omega) (by omega) Fr.rf
            refine e_iret (pc := 8) (st := []) (ty := .int) dX5_file_8 rfl rfl ?_
            exact k S2 h2.same
          · show E sc mX6_file 0 [.ref 54, .int (nI w), .int (nI m), .int (nI 1)] [] S1 Q
            have hp := h1.pg (by omega) hv hp
            refine e_aload_n (pc := 0) (i := 0) dX6_file_0 rfl rfl ?_
            refine e_iload_n (pc := 1) (i := 1) dX6_file_1 rfl rfl ?_
            refine e_callV1 (pc := 2) (M' := mX6_isWheel) dX6_file_2 iX6_isWheel lkX6_144 (by decide) (rO_obj sh_54 rfl) (Nat.le_of_ble_eq_true rfl) (Nat.le_of_ble_eq_true rfl) ?_
            refine sp_isWheelY hv hp hw ?_
            refine e_if_eq (pc := 5) (tgt := 54) dX6_file_5 (by decide) (fun h5 => absurd h5 (by decide)) (fun h5 => ?_)
            refine e_iload_n (pc := 8) (i := 2) dX6_file_8 rfl rfl ?_
            refine e_i2l (pc := 9) dX6_file_9 ?_
            refine e_lconst' (pc := 10) (lN 0) dX6_file_10 (by decide) ?_
            refine e_ldc2 (pc := 11) dX6_file_11 (klX6_185 rfl) ?_
            refine e_callS3 (pc := 14) (M' := mX6_in) dX6_file_14 jX6_in lkX6_46 (by decide) (Nat.le_of_ble_eq_true rfl) (Nat.le_of_ble_eq_true rfl) ?_
            refine sp_inY (lo := 0) (hi := 200) (by decide) (by decide) (by omega) (by omega) (by omega) ?_
            refine e_if_eq (pc := 17) (tgt := 54) dX6_file_17 (by decide) (fun h17 => absurd h17 (by decide)) (fun h17 => ?_)
            refine e_iload_n (pc := 20) (i := 3) dX6_file_20 rfl rfl ?_
            refine e_i2l (pc := 21) dX6_file_21 ?_
            refine e_lconst' (pc := 22) (lN 0) dX6_file_22 (by decide) ?_
            refine e_lconst' (pc := 23) (lN 1) dX6_file_23 (by decide) ?_
            refine e_callS3 (pc := 24) (M' := mX6_in) dX6_file_24 jX6_in lkX6_46 (by decide) (Nat.le_of_ble_eq_true rfl) (Nat.le_of_ble_eq_true rfl) ?_
            refine sp_inY (lo := 0) (hi := 1) (by decide) (by decide) (by omega) (by omega) (by omega) ?_
            refine e_if_eq (pc := 27) (tgt := 54) dX6_file_27 (by decide) (fun h27 => absurd h27 (by decide)) (fun h27 => ?_)
            refine e_aload_n (pc := 30) (i := 0) dX6_file_30 rfl rfl ?_
            refine e_bipush' (pc := 31) (nI 15) dX6_file_31 (by decide) ?_
            refine e_iload_n (pc := 33) (i := 1) dX6_file_33 rfl rfl ?_
            refine e_iadd (pc := 34) dX6_file_34 ?_
            refine E.it (nI (15 + w)) (nI_add _ _) ?_
            refine e_bipush' (pc := 35) (-12) dX6_file_35 (by decide) ?_
            refine e_aload_n (pc := 37) (i := 0) dX6_file_37 rfl rfl ?_
            refine e_getR (pc := 38) dX6_file_38 (fX6_7 rfl) sh_54 rfl ?_
            refine e_iconst' (pc := 41) (nI 5) dX6_file_41 (by decide) ?_
            refine e_iload_n (pc := 42) (i := 1) dX6_file_42 rfl rfl ?_
            refine e_iadd (pc := 43) dX6_file_43 ?_
            refine E.it (nI (5 + w)) (nI_add _ _) ?_
            refine e_iald (pc := 44) dX6_file_44 sh_55 (vp_in_nI (by omega) (by omega)) ?_
            refine E.it (nI (R (5 + w))) (by rw [nI_clamp (by omega)]; have := (hp.2.2 w hw).2.1; simpa using this) ?_
            refine e_iload_n (pc := 45) (i := 2) dX6_file_45 rfl rfl ?_
            refine e_iconst' (pc := 46) (nI 1) dX6_file_46 (by decide) ?_
            refine e_iload_n (pc := 47) (i := 3) dX6_file_47 rfl rfl ?_
            refine e_callV6 (pc := 48) (M' := mX6_leastAt) dX6_file_48 iX6_leastAt lkX6_191 (by decide) (rO_obj sh_54 rfl) (Nat.le_of_ble_eq_true rfl) (Nat.le_of_ble_eq_true rfl) ?_
            show E sc mX6_leastAt 0 [.ref 54, .int (nI (15 + w)), .int (-12), .int (nI (R (5 + w))), .int (nI m), .int (nI 1), .int (nI 1), .null, .null, .null, .null] [] S1 _
            have hat : nI (15 + w) = nI (5 * 3 + w) := by first | rfl | (congr 1; omega)
            rw [hat]
            refine e_ldc' (pc := 0) (nI 1000000) dX6_leastAt_0 (kcX6_190 rfl) (by decide) ?_
            refine e_istore (pc := 2) dX6_leastAt_2 (by decide) rfl ?_
            refine e_iconst' (pc := 4) (nI 0) dX6_leastAt_4 (by decide) ?_
            refine e_istore (pc := 5) dX6_leastAt_5 (by decide) rfl ?_
            refine e_aload_n (pc := 7) (i := 0) dX6_leastAt_7 rfl rfl ?_
            refine e_iconst' (pc := 8) (nI 0) dX6_leastAt_8 (by decide) ?_
            refine e_bipush' (pc := 9) (nI 110) dX6_leastAt_9 (by decide) ?_
            refine e_callV2 (pc := 11) (M' := mX6_copies) dX6_leastAt_11 iX6_copies lkX6_167 (by decide) (rO_obj sh_54 rfl) (Nat.le_of_ble_eq_true rfl) (Nat.le_of_ble_eq_true rfl) ?_
            refine sp_copyPg (b := 110) (by omega) (by omega) (by omega) hv hp (fun S2 p1 f1 => ?_)
            refine e_iconst' (pc := 14) (nI 0) dX6_leastAt_14 (by decide) ?_
            refine e_istore (pc := 15) dX6_leastAt_15 (by decide) rfl ?_
            refine lm_best31 (c := (R (5 + w))) hv hc hw hm rfl (by omega) (fun S3 h3 => ?_) ((R (5 + w)) + 1) 0 S2 _ R (by omega) (by omega) (f1.same (by omega)) p1 rfl (fun _ => rfl)
            refine e_goto (pc := 51) (tgt := 55) dX6_file_51 (by decide) ?_
            refine e_iret (pc := 55) (st := []) (ty := .int) dX6_file_55 rfl rfl ?_
            refine qeq (k S3 h3) ?_
            obtain ⟨q, hq⟩ : ∃ q, (R (5 + w)) = q + 1 := ⟨(R (5 + w)) - 1, by omega⟩
            rw [hq, lbi_init (i0 := 1000000) (i1 := 248832) (by have := reads_le (pn_vd (set_vd (a := 3) (v := 0) hv hw (Or.inr (Or.inr ⟨rfl, Or.inl (by omega)⟩))) m); omega) (by have := reads_le (pn_vd (set_vd (a := 3) (v := 0) hv hw (Or.inr (Or.inr ⟨rfl, Or.inl (by omega)⟩))) m); omega)]
      · refine ask_both (-1) hI (fun Q k => ?_) (fun S1 h1 Q k => ?_)
        · show E sc mX5_file 0 [.ref 0, .int (nI w), .int (nI m), .int y] [] S Q
          refine e_aload_n (pc := 0) (i := 0) dX5_file_0 rfl rfl ?_
          refine e_iload_n (pc := 1) (i := 1) dX5_file_1 rfl rfl ?_
          refine e_iconst' (pc := 2) (nI 3) dX5_file_2 (by decide) ?_
          refine e_iload_n (pc := 3) (i := 2) dX5_file_3 rfl rfl ?_
          refine e_iload_n (pc := 4) (i := 3) dX5_file_4 rfl rfl ?_
          refine e_callV4 (pc := 5) (M' := mX5_bestPart) dX5_file_5 iX5_bestPart lkX5_181 (by decide) (rO_obj sh_0 rfl) (Nat.le_of_ble_eq_true rfl) (Nat.le_of_ble_eq_true rfl) ?_
          show E sc mX5_bestPart 0 [.ref 0, .int (nI w), .int (nI 3), .int (nI m), .int y, .null, .null, .null, .null, .null] [] S _
          refine e_aload_n (pc := 0) (i := 0) dX5_bestPart_0 rfl rfl ?_
          refine e_getR (pc := 1) dX5_bestPart_1 (fX5_10 rfl) sh_0 rfl ?_
          refine e_iload_n (pc := 4) (i := 1) dX5_bestPart_4 rfl rfl ?_
          refine e_callV1 (pc := 5) (M' := mX0_has) dX5_bestPart_5 iX0_has lkX5_120 (by decide) (rO_obj sh_1 rfl) (Nat.le_of_ble_eq_true rfl) (Nat.le_of_ble_eq_true rfl) ?_
          refine sp_hasY r1 hv hr hw ?_
          refine e_if_eq (pc := 8) (tgt := 32) dX5_bestPart_8 (by decide) (fun h8 => absurd h8 (by decide)) (fun h8 => ?_)
          refine e_iload_n (pc := 11) (i := 3) dX5_bestPart_11 rfl rfl ?_
          refine e_iconst' (pc := 12) (nI 0) dX5_bestPart_12 (by decide) ?_
          refine e_sipush' (pc := 13) (nI 200) dX5_bestPart_13 (by decide) ?_
          refine e_callS3 (pc := 16) (M' := mX5_within) dX5_bestPart_16 jX5_within lkX5_70 (by decide) (Nat.le_of_ble_eq_true rfl) (Nat.le_of_ble_eq_true rfl) ?_
          refine sp_winY (by omega) (by omega) (by omega) ?_
          refine e_if_eq (pc := 19) (tgt := 32) dX5_bestPart_19 (by decide) (fun h19 => absurd h19 (by decide)) (fun h19 => ?_)
          refine e_iload (pc := 22) dX5_bestPart_22 rfl ?_
          refine e_iconst' (pc := 24) (nI 0) dX5_bestPart_24 (by decide) ?_
          refine e_iconst' (pc := 25) (nI 1) dX5_bestPart_25 (by decide) ?_
          refine e_callS3 (pc := 26) (M' := mX5_within) dX5_bestPart_26 jX5_within lkX5_70 (by decide) (Nat.le_of_ble_eq_true rfl) (Nat.le_of_ble_eq_true rfl) ?_
          refine sp_winX hn (by omega) (by omega) ?_
          refine e_if_ne (pc := 29) (tgt := 34) dX5_bestPart_29 (by decide) (fun h29 => absurd (by decide) h29) (fun h29 => ?_)
          refine e_iconst' (pc := 32) (-1) dX5_bestPart_32 (by decide) ?_
          refine e_iret (pc := 33) (st := []) (ty := .int) dX5_bestPart_33 rfl rfl ?_
          refine e_iret (pc := 8) (st := []) (ty := .int) dX5_file_8 rfl rfl ?_
          exact k _ Same.rf
        · show E sc mX6_file 0 [.ref 54, .int (nI w), .int (nI m), .int y] [] S1 Q
          have hp := h1.pg (by omega) hv hp
          refine e_aload_n (pc := 0) (i := 0) dX6_file_0 rfl rfl ?_
          refine e_iload_n (pc := 1) (i := 1) dX6_file_1 rfl rfl ?_
          refine e_callV1 (pc := 2) (M' := mX6_isWheel) dX6_file_2 iX6_isWheel lkX6_144 (by decide) (rO_obj sh_54 rfl) (Nat.le_of_ble_eq_true rfl) (Nat.le_of_ble_eq_true rfl) ?_
          refine sp_isWheelY hv hp hw ?_
          refine e_if_eq (pc := 5) (tgt := 54) dX6_file_5 (by decide) (fun h5 => absurd h5 (by decide)) (fun h5 => ?_)
          refine e_iload_n (pc := 8) (i := 2) dX6_file_8 rfl rfl ?_
          refine e_i2l (pc := 9) dX6_file_9 ?_
          refine e_lconst' (pc := 10) (lN 0) dX6_file_10 (by decide) ?_
          refine e_ldc2 (pc := 11) dX6_file_11 (klX6_185 rfl) ?_
          refine e_callS3 (pc := 14) (M' := mX6_in) dX6_file_14 jX6_in lkX6_46 (by decide) (Nat.le_of_ble_eq_true rfl) (Nat.le_of_ble_eq_true rfl) ?_
          refine sp_inY (lo := 0) (hi := 200) (by decide) (by decide) (by omega) (by omega) (by omega) ?_
          refine e_if_eq (pc := 17) (tgt := 54) dX6_file_17 (by decide) (fun h17 => absurd h17 (by decide)) (fun h17 => ?_)
          refine e_iload_n (pc := 20) (i := 3) dX6_file_20 rfl rfl ?_
          refine e_i2l (pc := 21) dX6_file_21 ?_
          refine e_lconst' (pc := 22) (lN 0) dX6_file_22 (by decide) ?_
          refine e_lconst' (pc := 23) (lN 1) dX6_file_23 (by decide) ?_
          refine e_callS3 (pc := 24) (M' := mX6_in) dX6_file_24 jX6_in lkX6_46 (by decide) (Nat.le_of_ble_eq_true rfl) (Nat.le_of_ble_eq_true rfl) ?_
          refine sp_inX (lo := 0) (hi := 1) (by decide) (by decide) hn ?_
          refine e_if_eq (pc := 27) (tgt := 54) dX6_file_27 (by decide) (fun h27 => ?_) (fun h27 => absurd (by decide) h27)
          refine e_iconst' (pc := 54) (-1) dX6_file_54 (by decide) ?_
          refine e_iret (pc := 55) (st := []) (ty := .int) dX6_file_55 rfl rfl ?_
          exact k _ Same.rf
    · refine ask_both (-1) hI (fun Q k => ?_) (fun S1 h1 Q k => ?_)
      · show E sc mX5_file 0 [.ref 0, .int (nI w), .int x, .int y] [] S Q
        refine e_aload_n (pc := 0) (i := 0) dX5_file_0 rfl rfl ?_
        refine e_iload_n (pc := 1) (i := 1) dX5_file_1 rfl rfl ?_
        refine e_iconst' (pc := 2) (nI 3) dX5_file_2 (by decide) ?_
        refine e_iload_n (pc := 3) (i := 2) dX5_file_3 rfl rfl ?_
        refine e_iload_n (pc := 4) (i := 3) dX5_file_4 rfl rfl ?_
        refine e_callV4 (pc := 5) (M' := mX5_bestPart) dX5_file_5 iX5_bestPart lkX5_181 (by decide) (rO_obj sh_0 rfl) (Nat.le_of_ble_eq_true rfl) (Nat.le_of_ble_eq_true rfl) ?_
        show E sc mX5_bestPart 0 [.ref 0, .int (nI w), .int (nI 3), .int x, .int y, .null, .null, .null, .null, .null] [] S _
        refine e_aload_n (pc := 0) (i := 0) dX5_bestPart_0 rfl rfl ?_
        refine e_getR (pc := 1) dX5_bestPart_1 (fX5_10 rfl) sh_0 rfl ?_
        refine e_iload_n (pc := 4) (i := 1) dX5_bestPart_4 rfl rfl ?_
        refine e_callV1 (pc := 5) (M' := mX0_has) dX5_bestPart_5 iX0_has lkX5_120 (by decide) (rO_obj sh_1 rfl) (Nat.le_of_ble_eq_true rfl) (Nat.le_of_ble_eq_true rfl) ?_
        refine sp_hasY r1 hv hr hw ?_
        refine e_if_eq (pc := 8) (tgt := 32) dX5_bestPart_8 (by decide) (fun h8 => absurd h8 (by decide)) (fun h8 => ?_)
        refine e_iload_n (pc := 11) (i := 3) dX5_bestPart_11 rfl rfl ?_
        refine e_iconst' (pc := 12) (nI 0) dX5_bestPart_12 (by decide) ?_
        refine e_sipush' (pc := 13) (nI 200) dX5_bestPart_13 (by decide) ?_
        refine e_callS3 (pc := 16) (M' := mX5_within) dX5_bestPart_16 jX5_within lkX5_70 (by decide) (Nat.le_of_ble_eq_true rfl) (Nat.le_of_ble_eq_true rfl) ?_
        refine sp_winX hn (by omega) (by omega) ?_
        refine e_if_eq (pc := 19) (tgt := 32) dX5_bestPart_19 (by decide) (fun h19 => ?_) (fun h19 => absurd (by decide) h19)
        refine e_iconst' (pc := 32) (-1) dX5_bestPart_32 (by decide) ?_
        refine e_iret (pc := 33) (st := []) (ty := .int) dX5_bestPart_33 rfl rfl ?_
        refine e_iret (pc := 8) (st := []) (ty := .int) dX5_file_8 rfl rfl ?_
        exact k _ Same.rf
      · show E sc mX6_file 0 [.ref 54, .int (nI w), .int x, .int y] [] S1 Q
        have hp := h1.pg (by omega) hv hp
        refine e_aload_n (pc := 0) (i := 0) dX6_file_0 rfl rfl ?_
        refine e_iload_n (pc := 1) (i := 1) dX6_file_1 rfl rfl ?_
        refine e_callV1 (pc := 2) (M' := mX6_isWheel) dX6_file_2 iX6_isWheel lkX6_144 (by decide) (rO_obj sh_54 rfl) (Nat.le_of_ble_eq_true rfl) (Nat.le_of_ble_eq_true rfl) ?_
        refine sp_isWheelY hv hp hw ?_
        refine e_if_eq (pc := 5) (tgt := 54) dX6_file_5 (by decide) (fun h5 => absurd h5 (by decide)) (fun h5 => ?_)
        refine e_iload_n (pc := 8) (i := 2) dX6_file_8 rfl rfl ?_
        refine e_i2l (pc := 9) dX6_file_9 ?_
        refine e_lconst' (pc := 10) (lN 0) dX6_file_10 (by decide) ?_
        refine e_ldc2 (pc := 11) dX6_file_11 (klX6_185 rfl) ?_
        refine e_callS3 (pc := 14) (M' := mX6_in) dX6_file_14 jX6_in lkX6_46 (by decide) (Nat.le_of_ble_eq_true rfl) (Nat.le_of_ble_eq_true rfl) ?_
        refine sp_inX (lo := 0) (hi := 200) (by decide) (by decide) hn ?_
        refine e_if_eq (pc := 17) (tgt := 54) dX6_file_17 (by decide) (fun h17 => ?_) (fun h17 => absurd (by decide) h17)
        refine e_iconst' (pc := 54) (-1) dX6_file_54 (by decide) ?_
        refine e_iret (pc := 55) (st := []) (ty := .int) dX6_file_55 rfl rfl ?_
        exact k _ Same.rf
  · refine ask_both (-1) hI (fun Q k => ?_) (fun S1 h1 Q k => ?_)
    · show E sc mX5_file 0 [.ref 0, .int w, .int x, .int y] [] S Q
      refine e_aload_n (pc := 0) (i := 0) dX5_file_0 rfl rfl ?_
      refine e_iload_n (pc := 1) (i := 1) dX5_file_1 rfl rfl ?_
      refine e_iconst' (pc := 2) (nI 3) dX5_file_2 (by decide) ?_
      refine e_iload_n (pc := 3) (i := 2) dX5_file_3 rfl rfl ?_
      refine e_iload_n (pc := 4) (i := 3) dX5_file_4 rfl rfl ?_
      refine e_callV4 (pc := 5) (M' := mX5_bestPart) dX5_file_5 iX5_bestPart lkX5_181 (by decide) (rO_obj sh_0 rfl) (Nat.le_of_ble_eq_true rfl) (Nat.le_of_ble_eq_true rfl) ?_
      show E sc mX5_bestPart 0 [.ref 0, .int w, .int (nI 3), .int x, .int y, .null, .null, .null, .null, .null] [] S _
      refine e_aload_n (pc := 0) (i := 0) dX5_bestPart_0 rfl rfl ?_
      refine e_getR (pc := 1) dX5_bestPart_1 (fX5_10 rfl) sh_0 rfl ?_
      refine e_iload_n (pc := 4) (i := 1) dX5_bestPart_4 rfl rfl ?_
      refine e_callV1 (pc := 5) (M' := mX0_has) dX5_bestPart_5 iX0_has lkX5_120 (by decide) (rO_obj sh_1 rfl) (Nat.le_of_ble_eq_true rfl) (Nat.le_of_ble_eq_true rfl) ?_
      refine sp_hasX r1 hv hr hn ?_
      refine e_if_eq (pc := 8) (tgt := 32) dX5_bestPart_8 (by decide) (fun h8 => ?_) (fun h8 => absurd (by decide) h8)
      refine e_iconst' (pc := 32) (-1) dX5_bestPart_32 (by decide) ?_
      refine e_iret (pc := 33) (st := []) (ty := .int) dX5_bestPart_33 rfl rfl ?_
      refine e_iret (pc := 8) (st := []) (ty := .int) dX5_file_8 rfl rfl ?_
      exact k _ Same.rf
    · show E sc mX6_file 0 [.ref 54, .int w, .int x, .int y] [] S1 Q
      have hp := h1.pg (by omega) hv hp
      refine e_aload_n (pc := 0) (i := 0) dX6_file_0 rfl rfl ?_
      refine e_iload_n (pc := 1) (i := 1) dX6_file_1 rfl rfl ?_
      refine e_callV1 (pc := 2) (M' := mX6_isWheel) dX6_file_2 iX6_isWheel lkX6_144 (by decide) (rO_obj sh_54 rfl) (Nat.le_of_ble_eq_true rfl) (Nat.le_of_ble_eq_true rfl) ?_
      refine sp_isWheelX hv hp hn ?_
      refine e_if_eq (pc := 5) (tgt := 54) dX6_file_5 (by decide) (fun h5 => ?_) (fun h5 => absurd (by decide) h5)
      refine e_iconst' (pc := 54) (-1) dX6_file_54 (by decide) ?_
      refine e_iret (pc := 55) (st := []) (ty := .int) dX6_file_55 rfl rfl ?_
      exact k _ Same.rf

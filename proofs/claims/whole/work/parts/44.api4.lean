def swI (f : Nat → Nat → Nat) (a : Nat) (q : Nat × Int32) : Nat → Nat × Int32
  | 0 => q
  | t + 1 => if f a (a + 1 + t) < (swI f a q t).1 then (f a (a + 1 + t), nI (10 * a + (a + 1 + t))) else swI f a q t
def swO (f : Nat → Nat → Nat) (n : Nat) (q : Nat × Int32) : Nat → Nat × Int32
  | 0 => q
  | a + 1 => swI f a (swO f n q a) (n - (a + 1))
theorem swI_le {f : Nat → Nat → Nat} {a b n : Nat} {q : Nat × Int32} (h0 : q.1 ≤ b) (hf : ∀ t, a + 1 + t < n → f a (a + 1 + t) ≤ b) : ∀ t, a + t < n → (swI f a q t).1 ≤ b
  | 0, _ => h0
  | t + 1, h => by
    rw [swI]
    split
    · exact hf t (by omega)
    · exact swI_le h0 hf t (by omega)
theorem swO_le {f : Nat → Nat → Nat} {b n : Nat} {q : Nat × Int32} (h0 : q.1 ≤ b) (hf : ∀ a c, a < n → c < n → f a c ≤ b) : ∀ a, a ≤ n → (swO f n q a).1 ≤ b
  | 0, _ => h0
  | a + 1, h => swI_le (swO_le h0 hf a (by omega)) (fun t ht => hf a _ (by omega) ht) _ (by omega)
theorem sw_21 {R : Rw} {a b : Nat} : swR R a b 21 = R 21 := swR_big (by omega)
theorem sw_pg {S S1 S2 : PS} {R : Rw} {a b : Nat} (hv : Vd R) (hp : PgAt S 0 R) (p1 : PgAt S1 110 R) (ha : a < R 20) (hb : b < R 20) (hab : a < b) (he : ∀ q, q < 4 → S2.1 55 (110 + 5 * q + a) = S.1 55 (5 * q + b) ∧ S2.1 55 (110 + 5 * q + b) = S.1 55 (5 * q + a)) (hk : ∀ k, (∀ q, q < 4 → k ≠ 110 + 5 * q + a ∧ k ≠ 110 + 5 * q + b) → S2.1 55 k = S1.1 55 k) : PgAt S2 110 (swR R a b) := by
  have h5 := hv.1
  refine PgAt.mk ?_ ?_ (fun q u hq hu => ?_)
  · rw [swR_big (by omega), hk _ (fun q hq => by omega)]; exact p1.1
  · rw [swR_big (by omega), hk _ (fun q hq => by omega)]; exact p1.2.1
  · rw [swR_big (by omega)] at hu
    rw [swR_at (by omega) (by omega) hq (by omega)]
    by_cases h1 : u = a
    · rw [if_pos h1, h1, (he q hq).1]
      have := hp.gt hq hb
      rw [Nat.zero_add] at this
      exact this
    · rw [if_neg h1]
      by_cases h2 : u = b
      · rw [if_pos h2, h2, (he q hq).2]
        have := hp.gt hq ha
        rw [Nat.zero_add] at this
        exact this
      · rw [if_neg h2, hk _ (fun q2 hq2 => by omega)]
        exact p1.gt hq hu
theorem lp_swapI0 {sc : PSc} {m : Nat} {R : Rw} {S0 : PS} {Q : PQ} (hv : Vd R) (hc : R 21 ≤ 999999) (hr0 : RowAt S0 1 R) (hm : m ≤ 200) (hbd : ∀ a, a ≤ R 20 → (swO (fun a b => err (pn (swR R a b) m)) (R 20) (err (pn R m), -4) a).1 ≤ 248831) {a : Nat} (ha : a < R 20) (k : ∀ S' z, Fr 6 5 S0 S' → E sc mX5_swap 130 [.ref 0, .int (nI m), .int (nI 0), .int (nI (swO (fun a b => err (pn (swR R a b) m)) (R 20) (err (pn R m), -4) (a + 1)).1), .int (swO (fun a b => err (pn (swR R a b) m)) (R 20) (err (pn R m), -4) (a + 1)).2, .int (nI a), .int (nI (R 20)), z] [] S' Q) : ∀ (n : Nat) (t : Nat) (S : PS) (z : Value), a + 1 + t ≤ R 20 → R 20 - (a + 1 + t) < n → Fr 6 5 S0 S → E sc mX5_swap 64 [.ref 0, .int (nI m), .int (nI 0), .int (nI (swI (fun a b => err (pn (swR R a b) m)) a (swO (fun a b => err (pn (swR R a b) m)) (R 20) (err (pn R m), -4) a) t).1), .int (swI (fun a b => err (pn (swR R a b) m)) a (swO (fun a b => err (pn (swR R a b) m)) (R 20) (err (pn R m), -4) a) t).2, .int (nI a), .int (nI (a + 1 + t)), z] [] S Q := by
  intro n
  induction n with
  | zero => intro t S z hj hn hf; exact absurd hn (by omega)
  | succ n ih =>
    intro t S z hj hn hf
    have h5 := hv.1
    have hr := hr0.frI hf r6 r1 (by omega)
    have hb1 := swI_le (f := fun a b => err (pn (swR R a b) m)) (a := a) (n := R 20) (hbd a (by omega)) (fun t ht => err_le (pn_vd (sw_vd hv ha ht) m)) t (by omega)
    refine e_iload (pc := 64) dX5_swap_64 rfl ?_
    refine e_aload_n (pc := 66) (i := 0) dX5_swap_66 rfl rfl ?_
    refine e_getR (pc := 67) dX5_swap_67 (fX5_10 rfl) sh_0 rfl ?_
    refine e_getI (pc := 70) dX5_swap_70 (fX5_103 rfl) sh_1 rfl ?_
    refine E.it (nI (R 20)) hr.1 ?_
    refine e_icmp_ge (pc := 73) (tgt := 130) dX5_swap_73 (by decide) (fun h73 => ?_) (fun h73 => ?_)
    · replace h73 := (nI_leI (by omega) (by omega)).mp h73
      obtain e : t = R 20 - (a + 1) := by omega
      have e2 : a + 1 + t = R 20 := by omega
      have hk := k S z hf
      rw [swO, ← e] at hk
      rw [e2]
      exact hk
    · replace h73 := mt (nI_leI (by omega) (by omega)).mpr h73
      have hw : a + 1 + t < R 20 := by omega
      have hvd := sw_vd hv ha hw
      have hb2 := err_le (pn_vd hvd m)
      have hih := fun S2 z2 => ih (t + 1) S2 z2 (by omega) (by omega)
      rw [swI] at hih
      refine e_aload_n (pc := 76) (i := 0) dX5_swap_76 rfl rfl ?_
      refine e_getR (pc := 77) dX5_swap_77 (fX5_16 rfl) sh_0 rfl ?_
      refine e_aload_n (pc := 80) (i := 0) dX5_swap_80 rfl rfl ?_
      refine e_getR (pc := 81) dX5_swap_81 (fX5_10 rfl) sh_0 rfl ?_
      refine e_callV1 (pc := 84) (M' := mX0_copyOf) dX5_swap_84 iX0_copyOf lkX5_90 (by decide) (rO_obj sh_6 rfl) (Nat.le_of_ble_eq_true rfl) (Nat.le_of_ble_eq_true rfl) ?_
      refine sp_copyOf r6 r1 (by omega) hv hr (fun S1 ht hc0 hf1 => ?_)
      refine e_aload_n (pc := 87) (i := 0) dX5_swap_87 rfl rfl ?_
      refine e_getR (pc := 88) dX5_swap_88 (fX5_16 rfl) sh_0 rfl ?_
      refine e_iload (pc := 91) dX5_swap_91 rfl ?_
      refine e_iload (pc := 93) dX5_swap_93 rfl ?_
      refine e_callV2 (pc := 95) (M' := mX0_exchange) dX5_swap_95 iX0_exchange lkX5_177 (by decide) (rO_obj sh_6 rfl) (Nat.le_of_ble_eq_true rfl) (Nat.le_of_ble_eq_true rfl) ?_
      refine sp_exchange r6 hv ht ha hw (fun S2 q1 q2 q3 => ?_)
      refine e_aload_n (pc := 98) (i := 0) dX5_swap_98 rfl rfl ?_
      refine e_iload_n (pc := 99) (i := 1) dX5_swap_99 rfl rfl ?_
      refine e_callV1 (pc := 100) (M' := mX5_trialErrorBehind) dX5_swap_100 iX5_trialErrorBehind lkX5_170 (by decide) (rO_obj sh_0 rfl) (Nat.le_of_ble_eq_true rfl) (Nat.le_of_ble_eq_true rfl) ?_
      refine sp_trialErr hvd q1 (by rw [sw_21]; exact hc) (by omega) (fun S3 q4 => ?_)
      refine e_istore (pc := 103) dX5_swap_103 (by decide) rfl ?_
      refine e_iload (pc := 105) dX5_swap_105 rfl ?_
      refine e_iload_n (pc := 107) (i := 3) dX5_swap_107 rfl rfl ?_
      refine e_icmp_ge (pc := 108) (tgt := 124) dX5_swap_108 (by decide) (fun h108 => ?_) (fun h108 => ?_)
      · replace h108 := (nI_leI (by omega) (by omega)).mp h108
        rw [if_neg (by omega)] at hih
        refine e_iinc' (pc := 124) (nI (a + 1 + t + 1)) dX5_swap_124 rfl (by decide) rfl (nI_1 _) ?_
        refine e_goto (pc := 127) (tgt := 64) dX5_swap_127 (by decide) ?_
        exact hih S3 _ (((hf.tr hf1).tr q3).tr q4)
      · replace h108 := mt (nI_leI (by omega) (by omega)).mpr h108
        rw [if_pos (by omega)] at hih
        refine e_iload (pc := 111) dX5_swap_111 rfl ?_
        refine e_istore_n (pc := 113) (i := 3) dX5_swap_113 rfl (by decide) rfl ?_
        refine e_bipush' (pc := 114) (nI 10) dX5_swap_114 (by decide) ?_
        refine e_iload (pc := 116) dX5_swap_116 rfl ?_
        refine e_imul (pc := 118) dX5_swap_118 ?_
        refine E.it (nI (10 * a)) (pk_mul _ _) ?_
        refine e_iload (pc := 119) dX5_swap_119 rfl ?_
        refine e_iadd (pc := 121) dX5_swap_121 ?_
        refine E.it (nI (10 * a + (a + 1 + t))) (nI_add _ _) ?_
        refine e_istore (pc := 122) dX5_swap_122 (by decide) rfl ?_
        refine e_iinc' (pc := 124) (nI (a + 1 + t + 1)) dX5_swap_124 rfl (by decide) rfl (nI_1 _) ?_
        refine e_goto (pc := 127) (tgt := 64) dX5_swap_127 (by decide) ?_
        exact hih S3 _ (((hf.tr hf1).tr q3).tr q4)
theorem lp_swap0 {sc : PSc} {m : Nat} {R : Rw} {S0 : PS} {Q : PQ} (hv : Vd R) (hc : R 21 ≤ 999999) (hr0 : RowAt S0 1 R) (hm : m ≤ 200) (hbd : ∀ a, a ≤ R 20 → (swO (fun a b => err (pn (swR R a b) m)) (R 20) (err (pn R m), -4) a).1 ≤ 248831) (k : ∀ S', Fr 6 5 S0 S' → Q (some (.int ((swO (fun a b => err (pn (swR R a b) m)) (R 20) (err (pn R m), -4) (R 20)).2))) S') : ∀ (n : Nat) (a : Nat) (S : PS) (y z : Value), a ≤ R 20 → R 20 - a < n → Fr 6 5 S0 S → E sc mX5_swap 46 [.ref 0, .int (nI m), .int (nI 0), .int (nI (swO (fun a b => err (pn (swR R a b) m)) (R 20) (err (pn R m), -4) a).1), .int (swO (fun a b => err (pn (swR R a b) m)) (R 20) (err (pn R m), -4) a).2, .int (nI a), y, z] [] S Q := by
  intro n
  induction n with
  | zero => intro a S y z hj hn hf; exact absurd hn (by omega)
  | succ n ih =>
    intro a S y z hj hn hf
    have h5 := hv.1
    have hr := hr0.frI hf r6 r1 (by omega)
    refine e_iload (pc := 46) dX5_swap_46 rfl ?_
    refine e_aload_n (pc := 48) (i := 0) dX5_swap_48 rfl rfl ?_
    refine e_getR (pc := 49) dX5_swap_49 (fX5_10 rfl) sh_0 rfl ?_
    refine e_getI (pc := 52) dX5_swap_52 (fX5_103 rfl) sh_1 rfl ?_
    refine E.it (nI (R 20)) hr.1 ?_
    refine e_icmp_ge (pc := 55) (tgt := 136) dX5_swap_55 (by decide) (fun h55 => ?_) (fun h55 => ?_)
    · replace h55 := (nI_leI (by omega) (by omega)).mp h55
      obtain e : a = R 20 := by omega
      rw [e]
      refine e_iload (pc := 136) dX5_swap_136 rfl ?_
      refine e_bipush' (pc := 138) (-4) dX5_swap_138 (by decide) ?_
      refine e_icmp_eq (pc := 140) (tgt := 147) dX5_swap_140 (by decide) (fun h140 => ?_) (fun h140 => ?_)
      · refine e_iload (pc := 147) dX5_swap_147 rfl ?_
        refine e_goto (pc := 149) (tgt := 153) dX5_swap_149 (by decide) ?_
        refine e_iret (pc := 153) (st := []) (ty := .int) dX5_swap_153 rfl rfl ?_
        exact k S hf
      · refine e_iload_n (pc := 143) (i := 2) dX5_swap_143 rfl rfl ?_
        refine e_if_ne (pc := 144) (tgt := 152) dX5_swap_144 (by decide) (fun h144 => absurd (by decide) h144) (fun h144 => ?_)
        refine e_iload (pc := 147) dX5_swap_147 rfl ?_
        refine e_goto (pc := 149) (tgt := 153) dX5_swap_149 (by decide) ?_
        refine e_iret (pc := 153) (st := []) (ty := .int) dX5_swap_153 rfl rfl ?_
        exact k S hf
    · replace h55 := mt (nI_leI (by omega) (by omega)).mpr h55
      have ha : a < R 20 := by omega
      refine e_iload (pc := 58) dX5_swap_58 rfl ?_
      refine e_iconst' (pc := 60) (nI 1) dX5_swap_60 (by decide) ?_
      refine e_iadd (pc := 61) dX5_swap_61 ?_
      refine E.it (nI (a + 1)) (nI_add _ _) ?_
      refine e_istore (pc := 62) dX5_swap_62 (by decide) rfl ?_
      refine lp_swapI0 hv hc hr0 hm hbd ha (fun S2 z2 h2 => ?_) (R 20 + 1) 0 S _ (by omega) (by omega) hf
      refine e_iinc' (pc := 130) (nI (a + 1)) dX5_swap_130 rfl (by decide) rfl (nI_1 _) ?_
      refine e_goto (pc := 133) (tgt := 46) dX5_swap_133 (by decide) ?_
      exact ih (a + 1) S2 _ _ (by omega) (by omega) h2
theorem lm_swapC {sc : PSc} {a b : Nat} {R : Rw} {S1 : PS} {Q : PQ} {v1 v2 v3 v4 : Int32} (hv : Vd R) (ha : a < R 20) (hb : b < R 20) (hab : a < b) (k : ∀ S', PgAt S' 110 (swR R a b) → FrQ 110 S1 S' → E sc mX6_swap 137 [.ref 54, .int v1, .int v2, .int v3, .int v4, .int (nI a), .int (nI b), .int (nI 20)] [] S' Q) (hp : PgAt S1 0 R) (p1 : PgAt S1 110 R) : ∀ (n j : Nat) (S : PS), j ≤ 4 → 4 - j < n → FrQ 110 S1 S → (∀ q, q < j → S.1 55 (110 + 5 * q + a) = S1.1 55 (5 * q + b) ∧ S.1 55 (110 + 5 * q + b) = S1.1 55 (5 * q + a)) → (∀ x, (∀ q, q < j → x ≠ 110 + 5 * q + a ∧ x ≠ 110 + 5 * q + b) → S.1 55 x = S1.1 55 x) → E sc mX6_swap 78 [.ref 54, .int v1, .int v2, .int v3, .int v4, .int (nI a), .int (nI b), .int (nI (5 * j))] [] S Q := by
  intro n
  induction n with
  | zero => intro j S hj hn; exact absurd hn (by omega)
  | succ n ih =>
    intro j S hj hn hf he hk
    have h5 := hv.1
    refine e_iload (pc := 78) dX6_swap_78 rfl ?_
    refine e_bipush' (pc := 80) (nI 20) dX6_swap_80 (by decide) ?_
    refine e_icmp_ge (pc := 82) (tgt := 137) dX6_swap_82 (by decide) (fun h82 => ?_) (fun h82 => ?_)
    · replace h82 := (nI_leI (by omega) (by omega)).mp h82
      obtain rfl : j = 4 := by omega
      exact k S (sw_pg hv hp p1 ha hb hab he hk) hf
    · replace h82 := mt (nI_leI (by omega) (by omega)).mpr h82
      have hj4 : j < 4 := by omega
      refine e_aload_n (pc := 85) (i := 0) dX6_swap_85 rfl rfl ?_
      refine e_getR (pc := 86) dX6_swap_86 (fX6_7 rfl) sh_54 rfl ?_
      refine e_bipush' (pc := 89) (nI 110) dX6_swap_89 (by decide) ?_
      refine e_iload (pc := 91) dX6_swap_91 rfl ?_
      refine e_iadd (pc := 93) dX6_swap_93 ?_
      refine E.it (nI (110 + 5 * j)) (nI_add _ _) ?_
      refine e_iload (pc := 94) dX6_swap_94 rfl ?_
      refine e_iadd (pc := 96) dX6_swap_96 ?_
      refine E.it (nI (110 + 5 * j + a)) (nI_add _ _) ?_
      refine e_aload_n (pc := 97) (i := 0) dX6_swap_97 rfl rfl ?_
      refine e_getR (pc := 98) dX6_swap_98 (fX6_7 rfl) sh_54 rfl ?_
      refine e_iload (pc := 101) dX6_swap_101 rfl ?_
      refine e_iload (pc := 103) dX6_swap_103 rfl ?_
      refine e_iadd (pc := 105) dX6_swap_105 ?_
      refine E.it (nI (5 * j + b)) (nI_add _ _) ?_
      refine e_iald (pc := 106) dX6_swap_106 sh_55 (vp_in_nI (by omega) (by omega)) ?_
      refine E.it (S1.1 55 (5 * j + b)) (by rw [nI_clamp (by omega)]; exact hk _ (fun q hq => by omega)) ?_
      refine e_iast (pc := 107) dX6_swap_107 sh_55 (vp_in_nI (by omega) (by omega)) ?_
      refine e_aload_n (pc := 108) (i := 0) dX6_swap_108 rfl rfl ?_
      refine e_getR (pc := 109) dX6_swap_109 (fX6_7 rfl) sh_54 rfl ?_
      refine e_bipush' (pc := 112) (nI 110) dX6_swap_112 (by decide) ?_
      refine e_iload (pc := 114) dX6_swap_114 rfl ?_
      refine e_iadd (pc := 116) dX6_swap_116 ?_
      refine E.it (nI (110 + 5 * j)) (nI_add _ _) ?_
      refine e_iload (pc := 117) dX6_swap_117 rfl ?_
      refine e_iadd (pc := 119) dX6_swap_119 ?_
      refine E.it (nI (110 + 5 * j + b)) (nI_add _ _) ?_
      refine e_aload_n (pc := 120) (i := 0) dX6_swap_120 rfl rfl ?_
      refine e_getR (pc := 121) dX6_swap_121 (fX6_7 rfl) sh_54 rfl ?_
      refine e_iload (pc := 124) dX6_swap_124 rfl ?_
      refine e_iload (pc := 126) dX6_swap_126 rfl ?_
      refine e_iadd (pc := 128) dX6_swap_128 ?_
      refine E.it (nI (5 * j + a)) (nI_add _ _) ?_
      refine e_iald (pc := 129) dX6_swap_129 sh_55 (vp_in_nI (by omega) (by omega)) ?_
      refine E.it (S1.1 55 (5 * j + a)) (by rw [nI_clamp (by omega), nI_clamp (by omega)]; show up2 S.1 55 (110 + 5 * j + a) (S1.1 55 (5 * j + b)) 55 (5 * j + a) = _; rw [up2_at]; exact (if_neg (by omega)).trans (hk _ (fun q hq => by omega))) ?_
      refine e_iast (pc := 130) dX6_swap_130 sh_55 (vp_in_nI (by omega) (by omega)) ?_
      refine e_iinc' (pc := 131) (nI (5 * (j + 1))) dX6_swap_131 rfl (by decide) rfl (nI_add _ _) ?_
      refine e_goto (pc := 134) (tgt := 78) dX6_swap_134 (by decide) ?_
      rw [nI_clamp (show 110 + 5 * j + a < 2 ^ 31 by omega), nI_clamp (show 110 + 5 * j + b < 2 ^ 31 by omega)]
      have ev : ∀ x, (up2 (up2 S.1 55 (110 + 5 * j + a) (S1.1 55 (5 * j + b))) 55 (110 + 5 * j + b) (S1.1 55 (5 * j + a))) 55 x = if x = 110 + 5 * j + b then S1.1 55 (5 * j + a) else if x = 110 + 5 * j + a then S1.1 55 (5 * j + b) else S.1 55 x := by intro x; rw [up2_at, up2_at]
      refine ih (j + 1) _ (by omega) (by omega) ((hf.up (by omega) (by omega)).up (by omega) (by omega)) (fun q hq => ?_) (fun x hx => ?_)
      · have e1 := ev (110 + 5 * q + a)
        have e2 := ev (110 + 5 * q + b)
        by_cases e : q = j
        · subst e
          rw [if_neg (by omega), if_pos rfl] at e1
          rw [if_pos rfl] at e2
          exact ⟨e1, e2⟩
        · rw [if_neg (by omega), if_neg (by omega)] at e1
          rw [if_neg (by omega), if_neg (by omega)] at e2
          exact ⟨e1.trans (he q (by omega)).1, e2.trans (he q (by omega)).2⟩
      · have e1 := ev x
        have := hx j (by omega)
        rw [if_neg (by omega), if_neg (by omega)] at e1
        exact e1.trans (hk x (fun q hq => hx q (by omega)))
theorem lm_swapI0 {sc : PSc} {m : Nat} {R : Rw} {S0 : PS} {Q : PQ} (hv : Vd R) (hc : R 21 ≤ 999999) (hp0 : PgAt S0 0 R) (hm : m ≤ 200) (hbd : ∀ a, a ≤ R 20 → (swO (fun a b => err (pn (swR R a b) m)) (R 20) (err (pn R m), -4) a).1 ≤ 248831) {a : Nat} (ha : a < R 20) (k : ∀ S' z, Same S0 S' → E sc mX6_swap 186 [.ref 54, .int (nI m), .int (nI 0), .int (nI (swO (fun a b => err (pn (swR R a b) m)) (R 20) (err (pn R m), -4) (a + 1)).1), .int (swO (fun a b => err (pn (swR R a b) m)) (R 20) (err (pn R m), -4) (a + 1)).2, .int (nI a), .int (nI (R 20)), z] [] S' Q) : ∀ (n : Nat) (t : Nat) (S : PS) (z : Value), a + 1 + t ≤ R 20 → R 20 - (a + 1 + t) < n → Same S0 S → E sc mX6_swap 56 [.ref 54, .int (nI m), .int (nI 0), .int (nI (swI (fun a b => err (pn (swR R a b) m)) a (swO (fun a b => err (pn (swR R a b) m)) (R 20) (err (pn R m), -4) a) t).1), .int (swI (fun a b => err (pn (swR R a b) m)) a (swO (fun a b => err (pn (swR R a b) m)) (R 20) (err (pn R m), -4) a) t).2, .int (nI a), .int (nI (a + 1 + t)), z] [] S Q := by
  intro n
  induction n with
  | zero => intro t S z hj hn hf; exact absurd hn (by omega)
  | succ n ih =>
    intro t S z hj hn hf
    have h5 := hv.1
    have hp := hf.pg (by omega) hv hp0
    have hb1 := swI_le (f := fun a b => err (pn (swR R a b) m)) (a := a) (n := R 20) (hbd a (by omega)) (fun t ht => err_le (pn_vd (sw_vd hv ha ht) m)) t (by omega)
    refine e_iload (pc := 56) dX6_swap_56 rfl ?_
    refine e_aload_n (pc := 58) (i := 0) dX6_swap_58 rfl rfl ?_
    refine e_getR (pc := 59) dX6_swap_59 (fX6_7 rfl) sh_54 rfl ?_
    refine e_bipush' (pc := 62) (nI 20) dX6_swap_62 (by decide) ?_
    refine e_iald (pc := 64) dX6_swap_64 sh_55 (vp_in_nI (by omega) (by omega)) ?_
    refine E.it (nI (R (20))) (pgn (p := 0) (by omega) hp) ?_
    refine e_icmp_ge (pc := 65) (tgt := 186) dX6_swap_65 (by decide) (fun h65 => ?_) (fun h65 => ?_)
    · replace h65 := (nI_leI (by omega) (by omega)).mp h65
      obtain e : t = R 20 - (a + 1) := by omega
      have e2 : a + 1 + t = R 20 := by omega
      have hk := k S z hf
      rw [swO, ← e] at hk
      rw [e2]
      exact hk
    · replace h65 := mt (nI_leI (by omega) (by omega)).mpr h65
      have hw : a + 1 + t < R 20 := by omega
      have hvd := sw_vd hv ha hw
      have hb2 := err_le (pn_vd hvd m)
      have hih := fun S2 z2 => ih (t + 1) S2 z2 (by omega) (by omega)
      rw [swI] at hih
      refine e_aload_n (pc := 68) (i := 0) dX6_swap_68 rfl rfl ?_
      refine e_iconst' (pc := 69) (nI 0) dX6_swap_69 (by decide) ?_
      refine e_bipush' (pc := 70) (nI 110) dX6_swap_70 (by decide) ?_
      refine e_callV2 (pc := 72) (M' := mX6_copies) dX6_swap_72 iX6_copies lkX6_167 (by decide) (rO_obj sh_54 rfl) (Nat.le_of_ble_eq_true rfl) (Nat.le_of_ble_eq_true rfl) ?_
      refine sp_copyPg (b := 110) (by omega) (by omega) (by omega) hv hp (fun S1 p1 f1 => ?_)
      refine e_iconst' (pc := 75) (nI 0) dX6_swap_75 (by decide) ?_
      refine e_istore (pc := 76) dX6_swap_76 (by decide) rfl ?_
      have hp1 := (f1.same (by omega)).pg (by omega) hv hp
      refine lm_swapC (S1 := S1) hv ha hw (by omega) (fun S2 p2 f2 => ?_) hp1 p1 5 0 S1 (by omega) (by omega) ⟨rfl, fun _ _ => rfl, fun _ _ => rfl⟩ (fun q hq => by omega) (fun x _ => rfl)
      refine e_aload_n (pc := 137) (i := 0) dX6_swap_137 rfl rfl ?_
      refine e_bipush' (pc := 138) (nI 110) dX6_swap_138 (by decide) ?_
      refine e_iload_n (pc := 140) (i := 1) dX6_swap_140 rfl rfl ?_
      refine e_callV2 (pc := 141) (M' := mX6_errorBehind) dX6_swap_141 iX6_errorBehind lkX6_187 (by decide) (rO_obj sh_54 rfl) (Nat.le_of_ble_eq_true rfl) (Nat.le_of_ble_eq_true rfl) ?_
      refine sp_errorBehind (p := 110) (by omega) (by omega) hvd p2 (by omega) (by rw [sw_21]; exact hc) (fun S3 q4 => ?_)
      refine e_istore (pc := 144) dX6_swap_144 (by decide) rfl ?_
      refine e_iload (pc := 146) dX6_swap_146 rfl ?_
      refine e_iload_n (pc := 148) (i := 3) dX6_swap_148 rfl rfl ?_
      refine e_icmp_ge (pc := 149) (tgt := 163) dX6_swap_149 (by decide) (fun h149 => ?_) (fun h149 => ?_)
      · replace h149 := (nI_leI (by omega) (by omega)).mp h149
        rw [if_neg (by omega)] at hih
        refine e_iload (pc := 163) dX6_swap_163 rfl ?_
        refine e_istore (pc := 165) dX6_swap_165 (by decide) rfl ?_
        refine e_iload (pc := 167) dX6_swap_167 rfl ?_
        refine e_iload_n (pc := 169) (i := 3) dX6_swap_169 rfl rfl ?_
        refine e_icmp_ge (pc := 170) (tgt := 178) dX6_swap_170 (by decide) (fun h170 => ?_) (fun h170 => absurd (nI_le h149 (by omega)) h170)
        refine e_iload_n (pc := 178) (i := 3) dX6_swap_178 rfl rfl ?_
        refine e_istore_n (pc := 179) (i := 3) dX6_swap_179 rfl (by decide) rfl ?_
        refine e_iinc' (pc := 180) (nI (a + 1 + t + 1)) dX6_swap_180 rfl (by decide) rfl (nI_1 _) ?_
        refine e_goto (pc := 183) (tgt := 56) dX6_swap_183 (by decide) ?_
        exact hih S3 _ (((hf.tr (f1.same (by omega))).tr (f2.same (by omega))).tr q4.same)
      · replace h149 := mt (nI_leI (by omega) (by omega)).mpr h149
        rw [if_pos (by omega)] at hih
        refine e_bipush' (pc := 152) (nI 10) dX6_swap_152 (by decide) ?_
        refine e_iload (pc := 154) dX6_swap_154 rfl ?_
        refine e_imul (pc := 156) dX6_swap_156 ?_
        refine E.it (nI (10 * a)) (pk_mul _ _) ?_
        refine e_iload (pc := 157) dX6_swap_157 rfl ?_
        refine e_iadd (pc := 159) dX6_swap_159 ?_
        refine E.it (nI (10 * a + (a + 1 + t))) (nI_add _ _) ?_
        refine e_goto (pc := 160) (tgt := 165) dX6_swap_160 (by decide) ?_
        refine e_istore (pc := 165) dX6_swap_165 (by decide) rfl ?_
        refine e_iload (pc := 167) dX6_swap_167 rfl ?_
        refine e_iload_n (pc := 169) (i := 3) dX6_swap_169 rfl rfl ?_
        refine e_icmp_ge (pc := 170) (tgt := 178) dX6_swap_170 (by decide) (fun h170 => absurd ((nI_leI (by omega) (by omega)).mp h170) h149) (fun h170 => ?_)
        refine e_iload (pc := 173) dX6_swap_173 rfl ?_
        refine e_goto (pc := 175) (tgt := 179) dX6_swap_175 (by decide) ?_
        refine e_istore_n (pc := 179) (i := 3) dX6_swap_179 rfl (by decide) rfl ?_
        refine e_iinc' (pc := 180) (nI (a + 1 + t + 1)) dX6_swap_180 rfl (by decide) rfl (nI_1 _) ?_
        refine e_goto (pc := 183) (tgt := 56) dX6_swap_183 (by decide) ?_
        exact hih S3 _ (((hf.tr (f1.same (by omega))).tr (f2.same (by omega))).tr q4.same)
theorem lm_swap0 {sc : PSc} {m : Nat} {R : Rw} {S0 : PS} {Q : PQ} (hv : Vd R) (hc : R 21 ≤ 999999) (hp0 : PgAt S0 0 R) (hm : m ≤ 200) (hbd : ∀ a, a ≤ R 20 → (swO (fun a b => err (pn (swR R a b) m)) (R 20) (err (pn R m), -4) a).1 ≤ 248831) (k : ∀ S', Same S0 S' → Q (some (.int ((swO (fun a b => err (pn (swR R a b) m)) (R 20) (err (pn R m), -4) (R 20)).2))) S') : ∀ (n : Nat) (a : Nat) (S : PS) (y z : Value), a ≤ R 20 → R 20 - a < n → Same S0 S → E sc mX6_swap 38 [.ref 54, .int (nI m), .int (nI 0), .int (nI (swO (fun a b => err (pn (swR R a b) m)) (R 20) (err (pn R m), -4) a).1), .int (swO (fun a b => err (pn (swR R a b) m)) (R 20) (err (pn R m), -4) a).2, .int (nI a), y, z] [] S Q := by
  intro n
  induction n with
  | zero => intro a S y z hj hn hf; exact absurd hn (by omega)
  | succ n ih =>
    intro a S y z hj hn hf
    have h5 := hv.1
    have hp := hf.pg (by omega) hv hp0
    refine e_iload (pc := 38) dX6_swap_38 rfl ?_
    refine e_aload_n (pc := 40) (i := 0) dX6_swap_40 rfl rfl ?_
    refine e_getR (pc := 41) dX6_swap_41 (fX6_7 rfl) sh_54 rfl ?_
    refine e_bipush' (pc := 44) (nI 20) dX6_swap_44 (by decide) ?_
    refine e_iald (pc := 46) dX6_swap_46 sh_55 (vp_in_nI (by omega) (by omega)) ?_
    refine E.it (nI (R (20))) (pgn (p := 0) (by omega) hp) ?_
    refine e_icmp_ge (pc := 47) (tgt := 192) dX6_swap_47 (by decide) (fun h47 => ?_) (fun h47 => ?_)
    · replace h47 := (nI_leI (by omega) (by omega)).mp h47
      obtain e : a = R 20 := by omega
      rw [e]
      refine e_iload (pc := 192) dX6_swap_192 rfl ?_
      refine e_bipush' (pc := 194) (-4) dX6_swap_194 (by decide) ?_
      refine e_icmp_eq (pc := 196) (tgt := 203) dX6_swap_196 (by decide) (fun h196 => ?_) (fun h196 => ?_)
      · refine e_iload (pc := 203) dX6_swap_203 rfl ?_
        refine e_goto (pc := 205) (tgt := 209) dX6_swap_205 (by decide) ?_
        refine e_iret (pc := 209) (st := []) (ty := .int) dX6_swap_209 rfl rfl ?_
        exact k S hf
      · refine e_iload_n (pc := 199) (i := 2) dX6_swap_199 rfl rfl ?_
        refine e_if_ne (pc := 200) (tgt := 208) dX6_swap_200 (by decide) (fun h200 => absurd (by decide) h200) (fun h200 => ?_)
        refine e_iload (pc := 203) dX6_swap_203 rfl ?_
        refine e_goto (pc := 205) (tgt := 209) dX6_swap_205 (by decide) ?_
        refine e_iret (pc := 209) (st := []) (ty := .int) dX6_swap_209 rfl rfl ?_
        exact k S hf
    · replace h47 := mt (nI_leI (by omega) (by omega)).mpr h47
      have ha : a < R 20 := by omega
      refine e_iload (pc := 50) dX6_swap_50 rfl ?_
      refine e_iconst' (pc := 52) (nI 1) dX6_swap_52 (by decide) ?_
      refine e_iadd (pc := 53) dX6_swap_53 ?_
      refine E.it (nI (a + 1)) (nI_add _ _) ?_
      refine e_istore (pc := 54) dX6_swap_54 (by decide) rfl ?_
      refine lm_swapI0 hv hc hp0 hm hbd ha (fun S2 z2 h2 => ?_) (R 20 + 1) 0 S _ (by omega) (by omega) hf
      refine e_iinc' (pc := 186) (nI (a + 1)) dX6_swap_186 rfl (by decide) rfl (nI_1 _) ?_
      refine e_goto (pc := 189) (tgt := 38) dX6_swap_189 (by decide) ?_
      exact ih (a + 1) S2 _ _ (by omega) (by omega) h2
theorem lp_swapI1 {sc : PSc} {m : Nat} {R : Rw} {S0 : PS} {Q : PQ} (hv : Vd R) (hc : R 21 ≤ 999999) (hr0 : RowAt S0 1 R) (hm : m ≤ 200) (hbd : ∀ a, a ≤ R 20 → (swO (fun a b => err (pn (swR R a b) m)) (R 20) (err (pn R m), -4) a).1 ≤ 248831) {a : Nat} (ha : a < R 20) (k : ∀ S' z, Fr 6 5 S0 S' → E sc mX5_swap 130 [.ref 0, .int (nI m), .int (nI 1), .int (nI (swO (fun a b => err (pn (swR R a b) m)) (R 20) (err (pn R m), -4) (a + 1)).1), .int (swO (fun a b => err (pn (swR R a b) m)) (R 20) (err (pn R m), -4) (a + 1)).2, .int (nI a), .int (nI (R 20)), z] [] S' Q) : ∀ (n : Nat) (t : Nat) (S : PS) (z : Value), a + 1 + t ≤ R 20 → R 20 - (a + 1 + t) < n → Fr 6 5 S0 S → E sc mX5_swap 64 [.ref 0, .int (nI m), .int (nI 1), .int (nI (swI (fun a b => err (pn (swR R a b) m)) a (swO (fun a b => err (pn (swR R a b) m)) (R 20) (err (pn R m), -4) a) t).1), .int (swI (fun a b => err (pn (swR R a b) m)) a (swO (fun a b => err (pn (swR R a b) m)) (R 20) (err (pn R m), -4) a) t).2, .int (nI a), .int (nI (a + 1 + t)), z] [] S Q := by
  intro n
  induction n with
  | zero => intro t S z hj hn hf; exact absurd hn (by omega)
  | succ n ih =>
    intro t S z hj hn hf
    have h5 := hv.1
    have hr := hr0.frI hf r6 r1 (by omega)
    have hb1 := swI_le (f := fun a b => err (pn (swR R a b) m)) (a := a) (n := R 20) (hbd a (by omega)) (fun t ht => err_le (pn_vd (sw_vd hv ha ht) m)) t (by omega)
    refine e_iload (pc := 64) dX5_swap_64 rfl ?_
    refine e_aload_n (pc := 66) (i := 0) dX5_swap_66 rfl rfl ?_
    refine e_getR (pc := 67) dX5_swap_67 (fX5_10 rfl) sh_0 rfl ?_
    refine e_getI (pc := 70) dX5_swap_70 (fX5_103 rfl) sh_1 rfl ?_
    refine E.it (nI (R 20)) hr.1 ?_
    refine e_icmp_ge (pc := 73) (tgt := 130) dX5_swap_73 (by decide) (fun h73 => ?_) (fun h73 => ?_)
    · replace h73 := (nI_leI (by omega) (by omega)).mp h73
      obtain e : t = R 20 - (a + 1) := by omega
      have e2 : a + 1 + t = R 20 := by omega
      have hk := k S z hf
      rw [swO, ← e] at hk
      rw [e2]
      exact hk
    · replace h73 := mt (nI_leI (by omega) (by omega)).mpr h73
      have hw : a + 1 + t < R 20 := by omega
      have hvd := sw_vd hv ha hw
      have hb2 := err_le (pn_vd hvd m)
      have hih := fun S2 z2 => ih (t + 1) S2 z2 (by omega) (by omega)
      rw [swI] at hih
      refine e_aload_n (pc := 76) (i := 0) dX5_swap_76 rfl rfl ?_
      refine e_getR (pc := 77) dX5_swap_77 (fX5_16 rfl) sh_0 rfl ?_
      refine e_aload_n (pc := 80) (i := 0) dX5_swap_80 rfl rfl ?_
      refine e_getR (pc := 81) dX5_swap_81 (fX5_10 rfl) sh_0 rfl ?_
      refine e_callV1 (pc := 84) (M' := mX0_copyOf) dX5_swap_84 iX0_copyOf lkX5_90 (by decide) (rO_obj sh_6 rfl) (Nat.le_of_ble_eq_true rfl) (Nat.le_of_ble_eq_true rfl) ?_
      refine sp_copyOf r6 r1 (by omega) hv hr (fun S1 ht hc0 hf1 => ?_)
      refine e_aload_n (pc := 87) (i := 0) dX5_swap_87 rfl rfl ?_
      refine e_getR (pc := 88) dX5_swap_88 (fX5_16 rfl) sh_0 rfl ?_
      refine e_iload (pc := 91) dX5_swap_91 rfl ?_
      refine e_iload (pc := 93) dX5_swap_93 rfl ?_
      refine e_callV2 (pc := 95) (M' := mX0_exchange) dX5_swap_95 iX0_exchange lkX5_177 (by decide) (rO_obj sh_6 rfl) (Nat.le_of_ble_eq_true rfl) (Nat.le_of_ble_eq_true rfl) ?_
      refine sp_exchange r6 hv ht ha hw (fun S2 q1 q2 q3 => ?_)
      refine e_aload_n (pc := 98) (i := 0) dX5_swap_98 rfl rfl ?_
      refine e_iload_n (pc := 99) (i := 1) dX5_swap_99 rfl rfl ?_
      refine e_callV1 (pc := 100) (M' := mX5_trialErrorBehind) dX5_swap_100 iX5_trialErrorBehind lkX5_170 (by decide) (rO_obj sh_0 rfl) (Nat.le_of_ble_eq_true rfl) (Nat.le_of_ble_eq_true rfl) ?_
      refine sp_trialErr hvd q1 (by rw [sw_21]; exact hc) (by omega) (fun S3 q4 => ?_)
      refine e_istore (pc := 103) dX5_swap_103 (by decide) rfl ?_
      refine e_iload (pc := 105) dX5_swap_105 rfl ?_
      refine e_iload_n (pc := 107) (i := 3) dX5_swap_107 rfl rfl ?_
      refine e_icmp_ge (pc := 108) (tgt := 124) dX5_swap_108 (by decide) (fun h108 => ?_) (fun h108 => ?_)
      · replace h108 := (nI_leI (by omega) (by omega)).mp h108
        rw [if_neg (by omega)] at hih
        refine e_iinc' (pc := 124) (nI (a + 1 + t + 1)) dX5_swap_124 rfl (by decide) rfl (nI_1 _) ?_
        refine e_goto (pc := 127) (tgt := 64) dX5_swap_127 (by decide) ?_
        exact hih S3 _ (((hf.tr hf1).tr q3).tr q4)
      · replace h108 := mt (nI_leI (by omega) (by omega)).mpr h108
        rw [if_pos (by omega)] at hih
        refine e_iload (pc := 111) dX5_swap_111 rfl ?_
        refine e_istore_n (pc := 113) (i := 3) dX5_swap_113 rfl (by decide) rfl ?_
        refine e_bipush' (pc := 114) (nI 10) dX5_swap_114 (by decide) ?_
        refine e_iload (pc := 116) dX5_swap_116 rfl ?_
        refine e_imul (pc := 118) dX5_swap_118 ?_
        refine E.it (nI (10 * a)) (pk_mul _ _) ?_
        refine e_iload (pc := 119) dX5_swap_119 rfl ?_
        refine e_iadd (pc := 121) dX5_swap_121 ?_
        refine E.it (nI (10 * a + (a + 1 + t))) (nI_add _ _) ?_
        refine e_istore (pc := 122) dX5_swap_122 (by decide) rfl ?_
        refine e_iinc' (pc := 124) (nI (a + 1 + t + 1)) dX5_swap_124 rfl (by decide) rfl (nI_1 _) ?_
        refine e_goto (pc := 127) (tgt := 64) dX5_swap_127 (by decide) ?_
        exact hih S3 _ (((hf.tr hf1).tr q3).tr q4)
theorem lp_swap1 {sc : PSc} {m : Nat} {R : Rw} {S0 : PS} {Q : PQ} (hv : Vd R) (hc : R 21 ≤ 999999) (hr0 : RowAt S0 1 R) (hm : m ≤ 200) (hbd : ∀ a, a ≤ R 20 → (swO (fun a b => err (pn (swR R a b) m)) (R 20) (err (pn R m), -4) a).1 ≤ 248831) (k : ∀ S', Fr 6 5 S0 S' → Q (some (.int (if (swO (fun a b => err (pn (swR R a b) m)) (R 20) (err (pn R m), -4) (R 20)).2 = -4 then -4 else nI (swO (fun a b => err (pn (swR R a b) m)) (R 20) (err (pn R m), -4) (R 20)).1))) S') : ∀ (n : Nat) (a : Nat) (S : PS) (y z : Value), a ≤ R 20 → R 20 - a < n → Fr 6 5 S0 S → E sc mX5_swap 46 [.ref 0, .int (nI m), .int (nI 1), .int (nI (swO (fun a b => err (pn (swR R a b) m)) (R 20) (err (pn R m), -4) a).1), .int (swO (fun a b => err (pn (swR R a b) m)) (R 20) (err (pn R m), -4) a).2, .int (nI a), y, z] [] S Q := by
  intro n
  induction n with
  | zero => intro a S y z hj hn hf; exact absurd hn (by omega)
  | succ n ih =>
    intro a S y z hj hn hf
    have h5 := hv.1
    have hr := hr0.frI hf r6 r1 (by omega)
    refine e_iload (pc := 46) dX5_swap_46 rfl ?_
    refine e_aload_n (pc := 48) (i := 0) dX5_swap_48 rfl rfl ?_
    refine e_getR (pc := 49) dX5_swap_49 (fX5_10 rfl) sh_0 rfl ?_
    refine e_getI (pc := 52) dX5_swap_52 (fX5_103 rfl) sh_1 rfl ?_
    refine E.it (nI (R 20)) hr.1 ?_
    refine e_icmp_ge (pc := 55) (tgt := 136) dX5_swap_55 (by decide) (fun h55 => ?_) (fun h55 => ?_)
    · replace h55 := (nI_leI (by omega) (by omega)).mp h55
      obtain e : a = R 20 := by omega
      rw [e]
      refine e_iload (pc := 136) dX5_swap_136 rfl ?_
      refine e_bipush' (pc := 138) (-4) dX5_swap_138 (by decide) ?_
      refine e_icmp_eq (pc := 140) (tgt := 147) dX5_swap_140 (by decide) (fun h140 => ?_) (fun h140 => ?_)
      · refine e_iload (pc := 147) dX5_swap_147 rfl ?_
        refine e_goto (pc := 149) (tgt := 153) dX5_swap_149 (by decide) ?_
        refine e_iret (pc := 153) (st := []) (ty := .int) dX5_swap_153 rfl rfl ?_
        first
          | exact qeq (k S hf) (by rw [if_pos h140, h140])
          | exact qeq (k S hf) (by rw [if_neg h140])
      · refine e_iload_n (pc := 143) (i := 2) dX5_swap_143 rfl rfl ?_
        refine e_if_ne (pc := 144) (tgt := 152) dX5_swap_144 (by decide) (fun h144 => ?_) (fun h144 => absurd h144 (by decide))
        refine e_iload_n (pc := 152) (i := 3) dX5_swap_152 rfl rfl ?_
        refine e_iret (pc := 153) (st := []) (ty := .int) dX5_swap_153 rfl rfl ?_
        first
          | exact qeq (k S hf) (by rw [if_pos h140, h140])
          | exact qeq (k S hf) (by rw [if_neg h140])
    · replace h55 := mt (nI_leI (by omega) (by omega)).mpr h55
      have ha : a < R 20 := by omega
      refine e_iload (pc := 58) dX5_swap_58 rfl ?_
      refine e_iconst' (pc := 60) (nI 1) dX5_swap_60 (by decide) ?_
      refine e_iadd (pc := 61) dX5_swap_61 ?_
      refine E.it (nI (a + 1)) (nI_add _ _) ?_
      refine e_istore (pc := 62) dX5_swap_62 (by decide) rfl ?_
      refine lp_swapI1 hv hc hr0 hm hbd ha (fun S2 z2 h2 => ?_) (R 20 + 1) 0 S _ (by omega) (by omega) hf
      refine e_iinc' (pc := 130) (nI (a + 1)) dX5_swap_130 rfl (by decide) rfl (nI_1 _) ?_
      refine e_goto (pc := 133) (tgt := 46) dX5_swap_133 (by decide) ?_
      exact ih (a + 1) S2 _ _ (by omega) (by omega) h2
theorem lm_swapI1 {sc : PSc} {m : Nat} {R : Rw} {S0 : PS} {Q : PQ} (hv : Vd R) (hc : R 21 ≤ 999999) (hp0 : PgAt S0 0 R) (hm : m ≤ 200) (hbd : ∀ a, a ≤ R 20 → (swO (fun a b => err (pn (swR R a b) m)) (R 20) (err (pn R m), -4) a).1 ≤ 248831) {a : Nat} (ha : a < R 20) (k : ∀ S' z, Same S0 S' → E sc mX6_swap 186 [.ref 54, .int (nI m), .int (nI 1), .int (nI (swO (fun a b => err (pn (swR R a b) m)) (R 20) (err (pn R m), -4) (a + 1)).1), .int (swO (fun a b => err (pn (swR R a b) m)) (R 20) (err (pn R m), -4) (a + 1)).2, .int (nI a), .int (nI (R 20)), z] [] S' Q) : ∀ (n : Nat) (t : Nat) (S : PS) (z : Value), a + 1 + t ≤ R 20 → R 20 - (a + 1 + t) < n → Same S0 S → E sc mX6_swap 56 [.ref 54, .int (nI m), .int (nI 1), .int (nI (swI (fun a b => err (pn (swR R a b) m)) a (swO (fun a b => err (pn (swR R a b) m)) (R 20) (err (pn R m), -4) a) t).1), .int (swI (fun a b => err (pn (swR R a b) m)) a (swO (fun a b => err (pn (swR R a b) m)) (R 20) (err (pn R m), -4) a) t).2, .int (nI a), .int (nI (a + 1 + t)), z] [] S Q := by
  intro n
  induction n with
  | zero => intro t S z hj hn hf; exact absurd hn (by omega)
  | succ n ih =>
    intro t S z hj hn hf
    have h5 := hv.1
    have hp := hf.pg (by omega) hv hp0
    have hb1 := swI_le (f := fun a b => err (pn (swR R a b) m)) (a := a) (n := R 20) (hbd a (by omega)) (fun t ht => err_le (pn_vd (sw_vd hv ha ht) m)) t (by omega)
    refine e_iload (pc := 56) dX6_swap_56 rfl ?_
    refine e_aload_n (pc := 58) (i := 0) dX6_swap_58 rfl rfl ?_
    refine e_getR (pc := 59) dX6_swap_59 (fX6_7 rfl) sh_54 rfl ?_
    refine e_bipush' (pc := 62) (nI 20) dX6_swap_62 (by decide) ?_
    refine e_iald (pc := 64) dX6_swap_64 sh_55 (vp_in_nI (by omega) (by omega)) ?_
    refine E.it (nI (R (20))) (pgn (p := 0) (by omega) hp) ?_
    refine e_icmp_ge (pc := 65) (tgt := 186) dX6_swap_65 (by decide) (fun h65 => ?_) (fun h65 => ?_)
    · replace h65 := (nI_leI (by omega) (by omega)).mp h65
      obtain e : t = R 20 - (a + 1) := by omega
      have e2 : a + 1 + t = R 20 := by omega
      have hk := k S z hf
      rw [swO, ← e] at hk
      rw [e2]
      exact hk
    · replace h65 := mt (nI_leI (by omega) (by omega)).mpr h65
      have hw : a + 1 + t < R 20 := by omega
      have hvd := sw_vd hv ha hw
      have hb2 := err_le (pn_vd hvd m)
      have hih := fun S2 z2 => ih (t + 1) S2 z2 (by omega) (by omega)
      rw [swI] at hih
      refine e_aload_n (pc := 68) (i := 0) dX6_swap_68 rfl rfl ?_
      refine e_iconst' (pc := 69) (nI 0) dX6_swap_69 (by decide) ?_
      refine e_bipush' (pc := 70) (nI 110) dX6_swap_70 (by decide) ?_
      refine e_callV2 (pc := 72) (M' := mX6_copies) dX6_swap_72 iX6_copies lkX6_167 (by decide) (rO_obj sh_54 rfl) (Nat.le_of_ble_eq_true rfl) (Nat.le_of_ble_eq_true rfl) ?_
      refine sp_copyPg (b := 110) (by omega) (by omega) (by omega) hv hp (fun S1 p1 f1 => ?_)
      refine e_iconst' (pc := 75) (nI 0) dX6_swap_75 (by decide) ?_
      refine e_istore (pc := 76) dX6_swap_76 (by decide) rfl ?_
      have hp1 := (f1.same (by omega)).pg (by omega) hv hp
      refine lm_swapC (S1 := S1) hv ha hw (by omega) (fun S2 p2 f2 => ?_) hp1 p1 5 0 S1 (by omega) (by omega) ⟨rfl, fun _ _ => rfl, fun _ _ => rfl⟩ (fun q hq => by omega) (fun x _ => rfl)
      refine e_aload_n (pc := 137) (i := 0) dX6_swap_137 rfl rfl ?_
      refine e_bipush' (pc := 138) (nI 110) dX6_swap_138 (by decide) ?_
      refine e_iload_n (pc := 140) (i := 1) dX6_swap_140 rfl rfl ?_
      refine e_callV2 (pc := 141) (M' := mX6_errorBehind) dX6_swap_141 iX6_errorBehind lkX6_187 (by decide) (rO_obj sh_54 rfl) (Nat.le_of_ble_eq_true rfl) (Nat.le_of_ble_eq_true rfl) ?_
      refine sp_errorBehind (p := 110) (by omega) (by omega) hvd p2 (by omega) (by rw [sw_21]; exact hc) (fun S3 q4 => ?_)
      refine e_istore (pc := 144) dX6_swap_144 (by decide) rfl ?_
      refine e_iload (pc := 146) dX6_swap_146 rfl ?_
      refine e_iload_n (pc := 148) (i := 3) dX6_swap_148 rfl rfl ?_
      refine e_icmp_ge (pc := 149) (tgt := 163) dX6_swap_149 (by decide) (fun h149 => ?_) (fun h149 => ?_)
      · replace h149 := (nI_leI (by omega) (by omega)).mp h149
        rw [if_neg (by omega)] at hih
        refine e_iload (pc := 163) dX6_swap_163 rfl ?_
        refine e_istore (pc := 165) dX6_swap_165 (by decide) rfl ?_
        refine e_iload (pc := 167) dX6_swap_167 rfl ?_
        refine e_iload_n (pc := 169) (i := 3) dX6_swap_169 rfl rfl ?_
        refine e_icmp_ge (pc := 170) (tgt := 178) dX6_swap_170 (by decide) (fun h170 => ?_) (fun h170 => absurd (nI_le h149 (by omega)) h170)
        refine e_iload_n (pc := 178) (i := 3) dX6_swap_178 rfl rfl ?_
        refine e_istore_n (pc := 179) (i := 3) dX6_swap_179 rfl (by decide) rfl ?_
        refine e_iinc' (pc := 180) (nI (a + 1 + t + 1)) dX6_swap_180 rfl (by decide) rfl (nI_1 _) ?_
        refine e_goto (pc := 183) (tgt := 56) dX6_swap_183 (by decide) ?_
        exact hih S3 _ (((hf.tr (f1.same (by omega))).tr (f2.same (by omega))).tr q4.same)
      · replace h149 := mt (nI_leI (by omega) (by omega)).mpr h149
        rw [if_pos (by omega)] at hih
        refine e_bipush' (pc := 152) (nI 10) dX6_swap_152 (by decide) ?_
        refine e_iload (pc := 154) dX6_swap_154 rfl ?_
        refine e_imul (pc := 156) dX6_swap_156 ?_
        refine E.it (nI (10 * a)) (pk_mul _ _) ?_
        refine e_iload (pc := 157) dX6_swap_157 rfl ?_
        refine e_iadd (pc := 159) dX6_swap_159 ?_
        refine E.it (nI (10 * a + (a + 1 + t))) (nI_add _ _) ?_
        refine e_goto (pc := 160) (tgt := 165) dX6_swap_160 (by decide) ?_
        refine e_istore (pc := 165) dX6_swap_165 (by decide) rfl ?_
        refine e_iload (pc := 167) dX6_swap_167 rfl ?_
        refine e_iload_n (pc := 169) (i := 3) dX6_swap_169 rfl rfl ?_
        refine e_icmp_ge (pc := 170) (tgt := 178) dX6_swap_170 (by decide) (fun h170 => absurd ((nI_leI (by omega) (by omega)).mp h170) h149) (fun h170 => ?_)
        refine e_iload (pc := 173) dX6_swap_173 rfl ?_
        refine e_goto (pc := 175) (tgt := 179) dX6_swap_175 (by decide) ?_
        refine e_istore_n (pc := 179) (i := 3) dX6_swap_179 rfl (by decide) rfl ?_
        refine e_iinc' (pc := 180) (nI (a + 1 + t + 1)) dX6_swap_180 rfl (by decide) rfl (nI_1 _) ?_
        refine e_goto (pc := 183) (tgt := 56) dX6_swap_183 (by decide) ?_
        exact hih S3 _ (((hf.tr (f1.same (by omega))).tr (f2.same (by omega))).tr q4.same)
theorem lm_swap1 {sc : PSc} {m : Nat} {R : Rw} {S0 : PS} {Q : PQ} (hv : Vd R) (hc : R 21 ≤ 999999) (hp0 : PgAt S0 0 R) (hm : m ≤ 200) (hbd : ∀ a, a ≤ R 20 → (swO (fun a b => err (pn (swR R a b) m)) (R 20) (err (pn R m), -4) a).1 ≤ 248831) (k : ∀ S', Same S0 S' → Q (some (.int (if (swO (fun a b => err (pn (swR R a b) m)) (R 20) (err (pn R m), -4) (R 20)).2 = -4 then -4 else nI (swO (fun a b => err (pn (swR R a b) m)) (R 20) (err (pn R m), -4) (R 20)).1))) S') : ∀ (n : Nat) (a : Nat) (S : PS) (y z : Value), a ≤ R 20 → R 20 - a < n → Same S0 S → E sc mX6_swap 38 [.ref 54, .int (nI m), .int (nI 1), .int (nI (swO (fun a b => err (pn (swR R a b) m)) (R 20) (err (pn R m), -4) a).1), .int (swO (fun a b => err (pn (swR R a b) m)) (R 20) (err (pn R m), -4) a).2, .int (nI a), y, z] [] S Q := by
  intro n
  induction n with
  | zero => intro a S y z hj hn hf; exact absurd hn (by omega)
  | succ n ih =>
    intro a S y z hj hn hf
    have h5 := hv.1
    have hp := hf.pg (by omega) hv hp0
    refine e_iload (pc := 38) dX6_swap_38 rfl ?_
    refine e_aload_n (pc := 40) (i := 0) dX6_swap_40 rfl rfl ?_
    refine e_getR (pc := 41) dX6_swap_41 (fX6_7 rfl) sh_54 rfl ?_
    refine e_bipush' (pc := 44) (nI 20) dX6_swap_44 (by decide) ?_
    refine e_iald (pc := 46) dX6_swap_46 sh_55 (vp_in_nI (by omega) (by omega)) ?_
    refine E.it (nI (R (20))) (pgn (p := 0) (by omega) hp) ?_
    refine e_icmp_ge (pc := 47) (tgt := 192) dX6_swap_47 (by decide) (fun h47 => ?_) (fun h47 => ?_)
    · replace h47 := (nI_leI (by omega) (by omega)).mp h47
      obtain e : a = R 20 := by omega
      rw [e]
      refine e_iload (pc := 192) dX6_swap_192 rfl ?_
      refine e_bipush' (pc := 194) (-4) dX6_swap_194 (by decide) ?_
      refine e_icmp_eq (pc := 196) (tgt := 203) dX6_swap_196 (by decide) (fun h196 => ?_) (fun h196 => ?_)
      · refine e_iload (pc := 203) dX6_swap_203 rfl ?_
        refine e_goto (pc := 205) (tgt := 209) dX6_swap_205 (by decide) ?_
        refine e_iret (pc := 209) (st := []) (ty := .int) dX6_swap_209 rfl rfl ?_
        first
          | exact qeq (k S hf) (by rw [if_pos h196, h196])
          | exact qeq (k S hf) (by rw [if_neg h196])
      · refine e_iload_n (pc := 199) (i := 2) dX6_swap_199 rfl rfl ?_
        refine e_if_ne (pc := 200) (tgt := 208) dX6_swap_200 (by decide) (fun h200 => ?_) (fun h200 => absurd h200 (by decide))
        refine e_iload_n (pc := 208) (i := 3) dX6_swap_208 rfl rfl ?_
        refine e_iret (pc := 209) (st := []) (ty := .int) dX6_swap_209 rfl rfl ?_
        first
          | exact qeq (k S hf) (by rw [if_pos h196, h196])
          | exact qeq (k S hf) (by rw [if_neg h196])
    · replace h47 := mt (nI_leI (by omega) (by omega)).mpr h47
      have ha : a < R 20 := by omega
      refine e_iload (pc := 50) dX6_swap_50 rfl ?_
      refine e_iconst' (pc := 52) (nI 1) dX6_swap_52 (by decide) ?_
      refine e_iadd (pc := 53) dX6_swap_53 ?_
      refine E.it (nI (a + 1)) (nI_add _ _) ?_
      refine e_istore (pc := 54) dX6_swap_54 (by decide) rfl ?_
      refine lm_swapI1 hv hc hp0 hm hbd ha (fun S2 z2 h2 => ?_) (R 20 + 1) 0 S _ (by omega) (by omega) hf
      refine e_iinc' (pc := 186) (nI (a + 1)) dX6_swap_186 rfl (by decide) rfl (nI_1 _) ?_
      refine e_goto (pc := 189) (tgt := 38) dX6_swap_189 (by decide) ?_
      exact ih (a + 1) S2 _ _ (by omega) (by omega) h2
theorem b_swap {sc : PSc} {S : PS} (hI : InvS S) (x y : Int32) : Bth sc mX5_swap mX6_swap [.int x, .int y] S := by
  obtain ⟨R, hv, hc, hr, hp⟩ := hI.1
  have hv5 := hv.1
  rcases Classical.em (inr x 0 200) with ⟨m, rfl, -, hm⟩ | hn
  · rcases Classical.em (inr y 0 1) with ⟨a, rfl, -, ha⟩ | hn
    · have hbd : ∀ a, a ≤ R 20 → (swO (fun a b => err (pn (swR R a b) m)) (R 20) (err (pn R m), -4) a).1 ≤ 248831 := swO_le (err_le (pn_vd hv m)) (fun a c h1 h2 => err_le (pn_vd (sw_vd hv h1 h2) m))
      rcases (show a = 0 ∨ a = 1 by omega) with rfl | rfl
      · refine ask_both ((swO (fun a b => err (pn (swR R a b) m)) (R 20) (err (pn R m), -4) (R 20)).2) hI (fun Q k => ?_) (fun S1 h1 Q k => ?_)
        · show E sc mX5_swap 0 [.ref 0, .int (nI m), .int (nI 0), .null, .null, .null, .null, .null] [] S Q
          refine e_iload_n (pc := 0) (i := 1) dX5_swap_0 rfl rfl ?_
          refine e_iconst' (pc := 1) (nI 0) dX5_swap_1 (by decide) ?_
          refine e_sipush' (pc := 2) (nI 200) dX5_swap_2 (by decide) ?_
          refine e_callS3 (pc := 5) (M' := mX5_within) dX5_swap_5 jX5_within lkX5_70 (by decide) (Nat.le_of_ble_eq_true rfl) (Nat.le_of_ble_eq_true rfl) ?_
          refine sp_winY (by omega) (by omega) (by omega) ?_
          refine e_if_eq (pc := 8) (tgt := 20) dX5_swap_8 (by decide) (fun h8 => absurd h8 (by decide)) (fun h8 => ?_)
          refine e_iload_n (pc := 11) (i := 2) dX5_swap_11 rfl rfl ?_
          refine e_iconst' (pc := 12) (nI 0) dX5_swap_12 (by decide) ?_
          refine e_iconst' (pc := 13) (nI 1) dX5_swap_13 (by decide) ?_
          refine e_callS3 (pc := 14) (M' := mX5_within) dX5_swap_14 jX5_within lkX5_70 (by decide) (Nat.le_of_ble_eq_true rfl) (Nat.le_of_ble_eq_true rfl) ?_
          refine sp_winY (by omega) (by omega) (by omega) ?_
          refine e_if_ne (pc := 17) (tgt := 22) dX5_swap_17 (by decide) (fun h17 => ?_) (fun h17 => absurd h17 (by decide))
          refine e_aload_n (pc := 22) (i := 0) dX5_swap_22 rfl rfl ?_
          refine e_getR (pc := 23) dX5_swap_23 (fX5_16 rfl) sh_0 rfl ?_
          refine e_aload_n (pc := 26) (i := 0) dX5_swap_26 rfl rfl ?_
          refine e_getR (pc := 27) dX5_swap_27 (fX5_10 rfl) sh_0 rfl ?_
          refine e_callV1 (pc := 30) (M' := mX0_copyOf) dX5_swap_30 iX0_copyOf lkX5_90 (by decide) (rO_obj sh_6 rfl) (Nat.le_of_ble_eq_true rfl) (Nat.le_of_ble_eq_true rfl) ?_
          refine sp_copyOf r6 r1 (by omega) hv hr (fun S1 ht hc0 hf1 => ?_)
          refine e_aload_n (pc := 33) (i := 0) dX5_swap_33 rfl rfl ?_
          refine e_iload_n (pc := 34) (i := 1) dX5_swap_34 rfl rfl ?_
          refine e_callV1 (pc := 35) (M' := mX5_trialErrorBehind) dX5_swap_35 iX5_trialErrorBehind lkX5_170 (by decide) (rO_obj sh_0 rfl) (Nat.le_of_ble_eq_true rfl) (Nat.le_of_ble_eq_true rfl) ?_
          refine sp_trialErr hv ht hc (by omega) (fun S3 q4 => ?_)
          refine e_istore_n (pc := 38) (i := 3) dX5_swap_38 rfl (by decide) rfl ?_
          refine e_bipush' (pc := 39) (-4) dX5_swap_39 (by decide) ?_
          refine e_istore (pc := 41) dX5_swap_41 (by decide) rfl ?_
          refine e_iconst' (pc := 43) (nI 0) dX5_swap_43 (by decide) ?_
          refine e_istore (pc := 44) dX5_swap_44 (by decide) rfl ?_
          exact lp_swap0 hv hc hr hm hbd (fun S2 h2 => k S2 h2.same) (R 20 + 1) 0 S3 _ _ (by omega) (by omega) (hf1.tr q4)
        · show E sc mX6_swap 0 [.ref 54, .int (nI m), .int (nI 0), .null, .null, .null, .null, .null] [] S1 Q
          have hp := h1.pg (by omega) hv hp
          have hr := h1.row (by omega) hr
          refine e_iload_n (pc := 0) (i := 1) dX6_swap_0 rfl rfl ?_
          refine e_i2l (pc := 1) dX6_swap_1 ?_
          refine e_lconst' (pc := 2) (lN 0) dX6_swap_2 (by decide) ?_
          refine e_ldc2 (pc := 3) dX6_swap_3 (klX6_185 rfl) ?_
          refine e_callS3 (pc := 6) (M' := mX6_in) dX6_swap_6 jX6_in lkX6_46 (by decide) (Nat.le_of_ble_eq_true rfl) (Nat.le_of_ble_eq_true rfl) ?_
          refine sp_inY (lo := 0) (hi := 200) (by decide) (by decide) (by omega) (by omega) (by omega) ?_
          refine e_if_eq (pc := 9) (tgt := 22) dX6_swap_9 (by decide) (fun h9 => absurd h9 (by decide)) (fun h9 => ?_)
          refine e_iload_n (pc := 12) (i := 2) dX6_swap_12 rfl rfl ?_
          refine e_i2l (pc := 13) dX6_swap_13 ?_
          refine e_lconst' (pc := 14) (lN 0) dX6_swap_14 (by decide) ?_
          refine e_lconst' (pc := 15) (lN 1) dX6_swap_15 (by decide) ?_
          refine e_callS3 (pc := 16) (M' := mX6_in) dX6_swap_16 jX6_in lkX6_46 (by decide) (Nat.le_of_ble_eq_true rfl) (Nat.le_of_ble_eq_true rfl) ?_
          refine sp_inY (lo := 0) (hi := 1) (by decide) (by decide) (by omega) (by omega) (by omega) ?_
          refine e_if_ne (pc := 19) (tgt := 24) dX6_swap_19 (by decide) (fun h19 => ?_) (fun h19 => absurd h19 (by decide))
          refine e_aload_n (pc := 24) (i := 0) dX6_swap_24 rfl rfl ?_
          refine e_iconst' (pc := 25) (nI 0) dX6_swap_25 (by decide) ?_
          refine e_iload_n (pc := 26) (i := 1) dX6_swap_26 rfl rfl ?_
          refine e_callV2 (pc := 27) (M' := mX6_errorBehind) dX6_swap_27 iX6_errorBehind lkX6_187 (by decide) (rO_obj sh_54 rfl) (Nat.le_of_ble_eq_true rfl) (Nat.le_of_ble_eq_true rfl) ?_
          refine sp_errorBehind (p := 0) (by omega) (by omega) hv hp (by omega) hc (fun S3 q4 => ?_)
          refine e_istore_n (pc := 30) (i := 3) dX6_swap_30 rfl (by decide) rfl ?_
          refine e_bipush' (pc := 31) (-4) dX6_swap_31 (by decide) ?_
          refine e_istore (pc := 33) dX6_swap_33 (by decide) rfl ?_
          refine e_iconst' (pc := 35) (nI 0) dX6_swap_35 (by decide) ?_
          refine e_istore (pc := 36) dX6_swap_36 (by decide) rfl ?_
          exact lm_swap0 hv hc hp hm hbd k (R 20 + 1) 0 S3 _ _ (by omega) (by omega) q4.same
      · refine ask_both (if (swO (fun a b => err (pn (swR R a b) m)) (R 20) (err (pn R m), -4) (R 20)).2 = -4 then -4 else nI (swO (fun a b => err (pn (swR R a b) m)) (R 20) (err (pn R m), -4) (R 20)).1) hI (fun Q k => ?_) (fun S1 h1 Q k => ?_)
        · show E sc mX5_swap 0 [.ref 0, .int (nI m), .int (nI 1), .null, .null, .null, .null, .null] [] S Q
          refine e_iload_n (pc := 0) (i := 1) dX5_swap_0 rfl rfl ?_
          refine e_iconst' (pc := 1) (nI 0) dX5_swap_1 (by decide) ?_
          refine e_sipush' (pc := 2) (nI 200) dX5_swap_2 (by decide) ?_
          refine e_callS3 (pc := 5) (M' := mX5_within) dX5_swap_5 jX5_within lkX5_70 (by decide) (Nat.le_of_ble_eq_true rfl) (Nat.le_of_ble_eq_true rfl) ?_
          refine sp_winY (by omega) (by omega) (by omega) ?_
          refine e_if_eq (pc := 8) (tgt := 20) dX5_swap_8 (by decide) (fun h8 => absurd h8 (by decide)) (fun h8 => ?_)
          refine e_iload_n (pc := 11) (i := 2) dX5_swap_11 rfl rfl ?_
          refine e_iconst' (pc := 12) (nI 0) dX5_swap_12 (by decide) ?_
          refine e_iconst' (pc := 13) (nI 1) dX5_swap_13 (by decide) ?_
          refine e_callS3 (pc := 14) (M' := mX5_within) dX5_swap_14 jX5_within lkX5_70 (by decide) (Nat.le_of_ble_eq_true rfl) (Nat.le_of_ble_eq_true rfl) ?_
          refine sp_winY (by omega) (by omega) (by omega) ?_
          refine e_if_ne (pc := 17) (tgt := 22) dX5_swap_17 (by decide) (fun h17 => ?_) (fun h17 => absurd h17 (by decide))
          refine e_aload_n (pc := 22) (i := 0) dX5_swap_22 rfl rfl ?_
          refine e_getR (pc := 23) dX5_swap_23 (fX5_16 rfl) sh_0 rfl ?_
          refine e_aload_n (pc := 26) (i := 0) dX5_swap_26 rfl rfl ?_
          refine e_getR (pc := 27) dX5_swap_27 (fX5_10 rfl) sh_0 rfl ?_
          refine e_callV1 (pc := 30) (M' := mX0_copyOf) dX5_swap_30 iX0_copyOf lkX5_90 (by decide) (rO_obj sh_6 rfl) (Nat.le_of_ble_eq_true rfl) (Nat.le_of_ble_eq_true rfl) ?_
          refine sp_copyOf r6 r1 (by omega) hv hr (fun S1 ht hc0 hf1 => ?_)
          refine e_aload_n (pc := 33) (i := 0) dX5_swap_33 rfl rfl ?_
          refine e_iload_n (pc := 34) (i := 1) dX5_swap_34 rfl rfl ?_
          refine e_callV1 (pc := 35) (M' := mX5_trialErrorBehind) dX5_swap_35 iX5_trialErrorBehind lkX5_170 (by decide) (rO_obj sh_0 rfl) (Nat.le_of_ble_eq_true rfl) (Nat.le_of_ble_eq_true rfl) ?_
          refine sp_trialErr hv ht hc (by omega) (fun S3 q4 => ?_)
          refine e_istore_n (pc := 38) (i := 3) dX5_swap_38 rfl (by decide) rfl ?_
          refine e_bipush' (pc := 39) (-4) dX5_swap_39 (by decide) ?_
          refine e_istore (pc := 41) dX5_swap_41 (by decide) rfl ?_
          refine e_iconst' (pc := 43) (nI 0) dX5_swap_43 (by decide) ?_
          refine e_istore (pc := 44) dX5_swap_44 (by decide) rfl ?_
          exact lp_swap1 hv hc hr hm hbd (fun S2 h2 => k S2 h2.same) (R 20 + 1) 0 S3 _ _ (by omega) (by omega) (hf1.tr q4)
        · show E sc mX6_swap 0 [.ref 54, .int (nI m), .int (nI 1), .null, .null, .null, .null, .null] [] S1 Q
          have hp := h1.pg (by omega) hv hp
          have hr := h1.row (by omega) hr
          refine e_iload_n (pc := 0) (i := 1) dX6_swap_0 rfl rfl ?_
          refine e_i2l (pc := 1) dX6_swap_1 ?_
          refine e_lconst' (pc := 2) (lN 0) dX6_swap_2 (by decide) ?_
          refine e_ldc2 (pc := 3) dX6_swap_3 (klX6_185 rfl) ?_
          refine e_callS3 (pc := 6) (M' := mX6_in) dX6_swap_6 jX6_in lkX6_46 (by decide) (Nat.le_of_ble_eq_true rfl) (Nat.le_of_ble_eq_true rfl) ?_
          refine sp_inY (lo := 0) (hi := 200) (by decide) (by decide) (by omega) (by omega) (by omega) ?_
          refine e_if_eq (pc := 9) (tgt := 22) dX6_swap_9 (by decide) (fun h9 => absurd h9 (by decide)) (fun h9 => ?_)
          refine e_iload_n (pc := 12) (i := 2) dX6_swap_12 rfl rfl ?_
          refine e_i2l (pc := 13) dX6_swap_13 ?_
          refine e_lconst' (pc := 14) (lN 0) dX6_swap_14 (by decide) ?_
          refine e_lconst' (pc := 15) (lN 1) dX6_swap_15 (by decide) ?_
          refine e_callS3 (pc := 16) (M' := mX6_in) dX6_swap_16 jX6_in lkX6_46 (by decide) (Nat.le_of_ble_eq_true rfl) (Nat.le_of_ble_eq_true rfl) ?_
          refine sp_inY (lo := 0) (hi := 1) (by decide) (by decide) (by omega) (by omega) (by omega) ?_
          refine e_if_ne (pc := 19) (tgt := 24) dX6_swap_19 (by decide) (fun h19 => ?_) (fun h19 => absurd h19 (by decide))
          refine e_aload_n (pc := 24) (i := 0) dX6_swap_24 rfl rfl ?_
          refine e_iconst' (pc := 25) (nI 0) dX6_swap_25 (by decide) ?_
          refine e_iload_n (pc := 26) (i := 1) dX6_swap_26 rfl rfl ?_
          refine e_callV2 (pc := 27) (M' := mX6_errorBehind) dX6_swap_27 iX6_errorBehind lkX6_187 (by decide) (rO_obj sh_54 rfl) (Nat.le_of_ble_eq_true rfl) (Nat.le_of_ble_eq_true rfl) ?_
          refine sp_errorBehind (p := 0) (by omega) (by omega) hv hp (by omega) hc (fun S3 q4 => ?_)
          refine e_istore_n (pc := 30) (i := 3) dX6_swap_30 rfl (by decide) rfl ?_
          refine e_bipush' (pc := 31) (-4) dX6_swap_31 (by decide) ?_
          refine e_istore (pc := 33) dX6_swap_33 (by decide) rfl ?_
          refine e_iconst' (pc := 35) (nI 0) dX6_swap_35 (by decide) ?_
          refine e_istore (pc := 36) dX6_swap_36 (by decide) rfl ?_
          exact lm_swap1 hv hc hp hm hbd k (R 20 + 1) 0 S3 _ _ (by omega) (by omega) q4.same
    · refine ask_both (-1) hI (fun Q k => ?_) (fun S1 h1 Q k => ?_)
      · show E sc mX5_swap 0 [.ref 0, .int (nI m), .int y, .null, .null, .null, .null, .null] [] S Q
        refine e_iload_n (pc := 0) (i := 1) dX5_swap_0 rfl rfl ?_
        refine e_iconst' (pc := 1) (nI 0) dX5_swap_1 (by decide) ?_
        refine e_sipush' (pc := 2) (nI 200) dX5_swap_2 (by decide) ?_
        refine e_callS3 (pc := 5) (M' := mX5_within) dX5_swap_5 jX5_within lkX5_70 (by decide) (Nat.le_of_ble_eq_true rfl) (Nat.le_of_ble_eq_true rfl) ?_
        refine sp_winY (by omega) (by omega) (by omega) ?_
        refine e_if_eq (pc := 8) (tgt := 20) dX5_swap_8 (by decide) (fun h8 => absurd h8 (by decide)) (fun h8 => ?_)
        refine e_iload_n (pc := 11) (i := 2) dX5_swap_11 rfl rfl ?_
        refine e_iconst' (pc := 12) (nI 0) dX5_swap_12 (by decide) ?_
        refine e_iconst' (pc := 13) (nI 1) dX5_swap_13 (by decide) ?_
        refine e_callS3 (pc := 14) (M' := mX5_within) dX5_swap_14 jX5_within lkX5_70 (by decide) (Nat.le_of_ble_eq_true rfl) (Nat.le_of_ble_eq_true rfl) ?_
        refine sp_winX hn (by omega) (by omega) ?_
        refine e_if_ne (pc := 17) (tgt := 22) dX5_swap_17 (by decide) (fun h17 => absurd (by decide) h17) (fun h17 => ?_)
        refine e_iconst' (pc := 20) (-1) dX5_swap_20 (by decide) ?_
        refine e_iret (pc := 21) (st := []) (ty := .int) dX5_swap_21 rfl rfl ?_
        exact k _ Same.rf
      · show E sc mX6_swap 0 [.ref 54, .int (nI m), .int y, .null, .null, .null, .null, .null] [] S1 Q
        have hp := h1.pg (by omega) hv hp
        have hr := h1.row (by omega) hr
        refine e_iload_n (pc := 0) (i := 1) dX6_swap_0 rfl rfl ?_
        refine e_i2l (pc := 1) dX6_swap_1 ?_
        refine e_lconst' (pc := 2) (lN 0) dX6_swap_2 (by decide) ?_
        refine e_ldc2 (pc := 3) dX6_swap_3 (klX6_185 rfl) ?_
        refine e_callS3 (pc := 6) (M' := mX6_in) dX6_swap_6 jX6_in lkX6_46 (by decide) (Nat.le_of_ble_eq_true rfl) (Nat.le_of_ble_eq_true rfl) ?_
        refine sp_inY (lo := 0) (hi := 200) (by decide) (by decide) (by omega) (by omega) (by omega) ?_
        refine e_if_eq (pc := 9) (tgt := 22) dX6_swap_9 (by decide) (fun h9 => absurd h9 (by decide)) (fun h9 => ?_)
        refine e_iload_n (pc := 12) (i := 2) dX6_swap_12 rfl rfl ?_
        refine e_i2l (pc := 13) dX6_swap_13 ?_
        refine e_lconst' (pc := 14) (lN 0) dX6_swap_14 (by decide) ?_
        refine e_lconst' (pc := 15) (lN 1) dX6_swap_15 (by decide) ?_
        refine e_callS3 (pc := 16) (M' := mX6_in) dX6_swap_16 jX6_in lkX6_46 (by decide) (Nat.le_of_ble_eq_true rfl) (Nat.le_of_ble_eq_true rfl) ?_
        refine sp_inX (lo := 0) (hi := 1) (by decide) (by decide) hn ?_
        refine e_if_ne (pc := 19) (tgt := 24) dX6_swap_19 (by decide) (fun h19 => absurd (by decide) h19) (fun h19 => ?_)
        refine e_iconst' (pc := 22) (-1) dX6_swap_22 (by decide) ?_
        refine e_iret (pc := 23) (st := []) (ty := .int) dX6_swap_23 rfl rfl ?_
        exact k _ Same.rf
  · refine ask_both (-1) hI (fun Q k => ?_) (fun S1 h1 Q k => ?_)
    · show E sc mX5_swap 0 [.ref 0, .int x, .int y, .null, .null, .null, .null, .null] [] S Q
      refine e_iload_n (pc := 0) (i := 1) dX5_swap_0 rfl rfl ?_
      refine e_iconst' (pc := 1) (nI 0) dX5_swap_1 (by decide) ?_
      refine e_sipush' (pc := 2) (nI 200) dX5_swap_2 (by decide) ?_
      refine e_callS3 (pc := 5) (M' := mX5_within) dX5_swap_5 jX5_within lkX5_70 (by decide) (Nat.le_of_ble_eq_true rfl) (Nat.le_of_ble_eq_true rfl) ?_
      refine sp_winX hn (by omega) (by omega) ?_
      refine e_if_eq (pc := 8) (tgt := 20) dX5_swap_8 (by decide) (fun h8 => ?_) (fun h8 => absurd (by decide) h8)
      refine e_iconst' (pc := 20) (-1) dX5_swap_20 (by decide) ?_
      refine e_iret (pc := 21) (st := []) (ty := .int) dX5_swap_21 rfl rfl ?_
      exact k _ Same.rf
    · show E sc mX6_swap 0 [.ref 54, .int x, .int y, .null, .null, .null, .null, .null] [] S1 Q
      have hp := h1.pg (by omega) hv hp
      have hr := h1.row (by omega) hr
      refine e_iload_n (pc := 0) (i := 1) dX6_swap_0 rfl rfl ?_
      refine e_i2l (pc := 1) dX6_swap_1 ?_
      refine e_lconst' (pc := 2) (lN 0) dX6_swap_2 (by decide) ?_
      refine e_ldc2 (pc := 3) dX6_swap_3 (klX6_185 rfl) ?_
      refine e_callS3 (pc := 6) (M' := mX6_in) dX6_swap_6 jX6_in lkX6_46 (by decide) (Nat.le_of_ble_eq_true rfl) (Nat.le_of_ble_eq_true rfl) ?_
      refine sp_inX (lo := 0) (hi := 200) (by decide) (by decide) hn ?_
      refine e_if_eq (pc := 9) (tgt := 22) dX6_swap_9 (by decide) (fun h9 => ?_) (fun h9 => absurd (by decide) h9)
      refine e_iconst' (pc := 22) (-1) dX6_swap_22 (by decide) ?_
      refine e_iret (pc := 23) (st := []) (ty := .int) dX6_swap_23 rfl rfl ?_
      exact k _ Same.rf

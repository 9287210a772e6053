def runE (P : Nat → Bool) : Nat → Nat → Nat
  | 0, p => p
  | t + 1, p => if P p then runE P t (p + 1) else p
theorem runE_b {P : Nat → Bool} : ∀ t p, p ≤ runE P t p ∧ runE P t p ≤ p + t
  | 0, p => ⟨Nat.le_refl _, Nat.le_refl _⟩
  | t + 1, p => by
    rw [runE]
    have := runE_b (P := P) t (p + 1)
    split <;> omega
theorem runE_all {P : Nat → Bool} : ∀ t p x, p ≤ x → x < runE P t p → P x = true
  | 0, p, x, h1, h2 => by rw [runE] at h2; omega
  | t + 1, p, x, h1, h2 => by
    rw [runE] at h2
    by_cases h : P p = true
    · rw [if_pos h] at h2
      by_cases e : x = p
      · subst e; exact h
      · exact runE_all t (p + 1) x (by omega) h2
    · rw [if_neg h] at h2; omega
/-- the end of a run of places of which P holds, from p on -/
def rn (N : Nat) (P : Nat → Bool) (p : Nat) : Nat := runE (fun x => decide (x < N) && P x) (N - p) p
theorem rn_y {N : Nat} {P : Nat → Bool} {p : Nat} (h : p < N) (hp : P p = true) : rn N P p = rn N P (p + 1) := by
  unfold rn
  rw [show N - p = (N - (p + 1)) + 1 by omega, runE, if_pos (by rw [decide_eq_true h, hp]; rfl)]
theorem rn_n {N : Nat} {P : Nat → Bool} {p : Nat} (h : p < N → P p = false) : rn N P p = p := by
  unfold rn
  cases e : N - p with
  | zero => rfl
  | succ t => rw [runE, if_neg (by rw [h (by omega), Bool.and_false]; decide)]
theorem rn_b {N : Nat} {P : Nat → Bool} {p : Nat} (h : p ≤ N) : p ≤ rn N P p ∧ rn N P p ≤ N := by
  have := runE_b (P := fun x => decide (x < N) && P x) (N - p) p
  unfold rn
  omega
theorem rn_all {N : Nat} {P : Nat → Bool} {p x : Nat} (h1 : p ≤ x) (h2 : x < rn N P p) : P x = true := by
  have := runE_all (P := fun x => decide (x < N) && P x) (N - p) p x h1 h2
  rw [Bool.and_eq_true] at this
  exact this.2
theorem rn_s {N : Nat} {P : Nat → Bool} {p : Nat} (h : p < N) (hp : P p = true) : p < rn N P p := by
  rw [rn_y h hp]
  exact (rn_b (by omega)).1
def inB (tp : Nat → Nat) (l h x : Nat) : Bool := decide (l ≤ tp x) && decide (tp x ≤ h)
theorem inB_y {tp : Nat → Nat} {l h x : Nat} (h1 : l ≤ tp x) (h2 : tp x ≤ h) : inB tp l h x = true := by
  unfold inB; rw [decide_eq_true h1, decide_eq_true h2]; rfl
theorem inB_n {tp : Nat → Nat} {l h x : Nat} (h1 : ¬ (l ≤ tp x ∧ tp x ≤ h)) : inB tp l h x = false := by
  unfold inB
  by_cases a : l ≤ tp x
  · rw [decide_eq_false (p := tp x ≤ h) (fun q => h1 ⟨a, q⟩), Bool.and_false]
  · rw [decide_eq_false a, Bool.false_and]
theorem inB_i {tp : Nat → Nat} {l h x : Nat} (q : inB tp l h x = true) : l ≤ tp x ∧ tp x ≤ h := by
  unfold inB at q
  simp only [Bool.and_eq_true, decide_eq_true_eq] at q
  exact q
/-- the number that k figures from s on spell -/
def fv (tp : Nat → Nat) (s : Nat) : Nat → Nat
  | 0 => 0
  | k + 1 => 10 * fv tp s k + tp (s + k) - 48
/-- a token: where it starts, where it ends, what it is (0 the end, 1 a name, 2 a number, 3 a semicolon, 4 none), how much -/
def tst (N : Nat) (tp : Nat → Nat) (p : Nat) : Nat := rn N (inB tp 32 32) p
def te (N : Nat) (tp : Nat → Nat) (p : Nat) : Nat := if tp (tst N tp p) = 59 then tst N tp p + 1 else if inB tp 97 122 (tst N tp p) then rn N (inB tp 97 122) (tst N tp p) else rn N (inB tp 48 57) (tst N tp p)
def tk (N : Nat) (tp : Nat → Nat) (p : Nat) : Nat := if N ≤ tst N tp p then 0 else if tp (tst N tp p) = 59 then 3 else if inB tp 97 122 (tst N tp p) then 1 else if inB tp 48 57 (tst N tp p) then (if te N tp p - tst N tp p ≤ 2 then 2 else 4) else 4
def tv (N : Nat) (tp : Nat → Nat) (p : Nat) : Nat := fv tp (tst N tp p) (te N tp p - tst N tp p)
theorem tst_b {N : Nat} {tp : Nat → Nat} {p : Nat} (h : p ≤ N) : p ≤ tst N tp p ∧ tst N tp p ≤ N := rn_b h
theorem tk_0 {N : Nat} {tp : Nat → Nat} {p : Nat} (h : N ≤ tst N tp p) : tk N tp p = 0 := if_pos h
theorem tk_s {N : Nat} {tp : Nat → Nat} {p : Nat} (h : ¬ N ≤ tst N tp p) (h2 : tp (tst N tp p) = 59) : tk N tp p = 3 ∧ te N tp p = tst N tp p + 1 := by
  unfold tk te; rw [if_neg h, if_pos h2, if_pos h2]; exact ⟨rfl, rfl⟩
theorem tk_n {N : Nat} {tp : Nat → Nat} {p : Nat} (h : ¬ N ≤ tst N tp p) (h3 : inB tp 97 122 (tst N tp p) = true) : tk N tp p = 1 ∧ te N tp p = rn N (inB tp 97 122) (tst N tp p) := by
  have h2 : ¬ tp (tst N tp p) = 59 := fun q => by have := inB_i h3; omega
  unfold tk te; rw [if_neg h, if_neg h2, if_pos h3, if_neg h2, if_pos h3]; exact ⟨rfl, rfl⟩
theorem tk_d {N : Nat} {tp : Nat → Nat} {p : Nat} (h : ¬ N ≤ tst N tp p) (h4 : inB tp 48 57 (tst N tp p) = true) : tk N tp p = (if te N tp p - tst N tp p ≤ 2 then 2 else 4) ∧ te N tp p = rn N (inB tp 48 57) (tst N tp p) := by
  have h2 : ¬ tp (tst N tp p) = 59 := fun q => by have := inB_i h4; omega
  have h3 : ¬ inB tp 97 122 (tst N tp p) = true := fun q => by have a := inB_i h4; have b := inB_i q; omega
  constructor
  · unfold tk; rw [if_neg h, if_neg h2, if_neg h3, if_pos h4]
  · unfold te; rw [if_neg h2, if_neg h3]
theorem tk_x {N : Nat} {tp : Nat → Nat} {p : Nat} (h : ¬ N ≤ tst N tp p) (h2 : ¬ tp (tst N tp p) = 59) (h3 : inB tp 97 122 (tst N tp p) = false) (h4 : inB tp 48 57 (tst N tp p) = false) : tk N tp p = 4 := by
  unfold tk; rw [if_neg h, if_neg h2, if_neg (by rw [h3]; decide), if_neg (by rw [h4]; decide)]
theorem te_b {N : Nat} {tp : Nat → Nat} {p : Nat} (hp : p ≤ N) (h0 : tk N tp p ≠ 0) (h4 : tk N tp p ≠ 4) : p < te N tp p ∧ te N tp p ≤ N ∧ tst N tp p < te N tp p := by
  have hb := tst_b (tp := tp) hp
  have h : ¬ N ≤ tst N tp p := fun q => h0 (tk_0 q)
  by_cases h2 : tp (tst N tp p) = 59
  · rw [(tk_s h h2).2]; omega
  · cases h3 : inB tp 97 122 (tst N tp p) with
    | true =>
      rw [(tk_n h h3).2]
      have a := rn_s (show tst N tp p < N by omega) h3
      have b := rn_b (P := inB tp 97 122) (show tst N tp p ≤ N by omega)
      omega
    | false =>
      cases h5 : inB tp 48 57 (tst N tp p) with
      | true =>
        rw [(tk_d h h5).2]
        have a := rn_s (show tst N tp p < N by omega) h5
        have b := rn_b (P := inB tp 48 57) (show tst N tp p ≤ N by omega)
        omega
      | false => exact absurd (tk_x h h2 h3 h5) h4
theorem tk_le {N : Nat} {tp : Nat → Nat} {p : Nat} : tk N tp p ≤ 4 := by
  unfold tk
  split
  · omega
  · split
    · omega
    · split
      · omega
      · split
        · split <;> omega
        · omega
theorem fv_le {tp : Nat → Nat} {s : Nat} : ∀ k, (∀ i, i < k → tp (s + i) ≤ 57) → fv tp s k < 10 ^ k
  | 0, _ => by show 0 < 1; omega
  | k + 1, h => by
    have a := fv_le k (fun i hi => h i (by omega))
    have b := h k (by omega)
    rw [fv, Nat.pow_succ]; omega
theorem tv_le {N : Nat} {tp : Nat → Nat} {p : Nat} (h2 : tk N tp p = 2) : tv N tp p ≤ 99 ∧ te N tp p - tst N tp p ≤ 2 := by
  have h : ¬ N ≤ tst N tp p := fun q => by rw [tk_0 q] at h2; omega
  have hs : ¬ tp (tst N tp p) = 59 := fun q => by rw [(tk_s h q).1] at h2; omega
  cases h3 : inB tp 97 122 (tst N tp p) with
  | true => rw [(tk_n h h3).1] at h2; omega
  | false =>
    cases h5 : inB tp 48 57 (tst N tp p) with
    | false => rw [tk_x h hs h3 h5] at h2; omega
    | true =>
      obtain ⟨a, b⟩ := tk_d h h5
      rw [a] at h2
      by_cases hz : te N tp p - tst N tp p ≤ 2
      · refine ⟨?_, hz⟩
        have c := fv_le (tp := tp) (s := tst N tp p) (te N tp p - tst N tp p) (fun i hi => (inB_i (rn_all (N := N) (P := inB tp 48 57) (p := tst N tp p) (x := tst N tp p + i) (by omega) (by rw [← b]; omega))).2)
        have d : 10 ^ (te N tp p - tst N tp p) ≤ 10 ^ 2 := Nat.pow_le_pow_right (by decide) hz
        unfold tv
        have e : (10 : Nat) ^ 2 = 100 := by decide
        omega
      · rw [if_neg hz] at h2; omega
/-- the tape, as the class has it; as the reference has it -/
def TpC (S : PS) (N : Nat) (tp : Nat → Nat) : Prop := N ≤ 160 ∧ S.1 23 1 = nI N ∧ ∀ k, k < N → tp k < 128 ∧ S.1 24 k = nI (tp k)
def TpM (S : PS) (N : Nat) (tp : Nat → Nat) : Prop := N ≤ 160 ∧ S.1 54 4 = nI N ∧ ∀ k, k < N → tp k < 128 ∧ S.1 57 k = nI (tp k)
theorem TpC.of {S S' : PS} {N : Nat} {tp : Nat → Nat} (h : TpC S N tp) (h3 : S'.1 23 = S.1 23) (h4 : S'.1 24 = S.1 24) : TpC S' N tp := by
  unfold TpC at h ⊢; rw [h3, h4]; exact h
theorem TpM.of {S S' : PS} {N : Nat} {tp : Nat → Nat} (h : TpM S N tp) (h3 : S'.1 54 4 = S.1 54 4) (h4 : S'.1 57 = S.1 57) : TpM S' N tp := by
  unfold TpM at h ⊢; rw [h3, h4]; exact h
theorem sp_winN {sc : PSc} {S : PS} {Q : PQ} {c lo hi : Nat} (hc : c < 2 ^ 31) (hl : lo ≤ hi) (hh : hi < 2 ^ 31) (k1 : lo ≤ c → c ≤ hi → Q (some (.int (nI 1))) S) (k0 : ¬ (lo ≤ c ∧ c ≤ hi) → Q (some (.int (nI 0))) S) : E sc mX5_within 0 (pL0 mX5_within [.int (nI c), .int (nI lo), .int (nI hi)]) [] S Q := by
  by_cases h : lo ≤ c ∧ c ≤ hi
  · exact sp_winY h.1 h.2 hh (k1 h.1 h.2)
  · refine sp_winX (fun q => h ?_) hl hh (k0 h)
    obtain ⟨b, e, h1, h2⟩ := q
    rw [nI_eq hc (by omega)] at e
    subst e; exact ⟨h1, h2⟩
theorem sp_failC {sc : PSc} {c s : Nat} {S : PS} {Q : PQ} (h6 : S.1 25 6 = nI s) (k : Q (some (.int (nI 0))) (up2 (up2 S.1 25 1 (nI c)) 25 2 (nI s), S.2)) : E sc mX4_fail 0 (pL0 mX4_fail [.ref 25, .int (nI c)]) [] S Q := by
  show E sc mX4_fail 0 [.ref 25, .int (nI c)] [] S Q
  refine e_aload_n (pc := 0) (i := 0) dX4_fail_0 rfl rfl ?_
  refine e_iload_n (pc := 1) (i := 1) dX4_fail_1 rfl rfl ?_
  refine e_putI (pc := 2) dX4_fail_2 (pX4_18 rfl) sh_25 rfl (fun h => by cases h) ?_
  refine e_aload_n (pc := 5) (i := 0) dX4_fail_5 rfl rfl ?_
  refine e_aload_n (pc := 6) (i := 0) dX4_fail_6 rfl rfl ?_
  refine e_getI (pc := 7) dX4_fail_7 (fX4_93 rfl) sh_25 rfl ?_
  refine E.it (nI s) h6 ?_
  refine e_putI (pc := 10) dX4_fail_10 (pX4_123 rfl) sh_25 rfl (fun h => by cases h) ?_
  refine e_iconst' (pc := 13) (nI 0) dX4_fail_13 (by decide) ?_
  refine e_iret (pc := 14) (st := []) (ty := .boolean) dX4_fail_14 rfl rfl ?_
  exact k
theorem lp_run {sc : PSc} {N : Nat} {tp : Nat → Nat} {S : PS} {Q : PQ} (ht : TpC S N tp) {l h s : Nat} (hlh : l ≤ h) (hh : h < 128) (hs : s ≤ N) (k : Q (some (.int (nI (rn N (inB tp l h) s)))) S) : ∀ (n : Nat) (q : Nat), q ≤ N → N - q < n → rn N (inB tp l h) s = rn N (inB tp l h) q → E sc mX4_endOfRun 5 [.ref 25, .int (nI l), .int (nI h), .int (nI q)] [] S Q := by
  intro n
  induction n with
  | zero => intro q hq hn he; exact absurd hn (by omega)
  | succ n ih =>
    intro q hq hn he
    have hN := ht.1
    refine e_iload_n (pc := 5) (i := 3) dX4_endOfRun_5 rfl rfl ?_
    refine e_aload_n (pc := 6) (i := 0) dX4_endOfRun_6 rfl rfl ?_
    refine e_getR (pc := 7) dX4_endOfRun_7 (fX4_12 rfl) sh_25 rfl ?_
    refine e_getI (pc := 10) dX4_endOfRun_10 (fX4_40 rfl) sh_23 rfl ?_
    refine E.it (nI N) ht.2.1 ?_
    refine e_icmp_ge (pc := 13) (tgt := 39) dX4_endOfRun_13 (by decide) (fun h13 => ?_) (fun h13 => ?_)
    · replace h13 := (nI_leI (by omega) (by omega)).mp h13
      rw [rn_n (p := q) (by omega)] at he
      refine e_iload_n (pc := 39) (i := 3) dX4_endOfRun_39 rfl rfl ?_
      refine e_iret (pc := 40) (st := []) (ty := .int) dX4_endOfRun_40 rfl rfl ?_
      rw [← he]; exact k
    · replace h13 := mt (nI_leI (by omega) (by omega)).mpr h13
      have hb := (ht.2.2 q (by omega)).1
      refine e_aload_n (pc := 16) (i := 0) dX4_endOfRun_16 rfl rfl ?_
      refine e_getR (pc := 17) dX4_endOfRun_17 (fX4_12 rfl) sh_25 rfl ?_
      refine e_getR (pc := 20) dX4_endOfRun_20 (fX4_96 rfl) sh_23 rfl ?_
      refine e_iload_n (pc := 23) (i := 3) dX4_endOfRun_23 rfl rfl ?_
      refine e_bald (pc := 24) dX4_endOfRun_24 sh_24 (vp_in_nI (by omega) (by omega)) ?_
      refine E.it (nI (tp q)) (by rw [nI_clamp (by omega)]; exact (ht.2.2 q (by omega)).2) ?_
      refine e_iload_n (pc := 25) (i := 1) dX4_endOfRun_25 rfl rfl ?_
      refine e_iload_n (pc := 26) (i := 2) dX4_endOfRun_26 rfl rfl ?_
      refine e_callS3 (pc := 27) (M' := mX5_within) dX4_endOfRun_27 jX5_within lkX4_89 (by decide) (Nat.le_of_ble_eq_true rfl) (Nat.le_of_ble_eq_true rfl) ?_
      refine sp_winN (by omega) hlh (by omega) (fun z1 z2 => ?_) (fun z => ?_)
      · refine e_if_eq (pc := 30) (tgt := 39) dX4_endOfRun_30 (by decide) (fun h30 => absurd h30 (by decide)) (fun h30 => ?_)
        refine e_iinc' (pc := 33) (nI (q + 1)) dX4_endOfRun_33 rfl (by decide) rfl (nI_1 _) ?_
        refine e_goto (pc := 36) (tgt := 5) dX4_endOfRun_36 (by decide) ?_
        exact ih (q + 1) (by omega) (by omega) (he.trans (rn_y (by omega) (inB_y z1 z2)))
      · rw [rn_n (p := q) (fun _ => inB_n z)] at he
        refine e_if_eq (pc := 30) (tgt := 39) dX4_endOfRun_30 (by decide) (fun h30 => ?_) (fun h30 => absurd rfl h30)
        refine e_iload_n (pc := 39) (i := 3) dX4_endOfRun_39 rfl rfl ?_
        refine e_iret (pc := 40) (st := []) (ty := .int) dX4_endOfRun_40 rfl rfl ?_
        rw [← he]; exact k
theorem sp_run {sc : PSc} {N : Nat} {tp : Nat → Nat} {S : PS} {Q : PQ} (ht : TpC S N tp) {l h s : Nat} (hlh : l ≤ h) (hh : h < 128) (hs : s ≤ N) (h6 : S.1 25 6 = nI s) (k : Q (some (.int (nI (rn N (inB tp l h) s)))) S) : E sc mX4_endOfRun 0 (pL0 mX4_endOfRun [.ref 25, .int (nI l), .int (nI h)]) [] S Q := by
  show E sc mX4_endOfRun 0 [.ref 25, .int (nI l), .int (nI h), .null] [] S Q
  refine e_aload_n (pc := 0) (i := 0) dX4_endOfRun_0 rfl rfl ?_
  refine e_getI (pc := 1) dX4_endOfRun_1 (fX4_93 rfl) sh_25 rfl ?_
  refine E.it (nI s) h6 ?_
  refine e_istore_n (pc := 4) (i := 3) dX4_endOfRun_4 rfl (by decide) rfl ?_
  exact lp_run ht hlh hh hs k (N + 1) s hs (by omega) rfl
theorem lp_val {sc : PSc} {N : Nat} {tp : Nat → Nat} {S : PS} {Q : PQ} (ht : TpC S N tp) {s e : Nat} (hse : s ≤ e) (heN : e ≤ N) (h7 : S.1 25 7 = nI e) (hd : ∀ x, s ≤ x → x < e → 48 ≤ tp x) (k : Q (some (.int (nI (fv tp s (e - s))))) S) : ∀ (n : Nat) (j : Nat), s + j ≤ e → e - (s + j) < n → E sc mX4_valueOfFigures 7 [.ref 25, .int (nI (fv tp s j)), .int (nI (s + j))] [] S Q := by
  intro n
  induction n with
  | zero => intro j hj hn; exact absurd hn (by omega)
  | succ n ih =>
    intro j hj hn
    have hN := ht.1
    have hih := ih (j + 1)
    rw [fv, ← Nat.add_assoc] at hih
    refine e_iload_n (pc := 7) (i := 2) dX4_valueOfFigures_7 rfl rfl ?_
    refine e_aload_n (pc := 8) (i := 0) dX4_valueOfFigures_8 rfl rfl ?_
    refine e_getI (pc := 9) dX4_valueOfFigures_9 (fX4_37 rfl) sh_25 rfl ?_
    refine E.it (nI e) h7 ?_
    refine e_icmp_ge (pc := 12) (tgt := 39) dX4_valueOfFigures_12 (by decide) (fun h12 => ?_) (fun h12 => ?_)
    · replace h12 := (nI_leI (by omega) (by omega)).mp h12
      obtain rfl : j = e - s := by omega
      refine e_iload_n (pc := 39) (i := 1) dX4_valueOfFigures_39 rfl rfl ?_
      refine e_iret (pc := 40) (st := []) (ty := .int) dX4_valueOfFigures_40 rfl rfl ?_
      exact k
    · replace h12 := mt (nI_leI (by omega) (by omega)).mpr h12
      have hb := hd (s + j) (by omega) (by omega)
      refine e_bipush' (pc := 15) (nI 10) dX4_valueOfFigures_15 (by decide) ?_
      refine e_iload_n (pc := 17) (i := 1) dX4_valueOfFigures_17 rfl rfl ?_
      refine e_imul (pc := 18) dX4_valueOfFigures_18 ?_
      refine E.it (nI (10 * (fv tp s j))) (pk_mul _ _) ?_
      refine e_aload_n (pc := 19) (i := 0) dX4_valueOfFigures_19 rfl rfl ?_
      refine e_getR (pc := 20) dX4_valueOfFigures_20 (fX4_12 rfl) sh_25 rfl ?_
      refine e_getR (pc := 23) dX4_valueOfFigures_23 (fX4_96 rfl) sh_23 rfl ?_
      refine e_iload_n (pc := 26) (i := 2) dX4_valueOfFigures_26 rfl rfl ?_
      refine e_bald (pc := 27) dX4_valueOfFigures_27 sh_24 (vp_in_nI (by omega) (by omega)) ?_
      refine E.it (nI (tp (s + j))) (by rw [nI_clamp (by omega)]; exact (ht.2.2 (s + j) (by omega)).2) ?_
      refine e_iadd (pc := 28) dX4_valueOfFigures_28 ?_
      refine E.it (nI (10 * (fv tp s j) + tp (s + j))) (nI_add _ _) ?_
      refine e_bipush' (pc := 29) (nI 48) dX4_valueOfFigures_29 (by decide) ?_
      refine e_isub (pc := 31) dX4_valueOfFigures_31 ?_
      refine E.it (nI (10 * fv tp s j + tp (s + j) - 48)) (pk_sub (by omega)) ?_
      refine e_istore_n (pc := 32) (i := 1) dX4_valueOfFigures_32 rfl (by decide) rfl ?_
      refine e_iinc' (pc := 33) (nI (s + j + 1)) dX4_valueOfFigures_33 rfl (by decide) rfl (nI_1 _) ?_
      refine e_goto (pc := 36) (tgt := 7) dX4_valueOfFigures_36 (by decide) ?_
      exact hih (by omega) (by omega)
theorem sp_val {sc : PSc} {N : Nat} {tp : Nat → Nat} {S : PS} {Q : PQ} (ht : TpC S N tp) {s e : Nat} (hse : s ≤ e) (heN : e ≤ N) (h6 : S.1 25 6 = nI s) (h7 : S.1 25 7 = nI e) (hd : ∀ x, s ≤ x → x < e → 48 ≤ tp x) (k : Q (some (.int (nI (fv tp s (e - s))))) S) : E sc mX4_valueOfFigures 0 (pL0 mX4_valueOfFigures [.ref 25]) [] S Q := by
  show E sc mX4_valueOfFigures 0 [.ref 25, .null, .null] [] S Q
  refine e_iconst' (pc := 0) (nI 0) dX4_valueOfFigures_0 (by decide) ?_
  refine e_istore_n (pc := 1) (i := 1) dX4_valueOfFigures_1 rfl (by decide) rfl ?_
  refine e_aload_n (pc := 2) (i := 0) dX4_valueOfFigures_2 rfl rfl ?_
  refine e_getI (pc := 3) dX4_valueOfFigures_3 (fX4_93 rfl) sh_25 rfl ?_
  refine E.it (nI (s + 0)) h6 ?_
  refine e_istore_n (pc := 6) (i := 2) dX4_valueOfFigures_6 rfl (by decide) rfl ?_
  exact lp_val ht hse heN h7 hd k (e + 1) 0 (by omega) (by omega)
/-- all but the teller is as it was, and of it the lines, whether a count was told -/
def FrN (S S' : PS) : Prop := (∀ j, j ≠ 25 → S'.1 j = S.1 j) ∧ S'.1 25 3 = S.1 25 3 ∧ S'.1 25 4 = S.1 25 4
theorem FrN.rf {S : PS} : FrN S S := ⟨fun _ _ => rfl, rfl, rfl⟩
theorem FrN.tr {S S1 S2 : PS} (h : FrN S S1) (h2 : FrN S1 S2) : FrN S S2 := ⟨fun j a => (h2.1 j a).trans (h.1 j a), h2.2.1.trans h.2.1, h2.2.2.trans h.2.2⟩
theorem FrN.up {S S1 : PS} {k : Nat} {v : Int32} (h : FrN S S1) (h3 : k ≠ 3) (h4 : k ≠ 4) : FrN S (up2 S1.1 25 k v, S1.2) := by
  refine ⟨fun j a => (up2_ne _ _ _ a).trans (h.1 j a), ?_, ?_⟩
  · show up2 S1.1 25 k v 25 3 = _; rw [up2_at]; exact (if_neg (fun q => h3 q.symm)).trans h.2.1
  · show up2 S1.1 25 k v 25 4 = _; rw [up2_at]; exact (if_neg (fun q => h4 q.symm)).trans h.2.2
theorem TpC.n {S S' : PS} {N : Nat} {tp : Nat → Nat} (h : TpC S N tp) (hf : FrN S S') : TpC S' N tp := h.of (hf.1 23 (by decide)) (hf.1 24 (by decide))
def FailC (S : PS) (c s : Nat) : Prop := S.1 25 1 = nI c ∧ S.1 25 2 = nI s
/-- the token at p is the one read last -/
def CurC (S : PS) (N : Nat) (tp : Nat → Nat) (p : Nat) : Prop := S.1 25 5 = nI (tk N tp p) ∧ S.1 25 6 = nI (tst N tp p) ∧ (tk N tp p ≠ 0 → S.1 25 7 = nI (te N tp p)) ∧ (tk N tp p = 2 → S.1 25 8 = nI (tv N tp p))
theorem lp_skip {sc : PSc} {N : Nat} {tp : Nat → Nat} {S0 : PS} {Q : PQ} (ht : TpC S0 N tp) {p : Nat} (hp : p ≤ N) (k : ∀ S', S'.1 25 6 = nI (tst N tp p) → FrN S0 S' → S'.1 25 1 = S0.1 25 1 → E sc mX4_nextToken 52 [.ref 25, .null] [] S' Q) : ∀ (n : Nat) (q : Nat) (S : PS), q ≤ N → N - q < n → rn N (inB tp 32 32) p = rn N (inB tp 32 32) q → S.1 25 6 = nI q → FrN S0 S → S.1 25 1 = S0.1 25 1 → E sc mX4_nextToken 8 [.ref 25, .null] [] S Q := by
  intro n
  induction n with
  | zero => intro q S hq hn he h6 hf hf1; exact absurd hn (by omega)
  | succ n ih =>
    intro q S hq hn he h6 hf hf1
    have hN := ht.1
    have ht := ht.n hf
    refine e_aload_n (pc := 8) (i := 0) dX4_nextToken_8 rfl rfl ?_
    refine e_getI (pc := 9) dX4_nextToken_9 (fX4_93 rfl) sh_25 rfl ?_
    refine E.it (nI q) h6 ?_
    refine e_aload_n (pc := 12) (i := 0) dX4_nextToken_12 rfl rfl ?_
    refine e_getR (pc := 13) dX4_nextToken_13 (fX4_12 rfl) sh_25 rfl ?_
    refine e_getI (pc := 16) dX4_nextToken_16 (fX4_40 rfl) sh_23 rfl ?_
    refine E.it (nI N) ht.2.1 ?_
    refine e_icmp_ge (pc := 19) (tgt := 52) dX4_nextToken_19 (by decide) (fun h19 => ?_) (fun h19 => ?_)
    · replace h19 := (nI_leI (by omega) (by omega)).mp h19
      rw [rn_n (p := q) (by omega)] at he
      exact k S (h6.trans (congrArg nI he.symm)) hf hf1
    · replace h19 := mt (nI_leI (by omega) (by omega)).mpr h19
      have hb := (ht.2.2 q (by omega)).1
      refine e_aload_n (pc := 22) (i := 0) dX4_nextToken_22 rfl rfl ?_
      refine e_getR (pc := 23) dX4_nextToken_23 (fX4_12 rfl) sh_25 rfl ?_
      refine e_getR (pc := 26) dX4_nextToken_26 (fX4_96 rfl) sh_23 rfl ?_
      refine e_aload_n (pc := 29) (i := 0) dX4_nextToken_29 rfl rfl ?_
      refine e_getI (pc := 30) dX4_nextToken_30 (fX4_93 rfl) sh_25 rfl ?_
      refine E.it (nI q) h6 ?_
      refine e_bald (pc := 33) dX4_nextToken_33 sh_24 (vp_in_nI (by omega) (by omega)) ?_
      refine E.it (nI (tp q)) (by rw [nI_clamp (by omega)]; exact (ht.2.2 q (by omega)).2) ?_
      refine e_bipush' (pc := 34) (nI 32) dX4_nextToken_34 (by decide) ?_
      refine e_icmp_ne (pc := 36) (tgt := 52) dX4_nextToken_36 (by decide) (fun h36 => ?_) (fun h36 => ?_)
      · replace h36 := mt (nI_eq (by omega) (by omega)).mpr h36
        rw [rn_n (p := q) (fun _ => inB_n (by omega))] at he
        exact k S (h6.trans (congrArg nI he.symm)) hf hf1
      · replace h36 := (nI_eq (by omega) (by omega)).mp h36
        rw [rn_y (p := q) (by omega) (inB_y (by omega) (by omega))] at he
        refine e_aload_n (pc := 39) (i := 0) dX4_nextToken_39 rfl rfl ?_
        refine e_dup (pc := 40) dX4_nextToken_40 rfl ?_
        refine e_getI (pc := 41) dX4_nextToken_41 (fX4_93 rfl) sh_25 rfl ?_
        refine E.it (nI q) h6 ?_
        refine e_iconst' (pc := 44) (nI 1) dX4_nextToken_44 (by decide) ?_
        refine e_iadd (pc := 45) dX4_nextToken_45 ?_
        refine E.it (nI (q + 1)) (nI_add _ _) ?_
        refine e_putI (pc := 46) dX4_nextToken_46 (pX4_93 rfl) sh_25 rfl (fun h => by cases h) ?_
        refine e_goto (pc := 49) (tgt := 8) dX4_nextToken_49 (by decide) ?_
        exact ih (q + 1) _ (by omega) (by omega) he rfl (hf.up (by decide) (by decide)) hf1
theorem sp_nextToken {sc : PSc} {N : Nat} {tp : Nat → Nat} {S : PS} {Q : PQ} (ht : TpC S N tp) {p : Nat} (hp : p ≤ N) (h7 : S.1 25 7 = nI p) (kF : tk N tp p = 4 → ∀ S', FrN S S' → FailC S' 1 (tst N tp p) → Q (some (.int (nI 0))) S') (kO : tk N tp p ≠ 4 → ∀ S', FrN S S' → S'.1 25 1 = S.1 25 1 → CurC S' N tp p → Q (some (.int (nI 1))) S') : E sc mX4_nextToken 0 (pL0 mX4_nextToken [.ref 25]) [] S Q := by
  show E sc mX4_nextToken 0 [.ref 25, .null] [] S Q
  have hN := ht.1
  have hsb := tst_b (tp := tp) hp
  refine e_aload_n (pc := 0) (i := 0) dX4_nextToken_0 rfl rfl ?_
  refine e_aload_n (pc := 1) (i := 0) dX4_nextToken_1 rfl rfl ?_
  refine e_getI (pc := 2) dX4_nextToken_2 (fX4_37 rfl) sh_25 rfl ?_
  refine E.it (nI p) h7 ?_
  refine e_putI (pc := 5) dX4_nextToken_5 (pX4_93 rfl) sh_25 rfl (fun h => by cases h) ?_
  refine lp_skip (S0 := (up2 S.1 25 6 (nI p), S.2)) ht hp (fun S1 e6 f0 g1 => ?_) (N + 1) p _ hp (by omega) rfl rfl FrN.rf rfl
  have f1 : FrN S S1 := (FrN.rf.up (by decide) (by decide)).tr f0
  have ht := ht.n f1
  refine e_aload_n (pc := 52) (i := 0) dX4_nextToken_52 rfl rfl ?_
  refine e_getI (pc := 53) dX4_nextToken_53 (fX4_93 rfl) sh_25 rfl ?_
  refine E.it (nI (tst N tp p)) e6 ?_
  refine e_aload_n (pc := 56) (i := 0) dX4_nextToken_56 rfl rfl ?_
  refine e_getR (pc := 57) dX4_nextToken_57 (fX4_12 rfl) sh_25 rfl ?_
  refine e_getI (pc := 60) dX4_nextToken_60 (fX4_40 rfl) sh_23 rfl ?_
  refine E.it (nI N) ht.2.1 ?_
  refine e_icmp_lt (pc := 63) (tgt := 73) dX4_nextToken_63 (by decide) (fun h63 => ?_) (fun h63 => ?_)
  · replace h63 := (nI_ltI (by omega) (by omega)).mp h63
    have hb := (ht.2.2 _ h63).1
    refine e_aload_n (pc := 73) (i := 0) dX4_nextToken_73 rfl rfl ?_
    refine e_getR (pc := 74) dX4_nextToken_74 (fX4_12 rfl) sh_25 rfl ?_
    refine e_getR (pc := 77) dX4_nextToken_77 (fX4_96 rfl) sh_23 rfl ?_
    refine e_aload_n (pc := 80) (i := 0) dX4_nextToken_80 rfl rfl ?_
    refine e_getI (pc := 81) dX4_nextToken_81 (fX4_93 rfl) sh_25 rfl ?_
    refine E.it (nI (tst N tp p)) e6 ?_
    refine e_bald (pc := 84) dX4_nextToken_84 sh_24 (vp_in_nI (by omega) (by omega)) ?_
    refine E.it (nI (tp (tst N tp p))) (by rw [nI_clamp (by omega)]; exact (ht.2.2 (tst N tp p) (by omega)).2) ?_
    refine e_istore_n (pc := 85) (i := 1) dX4_nextToken_85 rfl (by decide) rfl ?_
    refine e_iload_n (pc := 86) (i := 1) dX4_nextToken_86 rfl rfl ?_
    refine e_bipush' (pc := 87) (nI 59) dX4_nextToken_87 (by decide) ?_
    refine e_icmp_ne (pc := 89) (tgt := 109) dX4_nextToken_89 (by decide) (fun h89 => ?_) (fun h89 => ?_)
    · replace h89 := mt (nI_eq (by omega) (by omega)).mpr h89
      refine e_iload_n (pc := 109) (i := 1) dX4_nextToken_109 rfl rfl ?_
      refine e_bipush' (pc := 110) (nI 97) dX4_nextToken_110 (by decide) ?_
      refine e_bipush' (pc := 112) (nI 122) dX4_nextToken_112 (by decide) ?_
      refine e_callS3 (pc := 114) (M' := mX5_within) dX4_nextToken_114 jX5_within lkX4_89 (by decide) (Nat.le_of_ble_eq_true rfl) (Nat.le_of_ble_eq_true rfl) ?_
      refine sp_winN (by omega) (by omega) (by omega) (fun z1 z2 => ?_) (fun z => ?_)
      · obtain ⟨hk, he⟩ := tk_n (tp := tp) (p := p) (by omega) (inB_y z1 z2)
        refine e_if_eq (pc := 117) (tgt := 139) dX4_nextToken_117 (by decide) (fun h117 => absurd h117 (by decide)) (fun h117 => ?_)
        refine e_aload_n (pc := 120) (i := 0) dX4_nextToken_120 rfl rfl ?_
        refine e_iconst' (pc := 121) (nI 1) dX4_nextToken_121 (by decide) ?_
        refine e_putI (pc := 122) dX4_nextToken_122 (pX4_47 rfl) sh_25 rfl (fun h => by cases h) ?_
        refine e_aload_n (pc := 125) (i := 0) dX4_nextToken_125 rfl rfl ?_
        refine e_aload_n (pc := 126) (i := 0) dX4_nextToken_126 rfl rfl ?_
        refine e_bipush' (pc := 127) (nI 97) dX4_nextToken_127 (by decide) ?_
        refine e_bipush' (pc := 129) (nI 122) dX4_nextToken_129 (by decide) ?_
        refine e_callV2 (pc := 131) (M' := mX4_endOfRun) dX4_nextToken_131 iX4_endOfRun lkX4_100 (by decide) (rO_obj sh_25 rfl) (Nat.le_of_ble_eq_true rfl) (Nat.le_of_ble_eq_true rfl) ?_
        refine sp_run (S := (up2 S1.1 25 5 (nI 1), S1.2)) (l := 97) (h := 122) (s := tst N tp p) ht (by omega) (by omega) (by omega) e6 ?_
        rw [← he]
        refine e_putI (pc := 134) dX4_nextToken_134 (pX4_37 rfl) sh_25 rfl (fun h => by cases h) ?_
        refine e_iconst' (pc := 137) (nI 1) dX4_nextToken_137 (by decide) ?_
        refine e_iret (pc := 138) (st := []) (ty := .boolean) dX4_nextToken_138 rfl rfl ?_
        refine kO (by rw [hk]; decide) _ ((f1.up (by decide) (by decide)).up (by decide) (by decide)) g1 ⟨?_, e6, fun _ => rfl, fun q => by rw [hk] at q; cases q⟩
        rw [hk]; rfl
      · refine e_if_eq (pc := 117) (tgt := 139) dX4_nextToken_117 (by decide) (fun h117 => ?_) (fun h117 => absurd rfl h117)
        refine e_iload_n (pc := 139) (i := 1) dX4_nextToken_139 rfl rfl ?_
        refine e_bipush' (pc := 140) (nI 48) dX4_nextToken_140 (by decide) ?_
        refine e_bipush' (pc := 142) (nI 57) dX4_nextToken_142 (by decide) ?_
        refine e_callS3 (pc := 144) (M' := mX5_within) dX4_nextToken_144 jX5_within lkX4_89 (by decide) (Nat.le_of_ble_eq_true rfl) (Nat.le_of_ble_eq_true rfl) ?_
        refine sp_winN (by omega) (by omega) (by omega) (fun y1 y2 => ?_) (fun y => ?_)
        · obtain ⟨hk, he⟩ := tk_d (tp := tp) (p := p) (by omega) (inB_y y1 y2)
          have hse := rn_s (N := N) (P := inB tp 48 57) h63 (inB_y y1 y2)
          have hsb := rn_b (N := N) (P := inB tp 48 57) (p := tst N tp p) (by omega)
          rw [← he] at hse hsb
          refine e_if_ne (pc := 147) (tgt := 156) dX4_nextToken_147 (by decide) (fun h147 => ?_) (fun h147 => absurd h147 (by decide))
          refine e_aload_n (pc := 156) (i := 0) dX4_nextToken_156 rfl rfl ?_
          refine e_iconst' (pc := 157) (nI 2) dX4_nextToken_157 (by decide) ?_
          refine e_putI (pc := 158) dX4_nextToken_158 (pX4_47 rfl) sh_25 rfl (fun h => by cases h) ?_
          refine e_aload_n (pc := 161) (i := 0) dX4_nextToken_161 rfl rfl ?_
          refine e_aload_n (pc := 162) (i := 0) dX4_nextToken_162 rfl rfl ?_
          refine e_bipush' (pc := 163) (nI 48) dX4_nextToken_163 (by decide) ?_
          refine e_bipush' (pc := 165) (nI 57) dX4_nextToken_165 (by decide) ?_
          refine e_callV2 (pc := 167) (M' := mX4_endOfRun) dX4_nextToken_167 iX4_endOfRun lkX4_100 (by decide) (rO_obj sh_25 rfl) (Nat.le_of_ble_eq_true rfl) (Nat.le_of_ble_eq_true rfl) ?_
          refine sp_run (S := (up2 S1.1 25 5 (nI 2), S1.2)) (l := 48) (h := 57) (s := tst N tp p) ht (by omega) (by omega) (by omega) e6 ?_
          rw [← he]
          refine e_putI (pc := 170) dX4_nextToken_170 (pX4_37 rfl) sh_25 rfl (fun h => by cases h) ?_
          refine e_aload_n (pc := 173) (i := 0) dX4_nextToken_173 rfl rfl ?_
          refine e_aload_n (pc := 174) (i := 0) dX4_nextToken_174 rfl rfl ?_
          refine e_callV0 (pc := 175) (M' := mX4_valueOfFigures) dX4_nextToken_175 iX4_valueOfFigures lkX4_104 (by decide) (rO_obj sh_25 rfl) (Nat.le_of_ble_eq_true rfl) (Nat.le_of_ble_eq_true rfl) ?_
          refine sp_val (s := tst N tp p) (e := te N tp p) ht (by omega) (by omega) e6 rfl (fun x h1 h2 => (inB_i (rn_all (N := N) (P := inB tp 48 57) (p := tst N tp p) h1 (by rw [← he]; exact h2))).1) ?_
          refine e_putI (pc := 178) dX4_nextToken_178 (pX4_79 rfl) sh_25 rfl (fun h => by cases h) ?_
          refine e_aload_n (pc := 181) (i := 0) dX4_nextToken_181 rfl rfl ?_
          refine e_getI (pc := 182) dX4_nextToken_182 (fX4_37 rfl) sh_25 rfl ?_
          refine E.it (nI (te N tp p)) rfl ?_
          refine e_aload_n (pc := 185) (i := 0) dX4_nextToken_185 rfl rfl ?_
          refine e_getI (pc := 186) dX4_nextToken_186 (fX4_93 rfl) sh_25 rfl ?_
          refine E.it (nI (tst N tp p)) e6 ?_
          refine e_isub (pc := 189) dX4_nextToken_189 ?_
          refine E.it (nI (te N tp p - tst N tp p)) (pk_sub (by omega)) ?_
          refine e_iconst' (pc := 190) (nI 2) dX4_nextToken_190 (by decide) ?_
          refine e_icmp_le (pc := 191) (tgt := 202) dX4_nextToken_191 (by decide) (fun h191 => ?_) (fun h191 => ?_)
          · replace h191 := (nI_leI (by omega) (by omega)).mp h191
            rw [if_pos h191] at hk
            refine e_iconst' (pc := 202) (nI 1) dX4_nextToken_202 (by decide) ?_
            refine e_goto (pc := 203) (tgt := 207) dX4_nextToken_203 (by decide) ?_
            refine e_iret (pc := 207) (st := []) (ty := .boolean) dX4_nextToken_207 rfl rfl ?_
            refine kO (by rw [hk]; decide) _ (((f1.up (by decide) (by decide)).up (by decide) (by decide)).up (by decide) (by decide)) g1 ⟨?_, e6, fun _ => rfl, fun _ => rfl⟩
            rw [hk]; rfl
          · replace h191 := mt (nI_leI (by omega) (by omega)).mpr h191
            rw [if_neg h191] at hk
            refine e_aload_n (pc := 194) (i := 0) dX4_nextToken_194 rfl rfl ?_
            refine e_iconst' (pc := 195) (nI 1) dX4_nextToken_195 (by decide) ?_
            refine e_callV1 (pc := 196) (M' := mX4_fail) dX4_nextToken_196 iX4_fail lkX4_54 (by decide) (rO_obj sh_25 rfl) (Nat.le_of_ble_eq_true rfl) (Nat.le_of_ble_eq_true rfl) ?_
            refine sp_failC (s := tst N tp p) e6 ?_
            refine e_if_eq (pc := 199) (tgt := 206) dX4_nextToken_199 (by decide) (fun h199 => ?_) (fun h199 => absurd (by decide) h199)
            refine e_iconst' (pc := 206) (nI 0) dX4_nextToken_206 (by decide) ?_
            refine e_iret (pc := 207) (st := []) (ty := .boolean) dX4_nextToken_207 rfl rfl ?_
            exact kF hk _ (((((f1.up (by decide) (by decide)).up (by decide) (by decide)).up (by decide) (by decide)).up (by decide) (by decide)).up (by decide) (by decide)) ⟨rfl, rfl⟩
        · refine e_if_ne (pc := 147) (tgt := 156) dX4_nextToken_147 (by decide) (fun h147 => absurd rfl h147) (fun h147 => ?_)
          refine e_aload_n (pc := 150) (i := 0) dX4_nextToken_150 rfl rfl ?_
          refine e_iconst' (pc := 151) (nI 1) dX4_nextToken_151 (by decide) ?_
          refine e_callV1 (pc := 152) (M' := mX4_fail) dX4_nextToken_152 iX4_fail lkX4_54 (by decide) (rO_obj sh_25 rfl) (Nat.le_of_ble_eq_true rfl) (Nat.le_of_ble_eq_true rfl) ?_
          refine sp_failC (s := tst N tp p) e6 ?_
          refine e_iret (pc := 155) (st := []) (ty := .boolean) dX4_nextToken_155 rfl rfl ?_
          exact kF (tk_x (by omega) h89 (inB_n z) (inB_n y)) _ ((f1.up (by decide) (by decide)).up (by decide) (by decide)) ⟨rfl, rfl⟩
    · replace h89 := (nI_eq (by omega) (by omega)).mp h89
      obtain ⟨hk, he⟩ := tk_s (tp := tp) (p := p) (by omega) h89
      refine e_aload_n (pc := 92) (i := 0) dX4_nextToken_92 rfl rfl ?_
      refine e_iconst' (pc := 93) (nI 3) dX4_nextToken_93 (by decide) ?_
      refine e_putI (pc := 94) dX4_nextToken_94 (pX4_47 rfl) sh_25 rfl (fun h => by cases h) ?_
      refine e_aload_n (pc := 97) (i := 0) dX4_nextToken_97 rfl rfl ?_
      refine e_aload_n (pc := 98) (i := 0) dX4_nextToken_98 rfl rfl ?_
      refine e_getI (pc := 99) dX4_nextToken_99 (fX4_93 rfl) sh_25 rfl ?_
      refine E.it (nI (tst N tp p)) e6 ?_
      refine e_iconst' (pc := 102) (nI 1) dX4_nextToken_102 (by decide) ?_
      refine e_iadd (pc := 103) dX4_nextToken_103 ?_
      refine E.it (nI (tst N tp p + 1)) (nI_add _ _) ?_
      refine e_putI (pc := 104) dX4_nextToken_104 (pX4_37 rfl) sh_25 rfl (fun h => by cases h) ?_
      refine e_iconst' (pc := 107) (nI 1) dX4_nextToken_107 (by decide) ?_
      refine e_iret (pc := 108) (st := []) (ty := .boolean) dX4_nextToken_108 rfl rfl ?_
      refine kO (by rw [hk]; decide) _ ((f1.up (by decide) (by decide)).up (by decide) (by decide)) g1 ⟨?_, e6, fun _ => ?_, fun q => by rw [hk] at q; cases q⟩
      · rw [hk]; rfl
      · rw [he]; rfl
  · replace h63 := mt (nI_ltI (by omega) (by omega)).mpr h63
    have hk0 := tk_0 (tp := tp) (p := p) (show N ≤ tst N tp p by omega)
    refine e_aload_n (pc := 66) (i := 0) dX4_nextToken_66 rfl rfl ?_
    refine e_iconst' (pc := 67) (nI 0) dX4_nextToken_67 (by decide) ?_
    refine e_putI (pc := 68) dX4_nextToken_68 (pX4_47 rfl) sh_25 rfl (fun h => by cases h) ?_
    refine e_iconst' (pc := 71) (nI 1) dX4_nextToken_71 (by decide) ?_
    refine e_iret (pc := 72) (st := []) (ty := .boolean) dX4_nextToken_72 rfl rfl ?_
    refine kO (by rw [hk0]; decide) _ (f1.up (by decide) (by decide)) g1 ⟨?_, e6, fun q => absurd hk0 q, fun q => by rw [hk0] at q; cases q⟩
    rw [hk0]; rfl
abbrev Res : Type := (Nat × Nat) ⊕ (Rw × Bool × Nat)
/-- a number within bounds at p; the line's end at p -/
def nB (N : Nat) (tp : Nat → Nat) (l h p : Nat) (co : Res) : Res := if tk N tp p = 4 then .inl (1, tst N tp p) else if tk N tp p = 2 then (if l ≤ tv N tp p ∧ tv N tp p ≤ h then co else .inl (3, tst N tp p)) else .inl (2, tst N tp p)
def eB (N : Nat) (tp : Nat → Nat) (p : Nat) (co : Res) : Res := if tk N tp p = 4 then .inl (1, tst N tp p) else if tk N tp p = 3 then co else .inl (2, tst N tp p)
theorem sp_nextNumber {sc : PSc} {N : Nat} {tp : Nat → Nat} {S : PS} {Q : PQ} (ht : TpC S N tp) {p l h : Nat} (hp : p ≤ N) (h7 : S.1 25 7 = nI p) (hlh : l ≤ h) (hh : h < 128) (kF : ∀ c s, (∀ co, nB N tp l h p co = .inl (c, s)) → ∀ S', FrN S S' → FailC S' c s → Q (some (.int (nI 0))) S') (kO : tk N tp p = 2 → l ≤ tv N tp p → tv N tp p ≤ h → (∀ co, nB N tp l h p co = co) → ∀ S', FrN S S' → S'.1 25 1 = S.1 25 1 → CurC S' N tp p → Q (some (.int (nI 1))) S') : E sc mX4_nextNumber 0 (pL0 mX4_nextNumber [.ref 25, .int (nI l), .int (nI h)]) [] S Q := by
  show E sc mX4_nextNumber 0 [.ref 25, .int (nI l), .int (nI h)] [] S Q
  have htk := tk_le (N := N) (tp := tp) (p := p)
  refine e_aload_n (pc := 0) (i := 0) dX4_nextNumber_0 rfl rfl ?_
  refine e_callV0 (pc := 1) (M' := mX4_nextToken) dX4_nextNumber_1 iX4_nextToken lkX4_43 (by decide) (rO_obj sh_25 rfl) (Nat.le_of_ble_eq_true rfl) (Nat.le_of_ble_eq_true rfl) ?_
  refine sp_nextToken ht hp h7 (fun k4 S1 f1 g1 => ?_) (fun k4 S1 f1 g1 c1 => ?_)
  · refine e_if_ne (pc := 4) (tgt := 9) dX4_nextNumber_4 (by decide) (fun h4 => absurd rfl h4) (fun h4 => ?_)
    refine e_iconst' (pc := 7) (nI 0) dX4_nextNumber_7 (by decide) ?_
    refine e_iret (pc := 8) (st := []) (ty := .boolean) dX4_nextNumber_8 rfl rfl ?_
    exact kF 1 _ (fun co => by unfold nB; rw [if_pos k4]) S1 f1 g1
  · refine e_if_ne (pc := 4) (tgt := 9) dX4_nextNumber_4 (by decide) (fun h4 => ?_) (fun h4 => absurd h4 (by decide))
    refine e_aload_n (pc := 9) (i := 0) dX4_nextNumber_9 rfl rfl ?_
    refine e_getI (pc := 10) dX4_nextNumber_10 (fX4_47 rfl) sh_25 rfl ?_
    refine E.it (nI (tk N tp p)) c1.1 ?_
    refine e_iconst' (pc := 13) (nI 2) dX4_nextNumber_13 (by decide) ?_
    refine e_icmp_eq (pc := 14) (tgt := 23) dX4_nextNumber_14 (by decide) (fun h14 => ?_) (fun h14 => ?_)
    · replace h14 := (nI_eq (by omega) (by omega)).mp h14
      have hv := (tv_le h14).1
      refine e_aload_n (pc := 23) (i := 0) dX4_nextNumber_23 rfl rfl ?_
      refine e_getI (pc := 24) dX4_nextNumber_24 (fX4_79 rfl) sh_25 rfl ?_
      refine E.it (nI (tv N tp p)) (c1.2.2.2 h14) ?_
      refine e_iload_n (pc := 27) (i := 1) dX4_nextNumber_27 rfl rfl ?_
      refine e_iload_n (pc := 28) (i := 2) dX4_nextNumber_28 rfl rfl ?_
      refine e_callS3 (pc := 29) (M' := mX5_within) dX4_nextNumber_29 jX5_within lkX4_89 (by decide) (Nat.le_of_ble_eq_true rfl) (Nat.le_of_ble_eq_true rfl) ?_
      refine sp_winN (by omega) hlh (by omega) (fun z1 z2 => ?_) (fun z => ?_)
      · refine e_if_ne (pc := 32) (tgt := 43) dX4_nextNumber_32 (by decide) (fun h32 => ?_) (fun h32 => absurd h32 (by decide))
        refine e_iconst' (pc := 43) (nI 1) dX4_nextNumber_43 (by decide) ?_
        refine e_goto (pc := 44) (tgt := 48) dX4_nextNumber_44 (by decide) ?_
        refine e_iret (pc := 48) (st := []) (ty := .boolean) dX4_nextNumber_48 rfl rfl ?_
        exact kO h14 z1 z2 (fun co => by unfold nB; rw [if_neg k4, if_pos h14, if_pos ⟨z1, z2⟩]) S1 f1 g1 c1
      · refine e_if_ne (pc := 32) (tgt := 43) dX4_nextNumber_32 (by decide) (fun h32 => absurd rfl h32) (fun h32 => ?_)
        refine e_aload_n (pc := 35) (i := 0) dX4_nextNumber_35 rfl rfl ?_
        refine e_iconst' (pc := 36) (nI 3) dX4_nextNumber_36 (by decide) ?_
        refine e_callV1 (pc := 37) (M' := mX4_fail) dX4_nextNumber_37 iX4_fail lkX4_54 (by decide) (rO_obj sh_25 rfl) (Nat.le_of_ble_eq_true rfl) (Nat.le_of_ble_eq_true rfl) ?_
        refine sp_failC (s := tst N tp p) c1.2.1 ?_
        refine e_if_eq (pc := 40) (tgt := 47) dX4_nextNumber_40 (by decide) (fun h40 => ?_) (fun h40 => absurd (by decide) h40)
        refine e_iconst' (pc := 47) (nI 0) dX4_nextNumber_47 (by decide) ?_
        refine e_iret (pc := 48) (st := []) (ty := .boolean) dX4_nextNumber_48 rfl rfl ?_
        exact kF 3 _ (fun co => by unfold nB; rw [if_neg k4, if_pos h14, if_neg z]) _ ((f1.up (by decide) (by decide)).up (by decide) (by decide)) ⟨rfl, rfl⟩
    · replace h14 := mt (nI_eq (by omega) (by omega)).mpr h14
      refine e_aload_n (pc := 17) (i := 0) dX4_nextNumber_17 rfl rfl ?_
      refine e_iconst' (pc := 18) (nI 2) dX4_nextNumber_18 (by decide) ?_
      refine e_callV1 (pc := 19) (M' := mX4_fail) dX4_nextNumber_19 iX4_fail lkX4_54 (by decide) (rO_obj sh_25 rfl) (Nat.le_of_ble_eq_true rfl) (Nat.le_of_ble_eq_true rfl) ?_
      refine sp_failC (s := tst N tp p) c1.2.1 ?_
      refine e_iret (pc := 22) (st := []) (ty := .boolean) dX4_nextNumber_22 rfl rfl ?_
      exact kF 2 _ (fun co => by unfold nB; rw [if_neg k4, if_neg h14]) _ ((f1.up (by decide) (by decide)).up (by decide) (by decide)) ⟨rfl, rfl⟩
theorem sp_lineEnds {sc : PSc} {N p : Nat} {tp : Nat → Nat} {S : PS} {Q : PQ} (c1 : CurC S N tp p) (kF : tk N tp p ≠ 3 → FailC (up2 (up2 S.1 25 1 (nI 2)) 25 2 (nI (tst N tp p)), S.2) 2 (tst N tp p) → Q (some (.int (nI 0))) (up2 (up2 S.1 25 1 (nI 2)) 25 2 (nI (tst N tp p)), S.2)) (kO : tk N tp p = 3 → Q (some (.int (nI 1))) S) : E sc mX4_lineEnds 0 (pL0 mX4_lineEnds [.ref 25]) [] S Q := by
  show E sc mX4_lineEnds 0 [.ref 25] [] S Q
  have htk := tk_le (N := N) (tp := tp) (p := p)
  refine e_aload_n (pc := 0) (i := 0) dX4_lineEnds_0 rfl rfl ?_
  refine e_getI (pc := 1) dX4_lineEnds_1 (fX4_47 rfl) sh_25 rfl ?_
  refine E.it (nI (tk N tp p)) c1.1 ?_
  refine e_iconst' (pc := 4) (nI 3) dX4_lineEnds_4 (by decide) ?_
  refine e_icmp_eq (pc := 5) (tgt := 16) dX4_lineEnds_5 (by decide) (fun h5 => ?_) (fun h5 => ?_)
  · replace h5 := (nI_eq (by omega) (by omega)).mp h5
    refine e_iconst' (pc := 16) (nI 1) dX4_lineEnds_16 (by decide) ?_
    refine e_goto (pc := 17) (tgt := 21) dX4_lineEnds_17 (by decide) ?_
    refine e_iret (pc := 21) (st := []) (ty := .boolean) dX4_lineEnds_21 rfl rfl ?_
    exact kO h5
  · replace h5 := mt (nI_eq (by omega) (by omega)).mpr h5
    refine e_aload_n (pc := 8) (i := 0) dX4_lineEnds_8 rfl rfl ?_
    refine e_iconst' (pc := 9) (nI 2) dX4_lineEnds_9 (by decide) ?_
    refine e_callV1 (pc := 10) (M' := mX4_fail) dX4_lineEnds_10 iX4_fail lkX4_54 (by decide) (rO_obj sh_25 rfl) (Nat.le_of_ble_eq_true rfl) (Nat.le_of_ble_eq_true rfl) ?_
    refine sp_failC (s := tst N tp p) c1.2.1 ?_
    refine e_if_eq (pc := 13) (tgt := 20) dX4_lineEnds_13 (by decide) (fun h13 => ?_) (fun h13 => absurd (by decide) h13)
    refine e_iconst' (pc := 20) (nI 0) dX4_lineEnds_20 (by decide) ?_
    refine e_iret (pc := 21) (st := []) (ty := .boolean) dX4_lineEnds_21 rfl rfl ?_
    exact kF h5 ⟨rfl, rfl⟩

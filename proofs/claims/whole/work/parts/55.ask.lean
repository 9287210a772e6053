theorem bit1 (B a : Nat) (ha : a < 31) : (nI B >>> (nI a &&& 31)) &&& nI 1 = nI (if B.testBit a then 1 else 0) := b_ext (fun i hi => by
  have e : bt ((nI B >>> (nI a &&& 31)) &&& nI 1) i = (bt (nI B >>> (nI a &&& 31)) i && bt (nI 1) i) := by unfold bt; rw [Int32.toBitVec_and, BitVec.getLsbD_and]
  have n1 : ∀ n j, j < 32 → bt (nI n) j = n.testBit j := fun n j hj => by
    show (BitVec.ofNat 32 n).getLsbD j = _
    rw [BitVec.getLsbD_ofNat]; simp [hj]
  rw [e, b_sshr a (by omega) _ hi, n1 1 i hi, n1 _ i hi]
  by_cases h0 : i = 0
  · subst h0
    rw [if_pos (by omega), n1 B _ (by omega), Nat.add_zero]
    cases B.testBit a <;> rfl
  · have t1 : (1 : Nat).testBit i = false := Nat.testBit_lt_two_pow (Nat.one_lt_two_pow h0)
    rw [t1, Bool.and_false]
    cases B.testBit a
    · exact (Nat.zero_testBit i).symm
    · exact t1.symm)
theorem bitsF_tb (p : Nat → Bool) : ∀ n j, (bitsF p n).testBit j = (decide (j < n) && p j)
  | 0, j => by rw [bitsF, Nat.zero_testBit]; simp
  | n + 1, j => by
    rw [bitsF]
    by_cases e : j = n
    · subst e
      have h1 : decide (j < j + 1) = true := decide_eq_true (by omega)
      have h2 : decide (j < j) = false := decide_eq_false (by omega)
      cases h : p j
      · rw [if_neg (by decide), bitsF_tb p j j, h2, h1]; rfl
      · rw [if_pos rfl, Nat.testBit_or, bitsF_tb p j j, Nat.testBit_two_pow, h1, h]; simp
    · have h1 : decide (j < n + 1) = decide (j < n) := decide_eq_decide.mpr (by omega)
      have h2 : decide (n = j) = false := decide_eq_false (fun q => e q.symm)
      rw [h1]
      cases p n
      · rw [if_neg (by decide), bitsF_tb p n j]
      · rw [if_pos rfl, Nat.testBit_or, bitsF_tb p n j, Nat.testBit_two_pow, h2, Bool.or_false]
theorem bitp {p : Nat → Bool} {a : Nat} (ha : a < 13) : (nI (bitsF p 13) >>> (nI a &&& 31)) &&& nI 1 = nI (if p a then 1 else 0) := by
  rw [bit1 _ _ (by omega), bitsF_tb, decide_eq_true ha, Bool.true_and]
/-- those below n of which p holds, in their order -/
def en (p : Nat → Bool) : Nat → Nat → Nat
  | 0, _ => 0
  | k + 1, i => if p k = true ∧ i = fa_cnt p k then k else en p k i
theorem en_lt {p : Nat → Bool} : ∀ n i, i < fa_cnt p n → en p n i < n ∧ p (en p n i) = true
  | 0, i, h => absurd h (Nat.not_lt_zero i)
  | n + 1, i, h => by
    rw [en]
    by_cases e : p n = true ∧ i = fa_cnt p n
    · rw [if_pos e]; exact ⟨by omega, e.1⟩
    · rw [if_neg e]
      have h2 : i < fa_cnt p n := by
        cases hp : p n
        · rw [fa_cnt_no hp] at h; exact h
        · rw [fa_cnt_yes hp] at h
          have : ¬ i = fa_cnt p n := fun q => e ⟨hp, q⟩
          omega
      obtain ⟨a, b⟩ := en_lt n i h2
      exact ⟨by omega, b⟩
theorem en_sur {p : Nat → Bool} : ∀ n b, b < n → p b = true → ∃ i, i < fa_cnt p n ∧ en p n i = b
  | 0, b, h, _ => absurd h (Nat.not_lt_zero b)
  | n + 1, b, h, hp => by
    by_cases e : b = n
    · subst e
      exact ⟨fa_cnt p b, by rw [fa_cnt_yes hp]; omega, by rw [en]; exact if_pos ⟨hp, rfl⟩⟩
    · obtain ⟨i, hi, he⟩ := en_sur n b (by omega) hp
      refine ⟨i, ?_, ?_⟩
      · rw [fa_cnt]; omega
      · rw [en, if_neg (fun q => by omega)]; exact he
theorem en_cnt {p q : Nat → Bool} : ∀ n, fa_cnt (fun o => q (en p n o)) (fa_cnt p n) = fa_cnt (fun b => p b && q b) n
  | 0 => rfl
  | n + 1 => by
    have ih := en_cnt (p := p) (q := q) n
    have hc : fa_cnt (fun o => q (en p (n + 1) o)) (fa_cnt p n) = fa_cnt (fun o => q (en p n o)) (fa_cnt p n) := fa_cnt_cong (fun k hk => by
      show q (en p (n + 1) k) = q (en p n k)
      rw [en, if_neg (fun z => by omega)])
    cases hp : p n
    · rw [fa_cnt_no hp, fa_cnt_no (by show (p n && q n) = false; rw [hp]; rfl), hc, ih]
    · rw [fa_cnt_yes hp, fa_cnt, fa_cnt, hc, ih]
      show fa_cnt _ n + (if q (en p (n + 1) (fa_cnt p n)) = true then 1 else 0) = fa_cnt _ n + (if (p n && q n) = true then 1 else 0)
      rw [en, if_pos (show p n = true ∧ fa_cnt p n = fa_cnt p n from ⟨hp, rfl⟩), hp, Bool.true_and]
/-- the greatest of A below n -/
def wm (A : Nat → Nat) : Nat → Nat
  | 0 => 0
  | k + 1 => if wm A k < A k then A k else wm A k
theorem wm_le {A : Nat → Nat} : ∀ n a, a < n → A a ≤ wm A n
  | 0, a, h => absurd h (Nat.not_lt_zero a)
  | n + 1, a, h => by
    rw [wm]
    by_cases e : a = n
    · subst e; split <;> omega
    · have := wm_le (A := A) n a (by omega)
      split <;> omega
theorem wm_at {A : Nat → Nat} : ∀ n, wm A n = 0 ∨ ∃ a, a < n ∧ A a = wm A n
  | 0 => Or.inl rfl
  | n + 1 => by
    rw [wm]
    split
    · exact Or.inr ⟨n, by omega, rfl⟩
    · rcases wm_at (A := A) n with h | ⟨a, h1, h2⟩
      · exact Or.inl h
      · exact Or.inr ⟨a, by omega, h2⟩
theorem wm_b {A : Nat → Nat} {b : Nat} (h : ∀ a, A a ≤ b) : ∀ n, wm A n ≤ b
  | 0 => Nat.zero_le _
  | n + 1 => by rw [wm]; split; exact h n; exact wm_b h n
/-- how many of the first n have the value x -/
def cA (g : Nat → Nat) (x n : Nat) : Nat := fa_cnt (fun o => decide (g o = x)) n
theorem cA_s {g : Nat → Nat} {x n : Nat} : cA g x (n + 1) = cA g x n + if g n = x then 1 else 0 := by
  unfold cA
  rw [fa_cnt]
  by_cases h : g n = x
  · rw [if_pos (decide_eq_true h), if_pos h]
  · rw [if_neg (by rw [decide_eq_false h]; decide), if_neg h]
theorem cA_d {g : Nat → Nat} {x a : Nat} : ∀ d, cA g x (a + d) ≤ cA g x a + d
  | 0 => Nat.le_refl _
  | d + 1 => by
    have := cA_d (g := g) (x := x) (a := a) d
    rw [← Nat.add_assoc, cA_s]
    split <;> omega
/-- how many teeth that p leaves read as tooth a does -/
def al (p : Nat → Bool) (f : Nat → Nat) (a : Nat) : Nat := if p a then fa_cnt (fun b => p b && decide (f b = f a)) 13 else 0
theorem al_le (p : Nat → Bool) (f : Nat → Nat) (a : Nat) : al p f a ≤ 13 := by
  unfold al
  split
  · exact fa_cnt_le _ 13
  · omega
theorem al_en {p : Nat → Bool} {f : Nat → Nat} {i : Nat} (h : i < fa_cnt p 13) : cA (fun o => f (en p 13 o)) (f (en p 13 i)) (fa_cnt p 13) = al p f (en p 13 i) := by
  unfold al cA
  rw [if_pos (en_lt 13 i h).2]
  exact en_cnt (p := p) (q := fun b => decide (f b = f (en p 13 i))) 13
/-- the least of f below n, and where, beside what was there before -/
def bw (W : Nat → Nat) (m : Nat) : Nat → Nat × Int32
  | 0 => (m, -4)
  | k + 1 => if W k < (bw W m k).1 then (W k, nI k) else bw W m k
theorem bw_le {W : Nat → Nat} {m : Nat} : ∀ n, (bw W m n).1 ≤ m
  | 0 => Nat.le_refl _
  | n + 1 => by
    have := bw_le (W := W) (m := m) n
    rw [bw]; split
    · show W n ≤ m; omega
    · exact this
theorem bw_n {W : Nat → Nat} {m : Nat} : ∀ n, n < 2 ^ 31 → ((bw W m n).2 = -4 ↔ ∀ k, k < n → ¬ W k < (bw W m k).1)
  | 0, _ => ⟨fun _ k hk => by omega, fun _ => rfl⟩
  | n + 1, h => by
    rw [bw]
    by_cases e : W n < (bw W m n).1
    · rw [if_pos e]
      refine ⟨fun q => ?_, fun q => absurd e (q n (by omega))⟩
      have z : ¬ nI n < 0 := nI_pos (by omega)
      rw [show nI n = -4 from q] at z
      exact absurd (by decide) z
    · rw [if_neg e]
      exact (bw_n n (by omega)).trans ⟨fun q k hk => by by_cases c : k = n; (subst c; exact e); exact q k (by omega), fun q k hk => q k (by omega)⟩
/-- the class's rows of readings: cells 41 on -/
theorem rd_sh {i : Nat} (h : i < 13) : shps[41 + i]? = some (.inr (.inl (0, 201))) := by
  rcases (show i = 0 ∨ i = 1 ∨ i = 2 ∨ i = 3 ∨ i = 4 ∨ i = 5 ∨ i = 6 ∨ i = 7 ∨ i = 8 ∨ i = 9 ∨ i = 10 ∨ i = 11 ∨ i = 12 by omega) with rfl | rfl | rfl | rfl | rfl | rfl | rfl | rfl | rfl | rfl | rfl | rfl | rfl <;> decide +kernel
theorem rd_at {i : Nat} (h : i < 13) : [41, 42, 43, 44, 45, 46, 47, 48, 49, 50, 51, 52, 53][(nI i).toNatClampNeg]? = some (41 + i) := by
  rw [nI_clamp (by omega)]
  rcases (show i = 0 ∨ i = 1 ∨ i = 2 ∨ i = 3 ∨ i = 4 ∨ i = 5 ∨ i = 6 ∨ i = 7 ∨ i = 8 ∨ i = 9 ∨ i = 10 ∨ i = 11 ∨ i = 12 by omega) with rfl | rfl | rfl | rfl | rfl | rfl | rfl | rfl | rfl | rfl | rfl | rfl | rfl <;> rfl
def FrA (S S' : PS) : Prop := ∀ j, (j ≤ 5 ∨ (11 ≤ j ∧ j ≤ 38) ∨ 54 ≤ j) → S'.1 j = S.1 j
theorem FrA.rf {S : PS} : FrA S S := fun _ _ => rfl
theorem FrA.tr {S S1 S2 : PS} (h : FrA S S1) (h2 : FrA S1 S2) : FrA S S2 := fun j a => (h2 j a).trans (h j a)
theorem FrA.of {S S' : PS} (h : Fr 6 5 S S') : FrA S S' := fun j a => h.2 j (by omega)
theorem FrA.same {S S' : PS} (h : FrA S S') : Same S S' := ⟨fun j a => h j (by omega), fun k _ => by rw [h 54 (by omega)], fun k _ => by rw [h 55 (by omega)], fun j a => h j (by omega)⟩
theorem FrA.row {S S' : PS} {R : Rw} (h : FrA S S') (hr : RowAt S 1 R) : RowAt S' 1 R := h.same.row (by omega) hr
theorem RowAt.u6 {S : PS} {R : Rw} {c k : Nat} {v : Int32} (h : RowAt S 6 R) (hc : 11 ≤ c) : RowAt (up2 S.1 c k v, S.2) 6 R := by
  have e : ∀ q, 6 ≤ q → q < 11 → up2 S.1 c k v q = S.1 q := fun q h1 h2 => up2_ne _ _ _ (by omega)
  obtain ⟨a, b, d⟩ := h
  refine ⟨(congrFun (e 6 (by omega) (by omega)) 0).trans a, (congrFun (e 6 (by omega) (by omega)) 1).trans b, fun w hw => ?_⟩
  show up2 S.1 c k v (6 + 1) w = _ ∧ up2 S.1 c k v (6 + 2) w = _ ∧ up2 S.1 c k v (6 + 3) w = _ ∧ up2 S.1 c k v (6 + 4) w = _
  rw [e (6 + 1) (by omega) (by omega), e (6 + 2) (by omega) (by omega), e (6 + 3) (by omega) (by omega), e (6 + 4) (by omega) (by omega)]
  exact d w hw
theorem lp_list {sc : PSc} {p : Nat → Bool} {S0 : PS} {Q : PQ} (k : ∀ S' : PS, (∀ i, i < fa_cnt p 13 → S'.1 39 i = nI (en p 13 i)) → (∀ j, j ≠ 39 → S'.1 j = S0.1 j) → Q (some (.int (nI (fa_cnt p 13)))) S') : ∀ (n : Nat) (j : Nat) (S : PS), j ≤ 13 → 13 - j < n → (∀ i, i < fa_cnt p j → S.1 39 i = nI (en p j i)) → (∀ i, i ≠ 39 → S.1 i = S0.1 i) → E sc mX5_listTeethLeft 4 [.ref 0, .int (nI (bitsF p 13)), .int (nI (fa_cnt p j)), .int (nI j)] [] S Q := by
  intro n
  induction n with
  | zero => intro j S hj hn hl hf; exact absurd hn (by omega)
  | succ n ih =>
    intro j S hj hn hl hf
    have hcl := fa_cnt_le p j
    refine e_iload_n (pc := 4) (i := 3) dX5_listTeethLeft_4 rfl rfl ?_
    refine e_bipush' (pc := 5) (nI 12) dX5_listTeethLeft_5 (by decide) ?_
    refine e_icmp_gt (pc := 7) (tgt := 35) dX5_listTeethLeft_7 (by decide) (fun h7 => ?_) (fun h7 => ?_)
    · replace h7 := (nI_ltI (by omega) (by omega)).mp h7
      obtain rfl : j = 13 := by omega
      refine e_iload_n (pc := 35) (i := 2) dX5_listTeethLeft_35 rfl rfl ?_
      refine e_iret (pc := 36) (st := []) (ty := .int) dX5_listTeethLeft_36 rfl rfl ?_
      exact k S hl hf
    · replace h7 := mt (nI_ltI (by omega) (by omega)).mpr h7
      have hih := fun S2 => ih (j + 1) S2 (by omega) (by omega)
      refine e_iload_n (pc := 10) (i := 1) dX5_listTeethLeft_10 rfl rfl ?_
      refine e_iload_n (pc := 11) (i := 3) dX5_listTeethLeft_11 rfl rfl ?_
      refine e_ishr (pc := 12) dX5_listTeethLeft_12 ?_
      refine e_iconst' (pc := 13) (nI 1) dX5_listTeethLeft_13 (by decide) ?_
      refine e_iand (pc := 14) dX5_listTeethLeft_14 ?_
      refine E.it (nI (if p j then 1 else 0)) (bitp (by omega)) ?_
      refine e_iconst' (pc := 15) (nI 1) dX5_listTeethLeft_15 (by decide) ?_
      refine e_icmp_ne (pc := 16) (tgt := 29) dX5_listTeethLeft_16 (by decide) (fun h16 => ?_) (fun h16 => ?_)
      · have hp : p j = false := by cases hp : p j with | false => rfl | true => rw [hp] at h16; exact absurd rfl h16
        rw [fa_cnt_no hp] at hih
        refine e_iinc' (pc := 29) (nI (j + 1)) dX5_listTeethLeft_29 rfl (by decide) rfl (nI_1 _) ?_
        refine e_goto (pc := 32) (tgt := 4) dX5_listTeethLeft_32 (by decide) ?_
        first
          | (refine hih S (fun i hi => ?_) hf; rw [en, if_neg (fun q => by rw [hp] at q; cases q.1)]; exact hl i hi)
          | (refine hih _ (fun i hi => ?_) (fun i hi => (up2_ne _ _ _ hi).trans (hf i hi)); show up2 S.1 39 (fa_cnt p j) (nI j) 39 i = _; rw [up2_at, en]; by_cases e : i = fa_cnt p j; (subst e; rw [if_pos ⟨hp, rfl⟩]; exact if_pos rfl); rw [if_neg (fun q => e q.2)]; exact (if_neg e).trans (hl i (by omega)))
      · have hp : p j = true := by cases hp : p j with | true => rfl | false => rw [hp] at h16; exact absurd h16 (by decide)
        rw [fa_cnt_yes hp] at hih
        refine e_aload_n (pc := 19) (i := 0) dX5_listTeethLeft_19 rfl rfl ?_
        refine e_getR (pc := 20) dX5_listTeethLeft_20 (fX5_61 rfl) sh_0 rfl ?_
        refine e_iload_n (pc := 23) (i := 2) dX5_listTeethLeft_23 rfl rfl ?_
        refine e_iload_n (pc := 24) (i := 3) dX5_listTeethLeft_24 rfl rfl ?_
        refine e_iast (pc := 25) dX5_listTeethLeft_25 sh_39 (vp_in_nI (by omega) (by omega)) ?_
        rw [nI_clamp (show fa_cnt p j < 2 ^ 31 by omega)]
        refine e_iinc' (pc := 26) (nI (fa_cnt p j + 1)) dX5_listTeethLeft_26 rfl (by decide) rfl (nI_1 _) ?_
        refine e_iinc' (pc := 29) (nI (j + 1)) dX5_listTeethLeft_29 rfl (by decide) rfl (nI_1 _) ?_
        refine e_goto (pc := 32) (tgt := 4) dX5_listTeethLeft_32 (by decide) ?_
        first
          | (refine hih S (fun i hi => ?_) hf; rw [en, if_neg (fun q => by rw [hp] at q; cases q.1)]; exact hl i hi)
          | (refine hih _ (fun i hi => ?_) (fun i hi => (up2_ne _ _ _ hi).trans (hf i hi)); show up2 S.1 39 (fa_cnt p j) (nI j) 39 i = _; rw [up2_at, en]; by_cases e : i = fa_cnt p j; (subst e; rw [if_pos ⟨hp, rfl⟩]; exact if_pos rfl); rw [if_neg (fun q => e q.2)]; exact (if_neg e).trans (hl i (by omega)))
theorem lp_fill {sc : PSc} {w t i : Nat} {R : Rw} {S0 : PS} {Q : PQ} (hi : i < 13) (hvd : Vd R) (k : ∀ S' : PS, (∀ q, q < 201 → S'.1 (41 + i) q = nI (reads (pn R q))) → (∀ j, (j < 6 ∨ 11 ≤ j) → j ≠ 41 + i → S'.1 j = S0.1 j) → Q none S') : ∀ (n : Nat) (j : Nat) (S : PS), j ≤ 201 → 201 - j < n → RowAt S 6 (pn R j) → (∀ q, q < j → S.1 (41 + i) q = nI (reads (pn R q))) → (∀ c, (c < 6 ∨ 11 ≤ c) → c ≠ 41 + i → S.1 c = S0.1 c) → E sc mX5_fillReadings 10 [.ref 0, .int (nI w), .int (nI t), .ref (41 + i), .int (nI j)] [] S Q := by
  intro n
  induction n with
  | zero => intro j S hj hn hr hq hf; exact absurd hn (by omega)
  | succ n ih =>
    intro j S hj hn hr hq hf
    have hvv := pn_vd hvd j
    refine e_iload (pc := 10) dX5_fillReadings_10 rfl ?_
    refine e_sipush' (pc := 12) (nI 200) dX5_fillReadings_12 (by decide) ?_
    refine e_icmp_gt (pc := 15) (tgt := 42) dX5_fillReadings_15 (by decide) (fun h15 => ?_) (fun h15 => ?_)
    · replace h15 := (nI_ltI (by omega) (by omega)).mp h15
      obtain rfl : j = 201 := by omega
      refine e_vret (pc := 42) (st := []) dX5_fillReadings_42 rfl ?_
      exact k S hq hf
    · replace h15 := mt (nI_ltI (by omega) (by omega)).mpr h15
      refine e_aload_n (pc := 18) (i := 3) dX5_fillReadings_18 rfl rfl ?_
      refine e_iload (pc := 19) dX5_fillReadings_19 rfl ?_
      refine e_aload_n (pc := 21) (i := 0) dX5_fillReadings_21 rfl rfl ?_
      refine e_getR (pc := 22) dX5_fillReadings_22 (fX5_16 rfl) sh_0 rfl ?_
      refine e_callV0 (pc := 25) (M' := mX0_reading) dX5_fillReadings_25 iX0_reading lkX5_107 (by decide) (rO_obj sh_6 rfl) (Nat.le_of_ble_eq_true rfl) (Nat.le_of_ble_eq_true rfl) ?_
      refine sp_reading r6 hvv hr ?_
      refine e_iast (pc := 28) dX5_fillReadings_28 (rd_sh hi) (vp_in_nI (by omega) (by omega)) ?_
      rw [nI_clamp (show j < 2 ^ 31 by omega)]
      have hr2 : RowAt (up2 S.1 (41 + i) j (nI (reads (pn R j))), S.2) 6 (pn R j) := hr.u6 (by omega)
      refine e_aload_n (pc := 29) (i := 0) dX5_fillReadings_29 rfl rfl ?_
      refine e_getR (pc := 30) dX5_fillReadings_30 (fX5_16 rfl) sh_0 rfl ?_
      refine e_callV0 (pc := 33) (M' := mX0_pushOnce) dX5_fillReadings_33 iX0_pushOnce lkX5_151 (by decide) (rO_obj sh_6 rfl) (Nat.le_of_ble_eq_true rfl) (Nat.le_of_ble_eq_true rfl) ?_
      refine sp_pushOnce r6 hvv hr2 (fun S2 a b c => ?_)
      refine e_iinc' (pc := 36) (nI (j + 1)) dX5_fillReadings_36 rfl (by decide) rfl (nI_1 _) ?_
      refine e_goto (pc := 39) (tgt := 10) dX5_fillReadings_39 (by decide) ?_
      refine ih (j + 1) S2 (by omega) (by omega) a (fun q hq2 => ?_) (fun q h1 h2 => ?_)
      · rw [c.2 _ (by omega)]; show up2 S.1 (41 + i) j (nI (reads (pn R j))) (41 + i) q = _
        rw [up2_at]
        by_cases e : q = j
        · subst e; exact if_pos rfl
        · exact (if_neg e).trans (hq q (by omega))
      · rw [c.2 _ (by omega)]; exact (up2_ne _ _ _ h2).trans (hf q h1 h2)
theorem sp_fill {sc : PSc} {w t i : Nat} {R : Rw} {S0 : PS} {Q : PQ} (hi : i < 13) (hv : Vd R) (hr : RowAt S0 1 R) (hw : w < R 20) (hvd : Vd (rs R (5 * 3 + w) t)) (k : ∀ S' : PS, (∀ q, q < 201 → S'.1 (41 + i) q = nI (reads (pn (rs R (5 * 3 + w) t) q))) → (∀ j, (j < 6 ∨ 11 ≤ j) → j ≠ 41 + i → S'.1 j = S0.1 j) → Q none S') : E sc mX5_fillReadings 0 (pL0 mX5_fillReadings [.ref 0, .int (nI w), .int (nI t), .ref (41 + i)]) [] S0 Q := by
  show E sc mX5_fillReadings 0 [.ref 0, .int (nI w), .int (nI t), .ref (41 + i), .null] [] S0 Q
  refine e_aload_n (pc := 0) (i := 0) dX5_fillReadings_0 rfl rfl ?_
  refine e_iload_n (pc := 1) (i := 1) dX5_fillReadings_1 rfl rfl ?_
  refine e_iconst' (pc := 2) (nI 3) dX5_fillReadings_2 (by decide) ?_
  refine e_iload_n (pc := 3) (i := 2) dX5_fillReadings_3 rfl rfl ?_
  refine e_callV3 (pc := 4) (M' := mX5_tryPart) dX5_fillReadings_4 iX5_tryPart lkX5_173 (by decide) (rO_obj sh_0 rfl) (Nat.le_of_ble_eq_true rfl) (Nat.le_of_ble_eq_true rfl) ?_
  refine sp_tryPart (a := 3) hv hr hw (by omega) (fun S1 q1 q2 q3 => ?_)
  refine e_iconst' (pc := 7) (nI 0) dX5_fillReadings_7 (by decide) ?_
  refine e_istore (pc := 8) dX5_fillReadings_8 (by decide) rfl ?_
  refine lp_fill hi hvd (fun S2 a b => k S2 a (fun j h1 h2 => (b j h1 h2).trans (q3.2 j (by omega)))) 202 0 S1 (by omega) (by omega) q1 (fun q hq => by omega) (fun _ _ _ => rfl)
theorem lp_alikeI {sc : PSc} {b m W : Nat} {g : Nat → Nat} {S : PS} {Q : PQ} (hb : b ≤ 200) (hm : m ≤ 13) (hg : ∀ i, i < m → S.1 (41 + i) b = nI (g i) ∧ g i ≤ 248831) {most f : Nat} (hmo : most ≤ 13) (hff : f < m) (k : ∀ (al : Nat), al + cA g (g f) f = cA g (g f) m → E sc mX5_mostAlike 58 [.ref 0, .int (nI b), .int (nI m), .int (nI most), .int (nI f), .int (nI al), .int (nI m)] [] S Q) : ∀ (n : Nat) (oth al : Nat), oth ≤ m → m - oth < n → al + cA g (g f) f = cA g (g f) oth → E sc mX5_mostAlike 22 [.ref 0, .int (nI b), .int (nI m), .int (nI most), .int (nI f), .int (nI al), .int (nI oth)] [] S Q := by
  intro n
  induction n with
  | zero => intro oth al ho hn hal; exact absurd hn (by omega)
  | succ n ih =>
    intro oth al ho hn hal
    refine e_iload (pc := 22) dX5_mostAlike_22 rfl ?_
    refine e_iload_n (pc := 24) (i := 2) dX5_mostAlike_24 rfl rfl ?_
    refine e_icmp_ge (pc := 25) (tgt := 58) dX5_mostAlike_25 (by decide) (fun h25 => ?_) (fun h25 => ?_)
    · replace h25 := (nI_leI (by omega) (by omega)).mp h25
      obtain rfl : oth = m := by omega
      exact k al hal
    · replace h25 := mt (nI_leI (by omega) (by omega)).mpr h25
      obtain ⟨g1, g2⟩ := hg oth (by omega)
      obtain ⟨g3, g4⟩ := hg f (by omega)
      refine e_aload_n (pc := 28) (i := 0) dX5_mostAlike_28 rfl rfl ?_
      refine e_getR (pc := 29) dX5_mostAlike_29 (fX5_67 rfl) sh_0 rfl ?_
      refine e_iload (pc := 32) dX5_mostAlike_32 rfl ?_
      refine e_aald (pc := 34) (r := 41 + oth) dX5_mostAlike_34 sh_40 (show vp_in (nI oth) 13 from vp_in_nI (by omega) (by omega)) (rd_at (i := oth) (by omega)) ?_
      refine e_iload_n (pc := 35) (i := 1) dX5_mostAlike_35 rfl rfl ?_
      refine e_iald (pc := 36) dX5_mostAlike_36 (rd_sh (i := oth) (by omega)) (vp_in_nI (by omega) (by omega)) ?_
      refine E.it (nI (g oth)) (by rw [nI_clamp (by omega)]; exact g1) ?_
      refine e_aload_n (pc := 37) (i := 0) dX5_mostAlike_37 rfl rfl ?_
      refine e_getR (pc := 38) dX5_mostAlike_38 (fX5_67 rfl) sh_0 rfl ?_
      refine e_iload (pc := 41) dX5_mostAlike_41 rfl ?_
      refine e_aald (pc := 43) (r := 41 + f) dX5_mostAlike_43 sh_40 (show vp_in (nI f) 13 from vp_in_nI (by omega) (by omega)) (rd_at (i := f) (by omega)) ?_
      refine e_iload_n (pc := 44) (i := 1) dX5_mostAlike_44 rfl rfl ?_
      refine e_iald (pc := 45) dX5_mostAlike_45 (rd_sh (i := f) (by omega)) (vp_in_nI (by omega) (by omega)) ?_
      refine E.it (nI (g f)) (by rw [nI_clamp (by omega)]; exact g3) ?_
      refine e_icmp_ne (pc := 46) (tgt := 52) dX5_mostAlike_46 (by decide) (fun h46 => ?_) (fun h46 => ?_)
      · replace h46 := mt (nI_eq (by omega) (by omega)).mpr h46
        refine e_iinc' (pc := 52) (nI (oth + 1)) dX5_mostAlike_52 rfl (by decide) rfl (nI_1 _) ?_
        refine e_goto (pc := 55) (tgt := 22) dX5_mostAlike_55 (by decide) ?_
        first
          | exact ih (oth + 1) al (by omega) (by omega) (by rw [cA_s, if_neg h46]; omega)
          | exact ih (oth + 1) (al + 1) (by omega) (by omega) (by rw [cA_s, if_pos h46]; omega)
      · replace h46 := (nI_eq (by omega) (by omega)).mp h46
        refine e_iinc' (pc := 49) (nI (al + 1)) dX5_mostAlike_49 rfl (by decide) rfl (nI_1 _) ?_
        refine e_iinc' (pc := 52) (nI (oth + 1)) dX5_mostAlike_52 rfl (by decide) rfl (nI_1 _) ?_
        refine e_goto (pc := 55) (tgt := 22) dX5_mostAlike_55 (by decide) ?_
        first
          | exact ih (oth + 1) al (by omega) (by omega) (by rw [cA_s, if_neg h46]; omega)
          | exact ih (oth + 1) (al + 1) (by omega) (by omega) (by rw [cA_s, if_pos h46]; omega)
theorem lp_alike {sc : PSc} {b m W : Nat} {g : Nat → Nat} {S : PS} {Q : PQ} (hb : b ≤ 200) (hm : m ≤ 13) (hg : ∀ i, i < m → S.1 (41 + i) b = nI (g i) ∧ g i ≤ 248831) (h1 : ∀ i, i < m → cA g (g i) m ≤ W) (h2 : W = 0 ∨ ∃ i, i < m ∧ cA g (g i) m = W) (hW : W ≤ 13) (k : Q (some (.int (nI W))) S) : ∀ (n : Nat) (f most : Nat) (y z : Value), f ≤ m → m - f < n → most ≤ W → (∀ i, i < m → cA g (g i) m ≤ most ∨ cA g (g i) f = 0) → E sc mX5_mostAlike 5 [.ref 0, .int (nI b), .int (nI m), .int (nI most), .int (nI f), y, z] [] S Q := by
  intro n
  induction n with
  | zero => intro f most y z hf hn hmo hz; exact absurd hn (by omega)
  | succ n ih =>
    intro f most y z hf hn hmo hz
    refine e_iload (pc := 5) dX5_mostAlike_5 rfl ?_
    refine e_iload_n (pc := 7) (i := 3) dX5_mostAlike_7 rfl rfl ?_
    refine e_iadd (pc := 8) dX5_mostAlike_8 ?_
    refine E.it (nI (f + most)) (nI_add _ _) ?_
    refine e_iload_n (pc := 9) (i := 2) dX5_mostAlike_9 rfl rfl ?_
    refine e_icmp_ge (pc := 10) (tgt := 71) dX5_mostAlike_10 (by decide) (fun h10 => ?_) (fun h10 => ?_)
    · replace h10 := (nI_leI (by omega) (by omega)).mp h10
      have hd : ∀ i, i < m → cA g (g i) m ≤ most := by
        intro i hi
        rcases hz i hi with q | q
        · exact q
        · have := cA_d (g := g) (x := g i) (a := f) (m - f)
          rw [show f + (m - f) = m by omega, q] at this; omega
      have eW : most = W := by
        rcases h2 with q | ⟨i, hi, q⟩
        · omega
        · have := hd i hi; omega
      refine e_iload_n (pc := 71) (i := 3) dX5_mostAlike_71 rfl rfl ?_
      refine e_iret (pc := 72) (st := []) (ty := .int) dX5_mostAlike_72 rfl rfl ?_
      rw [eW]; exact k
    · replace h10 := mt (nI_leI (by omega) (by omega)).mpr h10
      have e1 : 1 + cA g (g f) f = cA g (g f) (f + 1) := by rw [cA_s, if_pos rfl]; omega
      refine e_iconst' (pc := 13) (nI 1) dX5_mostAlike_13 (by decide) ?_
      refine e_istore (pc := 14) dX5_mostAlike_14 (by decide) rfl ?_
      refine e_iload (pc := 16) dX5_mostAlike_16 rfl ?_
      refine e_iconst' (pc := 18) (nI 1) dX5_mostAlike_18 (by decide) ?_
      refine e_iadd (pc := 19) dX5_mostAlike_19 ?_
      refine E.it (nI (f + 1)) (nI_add _ _) ?_
      refine e_istore (pc := 20) dX5_mostAlike_20 (by decide) rfl ?_
      refine lp_alikeI (W := W) hb hm hg (by omega) (by omega) (fun al hal => ?_) (m + 1) (f + 1) 1 (by omega) (by omega) e1
      have hb3 : al ≤ W := by have := h1 f (by omega); omega
      refine e_iload_n (pc := 58) (i := 3) dX5_mostAlike_58 rfl rfl ?_
      refine e_iload (pc := 59) dX5_mostAlike_59 rfl ?_
      refine e_mmax (pc := 61) dX5_mostAlike_61 (mxX5_154 rfl) (by decide) (Nat.le_of_ble_eq_true rfl) ?_
      refine E.it (nI (max most al)) (nI_max (by omega) (by omega)) ?_
      refine e_istore_n (pc := 64) (i := 3) dX5_mostAlike_64 rfl (by decide) rfl ?_
      refine e_iinc' (pc := 65) (nI (f + 1)) dX5_mostAlike_65 rfl (by decide) rfl (nI_1 _) ?_
      refine e_goto (pc := 68) (tgt := 5) dX5_mostAlike_68 (by decide) ?_
      refine ih (f + 1) (max most al) _ _ (by omega) (by omega) (by omega) (fun i hi => ?_)
      by_cases e : g f = g i
      · left; rw [← e]
        rcases hz f (by omega) with q | q <;> omega
      · rcases hz i hi with q | q
        · left; omega
        · right; rw [cA_s, if_neg e, q]
theorem sp_alike {sc : PSc} {b m W : Nat} {g : Nat → Nat} {S : PS} {Q : PQ} (hb : b ≤ 200) (hm : m ≤ 13) (hg : ∀ i, i < m → S.1 (41 + i) b = nI (g i) ∧ g i ≤ 248831) (h1 : ∀ i, i < m → cA g (g i) m ≤ W) (h2 : W = 0 ∨ ∃ i, i < m ∧ cA g (g i) m = W) (hW : W ≤ 13) (k : Q (some (.int (nI W))) S) : E sc mX5_mostAlike 0 (pL0 mX5_mostAlike [.ref 0, .int (nI b), .int (nI m)]) [] S Q := by
  show E sc mX5_mostAlike 0 [.ref 0, .int (nI b), .int (nI m), .null, .null, .null, .null] [] S Q
  refine e_iconst' (pc := 0) (nI 0) dX5_mostAlike_0 (by decide) ?_
  refine e_istore_n (pc := 1) (i := 3) dX5_mostAlike_1 rfl (by decide) rfl ?_
  refine e_iconst' (pc := 2) (nI 0) dX5_mostAlike_2 (by decide) ?_
  refine e_istore (pc := 3) dX5_mostAlike_3 (by decide) rfl ?_
  exact lp_alike hb hm hg h1 h2 hW k (m + 1) 0 0 _ _ (by omega) (by omega) (by omega) (fun i hi => Or.inr rfl)
theorem lm_worstI {sc : PSc} {b : Nat} {p : Nat → Bool} {f : Nat → Nat} {S : PS} {Q : PQ} (hb : b ≤ 200) (hf : ∀ t, t < 13 → p t = true → S.1 61 (201 * t + b) = nI (f t) ∧ f t ≤ 248831) {worst a : Nat} (hwo : worst ≤ 13) (ha : a < 13) (hp : p a = true) (k : E sc mX6_worstAt 90 [.ref 54, .int (nI (bitsF p 13)), .int (nI b), .int (nI worst), .int (nI a), .int (nI (fa_cnt (fun b => p b && decide (f b = f a)) 13)), .int (nI 13)] [] S Q) : ∀ (n : Nat) (j : Nat), j ≤ 13 → 13 - j < n → E sc mX6_worstAt 18 [.ref 54, .int (nI (bitsF p 13)), .int (nI b), .int (nI worst), .int (nI a), .int (nI (fa_cnt (fun b => p b && decide (f b = f a)) j)), .int (nI j)] [] S Q := by
  intro n
  induction n with
  | zero => intro j hj hn; exact absurd hn (by omega)
  | succ n ih =>
    intro j hj hn
    obtain ⟨f3, f4⟩ := hf a ha hp
    have hih := ih (j + 1)
    refine e_iload (pc := 18) dX6_worstAt_18 rfl ?_
    refine e_bipush' (pc := 20) (nI 12) dX6_worstAt_20 (by decide) ?_
    refine e_icmp_gt (pc := 22) (tgt := 90) dX6_worstAt_22 (by decide) (fun h22 => ?_) (fun h22 => ?_)
    · replace h22 := (nI_ltI (by omega) (by omega)).mp h22
      obtain rfl : j = 13 := by omega
      exact k
    · replace h22 := mt (nI_ltI (by omega) (by omega)).mpr h22
      refine e_iload_n (pc := 25) (i := 1) dX6_worstAt_25 rfl rfl ?_
      refine e_iload (pc := 26) dX6_worstAt_26 rfl ?_
      refine e_ishr (pc := 28) dX6_worstAt_28 ?_
      refine e_iconst' (pc := 29) (nI 1) dX6_worstAt_29 (by decide) ?_
      refine e_iand (pc := 30) dX6_worstAt_30 ?_
      refine E.it (nI 1) (by rw [bitp (by omega), hp]; rfl) ?_
      refine e_iconst' (pc := 31) (nI 1) dX6_worstAt_31 (by decide) ?_
      refine e_icmp_ne (pc := 32) (tgt := 90) dX6_worstAt_32 (by decide) (fun h32 => absurd (by decide) h32) (fun h32 => ?_)
      refine e_iload (pc := 35) dX6_worstAt_35 rfl ?_
      refine e_iload_n (pc := 37) (i := 1) dX6_worstAt_37 rfl rfl ?_
      refine e_iload (pc := 38) dX6_worstAt_38 rfl ?_
      refine e_ishr (pc := 40) dX6_worstAt_40 ?_
      refine e_iconst' (pc := 41) (nI 1) dX6_worstAt_41 (by decide) ?_
      refine e_iand (pc := 42) dX6_worstAt_42 ?_
      refine E.it (nI (if p j then 1 else 0)) (bitp (by omega)) ?_
      refine e_iconst' (pc := 43) (nI 1) dX6_worstAt_43 (by decide) ?_
      refine e_icmp_ne (pc := 44) (tgt := 80) dX6_worstAt_44 (by decide) (fun h44 => ?_) (fun h44 => ?_)
      · have hpj : p j = false := by cases hpj : p j with | false => rfl | true => rw [hpj] at h44; exact absurd rfl h44
        rw [fa_cnt_no (by show (p j && _) = false; rw [hpj]; rfl)] at hih
        refine e_iconst' (pc := 80) (nI 0) dX6_worstAt_80 (by decide) ?_
        refine e_iadd (pc := 81) dX6_worstAt_81 ?_
        refine E.it (nI (fa_cnt (fun b => p b && decide (f b = f a)) j + 0)) (nI_add _ _) ?_
        refine e_istore (pc := 82) dX6_worstAt_82 (by decide) rfl ?_
        refine e_iinc' (pc := 84) (nI (j + 1)) dX6_worstAt_84 rfl (by decide) rfl (nI_1 _) ?_
        refine e_goto (pc := 87) (tgt := 18) dX6_worstAt_87 (by decide) ?_
        exact hih (by omega) (by omega)
      · have hpj : p j = true := by cases hpj : p j with | true => rfl | false => rw [hpj] at h44; exact absurd h44 (by decide)
        obtain ⟨f1, f2⟩ := hf j (by omega) hpj
        refine e_aload_n (pc := 47) (i := 0) dX6_worstAt_47 rfl rfl ?_
        refine e_getR (pc := 48) dX6_worstAt_48 (fX6_28 rfl) sh_54 rfl ?_
        refine e_sipush' (pc := 51) (nI 201) dX6_worstAt_51 (by decide) ?_
        refine e_iload (pc := 54) dX6_worstAt_54 rfl ?_
        refine e_imul (pc := 56) dX6_worstAt_56 ?_
        refine E.it (nI (201 * a)) (pk_mul _ _) ?_
        refine e_iload_n (pc := 57) (i := 2) dX6_worstAt_57 rfl rfl ?_
        refine e_iadd (pc := 58) dX6_worstAt_58 ?_
        refine E.it (nI (201 * a + b)) (nI_add _ _) ?_
        refine e_iald (pc := 59) dX6_worstAt_59 sh_61 (vp_in_nI (by omega) (by omega)) ?_
        refine E.it (nI (f a)) (by rw [nI_clamp (by omega)]; exact f3) ?_
        refine e_aload_n (pc := 60) (i := 0) dX6_worstAt_60 rfl rfl ?_
        refine e_getR (pc := 61) dX6_worstAt_61 (fX6_28 rfl) sh_54 rfl ?_
        refine e_sipush' (pc := 64) (nI 201) dX6_worstAt_64 (by decide) ?_
        refine e_iload (pc := 67) dX6_worstAt_67 rfl ?_
        refine e_imul (pc := 69) dX6_worstAt_69 ?_
        refine E.it (nI (201 * j)) (pk_mul _ _) ?_
        refine e_iload_n (pc := 70) (i := 2) dX6_worstAt_70 rfl rfl ?_
        refine e_iadd (pc := 71) dX6_worstAt_71 ?_
        refine E.it (nI (201 * j + b)) (nI_add _ _) ?_
        refine e_iald (pc := 72) dX6_worstAt_72 sh_61 (vp_in_nI (by omega) (by omega)) ?_
        refine E.it (nI (f j)) (by rw [nI_clamp (by omega)]; exact f1) ?_
        refine e_icmp_ne (pc := 73) (tgt := 80) dX6_worstAt_73 (by decide) (fun h73 => ?_) (fun h73 => ?_)
        · replace h73 := mt (nI_eq (by omega) (by omega)).mpr h73
          rw [fa_cnt_no (by show (p j && decide (f j = f a)) = false; rw [hpj, decide_eq_false (fun q => h73 q.symm)]; rfl)] at hih
          refine e_iconst' (pc := 80) (nI 0) dX6_worstAt_80 (by decide) ?_
          refine e_iadd (pc := 81) dX6_worstAt_81 ?_
          refine E.it (nI (fa_cnt (fun b => p b && decide (f b = f a)) j + 0)) (nI_add _ _) ?_
          refine e_istore (pc := 82) dX6_worstAt_82 (by decide) rfl ?_
          refine e_iinc' (pc := 84) (nI (j + 1)) dX6_worstAt_84 rfl (by decide) rfl (nI_1 _) ?_
          refine e_goto (pc := 87) (tgt := 18) dX6_worstAt_87 (by decide) ?_
          exact hih (by omega) (by omega)
        · replace h73 := (nI_eq (by omega) (by omega)).mp h73
          rw [fa_cnt_yes (by show (p j && decide (f j = f a)) = true; rw [hpj, decide_eq_true h73.symm]; rfl)] at hih
          refine e_iconst' (pc := 76) (nI 1) dX6_worstAt_76 (by decide) ?_
          refine e_goto (pc := 77) (tgt := 81) dX6_worstAt_77 (by decide) ?_
          refine e_iadd (pc := 81) dX6_worstAt_81 ?_
          refine E.it (nI (fa_cnt (fun b => p b && decide (f b = f a)) j + 1)) (nI_add _ _) ?_
          refine e_istore (pc := 82) dX6_worstAt_82 (by decide) rfl ?_
          refine e_iinc' (pc := 84) (nI (j + 1)) dX6_worstAt_84 rfl (by decide) rfl (nI_1 _) ?_
          refine e_goto (pc := 87) (tgt := 18) dX6_worstAt_87 (by decide) ?_
          exact hih (by omega) (by omega)
theorem lm_worst {sc : PSc} {b : Nat} {p : Nat → Bool} {f : Nat → Nat} {S : PS} {Q : PQ} (hb : b ≤ 200) (hf : ∀ t, t < 13 → p t = true → S.1 61 (201 * t + b) = nI (f t) ∧ f t ≤ 248831) (k : Q (some (.int (nI (wm (al p f) 13)))) S) : ∀ (n : Nat) (a : Nat) (y z : Value), a ≤ 13 → 13 - a < n → E sc mX6_worstAt 5 [.ref 54, .int (nI (bitsF p 13)), .int (nI b), .int (nI (wm (al p f) a)), .int (nI a), y, z] [] S Q := by
  intro n
  induction n with
  | zero => intro a y z ha hn; exact absurd hn (by omega)
  | succ n ih =>
    intro a y z ha hn
    have hwb := wm_b (al_le p f) a
    have hal := al_le p f a
    have hih := fun y z => ih (a + 1) y z
    rw [wm] at hih
    refine e_iload (pc := 5) dX6_worstAt_5 rfl ?_
    refine e_bipush' (pc := 7) (nI 12) dX6_worstAt_7 (by decide) ?_
    refine e_icmp_gt (pc := 9) (tgt := 109) dX6_worstAt_9 (by decide) (fun h9 => ?_) (fun h9 => ?_)
    · replace h9 := (nI_ltI (by omega) (by omega)).mp h9
      obtain rfl : a = 13 := by omega
      refine e_iload_n (pc := 109) (i := 3) dX6_worstAt_109 rfl rfl ?_
      refine e_iret (pc := 110) (st := []) (ty := .int) dX6_worstAt_110 rfl rfl ?_
      exact k
    · replace h9 := mt (nI_ltI (by omega) (by omega)).mpr h9
      refine e_iconst' (pc := 12) (nI 0) dX6_worstAt_12 (by decide) ?_
      refine e_istore (pc := 13) dX6_worstAt_13 (by decide) rfl ?_
      refine e_iconst' (pc := 15) (nI 0) dX6_worstAt_15 (by decide) ?_
      refine e_istore (pc := 16) dX6_worstAt_16 (by decide) rfl ?_
      cases hp : p a
      · have ea : al p f a = 0 := by unfold al; rw [hp]; rfl
        rw [ea, if_neg (by omega)] at hih
        refine e_iload (pc := 18) dX6_worstAt_18 rfl ?_
        refine e_bipush' (pc := 20) (nI 12) dX6_worstAt_20 (by decide) ?_
        refine e_icmp_gt (pc := 22) (tgt := 90) dX6_worstAt_22 (by decide) (fun h22 => absurd h22 (by decide)) (fun h22 => ?_)
        refine e_iload_n (pc := 25) (i := 1) dX6_worstAt_25 rfl rfl ?_
        refine e_iload (pc := 26) dX6_worstAt_26 rfl ?_
        refine e_ishr (pc := 28) dX6_worstAt_28 ?_
        refine e_iconst' (pc := 29) (nI 1) dX6_worstAt_29 (by decide) ?_
        refine e_iand (pc := 30) dX6_worstAt_30 ?_
        refine E.it (nI 0) (by rw [bitp (by omega), hp]; rfl) ?_
        refine e_iconst' (pc := 31) (nI 1) dX6_worstAt_31 (by decide) ?_
        refine e_icmp_ne (pc := 32) (tgt := 90) dX6_worstAt_32 (by decide) (fun h32 => ?_) (fun h32 => absurd h32 (by decide))
        refine e_iload (pc := 90) dX6_worstAt_90 rfl ?_
        refine e_iload_n (pc := 92) (i := 3) dX6_worstAt_92 rfl rfl ?_
        refine e_icmp_le (pc := 93) (tgt := 101) dX6_worstAt_93 (by decide) (fun h93 => ?_) (fun h93 => absurd (nI_le (Nat.zero_le _) (by omega)) h93)
        replace h93 := (nI_leI (by omega) (by omega)).mp h93
        refine e_iload_n (pc := 101) (i := 3) dX6_worstAt_101 rfl rfl ?_
        refine e_istore_n (pc := 102) (i := 3) dX6_worstAt_102 rfl (by decide) rfl ?_
        refine e_iinc' (pc := 103) (nI (a + 1)) dX6_worstAt_103 rfl (by decide) rfl (nI_1 _) ?_
        refine e_goto (pc := 106) (tgt := 5) dX6_worstAt_106 (by decide) ?_
        exact hih _ _ (by omega) (by omega)
      · have ea : al p f a = fa_cnt (fun b => p b && decide (f b = f a)) 13 := by unfold al; rw [hp]; rfl
        rw [ea] at hih hal
        refine lm_worstI hb hf (by omega) (by omega) hp ?_ 14 0 (by omega) (by omega)
        refine e_iload (pc := 90) dX6_worstAt_90 rfl ?_
        refine e_iload_n (pc := 92) (i := 3) dX6_worstAt_92 rfl rfl ?_
        refine e_icmp_le (pc := 93) (tgt := 101) dX6_worstAt_93 (by decide) (fun h93 => ?_) (fun h93 => ?_)
        · replace h93 := (nI_leI (by omega) (by omega)).mp h93
          rw [if_neg (by omega)] at hih
          refine e_iload_n (pc := 101) (i := 3) dX6_worstAt_101 rfl rfl ?_
          refine e_istore_n (pc := 102) (i := 3) dX6_worstAt_102 rfl (by decide) rfl ?_
          refine e_iinc' (pc := 103) (nI (a + 1)) dX6_worstAt_103 rfl (by decide) rfl (nI_1 _) ?_
          refine e_goto (pc := 106) (tgt := 5) dX6_worstAt_106 (by decide) ?_
          exact hih _ _ (by omega) (by omega)
        · replace h93 := mt (nI_leI (by omega) (by omega)).mpr h93
          rw [if_pos (by omega)] at hih
          refine e_iload (pc := 96) dX6_worstAt_96 rfl ?_
          refine e_goto (pc := 98) (tgt := 102) dX6_worstAt_98 (by decide) ?_
          refine e_istore_n (pc := 102) (i := 3) dX6_worstAt_102 rfl (by decide) rfl ?_
          refine e_iinc' (pc := 103) (nI (a + 1)) dX6_worstAt_103 rfl (by decide) rfl (nI_1 _) ?_
          refine e_goto (pc := 106) (tgt := 5) dX6_worstAt_106 (by decide) ?_
          exact hih _ _ (by omega) (by omega)
theorem sp_worst {sc : PSc} {b : Nat} {p : Nat → Bool} {f : Nat → Nat} {S : PS} {Q : PQ} (hb : b ≤ 200) (hf : ∀ t, t < 13 → p t = true → S.1 61 (201 * t + b) = nI (f t) ∧ f t ≤ 248831) (k : Q (some (.int (nI (wm (al p f) 13)))) S) : E sc mX6_worstAt 0 (pL0 mX6_worstAt [.ref 54, .int (nI (bitsF p 13)), .int (nI b)]) [] S Q := by
  show E sc mX6_worstAt 0 [.ref 54, .int (nI (bitsF p 13)), .int (nI b), .null, .null, .null, .null] [] S Q
  refine e_iconst' (pc := 0) (nI 0) dX6_worstAt_0 (by decide) ?_
  refine e_istore_n (pc := 1) (i := 3) dX6_worstAt_1 rfl (by decide) rfl ?_
  refine e_iconst' (pc := 2) (nI 0) dX6_worstAt_2 (by decide) ?_
  refine e_istore (pc := 3) dX6_worstAt_3 (by decide) rfl ?_
  exact lm_worst hb hf k 14 0 _ _ (by omega) (by omega)
theorem lp_askB0 {sc : PSc} {w m : Nat} {W : Nat → Nat} {S : PS} {Q : PQ} (hm : m ≤ 13) (hW : ∀ (b : Nat) (Q : PQ), b ≤ 200 → Q (some (.int (nI (W b)))) S → E sc mX5_mostAlike 0 (pL0 mX5_mostAlike [.ref 0, .int (nI b), .int (nI m)]) [] S Q) (hWb : ∀ b, W b ≤ 13) (k : Q (some (.int (if (bw W m 201).2 = -4 then -4 else (bw W m 201).2))) S) : ∀ (n : Nat) (j : Nat) (z : Value), j ≤ 201 → 201 - j < n → E sc mX5_ask 76 [.ref 0, .int (nI w), .int (nI 0), .int (nI m), .int (nI (bw W m j).1), .int (bw W m j).2, .int (nI j), z] [] S Q := by
  intro n
  induction n with
  | zero => intro j z hj hn; exact absurd hn (by omega)
  | succ n ih =>
    intro j z hj hn
    have hbl := bw_le (W := W) (m := m) j
    have hwb := hWb j
    have hih := fun z => ih (j + 1) z
    rw [bw] at hih
    refine e_iload (pc := 76) dX5_ask_76 rfl ?_
    refine e_sipush' (pc := 78) (nI 200) dX5_ask_78 (by decide) ?_
    refine e_icmp_gt (pc := 81) (tgt := 114) dX5_ask_81 (by decide) (fun h81 => ?_) (fun h81 => ?_)
    · replace h81 := (nI_ltI (by omega) (by omega)).mp h81
      obtain rfl : j = 201 := by omega
      refine e_iload (pc := 114) dX5_ask_114 rfl ?_
      refine e_bipush' (pc := 116) (-4) dX5_ask_116 (by decide) ?_
      refine e_icmp_eq (pc := 118) (tgt := 125) dX5_ask_118 (by decide) (fun h118 => ?_) (fun h118 => ?_)
      · rw [show (bw W m 201).2 = -4 from h118, if_pos rfl] at k
        refine e_iload (pc := 125) dX5_ask_125 rfl ?_
        refine e_goto (pc := 127) (tgt := 132) dX5_ask_127 (by decide) ?_
        refine e_iret (pc := 132) (st := []) (ty := .int) dX5_ask_132 rfl rfl ?_
        exact qeq k h118
      · rw [if_neg h118] at k
        refine e_iload_n (pc := 121) (i := 2) dX5_ask_121 rfl rfl ?_
        refine e_if_ne (pc := 122) (tgt := 130) dX5_ask_122 (by decide) (fun h122 => absurd (by decide) h122) (fun h122 => ?_)
        refine e_iload (pc := 125) dX5_ask_125 rfl ?_
        refine e_goto (pc := 127) (tgt := 132) dX5_ask_127 (by decide) ?_
        refine e_iret (pc := 132) (st := []) (ty := .int) dX5_ask_132 rfl rfl ?_
        exact k
    · replace h81 := mt (nI_ltI (by omega) (by omega)).mpr h81
      refine e_aload_n (pc := 84) (i := 0) dX5_ask_84 rfl rfl ?_
      refine e_iload (pc := 85) dX5_ask_85 rfl ?_
      refine e_iload_n (pc := 87) (i := 3) dX5_ask_87 rfl rfl ?_
      refine e_callV2 (pc := 88) (M' := mX5_mostAlike) dX5_ask_88 iX5_mostAlike lkX5_217 (by decide) (rO_obj sh_0 rfl) (Nat.le_of_ble_eq_true rfl) (Nat.le_of_ble_eq_true rfl) ?_
      refine hW j _ (by omega) ?_
      refine e_istore (pc := 91) dX5_ask_91 (by decide) rfl ?_
      refine e_iload (pc := 93) dX5_ask_93 rfl ?_
      refine e_iload (pc := 95) dX5_ask_95 rfl ?_
      refine e_icmp_ge (pc := 97) (tgt := 108) dX5_ask_97 (by decide) (fun h97 => ?_) (fun h97 => ?_)
      · replace h97 := (nI_leI (by omega) (by omega)).mp h97
        rw [if_neg (by omega)] at hih
        refine e_iinc' (pc := 108) (nI (j + 1)) dX5_ask_108 rfl (by decide) rfl (nI_1 _) ?_
        refine e_goto (pc := 111) (tgt := 76) dX5_ask_111 (by decide) ?_
        exact hih _ (by omega) (by omega)
      · replace h97 := mt (nI_leI (by omega) (by omega)).mpr h97
        rw [if_pos (by omega)] at hih
        refine e_iload (pc := 100) dX5_ask_100 rfl ?_
        refine e_istore (pc := 102) dX5_ask_102 (by decide) rfl ?_
        refine e_iload (pc := 104) dX5_ask_104 rfl ?_
        refine e_istore (pc := 106) dX5_ask_106 (by decide) rfl ?_
        refine e_iinc' (pc := 108) (nI (j + 1)) dX5_ask_108 rfl (by decide) rfl (nI_1 _) ?_
        refine e_goto (pc := 111) (tgt := 76) dX5_ask_111 (by decide) ?_
        exact hih _ (by omega) (by omega)
theorem lm_askB0 {sc : PSc} {w m : Nat} {B : Int32} {W : Nat → Nat} {S : PS} {Q : PQ} (hm : m ≤ 13) (hW : ∀ (b : Nat) (Q : PQ), b ≤ 200 → Q (some (.int (nI (W b)))) S → E sc mX6_worstAt 0 (pL0 mX6_worstAt [.ref 54, .int B, .int (nI b)]) [] S Q) (hWb : ∀ b, W b ≤ 13) (k : Q (some (.int (if (bw W m 201).2 = -4 then -4 else (bw W m 201).2))) S) : ∀ (n : Nat) (j : Nat) (z : Value), j ≤ 201 → 201 - j < n → E sc mX6_ask 63 [.ref 54, .int (nI w), .int (nI 0), .int B, .int (nI (bw W m j).1), .int (bw W m j).2, .int (nI j), z] [] S Q := by
  intro n
  induction n with
  | zero => intro j z hj hn; exact absurd hn (by omega)
  | succ n ih =>
    intro j z hj hn
    have hbl := bw_le (W := W) (m := m) j
    have hwb := hWb j
    have hih := fun z => ih (j + 1) z
    rw [bw] at hih
    refine e_iload (pc := 63) dX6_ask_63 rfl ?_
    refine e_sipush' (pc := 65) (nI 200) dX6_ask_65 (by decide) ?_
    refine e_icmp_gt (pc := 68) (tgt := 118) dX6_ask_68 (by decide) (fun h68 => ?_) (fun h68 => ?_)
    · replace h68 := (nI_ltI (by omega) (by omega)).mp h68
      obtain rfl : j = 201 := by omega
      refine e_iload (pc := 118) dX6_ask_118 rfl ?_
      refine e_bipush' (pc := 120) (-4) dX6_ask_120 (by decide) ?_
      refine e_icmp_eq (pc := 122) (tgt := 129) dX6_ask_122 (by decide) (fun h122 => ?_) (fun h122 => ?_)
      · rw [show (bw W m 201).2 = -4 from h122, if_pos rfl] at k
        refine e_iload (pc := 129) dX6_ask_129 rfl ?_
        refine e_goto (pc := 131) (tgt := 136) dX6_ask_131 (by decide) ?_
        refine e_iret (pc := 136) (st := []) (ty := .int) dX6_ask_136 rfl rfl ?_
        exact qeq k h122
      · rw [if_neg h122] at k
        refine e_iload_n (pc := 125) (i := 2) dX6_ask_125 rfl rfl ?_
        refine e_if_ne (pc := 126) (tgt := 134) dX6_ask_126 (by decide) (fun h126 => absurd (by decide) h126) (fun h126 => ?_)
        refine e_iload (pc := 129) dX6_ask_129 rfl ?_
        refine e_goto (pc := 131) (tgt := 136) dX6_ask_131 (by decide) ?_
        refine e_iret (pc := 136) (st := []) (ty := .int) dX6_ask_136 rfl rfl ?_
        exact k
    · replace h68 := mt (nI_ltI (by omega) (by omega)).mpr h68
      refine e_aload_n (pc := 71) (i := 0) dX6_ask_71 rfl rfl ?_
      refine e_iload_n (pc := 72) (i := 3) dX6_ask_72 rfl rfl ?_
      refine e_iload (pc := 73) dX6_ask_73 rfl ?_
      refine e_callV2 (pc := 75) (M' := mX6_worstAt) dX6_ask_75 iX6_worstAt lkX6_215 (by decide) (rO_obj sh_54 rfl) (Nat.le_of_ble_eq_true rfl) (Nat.le_of_ble_eq_true rfl) ?_
      refine hW j _ (by omega) ?_
      refine e_istore (pc := 78) dX6_ask_78 (by decide) rfl ?_
      refine e_iload (pc := 80) dX6_ask_80 rfl ?_
      refine e_iload (pc := 82) dX6_ask_82 rfl ?_
      refine e_icmp_ge (pc := 84) (tgt := 92) dX6_ask_84 (by decide) (fun h84 => ?_) (fun h84 => ?_)
      · replace h84 := (nI_leI (by omega) (by omega)).mp h84
        rw [if_neg (by omega)] at hih
        refine e_iload (pc := 92) dX6_ask_92 rfl ?_
        refine e_istore (pc := 94) dX6_ask_94 (by decide) rfl ?_
        refine e_iload (pc := 96) dX6_ask_96 rfl ?_
        refine e_iload (pc := 98) dX6_ask_98 rfl ?_
        refine e_icmp_ge (pc := 100) (tgt := 108) dX6_ask_100 (by decide) (fun h100 => ?_) (fun h100 => absurd (nI_le h84 (by omega)) h100)
        refine e_iload (pc := 108) dX6_ask_108 rfl ?_
        refine e_istore (pc := 110) dX6_ask_110 (by decide) rfl ?_
        refine e_iinc' (pc := 112) (nI (j + 1)) dX6_ask_112 rfl (by decide) rfl (nI_1 _) ?_
        refine e_goto (pc := 115) (tgt := 63) dX6_ask_115 (by decide) ?_
        exact hih _ (by omega) (by omega)
      · replace h84 := mt (nI_leI (by omega) (by omega)).mpr h84
        rw [if_pos (by omega)] at hih
        refine e_iload (pc := 87) dX6_ask_87 rfl ?_
        refine e_goto (pc := 89) (tgt := 94) dX6_ask_89 (by decide) ?_
        refine e_istore (pc := 94) dX6_ask_94 (by decide) rfl ?_
        refine e_iload (pc := 96) dX6_ask_96 rfl ?_
        refine e_iload (pc := 98) dX6_ask_98 rfl ?_
        refine e_icmp_ge (pc := 100) (tgt := 108) dX6_ask_100 (by decide) (fun h100 => absurd ((nI_leI (by omega) (by omega)).mp h100) h84) (fun h100 => ?_)
        refine e_iload (pc := 103) dX6_ask_103 rfl ?_
        refine e_goto (pc := 105) (tgt := 110) dX6_ask_105 (by decide) ?_
        refine e_istore (pc := 110) dX6_ask_110 (by decide) rfl ?_
        refine e_iinc' (pc := 112) (nI (j + 1)) dX6_ask_112 rfl (by decide) rfl (nI_1 _) ?_
        refine e_goto (pc := 115) (tgt := 63) dX6_ask_115 (by decide) ?_
        exact hih _ (by omega) (by omega)
theorem lp_askB1 {sc : PSc} {w m : Nat} {W : Nat → Nat} {S : PS} {Q : PQ} (hm : m ≤ 13) (hW : ∀ (b : Nat) (Q : PQ), b ≤ 200 → Q (some (.int (nI (W b)))) S → E sc mX5_mostAlike 0 (pL0 mX5_mostAlike [.ref 0, .int (nI b), .int (nI m)]) [] S Q) (hWb : ∀ b, W b ≤ 13) (k : Q (some (.int (if (bw W m 201).2 = -4 then -4 else nI (bw W m 201).1))) S) : ∀ (n : Nat) (j : Nat) (z : Value), j ≤ 201 → 201 - j < n → E sc mX5_ask 76 [.ref 0, .int (nI w), .int (nI 1), .int (nI m), .int (nI (bw W m j).1), .int (bw W m j).2, .int (nI j), z] [] S Q := by
  intro n
  induction n with
  | zero => intro j z hj hn; exact absurd hn (by omega)
  | succ n ih =>
    intro j z hj hn
    have hbl := bw_le (W := W) (m := m) j
    have hwb := hWb j
    have hih := fun z => ih (j + 1) z
    rw [bw] at hih
    refine e_iload (pc := 76) dX5_ask_76 rfl ?_
    refine e_sipush' (pc := 78) (nI 200) dX5_ask_78 (by decide) ?_
    refine e_icmp_gt (pc := 81) (tgt := 114) dX5_ask_81 (by decide) (fun h81 => ?_) (fun h81 => ?_)
    · replace h81 := (nI_ltI (by omega) (by omega)).mp h81
      obtain rfl : j = 201 := by omega
      refine e_iload (pc := 114) dX5_ask_114 rfl ?_
      refine e_bipush' (pc := 116) (-4) dX5_ask_116 (by decide) ?_
      refine e_icmp_eq (pc := 118) (tgt := 125) dX5_ask_118 (by decide) (fun h118 => ?_) (fun h118 => ?_)
      · rw [show (bw W m 201).2 = -4 from h118, if_pos rfl] at k
        refine e_iload (pc := 125) dX5_ask_125 rfl ?_
        refine e_goto (pc := 127) (tgt := 132) dX5_ask_127 (by decide) ?_
        refine e_iret (pc := 132) (st := []) (ty := .int) dX5_ask_132 rfl rfl ?_
        exact qeq k h118
      · rw [if_neg h118] at k
        refine e_iload_n (pc := 121) (i := 2) dX5_ask_121 rfl rfl ?_
        refine e_if_ne (pc := 122) (tgt := 130) dX5_ask_122 (by decide) (fun h122 => ?_) (fun h122 => absurd h122 (by decide))
        refine e_iload (pc := 130) dX5_ask_130 rfl ?_
        refine e_iret (pc := 132) (st := []) (ty := .int) dX5_ask_132 rfl rfl ?_
        exact k
    · replace h81 := mt (nI_ltI (by omega) (by omega)).mpr h81
      refine e_aload_n (pc := 84) (i := 0) dX5_ask_84 rfl rfl ?_
      refine e_iload (pc := 85) dX5_ask_85 rfl ?_
      refine e_iload_n (pc := 87) (i := 3) dX5_ask_87 rfl rfl ?_
      refine e_callV2 (pc := 88) (M' := mX5_mostAlike) dX5_ask_88 iX5_mostAlike lkX5_217 (by decide) (rO_obj sh_0 rfl) (Nat.le_of_ble_eq_true rfl) (Nat.le_of_ble_eq_true rfl) ?_
      refine hW j _ (by omega) ?_
      refine e_istore (pc := 91) dX5_ask_91 (by decide) rfl ?_
      refine e_iload (pc := 93) dX5_ask_93 rfl ?_
      refine e_iload (pc := 95) dX5_ask_95 rfl ?_
      refine e_icmp_ge (pc := 97) (tgt := 108) dX5_ask_97 (by decide) (fun h97 => ?_) (fun h97 => ?_)
      · replace h97 := (nI_leI (by omega) (by omega)).mp h97
        rw [if_neg (by omega)] at hih
        refine e_iinc' (pc := 108) (nI (j + 1)) dX5_ask_108 rfl (by decide) rfl (nI_1 _) ?_
        refine e_goto (pc := 111) (tgt := 76) dX5_ask_111 (by decide) ?_
        exact hih _ (by omega) (by omega)
      · replace h97 := mt (nI_leI (by omega) (by omega)).mpr h97
        rw [if_pos (by omega)] at hih
        refine e_iload (pc := 100) dX5_ask_100 rfl ?_
        refine e_istore (pc := 102) dX5_ask_102 (by decide) rfl ?_
        refine e_iload (pc := 104) dX5_ask_104 rfl ?_
        refine e_istore (pc := 106) dX5_ask_106 (by decide) rfl ?_
        refine e_iinc' (pc := 108) (nI (j + 1)) dX5_ask_108 rfl (by decide) rfl (nI_1 _) ?_
        refine e_goto (pc := 111) (tgt := 76) dX5_ask_111 (by decide) ?_
        exact hih _ (by omega) (by omega)
theorem lm_askB1 {sc : PSc} {w m : Nat} {B : Int32} {W : Nat → Nat} {S : PS} {Q : PQ} (hm : m ≤ 13) (hW : ∀ (b : Nat) (Q : PQ), b ≤ 200 → Q (some (.int (nI (W b)))) S → E sc mX6_worstAt 0 (pL0 mX6_worstAt [.ref 54, .int B, .int (nI b)]) [] S Q) (hWb : ∀ b, W b ≤ 13) (k : Q (some (.int (if (bw W m 201).2 = -4 then -4 else nI (bw W m 201).1))) S) : ∀ (n : Nat) (j : Nat) (z : Value), j ≤ 201 → 201 - j < n → E sc mX6_ask 63 [.ref 54, .int (nI w), .int (nI 1), .int B, .int (nI (bw W m j).1), .int (bw W m j).2, .int (nI j), z] [] S Q := by
  intro n
  induction n with
  | zero => intro j z hj hn; exact absurd hn (by omega)
  | succ n ih =>
    intro j z hj hn
    have hbl := bw_le (W := W) (m := m) j
    have hwb := hWb j
    have hih := fun z => ih (j + 1) z
    rw [bw] at hih
    refine e_iload (pc := 63) dX6_ask_63 rfl ?_
    refine e_sipush' (pc := 65) (nI 200) dX6_ask_65 (by decide) ?_
    refine e_icmp_gt (pc := 68) (tgt := 118) dX6_ask_68 (by decide) (fun h68 => ?_) (fun h68 => ?_)
    · replace h68 := (nI_ltI (by omega) (by omega)).mp h68
      obtain rfl : j = 201 := by omega
      refine e_iload (pc := 118) dX6_ask_118 rfl ?_
      refine e_bipush' (pc := 120) (-4) dX6_ask_120 (by decide) ?_
      refine e_icmp_eq (pc := 122) (tgt := 129) dX6_ask_122 (by decide) (fun h122 => ?_) (fun h122 => ?_)
      · rw [show (bw W m 201).2 = -4 from h122, if_pos rfl] at k
        refine e_iload (pc := 129) dX6_ask_129 rfl ?_
        refine e_goto (pc := 131) (tgt := 136) dX6_ask_131 (by decide) ?_
        refine e_iret (pc := 136) (st := []) (ty := .int) dX6_ask_136 rfl rfl ?_
        exact qeq k h122
      · rw [if_neg h122] at k
        refine e_iload_n (pc := 125) (i := 2) dX6_ask_125 rfl rfl ?_
        refine e_if_ne (pc := 126) (tgt := 134) dX6_ask_126 (by decide) (fun h126 => ?_) (fun h126 => absurd h126 (by decide))
        refine e_iload (pc := 134) dX6_ask_134 rfl ?_
        refine e_iret (pc := 136) (st := []) (ty := .int) dX6_ask_136 rfl rfl ?_
        exact k
    · replace h68 := mt (nI_ltI (by omega) (by omega)).mpr h68
      refine e_aload_n (pc := 71) (i := 0) dX6_ask_71 rfl rfl ?_
      refine e_iload_n (pc := 72) (i := 3) dX6_ask_72 rfl rfl ?_
      refine e_iload (pc := 73) dX6_ask_73 rfl ?_
      refine e_callV2 (pc := 75) (M' := mX6_worstAt) dX6_ask_75 iX6_worstAt lkX6_215 (by decide) (rO_obj sh_54 rfl) (Nat.le_of_ble_eq_true rfl) (Nat.le_of_ble_eq_true rfl) ?_
      refine hW j _ (by omega) ?_
      refine e_istore (pc := 78) dX6_ask_78 (by decide) rfl ?_
      refine e_iload (pc := 80) dX6_ask_80 rfl ?_
      refine e_iload (pc := 82) dX6_ask_82 rfl ?_
      refine e_icmp_ge (pc := 84) (tgt := 92) dX6_ask_84 (by decide) (fun h84 => ?_) (fun h84 => ?_)
      · replace h84 := (nI_leI (by omega) (by omega)).mp h84
        rw [if_neg (by omega)] at hih
        refine e_iload (pc := 92) dX6_ask_92 rfl ?_
        refine e_istore (pc := 94) dX6_ask_94 (by decide) rfl ?_
        refine e_iload (pc := 96) dX6_ask_96 rfl ?_
        refine e_iload (pc := 98) dX6_ask_98 rfl ?_
        refine e_icmp_ge (pc := 100) (tgt := 108) dX6_ask_100 (by decide) (fun h100 => ?_) (fun h100 => absurd (nI_le h84 (by omega)) h100)
        refine e_iload (pc := 108) dX6_ask_108 rfl ?_
        refine e_istore (pc := 110) dX6_ask_110 (by decide) rfl ?_
        refine e_iinc' (pc := 112) (nI (j + 1)) dX6_ask_112 rfl (by decide) rfl (nI_1 _) ?_
        refine e_goto (pc := 115) (tgt := 63) dX6_ask_115 (by decide) ?_
        exact hih _ (by omega) (by omega)
      · replace h84 := mt (nI_leI (by omega) (by omega)).mpr h84
        rw [if_pos (by omega)] at hih
        refine e_iload (pc := 87) dX6_ask_87 rfl ?_
        refine e_goto (pc := 89) (tgt := 94) dX6_ask_89 (by decide) ?_
        refine e_istore (pc := 94) dX6_ask_94 (by decide) rfl ?_
        refine e_iload (pc := 96) dX6_ask_96 rfl ?_
        refine e_iload (pc := 98) dX6_ask_98 rfl ?_
        refine e_icmp_ge (pc := 100) (tgt := 108) dX6_ask_100 (by decide) (fun h100 => absurd ((nI_leI (by omega) (by omega)).mp h100) h84) (fun h100 => ?_)
        refine e_iload (pc := 103) dX6_ask_103 rfl ?_
        refine e_goto (pc := 105) (tgt := 110) dX6_ask_105 (by decide) ?_
        refine e_istore (pc := 110) dX6_ask_110 (by decide) rfl ?_
        refine e_iinc' (pc := 112) (nI (j + 1)) dX6_ask_112 rfl (by decide) rfl (nI_1 _) ?_
        refine e_goto (pc := 115) (tgt := 63) dX6_ask_115 (by decide) ?_
        exact hih _ (by omega) (by omega)
theorem lp_askF {sc : PSc} {w : Nat} {e : Int32} {p : Nat → Bool} {R : Rw} {S0 : PS} {Q : PQ} (hv : Vd R) (hr0 : RowAt S0 1 R) (hw : w < R 20) (hp : ∀ t, t < 13 → p t = true → Vd (rs R (5 * 3 + w) t)) (hl0 : ∀ i, i < fa_cnt p 13 → S0.1 39 i = nI (en p 13 i)) (k : ∀ S' : PS, FrA S0 S' → (∀ i, i < fa_cnt p 13 → ∀ q, q < 201 → S'.1 (41 + i) q = nI (reads (pn (rs R (5 * 3 + w) (en p 13 i)) q))) → E sc mX5_ask 66 [.ref 0, .int (nI w), .int e, .int (nI (fa_cnt p 13)), .int (nI (fa_cnt p 13)), .null, .null, .null] [] S' Q) : ∀ (n : Nat) (j : Nat) (S : PS), j ≤ fa_cnt p 13 → fa_cnt p 13 - j < n → FrA S0 S → S.1 39 = S0.1 39 → (∀ i, i < j → ∀ q, q < 201 → S.1 (41 + i) q = nI (reads (pn (rs R (5 * 3 + w) (en p 13 i)) q))) → E sc mX5_ask 35 [.ref 0, .int (nI w), .int e, .int (nI (fa_cnt p 13)), .int (nI j), .null, .null, .null] [] S Q := by
  intro n
  induction n with
  | zero => intro j S hj hn hf h39 hrd; exact absurd hn (by omega)
  | succ n ih =>
    intro j S hj hn hf h39 hrd
    have hc13 := fa_cnt_le p 13
    have hr := hf.row hr0
    refine e_iload (pc := 35) dX5_ask_35 rfl ?_
    refine e_iload_n (pc := 37) (i := 3) dX5_ask_37 rfl rfl ?_
    refine e_icmp_ge (pc := 38) (tgt := 66) dX5_ask_38 (by decide) (fun h38 => ?_) (fun h38 => ?_)
    · replace h38 := (nI_leI (by omega) (by omega)).mp h38
      obtain rfl : j = fa_cnt p 13 := by omega
      exact k S hf hrd
    · replace h38 := mt (nI_leI (by omega) (by omega)).mpr h38
      obtain ⟨e1, e2⟩ := en_lt (p := p) 13 j (by omega)
      refine e_aload_n (pc := 41) (i := 0) dX5_ask_41 rfl rfl ?_
      refine e_iload_n (pc := 42) (i := 1) dX5_ask_42 rfl rfl ?_
      refine e_aload_n (pc := 43) (i := 0) dX5_ask_43 rfl rfl ?_
      refine e_getR (pc := 44) dX5_ask_44 (fX5_61 rfl) sh_0 rfl ?_
      refine e_iload (pc := 47) dX5_ask_47 rfl ?_
      refine e_iald (pc := 49) dX5_ask_49 sh_39 (vp_in_nI (by omega) (by omega)) ?_
      refine E.it (nI (en p 13 j)) (by rw [nI_clamp (by omega), h39]; exact hl0 j (by omega)) ?_
      refine e_aload_n (pc := 50) (i := 0) dX5_ask_50 rfl rfl ?_
      refine e_getR (pc := 51) dX5_ask_51 (fX5_67 rfl) sh_0 rfl ?_
      refine e_iload (pc := 54) dX5_ask_54 rfl ?_
      refine e_aald (pc := 56) (r := 41 + j) dX5_ask_56 sh_40 (show vp_in (nI j) 13 from vp_in_nI (by omega) (by omega)) (rd_at (i := j) (by omega)) ?_
      refine e_callV3 (pc := 57) (M' := mX5_fillReadings) dX5_ask_57 iX5_fillReadings lkX5_213 (by decide) (rO_obj sh_0 rfl) (Nat.le_of_ble_eq_true rfl) (Nat.le_of_ble_eq_true rfl) ?_
      refine sp_fill (i := j) (t := en p 13 j) (by omega) hv hr hw (hp _ e1 e2) (fun S2 a b => ?_)
      refine e_iinc' (pc := 60) (nI (j + 1)) dX5_ask_60 rfl (by decide) rfl (nI_1 _) ?_
      refine e_goto (pc := 63) (tgt := 35) dX5_ask_63 (by decide) ?_
      refine ih (j + 1) S2 (by omega) (by omega) (hf.tr (fun c hc => b c (by omega) (by omega))) ((b 39 (by omega) (by omega)).trans h39) (fun i hi q hq => ?_)
      by_cases ee : i = j
      · subst ee; exact a q hq
      · rw [b _ (by omega) (by omega)]; exact hrd i (by omega) q hq
theorem lm_askC {sc : PSc} {w : Nat} {e : Int32} {p : Nat → Bool} {S : PS} {Q : PQ} (k : E sc mX6_ask 56 [.ref 54, .int (nI w), .int e, .int (nI (bitsF p 13)), .int (nI (fa_cnt p 13)), .int (nI 13), .null, .null] [] S Q) : ∀ (n : Nat) (j : Nat), j ≤ 13 → 13 - j < n → E sc mX6_ask 32 [.ref 54, .int (nI w), .int e, .int (nI (bitsF p 13)), .int (nI (fa_cnt p j)), .int (nI j), .null, .null] [] S Q := by
  intro n
  induction n with
  | zero => intro j hj hn; exact absurd hn (by omega)
  | succ n ih =>
    intro j hj hn
    have hih := ih (j + 1)
    rw [fa_cnt] at hih
    refine e_iload (pc := 32) dX6_ask_32 rfl ?_
    refine e_bipush' (pc := 34) (nI 12) dX6_ask_34 (by decide) ?_
    refine e_icmp_gt (pc := 36) (tgt := 56) dX6_ask_36 (by decide) (fun h36 => ?_) (fun h36 => ?_)
    · replace h36 := (nI_ltI (by omega) (by omega)).mp h36
      obtain rfl : j = 13 := by omega
      exact k
    · replace h36 := mt (nI_ltI (by omega) (by omega)).mpr h36
      refine e_iload (pc := 39) dX6_ask_39 rfl ?_
      refine e_iload_n (pc := 41) (i := 3) dX6_ask_41 rfl rfl ?_
      refine e_iload (pc := 42) dX6_ask_42 rfl ?_
      refine e_ishr (pc := 44) dX6_ask_44 ?_
      refine e_iconst' (pc := 45) (nI 1) dX6_ask_45 (by decide) ?_
      refine e_iand (pc := 46) dX6_ask_46 ?_
      refine E.it (nI (if p j then 1 else 0)) (bitp (by omega)) ?_
      refine e_iadd (pc := 47) dX6_ask_47 ?_
      refine E.it (nI (fa_cnt p j + if p j then 1 else 0)) (nI_add _ _) ?_
      refine e_istore (pc := 48) dX6_ask_48 (by decide) rfl ?_
      refine e_iinc' (pc := 50) (nI (j + 1)) dX6_ask_50 rfl (by decide) rfl (nI_1 _) ?_
      refine e_goto (pc := 53) (tgt := 32) dX6_ask_53 (by decide) ?_
      exact hih (by omega) (by omega)
theorem b_ask {sc : PSc} {S : PS} (hI : InvS S) (x y : Int32) : Bth sc mX5_ask mX6_ask [.int x, .int y] S := by
  obtain ⟨R, hv, hc, hr, hp⟩ := hI.1
  obtain ⟨n0, sp, sv, hn6, t26, t18, tss⟩ := hI.2.2.2.2.1
  have hsc : SnC S n0 sp sv := ⟨hn6, t26, fun k hk => ⟨(tss k hk).1, (tss k hk).2.1, (tss k hk).2.2.1, (tss k hk).2.2.2.1⟩⟩
  have hsm : SnM S n0 sp sv := ⟨hn6, t18, fun k hk => ⟨(tss k hk).1, (tss k hk).2.1, (tss k hk).2.2.2.2.1, (tss k hk).2.2.2.2.2⟩⟩
  have hv5 := hv.1
  rcases Classical.em (inw x (R 20)) with ⟨w, rfl, hw⟩ | hn
  · rcases Classical.em (inr y 0 1) with ⟨e, rfl, -, he⟩ | hn
    · obtain ⟨p, hpp⟩ : ∃ p : Nat → Bool, ∀ v, (v < R (5 + w) ∨ v = 12) → (p v = true ↔ fitP sp sv n0 (rs R (15 + w) v)) := ⟨fun v => @decide _ (Classical.propDecidable (fitP sp sv n0 (rs R (15 + w) v))), fun v _ => by simp⟩
      have htw := hv.2 w hw
      obtain ⟨P, hP⟩ : ∃ P : Nat → Bool, P = fun t => (decide (t < R (5 + w)) || decide (t = 12)) && p t := ⟨_, rfl⟩
      have hPv : ∀ t, t < 13 → P t = true → (t < R (5 + w) ∨ t = 12) := by
        intro t _ h
        rw [hP] at h
        simp only [Bool.and_eq_true, Bool.or_eq_true, decide_eq_true_eq] at h
        exact h.1
      have hPd : ∀ t, t < 13 → P t = true → Vd (rs R (5 * 3 + w) t) := fun t h1 h2 => set_vd (a := 3) hv hw (Or.inr (Or.inr ⟨rfl, hPv t h1 h2⟩))
      obtain ⟨f, hf⟩ : ∃ f : Nat → Nat → Nat, f = fun b t => reads (pn (rs R (5 * 3 + w) t) b) := ⟨_, rfl⟩
      have hfb : ∀ b t, t < 13 → P t = true → f b t ≤ 248831 := fun b t h1 h2 => by rw [hf]; exact reads_le (pn_vd (hPd t h1 h2) b)
      have hc13 := fa_cnt_le P 13
      have eB : bitsG p (R (5 + w)) = bitsF P 13 := by rw [hP]; exact bits_eq (by omega)
      have hWb : ∀ b, wm (al P (f b)) 13 ≤ 13 := fun b => wm_b (al_le P (f b)) 13
      rcases (show e = 0 ∨ e = 1 by omega) with rfl | rfl
      · refine ask_both (if (bw (fun b => wm (al P (f b)) 13) (fa_cnt P 13) 201).2 = -4 then -4 else (bw (fun b => wm (al P (f b)) 13) (fa_cnt P 13) 201).2) hI (fun Q k => ?_) (fun S1 h1 Q k => ?_)
        · show E sc mX5_ask 0 [.ref 0, .int (nI w), .int (nI 0), .null, .null, .null, .null, .null] [] S Q
          refine e_aload_n (pc := 0) (i := 0) dX5_ask_0 rfl rfl ?_
          refine e_getR (pc := 1) dX5_ask_1 (fX5_10 rfl) sh_0 rfl ?_
          refine e_iload_n (pc := 4) (i := 1) dX5_ask_4 rfl rfl ?_
          refine e_callV1 (pc := 5) (M' := mX0_has) dX5_ask_5 iX0_has lkX5_120 (by decide) (rO_obj sh_1 rfl) (Nat.le_of_ble_eq_true rfl) (Nat.le_of_ble_eq_true rfl) ?_
          refine sp_hasY r1 hv hr hw ?_
          refine e_if_eq (pc := 8) (tgt := 20) dX5_ask_8 (by decide) (fun h8 => absurd h8 (by decide)) (fun h8 => ?_)
          refine e_iload_n (pc := 11) (i := 2) dX5_ask_11 rfl rfl ?_
          refine e_iconst' (pc := 12) (nI 0) dX5_ask_12 (by decide) ?_
          refine e_iconst' (pc := 13) (nI 1) dX5_ask_13 (by decide) ?_
          refine e_callS3 (pc := 14) (M' := mX5_within) dX5_ask_14 jX5_within lkX5_70 (by decide) (Nat.le_of_ble_eq_true rfl) (Nat.le_of_ble_eq_true rfl) ?_
          refine sp_winY (by omega) (by omega) (by omega) ?_
          refine e_if_ne (pc := 17) (tgt := 22) dX5_ask_17 (by decide) (fun h17 => ?_) (fun h17 => absurd h17 (by decide))
          refine e_aload_n (pc := 22) (i := 0) dX5_ask_22 rfl rfl ?_
          refine e_aload_n (pc := 23) (i := 0) dX5_ask_23 rfl rfl ?_
          refine e_iload_n (pc := 24) (i := 1) dX5_ask_24 rfl rfl ?_
          refine e_callV1 (pc := 25) (M' := mX5_broken) dX5_ask_25 iX5_broken lkX5_207 (by decide) (rO_obj sh_0 rfl) (Nat.le_of_ble_eq_true rfl) (Nat.le_of_ble_eq_true rfl) ?_
          refine sp_broken hv hw hr hsc hpp (fun S2 h2 => ?_)
          rw [eB]
          refine e_callV1 (pc := 28) (M' := mX5_listTeethLeft) dX5_ask_28 iX5_listTeethLeft lkX5_210 (by decide) (rO_obj sh_0 rfl) (Nat.le_of_ble_eq_true rfl) (Nat.le_of_ble_eq_true rfl) ?_
          show E sc mX5_listTeethLeft 0 [.ref 0, .int (nI (bitsF P 13)), .null, .null] [] S2 _
          refine e_iconst' (pc := 0) (nI 0) dX5_listTeethLeft_0 (by decide) ?_
          refine e_istore_n (pc := 1) (i := 2) dX5_listTeethLeft_1 rfl (by decide) rfl ?_
          refine e_iconst' (pc := 2) (nI 0) dX5_listTeethLeft_2 (by decide) ?_
          refine e_istore_n (pc := 3) (i := 3) dX5_listTeethLeft_3 rfl (by decide) rfl ?_
          refine lp_list (p := P) (fun S3 l3 f3 => ?_) 14 0 S2 (by omega) (by omega) (fun i hi => absurd hi (Nat.not_lt_zero i)) (fun _ _ => rfl)
          refine e_istore_n (pc := 31) (i := 3) dX5_ask_31 rfl (by decide) rfl ?_
          refine e_iconst' (pc := 32) (nI 0) dX5_ask_32 (by decide) ?_
          refine e_istore (pc := 33) dX5_ask_33 (by decide) rfl ?_
          have f3A : FrA S S3 := (FrA.of h2).tr (fun c hc => f3 c (by omega))
          refine lp_askF hv (f3A.row hr) hw hPd l3 (fun S4 f4 rd4 => ?_) 14 0 S3 (by omega) (by omega) FrA.rf rfl (fun i hi => absurd hi (Nat.not_lt_zero i))
          refine e_iload_n (pc := 66) (i := 3) dX5_ask_66 rfl rfl ?_
          refine e_istore (pc := 67) dX5_ask_67 (by decide) rfl ?_
          refine e_bipush' (pc := 69) (-4) dX5_ask_69 (by decide) ?_
          refine e_istore (pc := 71) dX5_ask_71 (by decide) rfl ?_
          refine e_iconst' (pc := 73) (nI 0) dX5_ask_73 (by decide) ?_
          refine e_istore (pc := 74) dX5_ask_74 (by decide) rfl ?_
          refine lp_askB0 (W := fun b => wm (al P (f b)) 13) hc13 (fun b Q hb kk => ?_) hWb (k _ (f3A.tr f4).same) 202 0 _ (by omega) (by omega)
          refine sp_alike (g := fun i => f b (en P 13 i)) hb hc13 (fun i hi => ⟨?_, ?_⟩) (fun i hi => ?_) ?_ (hWb b) kk
          · rw [hf]; exact rd4 i hi b (by omega)
          · exact hfb b _ (en_lt 13 i hi).1 (en_lt 13 i hi).2
          · show cA (fun o => f b (en P 13 o)) (f b (en P 13 i)) _ ≤ _
            rw [al_en hi]; exact wm_le 13 _ (en_lt 13 i hi).1
          · rcases wm_at (A := al P (f b)) 13 with z | ⟨a, ha, z⟩
            · exact Or.inl z
            · by_cases hpa : P a = true
              · obtain ⟨i, hi, rfl⟩ := en_sur 13 a ha hpa
                refine Or.inr ⟨i, hi, ?_⟩
                show cA (fun o => f b (en P 13 o)) (f b (en P 13 i)) _ = _
                rw [al_en hi]; exact z
              · left; rw [← z]; unfold al; rw [if_neg hpa]
        · show E sc mX6_ask 0 [.ref 54, .int (nI w), .int (nI 0), .null, .null, .null, .null, .null] [] S1 Q
          have hp := h1.pg (by omega) hv hp
          refine e_aload_n (pc := 0) (i := 0) dX6_ask_0 rfl rfl ?_
          refine e_iload_n (pc := 1) (i := 1) dX6_ask_1 rfl rfl ?_
          refine e_callV1 (pc := 2) (M' := mX6_isWheel) dX6_ask_2 iX6_isWheel lkX6_144 (by decide) (rO_obj sh_54 rfl) (Nat.le_of_ble_eq_true rfl) (Nat.le_of_ble_eq_true rfl) ?_
          refine sp_isWheelY hv hp hw ?_
          refine e_if_eq (pc := 5) (tgt := 18) dX6_ask_5 (by decide) (fun h5 => absurd h5 (by decide)) (fun h5 => ?_)
          refine e_iload_n (pc := 8) (i := 2) dX6_ask_8 rfl rfl ?_
          refine e_i2l (pc := 9) dX6_ask_9 ?_
          refine e_lconst' (pc := 10) (lN 0) dX6_ask_10 (by decide) ?_
          refine e_lconst' (pc := 11) (lN 1) dX6_ask_11 (by decide) ?_
          refine e_callS3 (pc := 12) (M' := mX6_in) dX6_ask_12 jX6_in lkX6_46 (by decide) (Nat.le_of_ble_eq_true rfl) (Nat.le_of_ble_eq_true rfl) ?_
          refine sp_inY (lo := 0) (hi := 1) (by decide) (by decide) (by omega) (by omega) (by omega) ?_
          refine e_if_ne (pc := 15) (tgt := 20) dX6_ask_15 (by decide) (fun h15 => ?_) (fun h15 => absurd h15 (by decide))
          refine e_aload_n (pc := 20) (i := 0) dX6_ask_20 rfl rfl ?_
          refine e_iload_n (pc := 21) (i := 1) dX6_ask_21 rfl rfl ?_
          refine e_callV1 (pc := 22) (M' := mX6_brokenOf) dX6_ask_22 iX6_brokenOf lkX6_212 (by decide) (rO_obj sh_54 rfl) (Nat.le_of_ble_eq_true rfl) (Nat.le_of_ble_eq_true rfl) ?_
          refine sp_brokenOf hv hw hp (hsm.same h1) hpp (fun S2 h2 hrb => ?_)
          rw [← hP]
          refine e_istore_n (pc := 25) (i := 3) dX6_ask_25 rfl (by decide) rfl ?_
          refine e_iconst' (pc := 26) (nI 0) dX6_ask_26 (by decide) ?_
          refine e_istore (pc := 27) dX6_ask_27 (by decide) rfl ?_
          refine e_iconst' (pc := 29) (nI 0) dX6_ask_29 (by decide) ?_
          refine e_istore (pc := 30) dX6_ask_30 (by decide) rfl ?_
          refine lm_askC (p := P) ?_ 14 0 (by omega) (by omega)
          refine e_bipush' (pc := 56) (-4) dX6_ask_56 (by decide) ?_
          refine e_istore (pc := 58) dX6_ask_58 (by decide) rfl ?_
          refine e_iconst' (pc := 60) (nI 0) dX6_ask_60 (by decide) ?_
          refine e_istore (pc := 61) dX6_ask_61 (by decide) rfl ?_
          refine lm_askB0 (W := fun b => wm (al P (f b)) 13) hc13 (fun b Q hb kk => ?_) hWb (k S2 h2) 202 0 _ (by omega) (by omega)
          refine sp_worst (f := f b) hb (fun t ht hpt => ⟨?_, hfb b t ht hpt⟩) kk
          rw [hf]; exact hrb t (hPv t ht hpt) b (by omega)
      · refine ask_both (if (bw (fun b => wm (al P (f b)) 13) (fa_cnt P 13) 201).2 = -4 then -4 else nI (bw (fun b => wm (al P (f b)) 13) (fa_cnt P 13) 201).1) hI (fun Q k => ?_) (fun S1 h1 Q k => ?_)
        · show E sc mX5_ask 0 [.ref 0, .int (nI w), .int (nI 1), .null, .null, .null, .null, .null] [] S Q
          refine e_aload_n (pc := 0) (i := 0) dX5_ask_0 rfl rfl ?_
          refine e_getR (pc := 1) dX5_ask_1 (fX5_10 rfl) sh_0 rfl ?_
          refine e_iload_n (pc := 4) (i := 1) dX5_ask_4 rfl rfl ?_
          refine e_callV1 (pc := 5) (M' := mX0_has) dX5_ask_5 iX0_has lkX5_120 (by decide) (rO_obj sh_1 rfl) (Nat.le_of_ble_eq_true rfl) (Nat.le_of_ble_eq_true rfl) ?_
          refine sp_hasY r1 hv hr hw ?_
          refine e_if_eq (pc := 8) (tgt := 20) dX5_ask_8 (by decide) (fun h8 => absurd h8 (by decide)) (fun h8 => ?_)
          refine e_iload_n (pc := 11) (i := 2) dX5_ask_11 rfl rfl ?_
          refine e_iconst' (pc := 12) (nI 0) dX5_ask_12 (by decide) ?_
          refine e_iconst' (pc := 13) (nI 1) dX5_ask_13 (by decide) ?_
          refine e_callS3 (pc := 14) (M' := mX5_within) dX5_ask_14 jX5_within lkX5_70 (by decide) (Nat.le_of_ble_eq_true rfl) (Nat.le_of_ble_eq_true rfl) ?_
          refine sp_winY (by omega) (by omega) (by omega) ?_
          refine e_if_ne (pc := 17) (tgt := 22) dX5_ask_17 (by decide) (fun h17 => ?_) (fun h17 => absurd h17 (by decide))
          refine e_aload_n (pc := 22) (i := 0) dX5_ask_22 rfl rfl ?_
          refine e_aload_n (pc := 23) (i := 0) dX5_ask_23 rfl rfl ?_
          refine e_iload_n (pc := 24) (i := 1) dX5_ask_24 rfl rfl ?_
          refine e_callV1 (pc := 25) (M' := mX5_broken) dX5_ask_25 iX5_broken lkX5_207 (by decide) (rO_obj sh_0 rfl) (Nat.le_of_ble_eq_true rfl) (Nat.le_of_ble_eq_true rfl) ?_
          refine sp_broken hv hw hr hsc hpp (fun S2 h2 => ?_)
          rw [eB]
          refine e_callV1 (pc := 28) (M' := mX5_listTeethLeft) dX5_ask_28 iX5_listTeethLeft lkX5_210 (by decide) (rO_obj sh_0 rfl) (Nat.le_of_ble_eq_true rfl) (Nat.le_of_ble_eq_true rfl) ?_
          show E sc mX5_listTeethLeft 0 [.ref 0, .int (nI (bitsF P 13)), .null, .null] [] S2 _
          refine e_iconst' (pc := 0) (nI 0) dX5_listTeethLeft_0 (by decide) ?_
          refine e_istore_n (pc := 1) (i := 2) dX5_listTeethLeft_1 rfl (by decide) rfl ?_
          refine e_iconst' (pc := 2) (nI 0) dX5_listTeethLeft_2 (by decide) ?_
          refine e_istore_n (pc := 3) (i := 3) dX5_listTeethLeft_3 rfl (by decide) rfl ?_
          refine lp_list (p := P) (fun S3 l3 f3 => ?_) 14 0 S2 (by omega) (by omega) (fun i hi => absurd hi (Nat.not_lt_zero i)) (fun _ _ => rfl)
          refine e_istore_n (pc := 31) (i := 3) dX5_ask_31 rfl (by decide) rfl ?_
          refine e_iconst' (pc := 32) (nI 0) dX5_ask_32 (by decide) ?_
          refine e_istore (pc := 33) dX5_ask_33 (by decide) rfl ?_
          have f3A : FrA S S3 := (FrA.of h2).tr (fun c hc => f3 c (by omega))
          refine lp_askF hv (f3A.row hr) hw hPd l3 (fun S4 f4 rd4 => ?_) 14 0 S3 (by omega) (by omega) FrA.rf rfl (fun i hi => absurd hi (Nat.not_lt_zero i))
          refine e_iload_n (pc := 66) (i := 3) dX5_ask_66 rfl rfl ?_
          refine e_istore (pc := 67) dX5_ask_67 (by decide) rfl ?_
          refine e_bipush' (pc := 69) (-4) dX5_ask_69 (by decide) ?_
          refine e_istore (pc := 71) dX5_ask_71 (by decide) rfl ?_
          refine e_iconst' (pc := 73) (nI 0) dX5_ask_73 (by decide) ?_
          refine e_istore (pc := 74) dX5_ask_74 (by decide) rfl ?_
          refine lp_askB1 (W := fun b => wm (al P (f b)) 13) hc13 (fun b Q hb kk => ?_) hWb (k _ (f3A.tr f4).same) 202 0 _ (by omega) (by omega)
          refine sp_alike (g := fun i => f b (en P 13 i)) hb hc13 (fun i hi => ⟨?_, ?_⟩) (fun i hi => ?_) ?_ (hWb b) kk
          · rw [hf]; exact rd4 i hi b (by omega)
          · exact hfb b _ (en_lt 13 i hi).1 (en_lt 13 i hi).2
          · show cA (fun o => f b (en P 13 o)) (f b (en P 13 i)) _ ≤ _
            rw [al_en hi]; exact wm_le 13 _ (en_lt 13 i hi).1
          · rcases wm_at (A := al P (f b)) 13 with z | ⟨a, ha, z⟩
            · exact Or.inl z
            · by_cases hpa : P a = true
              · obtain ⟨i, hi, rfl⟩ := en_sur 13 a ha hpa
                refine Or.inr ⟨i, hi, ?_⟩
                show cA (fun o => f b (en P 13 o)) (f b (en P 13 i)) _ = _
                rw [al_en hi]; exact z
              · left; rw [← z]; unfold al; rw [if_neg hpa]
        · show E sc mX6_ask 0 [.ref 54, .int (nI w), .int (nI 1), .null, .null, .null, .null, .null] [] S1 Q
          have hp := h1.pg (by omega) hv hp
          refine e_aload_n (pc := 0) (i := 0) dX6_ask_0 rfl rfl ?_
          refine e_iload_n (pc := 1) (i := 1) dX6_ask_1 rfl rfl ?_
          refine e_callV1 (pc := 2) (M' := mX6_isWheel) dX6_ask_2 iX6_isWheel lkX6_144 (by decide) (rO_obj sh_54 rfl) (Nat.le_of_ble_eq_true rfl) (Nat.le_of_ble_eq_true rfl) ?_
          refine sp_isWheelY hv hp hw ?_
          refine e_if_eq (pc := 5) (tgt := 18) dX6_ask_5 (by decide) (fun h5 => absurd h5 (by decide)) (fun h5 => ?_)
          refine e_iload_n (pc := 8) (i := 2) dX6_ask_8 rfl rfl ?_
          refine e_i2l (pc := 9) dX6_ask_9 ?_
          refine e_lconst' (pc := 10) (lN 0) dX6_ask_10 (by decide) ?_
          refine e_lconst' (pc := 11) (lN 1) dX6_ask_11 (by decide) ?_
          refine e_callS3 (pc := 12) (M' := mX6_in) dX6_ask_12 jX6_in lkX6_46 (by decide) (Nat.le_of_ble_eq_true rfl) (Nat.le_of_ble_eq_true rfl) ?_
          refine sp_inY (lo := 0) (hi := 1) (by decide) (by decide) (by omega) (by omega) (by omega) ?_
          refine e_if_ne (pc := 15) (tgt := 20) dX6_ask_15 (by decide) (fun h15 => ?_) (fun h15 => absurd h15 (by decide))
          refine e_aload_n (pc := 20) (i := 0) dX6_ask_20 rfl rfl ?_
          refine e_iload_n (pc := 21) (i := 1) dX6_ask_21 rfl rfl ?_
          refine e_callV1 (pc := 22) (M' := mX6_brokenOf) dX6_ask_22 iX6_brokenOf lkX6_212 (by decide) (rO_obj sh_54 rfl) (Nat.le_of_ble_eq_true rfl) (Nat.le_of_ble_eq_true rfl) ?_
          refine sp_brokenOf hv hw hp (hsm.same h1) hpp (fun S2 h2 hrb => ?_)
          rw [← hP]
          refine e_istore_n (pc := 25) (i := 3) dX6_ask_25 rfl (by decide) rfl ?_
          refine e_iconst' (pc := 26) (nI 0) dX6_ask_26 (by decide) ?_
          refine e_istore (pc := 27) dX6_ask_27 (by decide) rfl ?_
          refine e_iconst' (pc := 29) (nI 0) dX6_ask_29 (by decide) ?_
          refine e_istore (pc := 30) dX6_ask_30 (by decide) rfl ?_
          refine lm_askC (p := P) ?_ 14 0 (by omega) (by omega)
          refine e_bipush' (pc := 56) (-4) dX6_ask_56 (by decide) ?_
          refine e_istore (pc := 58) dX6_ask_58 (by decide) rfl ?_
          refine e_iconst' (pc := 60) (nI 0) dX6_ask_60 (by decide) ?_
          refine e_istore (pc := 61) dX6_ask_61 (by decide) rfl ?_
          refine lm_askB1 (W := fun b => wm (al P (f b)) 13) hc13 (fun b Q hb kk => ?_) hWb (k S2 h2) 202 0 _ (by omega) (by omega)
          refine sp_worst (f := f b) hb (fun t ht hpt => ⟨?_, hfb b t ht hpt⟩) kk
          rw [hf]; exact hrb t (hPv t ht hpt) b (by omega)
    · refine ask_both (-1) hI (fun Q k => ?_) (fun S1 h1 Q k => ?_)
      · show E sc mX5_ask 0 [.ref 0, .int (nI w), .int y, .null, .null, .null, .null, .null] [] S Q
        refine e_aload_n (pc := 0) (i := 0) dX5_ask_0 rfl rfl ?_
        refine e_getR (pc := 1) dX5_ask_1 (fX5_10 rfl) sh_0 rfl ?_
        refine e_iload_n (pc := 4) (i := 1) dX5_ask_4 rfl rfl ?_
        refine e_callV1 (pc := 5) (M' := mX0_has) dX5_ask_5 iX0_has lkX5_120 (by decide) (rO_obj sh_1 rfl) (Nat.le_of_ble_eq_true rfl) (Nat.le_of_ble_eq_true rfl) ?_
        refine sp_hasY r1 hv hr hw ?_
        refine e_if_eq (pc := 8) (tgt := 20) dX5_ask_8 (by decide) (fun h8 => absurd h8 (by decide)) (fun h8 => ?_)
        refine e_iload_n (pc := 11) (i := 2) dX5_ask_11 rfl rfl ?_
        refine e_iconst' (pc := 12) (nI 0) dX5_ask_12 (by decide) ?_
        refine e_iconst' (pc := 13) (nI 1) dX5_ask_13 (by decide) ?_
        refine e_callS3 (pc := 14) (M' := mX5_within) dX5_ask_14 jX5_within lkX5_70 (by decide) (Nat.le_of_ble_eq_true rfl) (Nat.le_of_ble_eq_true rfl) ?_
        refine sp_winX hn (by omega) (by omega) ?_
        refine e_if_ne (pc := 17) (tgt := 22) dX5_ask_17 (by decide) (fun h17 => absurd (by decide) h17) (fun h17 => ?_)
        refine e_iconst' (pc := 20) (-1) dX5_ask_20 (by decide) ?_
        refine e_iret (pc := 21) (st := []) (ty := .int) dX5_ask_21 rfl rfl ?_
        exact k _ Same.rf
      · show E sc mX6_ask 0 [.ref 54, .int (nI w), .int y, .null, .null, .null, .null, .null] [] S1 Q
        have hp := h1.pg (by omega) hv hp
        have hr := h1.row (by omega) hr
        refine e_aload_n (pc := 0) (i := 0) dX6_ask_0 rfl rfl ?_
        refine e_iload_n (pc := 1) (i := 1) dX6_ask_1 rfl rfl ?_
        refine e_callV1 (pc := 2) (M' := mX6_isWheel) dX6_ask_2 iX6_isWheel lkX6_144 (by decide) (rO_obj sh_54 rfl) (Nat.le_of_ble_eq_true rfl) (Nat.le_of_ble_eq_true rfl) ?_
        refine sp_isWheelY hv hp hw ?_
        refine e_if_eq (pc := 5) (tgt := 18) dX6_ask_5 (by decide) (fun h5 => absurd h5 (by decide)) (fun h5 => ?_)
        refine e_iload_n (pc := 8) (i := 2) dX6_ask_8 rfl rfl ?_
        refine e_i2l (pc := 9) dX6_ask_9 ?_
        refine e_lconst' (pc := 10) (lN 0) dX6_ask_10 (by decide) ?_
        refine e_lconst' (pc := 11) (lN 1) dX6_ask_11 (by decide) ?_
        refine e_callS3 (pc := 12) (M' := mX6_in) dX6_ask_12 jX6_in lkX6_46 (by decide) (Nat.le_of_ble_eq_true rfl) (Nat.le_of_ble_eq_true rfl) ?_
        refine sp_inX (lo := 0) (hi := 1) (by decide) (by decide) hn ?_
        refine e_if_ne (pc := 15) (tgt := 20) dX6_ask_15 (by decide) (fun h15 => absurd (by decide) h15) (fun h15 => ?_)
        refine e_iconst' (pc := 18) (-1) dX6_ask_18 (by decide) ?_
        refine e_iret (pc := 19) (st := []) (ty := .int) dX6_ask_19 rfl rfl ?_
        exact k _ Same.rf
  · refine ask_both (-1) hI (fun Q k => ?_) (fun S1 h1 Q k => ?_)
    · show E sc mX5_ask 0 [.ref 0, .int x, .int y, .null, .null, .null, .null, .null] [] S Q
      refine e_aload_n (pc := 0) (i := 0) dX5_ask_0 rfl rfl ?_
      refine e_getR (pc := 1) dX5_ask_1 (fX5_10 rfl) sh_0 rfl ?_
      refine e_iload_n (pc := 4) (i := 1) dX5_ask_4 rfl rfl ?_
      refine e_callV1 (pc := 5) (M' := mX0_has) dX5_ask_5 iX0_has lkX5_120 (by decide) (rO_obj sh_1 rfl) (Nat.le_of_ble_eq_true rfl) (Nat.le_of_ble_eq_true rfl) ?_
      refine sp_hasX r1 hv hr hn ?_
      refine e_if_eq (pc := 8) (tgt := 20) dX5_ask_8 (by decide) (fun h8 => ?_) (fun h8 => absurd (by decide) h8)
      refine e_iconst' (pc := 20) (-1) dX5_ask_20 (by decide) ?_
      refine e_iret (pc := 21) (st := []) (ty := .int) dX5_ask_21 rfl rfl ?_
      exact k _ Same.rf
    · show E sc mX6_ask 0 [.ref 54, .int x, .int y, .null, .null, .null, .null, .null] [] S1 Q
      have hp := h1.pg (by omega) hv hp
      have hr := h1.row (by omega) hr
      refine e_aload_n (pc := 0) (i := 0) dX6_ask_0 rfl rfl ?_
      refine e_iload_n (pc := 1) (i := 1) dX6_ask_1 rfl rfl ?_
      refine e_callV1 (pc := 2) (M' := mX6_isWheel) dX6_ask_2 iX6_isWheel lkX6_144 (by decide) (rO_obj sh_54 rfl) (Nat.le_of_ble_eq_true rfl) (Nat.le_of_ble_eq_true rfl) ?_
      refine sp_isWheelX hv hp hn ?_
      refine e_if_eq (pc := 5) (tgt := 18) dX6_ask_5 (by decide) (fun h5 => ?_) (fun h5 => absurd (by decide) h5)
      refine e_iconst' (pc := 18) (-1) dX6_ask_18 (by decide) ?_
      refine e_iret (pc := 19) (st := []) (ty := .int) dX6_ask_19 rfl rfl ?_
      exact k _ Same.rf

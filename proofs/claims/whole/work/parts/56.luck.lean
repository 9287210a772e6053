def sm (f : Nat → Nat) : Nat → Nat
  | 0 => 0
  | k + 1 => sm f k + f k
theorem sm_cg {f g : Nat → Nat} : ∀ n, (∀ i, i < n → f i = g i) → sm f n = sm g n
  | 0, _ => rfl
  | n + 1, h => by rw [sm, sm, sm_cg n (fun i hi => h i (by omega)), h n (by omega)]
theorem sm_add {f g : Nat → Nat} : ∀ n, sm (fun i => f i + g i) n = sm f n + sm g n
  | 0 => rfl
  | n + 1 => by rw [sm, sm, sm, sm_add n]; omega
theorem sm_mul {f : Nat → Nat} {c : Nat} : ∀ n, sm (fun i => f i * c) n = sm f n * c
  | 0 => (Nat.zero_mul c).symm
  | n + 1 => by rw [sm, sm, sm_mul n, Nat.add_mul]
theorem sm_split {f : Nat → Nat} {a : Nat} : ∀ b, sm f (a + b) = sm f a + sm (fun i => f (a + i)) b
  | 0 => rfl
  | b + 1 => by rw [← Nat.add_assoc, sm, sm, sm_split b, Nat.add_assoc]
theorem sm_first {f : Nat → Nat} : ∀ n, sm f (n + 1) = f 0 + sm (fun i => f (i + 1)) n
  | 0 => by rw [sm, sm, sm, Nat.zero_add]; rfl
  | n + 1 => by rw [sm, sm_first n, sm, Nat.add_assoc]
/-- in how many ways out of ten to the n just i of n pushes come -/
def wy (v : Nat) : Nat → Nat → Nat
  | 0, i => if i = 0 then 1 else 0
  | n + 1, 0 => wy v n 0 * v
  | n + 1, i + 1 => wy v n (i + 1) * v + wy v n i * (10 - v)
theorem wy_0 {v : Nat} : ∀ n i, n < i → wy v n i = 0
  | 0, i, h => by rw [wy]; exact if_neg (by omega)
  | n + 1, 0, h => absurd h (by omega)
  | n + 1, i + 1, h => by rw [wy, wy_0 n (i + 1) (by omega), wy_0 n i (by omega), Nat.zero_mul, Nat.zero_mul]
def Tw (v n : Nat) (h : Nat → Nat) : Nat := sm (fun i => wy v n i * h i) (n + 1)
theorem Tw_0 {v : Nat} {h : Nat → Nat} : Tw v 0 h = h 0 := by
  show 0 + 1 * h 0 = h 0
  omega
theorem Tw_s {v n : Nat} {h : Nat → Nat} : Tw v (n + 1) h = Tw v n h * v + Tw v n (fun i => h (i + 1)) * (10 - v) := by
  unfold Tw
  rw [sm_first, ← sm_mul, ← sm_mul]
  have e1 : sm (fun i => wy v (n + 1) (i + 1) * h (i + 1)) (n + 1) = sm (fun i => wy v n (i + 1) * h (i + 1) * v) (n + 1) + sm (fun i => wy v n i * h (i + 1) * (10 - v)) (n + 1) := by
    rw [← sm_add]
    refine sm_cg _ (fun i _ => ?_)
    show (wy v n (i + 1) * v + wy v n i * (10 - v)) * h (i + 1) = _
    rw [Nat.add_mul, Nat.mul_right_comm, Nat.mul_right_comm (wy v n i)]
  have e2 : sm (fun i => wy v n i * h i * v) (n + 1) = wy v n 0 * h 0 * v + sm (fun i => wy v n (i + 1) * h (i + 1) * v) (n + 1) := by
    have e0 : sm (fun i => wy v n i * h i * v) (n + 1 + 1) = sm (fun i => wy v n i * h i * v) (n + 1) + wy v n (n + 1) * h (n + 1) * v := rfl
    rw [wy_0 n (n + 1) (by omega), Nat.zero_mul, Nat.zero_mul] at e0
    rw [← sm_first (f := fun i => wy v n i * h i * v)]
    omega
  have e3 : sm (fun i => wy v n i * (fun i => h (i + 1)) i * (10 - v)) (n + 1) = sm (fun i => wy v n i * h (i + 1) * (10 - v)) (n + 1) := rfl
  rw [e1, e2, e3]
  show wy v n 0 * v * h 0 + _ = _
  rw [Nat.mul_right_comm]
  omega
theorem Tw_le {v : Nat} {H : Nat} (hv : v ≤ 10) : ∀ n (h : Nat → Nat), (∀ i, h i ≤ H) → Tw v n h ≤ 10 ^ n * H
  | 0, h, hh => by rw [Tw_0, Nat.pow_zero, Nat.one_mul]; exact hh 0
  | n + 1, h, hh => by
    rw [Tw_s]
    have a := Nat.mul_le_mul_right v (Tw_le hv n h hh)
    have b := Nat.mul_le_mul_right (10 - v) (Tw_le hv n (fun i => h (i + 1)) (fun i => hh (i + 1)))
    have c : 10 ^ n * H * v + 10 ^ n * H * (10 - v) = 10 ^ (n + 1) * H := by
      rw [← Nat.mul_add, show v + (10 - v) = 10 by omega, Nat.pow_succ, Nat.mul_right_comm]
    omega
/-- the odds of one choice of missed pushes; how many are not missed by it -/
def od (v s : Nat) : Nat → Nat
  | 0 => 1
  | k + 1 => od v s k * (if s.testBit k then v else 10 - v)
def zb (s : Nat) : Nat → Nat
  | 0 => 0
  | k + 1 => zb s k + (if s.testBit k then 0 else 1)
theorem zb_le (s : Nat) : ∀ k, zb s k ≤ k
  | 0 => Nat.le_refl _
  | k + 1 => by
    have := zb_le s k
    rw [zb]; split <;> omega
theorem od_cg {v s s2 : Nat} : ∀ k, (∀ i, i < k → s.testBit i = s2.testBit i) → od v s k = od v s2 k ∧ zb s k = zb s2 k
  | 0, _ => ⟨rfl, rfl⟩
  | k + 1, h => by
    obtain ⟨a, b⟩ := od_cg (v := v) k (fun i hi => h i (by omega))
    rw [od, od, zb, zb, h k (by omega), a, b]; exact ⟨rfl, rfl⟩
def Um (v n : Nat) (h : Nat → Nat) : Nat := sm (fun s => od v s n * h (zb s n)) (2 ^ n)
theorem Um_0 {v : Nat} {h : Nat → Nat} : Um v 0 h = h 0 := by
  show 0 + 1 * h 0 = h 0
  omega
theorem Um_s {v n : Nat} {h : Nat → Nat} : Um v (n + 1) h = Um v n h * v + Um v n (fun i => h (i + 1)) * (10 - v) := by
  unfold Um
  rw [show 2 ^ (n + 1) = 2 ^ n + 2 ^ n by rw [Nat.pow_succ]; omega, sm_split, ← sm_mul, ← sm_mul, Nat.add_comm]
  congr 1
  · refine sm_cg _ (fun s hs => ?_)
    have t1 : (2 ^ n + s).testBit n = true := by rw [Nat.testBit_two_pow_add_eq, Nat.testBit_lt_two_pow hs]; rfl
    obtain ⟨a, b⟩ := od_cg (v := v) (s := 2 ^ n + s) (s2 := s) n (fun i hi => Nat.testBit_two_pow_add_gt hi s)
    show od v (2 ^ n + s) (n + 1) * h (zb (2 ^ n + s) (n + 1)) = _
    rw [od, zb, t1, a, b]
    show od v s n * v * h (zb s n + 0) = _
    rw [Nat.add_zero, Nat.mul_right_comm]
  · refine sm_cg _ (fun s hs => ?_)
    have t1 : s.testBit n = false := Nat.testBit_lt_two_pow hs
    show od v s (n + 1) * h (zb s (n + 1)) = _
    rw [od, zb, t1]
    show od v s n * (10 - v) * h (zb s n + 1) = _
    rw [Nat.mul_right_comm]
theorem Um_Tw {v : Nat} : ∀ n (h : Nat → Nat), Um v n h = Tw v n h
  | 0, h => by rw [Um_0, Tw_0]
  | n + 1, h => by rw [Um_s, Tw_s, Um_Tw n h, Um_Tw n (fun i => h (i + 1))]
theorem eu_st {a b m : Nat} (hb : b ≠ 0) (hab : b ≤ a) (h : a * b < 2 ^ m) : ∃ m', m = m' + 1 ∧ a % b ≤ b ∧ b * (a % b) < 2 ^ m' := by
  have hp : 0 < a * b := Nat.mul_pos (by omega) (by omega)
  have hr := Nat.mod_lt a (show 0 < b by omega)
  cases m with
  | zero => rw [Nat.pow_zero] at h; omega
  | succ m =>
    refine ⟨m, rfl, by omega, ?_⟩
    have e := Nat.div_add_mod a b
    have q : 1 ≤ a / b := Nat.div_pos hab (by omega)
    have q2 : b * 1 ≤ b * (a / b) := Nat.mul_le_mul_left b q
    have e2 : 2 * (a % b) ≤ a := by omega
    have e3 := Nat.mul_le_mul_left b e2
    rw [Nat.mul_left_comm, Nat.mul_comm b a] at e3
    rw [Nat.pow_succ] at h
    omega
theorem gcd_st (a b : Nat) : Nat.gcd b (a % b) = Nat.gcd a b := by
  rw [Nat.gcd_comm b, ← Nat.gcd_rec, Nat.gcd_comm]
theorem l_ne {a : Nat} (h : a < 2 ^ 63) (h0 : a ≠ 0) : ¬ lN a = 0 := fun q => h0 ((pk_lEQ h (show 0 < 2 ^ 63 by decide)).mp q)
def hD (R : Rw) (w d i : Nat) : Nat := if pn R i (10 + w) = d then 1 else 0
def hR (R : Rw) (i : Nat) : Nat := reads (pn R i)
theorem hD_y {R : Rw} {w d i : Nat} (h : pn R i (10 + w) = d) : hD R w d i = 1 := if_pos h
theorem hD_n {R : Rw} {w d i : Nat} (h : ¬ pn R i (10 + w) = d) : hD R w d i = 0 := if_neg h
theorem l_m1 {x : Int64} (v : Nat) (h : x = lN v) : x * lN 1 = lN v := by rw [h, lN_mul, Nat.mul_one]
theorem lp_gcd0 {sc : PSc} {U L G : Nat} {S : PS} {Q : PQ} (k : ∀ (j : Nat) (y z : Value), E sc mX5_partOfFraction 44 [.long (lN U), .null, .long (lN L), .null, .int (nI 0), .long (lN G), .null, .long (lN 0), .null, .int (nI j), y, z] [] S Q) : ∀ (n : Nat) (m j a b : Nat) (y z : Value), m < n → b ≤ a → a * b < 2 ^ m → j + m ≤ 100 → a < 2 ^ 63 → Nat.gcd a b = G → E sc mX5_partOfFraction 9 [.long (lN U), .null, .long (lN L), .null, .int (nI 0), .long (lN a), .null, .long (lN b), .null, .int (nI j), y, z] [] S Q := by
  intro n
  induction n with
  | zero => intro m j a b y z hn hab hlt hj ha hg; exact absurd hn (by omega)
  | succ n ih =>
    intro m j a b y z hn hab hlt hj ha hg
    by_cases hb : b = 0
    · subst hb
      obtain rfl : a = G := by rw [← hg, Nat.gcd_zero_right]
      refine e_iload (pc := 9) dX5_partOfFraction_9 rfl ?_
      refine e_bipush' (pc := 11) (nI 100) dX5_partOfFraction_11 (by decide) ?_
      refine e_icmp_ge (pc := 13) (tgt := 44) dX5_partOfFraction_13 (by decide) (fun h13 => ?_) (fun h13 => ?_)
      · replace h13 := (nI_leI (by omega) (by omega)).mp h13
        exact k j _ _
      · replace h13 := mt (nI_leI (by omega) (by omega)).mpr h13
        refine e_lload (pc := 16) dX5_partOfFraction_16 rfl ?_
        refine e_lconst' (pc := 18) (lN 0) dX5_partOfFraction_18 (by decide) ?_
        refine e_lcmp (pc := 19) dX5_partOfFraction_19 ?_
        refine e_if_eq (pc := 20) (tgt := 44) dX5_partOfFraction_20 (by decide) (fun h20 => ?_) (fun h20 => absurd ((lg_cmp_eq _ _).mpr rfl) h20)
        exact k j _ _
    · obtain ⟨m2, rfl, h1, h2⟩ := eu_st hb hab hlt
      have hrl := Nat.mod_lt a (show 0 < b by omega)
      refine e_iload (pc := 9) dX5_partOfFraction_9 rfl ?_
      refine e_bipush' (pc := 11) (nI 100) dX5_partOfFraction_11 (by decide) ?_
      refine e_icmp_ge (pc := 13) (tgt := 44) dX5_partOfFraction_13 (by decide) (fun h13 => absurd ((nI_leI (by omega) (by omega)).mp h13) (by omega)) (fun h13 => ?_)
      replace h13 := mt (nI_leI (by omega) (by omega)).mpr h13
      refine e_lload (pc := 16) dX5_partOfFraction_16 rfl ?_
      refine e_lconst' (pc := 18) (lN 0) dX5_partOfFraction_18 (by decide) ?_
      refine e_lcmp (pc := 19) dX5_partOfFraction_19 ?_
      refine e_if_eq (pc := 20) (tgt := 44) dX5_partOfFraction_20 (by decide) (fun h20 => absurd ((lg_cmp_eq _ _).mp h20) (l_ne (by omega) hb)) (fun h20 => ?_)
      refine e_lload (pc := 23) dX5_partOfFraction_23 rfl ?_
      refine e_lload (pc := 25) dX5_partOfFraction_25 rfl ?_
      refine e_lrem (pc := 27) dX5_partOfFraction_27 (l_ne (by omega) hb) ?_
      refine E.lt (lN (a % b)) (pk_lRem ha (by omega) (by omega)) ?_
      refine e_lstore (pc := 28) dX5_partOfFraction_28 (by decide) rfl ?_
      refine e_lload (pc := 30) dX5_partOfFraction_30 rfl ?_
      refine e_lstore (pc := 32) dX5_partOfFraction_32 (by decide) rfl ?_
      refine e_lload (pc := 34) dX5_partOfFraction_34 rfl ?_
      refine e_lstore (pc := 36) dX5_partOfFraction_36 (by decide) rfl ?_
      refine e_iinc' (pc := 38) (nI (j + 1)) dX5_partOfFraction_38 rfl (by decide) rfl (nI_1 _) ?_
      refine e_goto (pc := 41) (tgt := 9) dX5_partOfFraction_41 (by decide) ?_
      exact ih m2 (j + 1) b (a % b) _ _ (by omega) h1 h2 (by omega) (by omega) (by rw [gcd_st]; exact hg)
theorem sp_part0 {sc : PSc} {U L : Nat} {S : PS} {Q : PQ} (hU : U < 2 ^ 46) (h0 : 0 < L) (hL : L < 2 ^ 27) (k : Q (some (.long (lN (U / Nat.gcd L U)))) S) : E sc mX5_partOfFraction 0 (pL0 mX5_partOfFraction [.long (lN U), .long (lN L), .int (nI 0)]) [] S Q := by
  show E sc mX5_partOfFraction 0 [.long (lN U), .null, .long (lN L), .null, .int (nI 0), .null, .null, .null, .null, .null, .null, .null] [] S Q
  have hg0 : 0 < Nat.gcd L U := Nat.gcd_pos_of_pos_left U h0
  have hgl : Nat.gcd L U ≤ L := Nat.gcd_le_left U h0
  have kk : ∀ (j : Nat) (y z : Value), E sc mX5_partOfFraction 44 [.long (lN U), .null, .long (lN L), .null, .int (nI 0), .long (lN (Nat.gcd L U)), .null, .long (lN 0), .null, .int (nI j), y, z] [] S Q := by
    intro j y z
    refine e_iload (pc := 44) dX5_partOfFraction_44 rfl ?_
    refine e_if_ne (pc := 46) (tgt := 53) dX5_partOfFraction_46 (by decide) (fun h46 => absurd (by decide) h46) (fun h46 => ?_)
    refine e_lload_n (pc := 49) (i := 0) dX5_partOfFraction_49 rfl rfl ?_
    refine e_goto (pc := 50) (tgt := 54) dX5_partOfFraction_50 (by decide) ?_
    refine e_lstore (pc := 54) dX5_partOfFraction_54 (by decide) rfl ?_
    refine e_lload (pc := 56) dX5_partOfFraction_56 rfl ?_
    refine e_lconst' (pc := 58) (lN 0) dX5_partOfFraction_58 (by decide) ?_
    refine e_lcmp (pc := 59) dX5_partOfFraction_59 ?_
    refine e_if_le (pc := 60) (tgt := 71) dX5_partOfFraction_60 (by decide) (fun h60 => absurd ((pk_lLE (by omega) (by decide)).mp ((lg_cmp_le _ _).mp h60)) (by omega)) (fun h60 => ?_)
    refine e_lload (pc := 63) dX5_partOfFraction_63 rfl ?_
    refine e_lload (pc := 65) dX5_partOfFraction_65 rfl ?_
    refine e_ldiv (pc := 67) dX5_partOfFraction_67 (l_ne (by omega) (by omega)) ?_
    refine E.lt (lN (U / Nat.gcd L U)) (pk_lDiv (by omega) (by omega) (by omega)) ?_
    refine e_goto (pc := 68) (tgt := 73) dX5_partOfFraction_68 (by decide) ?_
    refine e_lret (pc := 73) (st := []) dX5_partOfFraction_73 rfl ?_
    exact k
  refine e_lload_n (pc := 0) (i := 2) dX5_partOfFraction_0 rfl rfl ?_
  refine e_lstore (pc := 1) dX5_partOfFraction_1 (by decide) rfl ?_
  refine e_lload_n (pc := 3) (i := 0) dX5_partOfFraction_3 rfl rfl ?_
  refine e_lstore (pc := 4) dX5_partOfFraction_4 (by decide) rfl ?_
  refine e_iconst' (pc := 6) (nI 0) dX5_partOfFraction_6 (by decide) ?_
  refine e_istore (pc := 7) dX5_partOfFraction_7 (by decide) rfl ?_
  refine e_iload (pc := 9) dX5_partOfFraction_9 rfl ?_
  refine e_bipush' (pc := 11) (nI 100) dX5_partOfFraction_11 (by decide) ?_
  refine e_icmp_ge (pc := 13) (tgt := 44) dX5_partOfFraction_13 (by decide) (fun h13 => absurd h13 (by decide)) (fun h13 => ?_)
  refine e_lload (pc := 16) dX5_partOfFraction_16 rfl ?_
  refine e_lconst' (pc := 18) (lN 0) dX5_partOfFraction_18 (by decide) ?_
  refine e_lcmp (pc := 19) dX5_partOfFraction_19 ?_
  refine e_if_eq (pc := 20) (tgt := 44) dX5_partOfFraction_20 (by decide) (fun h20 => ?_) (fun h20 => ?_)
  · have hz : U = 0 := (pk_lEQ (by omega) (by decide)).mp ((lg_cmp_eq _ _).mp h20)
    subst hz
    have kz := kk 0 .null .null
    rw [Nat.gcd_zero_right] at kz
    exact kz
  · have hb : U ≠ 0 := fun q => h20 ((lg_cmp_eq _ _).mpr (congrArg lN q))
    have hrl := Nat.mod_lt L (show 0 < U by omega)
    refine e_lload (pc := 23) dX5_partOfFraction_23 rfl ?_
    refine e_lload (pc := 25) dX5_partOfFraction_25 rfl ?_
    refine e_lrem (pc := 27) dX5_partOfFraction_27 (l_ne (by omega) hb) ?_
    refine E.lt (lN (L % U)) (pk_lRem (by omega) (by omega) (by omega)) ?_
    refine e_lstore (pc := 28) dX5_partOfFraction_28 (by decide) rfl ?_
    refine e_lload (pc := 30) dX5_partOfFraction_30 rfl ?_
    refine e_lstore (pc := 32) dX5_partOfFraction_32 (by decide) rfl ?_
    refine e_lload (pc := 34) dX5_partOfFraction_34 rfl ?_
    refine e_lstore (pc := 36) dX5_partOfFraction_36 (by decide) rfl ?_
    refine e_iinc' (pc := 38) (nI (0 + 1)) dX5_partOfFraction_38 rfl (by decide) rfl (nI_1 _) ?_
    refine e_goto (pc := 41) (tgt := 9) dX5_partOfFraction_41 (by decide) ?_
    refine lp_gcd0 (G := Nat.gcd L U) kk 74 73 1 U (L % U) _ _ (by omega) (by omega) ?_ (by omega) (by omega) (gcd_st L U)
    have z1 : U * (L % U) ≤ U * L := Nat.mul_le_mul_left U (Nat.mod_le L U)
    have z2 : U * L < 2 ^ 46 * 2 ^ 27 := Nat.mul_lt_mul_of_lt_of_lt hU hL
    rw [← Nat.pow_add] at z2
    exact Nat.lt_of_le_of_lt z1 z2
theorem lm_gcd0 {sc : PSc} {U L : Nat} {S : PS} {Q : PQ} (hU : U < 2 ^ 46) (h0 : 0 < L) (hL : L < 2 ^ 27) (k : Q (some (.long (lN (U / Nat.gcd L U)))) S) : ∀ (n : Nat) (a b : Nat) (y z : Value), b < n → a < 2 ^ 46 → b < 2 ^ 46 → Nat.gcd a b = Nat.gcd L U → E sc mX6_lowest 6 [.long (lN U), .null, .long (lN L), .null, .int (nI 0), .long (lN a), .null, .long (lN b), .null, y, z] [] S Q := by
  intro n
  induction n with
  | zero => intro a b y z hn ha hb2 hg; exact absurd hn (by omega)
  | succ n ih =>
    intro a b y z hn ha hb2 hg
    have hg0 : 0 < Nat.gcd L U := Nat.gcd_pos_of_pos_left U h0
    have hgl : Nat.gcd L U ≤ L := Nat.gcd_le_left U h0
    refine e_lload (pc := 6) dX6_lowest_6 rfl ?_
    refine e_lconst' (pc := 8) (lN 0) dX6_lowest_8 (by decide) ?_
    refine e_lcmp (pc := 9) dX6_lowest_9 ?_
    refine e_if_eq (pc := 10) (tgt := 31) dX6_lowest_10 (by decide) (fun h10 => ?_) (fun h10 => ?_)
    · have hz : b = 0 := (pk_lEQ (by omega) (by decide)).mp ((lg_cmp_eq _ _).mp h10)
      subst hz
      obtain rfl : a = Nat.gcd L U := by rw [← hg, Nat.gcd_zero_right]
      refine e_iload (pc := 31) dX6_lowest_31 rfl ?_
      refine e_if_ne (pc := 33) (tgt := 40) dX6_lowest_33 (by decide) (fun h33 => absurd (by decide) h33) (fun h33 => ?_)
      refine e_lload_n (pc := 36) (i := 0) dX6_lowest_36 rfl rfl ?_
      refine e_goto (pc := 37) (tgt := 41) dX6_lowest_37 (by decide) ?_
      refine e_lload (pc := 41) dX6_lowest_41 rfl ?_
      refine e_ldiv (pc := 43) dX6_lowest_43 (l_ne (by omega) (by omega)) ?_
      refine E.lt (lN (U / Nat.gcd L U)) (pk_lDiv (by omega) (by omega) (by omega)) ?_
      refine e_lret (pc := 44) (st := []) dX6_lowest_44 rfl ?_
      exact k
    · have hb : b ≠ 0 := fun q => h10 ((lg_cmp_eq _ _).mpr (congrArg lN q))
      have hrl := Nat.mod_lt a (show 0 < b by omega)
      refine e_lload (pc := 13) dX6_lowest_13 rfl ?_
      refine e_lload (pc := 15) dX6_lowest_15 rfl ?_
      refine e_lrem (pc := 17) dX6_lowest_17 (l_ne (by omega) hb) ?_
      refine E.lt (lN (a % b)) (pk_lRem (by omega) (by omega) (by omega)) ?_
      refine e_lstore (pc := 18) dX6_lowest_18 (by decide) rfl ?_
      refine e_lload (pc := 20) dX6_lowest_20 rfl ?_
      refine e_lstore (pc := 22) dX6_lowest_22 (by decide) rfl ?_
      refine e_lload (pc := 24) dX6_lowest_24 rfl ?_
      refine e_lstore (pc := 26) dX6_lowest_26 (by decide) rfl ?_
      refine e_goto (pc := 28) (tgt := 6) dX6_lowest_28 (by decide) ?_
      exact ih b (a % b) _ _ (by omega) hb2 (by omega) (by rw [gcd_st]; exact hg)
theorem sp_low0 {sc : PSc} {U L : Nat} {S : PS} {Q : PQ} (hU : U < 2 ^ 46) (h0 : 0 < L) (hL : L < 2 ^ 27) (k : Q (some (.long (lN (U / Nat.gcd L U)))) S) : E sc mX6_lowest 0 (pL0 mX6_lowest [.long (lN U), .long (lN L), .int (nI 0)]) [] S Q := by
  show E sc mX6_lowest 0 [.long (lN U), .null, .long (lN L), .null, .int (nI 0), .null, .null, .null, .null, .null, .null] [] S Q
  refine e_lload_n (pc := 0) (i := 0) dX6_lowest_0 rfl rfl ?_
  refine e_lstore (pc := 1) dX6_lowest_1 (by decide) rfl ?_
  refine e_lload_n (pc := 3) (i := 2) dX6_lowest_3 rfl rfl ?_
  refine e_lstore (pc := 4) dX6_lowest_4 (by decide) rfl ?_
  exact lm_gcd0 hU h0 hL k (L + 1) U L _ _ (by omega) hU (by omega) (Nat.gcd_comm U L)
theorem lp_gcd1 {sc : PSc} {U L G : Nat} {S : PS} {Q : PQ} (k : ∀ (j : Nat) (y z : Value), E sc mX5_partOfFraction 44 [.long (lN U), .null, .long (lN L), .null, .int (nI 1), .long (lN G), .null, .long (lN 0), .null, .int (nI j), y, z] [] S Q) : ∀ (n : Nat) (m j a b : Nat) (y z : Value), m < n → b ≤ a → a * b < 2 ^ m → j + m ≤ 100 → a < 2 ^ 63 → Nat.gcd a b = G → E sc mX5_partOfFraction 9 [.long (lN U), .null, .long (lN L), .null, .int (nI 1), .long (lN a), .null, .long (lN b), .null, .int (nI j), y, z] [] S Q := by
  intro n
  induction n with
  | zero => intro m j a b y z hn hab hlt hj ha hg; exact absurd hn (by omega)
  | succ n ih =>
    intro m j a b y z hn hab hlt hj ha hg
    by_cases hb : b = 0
    · subst hb
      obtain rfl : a = G := by rw [← hg, Nat.gcd_zero_right]
      refine e_iload (pc := 9) dX5_partOfFraction_9 rfl ?_
      refine e_bipush' (pc := 11) (nI 100) dX5_partOfFraction_11 (by decide) ?_
      refine e_icmp_ge (pc := 13) (tgt := 44) dX5_partOfFraction_13 (by decide) (fun h13 => ?_) (fun h13 => ?_)
      · replace h13 := (nI_leI (by omega) (by omega)).mp h13
        exact k j _ _
      · replace h13 := mt (nI_leI (by omega) (by omega)).mpr h13
        refine e_lload (pc := 16) dX5_partOfFraction_16 rfl ?_
        refine e_lconst' (pc := 18) (lN 0) dX5_partOfFraction_18 (by decide) ?_
        refine e_lcmp (pc := 19) dX5_partOfFraction_19 ?_
        refine e_if_eq (pc := 20) (tgt := 44) dX5_partOfFraction_20 (by decide) (fun h20 => ?_) (fun h20 => absurd ((lg_cmp_eq _ _).mpr rfl) h20)
        exact k j _ _
    · obtain ⟨m2, rfl, h1, h2⟩ := eu_st hb hab hlt
      have hrl := Nat.mod_lt a (show 0 < b by omega)
      refine e_iload (pc := 9) dX5_partOfFraction_9 rfl ?_
      refine e_bipush' (pc := 11) (nI 100) dX5_partOfFraction_11 (by decide) ?_
      refine e_icmp_ge (pc := 13) (tgt := 44) dX5_partOfFraction_13 (by decide) (fun h13 => absurd ((nI_leI (by omega) (by omega)).mp h13) (by omega)) (fun h13 => ?_)
      replace h13 := mt (nI_leI (by omega) (by omega)).mpr h13
      refine e_lload (pc := 16) dX5_partOfFraction_16 rfl ?_
      refine e_lconst' (pc := 18) (lN 0) dX5_partOfFraction_18 (by decide) ?_
      refine e_lcmp (pc := 19) dX5_partOfFraction_19 ?_
      refine e_if_eq (pc := 20) (tgt := 44) dX5_partOfFraction_20 (by decide) (fun h20 => absurd ((lg_cmp_eq _ _).mp h20) (l_ne (by omega) hb)) (fun h20 => ?_)
      refine e_lload (pc := 23) dX5_partOfFraction_23 rfl ?_
      refine e_lload (pc := 25) dX5_partOfFraction_25 rfl ?_
      refine e_lrem (pc := 27) dX5_partOfFraction_27 (l_ne (by omega) hb) ?_
      refine E.lt (lN (a % b)) (pk_lRem ha (by omega) (by omega)) ?_
      refine e_lstore (pc := 28) dX5_partOfFraction_28 (by decide) rfl ?_
      refine e_lload (pc := 30) dX5_partOfFraction_30 rfl ?_
      refine e_lstore (pc := 32) dX5_partOfFraction_32 (by decide) rfl ?_
      refine e_lload (pc := 34) dX5_partOfFraction_34 rfl ?_
      refine e_lstore (pc := 36) dX5_partOfFraction_36 (by decide) rfl ?_
      refine e_iinc' (pc := 38) (nI (j + 1)) dX5_partOfFraction_38 rfl (by decide) rfl (nI_1 _) ?_
      refine e_goto (pc := 41) (tgt := 9) dX5_partOfFraction_41 (by decide) ?_
      exact ih m2 (j + 1) b (a % b) _ _ (by omega) h1 h2 (by omega) (by omega) (by rw [gcd_st]; exact hg)
theorem sp_part1 {sc : PSc} {U L : Nat} {S : PS} {Q : PQ} (hU : U < 2 ^ 46) (h0 : 0 < L) (hL : L < 2 ^ 27) (k : Q (some (.long (lN (L / Nat.gcd L U)))) S) : E sc mX5_partOfFraction 0 (pL0 mX5_partOfFraction [.long (lN U), .long (lN L), .int (nI 1)]) [] S Q := by
  show E sc mX5_partOfFraction 0 [.long (lN U), .null, .long (lN L), .null, .int (nI 1), .null, .null, .null, .null, .null, .null, .null] [] S Q
  have hg0 : 0 < Nat.gcd L U := Nat.gcd_pos_of_pos_left U h0
  have hgl : Nat.gcd L U ≤ L := Nat.gcd_le_left U h0
  have kk : ∀ (j : Nat) (y z : Value), E sc mX5_partOfFraction 44 [.long (lN U), .null, .long (lN L), .null, .int (nI 1), .long (lN (Nat.gcd L U)), .null, .long (lN 0), .null, .int (nI j), y, z] [] S Q := by
    intro j y z
    refine e_iload (pc := 44) dX5_partOfFraction_44 rfl ?_
    refine e_if_ne (pc := 46) (tgt := 53) dX5_partOfFraction_46 (by decide) (fun h46 => ?_) (fun h46 => absurd h46 (by decide))
    refine e_lload_n (pc := 53) (i := 2) dX5_partOfFraction_53 rfl rfl ?_
    refine e_lstore (pc := 54) dX5_partOfFraction_54 (by decide) rfl ?_
    refine e_lload (pc := 56) dX5_partOfFraction_56 rfl ?_
    refine e_lconst' (pc := 58) (lN 0) dX5_partOfFraction_58 (by decide) ?_
    refine e_lcmp (pc := 59) dX5_partOfFraction_59 ?_
    refine e_if_le (pc := 60) (tgt := 71) dX5_partOfFraction_60 (by decide) (fun h60 => absurd ((pk_lLE (by omega) (by decide)).mp ((lg_cmp_le _ _).mp h60)) (by omega)) (fun h60 => ?_)
    refine e_lload (pc := 63) dX5_partOfFraction_63 rfl ?_
    refine e_lload (pc := 65) dX5_partOfFraction_65 rfl ?_
    refine e_ldiv (pc := 67) dX5_partOfFraction_67 (l_ne (by omega) (by omega)) ?_
    refine E.lt (lN (L / Nat.gcd L U)) (pk_lDiv (by omega) (by omega) (by omega)) ?_
    refine e_goto (pc := 68) (tgt := 73) dX5_partOfFraction_68 (by decide) ?_
    refine e_lret (pc := 73) (st := []) dX5_partOfFraction_73 rfl ?_
    exact k
  refine e_lload_n (pc := 0) (i := 2) dX5_partOfFraction_0 rfl rfl ?_
  refine e_lstore (pc := 1) dX5_partOfFraction_1 (by decide) rfl ?_
  refine e_lload_n (pc := 3) (i := 0) dX5_partOfFraction_3 rfl rfl ?_
  refine e_lstore (pc := 4) dX5_partOfFraction_4 (by decide) rfl ?_
  refine e_iconst' (pc := 6) (nI 0) dX5_partOfFraction_6 (by decide) ?_
  refine e_istore (pc := 7) dX5_partOfFraction_7 (by decide) rfl ?_
  refine e_iload (pc := 9) dX5_partOfFraction_9 rfl ?_
  refine e_bipush' (pc := 11) (nI 100) dX5_partOfFraction_11 (by decide) ?_
  refine e_icmp_ge (pc := 13) (tgt := 44) dX5_partOfFraction_13 (by decide) (fun h13 => absurd h13 (by decide)) (fun h13 => ?_)
  refine e_lload (pc := 16) dX5_partOfFraction_16 rfl ?_
  refine e_lconst' (pc := 18) (lN 0) dX5_partOfFraction_18 (by decide) ?_
  refine e_lcmp (pc := 19) dX5_partOfFraction_19 ?_
  refine e_if_eq (pc := 20) (tgt := 44) dX5_partOfFraction_20 (by decide) (fun h20 => ?_) (fun h20 => ?_)
  · have hz : U = 0 := (pk_lEQ (by omega) (by decide)).mp ((lg_cmp_eq _ _).mp h20)
    subst hz
    have kz := kk 0 .null .null
    rw [Nat.gcd_zero_right] at kz
    exact kz
  · have hb : U ≠ 0 := fun q => h20 ((lg_cmp_eq _ _).mpr (congrArg lN q))
    have hrl := Nat.mod_lt L (show 0 < U by omega)
    refine e_lload (pc := 23) dX5_partOfFraction_23 rfl ?_
    refine e_lload (pc := 25) dX5_partOfFraction_25 rfl ?_
    refine e_lrem (pc := 27) dX5_partOfFraction_27 (l_ne (by omega) hb) ?_
    refine E.lt (lN (L % U)) (pk_lRem (by omega) (by omega) (by omega)) ?_
    refine e_lstore (pc := 28) dX5_partOfFraction_28 (by decide) rfl ?_
    refine e_lload (pc := 30) dX5_partOfFraction_30 rfl ?_
    refine e_lstore (pc := 32) dX5_partOfFraction_32 (by decide) rfl ?_
    refine e_lload (pc := 34) dX5_partOfFraction_34 rfl ?_
    refine e_lstore (pc := 36) dX5_partOfFraction_36 (by decide) rfl ?_
    refine e_iinc' (pc := 38) (nI (0 + 1)) dX5_partOfFraction_38 rfl (by decide) rfl (nI_1 _) ?_
    refine e_goto (pc := 41) (tgt := 9) dX5_partOfFraction_41 (by decide) ?_
    refine lp_gcd1 (G := Nat.gcd L U) kk 74 73 1 U (L % U) _ _ (by omega) (by omega) ?_ (by omega) (by omega) (gcd_st L U)
    have z1 : U * (L % U) ≤ U * L := Nat.mul_le_mul_left U (Nat.mod_le L U)
    have z2 : U * L < 2 ^ 46 * 2 ^ 27 := Nat.mul_lt_mul_of_lt_of_lt hU hL
    rw [← Nat.pow_add] at z2
    exact Nat.lt_of_le_of_lt z1 z2
theorem lm_gcd1 {sc : PSc} {U L : Nat} {S : PS} {Q : PQ} (hU : U < 2 ^ 46) (h0 : 0 < L) (hL : L < 2 ^ 27) (k : Q (some (.long (lN (L / Nat.gcd L U)))) S) : ∀ (n : Nat) (a b : Nat) (y z : Value), b < n → a < 2 ^ 46 → b < 2 ^ 46 → Nat.gcd a b = Nat.gcd L U → E sc mX6_lowest 6 [.long (lN U), .null, .long (lN L), .null, .int (nI 1), .long (lN a), .null, .long (lN b), .null, y, z] [] S Q := by
  intro n
  induction n with
  | zero => intro a b y z hn ha hb2 hg; exact absurd hn (by omega)
  | succ n ih =>
    intro a b y z hn ha hb2 hg
    have hg0 : 0 < Nat.gcd L U := Nat.gcd_pos_of_pos_left U h0
    have hgl : Nat.gcd L U ≤ L := Nat.gcd_le_left U h0
    refine e_lload (pc := 6) dX6_lowest_6 rfl ?_
    refine e_lconst' (pc := 8) (lN 0) dX6_lowest_8 (by decide) ?_
    refine e_lcmp (pc := 9) dX6_lowest_9 ?_
    refine e_if_eq (pc := 10) (tgt := 31) dX6_lowest_10 (by decide) (fun h10 => ?_) (fun h10 => ?_)
    · have hz : b = 0 := (pk_lEQ (by omega) (by decide)).mp ((lg_cmp_eq _ _).mp h10)
      subst hz
      obtain rfl : a = Nat.gcd L U := by rw [← hg, Nat.gcd_zero_right]
      refine e_iload (pc := 31) dX6_lowest_31 rfl ?_
      refine e_if_ne (pc := 33) (tgt := 40) dX6_lowest_33 (by decide) (fun h33 => ?_) (fun h33 => absurd h33 (by decide))
      refine e_lload_n (pc := 40) (i := 2) dX6_lowest_40 rfl rfl ?_
      refine e_lload (pc := 41) dX6_lowest_41 rfl ?_
      refine e_ldiv (pc := 43) dX6_lowest_43 (l_ne (by omega) (by omega)) ?_
      refine E.lt (lN (L / Nat.gcd L U)) (pk_lDiv (by omega) (by omega) (by omega)) ?_
      refine e_lret (pc := 44) (st := []) dX6_lowest_44 rfl ?_
      exact k
    · have hb : b ≠ 0 := fun q => h10 ((lg_cmp_eq _ _).mpr (congrArg lN q))
      have hrl := Nat.mod_lt a (show 0 < b by omega)
      refine e_lload (pc := 13) dX6_lowest_13 rfl ?_
      refine e_lload (pc := 15) dX6_lowest_15 rfl ?_
      refine e_lrem (pc := 17) dX6_lowest_17 (l_ne (by omega) hb) ?_
      refine E.lt (lN (a % b)) (pk_lRem (by omega) (by omega) (by omega)) ?_
      refine e_lstore (pc := 18) dX6_lowest_18 (by decide) rfl ?_
      refine e_lload (pc := 20) dX6_lowest_20 rfl ?_
      refine e_lstore (pc := 22) dX6_lowest_22 (by decide) rfl ?_
      refine e_lload (pc := 24) dX6_lowest_24 rfl ?_
      refine e_lstore (pc := 26) dX6_lowest_26 (by decide) rfl ?_
      refine e_goto (pc := 28) (tgt := 6) dX6_lowest_28 (by decide) ?_
      exact ih b (a % b) _ _ (by omega) hb2 (by omega) (by rw [gcd_st]; exact hg)
theorem sp_low1 {sc : PSc} {U L : Nat} {S : PS} {Q : PQ} (hU : U < 2 ^ 46) (h0 : 0 < L) (hL : L < 2 ^ 27) (k : Q (some (.long (lN (L / Nat.gcd L U)))) S) : E sc mX6_lowest 0 (pL0 mX6_lowest [.long (lN U), .long (lN L), .int (nI 1)]) [] S Q := by
  show E sc mX6_lowest 0 [.long (lN U), .null, .long (lN L), .null, .int (nI 1), .null, .null, .null, .null, .null, .null] [] S Q
  refine e_lload_n (pc := 0) (i := 0) dX6_lowest_0 rfl rfl ?_
  refine e_lstore (pc := 1) dX6_lowest_1 (by decide) rfl ?_
  refine e_lload_n (pc := 3) (i := 2) dX6_lowest_3 rfl rfl ?_
  refine e_lstore (pc := 4) dX6_lowest_4 (by decide) rfl ?_
  exact lm_gcd1 hU h0 hL k (L + 1) U L _ _ (by omega) hU (by omega) (Nat.gcd_comm U L)
theorem lp_waysI {sc : PSc} {v m : Nat} {S0 : PS} {Q : PQ} (hv : v ≤ 10) (hm : m ≤ 8) {d : Nat} (hd : d < m) (k : ∀ S' : PS, S'.1 = S0.1 → S'.2 38 0 = lN (wy v d 0) → (∀ q, 0 < q → q ≤ d + 1 → S'.2 38 q = lN (wy v (d + 1) q)) → E sc mX5_countWays 74 [.ref 0, .int (nI v), .int (nI m), .long (lN (10 ^ d)), .null, .int (nI (d + 1)), .int (nI 0)] [] S' Q) : ∀ (n : Nat) (t : Nat) (S : PS), t < n → t ≤ d + 1 → S.1 = S0.1 → (∀ q, q ≤ t → S.2 38 q = lN (wy v d q)) → (∀ q, t < q → q ≤ d + 1 → S.2 38 q = lN (wy v (d + 1) q)) → E sc mX5_countWays 30 [.ref 0, .int (nI v), .int (nI m), .long (lN (10 ^ d)), .null, .int (nI (d + 1)), .int (nI t)] [] S Q := by
  intro n
  induction n with
  | zero => intro t S hn ht hf h1 h2; exact absurd hn (by omega)
  | succ n ih =>
    intro t S hn ht hf h1 h2
    refine e_iload (pc := 30) dX5_countWays_30 rfl ?_
    refine e_if_le (pc := 32) (tgt := 74) dX5_countWays_32 (by decide) (fun h32 => ?_) (fun h32 => ?_)
    · rw [← nI_0] at h32
      replace h32 := (nI_leI (by omega) (by omega)).mp h32
      obtain rfl : t = 0 := by omega
      exact k S hf (h1 0 (by omega)) (fun q a b => h2 q (by omega) b)
    · rw [← nI_0] at h32
      replace h32 := mt (nI_leI (by omega) (by omega)).mpr h32
      obtain ⟨u, hu⟩ : ∃ u, t = u + 1 := ⟨t - 1, by omega⟩
      refine e_aload_n (pc := 35) (i := 0) dX5_countWays_35 rfl rfl ?_
      refine e_getR (pc := 36) dX5_countWays_36 (fX5_57 rfl) sh_0 rfl ?_
      refine e_iload (pc := 39) dX5_countWays_39 rfl ?_
      refine e_aload_n (pc := 41) (i := 0) dX5_countWays_41 rfl rfl ?_
      refine e_getR (pc := 42) dX5_countWays_42 (fX5_57 rfl) sh_0 rfl ?_
      refine e_iload (pc := 45) dX5_countWays_45 rfl ?_
      refine e_lald (pc := 47) dX5_countWays_47 sh_38 (vp_in_nI (by omega) (by omega)) ?_
      refine E.lt (lN (wy v d t)) (by rw [nI_clamp (by omega)]; exact h1 t (by omega)) ?_
      refine e_iload_n (pc := 48) (i := 1) dX5_countWays_48 rfl rfl ?_
      refine e_i2l (pc := 49) dX5_countWays_49 ?_
      refine E.lt (lN v) (nI_l (by omega)) ?_
      refine e_lmul (pc := 50) dX5_countWays_50 ?_
      refine E.lt (lN (wy v d t * v)) (lN_mul _ _) ?_
      refine e_aload_n (pc := 51) (i := 0) dX5_countWays_51 rfl rfl ?_
      refine e_getR (pc := 52) dX5_countWays_52 (fX5_57 rfl) sh_0 rfl ?_
      refine e_iload (pc := 55) dX5_countWays_55 rfl ?_
      refine e_iconst' (pc := 57) (nI 1) dX5_countWays_57 (by decide) ?_
      refine e_isub (pc := 58) dX5_countWays_58 ?_
      refine E.it (nI u) ((pk_sub (by omega)).trans (congrArg nI (by omega))) ?_
      refine e_lald (pc := 59) dX5_countWays_59 sh_38 (vp_in_nI (by omega) (by omega)) ?_
      refine E.lt (lN (wy v d u)) (by rw [nI_clamp (by omega)]; exact h1 u (by omega)) ?_
      refine e_bipush' (pc := 60) (nI 10) dX5_countWays_60 (by decide) ?_
      refine e_iload_n (pc := 62) (i := 1) dX5_countWays_62 rfl rfl ?_
      refine e_isub (pc := 63) dX5_countWays_63 ?_
      refine E.it (nI (10 - v)) (pk_sub (by omega)) ?_
      refine e_i2l (pc := 64) dX5_countWays_64 ?_
      refine E.lt (lN (10 - v)) (nI_l (by omega)) ?_
      refine e_lmul (pc := 65) dX5_countWays_65 ?_
      refine E.lt (lN (wy v d u * (10 - v))) (lN_mul _ _) ?_
      refine e_ladd (pc := 66) dX5_countWays_66 ?_
      refine E.lt (lN (wy v d t * v + wy v d u * (10 - v))) (lN_add _ _) ?_
      refine e_last (pc := 67) dX5_countWays_67 sh_38 (vp_in_nI (by omega) (by omega)) ?_
      rw [nI_clamp (show t < 2 ^ 31 by omega)]
      refine e_iinc' (pc := 68) (nI u) dX5_countWays_68 rfl (by decide) rfl (by rw [hu]; exact pk_m1 u) ?_
      refine e_goto (pc := 71) (tgt := 30) dX5_countWays_71 (by decide) ?_
      refine ih u _ (by omega) (by omega) hf (fun q hq => ?_) (fun q a b => ?_)
      · show up2 S.2 38 t _ 38 q = _
        rw [up2_at]; exact (if_neg (by omega)).trans (h1 q (by omega))
      · show up2 S.2 38 t _ 38 q = _
        rw [up2_at]
        by_cases e : q = t
        · subst e; rw [hu]; exact if_pos rfl
        · exact (if_neg e).trans (h2 q (by omega) b)
theorem lp_ways {sc : PSc} {v m : Nat} {S0 : PS} {Q : PQ} (hv : v ≤ 10) (hm : m ≤ 8) (k : ∀ S' : PS, S'.1 = S0.1 → (∀ i, i ≤ m → S'.2 38 i = lN (wy v m i)) → Q (some (.long (lN (10 ^ m)))) S') : ∀ (n : Nat) (d : Nat) (S : PS) (z : Value), d ≤ m → m - d < n → S.1 = S0.1 → (∀ q, q ≤ d → S.2 38 q = lN (wy v d q)) → E sc mX5_countWays 12 [.ref 0, .int (nI v), .int (nI m), .long (lN (10 ^ d)), .null, .int (nI (d + 1)), z] [] S Q := by
  intro n
  induction n with
  | zero => intro d S z hd hn hf h1; exact absurd hn (by omega)
  | succ n ih =>
    intro d S z hd hn hf h1
    refine e_iload (pc := 12) dX5_countWays_12 rfl ?_
    refine e_iload_n (pc := 14) (i := 2) dX5_countWays_14 rfl rfl ?_
    refine e_icmp_gt (pc := 15) (tgt := 97) dX5_countWays_15 (by decide) (fun h15 => ?_) (fun h15 => ?_)
    · replace h15 := (nI_ltI (by omega) (by omega)).mp h15
      obtain rfl : d = m := by omega
      refine e_lload_n (pc := 97) (i := 3) dX5_countWays_97 rfl rfl ?_
      refine e_lret (pc := 98) (st := []) dX5_countWays_98 rfl ?_
      exact k S hf h1
    · replace h15 := mt (nI_ltI (by omega) (by omega)).mpr h15
      refine e_aload_n (pc := 18) (i := 0) dX5_countWays_18 rfl rfl ?_
      refine e_getR (pc := 19) dX5_countWays_19 (fX5_57 rfl) sh_0 rfl ?_
      refine e_iload (pc := 22) dX5_countWays_22 rfl ?_
      refine e_lconst' (pc := 24) (lN 0) dX5_countWays_24 (by decide) ?_
      refine e_last (pc := 25) dX5_countWays_25 sh_38 (vp_in_nI (by omega) (by omega)) ?_
      rw [nI_clamp (show d + 1 < 2 ^ 31 by omega)]
      refine e_iload (pc := 26) dX5_countWays_26 rfl ?_
      refine e_istore (pc := 28) dX5_countWays_28 (by decide) rfl ?_
      refine lp_waysI (S0 := S0) hv hm (d := d) (by omega) (fun S2 f2 a2 b2 => ?_) (d + 2) (d + 1) _ (by omega) (by omega) hf (fun q hq => ?_) (fun q a b => by omega)
      · refine e_aload_n (pc := 74) (i := 0) dX5_countWays_74 rfl rfl ?_
        refine e_getR (pc := 75) dX5_countWays_75 (fX5_57 rfl) sh_0 rfl ?_
        refine e_iconst' (pc := 78) (nI 0) dX5_countWays_78 (by decide) ?_
        refine e_dup2 (pc := 79) dX5_countWays_79 rfl rfl ?_
        refine e_lald (pc := 80) dX5_countWays_80 sh_38 (vp_in_nI (by omega) (by omega)) ?_
        refine E.lt (lN (wy v d 0)) a2 ?_
        refine e_iload_n (pc := 81) (i := 1) dX5_countWays_81 rfl rfl ?_
        refine e_i2l (pc := 82) dX5_countWays_82 ?_
        refine E.lt (lN v) (nI_l (by omega)) ?_
        refine e_lmul (pc := 83) dX5_countWays_83 ?_
        refine E.lt (lN (wy v d 0 * v)) (lN_mul _ _) ?_
        refine e_last (pc := 84) dX5_countWays_84 sh_38 (vp_in_nI (by omega) (by omega)) ?_
        refine e_lload_n (pc := 85) (i := 3) dX5_countWays_85 rfl rfl ?_
        refine e_ldc2 (pc := 86) dX5_countWays_86 (klX5_261 rfl) ?_
        refine e_lmul (pc := 89) dX5_countWays_89 ?_
        refine E.lt (lN (10 ^ (d + 1))) ((lN_mul _ 10).trans (by rw [Nat.pow_succ])) ?_
        refine e_lstore_n (pc := 90) (i := 3) dX5_countWays_90 rfl (by decide) rfl ?_
        refine e_iinc' (pc := 91) (nI (d + 1 + 1)) dX5_countWays_91 rfl (by decide) rfl (nI_1 _) ?_
        refine e_goto (pc := 94) (tgt := 12) dX5_countWays_94 (by decide) ?_
        refine ih (d + 1) _ _ (by omega) (by omega) f2 (fun q hq => ?_)
        show up2 S2.2 38 0 _ 38 q = _
        rw [up2_at]
        by_cases e : q = 0
        · subst e; exact if_pos rfl
        · exact (if_neg e).trans (b2 q (by omega) hq)
      · show up2 S.2 38 (d + 1) _ 38 q = _
        rw [up2_at]
        by_cases e : q = d + 1
        · subst e; rw [wy_0 d (d + 1) (by omega)]; exact if_pos rfl
        · exact (if_neg e).trans (h1 q (by omega))
theorem sp_ways {sc : PSc} {v m : Nat} {S0 : PS} {Q : PQ} (hv : v ≤ 10) (hm : m ≤ 8) (k : ∀ S' : PS, S'.1 = S0.1 → (∀ i, i ≤ m → S'.2 38 i = lN (wy v m i)) → Q (some (.long (lN (10 ^ m)))) S') : E sc mX5_countWays 0 (pL0 mX5_countWays [.ref 0, .int (nI v), .int (nI m)]) [] S0 Q := by
  show E sc mX5_countWays 0 [.ref 0, .int (nI v), .int (nI m), .null, .null, .null, .null] [] S0 Q
  refine e_lconst' (pc := 0) (lN 1) dX5_countWays_0 (by decide) ?_
  refine e_lstore_n (pc := 1) (i := 3) dX5_countWays_1 rfl (by decide) rfl ?_
  refine e_aload_n (pc := 2) (i := 0) dX5_countWays_2 rfl rfl ?_
  refine e_getR (pc := 3) dX5_countWays_3 (fX5_57 rfl) sh_0 rfl ?_
  refine e_iconst' (pc := 6) (nI 0) dX5_countWays_6 (by decide) ?_
  refine e_lconst' (pc := 7) (lN 1) dX5_countWays_7 (by decide) ?_
  refine e_last (pc := 8) dX5_countWays_8 sh_38 (vp_in_nI (by omega) (by omega)) ?_
  refine e_iconst' (pc := 9) (nI 1) dX5_countWays_9 (by decide) ?_
  refine e_istore (pc := 10) dX5_countWays_10 (by decide) rfl ?_
  refine lp_ways (S0 := S0) hv hm k (m + 1) 0 _ _ (by omega) (by omega) rfl (fun q hq => ?_)
  obtain rfl : q = 0 := by omega
  rfl
theorem lp_luck0 {sc : PSc} {v w d m : Nat} {R : Rw} {S0 : PS} {Q : PQ} (hvd : Vd R) (hv : v ≤ 10) (hm : m ≤ 8) (hw : w < R 20) (hd : d ≤ 11) (hwy : ∀ i, i ≤ m → S0.2 38 i = lN (wy v m i)) (k : ∀ S', Fr 6 5 S0 S' → Q (some (.long (lN ((Tw v m (hD R w d)) / Nat.gcd (10 ^ m) (Tw v m (hD R w d)))))) S') : ∀ (n : Nat) (j : Nat) (S : PS), j ≤ m + 1 → m + 1 - j < n → RowAt S 6 (pn R j) → Fr 6 5 S0 S → E sc mX5_luck 82 [.ref 0, .int (nI v), .int (nI w), .int (nI d), .int (nI m), .int (nI 0), .long (lN (10 ^ m)), .null, .long (lN (sm (fun i => wy v m i * (hD R w d) i) j)), .null, .int (nI j)] [] S Q := by
  intro n
  induction n with
  | zero => intro j S hj hn hr hf; exact absurd hn (by omega)
  | succ n ih =>
    intro j S hj hn hr hf
    have hvv := pn_vd hvd j
    have hw2 : w < pn R j 20 := by rw [pn_keep hvd (by omega) (by omega)]; exact hw
    have hb := (hvv.2 w hw2).2.2
    have hih := fun S2 => ih (j + 1) S2
    rw [sm] at hih
    refine e_iload (pc := 82) dX5_luck_82 rfl ?_
    refine e_iload (pc := 84) dX5_luck_84 rfl ?_
    refine e_icmp_gt (pc := 86) (tgt := 127) dX5_luck_86 (by decide) (fun h86 => ?_) (fun h86 => ?_)
    · replace h86 := (nI_ltI (by omega) (by omega)).mp h86
      obtain rfl : j = m + 1 := by omega
      have hT : Tw v m (hD R w d) < 2 ^ 46 := by
        have a := Tw_le (H := 1) hv m (h := (hD R w d)) (fun i => by unfold hD; split <;> omega)
        have b : 10 ^ m ≤ 10 ^ 8 := Nat.pow_le_pow_right (by decide) hm
        exact Nat.lt_of_le_of_lt (Nat.le_trans a (by rw [Nat.mul_one]; exact b)) (by decide)
      have h10 : 0 < 10 ^ m := Nat.pow_pos (by decide)
      have h27 : 10 ^ m < 2 ^ 27 := Nat.lt_of_le_of_lt (Nat.pow_le_pow_right (by decide) hm) (by decide)
      refine e_lload (pc := 127) dX5_luck_127 rfl ?_
      refine e_lload (pc := 129) dX5_luck_129 rfl ?_
      refine e_iload (pc := 131) dX5_luck_131 rfl ?_
      refine e_callS3 (pc := 133) (M' := mX5_partOfFraction) dX5_luck_133 jX5_partOfFraction lkX5_191 (by decide) (Nat.le_of_ble_eq_true rfl) (Nat.le_of_ble_eq_true rfl) ?_
      refine sp_part0 hT h10 h27 ?_
      refine e_lret (pc := 136) (st := []) dX5_luck_136 rfl ?_
      exact k S hf
    · replace h86 := mt (nI_ltI (by omega) (by omega)).mpr h86
      refine e_aload_n (pc := 89) (i := 0) dX5_luck_89 rfl rfl ?_
      refine e_getR (pc := 90) dX5_luck_90 (fX5_16 rfl) sh_0 rfl ?_
      refine e_getR (pc := 93) dX5_luck_93 (fX5_144 rfl) sh_6 rfl ?_
      refine e_iload_n (pc := 96) (i := 2) dX5_luck_96 rfl rfl ?_
      refine e_iald (pc := 97) dX5_luck_97 sh_9 (rin hvv hw2) ?_
      refine E.it (nI (pn R j (10 + w))) (rg hvv hr hw2) ?_
      refine e_iload_n (pc := 98) (i := 3) dX5_luck_98 rfl rfl ?_
      refine e_icmp_ne (pc := 99) (tgt := 114) dX5_luck_99 (by decide) (fun h99 => ?_) (fun h99 => ?_)
      · replace h99 := mt (nI_eq (by omega) (by omega)).mpr h99
        refine e_aload_n (pc := 114) (i := 0) dX5_luck_114 rfl rfl ?_
        refine e_getR (pc := 115) dX5_luck_115 (fX5_16 rfl) sh_0 rfl ?_
        refine e_callV0 (pc := 118) (M' := mX0_pushOnce) dX5_luck_118 iX0_pushOnce lkX5_151 (by decide) (rO_obj sh_6 rfl) (Nat.le_of_ble_eq_true rfl) (Nat.le_of_ble_eq_true rfl) ?_
        refine sp_pushOnce r6 hvv hr (fun S2 a b c => ?_)
        refine e_iinc' (pc := 121) (nI (j + 1)) dX5_luck_121 rfl (by decide) rfl (nI_1 _) ?_
        refine e_goto (pc := 124) (tgt := 82) dX5_luck_124 (by decide) ?_
        first
          | (rw [hD_n h99, Nat.mul_zero, Nat.add_zero] at hih; exact hih S2 (by omega) (by omega) a (hf.tr c))
          | (rw [hD_y h99, Nat.mul_one] at hih; exact hih S2 (by omega) (by omega) a (hf.tr c))
      · replace h99 := (nI_eq (by omega) (by omega)).mp h99
        refine e_lload (pc := 102) dX5_luck_102 rfl ?_
        refine e_aload_n (pc := 104) (i := 0) dX5_luck_104 rfl rfl ?_
        refine e_getR (pc := 105) dX5_luck_105 (fX5_57 rfl) sh_0 rfl ?_
        refine e_iload (pc := 108) dX5_luck_108 rfl ?_
        refine e_lald (pc := 110) dX5_luck_110 sh_38 (vp_in_nI (by omega) (by omega)) ?_
        refine E.lt (lN (wy v m j)) (by rw [nI_clamp (by omega), hf.1]; exact hwy j (by omega)) ?_
        refine e_ladd (pc := 111) dX5_luck_111 ?_
        refine E.lt (lN (sm (fun i => wy v m i * (hD R w d) i) j + wy v m j)) (lN_add _ _) ?_
        refine e_lstore (pc := 112) dX5_luck_112 (by decide) rfl ?_
        refine e_aload_n (pc := 114) (i := 0) dX5_luck_114 rfl rfl ?_
        refine e_getR (pc := 115) dX5_luck_115 (fX5_16 rfl) sh_0 rfl ?_
        refine e_callV0 (pc := 118) (M' := mX0_pushOnce) dX5_luck_118 iX0_pushOnce lkX5_151 (by decide) (rO_obj sh_6 rfl) (Nat.le_of_ble_eq_true rfl) (Nat.le_of_ble_eq_true rfl) ?_
        refine sp_pushOnce r6 hvv hr (fun S2 a b c => ?_)
        refine e_iinc' (pc := 121) (nI (j + 1)) dX5_luck_121 rfl (by decide) rfl (nI_1 _) ?_
        refine e_goto (pc := 124) (tgt := 82) dX5_luck_124 (by decide) ?_
        first
          | (rw [hD_n h99, Nat.mul_zero, Nat.add_zero] at hih; exact hih S2 (by omega) (by omega) a (hf.tr c))
          | (rw [hD_y h99, Nat.mul_one] at hih; exact hih S2 (by omega) (by omega) a (hf.tr c))
theorem lp_mean0 {sc : PSc} {v m : Nat} {R : Rw} {S0 : PS} {Q : PQ} (hvd : Vd R) (hv : v ≤ 10) (hm : m ≤ 8) (hwy : ∀ i, i ≤ m → S0.2 38 i = lN (wy v m i)) (k : ∀ S', Fr 6 5 S0 S' → Q (some (.long (lN ((Tw v m (hR R)) / Nat.gcd (10 ^ m) (Tw v m (hR R)))))) S') : ∀ (n : Nat) (j : Nat) (S : PS), j ≤ m + 1 → m + 1 - j < n → RowAt S 6 (pn R j) → Fr 6 5 S0 S → E sc mX5_mean 58 [.ref 0, .int (nI v), .int (nI m), .int (nI 0), .long (lN (10 ^ m)), .null, .long (lN (sm (fun i => wy v m i * (hR R) i) j)), .null, .int (nI j)] [] S Q := by
  intro n
  induction n with
  | zero => intro j S hj hn hr hf; exact absurd hn (by omega)
  | succ n ih =>
    intro j S hj hn hr hf
    have hvv := pn_vd hvd j
    have hrl := reads_le hvv
    have hih := fun S2 => ih (j + 1) S2
    rw [sm] at hih
    refine e_iload (pc := 58) dX5_mean_58 rfl ?_
    refine e_iload_n (pc := 60) (i := 2) dX5_mean_60 rfl rfl ?_
    refine e_icmp_gt (pc := 61) (tgt := 98) dX5_mean_61 (by decide) (fun h61 => ?_) (fun h61 => ?_)
    · replace h61 := (nI_ltI (by omega) (by omega)).mp h61
      obtain rfl : j = m + 1 := by omega
      have hT : Tw v m (hR R) < 2 ^ 46 := by
        have a := Tw_le (H := 248831) hv m (h := (hR R)) (fun i => reads_le (pn_vd hvd i))
        have b : 10 ^ m ≤ 10 ^ 8 := Nat.pow_le_pow_right (by decide) hm
        exact Nat.lt_of_le_of_lt (Nat.le_trans a (Nat.mul_le_mul_right 248831 b)) (by decide)
      have h10 : 0 < 10 ^ m := Nat.pow_pos (by decide)
      have h27 : 10 ^ m < 2 ^ 27 := Nat.lt_of_le_of_lt (Nat.pow_le_pow_right (by decide) hm) (by decide)
      refine e_lload (pc := 98) dX5_mean_98 rfl ?_
      refine e_lload (pc := 100) dX5_mean_100 rfl ?_
      refine e_iload_n (pc := 102) (i := 3) dX5_mean_102 rfl rfl ?_
      refine e_callS3 (pc := 103) (M' := mX5_partOfFraction) dX5_mean_103 jX5_partOfFraction lkX5_191 (by decide) (Nat.le_of_ble_eq_true rfl) (Nat.le_of_ble_eq_true rfl) ?_
      refine sp_part0 hT h10 h27 ?_
      refine e_lret (pc := 106) (st := []) dX5_mean_106 rfl ?_
      exact k S hf
    · replace h61 := mt (nI_ltI (by omega) (by omega)).mpr h61
      refine e_lload (pc := 64) dX5_mean_64 rfl ?_
      refine e_aload_n (pc := 66) (i := 0) dX5_mean_66 rfl rfl ?_
      refine e_getR (pc := 67) dX5_mean_67 (fX5_57 rfl) sh_0 rfl ?_
      refine e_iload (pc := 70) dX5_mean_70 rfl ?_
      refine e_lald (pc := 72) dX5_mean_72 sh_38 (vp_in_nI (by omega) (by omega)) ?_
      refine E.lt (lN (wy v m j)) (by rw [nI_clamp (by omega), hf.1]; exact hwy j (by omega)) ?_
      refine e_aload_n (pc := 73) (i := 0) dX5_mean_73 rfl rfl ?_
      refine e_getR (pc := 74) dX5_mean_74 (fX5_16 rfl) sh_0 rfl ?_
      refine e_callV0 (pc := 77) (M' := mX0_reading) dX5_mean_77 iX0_reading lkX5_107 (by decide) (rO_obj sh_6 rfl) (Nat.le_of_ble_eq_true rfl) (Nat.le_of_ble_eq_true rfl) ?_
      refine sp_reading r6 hvv hr ?_
      refine e_i2l (pc := 80) dX5_mean_80 ?_
      refine E.lt (lN (reads (pn R j))) (nI_l (by omega)) ?_
      refine e_lmul (pc := 81) dX5_mean_81 ?_
      refine E.lt (lN (wy v m j * reads (pn R j))) (lN_mul _ _) ?_
      refine e_ladd (pc := 82) dX5_mean_82 ?_
      refine E.lt (lN (sm (fun i => wy v m i * (hR R) i) j + wy v m j * reads (pn R j))) (lN_add _ _) ?_
      refine e_lstore (pc := 83) dX5_mean_83 (by decide) rfl ?_
      refine e_aload_n (pc := 85) (i := 0) dX5_mean_85 rfl rfl ?_
      refine e_getR (pc := 86) dX5_mean_86 (fX5_16 rfl) sh_0 rfl ?_
      refine e_callV0 (pc := 89) (M' := mX0_pushOnce) dX5_mean_89 iX0_pushOnce lkX5_151 (by decide) (rO_obj sh_6 rfl) (Nat.le_of_ble_eq_true rfl) (Nat.le_of_ble_eq_true rfl) ?_
      refine sp_pushOnce r6 hvv hr (fun S2 a b c => ?_)
      refine e_iinc' (pc := 92) (nI (j + 1)) dX5_mean_92 rfl (by decide) rfl (nI_1 _) ?_
      refine e_goto (pc := 95) (tgt := 58) dX5_mean_95 (by decide) ?_
      exact hih S2 (by omega) (by omega) a (hf.tr c)
theorem lp_luck1 {sc : PSc} {v w d m : Nat} {R : Rw} {S0 : PS} {Q : PQ} (hvd : Vd R) (hv : v ≤ 10) (hm : m ≤ 8) (hw : w < R 20) (hd : d ≤ 11) (hwy : ∀ i, i ≤ m → S0.2 38 i = lN (wy v m i)) (k : ∀ S', Fr 6 5 S0 S' → Q (some (.long (lN ((10 ^ m) / Nat.gcd (10 ^ m) (Tw v m (hD R w d)))))) S') : ∀ (n : Nat) (j : Nat) (S : PS), j ≤ m + 1 → m + 1 - j < n → RowAt S 6 (pn R j) → Fr 6 5 S0 S → E sc mX5_luck 82 [.ref 0, .int (nI v), .int (nI w), .int (nI d), .int (nI m), .int (nI 1), .long (lN (10 ^ m)), .null, .long (lN (sm (fun i => wy v m i * (hD R w d) i) j)), .null, .int (nI j)] [] S Q := by
  intro n
  induction n with
  | zero => intro j S hj hn hr hf; exact absurd hn (by omega)
  | succ n ih =>
    intro j S hj hn hr hf
    have hvv := pn_vd hvd j
    have hw2 : w < pn R j 20 := by rw [pn_keep hvd (by omega) (by omega)]; exact hw
    have hb := (hvv.2 w hw2).2.2
    have hih := fun S2 => ih (j + 1) S2
    rw [sm] at hih
    refine e_iload (pc := 82) dX5_luck_82 rfl ?_
    refine e_iload (pc := 84) dX5_luck_84 rfl ?_
    refine e_icmp_gt (pc := 86) (tgt := 127) dX5_luck_86 (by decide) (fun h86 => ?_) (fun h86 => ?_)
    · replace h86 := (nI_ltI (by omega) (by omega)).mp h86
      obtain rfl : j = m + 1 := by omega
      have hT : Tw v m (hD R w d) < 2 ^ 46 := by
        have a := Tw_le (H := 1) hv m (h := (hD R w d)) (fun i => by unfold hD; split <;> omega)
        have b : 10 ^ m ≤ 10 ^ 8 := Nat.pow_le_pow_right (by decide) hm
        exact Nat.lt_of_le_of_lt (Nat.le_trans a (by rw [Nat.mul_one]; exact b)) (by decide)
      have h10 : 0 < 10 ^ m := Nat.pow_pos (by decide)
      have h27 : 10 ^ m < 2 ^ 27 := Nat.lt_of_le_of_lt (Nat.pow_le_pow_right (by decide) hm) (by decide)
      refine e_lload (pc := 127) dX5_luck_127 rfl ?_
      refine e_lload (pc := 129) dX5_luck_129 rfl ?_
      refine e_iload (pc := 131) dX5_luck_131 rfl ?_
      refine e_callS3 (pc := 133) (M' := mX5_partOfFraction) dX5_luck_133 jX5_partOfFraction lkX5_191 (by decide) (Nat.le_of_ble_eq_true rfl) (Nat.le_of_ble_eq_true rfl) ?_
      refine sp_part1 hT h10 h27 ?_
      refine e_lret (pc := 136) (st := []) dX5_luck_136 rfl ?_
      exact k S hf
    · replace h86 := mt (nI_ltI (by omega) (by omega)).mpr h86
      refine e_aload_n (pc := 89) (i := 0) dX5_luck_89 rfl rfl ?_
      refine e_getR (pc := 90) dX5_luck_90 (fX5_16 rfl) sh_0 rfl ?_
      refine e_getR (pc := 93) dX5_luck_93 (fX5_144 rfl) sh_6 rfl ?_
      refine e_iload_n (pc := 96) (i := 2) dX5_luck_96 rfl rfl ?_
      refine e_iald (pc := 97) dX5_luck_97 sh_9 (rin hvv hw2) ?_
      refine E.it (nI (pn R j (10 + w))) (rg hvv hr hw2) ?_
      refine e_iload_n (pc := 98) (i := 3) dX5_luck_98 rfl rfl ?_
      refine e_icmp_ne (pc := 99) (tgt := 114) dX5_luck_99 (by decide) (fun h99 => ?_) (fun h99 => ?_)
      · replace h99 := mt (nI_eq (by omega) (by omega)).mpr h99
        refine e_aload_n (pc := 114) (i := 0) dX5_luck_114 rfl rfl ?_
        refine e_getR (pc := 115) dX5_luck_115 (fX5_16 rfl) sh_0 rfl ?_
        refine e_callV0 (pc := 118) (M' := mX0_pushOnce) dX5_luck_118 iX0_pushOnce lkX5_151 (by decide) (rO_obj sh_6 rfl) (Nat.le_of_ble_eq_true rfl) (Nat.le_of_ble_eq_true rfl) ?_
        refine sp_pushOnce r6 hvv hr (fun S2 a b c => ?_)
        refine e_iinc' (pc := 121) (nI (j + 1)) dX5_luck_121 rfl (by decide) rfl (nI_1 _) ?_
        refine e_goto (pc := 124) (tgt := 82) dX5_luck_124 (by decide) ?_
        first
          | (rw [hD_n h99, Nat.mul_zero, Nat.add_zero] at hih; exact hih S2 (by omega) (by omega) a (hf.tr c))
          | (rw [hD_y h99, Nat.mul_one] at hih; exact hih S2 (by omega) (by omega) a (hf.tr c))
      · replace h99 := (nI_eq (by omega) (by omega)).mp h99
        refine e_lload (pc := 102) dX5_luck_102 rfl ?_
        refine e_aload_n (pc := 104) (i := 0) dX5_luck_104 rfl rfl ?_
        refine e_getR (pc := 105) dX5_luck_105 (fX5_57 rfl) sh_0 rfl ?_
        refine e_iload (pc := 108) dX5_luck_108 rfl ?_
        refine e_lald (pc := 110) dX5_luck_110 sh_38 (vp_in_nI (by omega) (by omega)) ?_
        refine E.lt (lN (wy v m j)) (by rw [nI_clamp (by omega), hf.1]; exact hwy j (by omega)) ?_
        refine e_ladd (pc := 111) dX5_luck_111 ?_
        refine E.lt (lN (sm (fun i => wy v m i * (hD R w d) i) j + wy v m j)) (lN_add _ _) ?_
        refine e_lstore (pc := 112) dX5_luck_112 (by decide) rfl ?_
        refine e_aload_n (pc := 114) (i := 0) dX5_luck_114 rfl rfl ?_
        refine e_getR (pc := 115) dX5_luck_115 (fX5_16 rfl) sh_0 rfl ?_
        refine e_callV0 (pc := 118) (M' := mX0_pushOnce) dX5_luck_118 iX0_pushOnce lkX5_151 (by decide) (rO_obj sh_6 rfl) (Nat.le_of_ble_eq_true rfl) (Nat.le_of_ble_eq_true rfl) ?_
        refine sp_pushOnce r6 hvv hr (fun S2 a b c => ?_)
        refine e_iinc' (pc := 121) (nI (j + 1)) dX5_luck_121 rfl (by decide) rfl (nI_1 _) ?_
        refine e_goto (pc := 124) (tgt := 82) dX5_luck_124 (by decide) ?_
        first
          | (rw [hD_n h99, Nat.mul_zero, Nat.add_zero] at hih; exact hih S2 (by omega) (by omega) a (hf.tr c))
          | (rw [hD_y h99, Nat.mul_one] at hih; exact hih S2 (by omega) (by omega) a (hf.tr c))
theorem lp_mean1 {sc : PSc} {v m : Nat} {R : Rw} {S0 : PS} {Q : PQ} (hvd : Vd R) (hv : v ≤ 10) (hm : m ≤ 8) (hwy : ∀ i, i ≤ m → S0.2 38 i = lN (wy v m i)) (k : ∀ S', Fr 6 5 S0 S' → Q (some (.long (lN ((10 ^ m) / Nat.gcd (10 ^ m) (Tw v m (hR R)))))) S') : ∀ (n : Nat) (j : Nat) (S : PS), j ≤ m + 1 → m + 1 - j < n → RowAt S 6 (pn R j) → Fr 6 5 S0 S → E sc mX5_mean 58 [.ref 0, .int (nI v), .int (nI m), .int (nI 1), .long (lN (10 ^ m)), .null, .long (lN (sm (fun i => wy v m i * (hR R) i) j)), .null, .int (nI j)] [] S Q := by
  intro n
  induction n with
  | zero => intro j S hj hn hr hf; exact absurd hn (by omega)
  | succ n ih =>
    intro j S hj hn hr hf
    have hvv := pn_vd hvd j
    have hrl := reads_le hvv
    have hih := fun S2 => ih (j + 1) S2
    rw [sm] at hih
    refine e_iload (pc := 58) dX5_mean_58 rfl ?_
    refine e_iload_n (pc := 60) (i := 2) dX5_mean_60 rfl rfl ?_
    refine e_icmp_gt (pc := 61) (tgt := 98) dX5_mean_61 (by decide) (fun h61 => ?_) (fun h61 => ?_)
    · replace h61 := (nI_ltI (by omega) (by omega)).mp h61
      obtain rfl : j = m + 1 := by omega
      have hT : Tw v m (hR R) < 2 ^ 46 := by
        have a := Tw_le (H := 248831) hv m (h := (hR R)) (fun i => reads_le (pn_vd hvd i))
        have b : 10 ^ m ≤ 10 ^ 8 := Nat.pow_le_pow_right (by decide) hm
        exact Nat.lt_of_le_of_lt (Nat.le_trans a (Nat.mul_le_mul_right 248831 b)) (by decide)
      have h10 : 0 < 10 ^ m := Nat.pow_pos (by decide)
      have h27 : 10 ^ m < 2 ^ 27 := Nat.lt_of_le_of_lt (Nat.pow_le_pow_right (by decide) hm) (by decide)
      refine e_lload (pc := 98) dX5_mean_98 rfl ?_
      refine e_lload (pc := 100) dX5_mean_100 rfl ?_
      refine e_iload_n (pc := 102) (i := 3) dX5_mean_102 rfl rfl ?_
      refine e_callS3 (pc := 103) (M' := mX5_partOfFraction) dX5_mean_103 jX5_partOfFraction lkX5_191 (by decide) (Nat.le_of_ble_eq_true rfl) (Nat.le_of_ble_eq_true rfl) ?_
      refine sp_part1 hT h10 h27 ?_
      refine e_lret (pc := 106) (st := []) dX5_mean_106 rfl ?_
      exact k S hf
    · replace h61 := mt (nI_ltI (by omega) (by omega)).mpr h61
      refine e_lload (pc := 64) dX5_mean_64 rfl ?_
      refine e_aload_n (pc := 66) (i := 0) dX5_mean_66 rfl rfl ?_
      refine e_getR (pc := 67) dX5_mean_67 (fX5_57 rfl) sh_0 rfl ?_
      refine e_iload (pc := 70) dX5_mean_70 rfl ?_
      refine e_lald (pc := 72) dX5_mean_72 sh_38 (vp_in_nI (by omega) (by omega)) ?_
      refine E.lt (lN (wy v m j)) (by rw [nI_clamp (by omega), hf.1]; exact hwy j (by omega)) ?_
      refine e_aload_n (pc := 73) (i := 0) dX5_mean_73 rfl rfl ?_
      refine e_getR (pc := 74) dX5_mean_74 (fX5_16 rfl) sh_0 rfl ?_
      refine e_callV0 (pc := 77) (M' := mX0_reading) dX5_mean_77 iX0_reading lkX5_107 (by decide) (rO_obj sh_6 rfl) (Nat.le_of_ble_eq_true rfl) (Nat.le_of_ble_eq_true rfl) ?_
      refine sp_reading r6 hvv hr ?_
      refine e_i2l (pc := 80) dX5_mean_80 ?_
      refine E.lt (lN (reads (pn R j))) (nI_l (by omega)) ?_
      refine e_lmul (pc := 81) dX5_mean_81 ?_
      refine E.lt (lN (wy v m j * reads (pn R j))) (lN_mul _ _) ?_
      refine e_ladd (pc := 82) dX5_mean_82 ?_
      refine E.lt (lN (sm (fun i => wy v m i * (hR R) i) j + wy v m j * reads (pn R j))) (lN_add _ _) ?_
      refine e_lstore (pc := 83) dX5_mean_83 (by decide) rfl ?_
      refine e_aload_n (pc := 85) (i := 0) dX5_mean_85 rfl rfl ?_
      refine e_getR (pc := 86) dX5_mean_86 (fX5_16 rfl) sh_0 rfl ?_
      refine e_callV0 (pc := 89) (M' := mX0_pushOnce) dX5_mean_89 iX0_pushOnce lkX5_151 (by decide) (rO_obj sh_6 rfl) (Nat.le_of_ble_eq_true rfl) (Nat.le_of_ble_eq_true rfl) ?_
      refine sp_pushOnce r6 hvv hr (fun S2 a b c => ?_)
      refine e_iinc' (pc := 92) (nI (j + 1)) dX5_mean_92 rfl (by decide) rfl (nI_1 _) ?_
      refine e_goto (pc := 95) (tgt := 58) dX5_mean_95 (by decide) ?_
      exact hih S2 (by omega) (by omega) a (hf.tr c)
theorem lm_missA {sc : PSc} {v m : Nat} {x2 x3 x5 : Int32} {S : PS} {Q : PQ} (hm : m ≤ 8) (k : E sc mX6_byMisses 30 [.ref 54, .int (nI v), .int x2, .int x3, .int (nI m), .int x5, .long (lN 0), .null, .long (lN (10 ^ m)), .null, .int (nI m), .null, .null, .null, .null] [] S Q) : ∀ (n : Nat) (j : Nat), j ≤ m → m - j < n → E sc mX6_byMisses 9 [.ref 54, .int (nI v), .int x2, .int x3, .int (nI m), .int x5, .long (lN 0), .null, .long (lN (10 ^ j)), .null, .int (nI j), .null, .null, .null, .null] [] S Q := by
  intro n
  induction n with
  | zero => intro j hj hn; exact absurd hn (by omega)
  | succ n ih =>
    intro j hj hn
    refine e_iload (pc := 9) dX6_byMisses_9 rfl ?_
    refine e_iload (pc := 11) dX6_byMisses_11 rfl ?_
    refine e_icmp_ge (pc := 13) (tgt := 30) dX6_byMisses_13 (by decide) (fun h13 => ?_) (fun h13 => ?_)
    · replace h13 := (nI_leI (by omega) (by omega)).mp h13
      obtain rfl : j = m := by omega
      exact k
    · replace h13 := mt (nI_leI (by omega) (by omega)).mpr h13
      refine e_lload (pc := 16) dX6_byMisses_16 rfl ?_
      refine e_ldc2 (pc := 18) dX6_byMisses_18 (klX6_195 rfl) ?_
      refine e_lmul (pc := 21) dX6_byMisses_21 ?_
      refine E.lt (lN (10 ^ (j + 1))) ((lN_mul _ 10).trans (by rw [Nat.pow_succ])) ?_
      refine e_lstore (pc := 22) dX6_byMisses_22 (by decide) rfl ?_
      refine e_iinc' (pc := 24) (nI (j + 1)) dX6_byMisses_24 rfl (by decide) rfl (nI_1 _) ?_
      refine e_goto (pc := 27) (tgt := 9) dX6_byMisses_27 (by decide) ?_
      exact ih (j + 1) (by omega) (by omega)
theorem lm_missC {sc : PSc} {v m s : Nat} {x2 x3 x5 : Int32} {U : Int64} {R : Rw} {S0 : PS} {Q : PQ} (hm : m ≤ 8) (hv : v ≤ 10) (hs : s < 256) (hvd : Vd R) (k : ∀ S' z, PgAt S' 88 (pn R (zb s m)) → FrP 88 S0 S' → E sc mX6_byMisses 117 [.ref 54, .int (nI v), .int x2, .int x3, .int (nI m), .int x5, .long (U), .null, .long (lN (10 ^ m)), .null, .int (nI s), .long (lN (od v s m)), .null, .int (nI m), z] [] S' Q) : ∀ (n : Nat) (j : Nat) (S : PS) (z : Value), j ≤ m → m - j < n → PgAt S 88 (pn R (zb s j)) → FrP 88 S0 S → E sc mX6_byMisses 55 [.ref 54, .int (nI v), .int x2, .int x3, .int (nI m), .int x5, .long (U), .null, .long (lN (10 ^ m)), .null, .int (nI s), .long (lN (od v s j)), .null, .int (nI j), z] [] S Q := by
  intro n
  induction n with
  | zero => intro j S z hj hn hp hf; exact absurd hn (by omega)
  | succ n ih =>
    intro j S z hj hn hp hf
    have hvv := pn_vd hvd (zb s j)
    have hih := fun S2 z => ih (j + 1) S2 z
    rw [od, zb] at hih
    refine e_iload (pc := 55) dX6_byMisses_55 rfl ?_
    refine e_iload (pc := 57) dX6_byMisses_57 rfl ?_
    refine e_icmp_ge (pc := 59) (tgt := 117) dX6_byMisses_59 (by decide) (fun h59 => ?_) (fun h59 => ?_)
    · replace h59 := (nI_leI (by omega) (by omega)).mp h59
      obtain rfl : j = m := by omega
      exact k S _ hp hf
    · replace h59 := mt (nI_leI (by omega) (by omega)).mpr h59
      refine e_iload (pc := 62) dX6_byMisses_62 rfl ?_
      refine e_iload (pc := 64) dX6_byMisses_64 rfl ?_
      refine e_ishr (pc := 66) dX6_byMisses_66 ?_
      refine e_iconst' (pc := 67) (nI 1) dX6_byMisses_67 (by decide) ?_
      refine e_iand (pc := 68) dX6_byMisses_68 ?_
      refine E.it (nI (if s.testBit j then 1 else 0)) (bit1 _ _ (by omega)) ?_
      refine e_iconst' (pc := 69) (nI 1) dX6_byMisses_69 (by decide) ?_
      refine e_icmp_ne (pc := 70) (tgt := 77) dX6_byMisses_70 (by decide) (fun h70 => ?_) (fun h70 => ?_)
      · have hb : s.testBit j = false := by cases hb : s.testBit j with | false => rfl | true => rw [hb] at h70; exact absurd rfl h70
        rw [hb, if_neg (by decide), if_neg (by decide)] at hih
        refine e_iconst' (pc := 77) (nI 0) dX6_byMisses_77 (by decide) ?_
        refine e_istore (pc := 78) dX6_byMisses_78 (by decide) rfl ?_
        refine e_lload (pc := 80) dX6_byMisses_80 rfl ?_
        refine e_iload (pc := 82) dX6_byMisses_82 rfl ?_
        refine e_if_eq (pc := 84) (tgt := 92) dX6_byMisses_84 (by decide) (fun h84 => ?_) (fun h84 => absurd (by decide) h84)
        refine e_bipush' (pc := 92) (nI 10) dX6_byMisses_92 (by decide) ?_
        refine e_iload_n (pc := 94) (i := 1) dX6_byMisses_94 rfl rfl ?_
        refine e_isub (pc := 95) dX6_byMisses_95 ?_
        refine E.it (nI (10 - v)) (pk_sub (by omega)) ?_
        refine e_i2l (pc := 96) dX6_byMisses_96 ?_
        refine E.lt (lN (10 - v)) (nI_l (by omega)) ?_
        refine e_lmul (pc := 97) dX6_byMisses_97 ?_
        refine E.lt (lN (od v s j * (10 - v))) (lN_mul _ _) ?_
        refine e_lstore (pc := 98) dX6_byMisses_98 (by decide) rfl ?_
        refine e_iload (pc := 100) dX6_byMisses_100 rfl ?_
        refine e_if_ne (pc := 102) (tgt := 111) dX6_byMisses_102 (by decide) (fun h102 => absurd (by decide) h102) (fun h102 => ?_)
        refine e_aload_n (pc := 105) (i := 0) dX6_byMisses_105 rfl rfl ?_
        refine e_bipush' (pc := 106) (nI 88) dX6_byMisses_106 (by decide) ?_
        refine e_callV1 (pc := 108) (M' := mX6_pushOn) dX6_byMisses_108 iX6_pushOn lkX6_164 (by decide) (rO_obj sh_54 rfl) (Nat.le_of_ble_eq_true rfl) (Nat.le_of_ble_eq_true rfl) ?_
        refine sp_pushOn (p := 88) (by omega) hvv hp (fun S2 a b c => ?_)
        refine e_iinc' (pc := 111) (nI (j + 1)) dX6_byMisses_111 rfl (by decide) rfl (nI_1 _) ?_
        refine e_goto (pc := 114) (tgt := 55) dX6_byMisses_114 (by decide) ?_
        exact hih S2 _ (by omega) (by omega) a (hf.tr c)
      · have hb : s.testBit j = true := by cases hb : s.testBit j with | true => rfl | false => rw [hb] at h70; exact absurd h70 (by decide)
        rw [hb, if_pos rfl, if_pos rfl] at hih
        refine e_iconst' (pc := 73) (nI 1) dX6_byMisses_73 (by decide) ?_
        refine e_goto (pc := 74) (tgt := 78) dX6_byMisses_74 (by decide) ?_
        refine e_istore (pc := 78) dX6_byMisses_78 (by decide) rfl ?_
        refine e_lload (pc := 80) dX6_byMisses_80 rfl ?_
        refine e_iload (pc := 82) dX6_byMisses_82 rfl ?_
        refine e_if_eq (pc := 84) (tgt := 92) dX6_byMisses_84 (by decide) (fun h84 => absurd h84 (by decide)) (fun h84 => ?_)
        refine e_iload_n (pc := 87) (i := 1) dX6_byMisses_87 rfl rfl ?_
        refine e_i2l (pc := 88) dX6_byMisses_88 ?_
        refine E.lt (lN v) (nI_l (by omega)) ?_
        refine e_goto (pc := 89) (tgt := 97) dX6_byMisses_89 (by decide) ?_
        refine e_lmul (pc := 97) dX6_byMisses_97 ?_
        refine E.lt (lN (od v s j * v)) (lN_mul _ _) ?_
        refine e_lstore (pc := 98) dX6_byMisses_98 (by decide) rfl ?_
        refine e_iload (pc := 100) dX6_byMisses_100 rfl ?_
        refine e_if_ne (pc := 102) (tgt := 111) dX6_byMisses_102 (by decide) (fun h102 => ?_) (fun h102 => absurd h102 (by decide))
        refine e_iinc' (pc := 111) (nI (j + 1)) dX6_byMisses_111 rfl (by decide) rfl (nI_1 _) ?_
        refine e_goto (pc := 114) (tgt := 55) dX6_byMisses_114 (by decide) ?_
        exact hih S _ (by omega) (by omega) hp hf
theorem lm_luck0 {sc : PSc} {v w d m : Nat} {R : Rw} {S0 : PS} {Q : PQ} (hvd : Vd R) (hp0 : PgAt S0 0 R) (hv : v ≤ 10) (hm : m ≤ 8) (hw : w < R 20) (hd : d ≤ 11) (k : ∀ S', Same S0 S' → Q (some (.long (lN ((Um v m (hD R w d)) / Nat.gcd (10 ^ m) (Um v m (hD R w d)))))) S') : ∀ (n : Nat) (s : Nat) (S : PS) (y1 y2 y3 y4 : Value), s ≤ 2 ^ m → 2 ^ m - s < n → FrP 88 S0 S → E sc mX6_byMisses 33 [.ref 54, .int (nI v), .int (nI w), .int (nI d), .int (nI m), .int (nI 0), .long (lN (sm (fun s => od v s m * (hD R w d) (zb s m)) s)), .null, .long (lN (10 ^ m)), .null, .int (nI s), y1, y2, y3, y4] [] S Q := by
  intro n
  induction n with
  | zero => intro s S y1 y2 y3 y4 hs hn hf; exact absurd hn (by omega)
  | succ n ih =>
    intro s S y1 y2 y3 y4 hs hn hf
    have h5 := hvd.1
    have h256 : 2 ^ m ≤ 2 ^ 8 := Nat.pow_le_pow_right (by decide) hm
    rw [show (2 : Nat) ^ 8 = 256 by decide] at h256
    have hp := hp0.of (fun k _ h2 => hf.2.2.1 k (by omega)) h5
    have hih := fun S2 y1 y2 y3 y4 => ih (s + 1) S2 y1 y2 y3 y4
    rw [sm] at hih
    refine e_iload (pc := 33) dX6_byMisses_33 rfl ?_
    refine e_iconst' (pc := 35) (nI 1) dX6_byMisses_35 (by decide) ?_
    refine e_iload (pc := 36) dX6_byMisses_36 rfl ?_
    refine e_ishl (pc := 38) dX6_byMisses_38 ?_
    refine E.it (nI (2 ^ m)) (sh1 m (by omega)) ?_
    refine e_icmp_ge (pc := 39) (tgt := 165) dX6_byMisses_39 (by decide) (fun h39 => ?_) (fun h39 => ?_)
    · replace h39 := (nI_leI (by omega) (by omega)).mp h39
      obtain rfl : s = 2 ^ m := by omega
      have hT : Um v m (hD R w d) < 2 ^ 46 := by
        rw [Um_Tw]
        have a := Tw_le (H := 1) hv m (h := (hD R w d)) (fun i => by unfold hD; split <;> omega)
        have b : 10 ^ m ≤ 10 ^ 8 := Nat.pow_le_pow_right (by decide) hm
        exact Nat.lt_of_le_of_lt (Nat.le_trans a (Nat.mul_le_mul_right 1 b)) (by decide)
      have h10 : 0 < 10 ^ m := Nat.pow_pos (by decide)
      have h27 : 10 ^ m < 2 ^ 27 := Nat.lt_of_le_of_lt (Nat.pow_le_pow_right (by decide) hm) (by decide)
      refine e_lload (pc := 165) dX6_byMisses_165 rfl ?_
      refine e_lload (pc := 167) dX6_byMisses_167 rfl ?_
      refine e_iload (pc := 169) dX6_byMisses_169 rfl ?_
      refine e_callS3 (pc := 171) (M' := mX6_lowest) dX6_byMisses_171 jX6_lowest lkX6_197 (by decide) (Nat.le_of_ble_eq_true rfl) (Nat.le_of_ble_eq_true rfl) ?_
      refine sp_low0 hT h10 h27 ?_
      refine e_lret (pc := 174) (st := []) dX6_byMisses_174 rfl ?_
      exact k S (hf.same (by omega))
    · replace h39 := mt (nI_leI (by omega) (by omega)).mpr h39
      refine e_lconst' (pc := 42) (lN 1) dX6_byMisses_42 (by decide) ?_
      refine e_lstore (pc := 43) dX6_byMisses_43 (by decide) rfl ?_
      refine e_aload_n (pc := 45) (i := 0) dX6_byMisses_45 rfl rfl ?_
      refine e_iconst' (pc := 46) (nI 0) dX6_byMisses_46 (by decide) ?_
      refine e_bipush' (pc := 47) (nI 88) dX6_byMisses_47 (by decide) ?_
      refine e_callV2 (pc := 49) (M' := mX6_copies) dX6_byMisses_49 iX6_copies lkX6_167 (by decide) (rO_obj sh_54 rfl) (Nat.le_of_ble_eq_true rfl) (Nat.le_of_ble_eq_true rfl) ?_
      refine sp_copyPg (b := 88) (by omega) (by omega) (by omega) hvd hp (fun S1 p1 f1 => ?_)
      refine e_iconst' (pc := 52) (nI 0) dX6_byMisses_52 (by decide) ?_
      refine e_istore (pc := 53) dX6_byMisses_53 (by decide) rfl ?_
      refine lm_missC (S0 := S1) hm hv (show s < 256 by omega) hvd (fun S2 z hq f2 => ?_) (m + 1) 0 S1 _ (by omega) (by omega) p1 FrP.rf
      have hvz := pn_vd hvd (zb s m)
      have hrl := reads_le hvz
      have hw2 : w < pn R (zb s m) 20 := by rw [pn_keep hvd (by omega) (by omega)]; exact hw
      have hbz := (hvz.2 w hw2).2.2
      refine e_lload (pc := 117) dX6_byMisses_117 rfl ?_
      refine e_lload (pc := 119) dX6_byMisses_119 rfl ?_
      refine e_iload_n (pc := 121) (i := 2) dX6_byMisses_121 rfl rfl ?_
      refine e_bipush' (pc := 122) (-4) dX6_byMisses_122 (by decide) ?_
      refine e_icmp_ne (pc := 124) (tgt := 136) dX6_byMisses_124 (by decide) (fun h124 => ?_) (fun h124 => absurd (show nI w < 0 by rw [h124]; decide) (nI_pos (by omega)))
      refine e_aload_n (pc := 136) (i := 0) dX6_byMisses_136 rfl rfl ?_
      refine e_getR (pc := 137) dX6_byMisses_137 (fX6_7 rfl) sh_54 rfl ?_
      refine e_bipush' (pc := 140) (nI 98) dX6_byMisses_140 (by decide) ?_
      refine e_iload_n (pc := 142) (i := 2) dX6_byMisses_142 rfl rfl ?_
      refine e_iadd (pc := 143) dX6_byMisses_143 ?_
      refine E.it (nI (98 + w)) (nI_add _ _) ?_
      refine e_iald (pc := 144) dX6_byMisses_144 sh_55 (vp_in_nI (by omega) (by omega)) ?_
      refine E.it (nI (pn R (zb s m) (10 + w))) (by rw [nI_clamp (by omega)]; exact (hq.2.2 w hw2).2.2.1) ?_
      refine e_iload_n (pc := 145) (i := 3) dX6_byMisses_145 rfl rfl ?_
      refine e_icmp_ne (pc := 146) (tgt := 153) dX6_byMisses_146 (by decide) (fun h146 => ?_) (fun h146 => ?_)
      · replace h146 := mt (nI_eq (by omega) (by omega)).mpr h146
        refine e_iconst' (pc := 153) (nI 0) dX6_byMisses_153 (by decide) ?_
        refine e_i2l (pc := 154) dX6_byMisses_154 ?_
        refine E.lt (lN 0) (nI_l (by omega)) ?_
        refine e_lmul (pc := 155) dX6_byMisses_155 ?_
        refine E.lt (lN (od v s m * 0)) (lN_mul _ _) ?_
        refine e_ladd (pc := 156) dX6_byMisses_156 ?_
        refine E.lt (lN (sm (fun s => od v s m * (hD R w d) (zb s m)) s + od v s m * 0)) (lN_add _ _) ?_
        refine e_lstore (pc := 157) dX6_byMisses_157 (by decide) rfl ?_
        refine e_iinc' (pc := 159) (nI (s + 1)) dX6_byMisses_159 rfl (by decide) rfl (nI_1 _) ?_
        refine e_goto (pc := 162) (tgt := 33) dX6_byMisses_162 (by decide) ?_
        rw [hD_n h146] at hih
        exact hih S2 _ _ _ _ (by omega) (by omega) ((hf.tr f1.P).tr f2)
      · replace h146 := (nI_eq (by omega) (by omega)).mp h146
        refine e_iconst' (pc := 149) (nI 1) dX6_byMisses_149 (by decide) ?_
        refine e_goto (pc := 150) (tgt := 154) dX6_byMisses_150 (by decide) ?_
        refine e_i2l (pc := 154) dX6_byMisses_154 ?_
        refine E.lt (lN 1) (nI_l (by omega)) ?_
        refine e_lmul (pc := 155) dX6_byMisses_155 ?_
        refine E.lt (lN (od v s m * 1)) (lN_mul _ _) ?_
        refine e_ladd (pc := 156) dX6_byMisses_156 ?_
        refine E.lt (lN (sm (fun s => od v s m * (hD R w d) (zb s m)) s + od v s m * 1)) (lN_add _ _) ?_
        refine e_lstore (pc := 157) dX6_byMisses_157 (by decide) rfl ?_
        refine e_iinc' (pc := 159) (nI (s + 1)) dX6_byMisses_159 rfl (by decide) rfl (nI_1 _) ?_
        refine e_goto (pc := 162) (tgt := 33) dX6_byMisses_162 (by decide) ?_
        rw [hD_y h146] at hih
        exact hih S2 _ _ _ _ (by omega) (by omega) ((hf.tr f1.P).tr f2)
theorem sp_luckM0 {sc : PSc} {v w d m : Nat} {R : Rw} {S0 : PS} {Q : PQ} (hvd : Vd R) (hp0 : PgAt S0 0 R) (hv : v ≤ 10) (hm : m ≤ 8) (hw : w < R 20) (hd : d ≤ 11) (k : ∀ S', Same S0 S' → Q (some (.long (lN ((Um v m (hD R w d)) / Nat.gcd (10 ^ m) (Um v m (hD R w d)))))) S') : E sc mX6_byMisses 0 (pL0 mX6_byMisses [.ref 54, .int (nI v), .int (nI w), .int (nI d), .int (nI m), .int (nI 0)]) [] S0 Q := by
  show E sc mX6_byMisses 0 [.ref 54, .int (nI v), .int (nI w), .int (nI d), .int (nI m), .int (nI 0), .null, .null, .null, .null, .null, .null, .null, .null, .null] [] S0 Q
  refine e_lconst' (pc := 0) (lN 0) dX6_byMisses_0 (by decide) ?_
  refine e_lstore (pc := 1) dX6_byMisses_1 (by decide) rfl ?_
  refine e_lconst' (pc := 3) (lN 1) dX6_byMisses_3 (by decide) ?_
  refine e_lstore (pc := 4) dX6_byMisses_4 (by decide) rfl ?_
  refine e_iconst' (pc := 6) (nI 0) dX6_byMisses_6 (by decide) ?_
  refine e_istore (pc := 7) dX6_byMisses_7 (by decide) rfl ?_
  refine lm_missA hm ?_ (m + 1) 0 (by omega) (by omega)
  refine e_iconst' (pc := 30) (nI 0) dX6_byMisses_30 (by decide) ?_
  refine e_istore (pc := 31) dX6_byMisses_31 (by decide) rfl ?_
  exact lm_luck0 hvd hp0 hv hm hw hd k (2 ^ m + 1) 0 S0 _ _ _ _ (Nat.zero_le _) (Nat.lt_succ_of_le (Nat.sub_le _ _)) FrP.rf
theorem lm_mean0 {sc : PSc} {v m : Nat} {R : Rw} {S0 : PS} {Q : PQ} (hvd : Vd R) (hp0 : PgAt S0 0 R) (hv : v ≤ 10) (hm : m ≤ 8) (k : ∀ S', Same S0 S' → Q (some (.long (lN ((Um v m (hR R)) / Nat.gcd (10 ^ m) (Um v m (hR R)))))) S') : ∀ (n : Nat) (s : Nat) (S : PS) (y1 y2 y3 y4 : Value), s ≤ 2 ^ m → 2 ^ m - s < n → FrP 88 S0 S → E sc mX6_byMisses 33 [.ref 54, .int (nI v), .int (-4), .int (nI 0), .int (nI m), .int (nI 0), .long (lN (sm (fun s => od v s m * (hR R) (zb s m)) s)), .null, .long (lN (10 ^ m)), .null, .int (nI s), y1, y2, y3, y4] [] S Q := by
  intro n
  induction n with
  | zero => intro s S y1 y2 y3 y4 hs hn hf; exact absurd hn (by omega)
  | succ n ih =>
    intro s S y1 y2 y3 y4 hs hn hf
    have h5 := hvd.1
    have h256 : 2 ^ m ≤ 2 ^ 8 := Nat.pow_le_pow_right (by decide) hm
    rw [show (2 : Nat) ^ 8 = 256 by decide] at h256
    have hp := hp0.of (fun k _ h2 => hf.2.2.1 k (by omega)) h5
    have hih := fun S2 y1 y2 y3 y4 => ih (s + 1) S2 y1 y2 y3 y4
    rw [sm] at hih
    refine e_iload (pc := 33) dX6_byMisses_33 rfl ?_
    refine e_iconst' (pc := 35) (nI 1) dX6_byMisses_35 (by decide) ?_
    refine e_iload (pc := 36) dX6_byMisses_36 rfl ?_
    refine e_ishl (pc := 38) dX6_byMisses_38 ?_
    refine E.it (nI (2 ^ m)) (sh1 m (by omega)) ?_
    refine e_icmp_ge (pc := 39) (tgt := 165) dX6_byMisses_39 (by decide) (fun h39 => ?_) (fun h39 => ?_)
    · replace h39 := (nI_leI (by omega) (by omega)).mp h39
      obtain rfl : s = 2 ^ m := by omega
      have hT : Um v m (hR R) < 2 ^ 46 := by
        rw [Um_Tw]
        have a := Tw_le (H := 248831) hv m (h := (hR R)) (fun i => reads_le (pn_vd hvd i))
        have b : 10 ^ m ≤ 10 ^ 8 := Nat.pow_le_pow_right (by decide) hm
        exact Nat.lt_of_le_of_lt (Nat.le_trans a (Nat.mul_le_mul_right 248831 b)) (by decide)
      have h10 : 0 < 10 ^ m := Nat.pow_pos (by decide)
      have h27 : 10 ^ m < 2 ^ 27 := Nat.lt_of_le_of_lt (Nat.pow_le_pow_right (by decide) hm) (by decide)
      refine e_lload (pc := 165) dX6_byMisses_165 rfl ?_
      refine e_lload (pc := 167) dX6_byMisses_167 rfl ?_
      refine e_iload (pc := 169) dX6_byMisses_169 rfl ?_
      refine e_callS3 (pc := 171) (M' := mX6_lowest) dX6_byMisses_171 jX6_lowest lkX6_197 (by decide) (Nat.le_of_ble_eq_true rfl) (Nat.le_of_ble_eq_true rfl) ?_
      refine sp_low0 hT h10 h27 ?_
      refine e_lret (pc := 174) (st := []) dX6_byMisses_174 rfl ?_
      exact k S (hf.same (by omega))
    · replace h39 := mt (nI_leI (by omega) (by omega)).mpr h39
      refine e_lconst' (pc := 42) (lN 1) dX6_byMisses_42 (by decide) ?_
      refine e_lstore (pc := 43) dX6_byMisses_43 (by decide) rfl ?_
      refine e_aload_n (pc := 45) (i := 0) dX6_byMisses_45 rfl rfl ?_
      refine e_iconst' (pc := 46) (nI 0) dX6_byMisses_46 (by decide) ?_
      refine e_bipush' (pc := 47) (nI 88) dX6_byMisses_47 (by decide) ?_
      refine e_callV2 (pc := 49) (M' := mX6_copies) dX6_byMisses_49 iX6_copies lkX6_167 (by decide) (rO_obj sh_54 rfl) (Nat.le_of_ble_eq_true rfl) (Nat.le_of_ble_eq_true rfl) ?_
      refine sp_copyPg (b := 88) (by omega) (by omega) (by omega) hvd hp (fun S1 p1 f1 => ?_)
      refine e_iconst' (pc := 52) (nI 0) dX6_byMisses_52 (by decide) ?_
      refine e_istore (pc := 53) dX6_byMisses_53 (by decide) rfl ?_
      refine lm_missC (S0 := S1) hm hv (show s < 256 by omega) hvd (fun S2 z hq f2 => ?_) (m + 1) 0 S1 _ (by omega) (by omega) p1 FrP.rf
      have hvz := pn_vd hvd (zb s m)
      have hrl := reads_le hvz
      refine e_lload (pc := 117) dX6_byMisses_117 rfl ?_
      refine e_lload (pc := 119) dX6_byMisses_119 rfl ?_
      refine e_iload_n (pc := 121) (i := 2) dX6_byMisses_121 rfl rfl ?_
      refine e_bipush' (pc := 122) (-4) dX6_byMisses_122 (by decide) ?_
      refine e_icmp_ne (pc := 124) (tgt := 136) dX6_byMisses_124 (by decide) (fun h124 => (h124 rfl).elim) (fun h124 => ?_)
      refine e_aload_n (pc := 127) (i := 0) dX6_byMisses_127 rfl rfl ?_
      refine e_bipush' (pc := 128) (nI 88) dX6_byMisses_128 (by decide) ?_
      refine e_callV1 (pc := 130) (M' := mX6_readsOn) dX6_byMisses_130 iX6_readsOn lkX6_135 (by decide) (rO_obj sh_54 rfl) (Nat.le_of_ble_eq_true rfl) (Nat.le_of_ble_eq_true rfl) ?_
      refine sp_readsOn (p := 88) (by omega) hvz hq ?_
      refine e_goto (pc := 133) (tgt := 154) dX6_byMisses_133 (by decide) ?_
      refine e_i2l (pc := 154) dX6_byMisses_154 ?_
      refine E.lt (lN (reads (pn R (zb s m)))) (nI_l (by omega)) ?_
      refine e_lmul (pc := 155) dX6_byMisses_155 ?_
      refine E.lt (lN (od v s m * reads (pn R (zb s m)))) (lN_mul _ _) ?_
      refine e_ladd (pc := 156) dX6_byMisses_156 ?_
      refine E.lt (lN (sm (fun s => od v s m * (hR R) (zb s m)) s + od v s m * reads (pn R (zb s m)))) (lN_add _ _) ?_
      refine e_lstore (pc := 157) dX6_byMisses_157 (by decide) rfl ?_
      refine e_iinc' (pc := 159) (nI (s + 1)) dX6_byMisses_159 rfl (by decide) rfl (nI_1 _) ?_
      refine e_goto (pc := 162) (tgt := 33) dX6_byMisses_162 (by decide) ?_
      exact hih S2 _ _ _ _ (by omega) (by omega) ((hf.tr f1.P).tr f2)
theorem sp_meanM0 {sc : PSc} {v m : Nat} {R : Rw} {S0 : PS} {Q : PQ} (hvd : Vd R) (hp0 : PgAt S0 0 R) (hv : v ≤ 10) (hm : m ≤ 8) (k : ∀ S', Same S0 S' → Q (some (.long (lN ((Um v m (hR R)) / Nat.gcd (10 ^ m) (Um v m (hR R)))))) S') : E sc mX6_byMisses 0 (pL0 mX6_byMisses [.ref 54, .int (nI v), .int (-4), .int (nI 0), .int (nI m), .int (nI 0)]) [] S0 Q := by
  show E sc mX6_byMisses 0 [.ref 54, .int (nI v), .int (-4), .int (nI 0), .int (nI m), .int (nI 0), .null, .null, .null, .null, .null, .null, .null, .null, .null] [] S0 Q
  refine e_lconst' (pc := 0) (lN 0) dX6_byMisses_0 (by decide) ?_
  refine e_lstore (pc := 1) dX6_byMisses_1 (by decide) rfl ?_
  refine e_lconst' (pc := 3) (lN 1) dX6_byMisses_3 (by decide) ?_
  refine e_lstore (pc := 4) dX6_byMisses_4 (by decide) rfl ?_
  refine e_iconst' (pc := 6) (nI 0) dX6_byMisses_6 (by decide) ?_
  refine e_istore (pc := 7) dX6_byMisses_7 (by decide) rfl ?_
  refine lm_missA hm ?_ (m + 1) 0 (by omega) (by omega)
  refine e_iconst' (pc := 30) (nI 0) dX6_byMisses_30 (by decide) ?_
  refine e_istore (pc := 31) dX6_byMisses_31 (by decide) rfl ?_
  exact lm_mean0 hvd hp0 hv hm k (2 ^ m + 1) 0 S0 _ _ _ _ (Nat.zero_le _) (Nat.lt_succ_of_le (Nat.sub_le _ _)) FrP.rf
theorem lm_luck1 {sc : PSc} {v w d m : Nat} {R : Rw} {S0 : PS} {Q : PQ} (hvd : Vd R) (hp0 : PgAt S0 0 R) (hv : v ≤ 10) (hm : m ≤ 8) (hw : w < R 20) (hd : d ≤ 11) (k : ∀ S', Same S0 S' → Q (some (.long (lN ((10 ^ m) / Nat.gcd (10 ^ m) (Um v m (hD R w d)))))) S') : ∀ (n : Nat) (s : Nat) (S : PS) (y1 y2 y3 y4 : Value), s ≤ 2 ^ m → 2 ^ m - s < n → FrP 88 S0 S → E sc mX6_byMisses 33 [.ref 54, .int (nI v), .int (nI w), .int (nI d), .int (nI m), .int (nI 1), .long (lN (sm (fun s => od v s m * (hD R w d) (zb s m)) s)), .null, .long (lN (10 ^ m)), .null, .int (nI s), y1, y2, y3, y4] [] S Q := by
  intro n
  induction n with
  | zero => intro s S y1 y2 y3 y4 hs hn hf; exact absurd hn (by omega)
  | succ n ih =>
    intro s S y1 y2 y3 y4 hs hn hf
    have h5 := hvd.1
    have h256 : 2 ^ m ≤ 2 ^ 8 := Nat.pow_le_pow_right (by decide) hm
    rw [show (2 : Nat) ^ 8 = 256 by decide] at h256
    have hp := hp0.of (fun k _ h2 => hf.2.2.1 k (by omega)) h5
    have hih := fun S2 y1 y2 y3 y4 => ih (s + 1) S2 y1 y2 y3 y4
    rw [sm] at hih
    refine e_iload (pc := 33) dX6_byMisses_33 rfl ?_
    refine e_iconst' (pc := 35) (nI 1) dX6_byMisses_35 (by decide) ?_
    refine e_iload (pc := 36) dX6_byMisses_36 rfl ?_
    refine e_ishl (pc := 38) dX6_byMisses_38 ?_
    refine E.it (nI (2 ^ m)) (sh1 m (by omega)) ?_
    refine e_icmp_ge (pc := 39) (tgt := 165) dX6_byMisses_39 (by decide) (fun h39 => ?_) (fun h39 => ?_)
    · replace h39 := (nI_leI (by omega) (by omega)).mp h39
      obtain rfl : s = 2 ^ m := by omega
      have hT : Um v m (hD R w d) < 2 ^ 46 := by
        rw [Um_Tw]
        have a := Tw_le (H := 1) hv m (h := (hD R w d)) (fun i => by unfold hD; split <;> omega)
        have b : 10 ^ m ≤ 10 ^ 8 := Nat.pow_le_pow_right (by decide) hm
        exact Nat.lt_of_le_of_lt (Nat.le_trans a (Nat.mul_le_mul_right 1 b)) (by decide)
      have h10 : 0 < 10 ^ m := Nat.pow_pos (by decide)
      have h27 : 10 ^ m < 2 ^ 27 := Nat.lt_of_le_of_lt (Nat.pow_le_pow_right (by decide) hm) (by decide)
      refine e_lload (pc := 165) dX6_byMisses_165 rfl ?_
      refine e_lload (pc := 167) dX6_byMisses_167 rfl ?_
      refine e_iload (pc := 169) dX6_byMisses_169 rfl ?_
      refine e_callS3 (pc := 171) (M' := mX6_lowest) dX6_byMisses_171 jX6_lowest lkX6_197 (by decide) (Nat.le_of_ble_eq_true rfl) (Nat.le_of_ble_eq_true rfl) ?_
      refine sp_low1 hT h10 h27 ?_
      refine e_lret (pc := 174) (st := []) dX6_byMisses_174 rfl ?_
      exact k S (hf.same (by omega))
    · replace h39 := mt (nI_leI (by omega) (by omega)).mpr h39
      refine e_lconst' (pc := 42) (lN 1) dX6_byMisses_42 (by decide) ?_
      refine e_lstore (pc := 43) dX6_byMisses_43 (by decide) rfl ?_
      refine e_aload_n (pc := 45) (i := 0) dX6_byMisses_45 rfl rfl ?_
      refine e_iconst' (pc := 46) (nI 0) dX6_byMisses_46 (by decide) ?_
      refine e_bipush' (pc := 47) (nI 88) dX6_byMisses_47 (by decide) ?_
      refine e_callV2 (pc := 49) (M' := mX6_copies) dX6_byMisses_49 iX6_copies lkX6_167 (by decide) (rO_obj sh_54 rfl) (Nat.le_of_ble_eq_true rfl) (Nat.le_of_ble_eq_true rfl) ?_
      refine sp_copyPg (b := 88) (by omega) (by omega) (by omega) hvd hp (fun S1 p1 f1 => ?_)
      refine e_iconst' (pc := 52) (nI 0) dX6_byMisses_52 (by decide) ?_
      refine e_istore (pc := 53) dX6_byMisses_53 (by decide) rfl ?_
      refine lm_missC (S0 := S1) hm hv (show s < 256 by omega) hvd (fun S2 z hq f2 => ?_) (m + 1) 0 S1 _ (by omega) (by omega) p1 FrP.rf
      have hvz := pn_vd hvd (zb s m)
      have hrl := reads_le hvz
      have hw2 : w < pn R (zb s m) 20 := by rw [pn_keep hvd (by omega) (by omega)]; exact hw
      have hbz := (hvz.2 w hw2).2.2
      refine e_lload (pc := 117) dX6_byMisses_117 rfl ?_
      refine e_lload (pc := 119) dX6_byMisses_119 rfl ?_
      refine e_iload_n (pc := 121) (i := 2) dX6_byMisses_121 rfl rfl ?_
      refine e_bipush' (pc := 122) (-4) dX6_byMisses_122 (by decide) ?_
      refine e_icmp_ne (pc := 124) (tgt := 136) dX6_byMisses_124 (by decide) (fun h124 => ?_) (fun h124 => absurd (show nI w < 0 by rw [h124]; decide) (nI_pos (by omega)))
      refine e_aload_n (pc := 136) (i := 0) dX6_byMisses_136 rfl rfl ?_
      refine e_getR (pc := 137) dX6_byMisses_137 (fX6_7 rfl) sh_54 rfl ?_
      refine e_bipush' (pc := 140) (nI 98) dX6_byMisses_140 (by decide) ?_
      refine e_iload_n (pc := 142) (i := 2) dX6_byMisses_142 rfl rfl ?_
      refine e_iadd (pc := 143) dX6_byMisses_143 ?_
      refine E.it (nI (98 + w)) (nI_add _ _) ?_
      refine e_iald (pc := 144) dX6_byMisses_144 sh_55 (vp_in_nI (by omega) (by omega)) ?_
      refine E.it (nI (pn R (zb s m) (10 + w))) (by rw [nI_clamp (by omega)]; exact (hq.2.2 w hw2).2.2.1) ?_
      refine e_iload_n (pc := 145) (i := 3) dX6_byMisses_145 rfl rfl ?_
      refine e_icmp_ne (pc := 146) (tgt := 153) dX6_byMisses_146 (by decide) (fun h146 => ?_) (fun h146 => ?_)
      · replace h146 := mt (nI_eq (by omega) (by omega)).mpr h146
        refine e_iconst' (pc := 153) (nI 0) dX6_byMisses_153 (by decide) ?_
        refine e_i2l (pc := 154) dX6_byMisses_154 ?_
        refine E.lt (lN 0) (nI_l (by omega)) ?_
        refine e_lmul (pc := 155) dX6_byMisses_155 ?_
        refine E.lt (lN (od v s m * 0)) (lN_mul _ _) ?_
        refine e_ladd (pc := 156) dX6_byMisses_156 ?_
        refine E.lt (lN (sm (fun s => od v s m * (hD R w d) (zb s m)) s + od v s m * 0)) (lN_add _ _) ?_
        refine e_lstore (pc := 157) dX6_byMisses_157 (by decide) rfl ?_
        refine e_iinc' (pc := 159) (nI (s + 1)) dX6_byMisses_159 rfl (by decide) rfl (nI_1 _) ?_
        refine e_goto (pc := 162) (tgt := 33) dX6_byMisses_162 (by decide) ?_
        rw [hD_n h146] at hih
        exact hih S2 _ _ _ _ (by omega) (by omega) ((hf.tr f1.P).tr f2)
      · replace h146 := (nI_eq (by omega) (by omega)).mp h146
        refine e_iconst' (pc := 149) (nI 1) dX6_byMisses_149 (by decide) ?_
        refine e_goto (pc := 150) (tgt := 154) dX6_byMisses_150 (by decide) ?_
        refine e_i2l (pc := 154) dX6_byMisses_154 ?_
        refine E.lt (lN 1) (nI_l (by omega)) ?_
        refine e_lmul (pc := 155) dX6_byMisses_155 ?_
        refine E.lt (lN (od v s m * 1)) (lN_mul _ _) ?_
        refine e_ladd (pc := 156) dX6_byMisses_156 ?_
        refine E.lt (lN (sm (fun s => od v s m * (hD R w d) (zb s m)) s + od v s m * 1)) (lN_add _ _) ?_
        refine e_lstore (pc := 157) dX6_byMisses_157 (by decide) rfl ?_
        refine e_iinc' (pc := 159) (nI (s + 1)) dX6_byMisses_159 rfl (by decide) rfl (nI_1 _) ?_
        refine e_goto (pc := 162) (tgt := 33) dX6_byMisses_162 (by decide) ?_
        rw [hD_y h146] at hih
        exact hih S2 _ _ _ _ (by omega) (by omega) ((hf.tr f1.P).tr f2)
theorem sp_luckM1 {sc : PSc} {v w d m : Nat} {R : Rw} {S0 : PS} {Q : PQ} (hvd : Vd R) (hp0 : PgAt S0 0 R) (hv : v ≤ 10) (hm : m ≤ 8) (hw : w < R 20) (hd : d ≤ 11) (k : ∀ S', Same S0 S' → Q (some (.long (lN ((10 ^ m) / Nat.gcd (10 ^ m) (Um v m (hD R w d)))))) S') : E sc mX6_byMisses 0 (pL0 mX6_byMisses [.ref 54, .int (nI v), .int (nI w), .int (nI d), .int (nI m), .int (nI 1)]) [] S0 Q := by
  show E sc mX6_byMisses 0 [.ref 54, .int (nI v), .int (nI w), .int (nI d), .int (nI m), .int (nI 1), .null, .null, .null, .null, .null, .null, .null, .null, .null] [] S0 Q
  refine e_lconst' (pc := 0) (lN 0) dX6_byMisses_0 (by decide) ?_
  refine e_lstore (pc := 1) dX6_byMisses_1 (by decide) rfl ?_
  refine e_lconst' (pc := 3) (lN 1) dX6_byMisses_3 (by decide) ?_
  refine e_lstore (pc := 4) dX6_byMisses_4 (by decide) rfl ?_
  refine e_iconst' (pc := 6) (nI 0) dX6_byMisses_6 (by decide) ?_
  refine e_istore (pc := 7) dX6_byMisses_7 (by decide) rfl ?_
  refine lm_missA hm ?_ (m + 1) 0 (by omega) (by omega)
  refine e_iconst' (pc := 30) (nI 0) dX6_byMisses_30 (by decide) ?_
  refine e_istore (pc := 31) dX6_byMisses_31 (by decide) rfl ?_
  exact lm_luck1 hvd hp0 hv hm hw hd k (2 ^ m + 1) 0 S0 _ _ _ _ (Nat.zero_le _) (Nat.lt_succ_of_le (Nat.sub_le _ _)) FrP.rf
theorem lm_mean1 {sc : PSc} {v m : Nat} {R : Rw} {S0 : PS} {Q : PQ} (hvd : Vd R) (hp0 : PgAt S0 0 R) (hv : v ≤ 10) (hm : m ≤ 8) (k : ∀ S', Same S0 S' → Q (some (.long (lN ((10 ^ m) / Nat.gcd (10 ^ m) (Um v m (hR R)))))) S') : ∀ (n : Nat) (s : Nat) (S : PS) (y1 y2 y3 y4 : Value), s ≤ 2 ^ m → 2 ^ m - s < n → FrP 88 S0 S → E sc mX6_byMisses 33 [.ref 54, .int (nI v), .int (-4), .int (nI 0), .int (nI m), .int (nI 1), .long (lN (sm (fun s => od v s m * (hR R) (zb s m)) s)), .null, .long (lN (10 ^ m)), .null, .int (nI s), y1, y2, y3, y4] [] S Q := by
  intro n
  induction n with
  | zero => intro s S y1 y2 y3 y4 hs hn hf; exact absurd hn (by omega)
  | succ n ih =>
    intro s S y1 y2 y3 y4 hs hn hf
    have h5 := hvd.1
    have h256 : 2 ^ m ≤ 2 ^ 8 := Nat.pow_le_pow_right (by decide) hm
    rw [show (2 : Nat) ^ 8 = 256 by decide] at h256
    have hp := hp0.of (fun k _ h2 => hf.2.2.1 k (by omega)) h5
    have hih := fun S2 y1 y2 y3 y4 => ih (s + 1) S2 y1 y2 y3 y4
    rw [sm] at hih
    refine e_iload (pc := 33) dX6_byMisses_33 rfl ?_
    refine e_iconst' (pc := 35) (nI 1) dX6_byMisses_35 (by decide) ?_
    refine e_iload (pc := 36) dX6_byMisses_36 rfl ?_
    refine e_ishl (pc := 38) dX6_byMisses_38 ?_
    refine E.it (nI (2 ^ m)) (sh1 m (by omega)) ?_
    refine e_icmp_ge (pc := 39) (tgt := 165) dX6_byMisses_39 (by decide) (fun h39 => ?_) (fun h39 => ?_)
    · replace h39 := (nI_leI (by omega) (by omega)).mp h39
      obtain rfl : s = 2 ^ m := by omega
      have hT : Um v m (hR R) < 2 ^ 46 := by
        rw [Um_Tw]
        have a := Tw_le (H := 248831) hv m (h := (hR R)) (fun i => reads_le (pn_vd hvd i))
        have b : 10 ^ m ≤ 10 ^ 8 := Nat.pow_le_pow_right (by decide) hm
        exact Nat.lt_of_le_of_lt (Nat.le_trans a (Nat.mul_le_mul_right 248831 b)) (by decide)
      have h10 : 0 < 10 ^ m := Nat.pow_pos (by decide)
      have h27 : 10 ^ m < 2 ^ 27 := Nat.lt_of_le_of_lt (Nat.pow_le_pow_right (by decide) hm) (by decide)
      refine e_lload (pc := 165) dX6_byMisses_165 rfl ?_
      refine e_lload (pc := 167) dX6_byMisses_167 rfl ?_
      refine e_iload (pc := 169) dX6_byMisses_169 rfl ?_
      refine e_callS3 (pc := 171) (M' := mX6_lowest) dX6_byMisses_171 jX6_lowest lkX6_197 (by decide) (Nat.le_of_ble_eq_true rfl) (Nat.le_of_ble_eq_true rfl) ?_
      refine sp_low1 hT h10 h27 ?_
      refine e_lret (pc := 174) (st := []) dX6_byMisses_174 rfl ?_
      exact k S (hf.same (by omega))
    · replace h39 := mt (nI_leI (by omega) (by omega)).mpr h39
      refine e_lconst' (pc := 42) (lN 1) dX6_byMisses_42 (by decide) ?_
      refine e_lstore (pc := 43) dX6_byMisses_43 (by decide) rfl ?_
      refine e_aload_n (pc := 45) (i := 0) dX6_byMisses_45 rfl rfl ?_
      refine e_iconst' (pc := 46) (nI 0) dX6_byMisses_46 (by decide) ?_
      refine e_bipush' (pc := 47) (nI 88) dX6_byMisses_47 (by decide) ?_
      refine e_callV2 (pc := 49) (M' := mX6_copies) dX6_byMisses_49 iX6_copies lkX6_167 (by decide) (rO_obj sh_54 rfl) (Nat.le_of_ble_eq_true rfl) (Nat.le_of_ble_eq_true rfl) ?_
      refine sp_copyPg (b := 88) (by omega) (by omega) (by omega) hvd hp (fun S1 p1 f1 => ?_)
      refine e_iconst' (pc := 52) (nI 0) dX6_byMisses_52 (by decide) ?_
      refine e_istore (pc := 53) dX6_byMisses_53 (by decide) rfl ?_
      refine lm_missC (S0 := S1) hm hv (show s < 256 by omega) hvd (fun S2 z hq f2 => ?_) (m + 1) 0 S1 _ (by omega) (by omega) p1 FrP.rf
      have hvz := pn_vd hvd (zb s m)
      have hrl := reads_le hvz
      refine e_lload (pc := 117) dX6_byMisses_117 rfl ?_
      refine e_lload (pc := 119) dX6_byMisses_119 rfl ?_
      refine e_iload_n (pc := 121) (i := 2) dX6_byMisses_121 rfl rfl ?_
      refine e_bipush' (pc := 122) (-4) dX6_byMisses_122 (by decide) ?_
      refine e_icmp_ne (pc := 124) (tgt := 136) dX6_byMisses_124 (by decide) (fun h124 => (h124 rfl).elim) (fun h124 => ?_)
      refine e_aload_n (pc := 127) (i := 0) dX6_byMisses_127 rfl rfl ?_
      refine e_bipush' (pc := 128) (nI 88) dX6_byMisses_128 (by decide) ?_
      refine e_callV1 (pc := 130) (M' := mX6_readsOn) dX6_byMisses_130 iX6_readsOn lkX6_135 (by decide) (rO_obj sh_54 rfl) (Nat.le_of_ble_eq_true rfl) (Nat.le_of_ble_eq_true rfl) ?_
      refine sp_readsOn (p := 88) (by omega) hvz hq ?_
      refine e_goto (pc := 133) (tgt := 154) dX6_byMisses_133 (by decide) ?_
      refine e_i2l (pc := 154) dX6_byMisses_154 ?_
      refine E.lt (lN (reads (pn R (zb s m)))) (nI_l (by omega)) ?_
      refine e_lmul (pc := 155) dX6_byMisses_155 ?_
      refine E.lt (lN (od v s m * reads (pn R (zb s m)))) (lN_mul _ _) ?_
      refine e_ladd (pc := 156) dX6_byMisses_156 ?_
      refine E.lt (lN (sm (fun s => od v s m * (hR R) (zb s m)) s + od v s m * reads (pn R (zb s m)))) (lN_add _ _) ?_
      refine e_lstore (pc := 157) dX6_byMisses_157 (by decide) rfl ?_
      refine e_iinc' (pc := 159) (nI (s + 1)) dX6_byMisses_159 rfl (by decide) rfl (nI_1 _) ?_
      refine e_goto (pc := 162) (tgt := 33) dX6_byMisses_162 (by decide) ?_
      exact hih S2 _ _ _ _ (by omega) (by omega) ((hf.tr f1.P).tr f2)
theorem sp_meanM1 {sc : PSc} {v m : Nat} {R : Rw} {S0 : PS} {Q : PQ} (hvd : Vd R) (hp0 : PgAt S0 0 R) (hv : v ≤ 10) (hm : m ≤ 8) (k : ∀ S', Same S0 S' → Q (some (.long (lN ((10 ^ m) / Nat.gcd (10 ^ m) (Um v m (hR R)))))) S') : E sc mX6_byMisses 0 (pL0 mX6_byMisses [.ref 54, .int (nI v), .int (-4), .int (nI 0), .int (nI m), .int (nI 1)]) [] S0 Q := by
  show E sc mX6_byMisses 0 [.ref 54, .int (nI v), .int (-4), .int (nI 0), .int (nI m), .int (nI 1), .null, .null, .null, .null, .null, .null, .null, .null, .null] [] S0 Q
  refine e_lconst' (pc := 0) (lN 0) dX6_byMisses_0 (by decide) ?_
  refine e_lstore (pc := 1) dX6_byMisses_1 (by decide) rfl ?_
  refine e_lconst' (pc := 3) (lN 1) dX6_byMisses_3 (by decide) ?_
  refine e_lstore (pc := 4) dX6_byMisses_4 (by decide) rfl ?_
  refine e_iconst' (pc := 6) (nI 0) dX6_byMisses_6 (by decide) ?_
  refine e_istore (pc := 7) dX6_byMisses_7 (by decide) rfl ?_
  refine lm_missA hm ?_ (m + 1) 0 (by omega) (by omega)
  refine e_iconst' (pc := 30) (nI 0) dX6_byMisses_30 (by decide) ?_
  refine e_istore (pc := 31) dX6_byMisses_31 (by decide) rfl ?_
  exact lm_mean1 hvd hp0 hv hm k (2 ^ m + 1) 0 S0 _ _ _ _ (Nat.zero_le _) (Nat.lt_succ_of_le (Nat.sub_le _ _)) FrP.rf
theorem b_luck {sc : PSc} {S : PS} (hI : InvS S) (x1 x2 x3 x4 x5 : Int32) : BthL sc mX5_luck mX6_luck [.int x1, .int x2, .int x3, .int x4, .int x5] S := by
  obtain ⟨R, hv, hc, hr, hp⟩ := hI.1
  have hv5 := hv.1
  rcases Classical.em (inr x1 0 10) with ⟨v, rfl, -, hv10⟩ | hn
  · rcases Classical.em (inw x2 (R 20)) with ⟨w, rfl, hw⟩ | hn
    · rcases Classical.em (inr x3 0 11) with ⟨d, rfl, -, hd⟩ | hn
      · rcases Classical.em (inr x4 0 8) with ⟨m, rfl, -, hm⟩ | hn
        · rcases Classical.em (inr x5 0 1) with ⟨e, rfl, -, he⟩ | hn
          · have h5 := hv.1
            rcases (show e = 0 ∨ e = 1 by omega) with rfl | rfl
            · refine ask_bothL (lN ((Tw v m (hD R w d)) / Nat.gcd (10 ^ m) (Tw v m (hD R w d)))) hI (fun Q k => ?_) (fun S1 h1 Q k => ?_)
              · show E sc mX5_luck 0 [.ref 0, .int (nI v), .int (nI w), .int (nI d), .int (nI m), .int (nI 0), .null, .null, .null, .null, .null] [] S Q
                refine e_iload_n (pc := 0) (i := 1) dX5_luck_0 rfl rfl ?_
                refine e_iconst' (pc := 1) (nI 0) dX5_luck_1 (by decide) ?_
                refine e_bipush' (pc := 2) (nI 10) dX5_luck_2 (by decide) ?_
                refine e_callS3 (pc := 4) (M' := mX5_within) dX5_luck_4 jX5_within lkX5_70 (by decide) (Nat.le_of_ble_eq_true rfl) (Nat.le_of_ble_eq_true rfl) ?_
                refine sp_winY (by omega) (by omega) (by omega) ?_
                refine e_if_eq (pc := 7) (tgt := 52) dX5_luck_7 (by decide) (fun h7 => absurd h7 (by decide)) (fun h7 => ?_)
                refine e_aload_n (pc := 10) (i := 0) dX5_luck_10 rfl rfl ?_
                refine e_getR (pc := 11) dX5_luck_11 (fX5_10 rfl) sh_0 rfl ?_
                refine e_iload_n (pc := 14) (i := 2) dX5_luck_14 rfl rfl ?_
                refine e_callV1 (pc := 15) (M' := mX0_has) dX5_luck_15 iX0_has lkX5_120 (by decide) (rO_obj sh_1 rfl) (Nat.le_of_ble_eq_true rfl) (Nat.le_of_ble_eq_true rfl) ?_
                refine sp_hasY r1 hv hr hw ?_
                refine e_if_eq (pc := 18) (tgt := 52) dX5_luck_18 (by decide) (fun h18 => absurd h18 (by decide)) (fun h18 => ?_)
                refine e_iload_n (pc := 21) (i := 3) dX5_luck_21 rfl rfl ?_
                refine e_iconst' (pc := 22) (nI 0) dX5_luck_22 (by decide) ?_
                refine e_bipush' (pc := 23) (nI 11) dX5_luck_23 (by decide) ?_
                refine e_callS3 (pc := 25) (M' := mX5_within) dX5_luck_25 jX5_within lkX5_70 (by decide) (Nat.le_of_ble_eq_true rfl) (Nat.le_of_ble_eq_true rfl) ?_
                refine sp_winY (by omega) (by omega) (by omega) ?_
                refine e_if_eq (pc := 28) (tgt := 52) dX5_luck_28 (by decide) (fun h28 => absurd h28 (by decide)) (fun h28 => ?_)
                refine e_iload (pc := 31) dX5_luck_31 rfl ?_
                refine e_iconst' (pc := 33) (nI 0) dX5_luck_33 (by decide) ?_
                refine e_bipush' (pc := 34) (nI 8) dX5_luck_34 (by decide) ?_
                refine e_callS3 (pc := 36) (M' := mX5_within) dX5_luck_36 jX5_within lkX5_70 (by decide) (Nat.le_of_ble_eq_true rfl) (Nat.le_of_ble_eq_true rfl) ?_
                refine sp_winY (by omega) (by omega) (by omega) ?_
                refine e_if_eq (pc := 39) (tgt := 52) dX5_luck_39 (by decide) (fun h39 => absurd h39 (by decide)) (fun h39 => ?_)
                refine e_iload (pc := 42) dX5_luck_42 rfl ?_
                refine e_iconst' (pc := 44) (nI 0) dX5_luck_44 (by decide) ?_
                refine e_iconst' (pc := 45) (nI 1) dX5_luck_45 (by decide) ?_
                refine e_callS3 (pc := 46) (M' := mX5_within) dX5_luck_46 jX5_within lkX5_70 (by decide) (Nat.le_of_ble_eq_true rfl) (Nat.le_of_ble_eq_true rfl) ?_
                refine sp_winY (by omega) (by omega) (by omega) ?_
                refine e_if_ne (pc := 49) (tgt := 56) dX5_luck_49 (by decide) (fun h49 => ?_) (fun h49 => absurd h49 (by decide))
                refine e_aload_n (pc := 56) (i := 0) dX5_luck_56 rfl rfl ?_
                refine e_iload_n (pc := 57) (i := 1) dX5_luck_57 rfl rfl ?_
                refine e_iload (pc := 58) dX5_luck_58 rfl ?_
                refine e_callV2 (pc := 60) (M' := mX5_countWays) dX5_luck_60 iX5_countWays lkX5_187 (by decide) (rO_obj sh_0 rfl) (Nat.le_of_ble_eq_true rfl) (Nat.le_of_ble_eq_true rfl) ?_
                refine sp_ways hv10 hm (fun S2 e2 w2 => ?_)
                have f2 : Same S S2 := ⟨fun j _ => by rw [e2], fun k _ => by rw [e2], fun k _ => by rw [e2], fun j _ => by rw [e2]⟩
                refine e_lstore (pc := 63) dX5_luck_63 (by decide) rfl ?_
                refine e_lconst' (pc := 65) (lN 0) dX5_luck_65 (by decide) ?_
                refine e_lstore (pc := 66) dX5_luck_66 (by decide) rfl ?_
                refine e_aload_n (pc := 68) (i := 0) dX5_luck_68 rfl rfl ?_
                refine e_getR (pc := 69) dX5_luck_69 (fX5_16 rfl) sh_0 rfl ?_
                refine e_aload_n (pc := 72) (i := 0) dX5_luck_72 rfl rfl ?_
                refine e_getR (pc := 73) dX5_luck_73 (fX5_10 rfl) sh_0 rfl ?_
                refine e_callV1 (pc := 76) (M' := mX0_copyOf) dX5_luck_76 iX0_copyOf lkX5_90 (by decide) (rO_obj sh_6 rfl) (Nat.le_of_ble_eq_true rfl) (Nat.le_of_ble_eq_true rfl) ?_
                refine sp_copyOf r6 r1 (by omega) hv (f2.row (by omega) hr) (fun S3 a b c => ?_)
                refine e_iconst' (pc := 79) (nI 0) dX5_luck_79 (by decide) ?_
                refine e_istore (pc := 80) dX5_luck_80 (by decide) rfl ?_
                exact lp_luck0 (S0 := S3) hv hv10 hm hw hd (fun i hi => by rw [c.1]; exact w2 i hi) (fun S4 f4 => k S4 ((f2.tr c.same).tr f4.same)) (m + 2) 0 S3 (by omega) (by omega) a Fr.rf
              · show E sc mX6_luck 0 [.ref 54, .int (nI v), .int (nI w), .int (nI d), .int (nI m), .int (nI 0)] [] S1 Q
                have hp := h1.pg (by omega) hv hp
                refine e_iload_n (pc := 0) (i := 1) dX6_luck_0 rfl rfl ?_
                refine e_i2l (pc := 1) dX6_luck_1 ?_
                refine e_lconst' (pc := 2) (lN 0) dX6_luck_2 (by decide) ?_
                refine e_ldc2 (pc := 3) dX6_luck_3 (klX6_195 rfl) ?_
                refine e_callS3 (pc := 6) (M' := mX6_in) dX6_luck_6 jX6_in lkX6_46 (by decide) (Nat.le_of_ble_eq_true rfl) (Nat.le_of_ble_eq_true rfl) ?_
                refine sp_inY (lo := 0) (hi := 10) (by decide) (by decide) (by omega) (by omega) (by omega) ?_
                refine e_if_eq (pc := 9) (tgt := 65) dX6_luck_9 (by decide) (fun h9 => absurd h9 (by decide)) (fun h9 => ?_)
                refine e_aload_n (pc := 12) (i := 0) dX6_luck_12 rfl rfl ?_
                refine e_iload_n (pc := 13) (i := 2) dX6_luck_13 rfl rfl ?_
                refine e_callV1 (pc := 14) (M' := mX6_isWheel) dX6_luck_14 iX6_isWheel lkX6_144 (by decide) (rO_obj sh_54 rfl) (Nat.le_of_ble_eq_true rfl) (Nat.le_of_ble_eq_true rfl) ?_
                refine sp_isWheelY hv hp hw ?_
                refine e_if_eq (pc := 17) (tgt := 65) dX6_luck_17 (by decide) (fun h17 => absurd h17 (by decide)) (fun h17 => ?_)
                refine e_iload_n (pc := 20) (i := 3) dX6_luck_20 rfl rfl ?_
                refine e_callS1 (pc := 21) (M' := mX6_isDigit) dX6_luck_21 jX6_isDigit lkX6_154 (by decide) (Nat.le_of_ble_eq_true rfl) (Nat.le_of_ble_eq_true rfl) ?_
                refine sp_isDigitY (by omega) ?_
                refine e_if_eq (pc := 24) (tgt := 65) dX6_luck_24 (by decide) (fun h24 => absurd h24 (by decide)) (fun h24 => ?_)
                refine e_iload (pc := 27) dX6_luck_27 rfl ?_
                refine e_i2l (pc := 29) dX6_luck_29 ?_
                refine e_lconst' (pc := 30) (lN 0) dX6_luck_30 (by decide) ?_
                refine e_ldc2 (pc := 31) dX6_luck_31 (klX6_201 rfl) ?_
                refine e_callS3 (pc := 34) (M' := mX6_in) dX6_luck_34 jX6_in lkX6_46 (by decide) (Nat.le_of_ble_eq_true rfl) (Nat.le_of_ble_eq_true rfl) ?_
                refine sp_inY (lo := 0) (hi := 8) (by decide) (by decide) (by omega) (by omega) (by omega) ?_
                refine e_if_eq (pc := 37) (tgt := 65) dX6_luck_37 (by decide) (fun h37 => absurd h37 (by decide)) (fun h37 => ?_)
                refine e_iload (pc := 40) dX6_luck_40 rfl ?_
                refine e_i2l (pc := 42) dX6_luck_42 ?_
                refine e_lconst' (pc := 43) (lN 0) dX6_luck_43 (by decide) ?_
                refine e_lconst' (pc := 44) (lN 1) dX6_luck_44 (by decide) ?_
                refine e_callS3 (pc := 45) (M' := mX6_in) dX6_luck_45 jX6_in lkX6_46 (by decide) (Nat.le_of_ble_eq_true rfl) (Nat.le_of_ble_eq_true rfl) ?_
                refine sp_inY (lo := 0) (hi := 1) (by decide) (by decide) (by omega) (by omega) (by omega) ?_
                refine e_if_eq (pc := 48) (tgt := 65) dX6_luck_48 (by decide) (fun h48 => absurd h48 (by decide)) (fun h48 => ?_)
                refine e_aload_n (pc := 51) (i := 0) dX6_luck_51 rfl rfl ?_
                refine e_iload_n (pc := 52) (i := 1) dX6_luck_52 rfl rfl ?_
                refine e_iload_n (pc := 53) (i := 2) dX6_luck_53 rfl rfl ?_
                refine e_iload_n (pc := 54) (i := 3) dX6_luck_54 rfl rfl ?_
                refine e_iload (pc := 55) dX6_luck_55 rfl ?_
                refine e_iload (pc := 57) dX6_luck_57 rfl ?_
                refine e_callV5 (pc := 59) (M' := mX6_byMisses) dX6_luck_59 iX6_byMisses lkX6_203 (by decide) (rO_obj sh_54 rfl) (Nat.le_of_ble_eq_true rfl) (Nat.le_of_ble_eq_true rfl) ?_
                refine sp_luckM0 hv hp hv10 hm hw hd (fun S2 h2 => ?_)
                rw [Um_Tw]
                refine e_goto (pc := 62) (tgt := 68) dX6_luck_62 (by decide) ?_
                refine e_lret (pc := 68) (st := []) dX6_luck_68 rfl ?_
                exact k S2 h2
            · refine ask_bothL (lN ((10 ^ m) / Nat.gcd (10 ^ m) (Tw v m (hD R w d)))) hI (fun Q k => ?_) (fun S1 h1 Q k => ?_)
              · show E sc mX5_luck 0 [.ref 0, .int (nI v), .int (nI w), .int (nI d), .int (nI m), .int (nI 1), .null, .null, .null, .null, .null] [] S Q
                refine e_iload_n (pc := 0) (i := 1) dX5_luck_0 rfl rfl ?_
                refine e_iconst' (pc := 1) (nI 0) dX5_luck_1 (by decide) ?_
                refine e_bipush' (pc := 2) (nI 10) dX5_luck_2 (by decide) ?_
                refine e_callS3 (pc := 4) (M' := mX5_within) dX5_luck_4 jX5_within lkX5_70 (by decide) (Nat.le_of_ble_eq_true rfl) (Nat.le_of_ble_eq_true rfl) ?_
                refine sp_winY (by omega) (by omega) (by omega) ?_
                refine e_if_eq (pc := 7) (tgt := 52) dX5_luck_7 (by decide) (fun h7 => absurd h7 (by decide)) (fun h7 => ?_)
                refine e_aload_n (pc := 10) (i := 0) dX5_luck_10 rfl rfl ?_
                refine e_getR (pc := 11) dX5_luck_11 (fX5_10 rfl) sh_0 rfl ?_
                refine e_iload_n (pc := 14) (i := 2) dX5_luck_14 rfl rfl ?_
                refine e_callV1 (pc := 15) (M' := mX0_has) dX5_luck_15 iX0_has lkX5_120 (by decide) (rO_obj sh_1 rfl) (Nat.le_of_ble_eq_true rfl) (Nat.le_of_ble_eq_true rfl) ?_
                refine sp_hasY r1 hv hr hw ?_
                refine e_if_eq (pc := 18) (tgt := 52) dX5_luck_18 (by decide) (fun h18 => absurd h18 (by decide)) (fun h18 => ?_)
                refine e_iload_n (pc := 21) (i := 3) dX5_luck_21 rfl rfl ?_
                refine e_iconst' (pc := 22) (nI 0) dX5_luck_22 (by decide) ?_
                refine e_bipush' (pc := 23) (nI 11) dX5_luck_23 (by decide) ?_
                refine e_callS3 (pc := 25) (M' := mX5_within) dX5_luck_25 jX5_within lkX5_70 (by decide) (Nat.le_of_ble_eq_true rfl) (Nat.le_of_ble_eq_true rfl) ?_
                refine sp_winY (by omega) (by omega) (by omega) ?_
                refine e_if_eq (pc := 28) (tgt := 52) dX5_luck_28 (by decide) (fun h28 => absurd h28 (by decide)) (fun h28 => ?_)
                refine e_iload (pc := 31) dX5_luck_31 rfl ?_
                refine e_iconst' (pc := 33) (nI 0) dX5_luck_33 (by decide) ?_
                refine e_bipush' (pc := 34) (nI 8) dX5_luck_34 (by decide) ?_
                refine e_callS3 (pc := 36) (M' := mX5_within) dX5_luck_36 jX5_within lkX5_70 (by decide) (Nat.le_of_ble_eq_true rfl) (Nat.le_of_ble_eq_true rfl) ?_
                refine sp_winY (by omega) (by omega) (by omega) ?_
                refine e_if_eq (pc := 39) (tgt := 52) dX5_luck_39 (by decide) (fun h39 => absurd h39 (by decide)) (fun h39 => ?_)
                refine e_iload (pc := 42) dX5_luck_42 rfl ?_
                refine e_iconst' (pc := 44) (nI 0) dX5_luck_44 (by decide) ?_
                refine e_iconst' (pc := 45) (nI 1) dX5_luck_45 (by decide) ?_
                refine e_callS3 (pc := 46) (M' := mX5_within) dX5_luck_46 jX5_within lkX5_70 (by decide) (Nat.le_of_ble_eq_true rfl) (Nat.le_of_ble_eq_true rfl) ?_
                refine sp_winY (by omega) (by omega) (by omega) ?_
                refine e_if_ne (pc := 49) (tgt := 56) dX5_luck_49 (by decide) (fun h49 => ?_) (fun h49 => absurd h49 (by decide))
                refine e_aload_n (pc := 56) (i := 0) dX5_luck_56 rfl rfl ?_
                refine e_iload_n (pc := 57) (i := 1) dX5_luck_57 rfl rfl ?_
                refine e_iload (pc := 58) dX5_luck_58 rfl ?_
                refine e_callV2 (pc := 60) (M' := mX5_countWays) dX5_luck_60 iX5_countWays lkX5_187 (by decide) (rO_obj sh_0 rfl) (Nat.le_of_ble_eq_true rfl) (Nat.le_of_ble_eq_true rfl) ?_
                refine sp_ways hv10 hm (fun S2 e2 w2 => ?_)
                have f2 : Same S S2 := ⟨fun j _ => by rw [e2], fun k _ => by rw [e2], fun k _ => by rw [e2], fun j _ => by rw [e2]⟩
                refine e_lstore (pc := 63) dX5_luck_63 (by decide) rfl ?_
                refine e_lconst' (pc := 65) (lN 0) dX5_luck_65 (by decide) ?_
                refine e_lstore (pc := 66) dX5_luck_66 (by decide) rfl ?_
                refine e_aload_n (pc := 68) (i := 0) dX5_luck_68 rfl rfl ?_
                refine e_getR (pc := 69) dX5_luck_69 (fX5_16 rfl) sh_0 rfl ?_
                refine e_aload_n (pc := 72) (i := 0) dX5_luck_72 rfl rfl ?_
                refine e_getR (pc := 73) dX5_luck_73 (fX5_10 rfl) sh_0 rfl ?_
                refine e_callV1 (pc := 76) (M' := mX0_copyOf) dX5_luck_76 iX0_copyOf lkX5_90 (by decide) (rO_obj sh_6 rfl) (Nat.le_of_ble_eq_true rfl) (Nat.le_of_ble_eq_true rfl) ?_
                refine sp_copyOf r6 r1 (by omega) hv (f2.row (by omega) hr) (fun S3 a b c => ?_)
                refine e_iconst' (pc := 79) (nI 0) dX5_luck_79 (by decide) ?_
                refine e_istore (pc := 80) dX5_luck_80 (by decide) rfl ?_
                exact lp_luck1 (S0 := S3) hv hv10 hm hw hd (fun i hi => by rw [c.1]; exact w2 i hi) (fun S4 f4 => k S4 ((f2.tr c.same).tr f4.same)) (m + 2) 0 S3 (by omega) (by omega) a Fr.rf
              · show E sc mX6_luck 0 [.ref 54, .int (nI v), .int (nI w), .int (nI d), .int (nI m), .int (nI 1)] [] S1 Q
                have hp := h1.pg (by omega) hv hp
                refine e_iload_n (pc := 0) (i := 1) dX6_luck_0 rfl rfl ?_
                refine e_i2l (pc := 1) dX6_luck_1 ?_
                refine e_lconst' (pc := 2) (lN 0) dX6_luck_2 (by decide) ?_
                refine e_ldc2 (pc := 3) dX6_luck_3 (klX6_195 rfl) ?_
                refine e_callS3 (pc := 6) (M' := mX6_in) dX6_luck_6 jX6_in lkX6_46 (by decide) (Nat.le_of_ble_eq_true rfl) (Nat.le_of_ble_eq_true rfl) ?_
                refine sp_inY (lo := 0) (hi := 10) (by decide) (by decide) (by omega) (by omega) (by omega) ?_
                refine e_if_eq (pc := 9) (tgt := 65) dX6_luck_9 (by decide) (fun h9 => absurd h9 (by decide)) (fun h9 => ?_)
                refine e_aload_n (pc := 12) (i := 0) dX6_luck_12 rfl rfl ?_
                refine e_iload_n (pc := 13) (i := 2) dX6_luck_13 rfl rfl ?_
                refine e_callV1 (pc := 14) (M' := mX6_isWheel) dX6_luck_14 iX6_isWheel lkX6_144 (by decide) (rO_obj sh_54 rfl) (Nat.le_of_ble_eq_true rfl) (Nat.le_of_ble_eq_true rfl) ?_
                refine sp_isWheelY hv hp hw ?_
                refine e_if_eq (pc := 17) (tgt := 65) dX6_luck_17 (by decide) (fun h17 => absurd h17 (by decide)) (fun h17 => ?_)
                refine e_iload_n (pc := 20) (i := 3) dX6_luck_20 rfl rfl ?_
                refine e_callS1 (pc := 21) (M' := mX6_isDigit) dX6_luck_21 jX6_isDigit lkX6_154 (by decide) (Nat.le_of_ble_eq_true rfl) (Nat.le_of_ble_eq_true rfl) ?_
                refine sp_isDigitY (by omega) ?_
                refine e_if_eq (pc := 24) (tgt := 65) dX6_luck_24 (by decide) (fun h24 => absurd h24 (by decide)) (fun h24 => ?_)
                refine e_iload (pc := 27) dX6_luck_27 rfl ?_
                refine e_i2l (pc := 29) dX6_luck_29 ?_
                refine e_lconst' (pc := 30) (lN 0) dX6_luck_30 (by decide) ?_
                refine e_ldc2 (pc := 31) dX6_luck_31 (klX6_201 rfl) ?_
                refine e_callS3 (pc := 34) (M' := mX6_in) dX6_luck_34 jX6_in lkX6_46 (by decide) (Nat.le_of_ble_eq_true rfl) (Nat.le_of_ble_eq_true rfl) ?_
                refine sp_inY (lo := 0) (hi := 8) (by decide) (by decide) (by omega) (by omega) (by omega) ?_
                refine e_if_eq (pc := 37) (tgt := 65) dX6_luck_37 (by decide) (fun h37 => absurd h37 (by decide)) (fun h37 => ?_)
                refine e_iload (pc := 40) dX6_luck_40 rfl ?_
                refine e_i2l (pc := 42) dX6_luck_42 ?_
                refine e_lconst' (pc := 43) (lN 0) dX6_luck_43 (by decide) ?_
                refine e_lconst' (pc := 44) (lN 1) dX6_luck_44 (by decide) ?_
                refine e_callS3 (pc := 45) (M' := mX6_in) dX6_luck_45 jX6_in lkX6_46 (by decide) (Nat.le_of_ble_eq_true rfl) (Nat.le_of_ble_eq_true rfl) ?_
                refine sp_inY (lo := 0) (hi := 1) (by decide) (by decide) (by omega) (by omega) (by omega) ?_
                refine e_if_eq (pc := 48) (tgt := 65) dX6_luck_48 (by decide) (fun h48 => absurd h48 (by decide)) (fun h48 => ?_)
                refine e_aload_n (pc := 51) (i := 0) dX6_luck_51 rfl rfl ?_
                refine e_iload_n (pc := 52) (i := 1) dX6_luck_52 rfl rfl ?_
                refine e_iload_n (pc := 53) (i := 2) dX6_luck_53 rfl rfl ?_
                refine e_iload_n (pc := 54) (i := 3) dX6_luck_54 rfl rfl ?_
                refine e_iload (pc := 55) dX6_luck_55 rfl ?_
                refine e_iload (pc := 57) dX6_luck_57 rfl ?_
                refine e_callV5 (pc := 59) (M' := mX6_byMisses) dX6_luck_59 iX6_byMisses lkX6_203 (by decide) (rO_obj sh_54 rfl) (Nat.le_of_ble_eq_true rfl) (Nat.le_of_ble_eq_true rfl) ?_
                refine sp_luckM1 hv hp hv10 hm hw hd (fun S2 h2 => ?_)
                rw [Um_Tw]
                refine e_goto (pc := 62) (tgt := 68) dX6_luck_62 (by decide) ?_
                refine e_lret (pc := 68) (st := []) dX6_luck_68 rfl ?_
                exact k S2 h2
          · refine ask_bothL (-1) hI (fun Q k => ?_) (fun S1 h1 Q k => ?_)
            · show E sc mX5_luck 0 [.ref 0, .int (nI v), .int (nI w), .int (nI d), .int (nI m), .int x5, .null, .null, .null, .null, .null] [] S Q
              refine e_iload_n (pc := 0) (i := 1) dX5_luck_0 rfl rfl ?_
              refine e_iconst' (pc := 1) (nI 0) dX5_luck_1 (by decide) ?_
              refine e_bipush' (pc := 2) (nI 10) dX5_luck_2 (by decide) ?_
              refine e_callS3 (pc := 4) (M' := mX5_within) dX5_luck_4 jX5_within lkX5_70 (by decide) (Nat.le_of_ble_eq_true rfl) (Nat.le_of_ble_eq_true rfl) ?_
              refine sp_winY (by omega) (by omega) (by omega) ?_
              refine e_if_eq (pc := 7) (tgt := 52) dX5_luck_7 (by decide) (fun h7 => absurd h7 (by decide)) (fun h7 => ?_)
              refine e_aload_n (pc := 10) (i := 0) dX5_luck_10 rfl rfl ?_
              refine e_getR (pc := 11) dX5_luck_11 (fX5_10 rfl) sh_0 rfl ?_
              refine e_iload_n (pc := 14) (i := 2) dX5_luck_14 rfl rfl ?_
              refine e_callV1 (pc := 15) (M' := mX0_has) dX5_luck_15 iX0_has lkX5_120 (by decide) (rO_obj sh_1 rfl) (Nat.le_of_ble_eq_true rfl) (Nat.le_of_ble_eq_true rfl) ?_
              refine sp_hasY r1 hv hr hw ?_
              refine e_if_eq (pc := 18) (tgt := 52) dX5_luck_18 (by decide) (fun h18 => absurd h18 (by decide)) (fun h18 => ?_)
              refine e_iload_n (pc := 21) (i := 3) dX5_luck_21 rfl rfl ?_
              refine e_iconst' (pc := 22) (nI 0) dX5_luck_22 (by decide) ?_
              refine e_bipush' (pc := 23) (nI 11) dX5_luck_23 (by decide) ?_
              refine e_callS3 (pc := 25) (M' := mX5_within) dX5_luck_25 jX5_within lkX5_70 (by decide) (Nat.le_of_ble_eq_true rfl) (Nat.le_of_ble_eq_true rfl) ?_
              refine sp_winY (by omega) (by omega) (by omega) ?_
              refine e_if_eq (pc := 28) (tgt := 52) dX5_luck_28 (by decide) (fun h28 => absurd h28 (by decide)) (fun h28 => ?_)
              refine e_iload (pc := 31) dX5_luck_31 rfl ?_
              refine e_iconst' (pc := 33) (nI 0) dX5_luck_33 (by decide) ?_
              refine e_bipush' (pc := 34) (nI 8) dX5_luck_34 (by decide) ?_
              refine e_callS3 (pc := 36) (M' := mX5_within) dX5_luck_36 jX5_within lkX5_70 (by decide) (Nat.le_of_ble_eq_true rfl) (Nat.le_of_ble_eq_true rfl) ?_
              refine sp_winY (by omega) (by omega) (by omega) ?_
              refine e_if_eq (pc := 39) (tgt := 52) dX5_luck_39 (by decide) (fun h39 => absurd h39 (by decide)) (fun h39 => ?_)
              refine e_iload (pc := 42) dX5_luck_42 rfl ?_
              refine e_iconst' (pc := 44) (nI 0) dX5_luck_44 (by decide) ?_
              refine e_iconst' (pc := 45) (nI 1) dX5_luck_45 (by decide) ?_
              refine e_callS3 (pc := 46) (M' := mX5_within) dX5_luck_46 jX5_within lkX5_70 (by decide) (Nat.le_of_ble_eq_true rfl) (Nat.le_of_ble_eq_true rfl) ?_
              refine sp_winX hn (by omega) (by omega) ?_
              refine e_if_ne (pc := 49) (tgt := 56) dX5_luck_49 (by decide) (fun h49 => absurd (by decide) h49) (fun h49 => ?_)
              refine e_ldc2 (pc := 52) dX5_luck_52 (klX5_185 rfl) ?_
              refine e_lret (pc := 55) (st := []) dX5_luck_55 rfl ?_
              exact k _ Same.rf
            · show E sc mX6_luck 0 [.ref 54, .int (nI v), .int (nI w), .int (nI d), .int (nI m), .int x5] [] S1 Q
              have hp := h1.pg (by omega) hv hp
              have hr := h1.row (by omega) hr
              refine e_iload_n (pc := 0) (i := 1) dX6_luck_0 rfl rfl ?_
              refine e_i2l (pc := 1) dX6_luck_1 ?_
              refine e_lconst' (pc := 2) (lN 0) dX6_luck_2 (by decide) ?_
              refine e_ldc2 (pc := 3) dX6_luck_3 (klX6_195 rfl) ?_
              refine e_callS3 (pc := 6) (M' := mX6_in) dX6_luck_6 jX6_in lkX6_46 (by decide) (Nat.le_of_ble_eq_true rfl) (Nat.le_of_ble_eq_true rfl) ?_
              refine sp_inY (lo := 0) (hi := 10) (by decide) (by decide) (by omega) (by omega) (by omega) ?_
              refine e_if_eq (pc := 9) (tgt := 65) dX6_luck_9 (by decide) (fun h9 => absurd h9 (by decide)) (fun h9 => ?_)
              refine e_aload_n (pc := 12) (i := 0) dX6_luck_12 rfl rfl ?_
              refine e_iload_n (pc := 13) (i := 2) dX6_luck_13 rfl rfl ?_
              refine e_callV1 (pc := 14) (M' := mX6_isWheel) dX6_luck_14 iX6_isWheel lkX6_144 (by decide) (rO_obj sh_54 rfl) (Nat.le_of_ble_eq_true rfl) (Nat.le_of_ble_eq_true rfl) ?_
              refine sp_isWheelY hv hp hw ?_
              refine e_if_eq (pc := 17) (tgt := 65) dX6_luck_17 (by decide) (fun h17 => absurd h17 (by decide)) (fun h17 => ?_)
              refine e_iload_n (pc := 20) (i := 3) dX6_luck_20 rfl rfl ?_
              refine e_callS1 (pc := 21) (M' := mX6_isDigit) dX6_luck_21 jX6_isDigit lkX6_154 (by decide) (Nat.le_of_ble_eq_true rfl) (Nat.le_of_ble_eq_true rfl) ?_
              refine sp_isDigitY (by omega) ?_
              refine e_if_eq (pc := 24) (tgt := 65) dX6_luck_24 (by decide) (fun h24 => absurd h24 (by decide)) (fun h24 => ?_)
              refine e_iload (pc := 27) dX6_luck_27 rfl ?_
              refine e_i2l (pc := 29) dX6_luck_29 ?_
              refine e_lconst' (pc := 30) (lN 0) dX6_luck_30 (by decide) ?_
              refine e_ldc2 (pc := 31) dX6_luck_31 (klX6_201 rfl) ?_
              refine e_callS3 (pc := 34) (M' := mX6_in) dX6_luck_34 jX6_in lkX6_46 (by decide) (Nat.le_of_ble_eq_true rfl) (Nat.le_of_ble_eq_true rfl) ?_
              refine sp_inY (lo := 0) (hi := 8) (by decide) (by decide) (by omega) (by omega) (by omega) ?_
              refine e_if_eq (pc := 37) (tgt := 65) dX6_luck_37 (by decide) (fun h37 => absurd h37 (by decide)) (fun h37 => ?_)
              refine e_iload (pc := 40) dX6_luck_40 rfl ?_
              refine e_i2l (pc := 42) dX6_luck_42 ?_
              refine e_lconst' (pc := 43) (lN 0) dX6_luck_43 (by decide) ?_
              refine e_lconst' (pc := 44) (lN 1) dX6_luck_44 (by decide) ?_
              refine e_callS3 (pc := 45) (M' := mX6_in) dX6_luck_45 jX6_in lkX6_46 (by decide) (Nat.le_of_ble_eq_true rfl) (Nat.le_of_ble_eq_true rfl) ?_
              refine sp_inX (lo := 0) (hi := 1) (by decide) (by decide) hn ?_
              refine e_if_eq (pc := 48) (tgt := 65) dX6_luck_48 (by decide) (fun h48 => ?_) (fun h48 => absurd (by decide) h48)
              refine e_ldc2 (pc := 65) dX6_luck_65 (klX6_207 rfl) ?_
              refine e_lret (pc := 68) (st := []) dX6_luck_68 rfl ?_
              exact k _ Same.rf
        · refine ask_bothL (-1) hI (fun Q k => ?_) (fun S1 h1 Q k => ?_)
          · show E sc mX5_luck 0 [.ref 0, .int (nI v), .int (nI w), .int (nI d), .int x4, .int x5, .null, .null, .null, .null, .null] [] S Q
            refine e_iload_n (pc := 0) (i := 1) dX5_luck_0 rfl rfl ?_
            refine e_iconst' (pc := 1) (nI 0) dX5_luck_1 (by decide) ?_
            refine e_bipush' (pc := 2) (nI 10) dX5_luck_2 (by decide) ?_
            refine e_callS3 (pc := 4) (M' := mX5_within) dX5_luck_4 jX5_within lkX5_70 (by decide) (Nat.le_of_ble_eq_true rfl) (Nat.le_of_ble_eq_true rfl) ?_
            refine sp_winY (by omega) (by omega) (by omega) ?_
            refine e_if_eq (pc := 7) (tgt := 52) dX5_luck_7 (by decide) (fun h7 => absurd h7 (by decide)) (fun h7 => ?_)
            refine e_aload_n (pc := 10) (i := 0) dX5_luck_10 rfl rfl ?_
            refine e_getR (pc := 11) dX5_luck_11 (fX5_10 rfl) sh_0 rfl ?_
            refine e_iload_n (pc := 14) (i := 2) dX5_luck_14 rfl rfl ?_
            refine e_callV1 (pc := 15) (M' := mX0_has) dX5_luck_15 iX0_has lkX5_120 (by decide) (rO_obj sh_1 rfl) (Nat.le_of_ble_eq_true rfl) (Nat.le_of_ble_eq_true rfl) ?_
            refine sp_hasY r1 hv hr hw ?_
            refine e_if_eq (pc := 18) (tgt := 52) dX5_luck_18 (by decide) (fun h18 => absurd h18 (by decide)) (fun h18 => ?_)
            refine e_iload_n (pc := 21) (i := 3) dX5_luck_21 rfl rfl ?_
            refine e_iconst' (pc := 22) (nI 0) dX5_luck_22 (by decide) ?_
            refine e_bipush' (pc := 23) (nI 11) dX5_luck_23 (by decide) ?_
            refine e_callS3 (pc := 25) (M' := mX5_within) dX5_luck_25 jX5_within lkX5_70 (by decide) (Nat.le_of_ble_eq_true rfl) (Nat.le_of_ble_eq_true rfl) ?_
            refine sp_winY (by omega) (by omega) (by omega) ?_
            refine e_if_eq (pc := 28) (tgt := 52) dX5_luck_28 (by decide) (fun h28 => absurd h28 (by decide)) (fun h28 => ?_)
            refine e_iload (pc := 31) dX5_luck_31 rfl ?_
            refine e_iconst' (pc := 33) (nI 0) dX5_luck_33 (by decide) ?_
            refine e_bipush' (pc := 34) (nI 8) dX5_luck_34 (by decide) ?_
            refine e_callS3 (pc := 36) (M' := mX5_within) dX5_luck_36 jX5_within lkX5_70 (by decide) (Nat.le_of_ble_eq_true rfl) (Nat.le_of_ble_eq_true rfl) ?_
            refine sp_winX hn (by omega) (by omega) ?_
            refine e_if_eq (pc := 39) (tgt := 52) dX5_luck_39 (by decide) (fun h39 => ?_) (fun h39 => absurd (by decide) h39)
            refine e_ldc2 (pc := 52) dX5_luck_52 (klX5_185 rfl) ?_
            refine e_lret (pc := 55) (st := []) dX5_luck_55 rfl ?_
            exact k _ Same.rf
          · show E sc mX6_luck 0 [.ref 54, .int (nI v), .int (nI w), .int (nI d), .int x4, .int x5] [] S1 Q
            have hp := h1.pg (by omega) hv hp
            have hr := h1.row (by omega) hr
            refine e_iload_n (pc := 0) (i := 1) dX6_luck_0 rfl rfl ?_
            refine e_i2l (pc := 1) dX6_luck_1 ?_
            refine e_lconst' (pc := 2) (lN 0) dX6_luck_2 (by decide) ?_
            refine e_ldc2 (pc := 3) dX6_luck_3 (klX6_195 rfl) ?_
            refine e_callS3 (pc := 6) (M' := mX6_in) dX6_luck_6 jX6_in lkX6_46 (by decide) (Nat.le_of_ble_eq_true rfl) (Nat.le_of_ble_eq_true rfl) ?_
            refine sp_inY (lo := 0) (hi := 10) (by decide) (by decide) (by omega) (by omega) (by omega) ?_
            refine e_if_eq (pc := 9) (tgt := 65) dX6_luck_9 (by decide) (fun h9 => absurd h9 (by decide)) (fun h9 => ?_)
            refine e_aload_n (pc := 12) (i := 0) dX6_luck_12 rfl rfl ?_
            refine e_iload_n (pc := 13) (i := 2) dX6_luck_13 rfl rfl ?_
            refine e_callV1 (pc := 14) (M' := mX6_isWheel) dX6_luck_14 iX6_isWheel lkX6_144 (by decide) (rO_obj sh_54 rfl) (Nat.le_of_ble_eq_true rfl) (Nat.le_of_ble_eq_true rfl) ?_
            refine sp_isWheelY hv hp hw ?_
            refine e_if_eq (pc := 17) (tgt := 65) dX6_luck_17 (by decide) (fun h17 => absurd h17 (by decide)) (fun h17 => ?_)
            refine e_iload_n (pc := 20) (i := 3) dX6_luck_20 rfl rfl ?_
            refine e_callS1 (pc := 21) (M' := mX6_isDigit) dX6_luck_21 jX6_isDigit lkX6_154 (by decide) (Nat.le_of_ble_eq_true rfl) (Nat.le_of_ble_eq_true rfl) ?_
            refine sp_isDigitY (by omega) ?_
            refine e_if_eq (pc := 24) (tgt := 65) dX6_luck_24 (by decide) (fun h24 => absurd h24 (by decide)) (fun h24 => ?_)
            refine e_iload (pc := 27) dX6_luck_27 rfl ?_
            refine e_i2l (pc := 29) dX6_luck_29 ?_
            refine e_lconst' (pc := 30) (lN 0) dX6_luck_30 (by decide) ?_
            refine e_ldc2 (pc := 31) dX6_luck_31 (klX6_201 rfl) ?_
            refine e_callS3 (pc := 34) (M' := mX6_in) dX6_luck_34 jX6_in lkX6_46 (by decide) (Nat.le_of_ble_eq_true rfl) (Nat.le_of_ble_eq_true rfl) ?_
            refine sp_inX (lo := 0) (hi := 8) (by decide) (by decide) hn ?_
            refine e_if_eq (pc := 37) (tgt := 65) dX6_luck_37 (by decide) (fun h37 => ?_) (fun h37 => absurd (by decide) h37)
            refine e_ldc2 (pc := 65) dX6_luck_65 (klX6_207 rfl) ?_
            refine e_lret (pc := 68) (st := []) dX6_luck_68 rfl ?_
            exact k _ Same.rf
      · refine ask_bothL (-1) hI (fun Q k => ?_) (fun S1 h1 Q k => ?_)
        · show E sc mX5_luck 0 [.ref 0, .int (nI v), .int (nI w), .int x3, .int x4, .int x5, .null, .null, .null, .null, .null] [] S Q
          refine e_iload_n (pc := 0) (i := 1) dX5_luck_0 rfl rfl ?_
          refine e_iconst' (pc := 1) (nI 0) dX5_luck_1 (by decide) ?_
          refine e_bipush' (pc := 2) (nI 10) dX5_luck_2 (by decide) ?_
          refine e_callS3 (pc := 4) (M' := mX5_within) dX5_luck_4 jX5_within lkX5_70 (by decide) (Nat.le_of_ble_eq_true rfl) (Nat.le_of_ble_eq_true rfl) ?_
          refine sp_winY (by omega) (by omega) (by omega) ?_
          refine e_if_eq (pc := 7) (tgt := 52) dX5_luck_7 (by decide) (fun h7 => absurd h7 (by decide)) (fun h7 => ?_)
          refine e_aload_n (pc := 10) (i := 0) dX5_luck_10 rfl rfl ?_
          refine e_getR (pc := 11) dX5_luck_11 (fX5_10 rfl) sh_0 rfl ?_
          refine e_iload_n (pc := 14) (i := 2) dX5_luck_14 rfl rfl ?_
          refine e_callV1 (pc := 15) (M' := mX0_has) dX5_luck_15 iX0_has lkX5_120 (by decide) (rO_obj sh_1 rfl) (Nat.le_of_ble_eq_true rfl) (Nat.le_of_ble_eq_true rfl) ?_
          refine sp_hasY r1 hv hr hw ?_
          refine e_if_eq (pc := 18) (tgt := 52) dX5_luck_18 (by decide) (fun h18 => absurd h18 (by decide)) (fun h18 => ?_)
          refine e_iload_n (pc := 21) (i := 3) dX5_luck_21 rfl rfl ?_
          refine e_iconst' (pc := 22) (nI 0) dX5_luck_22 (by decide) ?_
          refine e_bipush' (pc := 23) (nI 11) dX5_luck_23 (by decide) ?_
          refine e_callS3 (pc := 25) (M' := mX5_within) dX5_luck_25 jX5_within lkX5_70 (by decide) (Nat.le_of_ble_eq_true rfl) (Nat.le_of_ble_eq_true rfl) ?_
          refine sp_winX hn (by omega) (by omega) ?_
          refine e_if_eq (pc := 28) (tgt := 52) dX5_luck_28 (by decide) (fun h28 => ?_) (fun h28 => absurd (by decide) h28)
          refine e_ldc2 (pc := 52) dX5_luck_52 (klX5_185 rfl) ?_
          refine e_lret (pc := 55) (st := []) dX5_luck_55 rfl ?_
          exact k _ Same.rf
        · show E sc mX6_luck 0 [.ref 54, .int (nI v), .int (nI w), .int x3, .int x4, .int x5] [] S1 Q
          have hp := h1.pg (by omega) hv hp
          have hr := h1.row (by omega) hr
          refine e_iload_n (pc := 0) (i := 1) dX6_luck_0 rfl rfl ?_
          refine e_i2l (pc := 1) dX6_luck_1 ?_
          refine e_lconst' (pc := 2) (lN 0) dX6_luck_2 (by decide) ?_
          refine e_ldc2 (pc := 3) dX6_luck_3 (klX6_195 rfl) ?_
          refine e_callS3 (pc := 6) (M' := mX6_in) dX6_luck_6 jX6_in lkX6_46 (by decide) (Nat.le_of_ble_eq_true rfl) (Nat.le_of_ble_eq_true rfl) ?_
          refine sp_inY (lo := 0) (hi := 10) (by decide) (by decide) (by omega) (by omega) (by omega) ?_
          refine e_if_eq (pc := 9) (tgt := 65) dX6_luck_9 (by decide) (fun h9 => absurd h9 (by decide)) (fun h9 => ?_)
          refine e_aload_n (pc := 12) (i := 0) dX6_luck_12 rfl rfl ?_
          refine e_iload_n (pc := 13) (i := 2) dX6_luck_13 rfl rfl ?_
          refine e_callV1 (pc := 14) (M' := mX6_isWheel) dX6_luck_14 iX6_isWheel lkX6_144 (by decide) (rO_obj sh_54 rfl) (Nat.le_of_ble_eq_true rfl) (Nat.le_of_ble_eq_true rfl) ?_
          refine sp_isWheelY hv hp hw ?_
          refine e_if_eq (pc := 17) (tgt := 65) dX6_luck_17 (by decide) (fun h17 => absurd h17 (by decide)) (fun h17 => ?_)
          refine e_iload_n (pc := 20) (i := 3) dX6_luck_20 rfl rfl ?_
          refine e_callS1 (pc := 21) (M' := mX6_isDigit) dX6_luck_21 jX6_isDigit lkX6_154 (by decide) (Nat.le_of_ble_eq_true rfl) (Nat.le_of_ble_eq_true rfl) ?_
          refine sp_isDigitX hn ?_
          refine e_if_eq (pc := 24) (tgt := 65) dX6_luck_24 (by decide) (fun h24 => ?_) (fun h24 => absurd (by decide) h24)
          refine e_ldc2 (pc := 65) dX6_luck_65 (klX6_207 rfl) ?_
          refine e_lret (pc := 68) (st := []) dX6_luck_68 rfl ?_
          exact k _ Same.rf
    · refine ask_bothL (-1) hI (fun Q k => ?_) (fun S1 h1 Q k => ?_)
      · show E sc mX5_luck 0 [.ref 0, .int (nI v), .int x2, .int x3, .int x4, .int x5, .null, .null, .null, .null, .null] [] S Q
        refine e_iload_n (pc := 0) (i := 1) dX5_luck_0 rfl rfl ?_
        refine e_iconst' (pc := 1) (nI 0) dX5_luck_1 (by decide) ?_
        refine e_bipush' (pc := 2) (nI 10) dX5_luck_2 (by decide) ?_
        refine e_callS3 (pc := 4) (M' := mX5_within) dX5_luck_4 jX5_within lkX5_70 (by decide) (Nat.le_of_ble_eq_true rfl) (Nat.le_of_ble_eq_true rfl) ?_
        refine sp_winY (by omega) (by omega) (by omega) ?_
        refine e_if_eq (pc := 7) (tgt := 52) dX5_luck_7 (by decide) (fun h7 => absurd h7 (by decide)) (fun h7 => ?_)
        refine e_aload_n (pc := 10) (i := 0) dX5_luck_10 rfl rfl ?_
        refine e_getR (pc := 11) dX5_luck_11 (fX5_10 rfl) sh_0 rfl ?_
        refine e_iload_n (pc := 14) (i := 2) dX5_luck_14 rfl rfl ?_
        refine e_callV1 (pc := 15) (M' := mX0_has) dX5_luck_15 iX0_has lkX5_120 (by decide) (rO_obj sh_1 rfl) (Nat.le_of_ble_eq_true rfl) (Nat.le_of_ble_eq_true rfl) ?_
        refine sp_hasX r1 hv hr hn ?_
        refine e_if_eq (pc := 18) (tgt := 52) dX5_luck_18 (by decide) (fun h18 => ?_) (fun h18 => absurd (by decide) h18)
        refine e_ldc2 (pc := 52) dX5_luck_52 (klX5_185 rfl) ?_
        refine e_lret (pc := 55) (st := []) dX5_luck_55 rfl ?_
        exact k _ Same.rf
      · show E sc mX6_luck 0 [.ref 54, .int (nI v), .int x2, .int x3, .int x4, .int x5] [] S1 Q
        have hp := h1.pg (by omega) hv hp
        have hr := h1.row (by omega) hr
        refine e_iload_n (pc := 0) (i := 1) dX6_luck_0 rfl rfl ?_
        refine e_i2l (pc := 1) dX6_luck_1 ?_
        refine e_lconst' (pc := 2) (lN 0) dX6_luck_2 (by decide) ?_
        refine e_ldc2 (pc := 3) dX6_luck_3 (klX6_195 rfl) ?_
        refine e_callS3 (pc := 6) (M' := mX6_in) dX6_luck_6 jX6_in lkX6_46 (by decide) (Nat.le_of_ble_eq_true rfl) (Nat.le_of_ble_eq_true rfl) ?_
        refine sp_inY (lo := 0) (hi := 10) (by decide) (by decide) (by omega) (by omega) (by omega) ?_
        refine e_if_eq (pc := 9) (tgt := 65) dX6_luck_9 (by decide) (fun h9 => absurd h9 (by decide)) (fun h9 => ?_)
        refine e_aload_n (pc := 12) (i := 0) dX6_luck_12 rfl rfl ?_
        refine e_iload_n (pc := 13) (i := 2) dX6_luck_13 rfl rfl ?_
        refine e_callV1 (pc := 14) (M' := mX6_isWheel) dX6_luck_14 iX6_isWheel lkX6_144 (by decide) (rO_obj sh_54 rfl) (Nat.le_of_ble_eq_true rfl) (Nat.le_of_ble_eq_true rfl) ?_
        refine sp_isWheelX hv hp hn ?_
        refine e_if_eq (pc := 17) (tgt := 65) dX6_luck_17 (by decide) (fun h17 => ?_) (fun h17 => absurd (by decide) h17)
        refine e_ldc2 (pc := 65) dX6_luck_65 (klX6_207 rfl) ?_
        refine e_lret (pc := 68) (st := []) dX6_luck_68 rfl ?_
        exact k _ Same.rf
  · refine ask_bothL (-1) hI (fun Q k => ?_) (fun S1 h1 Q k => ?_)
    · show E sc mX5_luck 0 [.ref 0, .int x1, .int x2, .int x3, .int x4, .int x5, .null, .null, .null, .null, .null] [] S Q
      refine e_iload_n (pc := 0) (i := 1) dX5_luck_0 rfl rfl ?_
      refine e_iconst' (pc := 1) (nI 0) dX5_luck_1 (by decide) ?_
      refine e_bipush' (pc := 2) (nI 10) dX5_luck_2 (by decide) ?_
      refine e_callS3 (pc := 4) (M' := mX5_within) dX5_luck_4 jX5_within lkX5_70 (by decide) (Nat.le_of_ble_eq_true rfl) (Nat.le_of_ble_eq_true rfl) ?_
      refine sp_winX hn (by omega) (by omega) ?_
      refine e_if_eq (pc := 7) (tgt := 52) dX5_luck_7 (by decide) (fun h7 => ?_) (fun h7 => absurd (by decide) h7)
      refine e_ldc2 (pc := 52) dX5_luck_52 (klX5_185 rfl) ?_
      refine e_lret (pc := 55) (st := []) dX5_luck_55 rfl ?_
      exact k _ Same.rf
    · show E sc mX6_luck 0 [.ref 54, .int x1, .int x2, .int x3, .int x4, .int x5] [] S1 Q
      have hp := h1.pg (by omega) hv hp
      have hr := h1.row (by omega) hr
      refine e_iload_n (pc := 0) (i := 1) dX6_luck_0 rfl rfl ?_
      refine e_i2l (pc := 1) dX6_luck_1 ?_
      refine e_lconst' (pc := 2) (lN 0) dX6_luck_2 (by decide) ?_
      refine e_ldc2 (pc := 3) dX6_luck_3 (klX6_195 rfl) ?_
      refine e_callS3 (pc := 6) (M' := mX6_in) dX6_luck_6 jX6_in lkX6_46 (by decide) (Nat.le_of_ble_eq_true rfl) (Nat.le_of_ble_eq_true rfl) ?_
      refine sp_inX (lo := 0) (hi := 10) (by decide) (by decide) hn ?_
      refine e_if_eq (pc := 9) (tgt := 65) dX6_luck_9 (by decide) (fun h9 => ?_) (fun h9 => absurd (by decide) h9)
      refine e_ldc2 (pc := 65) dX6_luck_65 (klX6_207 rfl) ?_
      refine e_lret (pc := 68) (st := []) dX6_luck_68 rfl ?_
      exact k _ Same.rf
theorem b_mean {sc : PSc} {S : PS} (hI : InvS S) (x1 x4 x5 : Int32) : BthL sc mX5_mean mX6_mean [.int x1, .int x4, .int x5] S := by
  obtain ⟨R, hv, hc, hr, hp⟩ := hI.1
  have hv5 := hv.1
  rcases Classical.em (inr x1 0 10) with ⟨v, rfl, -, hv10⟩ | hn
  · rcases Classical.em (inr x4 0 8) with ⟨m, rfl, -, hm⟩ | hn
    · rcases Classical.em (inr x5 0 1) with ⟨e, rfl, -, he⟩ | hn
      · have h5 := hv.1
        rcases (show e = 0 ∨ e = 1 by omega) with rfl | rfl
        · refine ask_bothL (lN ((Tw v m (hR R)) / Nat.gcd (10 ^ m) (Tw v m (hR R)))) hI (fun Q k => ?_) (fun S1 h1 Q k => ?_)
          · show E sc mX5_mean 0 [.ref 0, .int (nI v), .int (nI m), .int (nI 0), .null, .null, .null, .null, .null] [] S Q
            refine e_iload_n (pc := 0) (i := 1) dX5_mean_0 rfl rfl ?_
            refine e_iconst' (pc := 1) (nI 0) dX5_mean_1 (by decide) ?_
            refine e_bipush' (pc := 2) (nI 10) dX5_mean_2 (by decide) ?_
            refine e_callS3 (pc := 4) (M' := mX5_within) dX5_mean_4 jX5_within lkX5_70 (by decide) (Nat.le_of_ble_eq_true rfl) (Nat.le_of_ble_eq_true rfl) ?_
            refine sp_winY (by omega) (by omega) (by omega) ?_
            refine e_if_eq (pc := 7) (tgt := 29) dX5_mean_7 (by decide) (fun h7 => absurd h7 (by decide)) (fun h7 => ?_)
            refine e_iload_n (pc := 10) (i := 2) dX5_mean_10 rfl rfl ?_
            refine e_iconst' (pc := 11) (nI 0) dX5_mean_11 (by decide) ?_
            refine e_bipush' (pc := 12) (nI 8) dX5_mean_12 (by decide) ?_
            refine e_callS3 (pc := 14) (M' := mX5_within) dX5_mean_14 jX5_within lkX5_70 (by decide) (Nat.le_of_ble_eq_true rfl) (Nat.le_of_ble_eq_true rfl) ?_
            refine sp_winY (by omega) (by omega) (by omega) ?_
            refine e_if_eq (pc := 17) (tgt := 29) dX5_mean_17 (by decide) (fun h17 => absurd h17 (by decide)) (fun h17 => ?_)
            refine e_iload_n (pc := 20) (i := 3) dX5_mean_20 rfl rfl ?_
            refine e_iconst' (pc := 21) (nI 0) dX5_mean_21 (by decide) ?_
            refine e_iconst' (pc := 22) (nI 1) dX5_mean_22 (by decide) ?_
            refine e_callS3 (pc := 23) (M' := mX5_within) dX5_mean_23 jX5_within lkX5_70 (by decide) (Nat.le_of_ble_eq_true rfl) (Nat.le_of_ble_eq_true rfl) ?_
            refine sp_winY (by omega) (by omega) (by omega) ?_
            refine e_if_ne (pc := 26) (tgt := 33) dX5_mean_26 (by decide) (fun h26 => ?_) (fun h26 => absurd h26 (by decide))
            refine e_aload_n (pc := 33) (i := 0) dX5_mean_33 rfl rfl ?_
            refine e_iload_n (pc := 34) (i := 1) dX5_mean_34 rfl rfl ?_
            refine e_iload_n (pc := 35) (i := 2) dX5_mean_35 rfl rfl ?_
            refine e_callV2 (pc := 36) (M' := mX5_countWays) dX5_mean_36 iX5_countWays lkX5_187 (by decide) (rO_obj sh_0 rfl) (Nat.le_of_ble_eq_true rfl) (Nat.le_of_ble_eq_true rfl) ?_
            refine sp_ways hv10 hm (fun S2 e2 w2 => ?_)
            have f2 : Same S S2 := ⟨fun j _ => by rw [e2], fun k _ => by rw [e2], fun k _ => by rw [e2], fun j _ => by rw [e2]⟩
            refine e_lstore (pc := 39) dX5_mean_39 (by decide) rfl ?_
            refine e_lconst' (pc := 41) (lN 0) dX5_mean_41 (by decide) ?_
            refine e_lstore (pc := 42) dX5_mean_42 (by decide) rfl ?_
            refine e_aload_n (pc := 44) (i := 0) dX5_mean_44 rfl rfl ?_
            refine e_getR (pc := 45) dX5_mean_45 (fX5_16 rfl) sh_0 rfl ?_
            refine e_aload_n (pc := 48) (i := 0) dX5_mean_48 rfl rfl ?_
            refine e_getR (pc := 49) dX5_mean_49 (fX5_10 rfl) sh_0 rfl ?_
            refine e_callV1 (pc := 52) (M' := mX0_copyOf) dX5_mean_52 iX0_copyOf lkX5_90 (by decide) (rO_obj sh_6 rfl) (Nat.le_of_ble_eq_true rfl) (Nat.le_of_ble_eq_true rfl) ?_
            refine sp_copyOf r6 r1 (by omega) hv (f2.row (by omega) hr) (fun S3 a b c => ?_)
            refine e_iconst' (pc := 55) (nI 0) dX5_mean_55 (by decide) ?_
            refine e_istore (pc := 56) dX5_mean_56 (by decide) rfl ?_
            exact lp_mean0 (S0 := S3) hv hv10 hm (fun i hi => by rw [c.1]; exact w2 i hi) (fun S4 f4 => k S4 ((f2.tr c.same).tr f4.same)) (m + 2) 0 S3 (by omega) (by omega) a Fr.rf
          · show E sc mX6_mean 0 [.ref 54, .int (nI v), .int (nI m), .int (nI 0)] [] S1 Q
            have hp := h1.pg (by omega) hv hp
            refine e_iload_n (pc := 0) (i := 1) dX6_mean_0 rfl rfl ?_
            refine e_i2l (pc := 1) dX6_mean_1 ?_
            refine e_lconst' (pc := 2) (lN 0) dX6_mean_2 (by decide) ?_
            refine e_ldc2 (pc := 3) dX6_mean_3 (klX6_195 rfl) ?_
            refine e_callS3 (pc := 6) (M' := mX6_in) dX6_mean_6 jX6_in lkX6_46 (by decide) (Nat.le_of_ble_eq_true rfl) (Nat.le_of_ble_eq_true rfl) ?_
            refine sp_inY (lo := 0) (hi := 10) (by decide) (by decide) (by omega) (by omega) (by omega) ?_
            refine e_if_eq (pc := 9) (tgt := 47) dX6_mean_9 (by decide) (fun h9 => absurd h9 (by decide)) (fun h9 => ?_)
            refine e_iload_n (pc := 12) (i := 2) dX6_mean_12 rfl rfl ?_
            refine e_i2l (pc := 13) dX6_mean_13 ?_
            refine e_lconst' (pc := 14) (lN 0) dX6_mean_14 (by decide) ?_
            refine e_ldc2 (pc := 15) dX6_mean_15 (klX6_201 rfl) ?_
            refine e_callS3 (pc := 18) (M' := mX6_in) dX6_mean_18 jX6_in lkX6_46 (by decide) (Nat.le_of_ble_eq_true rfl) (Nat.le_of_ble_eq_true rfl) ?_
            refine sp_inY (lo := 0) (hi := 8) (by decide) (by decide) (by omega) (by omega) (by omega) ?_
            refine e_if_eq (pc := 21) (tgt := 47) dX6_mean_21 (by decide) (fun h21 => absurd h21 (by decide)) (fun h21 => ?_)
            refine e_iload_n (pc := 24) (i := 3) dX6_mean_24 rfl rfl ?_
            refine e_i2l (pc := 25) dX6_mean_25 ?_
            refine e_lconst' (pc := 26) (lN 0) dX6_mean_26 (by decide) ?_
            refine e_lconst' (pc := 27) (lN 1) dX6_mean_27 (by decide) ?_
            refine e_callS3 (pc := 28) (M' := mX6_in) dX6_mean_28 jX6_in lkX6_46 (by decide) (Nat.le_of_ble_eq_true rfl) (Nat.le_of_ble_eq_true rfl) ?_
            refine sp_inY (lo := 0) (hi := 1) (by decide) (by decide) (by omega) (by omega) (by omega) ?_
            refine e_if_eq (pc := 31) (tgt := 47) dX6_mean_31 (by decide) (fun h31 => absurd h31 (by decide)) (fun h31 => ?_)
            refine e_aload_n (pc := 34) (i := 0) dX6_mean_34 rfl rfl ?_
            refine e_iload_n (pc := 35) (i := 1) dX6_mean_35 rfl rfl ?_
            refine e_bipush' (pc := 36) (-4) dX6_mean_36 (by decide) ?_
            refine e_iconst' (pc := 38) (nI 0) dX6_mean_38 (by decide) ?_
            refine e_iload_n (pc := 39) (i := 2) dX6_mean_39 rfl rfl ?_
            refine e_iload_n (pc := 40) (i := 3) dX6_mean_40 rfl rfl ?_
            refine e_callV5 (pc := 41) (M' := mX6_byMisses) dX6_mean_41 iX6_byMisses lkX6_203 (by decide) (rO_obj sh_54 rfl) (Nat.le_of_ble_eq_true rfl) (Nat.le_of_ble_eq_true rfl) ?_
            refine sp_meanM0 hv hp hv10 hm (fun S2 h2 => ?_)
            rw [Um_Tw]
            refine e_goto (pc := 44) (tgt := 50) dX6_mean_44 (by decide) ?_
            refine e_lret (pc := 50) (st := []) dX6_mean_50 rfl ?_
            exact k S2 h2
        · refine ask_bothL (lN ((10 ^ m) / Nat.gcd (10 ^ m) (Tw v m (hR R)))) hI (fun Q k => ?_) (fun S1 h1 Q k => ?_)
          · show E sc mX5_mean 0 [.ref 0, .int (nI v), .int (nI m), .int (nI 1), .null, .null, .null, .null, .null] [] S Q
            refine e_iload_n (pc := 0) (i := 1) dX5_mean_0 rfl rfl ?_
            refine e_iconst' (pc := 1) (nI 0) dX5_mean_1 (by decide) ?_
            refine e_bipush' (pc := 2) (nI 10) dX5_mean_2 (by decide) ?_
            refine e_callS3 (pc := 4) (M' := mX5_within) dX5_mean_4 jX5_within lkX5_70 (by decide) (Nat.le_of_ble_eq_true rfl) (Nat.le_of_ble_eq_true rfl) ?_
            refine sp_winY (by omega) (by omega) (by omega) ?_
            refine e_if_eq (pc := 7) (tgt := 29) dX5_mean_7 (by decide) (fun h7 => absurd h7 (by decide)) (fun h7 => ?_)
            refine e_iload_n (pc := 10) (i := 2) dX5_mean_10 rfl rfl ?_
            refine e_iconst' (pc := 11) (nI 0) dX5_mean_11 (by decide) ?_
            refine e_bipush' (pc := 12) (nI 8) dX5_mean_12 (by decide) ?_
            refine e_callS3 (pc := 14) (M' := mX5_within) dX5_mean_14 jX5_within lkX5_70 (by decide) (Nat.le_of_ble_eq_true rfl) (Nat.le_of_ble_eq_true rfl) ?_
            refine sp_winY (by omega) (by omega) (by omega) ?_
            refine e_if_eq (pc := 17) (tgt := 29) dX5_mean_17 (by decide) (fun h17 => absurd h17 (by decide)) (fun h17 => ?_)
            refine e_iload_n (pc := 20) (i := 3) dX5_mean_20 rfl rfl ?_
            refine e_iconst' (pc := 21) (nI 0) dX5_mean_21 (by decide) ?_
            refine e_iconst' (pc := 22) (nI 1) dX5_mean_22 (by decide) ?_
            refine e_callS3 (pc := 23) (M' := mX5_within) dX5_mean_23 jX5_within lkX5_70 (by decide) (Nat.le_of_ble_eq_true rfl) (Nat.le_of_ble_eq_true rfl) ?_
            refine sp_winY (by omega) (by omega) (by omega) ?_
            refine e_if_ne (pc := 26) (tgt := 33) dX5_mean_26 (by decide) (fun h26 => ?_) (fun h26 => absurd h26 (by decide))
            refine e_aload_n (pc := 33) (i := 0) dX5_mean_33 rfl rfl ?_
            refine e_iload_n (pc := 34) (i := 1) dX5_mean_34 rfl rfl ?_
            refine e_iload_n (pc := 35) (i := 2) dX5_mean_35 rfl rfl ?_
            refine e_callV2 (pc := 36) (M' := mX5_countWays) dX5_mean_36 iX5_countWays lkX5_187 (by decide) (rO_obj sh_0 rfl) (Nat.le_of_ble_eq_true rfl) (Nat.le_of_ble_eq_true rfl) ?_
            refine sp_ways hv10 hm (fun S2 e2 w2 => ?_)
            have f2 : Same S S2 := ⟨fun j _ => by rw [e2], fun k _ => by rw [e2], fun k _ => by rw [e2], fun j _ => by rw [e2]⟩
            refine e_lstore (pc := 39) dX5_mean_39 (by decide) rfl ?_
            refine e_lconst' (pc := 41) (lN 0) dX5_mean_41 (by decide) ?_
            refine e_lstore (pc := 42) dX5_mean_42 (by decide) rfl ?_
            refine e_aload_n (pc := 44) (i := 0) dX5_mean_44 rfl rfl ?_
            refine e_getR (pc := 45) dX5_mean_45 (fX5_16 rfl) sh_0 rfl ?_
            refine e_aload_n (pc := 48) (i := 0) dX5_mean_48 rfl rfl ?_
            refine e_getR (pc := 49) dX5_mean_49 (fX5_10 rfl) sh_0 rfl ?_
            refine e_callV1 (pc := 52) (M' := mX0_copyOf) dX5_mean_52 iX0_copyOf lkX5_90 (by decide) (rO_obj sh_6 rfl) (Nat.le_of_ble_eq_true rfl) (Nat.le_of_ble_eq_true rfl) ?_
            refine sp_copyOf r6 r1 (by omega) hv (f2.row (by omega) hr) (fun S3 a b c => ?_)
            refine e_iconst' (pc := 55) (nI 0) dX5_mean_55 (by decide) ?_
            refine e_istore (pc := 56) dX5_mean_56 (by decide) rfl ?_
            exact lp_mean1 (S0 := S3) hv hv10 hm (fun i hi => by rw [c.1]; exact w2 i hi) (fun S4 f4 => k S4 ((f2.tr c.same).tr f4.same)) (m + 2) 0 S3 (by omega) (by omega) a Fr.rf
          · show E sc mX6_mean 0 [.ref 54, .int (nI v), .int (nI m), .int (nI 1)] [] S1 Q
            have hp := h1.pg (by omega) hv hp
            refine e_iload_n (pc := 0) (i := 1) dX6_mean_0 rfl rfl ?_
            refine e_i2l (pc := 1) dX6_mean_1 ?_
            refine e_lconst' (pc := 2) (lN 0) dX6_mean_2 (by decide) ?_
            refine e_ldc2 (pc := 3) dX6_mean_3 (klX6_195 rfl) ?_
            refine e_callS3 (pc := 6) (M' := mX6_in) dX6_mean_6 jX6_in lkX6_46 (by decide) (Nat.le_of_ble_eq_true rfl) (Nat.le_of_ble_eq_true rfl) ?_
            refine sp_inY (lo := 0) (hi := 10) (by decide) (by decide) (by omega) (by omega) (by omega) ?_
            refine e_if_eq (pc := 9) (tgt := 47) dX6_mean_9 (by decide) (fun h9 => absurd h9 (by decide)) (fun h9 => ?_)
            refine e_iload_n (pc := 12) (i := 2) dX6_mean_12 rfl rfl ?_
            refine e_i2l (pc := 13) dX6_mean_13 ?_
            refine e_lconst' (pc := 14) (lN 0) dX6_mean_14 (by decide) ?_
            refine e_ldc2 (pc := 15) dX6_mean_15 (klX6_201 rfl) ?_
            refine e_callS3 (pc := 18) (M' := mX6_in) dX6_mean_18 jX6_in lkX6_46 (by decide) (Nat.le_of_ble_eq_true rfl) (Nat.le_of_ble_eq_true rfl) ?_
            refine sp_inY (lo := 0) (hi := 8) (by decide) (by decide) (by omega) (by omega) (by omega) ?_
            refine e_if_eq (pc := 21) (tgt := 47) dX6_mean_21 (by decide) (fun h21 => absurd h21 (by decide)) (fun h21 => ?_)
            refine e_iload_n (pc := 24) (i := 3) dX6_mean_24 rfl rfl ?_
            refine e_i2l (pc := 25) dX6_mean_25 ?_
            refine e_lconst' (pc := 26) (lN 0) dX6_mean_26 (by decide) ?_
            refine e_lconst' (pc := 27) (lN 1) dX6_mean_27 (by decide) ?_
            refine e_callS3 (pc := 28) (M' := mX6_in) dX6_mean_28 jX6_in lkX6_46 (by decide) (Nat.le_of_ble_eq_true rfl) (Nat.le_of_ble_eq_true rfl) ?_
            refine sp_inY (lo := 0) (hi := 1) (by decide) (by decide) (by omega) (by omega) (by omega) ?_
            refine e_if_eq (pc := 31) (tgt := 47) dX6_mean_31 (by decide) (fun h31 => absurd h31 (by decide)) (fun h31 => ?_)
            refine e_aload_n (pc := 34) (i := 0) dX6_mean_34 rfl rfl ?_
            refine e_iload_n (pc := 35) (i := 1) dX6_mean_35 rfl rfl ?_
            refine e_bipush' (pc := 36) (-4) dX6_mean_36 (by decide) ?_
            refine e_iconst' (pc := 38) (nI 0) dX6_mean_38 (by decide) ?_
            refine e_iload_n (pc := 39) (i := 2) dX6_mean_39 rfl rfl ?_
            refine e_iload_n (pc := 40) (i := 3) dX6_mean_40 rfl rfl ?_
            refine e_callV5 (pc := 41) (M' := mX6_byMisses) dX6_mean_41 iX6_byMisses lkX6_203 (by decide) (rO_obj sh_54 rfl) (Nat.le_of_ble_eq_true rfl) (Nat.le_of_ble_eq_true rfl) ?_
            refine sp_meanM1 hv hp hv10 hm (fun S2 h2 => ?_)
            rw [Um_Tw]
            refine e_goto (pc := 44) (tgt := 50) dX6_mean_44 (by decide) ?_
            refine e_lret (pc := 50) (st := []) dX6_mean_50 rfl ?_
            exact k S2 h2
      · refine ask_bothL (-1) hI (fun Q k => ?_) (fun S1 h1 Q k => ?_)
        · show E sc mX5_mean 0 [.ref 0, .int (nI v), .int (nI m), .int x5, .null, .null, .null, .null, .null] [] S Q
          refine e_iload_n (pc := 0) (i := 1) dX5_mean_0 rfl rfl ?_
          refine e_iconst' (pc := 1) (nI 0) dX5_mean_1 (by decide) ?_
          refine e_bipush' (pc := 2) (nI 10) dX5_mean_2 (by decide) ?_
          refine e_callS3 (pc := 4) (M' := mX5_within) dX5_mean_4 jX5_within lkX5_70 (by decide) (Nat.le_of_ble_eq_true rfl) (Nat.le_of_ble_eq_true rfl) ?_
          refine sp_winY (by omega) (by omega) (by omega) ?_
          refine e_if_eq (pc := 7) (tgt := 29) dX5_mean_7 (by decide) (fun h7 => absurd h7 (by decide)) (fun h7 => ?_)
          refine e_iload_n (pc := 10) (i := 2) dX5_mean_10 rfl rfl ?_
          refine e_iconst' (pc := 11) (nI 0) dX5_mean_11 (by decide) ?_
          refine e_bipush' (pc := 12) (nI 8) dX5_mean_12 (by decide) ?_
          refine e_callS3 (pc := 14) (M' := mX5_within) dX5_mean_14 jX5_within lkX5_70 (by decide) (Nat.le_of_ble_eq_true rfl) (Nat.le_of_ble_eq_true rfl) ?_
          refine sp_winY (by omega) (by omega) (by omega) ?_
          refine e_if_eq (pc := 17) (tgt := 29) dX5_mean_17 (by decide) (fun h17 => absurd h17 (by decide)) (fun h17 => ?_)
          refine e_iload_n (pc := 20) (i := 3) dX5_mean_20 rfl rfl ?_
          refine e_iconst' (pc := 21) (nI 0) dX5_mean_21 (by decide) ?_
          refine e_iconst' (pc := 22) (nI 1) dX5_mean_22 (by decide) ?_
          refine e_callS3 (pc := 23) (M' := mX5_within) dX5_mean_23 jX5_within lkX5_70 (by decide) (Nat.le_of_ble_eq_true rfl) (Nat.le_of_ble_eq_true rfl) ?_
          refine sp_winX hn (by omega) (by omega) ?_
          refine e_if_ne (pc := 26) (tgt := 33) dX5_mean_26 (by decide) (fun h26 => absurd (by decide) h26) (fun h26 => ?_)
          refine e_ldc2 (pc := 29) dX5_mean_29 (klX5_185 rfl) ?_
          refine e_lret (pc := 32) (st := []) dX5_mean_32 rfl ?_
          exact k _ Same.rf
        · show E sc mX6_mean 0 [.ref 54, .int (nI v), .int (nI m), .int x5] [] S1 Q
          have hp := h1.pg (by omega) hv hp
          have hr := h1.row (by omega) hr
          refine e_iload_n (pc := 0) (i := 1) dX6_mean_0 rfl rfl ?_
          refine e_i2l (pc := 1) dX6_mean_1 ?_
          refine e_lconst' (pc := 2) (lN 0) dX6_mean_2 (by decide) ?_
          refine e_ldc2 (pc := 3) dX6_mean_3 (klX6_195 rfl) ?_
          refine e_callS3 (pc := 6) (M' := mX6_in) dX6_mean_6 jX6_in lkX6_46 (by decide) (Nat.le_of_ble_eq_true rfl) (Nat.le_of_ble_eq_true rfl) ?_
          refine sp_inY (lo := 0) (hi := 10) (by decide) (by decide) (by omega) (by omega) (by omega) ?_
          refine e_if_eq (pc := 9) (tgt := 47) dX6_mean_9 (by decide) (fun h9 => absurd h9 (by decide)) (fun h9 => ?_)
          refine e_iload_n (pc := 12) (i := 2) dX6_mean_12 rfl rfl ?_
          refine e_i2l (pc := 13) dX6_mean_13 ?_
          refine e_lconst' (pc := 14) (lN 0) dX6_mean_14 (by decide) ?_
          refine e_ldc2 (pc := 15) dX6_mean_15 (klX6_201 rfl) ?_
          refine e_callS3 (pc := 18) (M' := mX6_in) dX6_mean_18 jX6_in lkX6_46 (by decide) (Nat.le_of_ble_eq_true rfl) (Nat.le_of_ble_eq_true rfl) ?_
          refine sp_inY (lo := 0) (hi := 8) (by decide) (by decide) (by omega) (by omega) (by omega) ?_
          refine e_if_eq (pc := 21) (tgt := 47) dX6_mean_21 (by decide) (fun h21 => absurd h21 (by decide)) (fun h21 => ?_)
          refine e_iload_n (pc := 24) (i := 3) dX6_mean_24 rfl rfl ?_
          refine e_i2l (pc := 25) dX6_mean_25 ?_
          refine e_lconst' (pc := 26) (lN 0) dX6_mean_26 (by decide) ?_
          refine e_lconst' (pc := 27) (lN 1) dX6_mean_27 (by decide) ?_
          refine e_callS3 (pc := 28) (M' := mX6_in) dX6_mean_28 jX6_in lkX6_46 (by decide) (Nat.le_of_ble_eq_true rfl) (Nat.le_of_ble_eq_true rfl) ?_
          refine sp_inX (lo := 0) (hi := 1) (by decide) (by decide) hn ?_
          refine e_if_eq (pc := 31) (tgt := 47) dX6_mean_31 (by decide) (fun h31 => ?_) (fun h31 => absurd (by decide) h31)
          refine e_ldc2 (pc := 47) dX6_mean_47 (klX6_207 rfl) ?_
          refine e_lret (pc := 50) (st := []) dX6_mean_50 rfl ?_
          exact k _ Same.rf
    · refine ask_bothL (-1) hI (fun Q k => ?_) (fun S1 h1 Q k => ?_)
      · show E sc mX5_mean 0 [.ref 0, .int (nI v), .int x4, .int x5, .null, .null, .null, .null, .null] [] S Q
        refine e_iload_n (pc := 0) (i := 1) dX5_mean_0 rfl rfl ?_
        refine e_iconst' (pc := 1) (nI 0) dX5_mean_1 (by decide) ?_
        refine e_bipush' (pc := 2) (nI 10) dX5_mean_2 (by decide) ?_
        refine e_callS3 (pc := 4) (M' := mX5_within) dX5_mean_4 jX5_within lkX5_70 (by decide) (Nat.le_of_ble_eq_true rfl) (Nat.le_of_ble_eq_true rfl) ?_
        refine sp_winY (by omega) (by omega) (by omega) ?_
        refine e_if_eq (pc := 7) (tgt := 29) dX5_mean_7 (by decide) (fun h7 => absurd h7 (by decide)) (fun h7 => ?_)
        refine e_iload_n (pc := 10) (i := 2) dX5_mean_10 rfl rfl ?_
        refine e_iconst' (pc := 11) (nI 0) dX5_mean_11 (by decide) ?_
        refine e_bipush' (pc := 12) (nI 8) dX5_mean_12 (by decide) ?_
        refine e_callS3 (pc := 14) (M' := mX5_within) dX5_mean_14 jX5_within lkX5_70 (by decide) (Nat.le_of_ble_eq_true rfl) (Nat.le_of_ble_eq_true rfl) ?_
        refine sp_winX hn (by omega) (by omega) ?_
        refine e_if_eq (pc := 17) (tgt := 29) dX5_mean_17 (by decide) (fun h17 => ?_) (fun h17 => absurd (by decide) h17)
        refine e_ldc2 (pc := 29) dX5_mean_29 (klX5_185 rfl) ?_
        refine e_lret (pc := 32) (st := []) dX5_mean_32 rfl ?_
        exact k _ Same.rf
      · show E sc mX6_mean 0 [.ref 54, .int (nI v), .int x4, .int x5] [] S1 Q
        have hp := h1.pg (by omega) hv hp
        have hr := h1.row (by omega) hr
        refine e_iload_n (pc := 0) (i := 1) dX6_mean_0 rfl rfl ?_
        refine e_i2l (pc := 1) dX6_mean_1 ?_
        refine e_lconst' (pc := 2) (lN 0) dX6_mean_2 (by decide) ?_
        refine e_ldc2 (pc := 3) dX6_mean_3 (klX6_195 rfl) ?_
        refine e_callS3 (pc := 6) (M' := mX6_in) dX6_mean_6 jX6_in lkX6_46 (by decide) (Nat.le_of_ble_eq_true rfl) (Nat.le_of_ble_eq_true rfl) ?_
        refine sp_inY (lo := 0) (hi := 10) (by decide) (by decide) (by omega) (by omega) (by omega) ?_
        refine e_if_eq (pc := 9) (tgt := 47) dX6_mean_9 (by decide) (fun h9 => absurd h9 (by decide)) (fun h9 => ?_)
        refine e_iload_n (pc := 12) (i := 2) dX6_mean_12 rfl rfl ?_
        refine e_i2l (pc := 13) dX6_mean_13 ?_
        refine e_lconst' (pc := 14) (lN 0) dX6_mean_14 (by decide) ?_
        refine e_ldc2 (pc := 15) dX6_mean_15 (klX6_201 rfl) ?_
        refine e_callS3 (pc := 18) (M' := mX6_in) dX6_mean_18 jX6_in lkX6_46 (by decide) (Nat.le_of_ble_eq_true rfl) (Nat.le_of_ble_eq_true rfl) ?_
        refine sp_inX (lo := 0) (hi := 8) (by decide) (by decide) hn ?_
        refine e_if_eq (pc := 21) (tgt := 47) dX6_mean_21 (by decide) (fun h21 => ?_) (fun h21 => absurd (by decide) h21)
        refine e_ldc2 (pc := 47) dX6_mean_47 (klX6_207 rfl) ?_
        refine e_lret (pc := 50) (st := []) dX6_mean_50 rfl ?_
        exact k _ Same.rf
  · refine ask_bothL (-1) hI (fun Q k => ?_) (fun S1 h1 Q k => ?_)
    · show E sc mX5_mean 0 [.ref 0, .int x1, .int x4, .int x5, .null, .null, .null, .null, .null] [] S Q
      refine e_iload_n (pc := 0) (i := 1) dX5_mean_0 rfl rfl ?_
      refine e_iconst' (pc := 1) (nI 0) dX5_mean_1 (by decide) ?_
      refine e_bipush' (pc := 2) (nI 10) dX5_mean_2 (by decide) ?_
      refine e_callS3 (pc := 4) (M' := mX5_within) dX5_mean_4 jX5_within lkX5_70 (by decide) (Nat.le_of_ble_eq_true rfl) (Nat.le_of_ble_eq_true rfl) ?_
      refine sp_winX hn (by omega) (by omega) ?_
      refine e_if_eq (pc := 7) (tgt := 29) dX5_mean_7 (by decide) (fun h7 => ?_) (fun h7 => absurd (by decide) h7)
      refine e_ldc2 (pc := 29) dX5_mean_29 (klX5_185 rfl) ?_
      refine e_lret (pc := 32) (st := []) dX5_mean_32 rfl ?_
      exact k _ Same.rf
    · show E sc mX6_mean 0 [.ref 54, .int x1, .int x4, .int x5] [] S1 Q
      have hp := h1.pg (by omega) hv hp
      have hr := h1.row (by omega) hr
      refine e_iload_n (pc := 0) (i := 1) dX6_mean_0 rfl rfl ?_
      refine e_i2l (pc := 1) dX6_mean_1 ?_
      refine e_lconst' (pc := 2) (lN 0) dX6_mean_2 (by decide) ?_
      refine e_ldc2 (pc := 3) dX6_mean_3 (klX6_195 rfl) ?_
      refine e_callS3 (pc := 6) (M' := mX6_in) dX6_mean_6 jX6_in lkX6_46 (by decide) (Nat.le_of_ble_eq_true rfl) (Nat.le_of_ble_eq_true rfl) ?_
      refine sp_inX (lo := 0) (hi := 10) (by decide) (by decide) hn ?_
      refine e_if_eq (pc := 9) (tgt := 47) dX6_mean_9 (by decide) (fun h9 => ?_) (fun h9 => absurd (by decide) h9)
      refine e_ldc2 (pc := 47) dX6_mean_47 (klX6_207 rfl) ?_
      refine e_lret (pc := 50) (st := []) dX6_mean_50 rfl ?_
      exact k _ Same.rf

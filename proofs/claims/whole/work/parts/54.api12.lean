def bitsF (p : Nat → Bool) : Nat → Nat
  | 0 => 0
  | k + 1 => if p k then bitsF p k ||| 2 ^ k else bitsF p k
def bitsG (f : Nat → Bool) : Nat → Nat
  | 0 => if f 12 then 4096 else 0
  | k + 1 => if f k then bitsG f k ||| 2 ^ k else bitsG f k
theorem bitsF_cg {p q : Nat → Bool} : ∀ k, (∀ i, i < k → p i = q i) → bitsF p k = bitsF q k
  | 0, _ => rfl
  | k + 1, h => by rw [bitsF, bitsF, h k (by omega), bitsF_cg k (fun i hi => h i (by omega))]
theorem bitsG_F {f : Nat → Bool} {T : Nat} : ∀ k, k ≤ T → bitsG f k = bitsF (fun t => (decide (t < T) || decide (t = 12)) && f t) k ||| (if f 12 then 4096 else 0)
  | 0, _ => by rw [bitsG, bitsF, Nat.zero_or]
  | k + 1, h => by
    rw [bitsG, bitsF, bitsG_F (T := T) k (by omega)]
    have e : ((decide (k < T) || decide (k = 12)) && f k) = f k := by simp [show k < T by omega]
    rw [e]
    cases f k
    · rfl
    · simp only [if_true]
      rw [Nat.or_assoc, Nat.or_assoc, Nat.or_comm (2 ^ k)]
theorem bitsF_gap {f : Nat → Bool} {T : Nat} : ∀ d, T + d ≤ 12 → bitsF (fun t => (decide (t < T) || decide (t = 12)) && f t) (T + d) = bitsF (fun t => (decide (t < T) || decide (t = 12)) && f t) T
  | 0, _ => rfl
  | d + 1, h => by
    rw [← Nat.add_assoc, bitsF, bitsF_gap d (by omega)]
    have e : ((decide (T + d < T) || decide (T + d = 12)) && f (T + d)) = false := by simp [show ¬ T + d = 12 by omega, show ¬ T + d < T by omega]
    rw [e]; rfl
theorem bits_eq {f : Nat → Bool} {T : Nat} (hT : T ≤ 12) : bitsG f T = bitsF (fun t => (decide (t < T) || decide (t = 12)) && f t) 13 := by
  rw [bitsG_F T (Nat.le_refl T)]
  have h := bitsF_gap (f := f) (T := T) (12 - T) (by omega)
  rw [show T + (12 - T) = 12 by omega] at h
  show _ = bitsF _ (12 + 1)
  rw [bitsF, h]
  have e : ((decide (12 < T) || decide (12 = 12)) && f 12) = f 12 := by simp
  rw [e]
  cases f 12
  · simp
  · rfl
theorem bitsF_lt (p : Nat → Bool) : ∀ k, bitsF p k < 2 ^ k
  | 0 => by show 0 < 1; omega
  | k + 1 => by
    have ih := bitsF_lt p k
    rw [bitsF, Nat.pow_succ]
    split
    · exact Nat.or_lt_two_pow (n := k + 1) (by rw [Nat.pow_succ]; omega) (by rw [Nat.pow_succ]; have := Nat.two_pow_pos k; omega)
    · omega
/-- only place x of page 0 differs -/
def FrK (x : Nat) (S S' : PS) : Prop := (∀ j, (j ≤ 5 ∨ (11 ≤ j ∧ j ≤ 37)) → S'.1 j = S.1 j) ∧ (∀ k, (k = 4 ∨ k = 5 ∨ k = 18 ∨ k = 24) → S'.1 54 k = S.1 54 k) ∧ (∀ k, k < 66 → k ≠ x → S'.1 55 k = S.1 55 k) ∧ (∀ j, ((57 ≤ j ∧ j ≤ 60) ∨ (62 ≤ j ∧ j ≤ 65)) → S'.1 j = S.1 j)
theorem FrK.rf {x : Nat} {S : PS} : FrK x S S := ⟨fun _ _ => rfl, fun _ _ => rfl, fun _ _ _ => rfl, fun _ _ => rfl⟩
theorem FrK.S {x t : Nat} {S S1 S2 : PS} (h : FrK x S S1) (h2 : FrS S1 S2 t) : FrK x S S2 := ⟨fun j a => (h2.same.1 j a).trans (h.1 j a), fun k a => (h2.same.2.1 k a).trans (h.2.1 k a), fun k a b => (h2.same.2.2.1 k a).trans (h.2.2.1 k a b), fun j a => (h2.same.2.2.2 j a).trans (h.2.2.2 j a)⟩
theorem FrK.up {x : Nat} {v : Int32} {S S1 : PS} (h : FrK x S S1) : FrK x S (up2 S1.1 55 x v, S1.2) := by
  refine ⟨fun j a => ?_, fun k a => ?_, fun k a b => ?_, fun j a => ?_⟩
  · show up2 S1.1 55 x v j = _; rw [up2_ne _ _ _ (by omega)]; exact h.1 j a
  · show up2 S1.1 55 x v 54 k = _; rw [up2_ne _ _ _ (by decide)]; exact h.2.1 k a
  · show up2 S1.1 55 x v 55 k = _; rw [up2_at]; exact (if_neg b).trans (h.2.2.1 k a b)
  · show up2 S1.1 55 x v j = _; rw [up2_ne _ _ _ (by omega)]; exact h.2.2.2 j a
theorem FrK.back {x : Nat} {S S1 : PS} (h : FrK x S S1) : Same S (up2 S1.1 55 x (S.1 55 x), S1.2) := by
  have g := h.up (v := S.1 55 x)
  refine ⟨g.1, g.2.1, fun k a => ?_, g.2.2.2⟩
  by_cases e : k = x
  · subst e; show up2 S1.1 55 k (S.1 55 k) 55 k = _; rw [up2_at]; exact if_pos rfl
  · exact g.2.2.1 k a e
theorem SnM.frk {x : Nat} {S S' : PS} {n : Nat} {sp sv : Nat → Nat} (h : SnM S n sp sv) (hf : FrK x S S') : SnM S' n sp sv := by
  unfold SnM at h ⊢
  rw [hf.2.1 18 (by omega), hf.2.2.2 60 (by omega)]; exact h
theorem PgAt.pt {S S' : PS} {R : Rw} {a w v : Nat} (hp : PgAt S 0 R) (hv : Vd R) (hw : w < 5) (ha : a < 4) (hf : FrK (5 * a + w) S S') : PgAt (up2 S'.1 55 (5 * a + w) (pv a v), S'.2) 0 (rs R (5 * a + w) v) := by
  have h5 := hv.1
  have g := hp.set (v := v) h5 hw ha
  rw [show 0 + 5 * a + w = 5 * a + w by omega] at g
  refine g.of (fun k _ h2 => ?_) (by rw [rs_ne _ _ (by omega)]; exact h5)
  show up2 S'.1 55 (5 * a + w) (pv a v) 55 k = up2 S.1 55 (5 * a + w) (pv a v) 55 k
  rw [up2_at, up2_at]
  by_cases e : k = 5 * a + w
  · show (if _ then _ else _) = (if _ then _ else _); rw [if_pos e, if_pos e]
  · show (if _ then _ else _) = (if _ then _ else _); rw [if_neg e, if_neg e]; exact hf.2.2.1 k (by omega) e
theorem or0 (a : Nat) : nI a ||| nI 0 = nI a := by rw [nI_0, Int32.or_zero]
theorem bool_p {b : Bool} {P : Prop} {p : Bool} (h : b = true ↔ P) (hp : p = true ↔ P) : b = p := by
  cases b with
  | true => exact (hp.mpr (h.mp rfl)).symm
  | false =>
    cases p with
    | false => rfl
    | true => exact absurd (h.mpr (hp.mp rfl)) (by decide)
theorem lp_kinds {sc : PSc} {n0 w : Nat} {sp sv : Nat → Nat} {p : Nat → Bool} {R : Rw} {S0 : PS} {Q : PQ} (hv : Vd R) (hw : w < R 20) (hr0 : RowAt S0 1 R) (hs0 : SnC S0 n0 sp sv) (hpp : ∀ v, v < 4 → (p v = true ↔ fitP sp sv n0 (rs R w v))) (k : ∀ S', Fr 6 5 S0 S' → Q (some (.int (nI (bitsF p 4)))) S') : ∀ (n : Nat) (j : Nat) (S : PS), j ≤ 4 → 4 - j < n → Fr 6 5 S0 S → E sc mX5_kinds 17 [.ref 0, .int (nI w), .int (nI (bitsF p j)), .int (nI j)] [] S Q := by
  intro n
  induction n with
  | zero => intro j S hj hn hf; exact absurd hn (by omega)
  | succ n ih =>
    intro j S hj hn hf
    have hr := hr0.frI hf r6 r1 (by omega)
    have hs := hs0.fr hf
    refine e_iload_n (pc := 17) (i := 3) dX5_kinds_17 rfl rfl ?_
    refine e_iconst' (pc := 18) (nI 4) dX5_kinds_18 (by decide) ?_
    refine e_icmp_ge (pc := 19) (tgt := 44) dX5_kinds_19 (by decide) (fun h19 => ?_) (fun h19 => ?_)
    · replace h19 := (nI_leI (by omega) (by omega)).mp h19
      obtain rfl : j = 4 := by omega
      refine e_iload_n (pc := 44) (i := 2) dX5_kinds_44 rfl rfl ?_
      refine e_iret (pc := 45) (st := []) (ty := .int) dX5_kinds_45 rfl rfl ?_
      exact k S hf
    · replace h19 := mt (nI_leI (by omega) (by omega)).mpr h19
      have hvd := set_vd (a := 0) (v := j) hv hw (Or.inl ⟨rfl, by omega⟩)
      have hih := fun S2 => ih (j + 1) S2 (by omega) (by omega)
      rw [bitsF] at hih
      refine e_aload_n (pc := 22) (i := 0) dX5_kinds_22 rfl rfl ?_
      refine e_iload_n (pc := 23) (i := 1) dX5_kinds_23 rfl rfl ?_
      refine e_iconst' (pc := 24) (nI 0) dX5_kinds_24 (by decide) ?_
      refine e_iload_n (pc := 25) (i := 3) dX5_kinds_25 rfl rfl ?_
      refine e_callV3 (pc := 26) (M' := mX5_fitsWith) dX5_kinds_26 iX5_fitsWith lkX5_201 (by decide) (rO_obj sh_0 rfl) (Nat.le_of_ble_eq_true rfl) (Nat.le_of_ble_eq_true rfl) ?_
      refine sp_fitsWith (a := 0) hv hr hw (by omega) hvd hs (fun S2 b hb c => ?_)
      rw [show 5 * 0 + w = w by omega] at hb
      have ebp := bool_p hb (hpp j (by omega))
      rw [ebp]
      cases hc : p j
      · rw [hc] at hih
        refine e_if_eq (pc := 29) (tgt := 38) dX5_kinds_29 (by decide) (fun h29 => ?_) (fun h29 => absurd (by decide) h29)
        refine e_iinc' (pc := 38) (nI (j + 1)) dX5_kinds_38 rfl (by decide) rfl (nI_1 _) ?_
        refine e_goto (pc := 41) (tgt := 17) dX5_kinds_41 (by decide) ?_
        exact hih S2 (hf.tr c)
      · rw [hc] at hih
        refine e_if_eq (pc := 29) (tgt := 38) dX5_kinds_29 (by decide) (fun h29 => absurd h29 (by decide)) (fun h29 => ?_)
        refine e_iload_n (pc := 32) (i := 2) dX5_kinds_32 rfl rfl ?_
        refine e_iconst' (pc := 33) (nI 1) dX5_kinds_33 (by decide) ?_
        refine e_iload_n (pc := 34) (i := 3) dX5_kinds_34 rfl rfl ?_
        refine e_ishl (pc := 35) dX5_kinds_35 ?_
        refine E.it (nI (2 ^ j)) (sh1 j (by omega)) ?_
        refine e_ior (pc := 36) dX5_kinds_36 ?_
        refine E.it (nI (bitsF p j ||| 2 ^ j)) (fa_or _ _) ?_
        refine e_istore_n (pc := 37) (i := 2) dX5_kinds_37 rfl (by decide) rfl ?_
        refine e_iinc' (pc := 38) (nI (j + 1)) dX5_kinds_38 rfl (by decide) rfl (nI_1 _) ?_
        refine e_goto (pc := 41) (tgt := 17) dX5_kinds_41 (by decide) ?_
        exact hih S2 (hf.tr c)
theorem lm_kinds {sc : PSc} {n0 w : Nat} {sp sv : Nat → Nat} {p : Nat → Bool} {R : Rw} {S0 : PS} {Q : PQ} (hv : Vd R) (hw : w < R 20) (hp0 : PgAt S0 0 R) (hs0 : SnM S0 n0 sp sv) (hpp : ∀ v, v < 4 → (p v = true ↔ fitP sp sv n0 (rs R w v))) (k : ∀ S', Same S0 S' → Q (some (.int (nI (bitsF p 4)))) S') : ∀ (n : Nat) (j : Nat) (S : PS), j ≤ 4 → 4 - j < n → FrK w S0 S → E sc mX6_kinds 22 [.ref 54, .int (nI w), .int (S0.1 55 w), .int (nI (bitsF p j)), .int (nI j)] [] S Q := by
  intro n
  induction n with
  | zero => intro j S hj hn hf; exact absurd hn (by omega)
  | succ n ih =>
    intro j S hj hn hf
    have h5 := hv.1
    have hs := hs0.frk hf
    refine e_iload (pc := 22) dX6_kinds_22 rfl ?_
    refine e_iconst' (pc := 24) (nI 4) dX6_kinds_24 (by decide) ?_
    refine e_icmp_ge (pc := 25) (tgt := 61) dX6_kinds_25 (by decide) (fun h25 => ?_) (fun h25 => ?_)
    · replace h25 := (nI_leI (by omega) (by omega)).mp h25
      obtain rfl : j = 4 := by omega
      refine e_aload_n (pc := 61) (i := 0) dX6_kinds_61 rfl rfl ?_
      refine e_getR (pc := 62) dX6_kinds_62 (fX6_7 rfl) sh_54 rfl ?_
      refine e_iload_n (pc := 65) (i := 1) dX6_kinds_65 rfl rfl ?_
      refine e_iload_n (pc := 66) (i := 2) dX6_kinds_66 rfl rfl ?_
      refine e_iast (pc := 67) dX6_kinds_67 sh_55 (vp_in_nI (by omega) (by omega)) ?_
      refine e_iload_n (pc := 68) (i := 3) dX6_kinds_68 rfl rfl ?_
      refine e_iret (pc := 69) (st := []) (ty := .int) dX6_kinds_69 rfl rfl ?_
      rw [nI_clamp (show w < 2 ^ 31 by omega)]
      exact k _ hf.back
    · replace h25 := mt (nI_leI (by omega) (by omega)).mpr h25
      have hvd := set_vd (a := 0) (v := j) hv hw (Or.inl ⟨rfl, by omega⟩)
      have hih := fun S2 => ih (j + 1) S2 (by omega) (by omega)
      rw [bitsF] at hih
      refine e_aload_n (pc := 28) (i := 0) dX6_kinds_28 rfl rfl ?_
      refine e_getR (pc := 29) dX6_kinds_29 (fX6_7 rfl) sh_54 rfl ?_
      refine e_iload_n (pc := 32) (i := 1) dX6_kinds_32 rfl rfl ?_
      refine e_iload (pc := 33) dX6_kinds_33 rfl ?_
      refine e_iast (pc := 35) dX6_kinds_35 sh_55 (vp_in_nI (by omega) (by omega)) ?_
      rw [nI_clamp (show w < 2 ^ 31 by omega)]
      have hpt : PgAt (up2 S.1 55 (5 * 0 + w) (pv 0 j), S.2) 0 (rs R (5 * 0 + w) j) := hp0.pt hv (by omega) (by omega) (by rw [show 5 * 0 + w = w by omega]; exact hf)
      rw [show 5 * 0 + w = w by omega] at hpt hvd
      have hf2 : FrK w S0 (up2 S.1 55 w (nI j), S.2) := hf.up
      refine e_iload_n (pc := 36) (i := 3) dX6_kinds_36 rfl rfl ?_
      refine e_aload_n (pc := 37) (i := 0) dX6_kinds_37 rfl rfl ?_
      refine e_iconst' (pc := 38) (nI 0) dX6_kinds_38 (by decide) ?_
      refine e_callV1 (pc := 39) (M' := mX6_isAsSeen) dX6_kinds_39 iX6_isAsSeen lkX6_209 (by decide) (rO_obj sh_54 rfl) (Nat.le_of_ble_eq_true rfl) (Nat.le_of_ble_eq_true rfl) ?_
      refine sp_isAsSeen (t := 0) hvd hpt (by omega) (hs0.frk hf2) (fun S2 b hb _ c => ?_)
      have ebp := bool_p hb (hpp j (by omega))
      rw [ebp]
      cases hc : p j
      · rw [hc] at hih
        refine e_if_eq (pc := 42) (tgt := 52) dX6_kinds_42 (by decide) (fun h42 => ?_) (fun h42 => absurd (by decide) h42)
        refine e_iconst' (pc := 52) (nI 0) dX6_kinds_52 (by decide) ?_
        refine e_ior (pc := 53) dX6_kinds_53 ?_
        refine E.it (nI (bitsF p j)) (or0 _) ?_
        refine e_istore_n (pc := 54) (i := 3) dX6_kinds_54 rfl (by decide) rfl ?_
        refine e_iinc' (pc := 55) (nI (j + 1)) dX6_kinds_55 rfl (by decide) rfl (nI_1 _) ?_
        refine e_goto (pc := 58) (tgt := 22) dX6_kinds_58 (by decide) ?_
        exact hih S2 (hf2.S c)
      · rw [hc] at hih
        refine e_if_eq (pc := 42) (tgt := 52) dX6_kinds_42 (by decide) (fun h42 => absurd h42 (by decide)) (fun h42 => ?_)
        refine e_iconst' (pc := 45) (nI 1) dX6_kinds_45 (by decide) ?_
        refine e_iload (pc := 46) dX6_kinds_46 rfl ?_
        refine e_ishl (pc := 48) dX6_kinds_48 ?_
        refine E.it (nI (2 ^ j)) (sh1 j (by omega)) ?_
        refine e_goto (pc := 49) (tgt := 53) dX6_kinds_49 (by decide) ?_
        refine e_ior (pc := 53) dX6_kinds_53 ?_
        refine E.it (nI (bitsF p j ||| 2 ^ j)) (fa_or _ _) ?_
        refine e_istore_n (pc := 54) (i := 3) dX6_kinds_54 rfl (by decide) rfl ?_
        refine e_iinc' (pc := 55) (nI (j + 1)) dX6_kinds_55 rfl (by decide) rfl (nI_1 _) ?_
        refine e_goto (pc := 58) (tgt := 22) dX6_kinds_58 (by decide) ?_
        exact hih S2 (hf2.S c)
theorem b_kinds {sc : PSc} {S : PS} (hI : InvS S) (x : Int32) : Bth sc mX5_kinds mX6_kinds [.int x] S := by
  obtain ⟨R, hv, hc, hr, hp⟩ := hI.1
  obtain ⟨n0, sp, sv, hn6, t26, t18, tss⟩ := hI.2.2.2.2.1
  have hsc : SnC S n0 sp sv := ⟨hn6, t26, fun k hk => ⟨(tss k hk).1, (tss k hk).2.1, (tss k hk).2.2.1, (tss k hk).2.2.2.1⟩⟩
  have hsm : SnM S n0 sp sv := ⟨hn6, t18, fun k hk => ⟨(tss k hk).1, (tss k hk).2.1, (tss k hk).2.2.2.2.1, (tss k hk).2.2.2.2.2⟩⟩
  have hv5 := hv.1
  rcases Classical.em (inw x (R 20)) with ⟨w, rfl, hw⟩ | hn
  · obtain ⟨p, hpp⟩ : ∃ p : Nat → Bool, ∀ v, v < 4 → (p v = true ↔ fitP sp sv n0 (rs R w v)) := ⟨fun v => @decide _ (Classical.propDecidable (fitP sp sv n0 (rs R w v))), fun v _ => by simp⟩
    refine ask_both (nI (bitsF p 4)) hI (fun Q k => ?_) (fun S1 h1 Q k => ?_)
    · show E sc mX5_kinds 0 [.ref 0, .int (nI w), .null, .null] [] S Q
      refine e_aload_n (pc := 0) (i := 0) dX5_kinds_0 rfl rfl ?_
      refine e_getR (pc := 1) dX5_kinds_1 (fX5_10 rfl) sh_0 rfl ?_
      refine e_iload_n (pc := 4) (i := 1) dX5_kinds_4 rfl rfl ?_
      refine e_callV1 (pc := 5) (M' := mX0_has) dX5_kinds_5 iX0_has lkX5_120 (by decide) (rO_obj sh_1 rfl) (Nat.le_of_ble_eq_true rfl) (Nat.le_of_ble_eq_true rfl) ?_
      refine sp_hasY r1 hv hr hw ?_
      refine e_if_ne (pc := 8) (tgt := 13) dX5_kinds_8 (by decide) (fun h8 => ?_) (fun h8 => absurd h8 (by decide))
      refine e_iconst' (pc := 13) (nI 0) dX5_kinds_13 (by decide) ?_
      refine e_istore_n (pc := 14) (i := 2) dX5_kinds_14 rfl (by decide) rfl ?_
      refine e_iconst' (pc := 15) (nI 0) dX5_kinds_15 (by decide) ?_
      refine e_istore_n (pc := 16) (i := 3) dX5_kinds_16 rfl (by decide) rfl ?_
      exact lp_kinds hv hw hr hsc hpp (fun S2 h2 => k S2 h2.same) 5 0 S (by omega) (by omega) Fr.rf
    · show E sc mX6_kinds 0 [.ref 54, .int (nI w), .null, .null, .null] [] S1 Q
      have hp := h1.pg (by omega) hv hp
      have hr := h1.row (by omega) hr
      refine e_aload_n (pc := 0) (i := 0) dX6_kinds_0 rfl rfl ?_
      refine e_iload_n (pc := 1) (i := 1) dX6_kinds_1 rfl rfl ?_
      refine e_callV1 (pc := 2) (M' := mX6_isWheel) dX6_kinds_2 iX6_isWheel lkX6_144 (by decide) (rO_obj sh_54 rfl) (Nat.le_of_ble_eq_true rfl) (Nat.le_of_ble_eq_true rfl) ?_
      refine sp_isWheelY hv hp hw ?_
      refine e_if_ne (pc := 5) (tgt := 10) dX6_kinds_5 (by decide) (fun h5 => ?_) (fun h5 => absurd h5 (by decide))
      refine e_aload_n (pc := 10) (i := 0) dX6_kinds_10 rfl rfl ?_
      refine e_getR (pc := 11) dX6_kinds_11 (fX6_7 rfl) sh_54 rfl ?_
      refine e_iload_n (pc := 14) (i := 1) dX6_kinds_14 rfl rfl ?_
      refine e_iald (pc := 15) dX6_kinds_15 sh_55 (vp_in_nI (by omega) (by omega)) ?_
      refine E.it (S1.1 55 w) (by rw [nI_clamp (by omega)]) ?_
      refine e_istore_n (pc := 16) (i := 2) dX6_kinds_16 rfl (by decide) rfl ?_
      refine e_iconst' (pc := 17) (nI 0) dX6_kinds_17 (by decide) ?_
      refine e_istore_n (pc := 18) (i := 3) dX6_kinds_18 rfl (by decide) rfl ?_
      refine e_iconst' (pc := 19) (nI 0) dX6_kinds_19 (by decide) ?_
      refine e_istore (pc := 20) dX6_kinds_20 (by decide) rfl ?_
      exact lm_kinds hv hw hp (hsm.same h1) hpp k 5 0 S1 (by omega) (by omega) FrK.rf
  · refine ask_both (-1) hI (fun Q k => ?_) (fun S1 h1 Q k => ?_)
    · show E sc mX5_kinds 0 [.ref 0, .int x, .null, .null] [] S Q
      refine e_aload_n (pc := 0) (i := 0) dX5_kinds_0 rfl rfl ?_
      refine e_getR (pc := 1) dX5_kinds_1 (fX5_10 rfl) sh_0 rfl ?_
      refine e_iload_n (pc := 4) (i := 1) dX5_kinds_4 rfl rfl ?_
      refine e_callV1 (pc := 5) (M' := mX0_has) dX5_kinds_5 iX0_has lkX5_120 (by decide) (rO_obj sh_1 rfl) (Nat.le_of_ble_eq_true rfl) (Nat.le_of_ble_eq_true rfl) ?_
      refine sp_hasX r1 hv hr hn ?_
      refine e_if_ne (pc := 8) (tgt := 13) dX5_kinds_8 (by decide) (fun h8 => absurd (by decide) h8) (fun h8 => ?_)
      refine e_iconst' (pc := 11) (-1) dX5_kinds_11 (by decide) ?_
      refine e_iret (pc := 12) (st := []) (ty := .int) dX5_kinds_12 rfl rfl ?_
      exact k _ Same.rf
    · show E sc mX6_kinds 0 [.ref 54, .int x, .null, .null, .null] [] S1 Q
      have hp := h1.pg (by omega) hv hp
      have hr := h1.row (by omega) hr
      refine e_aload_n (pc := 0) (i := 0) dX6_kinds_0 rfl rfl ?_
      refine e_iload_n (pc := 1) (i := 1) dX6_kinds_1 rfl rfl ?_
      refine e_callV1 (pc := 2) (M' := mX6_isWheel) dX6_kinds_2 iX6_isWheel lkX6_144 (by decide) (rO_obj sh_54 rfl) (Nat.le_of_ble_eq_true rfl) (Nat.le_of_ble_eq_true rfl) ?_
      refine sp_isWheelX hv hp hn ?_
      refine e_if_ne (pc := 5) (tgt := 10) dX6_kinds_5 (by decide) (fun h5 => absurd (by decide) h5) (fun h5 => ?_)
      refine e_iconst' (pc := 8) (-1) dX6_kinds_8 (by decide) ?_
      refine e_iret (pc := 9) (st := []) (ty := .int) dX6_kinds_9 rfl rfl ?_
      exact k _ Same.rf
theorem lp_broken {sc : PSc} {n0 w : Nat} {sp sv : Nat → Nat} {p : Nat → Bool} {R : Rw} {S0 : PS} {Q : PQ} (hv : Vd R) (hw : w < R 20) (hr0 : RowAt S0 1 R) (hs0 : SnC S0 n0 sp sv) (hpp : ∀ v, (v < R (5 + w) ∨ v = 12) → (p v = true ↔ fitP sp sv n0 (rs R (15 + w) v))) (k : ∀ S', Fr 6 5 S0 S' → Q (some (.int (nI (bitsG p (R (5 + w)))))) S') : ∀ (n : Nat) (j : Nat) (S : PS), j ≤ R (5 + w) → R (5 + w) - j < n → Fr 6 5 S0 S → E sc mX5_broken 34 [.ref 0, .int (nI w), .int (nI (bitsG p j)), .int (nI j)] [] S Q := by
  intro n
  induction n with
  | zero => intro j S hj hn hf; exact absurd hn (by omega)
  | succ n ih =>
    intro j S hj hn hf
    have hr := hr0.frI hf r6 r1 (by omega)
    have hs := hs0.fr hf
    have htw := hv.2 w hw
    refine e_iload_n (pc := 34) (i := 3) dX5_broken_34 rfl rfl ?_
    refine e_aload_n (pc := 35) (i := 0) dX5_broken_35 rfl rfl ?_
    refine e_getR (pc := 36) dX5_broken_36 (fX5_10 rfl) sh_0 rfl ?_
    refine e_getR (pc := 39) dX5_broken_39 (fX5_204 rfl) sh_1 rfl ?_
    refine e_iload_n (pc := 42) (i := 1) dX5_broken_42 rfl rfl ?_
    refine e_iald (pc := 43) dX5_broken_43 sh_3 (rin hv hw) ?_
    refine E.it (nI (R (5 + w))) (rt hv hr hw) ?_
    refine e_icmp_ge (pc := 44) (tgt := 69) dX5_broken_44 (by decide) (fun h44 => ?_) (fun h44 => ?_)
    · replace h44 := (nI_leI (by omega) (by omega)).mp h44
      obtain e : j = R (5 + w) := by omega
      refine e_iload_n (pc := 69) (i := 2) dX5_broken_69 rfl rfl ?_
      refine e_iret (pc := 70) (st := []) (ty := .int) dX5_broken_70 rfl rfl ?_
      rw [e]; exact k S hf
    · replace h44 := mt (nI_leI (by omega) (by omega)).mpr h44
      have hvd := set_vd (a := 3) (v := j) hv hw (Or.inr (Or.inr ⟨rfl, Or.inl (by omega)⟩))
      have hih := fun S2 => ih (j + 1) S2 (by omega) (by omega)
      rw [bitsG] at hih
      refine e_aload_n (pc := 47) (i := 0) dX5_broken_47 rfl rfl ?_
      refine e_iload_n (pc := 48) (i := 1) dX5_broken_48 rfl rfl ?_
      refine e_iconst' (pc := 49) (nI 3) dX5_broken_49 (by decide) ?_
      refine e_iload_n (pc := 50) (i := 3) dX5_broken_50 rfl rfl ?_
      refine e_callV3 (pc := 51) (M' := mX5_fitsWith) dX5_broken_51 iX5_fitsWith lkX5_201 (by decide) (rO_obj sh_0 rfl) (Nat.le_of_ble_eq_true rfl) (Nat.le_of_ble_eq_true rfl) ?_
      refine sp_fitsWith (a := 3) hv hr hw (by omega) hvd hs (fun S2 b hb c => ?_)
      have ebp := bool_p hb (hpp j (by omega))
      rw [ebp]
      cases hc : p j
      · rw [hc] at hih
        refine e_if_eq (pc := 54) (tgt := 63) dX5_broken_54 (by decide) (fun h54 => ?_) (fun h54 => absurd (by decide) h54)
        refine e_iinc' (pc := 63) (nI (j + 1)) dX5_broken_63 rfl (by decide) rfl (nI_1 _) ?_
        refine e_goto (pc := 66) (tgt := 34) dX5_broken_66 (by decide) ?_
        exact hih S2 (hf.tr c)
      · rw [hc] at hih
        refine e_if_eq (pc := 54) (tgt := 63) dX5_broken_54 (by decide) (fun h54 => absurd h54 (by decide)) (fun h54 => ?_)
        refine e_iload_n (pc := 57) (i := 2) dX5_broken_57 rfl rfl ?_
        refine e_iconst' (pc := 58) (nI 1) dX5_broken_58 (by decide) ?_
        refine e_iload_n (pc := 59) (i := 3) dX5_broken_59 rfl rfl ?_
        refine e_ishl (pc := 60) dX5_broken_60 ?_
        refine E.it (nI (2 ^ j)) (sh1 j (by omega)) ?_
        refine e_ior (pc := 61) dX5_broken_61 ?_
        refine E.it (nI (bitsG p j ||| 2 ^ j)) (fa_or _ _) ?_
        refine e_istore_n (pc := 62) (i := 2) dX5_broken_62 rfl (by decide) rfl ?_
        refine e_iinc' (pc := 63) (nI (j + 1)) dX5_broken_63 rfl (by decide) rfl (nI_1 _) ?_
        refine e_goto (pc := 66) (tgt := 34) dX5_broken_66 (by decide) ?_
        exact hih S2 (hf.tr c)
theorem sp_broken {sc : PSc} {n0 w : Nat} {sp sv : Nat → Nat} {p : Nat → Bool} {R : Rw} {S0 : PS} {Q : PQ} (hv : Vd R) (hw : w < R 20) (hr : RowAt S0 1 R) (hs : SnC S0 n0 sp sv) (hpp : ∀ v, (v < R (5 + w) ∨ v = 12) → (p v = true ↔ fitP sp sv n0 (rs R (15 + w) v))) (k : ∀ S', Fr 6 5 S0 S' → Q (some (.int (nI (bitsG p (R (5 + w)))))) S') : E sc mX5_broken 0 (pL0 mX5_broken [.ref 0, .int (nI w)]) [] S0 Q := by
  show E sc mX5_broken 0 [.ref 0, .int (nI w), .null, .null] [] S0 Q
  have hvd := set_vd (a := 3) (v := 12) hv hw (Or.inr (Or.inr ⟨rfl, Or.inr rfl⟩))
  refine e_aload_n (pc := 0) (i := 0) dX5_broken_0 rfl rfl ?_
  refine e_getR (pc := 1) dX5_broken_1 (fX5_10 rfl) sh_0 rfl ?_
  refine e_iload_n (pc := 4) (i := 1) dX5_broken_4 rfl rfl ?_
  refine e_callV1 (pc := 5) (M' := mX0_has) dX5_broken_5 iX0_has lkX5_120 (by decide) (rO_obj sh_1 rfl) (Nat.le_of_ble_eq_true rfl) (Nat.le_of_ble_eq_true rfl) ?_
  refine sp_hasY r1 hv hr hw ?_
  refine e_if_ne (pc := 8) (tgt := 13) dX5_broken_8 (by decide) (fun h8 => ?_) (fun h8 => absurd h8 (by decide))
  refine e_aload_n (pc := 13) (i := 0) dX5_broken_13 rfl rfl ?_
  refine e_iload_n (pc := 14) (i := 1) dX5_broken_14 rfl rfl ?_
  refine e_iconst' (pc := 15) (nI 3) dX5_broken_15 (by decide) ?_
  refine e_bipush' (pc := 16) (nI 12) dX5_broken_16 (by decide) ?_
  refine e_callV3 (pc := 18) (M' := mX5_fitsWith) dX5_broken_18 iX5_fitsWith lkX5_201 (by decide) (rO_obj sh_0 rfl) (Nat.le_of_ble_eq_true rfl) (Nat.le_of_ble_eq_true rfl) ?_
  refine sp_fitsWith (a := 3) hv hr hw (by omega) hvd hs (fun S2 b hb c => ?_)
  have ebp := bool_p hb (hpp 12 (by omega))
  rw [ebp]
  have hih := lp_broken (sc := sc) hv hw hr hs hpp k (R (5 + w) + 1) 0 S2 (by omega) (by omega) c
  rw [bitsG] at hih
  cases hc : p 12
  · rw [hc] at hih
    refine e_if_eq (pc := 21) (tgt := 30) dX5_broken_21 (by decide) (fun h21 => ?_) (fun h21 => absurd (by decide) h21)
    refine e_iconst' (pc := 30) (nI 0) dX5_broken_30 (by decide) ?_
    refine e_istore_n (pc := 31) (i := 2) dX5_broken_31 rfl (by decide) rfl ?_
    refine e_iconst' (pc := 32) (nI 0) dX5_broken_32 (by decide) ?_
    refine e_istore_n (pc := 33) (i := 3) dX5_broken_33 rfl (by decide) rfl ?_
    exact hih
  · rw [hc] at hih
    refine e_if_eq (pc := 21) (tgt := 30) dX5_broken_21 (by decide) (fun h21 => absurd h21 (by decide)) (fun h21 => ?_)
    refine e_sipush' (pc := 24) (nI 4096) dX5_broken_24 (by decide) ?_
    refine e_goto (pc := 27) (tgt := 31) dX5_broken_27 (by decide) ?_
    refine e_istore_n (pc := 31) (i := 2) dX5_broken_31 rfl (by decide) rfl ?_
    refine e_iconst' (pc := 32) (nI 0) dX5_broken_32 (by decide) ?_
    refine e_istore_n (pc := 33) (i := 3) dX5_broken_33 rfl (by decide) rfl ?_
    exact hih
theorem lm_brokenOf {sc : PSc} {n0 w : Nat} {sp sv : Nat → Nat} {p : Nat → Bool} {R : Rw} {S0 : PS} {Q : PQ} (hv : Vd R) (hw : w < R 20) (hp0 : PgAt S0 0 R) (hs0 : SnM S0 n0 sp sv) (hpp : ∀ v, (v < R (5 + w) ∨ v = 12) → (p v = true ↔ fitP sp sv n0 (rs R (15 + w) v))) (k : ∀ S', Same S0 S' → (∀ t, (t < R (5 + w) ∨ t = 12) → RbAt S' t (rs R (15 + w) t) 201) → Q (some (.int (nI (bitsF (fun t => (decide (t < R (5 + w)) || decide (t = 12)) && p t) 13)))) S') : ∀ (n : Nat) (j : Nat) (S : PS), j ≤ 13 → 13 - j < n → FrK (15 + w) S0 S → (∀ t, t < j → (t < R (5 + w) ∨ t = 12) → RbAt S t (rs R (15 + w) t) 201) → E sc mX6_brokenOf 15 [.ref 54, .int (nI w), .int (S0.1 55 (15 + w)), .int (nI (bitsF (fun t => (decide (t < R (5 + w)) || decide (t = 12)) && p t) j)), .int (nI j)] [] S Q := by
  intro n
  induction n with
  | zero => intro j S hj hn hf hrb; exact absurd hn (by omega)
  | succ n ih =>
    intro j S hj hn hf hrb
    have h5 := hv.1
    have hs := hs0.frk hf
    have htw := hv.2 w hw
    refine e_iload (pc := 15) dX6_brokenOf_15 rfl ?_
    refine e_bipush' (pc := 17) (nI 12) dX6_brokenOf_17 (by decide) ?_
    refine e_icmp_gt (pc := 19) (tgt := 82) dX6_brokenOf_19 (by decide) (fun h19 => ?_) (fun h19 => ?_)
    · replace h19 := (nI_ltI (by omega) (by omega)).mp h19
      obtain rfl : j = 13 := by omega
      refine e_aload_n (pc := 82) (i := 0) dX6_brokenOf_82 rfl rfl ?_
      refine e_getR (pc := 83) dX6_brokenOf_83 (fX6_7 rfl) sh_54 rfl ?_
      refine e_bipush' (pc := 86) (nI 15) dX6_brokenOf_86 (by decide) ?_
      refine e_iload_n (pc := 88) (i := 1) dX6_brokenOf_88 rfl rfl ?_
      refine e_iadd (pc := 89) dX6_brokenOf_89 ?_
      refine E.it (nI (15 + w)) (nI_add _ _) ?_
      refine e_iload_n (pc := 90) (i := 2) dX6_brokenOf_90 rfl rfl ?_
      refine e_iast (pc := 91) dX6_brokenOf_91 sh_55 (vp_in_nI (by omega) (by omega)) ?_
      refine e_iload_n (pc := 92) (i := 3) dX6_brokenOf_92 rfl rfl ?_
      refine e_iret (pc := 93) (st := []) (ty := .int) dX6_brokenOf_93 rfl rfl ?_
      rw [nI_clamp (show 15 + w < 2 ^ 31 by omega)]
      refine k _ hf.back (fun t ht => ?_)
      intro i hi
      exact hrb t (by omega) ht i hi
    · replace h19 := mt (nI_ltI (by omega) (by omega)).mpr h19
      have hih := fun S2 => ih (j + 1) S2 (by omega) (by omega)
      rw [bitsF] at hih
      refine e_iload (pc := 22) dX6_brokenOf_22 rfl ?_
      refine e_aload_n (pc := 24) (i := 0) dX6_brokenOf_24 rfl rfl ?_
      refine e_getR (pc := 25) dX6_brokenOf_25 (fX6_7 rfl) sh_54 rfl ?_
      refine e_iconst' (pc := 28) (nI 5) dX6_brokenOf_28 (by decide) ?_
      refine e_iload_n (pc := 29) (i := 1) dX6_brokenOf_29 rfl rfl ?_
      refine e_iadd (pc := 30) dX6_brokenOf_30 ?_
      refine E.it (nI (5 + w)) (nI_add _ _) ?_
      refine e_iald (pc := 31) dX6_brokenOf_31 sh_55 (vp_in_nI (by omega) (by omega)) ?_
      refine E.it (nI (R (5 + w))) (by rw [nI_clamp (by omega), hf.2.2.1 _ (by omega) (by omega)]; have := (hp0.2.2 w hw).2.1; simpa using this) ?_
      refine e_icmp_lt (pc := 32) (tgt := 42) dX6_brokenOf_32 (by decide) (fun h32 => ?_) (fun h32 => ?_)
      · replace h32 := (nI_ltI (by omega) (by omega)).mp h32
        have hin : j < R (5 + w) ∨ j = 12 := by omega
        have hvd := set_vd (a := 3) (v := j) hv hw (Or.inr (Or.inr ⟨rfl, hin⟩))
        have epj : ((decide (j < R (5 + w)) || decide (j = 12)) && p j) = p j := by
          rcases hin with q | q <;> simp [q]
        rw [epj] at hih
        refine e_aload_n (pc := 42) (i := 0) dX6_brokenOf_42 rfl rfl ?_
        refine e_getR (pc := 43) dX6_brokenOf_43 (fX6_7 rfl) sh_54 rfl ?_
        refine e_bipush' (pc := 46) (nI 15) dX6_brokenOf_46 (by decide) ?_
        refine e_iload_n (pc := 48) (i := 1) dX6_brokenOf_48 rfl rfl ?_
        refine e_iadd (pc := 49) dX6_brokenOf_49 ?_
        refine E.it (nI (15 + w)) (nI_add _ _) ?_
        refine e_iload (pc := 50) dX6_brokenOf_50 rfl ?_
        refine e_bipush' (pc := 52) (nI 12) dX6_brokenOf_52 (by decide) ?_
        refine e_isub (pc := 54) dX6_brokenOf_54 ?_
        refine E.it (pv 3 j) rfl ?_
        refine e_iast (pc := 55) dX6_brokenOf_55 sh_55 (vp_in_nI (by omega) (by omega)) ?_
        rw [nI_clamp (show 15 + w < 2 ^ 31 by omega)]
        have hpt : PgAt (up2 S.1 55 (15 + w) (pv 3 j), S.2) 0 (rs R (15 + w) j) := hp0.pt (a := 3) hv (by omega) (by omega) hf
        have hf2 : FrK (15 + w) S0 (up2 S.1 55 (15 + w) (pv 3 j), S.2) := hf.up
        refine e_iload_n (pc := 56) (i := 3) dX6_brokenOf_56 rfl rfl ?_
        refine e_aload_n (pc := 57) (i := 0) dX6_brokenOf_57 rfl rfl ?_
        refine e_iload (pc := 58) dX6_brokenOf_58 rfl ?_
        refine e_callV1 (pc := 60) (M' := mX6_isAsSeen) dX6_brokenOf_60 iX6_isAsSeen lkX6_209 (by decide) (rO_obj sh_54 rfl) (Nat.le_of_ble_eq_true rfl) (Nat.le_of_ble_eq_true rfl) ?_
        refine sp_isAsSeen (t := j) hvd hpt (by omega) (hs0.frk hf2) (fun S2 b hb hrj c => ?_)
        have ebp := bool_p hb (hpp j hin)
        rw [ebp]
        have hrb2 : ∀ t, t < j + 1 → (t < R (5 + w) ∨ t = 12) → RbAt S2 t (rs R (15 + w) t) 201 := by
          intro t ht ht2
          by_cases e : t = j
          · subst e; exact hrj
          · intro i hi; rw [c.2.2.2 _ (by omega)]; exact hrb t (by omega) ht2 i hi
        cases hc : p j
        · rw [hc] at hih
          refine e_if_eq (pc := 63) (tgt := 73) dX6_brokenOf_63 (by decide) (fun h63 => ?_) (fun h63 => absurd (by decide) h63)
          refine e_iconst' (pc := 73) (nI 0) dX6_brokenOf_73 (by decide) ?_
          refine e_ior (pc := 74) dX6_brokenOf_74 ?_
          refine E.it (nI (bitsF (fun t => (decide (t < R (5 + w)) || decide (t = 12)) && p t) j)) (or0 _) ?_
          refine e_istore_n (pc := 75) (i := 3) dX6_brokenOf_75 rfl (by decide) rfl ?_
          refine e_iinc' (pc := 76) (nI (j + 1)) dX6_brokenOf_76 rfl (by decide) rfl (nI_1 _) ?_
          refine e_goto (pc := 79) (tgt := 15) dX6_brokenOf_79 (by decide) ?_
          first
            | exact hih S2 (hf2.S c) hrb2
            | (rw [show ((decide (j < R (5 + w)) || decide (j = 12)) && p j) = false by simp [h32, h39]] at hih; exact hih S hf (fun t ht ht2 => hrb t (by omega) ht2))
        · rw [hc] at hih
          refine e_if_eq (pc := 63) (tgt := 73) dX6_brokenOf_63 (by decide) (fun h63 => absurd h63 (by decide)) (fun h63 => ?_)
          refine e_iconst' (pc := 66) (nI 1) dX6_brokenOf_66 (by decide) ?_
          refine e_iload (pc := 67) dX6_brokenOf_67 rfl ?_
          refine e_ishl (pc := 69) dX6_brokenOf_69 ?_
          refine E.it (nI (2 ^ j)) (sh1 j (by omega)) ?_
          refine e_goto (pc := 70) (tgt := 74) dX6_brokenOf_70 (by decide) ?_
          refine e_ior (pc := 74) dX6_brokenOf_74 ?_
          refine E.it (nI (bitsF (fun t => (decide (t < R (5 + w)) || decide (t = 12)) && p t) j ||| 2 ^ j)) (fa_or _ _) ?_
          refine e_istore_n (pc := 75) (i := 3) dX6_brokenOf_75 rfl (by decide) rfl ?_
          refine e_iinc' (pc := 76) (nI (j + 1)) dX6_brokenOf_76 rfl (by decide) rfl (nI_1 _) ?_
          refine e_goto (pc := 79) (tgt := 15) dX6_brokenOf_79 (by decide) ?_
          first
            | exact hih S2 (hf2.S c) hrb2
            | (rw [show ((decide (j < R (5 + w)) || decide (j = 12)) && p j) = false by simp [h32, h39]] at hih; exact hih S hf (fun t ht ht2 => hrb t (by omega) ht2))
      · replace h32 := mt (nI_ltI (by omega) (by omega)).mpr h32
        refine e_iload (pc := 35) dX6_brokenOf_35 rfl ?_
        refine e_bipush' (pc := 37) (nI 12) dX6_brokenOf_37 (by decide) ?_
        refine e_icmp_ne (pc := 39) (tgt := 76) dX6_brokenOf_39 (by decide) (fun h39 => ?_) (fun h39 => ?_)
        · replace h39 := mt (nI_eq (by omega) (by omega)).mpr h39
          refine e_iinc' (pc := 76) (nI (j + 1)) dX6_brokenOf_76 rfl (by decide) rfl (nI_1 _) ?_
          refine e_goto (pc := 79) (tgt := 15) dX6_brokenOf_79 (by decide) ?_
          first
            | exact hih S2 (hf2.S c) hrb2
            | (rw [show ((decide (j < R (5 + w)) || decide (j = 12)) && p j) = false by simp [h32, h39]] at hih; exact hih S hf (fun t ht ht2 => hrb t (by omega) ht2))
        · replace h39 := (nI_eq (by omega) (by omega)).mp h39
          have hin : j < R (5 + w) ∨ j = 12 := by omega
          have hvd := set_vd (a := 3) (v := j) hv hw (Or.inr (Or.inr ⟨rfl, hin⟩))
          have epj : ((decide (j < R (5 + w)) || decide (j = 12)) && p j) = p j := by
            rcases hin with q | q <;> simp [q]
          rw [epj] at hih
          refine e_aload_n (pc := 42) (i := 0) dX6_brokenOf_42 rfl rfl ?_
          refine e_getR (pc := 43) dX6_brokenOf_43 (fX6_7 rfl) sh_54 rfl ?_
          refine e_bipush' (pc := 46) (nI 15) dX6_brokenOf_46 (by decide) ?_
          refine e_iload_n (pc := 48) (i := 1) dX6_brokenOf_48 rfl rfl ?_
          refine e_iadd (pc := 49) dX6_brokenOf_49 ?_
          refine E.it (nI (15 + w)) (nI_add _ _) ?_
          refine e_iload (pc := 50) dX6_brokenOf_50 rfl ?_
          refine e_bipush' (pc := 52) (nI 12) dX6_brokenOf_52 (by decide) ?_
          refine e_isub (pc := 54) dX6_brokenOf_54 ?_
          refine E.it (pv 3 j) rfl ?_
          refine e_iast (pc := 55) dX6_brokenOf_55 sh_55 (vp_in_nI (by omega) (by omega)) ?_
          rw [nI_clamp (show 15 + w < 2 ^ 31 by omega)]
          have hpt : PgAt (up2 S.1 55 (15 + w) (pv 3 j), S.2) 0 (rs R (15 + w) j) := hp0.pt (a := 3) hv (by omega) (by omega) hf
          have hf2 : FrK (15 + w) S0 (up2 S.1 55 (15 + w) (pv 3 j), S.2) := hf.up
          refine e_iload_n (pc := 56) (i := 3) dX6_brokenOf_56 rfl rfl ?_
          refine e_aload_n (pc := 57) (i := 0) dX6_brokenOf_57 rfl rfl ?_
          refine e_iload (pc := 58) dX6_brokenOf_58 rfl ?_
          refine e_callV1 (pc := 60) (M' := mX6_isAsSeen) dX6_brokenOf_60 iX6_isAsSeen lkX6_209 (by decide) (rO_obj sh_54 rfl) (Nat.le_of_ble_eq_true rfl) (Nat.le_of_ble_eq_true rfl) ?_
          refine sp_isAsSeen (t := j) hvd hpt (by omega) (hs0.frk hf2) (fun S2 b hb hrj c => ?_)
          have ebp := bool_p hb (hpp j hin)
          rw [ebp]
          have hrb2 : ∀ t, t < j + 1 → (t < R (5 + w) ∨ t = 12) → RbAt S2 t (rs R (15 + w) t) 201 := by
            intro t ht ht2
            by_cases e : t = j
            · subst e; exact hrj
            · intro i hi; rw [c.2.2.2 _ (by omega)]; exact hrb t (by omega) ht2 i hi
          cases hc : p j
          · rw [hc] at hih
            refine e_if_eq (pc := 63) (tgt := 73) dX6_brokenOf_63 (by decide) (fun h63 => ?_) (fun h63 => absurd (by decide) h63)
            refine e_iconst' (pc := 73) (nI 0) dX6_brokenOf_73 (by decide) ?_
            refine e_ior (pc := 74) dX6_brokenOf_74 ?_
            refine E.it (nI (bitsF (fun t => (decide (t < R (5 + w)) || decide (t = 12)) && p t) j)) (or0 _) ?_
            refine e_istore_n (pc := 75) (i := 3) dX6_brokenOf_75 rfl (by decide) rfl ?_
            refine e_iinc' (pc := 76) (nI (j + 1)) dX6_brokenOf_76 rfl (by decide) rfl (nI_1 _) ?_
            refine e_goto (pc := 79) (tgt := 15) dX6_brokenOf_79 (by decide) ?_
            first
              | exact hih S2 (hf2.S c) hrb2
              | (rw [show ((decide (j < R (5 + w)) || decide (j = 12)) && p j) = false by simp [h32, h39]] at hih; exact hih S hf (fun t ht ht2 => hrb t (by omega) ht2))
          · rw [hc] at hih
            refine e_if_eq (pc := 63) (tgt := 73) dX6_brokenOf_63 (by decide) (fun h63 => absurd h63 (by decide)) (fun h63 => ?_)
            refine e_iconst' (pc := 66) (nI 1) dX6_brokenOf_66 (by decide) ?_
            refine e_iload (pc := 67) dX6_brokenOf_67 rfl ?_
            refine e_ishl (pc := 69) dX6_brokenOf_69 ?_
            refine E.it (nI (2 ^ j)) (sh1 j (by omega)) ?_
            refine e_goto (pc := 70) (tgt := 74) dX6_brokenOf_70 (by decide) ?_
            refine e_ior (pc := 74) dX6_brokenOf_74 ?_
            refine E.it (nI (bitsF (fun t => (decide (t < R (5 + w)) || decide (t = 12)) && p t) j ||| 2 ^ j)) (fa_or _ _) ?_
            refine e_istore_n (pc := 75) (i := 3) dX6_brokenOf_75 rfl (by decide) rfl ?_
            refine e_iinc' (pc := 76) (nI (j + 1)) dX6_brokenOf_76 rfl (by decide) rfl (nI_1 _) ?_
            refine e_goto (pc := 79) (tgt := 15) dX6_brokenOf_79 (by decide) ?_
            first
              | exact hih S2 (hf2.S c) hrb2
              | (rw [show ((decide (j < R (5 + w)) || decide (j = 12)) && p j) = false by simp [h32, h39]] at hih; exact hih S hf (fun t ht ht2 => hrb t (by omega) ht2))
theorem sp_brokenOf {sc : PSc} {n0 w : Nat} {sp sv : Nat → Nat} {p : Nat → Bool} {R : Rw} {S0 : PS} {Q : PQ} (hv : Vd R) (hw : w < R 20) (hp : PgAt S0 0 R) (hs : SnM S0 n0 sp sv) (hpp : ∀ v, (v < R (5 + w) ∨ v = 12) → (p v = true ↔ fitP sp sv n0 (rs R (15 + w) v))) (k : ∀ S', Same S0 S' → (∀ t, (t < R (5 + w) ∨ t = 12) → RbAt S' t (rs R (15 + w) t) 201) → Q (some (.int (nI (bitsF (fun t => (decide (t < R (5 + w)) || decide (t = 12)) && p t) 13)))) S') : E sc mX6_brokenOf 0 (pL0 mX6_brokenOf [.ref 54, .int (nI w)]) [] S0 Q := by
  show E sc mX6_brokenOf 0 [.ref 54, .int (nI w), .null, .null, .null] [] S0 Q
  have h5 := hv.1
  refine e_aload_n (pc := 0) (i := 0) dX6_brokenOf_0 rfl rfl ?_
  refine e_getR (pc := 1) dX6_brokenOf_1 (fX6_7 rfl) sh_54 rfl ?_
  refine e_bipush' (pc := 4) (nI 15) dX6_brokenOf_4 (by decide) ?_
  refine e_iload_n (pc := 6) (i := 1) dX6_brokenOf_6 rfl rfl ?_
  refine e_iadd (pc := 7) dX6_brokenOf_7 ?_
  refine E.it (nI (15 + w)) (nI_add _ _) ?_
  refine e_iald (pc := 8) dX6_brokenOf_8 sh_55 (vp_in_nI (by omega) (by omega)) ?_
  refine E.it (S0.1 55 (15 + w)) (by rw [nI_clamp (by omega)]) ?_
  refine e_istore_n (pc := 9) (i := 2) dX6_brokenOf_9 rfl (by decide) rfl ?_
  refine e_iconst' (pc := 10) (nI 0) dX6_brokenOf_10 (by decide) ?_
  refine e_istore_n (pc := 11) (i := 3) dX6_brokenOf_11 rfl (by decide) rfl ?_
  refine e_iconst' (pc := 12) (nI 0) dX6_brokenOf_12 (by decide) ?_
  refine e_istore (pc := 13) dX6_brokenOf_13 (by decide) rfl ?_
  exact lm_brokenOf hv hw hp hs hpp k 14 0 S0 (by omega) (by omega) FrK.rf (fun t ht => by omega)
theorem b_broken {sc : PSc} {S : PS} (hI : InvS S) (x : Int32) : Bth sc mX5_broken mX6_broken [.int x] S := by
  obtain ⟨R, hv, hc, hr, hp⟩ := hI.1
  obtain ⟨n0, sp, sv, hn6, t26, t18, tss⟩ := hI.2.2.2.2.1
  have hsc : SnC S n0 sp sv := ⟨hn6, t26, fun k hk => ⟨(tss k hk).1, (tss k hk).2.1, (tss k hk).2.2.1, (tss k hk).2.2.2.1⟩⟩
  have hsm : SnM S n0 sp sv := ⟨hn6, t18, fun k hk => ⟨(tss k hk).1, (tss k hk).2.1, (tss k hk).2.2.2.2.1, (tss k hk).2.2.2.2.2⟩⟩
  have hv5 := hv.1
  rcases Classical.em (inw x (R 20)) with ⟨w, rfl, hw⟩ | hn
  · obtain ⟨p, hpp⟩ : ∃ p : Nat → Bool, ∀ v, (v < R (5 + w) ∨ v = 12) → (p v = true ↔ fitP sp sv n0 (rs R (15 + w) v)) := ⟨fun v => @decide _ (Classical.propDecidable (fitP sp sv n0 (rs R (15 + w) v))), fun v _ => by simp⟩
    have htw := hv.2 w hw
    refine ask_both (nI (bitsG p (R (5 + w)))) hI (fun Q k => ?_) (fun S1 h1 Q k => ?_)
    · exact sp_broken hv hw hr hsc hpp (fun S2 h2 => k S2 h2.same)
    · show E sc mX6_broken 0 [.ref 54, .int (nI w)] [] S1 Q
      have hp := h1.pg (by omega) hv hp
      refine e_aload_n (pc := 0) (i := 0) dX6_broken_0 rfl rfl ?_
      refine e_iload_n (pc := 1) (i := 1) dX6_broken_1 rfl rfl ?_
      refine e_callV1 (pc := 2) (M' := mX6_isWheel) dX6_broken_2 iX6_isWheel lkX6_144 (by decide) (rO_obj sh_54 rfl) (Nat.le_of_ble_eq_true rfl) (Nat.le_of_ble_eq_true rfl) ?_
      refine sp_isWheelY hv hp hw ?_
      refine e_if_eq (pc := 5) (tgt := 16) dX6_broken_5 (by decide) (fun h5 => absurd h5 (by decide)) (fun h5 => ?_)
      refine e_aload_n (pc := 8) (i := 0) dX6_broken_8 rfl rfl ?_
      refine e_iload_n (pc := 9) (i := 1) dX6_broken_9 rfl rfl ?_
      refine e_callV1 (pc := 10) (M' := mX6_brokenOf) dX6_broken_10 iX6_brokenOf lkX6_212 (by decide) (rO_obj sh_54 rfl) (Nat.le_of_ble_eq_true rfl) (Nat.le_of_ble_eq_true rfl) ?_
      refine sp_brokenOf hv hw hp (hsm.same h1) hpp (fun S2 h2 _ => ?_)
      refine e_goto (pc := 13) (tgt := 17) dX6_broken_13 (by decide) ?_
      refine e_iret (pc := 17) (st := []) (ty := .int) dX6_broken_17 rfl rfl ?_
      rw [← bits_eq (by omega)]; exact k S2 h2
  · refine ask_both (-1) hI (fun Q k => ?_) (fun S1 h1 Q k => ?_)
    · show E sc mX5_broken 0 [.ref 0, .int x, .null, .null] [] S Q
      refine e_aload_n (pc := 0) (i := 0) dX5_broken_0 rfl rfl ?_
      refine e_getR (pc := 1) dX5_broken_1 (fX5_10 rfl) sh_0 rfl ?_
      refine e_iload_n (pc := 4) (i := 1) dX5_broken_4 rfl rfl ?_
      refine e_callV1 (pc := 5) (M' := mX0_has) dX5_broken_5 iX0_has lkX5_120 (by decide) (rO_obj sh_1 rfl) (Nat.le_of_ble_eq_true rfl) (Nat.le_of_ble_eq_true rfl) ?_
      refine sp_hasX r1 hv hr hn ?_
      refine e_if_ne (pc := 8) (tgt := 13) dX5_broken_8 (by decide) (fun h8 => absurd (by decide) h8) (fun h8 => ?_)
      refine e_iconst' (pc := 11) (-1) dX5_broken_11 (by decide) ?_
      refine e_iret (pc := 12) (st := []) (ty := .int) dX5_broken_12 rfl rfl ?_
      exact k _ Same.rf
    · show E sc mX6_broken 0 [.ref 54, .int x] [] S1 Q
      have hp := h1.pg (by omega) hv hp
      have hr := h1.row (by omega) hr
      refine e_aload_n (pc := 0) (i := 0) dX6_broken_0 rfl rfl ?_
      refine e_iload_n (pc := 1) (i := 1) dX6_broken_1 rfl rfl ?_
      refine e_callV1 (pc := 2) (M' := mX6_isWheel) dX6_broken_2 iX6_isWheel lkX6_144 (by decide) (rO_obj sh_54 rfl) (Nat.le_of_ble_eq_true rfl) (Nat.le_of_ble_eq_true rfl) ?_
      refine sp_isWheelX hv hp hn ?_
      refine e_if_eq (pc := 5) (tgt := 16) dX6_broken_5 (by decide) (fun h5 => ?_) (fun h5 => absurd (by decide) h5)
      refine e_iconst' (pc := 16) (-1) dX6_broken_16 (by decide) ?_
      refine e_iret (pc := 17) (st := []) (ty := .int) dX6_broken_17 rfl rfl ?_
      exact k _ Same.rf

/-! WHAT HOLDS BETWEEN THE CALLS: the class and the reference hold the same -/
abbrev inr (v : Int32) (lo hi : Nat) : Prop := ∃ b, v = nI b ∧ lo ≤ b ∧ b ≤ hi
abbrev inw (v : Int32) (n : Nat) : Prop := ∃ b, v = nI b ∧ b < n
theorem sp_winY {sc : PSc} {S : PS} {Q : PQ} {lo hi b : Nat} (h1 : lo ≤ b) (h2 : b ≤ hi) (hh : hi < 2 ^ 31) (k : Q (some (.int (nI 1))) S) : E sc mX5_within 0 (pL0 mX5_within [.int (nI b), .int (nI lo), .int (nI hi)]) [] S Q :=
  sp_within _ _ _ (fun _ _ => k) (fun h => (h (win_not hh h1 h2)).elim)
theorem sp_winX {sc : PSc} {S : PS} {Q : PQ} {v : Int32} {lo hi : Nat} (h : ¬ inr v lo hi) (hl : lo ≤ hi) (hh : hi < 2 ^ 31) (k : Q (some (.int (nI 0))) S) : E sc mX5_within 0 (pL0 mX5_within [.int v, .int (nI lo), .int (nI hi)]) [] S Q :=
  sp_within _ _ _ (fun h1 h2 => by obtain ⟨b, b1, b2, e⟩ := win_nat hh h1 h2 hl; exact (h ⟨b, e, b1, b2⟩).elim) (fun _ => k)
theorem sp_inY {sc : PSc} {S : PS} {Q : PQ} {A B : Int64} {lo b : Nat} {hi : Int} (hA : A.toInt = lo) (hB : B.toInt = hi) (h1 : lo ≤ b) (h2 : (b : Int) ≤ hi) (hb : b < 2 ^ 31) (k : Q (some (.int (nI 1))) S) : E sc mX6_in 0 (pL0 mX6_in [.long (nI b).toInt64, .long A, .long B]) [] S Q :=
  sp_inI hA hB (fun _ _ _ _ _ => k) (fun h => (h b hb rfl h1 h2).elim)
theorem sp_inX {sc : PSc} {S : PS} {Q : PQ} {v : Int32} {A B : Int64} {lo hi : Nat} (hA : A.toInt = lo) (hB : B.toInt = hi) (h : ¬ inr v lo hi) (k : Q (some (.int (nI 0))) S) : E sc mX6_in 0 (pL0 mX6_in [.long v.toInt64, .long A, .long B]) [] S Q :=
  sp_inI hA hB (fun b _ e h1 h2 => (h ⟨b, e, h1, by omega⟩).elim) (fun _ => k)
theorem sp_hasY {sc : PSc} {i j : Nat} {R : Rw} {S : PS} {Q : PQ} (hi : rI i) (hv : Vd R) (hr : RowAt S i R) (hj : j < R 20) (k : Q (some (.int (nI 1))) S) : E sc mX0_has 0 (pL0 mX0_has [.ref i, .int (nI j)]) [] S Q :=
  sp_has hi hv hr (fun _ _ _ => k) (fun h => by
    have h5 := hv.1
    rcases h with h | h
    · exact absurd h (nI_pos (by omega))
    · exact absurd h (nI_ge hj (by omega)))
theorem sp_hasX {sc : PSc} {i : Nat} {w : Int32} {R : Rw} {S : PS} {Q : PQ} (hi : rI i) (hv : Vd R) (hr : RowAt S i R) (h : ¬ inw w (R 20)) (k : Q (some (.int (nI 0))) S) : E sc mX0_has 0 (pL0 mX0_has [.ref i, .int w]) [] S Q :=
  sp_has hi hv hr (fun j hj e => (h ⟨j, e, hj⟩).elim) (fun _ => k)
theorem sp_isWheelY {sc : PSc} {j : Nat} {R : Rw} {S : PS} {Q : PQ} (hv : Vd R) (hr : PgAt S 0 R) (hj : j < R 20) (k : Q (some (.int (nI 1))) S) : E sc mX6_isWheel 0 (pL0 mX6_isWheel [.ref 54, .int (nI j)]) [] S Q :=
  sp_isWheel hv hr (fun _ _ _ => k) (fun h => by
    have h5 := hv.1
    rcases h with h | h
    · exact absurd h (nI_pos (by omega))
    · exact absurd h (nI_ge hj (by omega)))
theorem sp_isWheelX {sc : PSc} {w : Int32} {R : Rw} {S : PS} {Q : PQ} (hv : Vd R) (hr : PgAt S 0 R) (h : ¬ inw w (R 20)) (k : Q (some (.int (nI 0))) S) : E sc mX6_isWheel 0 (pL0 mX6_isWheel [.ref 54, .int w]) [] S Q :=
  sp_isWheel hv hr (fun j hj e => (h ⟨j, e, hj⟩).elim) (fun _ => k)
theorem sp_isDigitY {sc : PSc} {b : Nat} {S : PS} {Q : PQ} (hb : b ≤ 11) (k : Q (some (.int (nI 1))) S) : E sc mX6_isDigit 0 (pL0 mX6_isDigit [.int (nI b)]) [] S Q := sp_isDigit (fun _ _ _ => k) (fun h => (h b rfl hb).elim)
theorem sp_isDigitX {sc : PSc} {v : Int32} {S : PS} {Q : PQ} (h : ¬ inr v 0 11) (k : Q (some (.int (nI 0))) S) : E sc mX6_isDigit 0 (pL0 mX6_isDigit [.int v]) [] S Q := sp_isDigit (fun b e hb => (h ⟨b, e, by omega, hb⟩).elim) (fun _ => k)
theorem sp_isReadingY {sc : PSc} {b : Nat} {S : PS} {Q : PQ} (hb : b ≤ 248831) (k : Q (some (.int (nI 1))) S) : E sc mX6_isReading 0 (pL0 mX6_isReading [.int (nI b)]) [] S Q := sp_isReading (fun _ _ _ => k) (fun h => (h b rfl hb).elim)
theorem sp_isReadingX {sc : PSc} {v : Int32} {S : PS} {Q : PQ} (h : ¬ inr v 0 248831) (k : Q (some (.int (nI 0))) S) : E sc mX6_isReading 0 (pL0 mX6_isReading [.int v]) [] S Q := sp_isReading (fun b e hb => (h ⟨b, e, by omega, hb⟩).elim) (fun _ => k)
/-- the wheels and the count; an image; the tape; what was seen; a sheet -/
def I1 (S : PS) : Prop := ∃ R : Rw, Vd R ∧ R 21 ≤ 999999 ∧ RowAt S 1 R ∧ PgAt S 0 R
def I2 (S : PS) (k : Nat) : Prop := (S.1 22 k = nI 0 ∧ S.1 62 k = nI 0) ∨ (S.1 22 k = nI 1 ∧ S.1 62 k = nI 1 ∧ ∃ R : Rw, Vd R ∧ R 21 ≤ 999999 ∧ RowAt S (11 + 5 * k) R ∧ PgAt S (22 + 22 * k) R)
def I3 (S : PS) (n : Nat) (tp : Nat → Nat) : Prop := n ≤ 160 ∧ S.1 23 1 = nI n ∧ S.1 54 4 = nI n ∧ ∀ k, k < n → tp k < 128 ∧ S.1 24 k = nI (tp k) ∧ S.1 57 k = nI (tp k)
def I5 (S : PS) (n : Nat) (sp sv : Nat → Nat) : Prop := n ≤ 6 ∧ S.1 26 0 = nI n ∧ S.1 54 18 = nI n ∧ ∀ k, k < n → sp k ≤ 200 ∧ sv k ≤ 248831 ∧ S.1 27 k = nI (sp k) ∧ S.1 28 k = nI (sv k) ∧ S.1 60 (2 * k) = nI (sp k) ∧ S.1 60 (2 * k + 1) = nI (sv k)
def I6 (S : PS) (k : Nat) : Prop := (S.1 (30 + 2 * k) 0 = nI 0 ∧ S.1 63 k = -4) ∨ ∃ l n : Nat, l < 3 ∧ n ≤ 40 ∧ S.1 (30 + 2 * k) 0 = nI 1 ∧ S.1 (30 + 2 * k) 1 = nI l ∧ S.1 (30 + 2 * k) 2 = nI n ∧ S.1 63 k = nI l ∧ S.1 64 k = nI n ∧ ∀ i, i < n → S.1 (31 + 2 * k) i = S.1 65 (40 * k + i)
def lets : List Nat := [112, 108, 97, 105, 110, 104, 97, 115, 116, 121, 98, 97, 99, 107, 108, 97, 116, 101, 99, 111, 117, 110, 116]
def endsL : List Nat := [0, 5, 10, 14, 18, 23]
def I8 (S : PS) : Prop := (∀ k, k < 6 → S.1 58 k = nI (endsL.getD k 0)) ∧ ∀ k, k < 23 → S.1 59 k = nI (lets.getD k 0)
def InvS (S : PS) : Prop := I1 S ∧ (I2 S 0 ∧ I2 S 1) ∧ (∃ n tp, I3 S n tp) ∧ S.1 25 1 = S.1 54 5 ∧ (∃ n sp sv, I5 S n sp sv) ∧ (∀ k, k < 4 → I6 S k) ∧ S.1 0 8 = S.1 54 24 ∧ I8 S
/-- nothing that InvS speaks of has changed -/
def Same (S S' : PS) : Prop := (∀ j, (j ≤ 5 ∨ (11 ≤ j ∧ j ≤ 37)) → S'.1 j = S.1 j) ∧ (∀ k, (k = 4 ∨ k = 5 ∨ k = 18 ∨ k = 24) → S'.1 54 k = S.1 54 k) ∧ (∀ k, k < 66 → S'.1 55 k = S.1 55 k) ∧ (∀ j, ((57 ≤ j ∧ j ≤ 60) ∨ (62 ≤ j ∧ j ≤ 65)) → S'.1 j = S.1 j)
theorem Same.rf {S : PS} : Same S S := ⟨fun _ _ => rfl, fun _ _ => rfl, fun _ _ => rfl, fun _ _ => rfl⟩
theorem Same.tr {S S1 S2 : PS} (h : Same S S1) (h2 : Same S1 S2) : Same S S2 := ⟨fun j a => (h2.1 j a).trans (h.1 j a), fun j a => (h2.2.1 j a).trans (h.2.1 j a), fun j a => (h2.2.2.1 j a).trans (h.2.2.1 j a), fun j a => (h2.2.2.2 j a).trans (h.2.2.2 j a)⟩
theorem Fr.same {S S' : PS} (h : Fr 6 5 S S') : Same S S' := ⟨fun j a => h.2 j (by omega), fun k _ => by rw [h.2 54 (by omega)], fun k _ => by rw [h.2 55 (by omega)], fun j a => h.2 j (by omega)⟩
theorem FrP.same {p : Nat} {S S' : PS} (h : FrP p S S') (hp : 66 ≤ p) : Same S S' := ⟨fun j a => h.2.1 j (by omega) (by omega), fun k a => h.2.2.2 k (by omega), fun k a => h.2.2.1 k (by omega), fun j a => h.2.1 j (by omega) (by omega)⟩
theorem FrQ.same {p : Nat} {S S' : PS} (h : FrQ p S S') (hp : 66 ≤ p) : Same S S' := h.P.same hp
theorem Same.row {S S' : PS} (h : Same S S') {i : Nat} (hi : i = 1 ∨ i = 11 ∨ i = 16) {R : Rw} (hr : RowAt S i R) : RowAt S' i R := by
  obtain ⟨a, b, c⟩ := hr
  have e : ∀ q, i ≤ q → q < i + 5 → S'.1 q = S.1 q := fun q h1 h2 => h.1 q (by omega)
  refine ⟨by rw [e i (by omega) (by omega)]; exact a, by rw [e i (by omega) (by omega)]; exact b, fun w hw => ?_⟩
  rw [e (i + 1) (by omega) (by omega), e (i + 2) (by omega) (by omega), e (i + 3) (by omega) (by omega), e (i + 4) (by omega) (by omega)]
  exact c w hw
theorem Same.pg {S S' : PS} (h : Same S S') {p : Nat} (hp : p + 22 ≤ 66) {R : Rw} (hv : Vd R) (hr : PgAt S p R) : PgAt S' p R := hr.of (fun k _ h2 => h.2.2.1 k (by omega)) hv.1
theorem Same.i1 {S S' : PS} (h : Same S S') (hi : I1 S) : I1 S' := by
  obtain ⟨R, a, b, c, d⟩ := hi
  exact ⟨R, a, b, h.row (by omega) c, h.pg (by omega) a d⟩
theorem Same.i2 {S S' : PS} (h : Same S S') {k : Nat} (hk : k < 2) (hi : I2 S k) : I2 S' k := by
  unfold I2 at hi ⊢
  rw [h.1 22 (by omega), h.2.2.2 62 (by omega)]
  rcases hi with hi | ⟨a, b, R, c, d, e, f⟩
  · exact Or.inl hi
  · exact Or.inr ⟨a, b, R, c, d, h.row (by omega) e, h.pg (by omega) c f⟩
theorem Same.i3 {S S' : PS} (h : Same S S') {n : Nat} {tp : Nat → Nat} (hi : I3 S n tp) : I3 S' n tp := by
  unfold I3 at hi ⊢
  rw [h.1 23 (by omega), h.1 24 (by omega), h.2.1 4 (by omega), h.2.2.2 57 (by omega)]
  exact hi
theorem Same.i5 {S S' : PS} (h : Same S S') {n : Nat} {sp sv : Nat → Nat} (hi : I5 S n sp sv) : I5 S' n sp sv := by
  unfold I5 at hi ⊢
  rw [h.1 26 (by omega), h.1 27 (by omega), h.1 28 (by omega), h.2.1 18 (by omega), h.2.2.2 60 (by omega)]
  exact hi
theorem Same.i6 {S S' : PS} (h : Same S S') {k : Nat} (hk : k < 4) (hi : I6 S k) : I6 S' k := by
  unfold I6 at hi ⊢
  rw [h.1 (30 + 2 * k) (by omega), h.1 (31 + 2 * k) (by omega), h.2.2.2 63 (by omega), h.2.2.2 64 (by omega), h.2.2.2 65 (by omega)]
  exact hi
theorem Same.i8 {S S' : PS} (h : Same S S') (hi : I8 S) : I8 S' := by
  unfold I8 at hi ⊢
  rw [h.2.2.2 58 (by omega), h.2.2.2 59 (by omega)]
  exact hi
theorem Same.inv {S S' : PS} (h : Same S S') (hi : InvS S) : InvS S' := by
  obtain ⟨a, ⟨b, c⟩, ⟨n, tp, d⟩, e, ⟨m, sp, sv, f⟩, g, i, j⟩ := hi
  refine ⟨h.i1 a, ⟨h.i2 (by omega) b, h.i2 (by omega) c⟩, ⟨n, tp, h.i3 d⟩, ?_, ⟨m, sp, sv, h.i5 f⟩, fun k hk => h.i6 hk (g k hk), ?_, h.i8 j⟩
  · rw [h.1 25 (by omega), h.2.1 5 (by omega)]; exact e
  · rw [h.1 0 (by omega), h.2.1 24 (by omega)]; exact i
/-- both answer alike, and hold the same afterwards -/
def Bth (sc : PSc) (M1 M2 : PM) (As : List Value) (S : PS) : Prop := E sc M1 0 (pL0 M1 (.ref 0 :: As)) [] S (fun r S1 => ∃ v : Int32, r = some (.int v) ∧ E sc M2 0 (pL0 M2 (.ref 54 :: As)) [] S1 (fun r2 S2 => r2 = some (.int v) ∧ InvS S2))
def BthL (sc : PSc) (M1 M2 : PM) (As : List Value) (S : PS) : Prop := E sc M1 0 (pL0 M1 (.ref 0 :: As)) [] S (fun r S1 => ∃ v : Int64, r = some (.long v) ∧ E sc M2 0 (pL0 M2 (.ref 54 :: As)) [] S1 (fun r2 S2 => r2 = some (.long v) ∧ InvS S2))
/-- a question: nothing is changed by it -/
theorem ask_both {sc : PSc} {M1 M2 : PM} {As : List Value} {S : PS} (v : Int32) (hI : InvS S) (hc : ∀ Q : PQ, (∀ S', Same S S' → Q (some (.int v)) S') → E sc M1 0 (pL0 M1 (.ref 0 :: As)) [] S Q) (hm : ∀ (S1 : PS), Same S S1 → ∀ Q : PQ, (∀ S', Same S1 S' → Q (some (.int v)) S') → E sc M2 0 (pL0 M2 (.ref 54 :: As)) [] S1 Q) : Bth sc M1 M2 As S :=
  hc _ (fun S1 h1 => ⟨v, rfl, hm S1 h1 _ (fun S2 h2 => ⟨rfl, (h1.tr h2).inv hI⟩)⟩)
theorem ask_bothL {sc : PSc} {M1 M2 : PM} {As : List Value} {S : PS} (v : Int64) (hI : InvS S) (hc : ∀ Q : PQ, (∀ S', Same S S' → Q (some (.long v)) S') → E sc M1 0 (pL0 M1 (.ref 0 :: As)) [] S Q) (hm : ∀ (S1 : PS), Same S S1 → ∀ Q : PQ, (∀ S', Same S1 S' → Q (some (.long v)) S') → E sc M2 0 (pL0 M2 (.ref 54 :: As)) [] S1 Q) : BthL sc M1 M2 As S :=
  hc _ (fun S1 h1 => ⟨v, rfl, hm S1 h1 _ (fun S2 h2 => ⟨rfl, (h1.tr h2).inv hI⟩)⟩)
theorem r1 : rI 1 := Or.inl rfl
theorem r6 : rI 6 := Or.inr (Or.inl rfl)
theorem r11 : rI 11 := Or.inr (Or.inr (Or.inl rfl))
theorem r16 : rI 16 := Or.inr (Or.inr (Or.inr rfl))

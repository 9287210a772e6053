/-! WHAT A ROW IS: 0.. kinds, 5.. teeth, 10.. digits, 15.. broken teeth (12: none), 20 how many wheels, 21 the count -/
abbrev Rw : Type := Nat → Nat
def rs (R : Rw) (i v : Nat) : Rw := fun j => if j = i then v else R j
theorem rs_at (R : Rw) (i v : Nat) : rs R i v i = v := if_pos rfl
theorem rs_ne (R : Rw) {i j : Nat} (v : Nat) (h : j ≠ i) : rs R i v j = R j := if_neg h
def Vd (R : Rw) : Prop := R 20 ≤ 5 ∧ ∀ w, w < R 20 → R w < 4 ∧ 2 ≤ R (5 + w) ∧ R (5 + w) ≤ 12 ∧ R (10 + w) < R (5 + w) ∧ (R (15 + w) < R (5 + w) ∨ R (15 + w) = 12)
/-- the digit to which a wheel turns -/
def tn (R : Rw) (w : Nat) : Nat := (R (10 + w) + (if R w = 0 then 1 else if R w = 1 then 2 else R (5 + w) - 1)) % R (5 + w)
/-- whether it carries -/
def cy (R : Rw) (w : Nat) : Bool := (if R w = 1 then decide (R (5 + w) ≤ R (10 + w) + 2) else if R w = 2 then decide (R (10 + w) = 0) else decide (R (10 + w) + 1 = R (5 + w))) && decide (R (10 + w) ≠ R (15 + w))
/-- a turn of wheel i, and what it carries on: the row then, how many carried -/
def tf : Nat → Rw → Nat → Rw × Nat
  | 0, R, _ => (R, 0)
  | n + 1, R, i => if i < R 20 then (if cy R i then ((tf n (rs R (10 + i) (tn R i)) (i + 1)).1, (tf n (rs R (10 + i) (tn R i)) (i + 1)).2 + 1) else (rs R (10 + i) (tn R i), 0)) else (R, 0)
def turnR (R : Rw) (w : Nat) : Rw × Nat := tf 5 R w
def pushR (R : Rw) : Rw × Nat := turnR (rs R 21 (R 21 + 1)) 0
def pn (R : Rw) : Nat → Rw
  | 0 => R
  | n + 1 => (pushR (pn R n)).1
def cn (R : Rw) : Nat → Nat
  | 0 => 0
  | n + 1 => cn R n + (pushR (pn R n)).2
def wt (R : Rw) : Nat → Nat
  | 0 => 1
  | k + 1 => wt R k * R (5 + k)
def rdk (R : Rw) : Nat → Nat
  | 0 => 0
  | k + 1 => rdk R k + wt R k * R (10 + k)
def reads (R : Rw) : Nat := rdk R (R 20)
def allR (R : Rw) : Nat := wt R (R 20)
def err (R : Rw) : Nat := if reads R < R 21 % allR R then R 21 % allR R - reads R else reads R - R 21 % allR R
theorem tn0 {R : Rw} {w : Nat} (h : R w = 0) : tn R w = (R (10 + w) + 1) % R (5 + w) := by simp [tn, h]
theorem tn1 {R : Rw} {w : Nat} (h : R w = 1) : tn R w = (R (10 + w) + 2) % R (5 + w) := by simp [tn, h]
theorem tn2 {R : Rw} {w : Nat} (h : 2 ≤ R w) : tn R w = (R (10 + w) + (R (5 + w) - 1)) % R (5 + w) := by
  rw [tn, if_neg (by omega), if_neg (by omega)]
theorem tn_lt {R : Rw} {w : Nat} (h : 0 < R (5 + w)) : tn R w < R (5 + w) := Nat.mod_lt _ h
theorem rs_vd {R : Rw} {i v : Nat} (h : Vd R) (hi : i < R 20) (hv : v < R (5 + i)) : Vd (rs R (10 + i) v) := by
  have h5 := h.1
  refine ⟨by rw [rs_ne _ _ (by omega)]; exact h5, fun w hw => ?_⟩
  rw [rs_ne _ _ (by omega)] at hw
  obtain ⟨a, b, c, d, e⟩ := h.2 w hw
  rw [rs_ne _ _ (show w ≠ 10 + i by omega), rs_ne _ _ (show 5 + w ≠ 10 + i by omega), rs_ne _ _ (show 15 + w ≠ 10 + i by omega)]
  refine ⟨a, b, c, ?_, e⟩
  by_cases hq : w = i
  · subst hq; rw [rs_at]; exact hv
  · rw [rs_ne _ _ (by omega)]; exact d
theorem rc_vd {R : Rw} {v : Nat} (h : Vd R) : Vd (rs R 21 v) := by
  have h5 := h.1
  refine ⟨by rw [rs_ne _ _ (by omega)]; exact h5, fun w hw => ?_⟩
  rw [rs_ne _ _ (by omega)] at hw
  rw [rs_ne _ _ (show w ≠ 21 by omega), rs_ne _ _ (show 5 + w ≠ 21 by omega), rs_ne _ _ (show 10 + w ≠ 21 by omega), rs_ne _ _ (show 15 + w ≠ 21 by omega)]
  exact h.2 w hw
theorem tf_vd (n : Nat) : ∀ (R : Rw) (i : Nat), Vd R → Vd (tf n R i).1 := by
  induction n with
  | zero => intro R i h; exact h
  | succ n ih =>
    intro R i h
    rw [tf]
    by_cases hi : i < R 20
    · rw [if_pos hi]
      have hd := rs_vd h hi (tn_lt (R := R) (w := i) (by have := (h.2 i hi).2.1; omega))
      by_cases hc : cy R i = true
      · rw [if_pos hc]; exact ih _ _ hd
      · rw [if_neg hc]; exact hd
    · rw [if_neg hi]; exact h
theorem tf_keep (n : Nat) : ∀ (R : Rw) (i : Nat), R 20 ≤ 5 → ∀ j, (j < 10 ∨ 15 ≤ j) → (tf n R i).1 j = R j := by
  induction n with
  | zero => intro R i h j hj; rfl
  | succ n ih =>
    intro R i h j hj
    rw [tf]
    by_cases hi : i < R 20
    · rw [if_pos hi]
      by_cases hc : cy R i = true
      · rw [if_pos hc]
        show (tf n (rs R (10 + i) (tn R i)) (i + 1)).1 j = R j
        rw [ih _ _ (by rw [rs_ne _ _ (by omega)]; exact h) j hj, rs_ne _ _ (by omega)]
      · rw [if_neg hc]; exact rs_ne _ _ (by omega)
    · rw [if_neg hi]
theorem turn_vd {R : Rw} {w : Nat} (h : Vd R) : Vd (turnR R w).1 := tf_vd 5 R w h
theorem push_vd {R : Rw} (h : Vd R) : Vd (pushR R).1 := tf_vd 5 _ 0 (rc_vd h)
theorem push_keep {R : Rw} (h : Vd R) {j : Nat} (hj : j < 10 ∨ 15 ≤ j) (h21 : j ≠ 21) : (pushR R).1 j = R j := by
  rw [pushR, turnR, tf_keep 5 _ 0 (by rw [rs_ne _ _ (by omega)]; exact h.1) j hj, rs_ne _ _ h21]
theorem push_count {R : Rw} (h : Vd R) : (pushR R).1 21 = R 21 + 1 := by
  rw [pushR, turnR, tf_keep 5 _ 0 (by rw [rs_ne _ _ (by omega)]; exact h.1) 21 (by omega), rs_at]
theorem pn_vd {R : Rw} (h : Vd R) : ∀ n, Vd (pn R n)
  | 0 => h
  | n + 1 => push_vd (pn_vd h n)
theorem pn_keep {R : Rw} (h : Vd R) {j : Nat} (hj : j < 10 ∨ 15 ≤ j) (h21 : j ≠ 21) : ∀ n, pn R n j = R j
  | 0 => rfl
  | n + 1 => by rw [pn, push_keep (pn_vd h n) hj h21, pn_keep h hj h21 n]
theorem pn_count {R : Rw} (h : Vd R) : ∀ n, pn R n 21 = R 21 + n
  | 0 => rfl
  | n + 1 => by rw [pn, push_count (pn_vd h n), pn_count h n]; omega
theorem wt_pos {R : Rw} (h : Vd R) : ∀ k, k ≤ R 20 → 1 ≤ wt R k ∧ wt R k ≤ 12 ^ k
  | 0, _ => ⟨Nat.le_refl _, Nat.le_refl _⟩
  | k + 1, hk => by
    obtain ⟨a, b⟩ := wt_pos h k (by omega)
    obtain ⟨-, c, d, -⟩ := h.2 k (by omega)
    refine ⟨Nat.mul_pos a (by omega), ?_⟩
    rw [wt, Nat.pow_succ]
    exact Nat.mul_le_mul b d
theorem rdk_lt {R : Rw} (h : Vd R) : ∀ k, k ≤ R 20 → rdk R k < wt R k
  | 0, _ => Nat.zero_lt_one
  | k + 1, hk => by
    have a := rdk_lt h k (by omega)
    obtain ⟨-, -, -, d, -⟩ := h.2 k (by omega)
    rw [rdk, wt]
    have e : wt R k * R (10 + k) + wt R k ≤ wt R k * R (5 + k) := by
      rw [← Nat.mul_succ]; exact Nat.mul_le_mul (Nat.le_refl _) d
    omega
theorem all_pos {R : Rw} (h : Vd R) : 1 ≤ allR R ∧ allR R ≤ 248832 := by
  obtain ⟨a, b⟩ := wt_pos h (R 20) (Nat.le_refl _)
  exact ⟨a, Nat.le_trans b (Nat.le_trans (Nat.pow_le_pow_right (by decide) h.1) (by decide))⟩
theorem reads_lt {R : Rw} (h : Vd R) : reads R < allR R := rdk_lt h _ (Nat.le_refl _)
theorem reads_le {R : Rw} (h : Vd R) : reads R ≤ 248831 := by have := reads_lt h; have := (all_pos h).2; omega
theorem err_le {R : Rw} (h : Vd R) : err R ≤ 248831 := by
  have a := reads_lt h
  have b := all_pos h
  have c := Nat.mod_lt (R 21) (show 0 < allR R by omega)
  unfold err
  split <;> omega
/-! the class's row at cell i; the reference's page at place p -/
def RowAt (S : PS) (i : Nat) (R : Rw) : Prop := S.1 i 0 = nI (R 20) ∧ S.1 i 1 = nI (R 21) ∧ ∀ w, w < R 20 → S.1 (i + 1) w = nI (R w) ∧ S.1 (i + 2) w = nI (R (5 + w)) ∧ S.1 (i + 3) w = nI (R (10 + w)) ∧ S.1 (i + 4) w = nI (R (15 + w))
def PgAt (S : PS) (p : Nat) (R : Rw) : Prop := S.1 55 (p + 20) = nI (R 20) ∧ S.1 55 (p + 21) = nI (R 21) ∧ ∀ w, w < R 20 → S.1 55 (p + w) = nI (R w) ∧ S.1 55 (p + 5 + w) = nI (R (5 + w)) ∧ S.1 55 (p + 10 + w) = nI (R (10 + w)) ∧ S.1 55 (p + 15 + w) = nI (R (15 + w)) - nI 12
/-- nothing but the cells i up to i + n has changed -/
def Fr (i n : Nat) (S S' : PS) : Prop := S'.2 = S.2 ∧ ∀ j, (j < i ∨ i + n ≤ j) → S'.1 j = S.1 j
theorem Fr.rf {i n : Nat} {S : PS} : Fr i n S S := ⟨rfl, fun _ _ => rfl⟩
theorem Fr.tr {i n : Nat} {S S1 S2 : PS} (h : Fr i n S S1) (h2 : Fr i n S1 S2) : Fr i n S S2 := ⟨h2.1.trans h.1, fun j hj => (h2.2 j hj).trans (h.2 j hj)⟩
theorem Fr.up {i n j k : Nat} {v : Int32} {S S1 : PS} (h : Fr i n S S1) (h1 : i ≤ j) (h2 : j < i + n) : Fr i n S (up2 S1.1 j k v, S1.2) := ⟨h.1, fun q hq => by
  rw [← h.2 q hq]
  exact up2_ne _ _ _ (by omega)⟩
theorem Fr.wide {i n i2 n2 : Nat} {S S1 : PS} (h : Fr i n S S1) (h1 : i2 ≤ i) (h2 : i + n ≤ i2 + n2) : Fr i2 n2 S S1 := ⟨h.1, fun j hj => h.2 j (by omega)⟩
theorem RowAt.fr {i j n : Nat} {S S' : PS} {R : Rw} (h : RowAt S i R) (hf : Fr j n S S') (hd : i + 5 ≤ j ∨ j + n ≤ i) : RowAt S' i R := by
  obtain ⟨a, b, c⟩ := h
  have e : ∀ q, i ≤ q → q < i + 5 → S'.1 q = S.1 q := fun q h1 h2 => hf.2 q (by omega)
  refine ⟨by rw [e i (by omega) (by omega)]; exact a, by rw [e i (by omega) (by omega)]; exact b, fun w hw => ?_⟩
  rw [e (i + 1) (by omega) (by omega), e (i + 2) (by omega) (by omega), e (i + 3) (by omega) (by omega), e (i + 4) (by omega) (by omega)]
  exact c w hw
theorem rin {R : Rw} {w : Nat} (hv : Vd R) (hw : w < R 20) : vp_in (nI w) 5 := vp_in_nI (by have := hv.1; omega) (by decide)
theorem rcl {R : Rw} {w : Nat} (hv : Vd R) (hw : w < R 20) : (nI w).toNatClampNeg = w := nI_clamp (by have := hv.1; omega)
theorem rk {S : PS} {i w : Nat} {R : Rw} (hv : Vd R) (hr : RowAt S i R) (hw : w < R 20) : S.1 (i + 1) (nI w).toNatClampNeg = nI (R w) := by rw [rcl hv hw]; exact (hr.2.2 w hw).1
theorem rt {S : PS} {i w : Nat} {R : Rw} (hv : Vd R) (hr : RowAt S i R) (hw : w < R 20) : S.1 (i + 2) (nI w).toNatClampNeg = nI (R (5 + w)) := by rw [rcl hv hw]; exact (hr.2.2 w hw).2.1
theorem rg {S : PS} {i w : Nat} {R : Rw} (hv : Vd R) (hr : RowAt S i R) (hw : w < R 20) : S.1 (i + 3) (nI w).toNatClampNeg = nI (R (10 + w)) := by rw [rcl hv hw]; exact (hr.2.2 w hw).2.2.1
theorem rb {S : PS} {i w : Nat} {R : Rw} (hv : Vd R) (hr : RowAt S i R) (hw : w < R 20) : S.1 (i + 4) (nI w).toNatClampNeg = nI (R (15 + w)) := by rw [rcl hv hw]; exact (hr.2.2 w hw).2.2.2
theorem qeq {Q : PQ} {x y : Int32} {S : PS} (k : Q (some (.int y)) S) (h : x = y) : Q (some (.int x)) S := h ▸ k
theorem qeqL {Q : PQ} {x y : Int64} {S : PS} (k : Q (some (.long y)) S) (h : x = y) : Q (some (.long x)) S := h ▸ k
theorem bI {b : Bool} : (nI (if b then 1 else 0) = 0 ↔ b = false) := by cases b <;> decide
theorem nar_b (b : Bool) : narrow .boolean (.int (nI (if b then 1 else 0))) = .int (nI (if b then 1 else 0)) := by cases b <;> rfl

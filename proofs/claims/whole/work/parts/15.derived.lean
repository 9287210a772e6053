theorem e_iconst' {sc : PSc} {M : PM} {pc : Nat} {lo st : List Value} {S : PS} {Q : PQ} {n : Int} (v : Int32) (h0 : decode (pmB M) pc = .ok (.iconst n, 1)) (hv : Int32.ofInt n = v) (k0 : E sc M (pc + 1) lo (.int v :: st) S Q) : E sc M pc lo st S Q := e_iconst h0 (by rw [hv]; exact k0)
theorem e_bipush' {sc : PSc} {M : PM} {pc : Nat} {lo st : List Value} {S : PS} {Q : PQ} {n : Int} (v : Int32) (h0 : decode (pmB M) pc = .ok (.bipush n, 2)) (hv : (Int8.ofInt n).toInt32 = v) (k0 : E sc M (pc + 2) lo (.int v :: st) S Q) : E sc M pc lo st S Q := e_bipush h0 (by rw [hv]; exact k0)
theorem e_sipush' {sc : PSc} {M : PM} {pc : Nat} {lo st : List Value} {S : PS} {Q : PQ} {n : Int} (v : Int32) (h0 : decode (pmB M) pc = .ok (.sipush n, 3)) (hv : (Int16.ofInt n).toInt32 = v) (k0 : E sc M (pc + 3) lo (.int v :: st) S Q) : E sc M pc lo st S Q := e_sipush h0 (by rw [hv]; exact k0)
theorem e_lconst' {sc : PSc} {M : PM} {pc : Nat} {lo st : List Value} {S : PS} {Q : PQ} {n : Fin 2} (v : Int64) (h0 : decode (pmB M) pc = .ok (.lconst n, 1)) (hv : Int64.ofNat (n : Nat) = v) (k0 : E sc M (pc + 1) lo (.long v :: st) S Q) : E sc M pc lo st S Q := e_lconst h0 (by rw [hv]; exact k0)
theorem e_ldc' {sc : PSc} {M : PM} {pc : Nat} {lo st : List Value} {S : PS} {Q : PQ} {x : Nat} {w : Int32} (v : Int32) (h0 : decode (pmB M) pc = .ok (.ldc x, 2)) (h1 : kOk M x w) (hv : w = v) (k0 : E sc M (pc + 2) lo (.int v :: st) S Q) : E sc M pc lo st S Q := e_ldc h0 h1 (by rw [hv]; exact k0)
theorem e_ldcw' {sc : PSc} {M : PM} {pc : Nat} {lo st : List Value} {S : PS} {Q : PQ} {x : Nat} {w : Int32} (v : Int32) (h0 : decode (pmB M) pc = .ok (.ldc_w x, 3)) (h1 : kOk M x w) (hv : w = v) (k0 : E sc M (pc + 3) lo (.int v :: st) S Q) : E sc M pc lo st S Q := e_ldcw h0 h1 (by rw [hv]; exact k0)
theorem e_iinc' {sc : PSc} {M : PM} {pc : Nat} {lo st : List Value} {S : PS} {Q : PQ} {i : Nat} {n : Int} {x : Int32} (v : Int32) (h0 : decode (pmB M) pc = .ok (.iinc i n, 3)) (h1 : lo[i]? = some (.int x)) (h2 : i < pmL M) (h3 : pre2 lo i = true) (hv : x + Int32.ofInt n = v) (k0 : E sc M (pc + 3) (lo.set i (.int v)) st S Q) : E sc M pc lo st S Q := e_iinc h0 h1 h2 h3 (by rw [hv]; exact k0)
theorem E.st {sc : PSc} {M : PM} {pc : Nat} {lo st st2 : List Value} {S : PS} {Q : PQ} (h : st = st2) (k : E sc M pc lo st2 S Q) : E sc M pc lo st S Q := h ▸ k
theorem E.lo {sc : PSc} {M : PM} {pc : Nat} {lo lo2 st : List Value} {S : PS} {Q : PQ} (h : lo = lo2) (k : E sc M pc lo2 st S Q) : E sc M pc lo st S Q := h ▸ k
theorem E.it {sc : PSc} {M : PM} {pc : Nat} {lo st : List Value} {S : PS} {Q : PQ} {x : Int32} (y : Int32) (h : x = y) (k : E sc M pc lo (.int y :: st) S Q) : E sc M pc lo (.int x :: st) S Q := h ▸ k
theorem E.lt {sc : PSc} {M : PM} {pc : Nat} {lo st : List Value} {S : PS} {Q : PQ} {x : Int64} (y : Int64) (h : x = y) (k : E sc M pc lo (.long y :: st) S Q) : E sc M pc lo (.long x :: st) S Q := h ▸ k
theorem E.nm {sc : PSc} {M : PM} {pc : Nat} {lo st : List Value} {S : PS} {Q : PQ} {x : Int32} (k : ∀ y : Int32, y = x → E sc M pc lo (.int y :: st) S Q) : E sc M pc lo (.int x :: st) S Q := k x rfl
theorem E.Sn {sc : PSc} {M : PM} {pc : Nat} {lo st : List Value} {S : PS} {Q : PQ} (k : ∀ S2 : PS, S2 = S → E sc M pc lo st S2 Q) : E sc M pc lo st S Q := k S rfl
theorem e_callV0 {sc : PSc} {M : PM} {pc : Nat} {lo st : List Value} {S : PS} {Q : PQ} {M' : PM} {x : Nat} {i : Nat}  (h0 : decode (pmB M) pc = .ok (.invokevirtual x, 3)) (h1 : iOk M' 0) (h2 : lOk (pmY M).cls x (pmY M')) (h3 : pmV M' < pmV M) (h4 : rOk i (pmY M').cls) (h7 : (st.map fun v => v.category).sum ≤ 8) (h8 : (pEl (.ref i :: [])).length ≤ pmL M') (k0 : E sc M' 0 (pL0 M' (.ref i :: [])) [] S (fun r S' => E sc M (pc + 3) lo (r.toList ++ st) S' Q)) : E sc M pc lo (.ref i :: st) S Q := e_callV (As := []) h0 h1 h2 h3 h4 rfl rfl h7 h8 k0
theorem e_callV1 {sc : PSc} {M : PM} {pc : Nat} {lo st : List Value} {S : PS} {Q : PQ} {M' : PM} {x : Nat} {i : Nat} {a1 : Value} (h0 : decode (pmB M) pc = .ok (.invokevirtual x, 3)) (h1 : iOk M' 1) (h2 : lOk (pmY M).cls x (pmY M')) (h3 : pmV M' < pmV M) (h4 : rOk i (pmY M').cls) (h7 : (st.map fun v => v.category).sum ≤ 8) (h8 : (pEl (.ref i :: [a1])).length ≤ pmL M') (k0 : E sc M' 0 (pL0 M' (.ref i :: [a1])) [] S (fun r S' => E sc M (pc + 3) lo (r.toList ++ st) S' Q)) : E sc M pc lo (a1 :: .ref i :: st) S Q := e_callV (As := [a1]) h0 h1 h2 h3 h4 rfl rfl h7 h8 k0
theorem e_callS1 {sc : PSc} {M : PM} {pc : Nat} {lo st : List Value} {S : PS} {Q : PQ} {M' : PM} {x : Nat} {a1 : Value} (h0 : decode (pmB M) pc = .ok (.invokestatic x, 3)) (h1 : jOk M' 1) (h2 : lOk (pmY M).cls x (pmY M')) (h3 : pmV M' < pmV M) (h7 : (st.map fun v => v.category).sum ≤ 8) (h8 : (pEl [a1]).length ≤ pmL M') (k0 : E sc M' 0 (pL0 M' [a1]) [] S (fun r S' => E sc M (pc + 3) lo (r.toList ++ st) S' Q)) : E sc M pc lo (a1 :: st) S Q := e_callS (As := [a1]) h0 h1 h2 h3 rfl rfl h7 h8 k0
theorem e_callV2 {sc : PSc} {M : PM} {pc : Nat} {lo st : List Value} {S : PS} {Q : PQ} {M' : PM} {x : Nat} {i : Nat} {a1 a2 : Value} (h0 : decode (pmB M) pc = .ok (.invokevirtual x, 3)) (h1 : iOk M' 2) (h2 : lOk (pmY M).cls x (pmY M')) (h3 : pmV M' < pmV M) (h4 : rOk i (pmY M').cls) (h7 : (st.map fun v => v.category).sum ≤ 8) (h8 : (pEl (.ref i :: [a1, a2])).length ≤ pmL M') (k0 : E sc M' 0 (pL0 M' (.ref i :: [a1, a2])) [] S (fun r S' => E sc M (pc + 3) lo (r.toList ++ st) S' Q)) : E sc M pc lo (a2 :: a1 :: .ref i :: st) S Q := e_callV (As := [a1, a2]) h0 h1 h2 h3 h4 rfl rfl h7 h8 k0
theorem e_callS2 {sc : PSc} {M : PM} {pc : Nat} {lo st : List Value} {S : PS} {Q : PQ} {M' : PM} {x : Nat} {a1 a2 : Value} (h0 : decode (pmB M) pc = .ok (.invokestatic x, 3)) (h1 : jOk M' 2) (h2 : lOk (pmY M).cls x (pmY M')) (h3 : pmV M' < pmV M) (h7 : (st.map fun v => v.category).sum ≤ 8) (h8 : (pEl [a1, a2]).length ≤ pmL M') (k0 : E sc M' 0 (pL0 M' [a1, a2]) [] S (fun r S' => E sc M (pc + 3) lo (r.toList ++ st) S' Q)) : E sc M pc lo (a2 :: a1 :: st) S Q := e_callS (As := [a1, a2]) h0 h1 h2 h3 rfl rfl h7 h8 k0
theorem e_callV3 {sc : PSc} {M : PM} {pc : Nat} {lo st : List Value} {S : PS} {Q : PQ} {M' : PM} {x : Nat} {i : Nat} {a1 a2 a3 : Value} (h0 : decode (pmB M) pc = .ok (.invokevirtual x, 3)) (h1 : iOk M' 3) (h2 : lOk (pmY M).cls x (pmY M')) (h3 : pmV M' < pmV M) (h4 : rOk i (pmY M').cls) (h7 : (st.map fun v => v.category).sum ≤ 8) (h8 : (pEl (.ref i :: [a1, a2, a3])).length ≤ pmL M') (k0 : E sc M' 0 (pL0 M' (.ref i :: [a1, a2, a3])) [] S (fun r S' => E sc M (pc + 3) lo (r.toList ++ st) S' Q)) : E sc M pc lo (a3 :: a2 :: a1 :: .ref i :: st) S Q := e_callV (As := [a1, a2, a3]) h0 h1 h2 h3 h4 rfl rfl h7 h8 k0
theorem e_callS3 {sc : PSc} {M : PM} {pc : Nat} {lo st : List Value} {S : PS} {Q : PQ} {M' : PM} {x : Nat} {a1 a2 a3 : Value} (h0 : decode (pmB M) pc = .ok (.invokestatic x, 3)) (h1 : jOk M' 3) (h2 : lOk (pmY M).cls x (pmY M')) (h3 : pmV M' < pmV M) (h7 : (st.map fun v => v.category).sum ≤ 8) (h8 : (pEl [a1, a2, a3]).length ≤ pmL M') (k0 : E sc M' 0 (pL0 M' [a1, a2, a3]) [] S (fun r S' => E sc M (pc + 3) lo (r.toList ++ st) S' Q)) : E sc M pc lo (a3 :: a2 :: a1 :: st) S Q := e_callS (As := [a1, a2, a3]) h0 h1 h2 h3 rfl rfl h7 h8 k0
theorem e_callV4 {sc : PSc} {M : PM} {pc : Nat} {lo st : List Value} {S : PS} {Q : PQ} {M' : PM} {x : Nat} {i : Nat} {a1 a2 a3 a4 : Value} (h0 : decode (pmB M) pc = .ok (.invokevirtual x, 3)) (h1 : iOk M' 4) (h2 : lOk (pmY M).cls x (pmY M')) (h3 : pmV M' < pmV M) (h4 : rOk i (pmY M').cls) (h7 : (st.map fun v => v.category).sum ≤ 8) (h8 : (pEl (.ref i :: [a1, a2, a3, a4])).length ≤ pmL M') (k0 : E sc M' 0 (pL0 M' (.ref i :: [a1, a2, a3, a4])) [] S (fun r S' => E sc M (pc + 3) lo (r.toList ++ st) S' Q)) : E sc M pc lo (a4 :: a3 :: a2 :: a1 :: .ref i :: st) S Q := e_callV (As := [a1, a2, a3, a4]) h0 h1 h2 h3 h4 rfl rfl h7 h8 k0
theorem e_callS4 {sc : PSc} {M : PM} {pc : Nat} {lo st : List Value} {S : PS} {Q : PQ} {M' : PM} {x : Nat} {a1 a2 a3 a4 : Value} (h0 : decode (pmB M) pc = .ok (.invokestatic x, 3)) (h1 : jOk M' 4) (h2 : lOk (pmY M).cls x (pmY M')) (h3 : pmV M' < pmV M) (h7 : (st.map fun v => v.category).sum ≤ 8) (h8 : (pEl [a1, a2, a3, a4]).length ≤ pmL M') (k0 : E sc M' 0 (pL0 M' [a1, a2, a3, a4]) [] S (fun r S' => E sc M (pc + 3) lo (r.toList ++ st) S' Q)) : E sc M pc lo (a4 :: a3 :: a2 :: a1 :: st) S Q := e_callS (As := [a1, a2, a3, a4]) h0 h1 h2 h3 rfl rfl h7 h8 k0
theorem e_callV5 {sc : PSc} {M : PM} {pc : Nat} {lo st : List Value} {S : PS} {Q : PQ} {M' : PM} {x : Nat} {i : Nat} {a1 a2 a3 a4 a5 : Value} (h0 : decode (pmB M) pc = .ok (.invokevirtual x, 3)) (h1 : iOk M' 5) (h2 : lOk (pmY M).cls x (pmY M')) (h3 : pmV M' < pmV M) (h4 : rOk i (pmY M').cls) (h7 : (st.map fun v => v.category).sum ≤ 8) (h8 : (pEl (.ref i :: [a1, a2, a3, a4, a5])).length ≤ pmL M') (k0 : E sc M' 0 (pL0 M' (.ref i :: [a1, a2, a3, a4, a5])) [] S (fun r S' => E sc M (pc + 3) lo (r.toList ++ st) S' Q)) : E sc M pc lo (a5 :: a4 :: a3 :: a2 :: a1 :: .ref i :: st) S Q := e_callV (As := [a1, a2, a3, a4, a5]) h0 h1 h2 h3 h4 rfl rfl h7 h8 k0
theorem e_callS5 {sc : PSc} {M : PM} {pc : Nat} {lo st : List Value} {S : PS} {Q : PQ} {M' : PM} {x : Nat} {a1 a2 a3 a4 a5 : Value} (h0 : decode (pmB M) pc = .ok (.invokestatic x, 3)) (h1 : jOk M' 5) (h2 : lOk (pmY M).cls x (pmY M')) (h3 : pmV M' < pmV M) (h7 : (st.map fun v => v.category).sum ≤ 8) (h8 : (pEl [a1, a2, a3, a4, a5]).length ≤ pmL M') (k0 : E sc M' 0 (pL0 M' [a1, a2, a3, a4, a5]) [] S (fun r S' => E sc M (pc + 3) lo (r.toList ++ st) S' Q)) : E sc M pc lo (a5 :: a4 :: a3 :: a2 :: a1 :: st) S Q := e_callS (As := [a1, a2, a3, a4, a5]) h0 h1 h2 h3 rfl rfl h7 h8 k0
theorem sh_0 : shps[0]? = some (.inl (5, [some 1, some 6, some 21, some 22, some 25, some 23, some 26, some 29, none, some 38, some 39, some 40])) := by decide +kernel
theorem sh_1 : shps[1]? = some (.inl (0, [none, none, none, some 2, some 3, some 4, some 5])) := by decide +kernel
theorem sh_2 : shps[2]? = some (.inr (.inl (0, 5))) := by decide +kernel
theorem sh_3 : shps[3]? = some (.inr (.inl (0, 5))) := by decide +kernel
theorem sh_4 : shps[4]? = some (.inr (.inl (0, 5))) := by decide +kernel
theorem sh_5 : shps[5]? = some (.inr (.inl (0, 5))) := by decide +kernel
theorem sh_6 : shps[6]? = some (.inl (0, [none, none, none, some 7, some 8, some 9, some 10])) := by decide +kernel
theorem sh_7 : shps[7]? = some (.inr (.inl (0, 5))) := by decide +kernel
theorem sh_8 : shps[8]? = some (.inr (.inl (0, 5))) := by decide +kernel
theorem sh_9 : shps[9]? = some (.inr (.inl (0, 5))) := by decide +kernel
theorem sh_10 : shps[10]? = some (.inr (.inl (0, 5))) := by decide +kernel
theorem sh_11 : shps[11]? = some (.inl (0, [none, none, none, some 12, some 13, some 14, some 15])) := by decide +kernel
theorem sh_12 : shps[12]? = some (.inr (.inl (0, 5))) := by decide +kernel
theorem sh_13 : shps[13]? = some (.inr (.inl (0, 5))) := by decide +kernel
theorem sh_14 : shps[14]? = some (.inr (.inl (0, 5))) := by decide +kernel
theorem sh_15 : shps[15]? = some (.inr (.inl (0, 5))) := by decide +kernel
theorem sh_16 : shps[16]? = some (.inl (0, [none, none, none, some 17, some 18, some 19, some 20])) := by decide +kernel
theorem sh_17 : shps[17]? = some (.inr (.inl (0, 5))) := by decide +kernel
theorem sh_18 : shps[18]? = some (.inr (.inl (0, 5))) := by decide +kernel
theorem sh_19 : shps[19]? = some (.inr (.inl (0, 5))) := by decide +kernel
theorem sh_20 : shps[20]? = some (.inr (.inl (0, 5))) := by decide +kernel
theorem sh_21 : shps[21]? = some (.inr (.inr (.inr (4, [11, 16])))) := by decide +kernel
theorem sh_22 : shps[22]? = some (.inr (.inl (2, 2))) := by decide +kernel
theorem sh_23 : shps[23]? = some (.inl (3, [some 24, none])) := by decide +kernel
theorem sh_24 : shps[24]? = some (.inr (.inl (1, 160))) := by decide +kernel
theorem sh_25 : shps[25]? = some (.inl (4, [some 23, none, none, none, none, none, none, none, none])) := by decide +kernel
theorem sh_26 : shps[26]? = some (.inl (1, [none, some 27, some 28])) := by decide +kernel
theorem sh_27 : shps[27]? = some (.inr (.inl (0, 6))) := by decide +kernel
theorem sh_28 : shps[28]? = some (.inr (.inl (0, 6))) := by decide +kernel
theorem sh_29 : shps[29]? = some (.inr (.inr (.inr (5, [30, 32, 34, 36])))) := by decide +kernel
theorem sh_30 : shps[30]? = some (.inl (2, [none, none, none, some 31])) := by decide +kernel
theorem sh_31 : shps[31]? = some (.inr (.inl (0, 40))) := by decide +kernel
theorem sh_32 : shps[32]? = some (.inl (2, [none, none, none, some 33])) := by decide +kernel
theorem sh_33 : shps[33]? = some (.inr (.inl (0, 40))) := by decide +kernel
theorem sh_34 : shps[34]? = some (.inl (2, [none, none, none, some 35])) := by decide +kernel
theorem sh_35 : shps[35]? = some (.inr (.inl (0, 40))) := by decide +kernel
theorem sh_36 : shps[36]? = some (.inl (2, [none, none, none, some 37])) := by decide +kernel
theorem sh_37 : shps[37]? = some (.inr (.inl (0, 40))) := by decide +kernel
theorem sh_38 : shps[38]? = some (.inr (.inr (.inl 9))) := by decide +kernel
theorem sh_39 : shps[39]? = some (.inr (.inl (0, 13))) := by decide +kernel
theorem sh_40 : shps[40]? = some (.inr (.inr (.inr (6, [41, 42, 43, 44, 45, 46, 47, 48, 49, 50, 51, 52, 53])))) := by decide +kernel
theorem sh_41 : shps[41]? = some (.inr (.inl (0, 201))) := by decide +kernel
theorem sh_42 : shps[42]? = some (.inr (.inl (0, 201))) := by decide +kernel
theorem sh_43 : shps[43]? = some (.inr (.inl (0, 201))) := by decide +kernel
theorem sh_44 : shps[44]? = some (.inr (.inl (0, 201))) := by decide +kernel
theorem sh_45 : shps[45]? = some (.inr (.inl (0, 201))) := by decide +kernel
theorem sh_46 : shps[46]? = some (.inr (.inl (0, 201))) := by decide +kernel
theorem sh_47 : shps[47]? = some (.inr (.inl (0, 201))) := by decide +kernel
theorem sh_48 : shps[48]? = some (.inr (.inl (0, 201))) := by decide +kernel
theorem sh_49 : shps[49]? = some (.inr (.inl (0, 201))) := by decide +kernel
theorem sh_50 : shps[50]? = some (.inr (.inl (0, 201))) := by decide +kernel
theorem sh_51 : shps[51]? = some (.inr (.inl (0, 201))) := by decide +kernel
theorem sh_52 : shps[52]? = some (.inr (.inl (0, 201))) := by decide +kernel
theorem sh_53 : shps[53]? = some (.inr (.inl (0, 201))) := by decide +kernel
theorem sh_54 : shps[54]? = some (.inl (6, [some 55, some 56, none, some 57, none, none, none, none, none, none, none, none, some 58, some 59, none, none, none, some 60, none, some 61, some 62, some 63, some 64, some 65, none])) := by decide +kernel
theorem sh_55 : shps[55]? = some (.inr (.inl (0, 132))) := by decide +kernel
theorem sh_56 : shps[56]? = some (.inr (.inl (0, 22))) := by decide +kernel
theorem sh_57 : shps[57]? = some (.inr (.inl (0, 160))) := by decide +kernel
theorem sh_58 : shps[58]? = some (.inr (.inl (0, 6))) := by decide +kernel
theorem sh_59 : shps[59]? = some (.inr (.inl (0, 23))) := by decide +kernel
theorem sh_60 : shps[60]? = some (.inr (.inl (0, 12))) := by decide +kernel
theorem sh_61 : shps[61]? = some (.inr (.inl (0, 2613))) := by decide +kernel
theorem sh_62 : shps[62]? = some (.inr (.inl (2, 2))) := by decide +kernel
theorem sh_63 : shps[63]? = some (.inr (.inl (0, 4))) := by decide +kernel
theorem sh_64 : shps[64]? = some (.inr (.inl (0, 4))) := by decide +kernel
theorem sh_65 : shps[65]? = some (.inr (.inl (0, 160))) := by decide +kernel
/-- a row's place -/
def rI (i : Nat) : Prop := i = 1 ∨ i = 6 ∨ i = 11 ∨ i = 16
theorem rI_sh {i : Nat} (h : rI i) : shps[i]? = some (.inl (0, [none, none, none, some (i + 1), some (i + 2), some (i + 3), some (i + 4)])) := by
  rcases h with rfl | rfl | rfl | rfl <;> decide +kernel
theorem rI_a1 {i : Nat} (h : rI i) : shps[i + 1]? = some (.inr (.inl (0, 5))) := by
  rcases h with rfl | rfl | rfl | rfl <;> decide +kernel
theorem rI_a2 {i : Nat} (h : rI i) : shps[i + 2]? = some (.inr (.inl (0, 5))) := by
  rcases h with rfl | rfl | rfl | rfl <;> decide +kernel
theorem rI_a3 {i : Nat} (h : rI i) : shps[i + 3]? = some (.inr (.inl (0, 5))) := by
  rcases h with rfl | rfl | rfl | rfl <;> decide +kernel
theorem rI_a4 {i : Nat} (h : rI i) : shps[i + 4]? = some (.inr (.inl (0, 5))) := by
  rcases h with rfl | rfl | rfl | rfl <;> decide +kernel
theorem rI_r {i : Nat} (h : rI i) : rOk i RX0 := Or.inl ⟨0, _, _, rI_sh h, rfl, rfl⟩
theorem rO_obj {i ci : Nat} {fs : List (Option Nat)} {q : vw_C} (h : shps[i]? = some (.inl (ci, fs))) (hq : vwCl[ci]? = some q) : rOk i q.1 := Or.inl ⟨ci, fs, q, h, hq, rfl⟩

def Mn (sc : PSc) : PP := fun M pc lo st S Q => ∀ Q2 : PQ, (∀ r S', Q r S' → Q2 r S') → E sc M pc lo st S Q2
theorem n_iconst (sc : PSc) : C_iconst sc (Mn sc) := by
  intro M pc lo st S Q n h0 k0 Q2 hq
  exact e_iconst h0 (k0 Q2 hq)
theorem n_bipush (sc : PSc) : C_bipush sc (Mn sc) := by
  intro M pc lo st S Q n h0 k0 Q2 hq
  exact e_bipush h0 (k0 Q2 hq)
theorem n_sipush (sc : PSc) : C_sipush sc (Mn sc) := by
  intro M pc lo st S Q n h0 k0 Q2 hq
  exact e_sipush h0 (k0 Q2 hq)
theorem n_lconst (sc : PSc) : C_lconst sc (Mn sc) := by
  intro M pc lo st S Q n h0 k0 Q2 hq
  exact e_lconst h0 (k0 Q2 hq)
theorem n_ldc (sc : PSc) : C_ldc sc (Mn sc) := by
  intro M pc lo st S Q x v h0 h1 k0 Q2 hq
  exact e_ldc h0 h1 (k0 Q2 hq)
theorem n_ldcw (sc : PSc) : C_ldcw sc (Mn sc) := by
  intro M pc lo st S Q x v h0 h1 k0 Q2 hq
  exact e_ldcw h0 h1 (k0 Q2 hq)
theorem n_ldc2 (sc : PSc) : C_ldc2 sc (Mn sc) := by
  intro M pc lo st S Q x v h0 h1 k0 Q2 hq
  exact e_ldc2 h0 h1 (k0 Q2 hq)
theorem n_ldcS (sc : PSc) : C_ldcS sc (Mn sc) := by
  intro M pc lo st S Q x k h0 h1 k0 Q2 hq
  exact e_ldcS h0 h1 (k0 Q2 hq)
theorem n_iload_n (sc : PSc) : C_iload_n sc (Mn sc) := by
  intro M pc lo st S Q n i x h0 h1 h2 k0 Q2 hq
  exact e_iload_n h0 h1 h2 (k0 Q2 hq)
theorem n_iload (sc : PSc) : C_iload sc (Mn sc) := by
  intro M pc lo st S Q i x h0 h1 k0 Q2 hq
  exact e_iload h0 h1 (k0 Q2 hq)
theorem n_lload_n (sc : PSc) : C_lload_n sc (Mn sc) := by
  intro M pc lo st S Q n i x h0 h1 h2 k0 Q2 hq
  exact e_lload_n h0 h1 h2 (k0 Q2 hq)
theorem n_lload (sc : PSc) : C_lload sc (Mn sc) := by
  intro M pc lo st S Q i x h0 h1 k0 Q2 hq
  exact e_lload h0 h1 (k0 Q2 hq)
theorem n_aload_n (sc : PSc) : C_aload_n sc (Mn sc) := by
  intro M pc lo st S Q n i x h0 h1 h2 k0 Q2 hq
  exact e_aload_n h0 h1 h2 (k0 Q2 hq)
theorem n_aload (sc : PSc) : C_aload sc (Mn sc) := by
  intro M pc lo st S Q i x h0 h1 k0 Q2 hq
  exact e_aload h0 h1 (k0 Q2 hq)
theorem n_istore_n (sc : PSc) : C_istore_n sc (Mn sc) := by
  intro M pc lo st S Q n i x h0 h1 h2 h3 k0 Q2 hq
  exact e_istore_n h0 h1 h2 h3 (k0 Q2 hq)
theorem n_istore (sc : PSc) : C_istore sc (Mn sc) := by
  intro M pc lo st S Q i x h0 h1 h2 k0 Q2 hq
  exact e_istore h0 h1 h2 (k0 Q2 hq)
theorem n_astore_n (sc : PSc) : C_astore_n sc (Mn sc) := by
  intro M pc lo st S Q n i x h0 h1 h2 h3 k0 Q2 hq
  exact e_astore_n h0 h1 h2 h3 (k0 Q2 hq)
theorem n_astore (sc : PSc) : C_astore sc (Mn sc) := by
  intro M pc lo st S Q i x h0 h1 h2 k0 Q2 hq
  exact e_astore h0 h1 h2 (k0 Q2 hq)
theorem n_lstore_n (sc : PSc) : C_lstore_n sc (Mn sc) := by
  intro M pc lo st S Q n i x h0 h1 h2 h3 k0 Q2 hq
  exact e_lstore_n h0 h1 h2 h3 (k0 Q2 hq)
theorem n_lstore (sc : PSc) : C_lstore sc (Mn sc) := by
  intro M pc lo st S Q i x h0 h1 h2 k0 Q2 hq
  exact e_lstore h0 h1 h2 (k0 Q2 hq)
theorem n_iinc (sc : PSc) : C_iinc sc (Mn sc) := by
  intro M pc lo st S Q i n x h0 h1 h2 h3 k0 Q2 hq
  exact e_iinc h0 h1 h2 h3 (k0 Q2 hq)
theorem n_iadd (sc : PSc) : C_iadd sc (Mn sc) := by
  intro M pc lo st S Q x y h0 k0 Q2 hq
  exact e_iadd h0 (k0 Q2 hq)
theorem n_isub (sc : PSc) : C_isub sc (Mn sc) := by
  intro M pc lo st S Q x y h0 k0 Q2 hq
  exact e_isub h0 (k0 Q2 hq)
theorem n_imul (sc : PSc) : C_imul sc (Mn sc) := by
  intro M pc lo st S Q x y h0 k0 Q2 hq
  exact e_imul h0 (k0 Q2 hq)
theorem n_iand (sc : PSc) : C_iand sc (Mn sc) := by
  intro M pc lo st S Q x y h0 k0 Q2 hq
  exact e_iand h0 (k0 Q2 hq)
theorem n_ior (sc : PSc) : C_ior sc (Mn sc) := by
  intro M pc lo st S Q x y h0 k0 Q2 hq
  exact e_ior h0 (k0 Q2 hq)
theorem n_ishl (sc : PSc) : C_ishl sc (Mn sc) := by
  intro M pc lo st S Q x y h0 k0 Q2 hq
  exact e_ishl h0 (k0 Q2 hq)
theorem n_ishr (sc : PSc) : C_ishr sc (Mn sc) := by
  intro M pc lo st S Q x y h0 k0 Q2 hq
  exact e_ishr h0 (k0 Q2 hq)
theorem n_iushr (sc : PSc) : C_iushr sc (Mn sc) := by
  intro M pc lo st S Q x y h0 k0 Q2 hq
  exact e_iushr h0 (k0 Q2 hq)
theorem n_irem (sc : PSc) : C_irem sc (Mn sc) := by
  intro M pc lo st S Q x y h0 h1 k0 Q2 hq
  exact e_irem h0 h1 (k0 Q2 hq)
theorem n_ladd (sc : PSc) : C_ladd sc (Mn sc) := by
  intro M pc lo st S Q x y h0 k0 Q2 hq
  exact e_ladd h0 (k0 Q2 hq)
theorem n_lmul (sc : PSc) : C_lmul sc (Mn sc) := by
  intro M pc lo st S Q x y h0 k0 Q2 hq
  exact e_lmul h0 (k0 Q2 hq)
theorem n_ldiv (sc : PSc) : C_ldiv sc (Mn sc) := by
  intro M pc lo st S Q x y h0 h1 k0 Q2 hq
  exact e_ldiv h0 h1 (k0 Q2 hq)
theorem n_lrem (sc : PSc) : C_lrem sc (Mn sc) := by
  intro M pc lo st S Q x y h0 h1 k0 Q2 hq
  exact e_lrem h0 h1 (k0 Q2 hq)
theorem n_lcmp (sc : PSc) : C_lcmp sc (Mn sc) := by
  intro M pc lo st S Q x y h0 k0 Q2 hq
  exact e_lcmp h0 (k0 Q2 hq)
theorem n_ineg (sc : PSc) : C_ineg sc (Mn sc) := by
  intro M pc lo st S Q x h0 k0 Q2 hq
  exact e_ineg h0 (k0 Q2 hq)
theorem n_i2l (sc : PSc) : C_i2l sc (Mn sc) := by
  intro M pc lo st S Q x h0 k0 Q2 hq
  exact e_i2l h0 (k0 Q2 hq)
theorem n_i2b (sc : PSc) : C_i2b sc (Mn sc) := by
  intro M pc lo st S Q x h0 k0 Q2 hq
  exact e_i2b h0 (k0 Q2 hq)
theorem n_i2s (sc : PSc) : C_i2s sc (Mn sc) := by
  intro M pc lo st S Q x h0 k0 Q2 hq
  exact e_i2s h0 (k0 Q2 hq)
theorem n_i2c (sc : PSc) : C_i2c sc (Mn sc) := by
  intro M pc lo st S Q x h0 k0 Q2 hq
  exact e_i2c h0 (k0 Q2 hq)
theorem n_dup (sc : PSc) : C_dup sc (Mn sc) := by
  intro M pc lo st S Q v h0 h1 k0 Q2 hq
  exact e_dup h0 h1 (k0 Q2 hq)
theorem n_pop (sc : PSc) : C_pop sc (Mn sc) := by
  intro M pc lo st S Q v h0 h1 k0 Q2 hq
  exact e_pop h0 h1 (k0 Q2 hq)
theorem n_dup2 (sc : PSc) : C_dup2 sc (Mn sc) := by
  intro M pc lo st S Q v w h0 h1 h2 k0 Q2 hq
  exact e_dup2 h0 h1 h2 (k0 Q2 hq)
theorem n_getI (sc : PSc) : C_getI sc (Mn sc) := by
  intro M pc lo st S Q x ci k i fs h0 h1 h2 h3 k0 Q2 hq
  exact e_getI h0 h1 h2 h3 (k0 Q2 hq)
theorem n_getR (sc : PSc) : C_getR sc (Mn sc) := by
  intro M pc lo st S Q x ci k i j fs h0 h1 h2 h3 k0 Q2 hq
  exact e_getR h0 h1 h2 h3 (k0 Q2 hq)
theorem n_putI (sc : PSc) : C_putI sc (Mn sc) := by
  intro M pc lo st S Q x ci k i fs z v h0 h1 h2 h3 h4 k0 Q2 hq
  exact e_putI h0 h1 h2 h3 h4 (k0 Q2 hq)
theorem n_iald (sc : PSc) : C_iald sc (Mn sc) := by
  intro M pc lo st S Q i n j h0 h1 h2 k0 Q2 hq
  exact e_iald h0 h1 h2 (k0 Q2 hq)
theorem n_iast (sc : PSc) : C_iast sc (Mn sc) := by
  intro M pc lo st S Q i n j v h0 h1 h2 k0 Q2 hq
  exact e_iast h0 h1 h2 (k0 Q2 hq)
theorem n_bald (sc : PSc) : C_bald sc (Mn sc) := by
  intro M pc lo st S Q i n j h0 h1 h2 k0 Q2 hq
  exact e_bald h0 h1 h2 (k0 Q2 hq)
theorem n_bast (sc : PSc) : C_bast sc (Mn sc) := by
  intro M pc lo st S Q i n j v h0 h1 h2 k0 Q2 hq
  exact e_bast h0 h1 h2 (k0 Q2 hq)
theorem n_zald (sc : PSc) : C_zald sc (Mn sc) := by
  intro M pc lo st S Q i n j h0 h1 h2 k0 Q2 hq
  exact e_zald h0 h1 h2 (k0 Q2 hq)
theorem n_zast (sc : PSc) : C_zast sc (Mn sc) := by
  intro M pc lo st S Q i n j v h0 h1 h2 k0 Q2 hq
  exact e_zast h0 h1 h2 (k0 Q2 hq)
theorem n_lald (sc : PSc) : C_lald sc (Mn sc) := by
  intro M pc lo st S Q i n j h0 h1 h2 k0 Q2 hq
  exact e_lald h0 h1 h2 (k0 Q2 hq)
theorem n_last (sc : PSc) : C_last sc (Mn sc) := by
  intro M pc lo st S Q i n j v h0 h1 h2 k0 Q2 hq
  exact e_last h0 h1 h2 (k0 Q2 hq)
theorem n_aald (sc : PSc) : C_aald sc (Mn sc) := by
  intro M pc lo st S Q i t r js j h0 h1 h2 h3 k0 Q2 hq
  exact e_aald h0 h1 h2 h3 (k0 Q2 hq)
theorem n_sld (sc : PSc) : C_sld sc (Mn sc) := by
  intro M pc lo st S Q j h0 h1 k0 Q2 hq
  exact e_sld h0 h1 (k0 Q2 hq)
theorem n_slen (sc : PSc) : C_slen sc (Mn sc) := by
  intro M pc lo st S Q  h0 k0 Q2 hq
  exact e_slen h0 (k0 Q2 hq)
theorem n_getSV (sc : PSc) : C_getSV sc (Mn sc) := by
  intro M pc lo st S Q x k h0 h1 h2 k0 Q2 hq
  exact e_getSV h0 h1 h2 (k0 Q2 hq)
theorem n_getSC (sc : PSc) : C_getSC sc (Mn sc) := by
  intro M pc lo st S Q x k h0 h1 h2 k0 Q2 hq
  exact e_getSC h0 h1 h2 (k0 Q2 hq)
theorem n_alenS (sc : PSc) : C_alenS sc (Mn sc) := by
  intro M pc lo st S Q k h0 h1 k0 Q2 hq
  exact e_alenS h0 h1 (k0 Q2 hq)
theorem n_baldS (sc : PSc) : C_baldS sc (Mn sc) := by
  intro M pc lo st S Q k j h0 h1 h2 k0 Q2 hq
  exact e_baldS h0 h1 h2 (k0 Q2 hq)
theorem n_getsC (sc : PSc) : C_getsC sc (Mn sc) := by
  intro M pc lo st S Q x h0 h1 k0 Q2 hq
  exact e_getsC h0 h1 (k0 Q2 hq)
theorem n_getsR (sc : PSc) : C_getsR sc (Mn sc) := by
  intro M pc lo st S Q x h0 h1 k0 Q2 hq
  exact e_getsR h0 h1 (fun v h => k0 v h Q2 hq)
theorem n_mmax (sc : PSc) : C_mmax sc (Mn sc) := by
  intro M pc lo st S Q x a b h0 h1 h2 h3 k0 Q2 hq
  exact e_mmax h0 h1 h2 h3 (k0 Q2 hq)
theorem n_mabs (sc : PSc) : C_mabs sc (Mn sc) := by
  intro M pc lo st S Q x a h0 h1 h2 h3 k0 Q2 hq
  exact e_mabs h0 h1 h2 h3 (k0 Q2 hq)
theorem n_if_eq (sc : PSc) : C_if_eq sc (Mn sc) := by
  intro M pc lo st S Q x off tgt h0 h1 k0 k1 Q2 hq
  exact e_if_eq h0 h1 (fun h => k0 h Q2 hq) (fun h => k1 h Q2 hq)
theorem n_if_ne (sc : PSc) : C_if_ne sc (Mn sc) := by
  intro M pc lo st S Q x off tgt h0 h1 k0 k1 Q2 hq
  exact e_if_ne h0 h1 (fun h => k0 h Q2 hq) (fun h => k1 h Q2 hq)
theorem n_if_lt (sc : PSc) : C_if_lt sc (Mn sc) := by
  intro M pc lo st S Q x off tgt h0 h1 k0 k1 Q2 hq
  exact e_if_lt h0 h1 (fun h => k0 h Q2 hq) (fun h => k1 h Q2 hq)
theorem n_if_ge (sc : PSc) : C_if_ge sc (Mn sc) := by
  intro M pc lo st S Q x off tgt h0 h1 k0 k1 Q2 hq
  exact e_if_ge h0 h1 (fun h => k0 h Q2 hq) (fun h => k1 h Q2 hq)
theorem n_if_gt (sc : PSc) : C_if_gt sc (Mn sc) := by
  intro M pc lo st S Q x off tgt h0 h1 k0 k1 Q2 hq
  exact e_if_gt h0 h1 (fun h => k0 h Q2 hq) (fun h => k1 h Q2 hq)
theorem n_if_le (sc : PSc) : C_if_le sc (Mn sc) := by
  intro M pc lo st S Q x off tgt h0 h1 k0 k1 Q2 hq
  exact e_if_le h0 h1 (fun h => k0 h Q2 hq) (fun h => k1 h Q2 hq)
theorem n_icmp_eq (sc : PSc) : C_icmp_eq sc (Mn sc) := by
  intro M pc lo st S Q x y off tgt h0 h1 k0 k1 Q2 hq
  exact e_icmp_eq h0 h1 (fun h => k0 h Q2 hq) (fun h => k1 h Q2 hq)
theorem n_icmp_ne (sc : PSc) : C_icmp_ne sc (Mn sc) := by
  intro M pc lo st S Q x y off tgt h0 h1 k0 k1 Q2 hq
  exact e_icmp_ne h0 h1 (fun h => k0 h Q2 hq) (fun h => k1 h Q2 hq)
theorem n_icmp_lt (sc : PSc) : C_icmp_lt sc (Mn sc) := by
  intro M pc lo st S Q x y off tgt h0 h1 k0 k1 Q2 hq
  exact e_icmp_lt h0 h1 (fun h => k0 h Q2 hq) (fun h => k1 h Q2 hq)
theorem n_icmp_ge (sc : PSc) : C_icmp_ge sc (Mn sc) := by
  intro M pc lo st S Q x y off tgt h0 h1 k0 k1 Q2 hq
  exact e_icmp_ge h0 h1 (fun h => k0 h Q2 hq) (fun h => k1 h Q2 hq)
theorem n_icmp_gt (sc : PSc) : C_icmp_gt sc (Mn sc) := by
  intro M pc lo st S Q x y off tgt h0 h1 k0 k1 Q2 hq
  exact e_icmp_gt h0 h1 (fun h => k0 h Q2 hq) (fun h => k1 h Q2 hq)
theorem n_icmp_le (sc : PSc) : C_icmp_le sc (Mn sc) := by
  intro M pc lo st S Q x y off tgt h0 h1 k0 k1 Q2 hq
  exact e_icmp_le h0 h1 (fun h => k0 h Q2 hq) (fun h => k1 h Q2 hq)
theorem n_goto (sc : PSc) : C_goto sc (Mn sc) := by
  intro M pc lo st S Q off tgt h0 h1 k0 Q2 hq
  exact e_goto h0 h1 (k0 Q2 hq)
theorem n_table (sc : PSc) : C_table sc (Mn sc) := by
  intro M pc lo st S Q x dflt lw hi offs len h0 k0 Q2 hq
  exact e_table h0 (by obtain ⟨tgt, h, k⟩ := k0; exact ⟨tgt, h, k Q2 hq⟩)
theorem n_lookup (sc : PSc) : C_lookup sc (Mn sc) := by
  intro M pc lo st S Q x dflt ps len tgt h0 h1 h2 k0 Q2 hq
  exact e_lookup h0 h1 h2 (k0 Q2 hq)
theorem n_iret (sc : PSc) : C_iret sc (Mn sc) := by
  intro M pc lo st S Q x ty h0 h1 h2 k0 Q2 hq
  exact e_iret (st := st) h0 h1 h2 (hq _ _ k0)
theorem n_lret (sc : PSc) : C_lret sc (Mn sc) := by
  intro M pc lo st S Q x h0 h1 k0 Q2 hq
  exact e_lret (st := st) h0 h1 (hq _ _ k0)
theorem n_vret (sc : PSc) : C_vret sc (Mn sc) := by
  intro M pc lo st S Q  h0 h1 k0 Q2 hq
  exact e_vret (st := st) h0 h1 (hq _ _ k0)
theorem n_callV (sc : PSc) : C_callV sc (Mn sc) := by
  intro M pc lo st S Q M' x i n As st0 Qm h0 h1 h2 h3 h4 h5 h6 h7 h8 k0 k1 Q2 hq
  exact e_callV h0 h1 h2 h3 h4 h5 h6 h7 h8 (k0 _ (fun r S' h => k1 r S' h Q2 hq))
theorem n_callS (sc : PSc) : C_callS sc (Mn sc) := by
  intro M pc lo st S Q M' x n As st0 Qm h0 h1 h2 h3 h4 h5 h6 h7 k0 k1 Q2 hq
  exact e_callS h0 h1 h2 h3 h4 h5 h6 h7 (k0 _ (fun r S' h => k1 r S' h Q2 hq))
theorem nG0 (sc : PSc) : CG0 sc (Mn sc) := ⟨n_iconst sc, n_bipush sc, n_sipush sc, n_lconst sc, n_ldc sc, n_ldcw sc, n_ldc2 sc, n_ldcS sc⟩
theorem nG1 (sc : PSc) : CG1 sc (Mn sc) := ⟨n_iload_n sc, n_iload sc, n_lload_n sc, n_lload sc, n_aload_n sc, n_aload sc, n_istore_n sc, n_istore sc⟩
theorem nG2 (sc : PSc) : CG2 sc (Mn sc) := ⟨n_astore_n sc, n_astore sc, n_lstore_n sc, n_lstore sc, n_iinc sc, n_iadd sc, n_isub sc, n_imul sc⟩
theorem nG3 (sc : PSc) : CG3 sc (Mn sc) := ⟨n_iand sc, n_ior sc, n_ishl sc, n_ishr sc, n_iushr sc, n_irem sc, n_ladd sc, n_lmul sc⟩
theorem nG4 (sc : PSc) : CG4 sc (Mn sc) := ⟨n_ldiv sc, n_lrem sc, n_lcmp sc, n_ineg sc, n_i2l sc, n_i2b sc, n_i2s sc, n_i2c sc⟩
theorem nG5 (sc : PSc) : CG5 sc (Mn sc) := ⟨n_dup sc, n_pop sc, n_dup2 sc, n_getI sc, n_getR sc, n_putI sc, n_iald sc, n_iast sc⟩
theorem nG6 (sc : PSc) : CG6 sc (Mn sc) := ⟨n_bald sc, n_bast sc, n_zald sc, n_zast sc, n_lald sc, n_last sc, n_aald sc, n_sld sc⟩
theorem nG7 (sc : PSc) : CG7 sc (Mn sc) := ⟨n_slen sc, n_getSV sc, n_getSC sc, n_alenS sc, n_baldS sc, n_getsC sc, n_getsR sc, n_mmax sc⟩
theorem nG8 (sc : PSc) : CG8 sc (Mn sc) := ⟨n_mabs sc, n_if_eq sc, n_if_ne sc, n_if_lt sc, n_if_ge sc, n_if_gt sc, n_if_le sc, n_icmp_eq sc⟩
theorem nG9 (sc : PSc) : CG9 sc (Mn sc) := ⟨n_icmp_ne sc, n_icmp_lt sc, n_icmp_ge sc, n_icmp_gt sc, n_icmp_le sc, n_goto sc, n_table sc, n_lookup sc⟩
theorem nG10 (sc : PSc) : CG10 sc (Mn sc) := ⟨n_iret sc, n_lret sc, n_vret sc, n_callV sc, n_callS sc⟩
theorem n_all (sc : PSc) : Cl sc (Mn sc) := ⟨nG0 sc, nG1 sc, nG2 sc, nG3 sc, nG4 sc, nG5 sc, nG6 sc, nG7 sc, nG8 sc, nG9 sc, nG10 sc⟩
theorem E.mono {sc : PSc} {M : PM} {pc : Nat} {lo st : List Value} {S : PS} {Q Q2 : PQ} (h : E sc M pc lo st S Q) (hq : ∀ r S', Q r S' → Q2 r S') : E sc M pc lo st S Q2 := h (Mn sc) (n_all sc) Q2 hq
theorem e_callV6 {sc : PSc} {M : PM} {pc : Nat} {lo st : List Value} {S : PS} {Q : PQ} {M' : PM} {x : Nat} {i : Nat} {a1 a2 a3 a4 a5 a6 : Value} (h0 : decode (pmB M) pc = .ok (.invokevirtual x, 3)) (h1 : iOk M' 6) (h2 : lOk (pmY M).cls x (pmY M')) (h3 : pmV M' < pmV M) (h4 : rOk i (pmY M').cls) (h7 : (st.map fun v => v.category).sum ≤ 8) (h8 : (pEl (.ref i :: [a1, a2, a3, a4, a5, a6])).length ≤ pmL M') (k0 : E sc M' 0 (pL0 M' (.ref i :: [a1, a2, a3, a4, a5, a6])) [] S (fun r S' => E sc M (pc + 3) lo (r.toList ++ st) S' Q)) : E sc M pc lo (a6 :: a5 :: a4 :: a3 :: a2 :: a1 :: .ref i :: st) S Q := e_callV (As := [a1, a2, a3, a4, a5, a6]) h0 h1 h2 h3 h4 rfl rfl h7 h8 k0

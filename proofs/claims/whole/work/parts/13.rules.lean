/-! a call, whatever it answers -/
def pWs (M : PM) : List Cond := Cond.code (pmY M) (pmB M) (pmL M) (pmR M) :: lw_good
def pRm (M : PM) : Room := { frames := pmV M, cells := 0, slots := 0, locals := 36 * pmV M }
def pPc (g : WG) (As : List Value) (S : PS) (sz : Nat) : Array Value → State → Prop := va_Pc (As.map (pEn g)) (fun U => U.heap.size = sz ∧ va_P (gD g) vwCl (pcW g S) U.heap ∧ pKx g (va_A (pcW g S) sz) U U.heap ∧ va_D (fun _ => True) (pcW g S))
def pQc (g : WG) (S : PS) (sz : Nat) (Qm : PQ) : Array Value → State → Outcome → State → Prop := fun _ st oc t => (∃ (r : Option Value) (S' : PS), oc = .returned (r.map (pEn g)) ∧ Qm r S' ∧ va_P (gD g) vwCl (pcW g S') t.heap) ∧ va_F (va_A (pcW g S) sz) st t
theorem met_of {l : Launch} {g : WG} {M : PM} {As : List Value} {S : PS} {Qm : PQ} {n : Nat} (hn : nOk M n) (hE : (pEl As).length ≤ pmL M) (h : Snd l g M 0 (pL0 M As) [] S Qm) (sz : Nat) :
    Met l (pmY M) (pWs M) (pRm M) (pPc g As S sz) (pQc g S sz Qm) 0 0 (va_A (pcW g S) sz) := by
  refine Met.ofW (cc := pmB M) (maxL := pmL M) (ret := pmR M) hn.1 rfl ?_
  intro p e s m args below meth c s₁ B hml hv
  obtain ⟨rfl, hsz, hP, hK, hD⟩ := hv
  subst hsz
  have hts := atoms_spec (ws := pWs M) B.pre
  have hown : s.vm.findClass (pmY M).cls = some m.cls := findClass_of_methodNamed B.named
  have hlocks := B.notSynchronized
  have hx := B.exec
  have hb := B.bytes
  have hr := B.returns
  rw [lg_entry_eq]
  have hl := lv_entry (As.map (pEn g)) (n := pmL M) (by rw [pEl_len]; exact hE)
  generalize (lg_sl (As.map (pEn g)) ++ List.replicate (pmL M - (lg_sl (As.map (pEn g))).length) Slot.unset).toArray = ls at hl ⊢
  refine h p e _ s m _ below meth c (va_A (pcW g S) s.heap.size) 0 0 _ s.heap [] ls ⟨hx, hb, hml, hown, fun w hw => hts w (List.mem_cons_of_mem _ hw), hK, fun S2 => pcW_D (hD.self), fun q hq => Or.inr hq, Nat.le_refl _, Nat.le_refl _, Nat.zero_le _, Nat.zero_le _⟩ hP va_S.rf (pLo.entry hl) ?_
  intro r S' H' locs' ls' pc' hq hret hP' hS'
  cases r with
  | none =>
    obtain ⟨d1, d2⟩ := hret
    exact W.vret hx hb (hr.trans d2) (fun t ht hW => ⟨⟨none, S', rfl, hq, by rw [ht]; exact hP'⟩, hS'.F ht⟩) hS'.2.2 d1
  | some v =>
    cases v with
    | int x =>
      obtain ⟨d1, ty, d2, d3⟩ := hret
      exact W.zret hx hb (hr.trans d2) d3 (fun t ht hW => ⟨⟨some (.int x), S', rfl, hq, by rw [ht]; exact hP'⟩, hS'.F ht⟩) hS'.2.2 d1
    | long x =>
      obtain ⟨d1, d2⟩ := hret
      exact W.lret hx hb (hr.trans d2) (fun t ht hW => ⟨⟨some (.long x), S', rfl, hq, by rw [ht]; exact hP'⟩, hS'.F ht⟩) hS'.2.2 d1
    | _ => exact hret.elim
theorem pBlind (g : WG) (As : List Value) (S : PS) (sz : Nat) : FrameBlind (pPc g As S sz) := by
  intro a U f mk h
  obtain ⟨h1, h2, h3, h4, h5⟩ := h
  exact ⟨h1, h2, h3, pKx.same (u := U) rfl h4, h5⟩
theorem pGood (M : PM) (h : Cond.code (pmY M) (pmB M) (pmL M) (pmR M) ∈ lw_good) : GoodIn lw_good (pWs M) := by
  intro w hw
  have hm : w ∈ lw_good := by
    rcases List.mem_cons.mp hw with e | e
    · rw [e]; exact h
    · exact e
  exact ⟨hm, good_of_word (List.mem_filter.mp hm).2⟩
section PCALL
variable {p : Program} {l : Launch} {e : Env} {R : Room} {s : State} {m : MethodId} {args : Array Value} {below : List Frame} {meth : Method} {c : Code} {H : Heap} {locs : List Loc} {cells slots : Nat} {Q : State → Prop}
theorem pcall {g : WG} {A : Nat → Prop} {S : PS} {Qm : PQ} {pc : Nat} {ls : Array Slot} {st0 rest : List Value} {a : Array Value} (hr : va_Run p l e R s m args below meth c H locs cells slots 0 0 (F0 m pc ls st0) rest (pQc g S H.size Qm a) (va_A (pcW g S) H.size)) (hS : va_S A s.heap H locs) (hF : ∀ q, va_A (pcW g S) H.size q → A q)
    (kk : ∀ (r : Option Value) (S' : PS) (H1 : Heap) (locs1 : List Loc), Qm r S' → va_P (gD g) vwCl (pcW g S') H1 → va_S A s.heap H1 locs1 → W p l e R s m args below meth c H1 locs1 cells slots Q (F0 m (pc + 3) ls ((r.map (pEn g)).toList ++ rest))) : W p l e R s m args below meth c H locs cells slots Q (F0 m pc ls st0) := by
  intro T hT X
  obtain ⟨v, st₀, t, T', L, h0, X', hL, e1, e2, ⟨⟨r, S', hv, hq, hp⟩, hz, hk⟩, st⟩ := hr T hT X
  cases hv
  rw [h0] at hz hk
  obtain ⟨t2, a1, b1⟩ := kk r S' T'.heap (locs ++ L) hq (by rw [e1]; exact hp)
    ⟨Nat.le_trans hS.1 (by rw [e1]; exact hz), fun q h1 h2 => by rw [e1, hk q (Nat.lt_of_lt_of_le h1 hS.1) (fun z => h2 (hF q z))]; exact hS.2.1 q h1 h2, fun q hq => by
      rcases List.mem_append.mp hq with h | h
      · exact hS.2.2 q h
      · exact hF _ (hL q h)⟩ T' rfl X'
  exact ⟨t2, st t2 a1, b1⟩
end PCALL
theorem pFree {g : WG} {A : Nat → Prop} {S : PS} {H0 H : Heap} {locs : List Loc} (hD : va_D A (pcW g S)) (hA : ∀ q, H0.size ≤ q → A q) (hS : va_S A H0 H locs) : ∀ q, va_A (pcW g S) H.size q → A q := by
  intro q h
  rcases h with ⟨k, e, h⟩ | h
  · exact hD.2 k (q, e) h
  · exact hA q (Nat.le_trans hS.1 h)

set_option maxHeartbeats 1000000 in
theorem s_iconst (l : Launch) (g : WG) : C_iconst (gS g) (Snd l g) := by
  intro M pc lo st S Q n h0 k0 p e R s m args below meth c A cells slots Z H locs ls hC hP hS hl hk
  obtain ⟨hx, hb, hml, hown, hts, hKx, hD, hA, hfr, hlo, hce, hsl⟩ := id hC
  have kk := fun {pc2 : Nat} {lo2 st2 : List Value} {S2 : PS} (k : Snd l g M pc2 lo2 st2 S2 Q) H locs ls hP hS hl => k p e R s m args below meth c A cells slots Z H locs ls hC hP hS hl hk
  exact lv_iconst hx hb h0 rfl (kk k0 H locs ls hP hS hl)
set_option maxHeartbeats 1000000 in
theorem s_bipush (l : Launch) (g : WG) : C_bipush (gS g) (Snd l g) := by
  intro M pc lo st S Q n h0 k0 p e R s m args below meth c A cells slots Z H locs ls hC hP hS hl hk
  obtain ⟨hx, hb, hml, hown, hts, hKx, hD, hA, hfr, hlo, hce, hsl⟩ := id hC
  have kk := fun {pc2 : Nat} {lo2 st2 : List Value} {S2 : PS} (k : Snd l g M pc2 lo2 st2 S2 Q) H locs ls hP hS hl => k p e R s m args below meth c A cells slots Z H locs ls hC hP hS hl hk
  exact lv_bipush hx hb h0 rfl (kk k0 H locs ls hP hS hl)
set_option maxHeartbeats 1000000 in
theorem s_sipush (l : Launch) (g : WG) : C_sipush (gS g) (Snd l g) := by
  intro M pc lo st S Q n h0 k0 p e R s m args below meth c A cells slots Z H locs ls hC hP hS hl hk
  obtain ⟨hx, hb, hml, hown, hts, hKx, hD, hA, hfr, hlo, hce, hsl⟩ := id hC
  have kk := fun {pc2 : Nat} {lo2 st2 : List Value} {S2 : PS} (k : Snd l g M pc2 lo2 st2 S2 Q) H locs ls hP hS hl => k p e R s m args below meth c A cells slots Z H locs ls hC hP hS hl hk
  exact lv_sipush hx hb h0 rfl (kk k0 H locs ls hP hS hl)
set_option maxHeartbeats 1000000 in
theorem s_lconst (l : Launch) (g : WG) : C_lconst (gS g) (Snd l g) := by
  intro M pc lo st S Q n h0 k0 p e R s m args below meth c A cells slots Z H locs ls hC hP hS hl hk
  obtain ⟨hx, hb, hml, hown, hts, hKx, hD, hA, hfr, hlo, hce, hsl⟩ := id hC
  have kk := fun {pc2 : Nat} {lo2 st2 : List Value} {S2 : PS} (k : Snd l g M pc2 lo2 st2 S2 Q) H locs ls hP hS hl => k p e R s m args below meth c A cells slots Z H locs ls hC hP hS hl hk
  exact lv_lconst hx hb h0 rfl (kk k0 H locs ls hP hS hl)
set_option maxHeartbeats 1000000 in
theorem s_ldc (l : Launch) (g : WG) : C_ldc (gS g) (Snd l g) := by
  intro M pc lo st S Q x v h0 h1 k0 p e R s m args below meth c A cells slots Z H locs ls hC hP hS hl hk
  obtain ⟨hx, hb, hml, hown, hts, hKx, hD, hA, hfr, hlo, hce, hsl⟩ := id hC
  have kk := fun {pc2 : Nat} {lo2 st2 : List Value} {S2 : PS} (k : Snd l g M pc2 lo2 st2 S2 Q) H locs ls hP hS hl => k p e R s m args below meth c A cells slots Z H locs ls hC hP hS hl hk
  exact lv_ldc hx hb hown (hts _ h1) h0 (kk k0 H locs ls hP hS hl)
set_option maxHeartbeats 1000000 in
theorem s_ldcw (l : Launch) (g : WG) : C_ldcw (gS g) (Snd l g) := by
  intro M pc lo st S Q x v h0 h1 k0 p e R s m args below meth c A cells slots Z H locs ls hC hP hS hl hk
  obtain ⟨hx, hb, hml, hown, hts, hKx, hD, hA, hfr, hlo, hce, hsl⟩ := id hC
  have kk := fun {pc2 : Nat} {lo2 st2 : List Value} {S2 : PS} (k : Snd l g M pc2 lo2 st2 S2 Q) H locs ls hP hS hl => k p e R s m args below meth c A cells slots Z H locs ls hC hP hS hl hk
  exact lv_ldcw hx hb hown (hts _ h1) h0 (kk k0 H locs ls hP hS hl)
set_option maxHeartbeats 1000000 in
theorem s_ldc2 (l : Launch) (g : WG) : C_ldc2 (gS g) (Snd l g) := by
  intro M pc lo st S Q x v h0 h1 k0 p e R s m args below meth c A cells slots Z H locs ls hC hP hS hl hk
  obtain ⟨hx, hb, hml, hown, hts, hKx, hD, hA, hfr, hlo, hce, hsl⟩ := id hC
  have kk := fun {pc2 : Nat} {lo2 st2 : List Value} {S2 : PS} (k : Snd l g M pc2 lo2 st2 S2 Q) H locs ls hP hS hl => k p e R s m args below meth c A cells slots Z H locs ls hC hP hS hl hk
  exact lv_ldc2 hx hb hown (hts _ h1) h0 (kk k0 H locs ls hP hS hl)
set_option maxHeartbeats 1000000 in
theorem s_ldcS (l : Launch) (g : WG) : C_ldcS (gS g) (Snd l g) := by
  intro M pc lo st S Q x k h0 h1 k0 p e R s m args below meth c A cells slots Z H locs ls hC hP hS hl hk
  obtain ⟨hx, hb, hml, hown, hts, hKx, hD, hA, hfr, hlo, hce, hsl⟩ := id hC
  have kk := fun {pc2 : Nat} {lo2 st2 : List Value} {S2 : PS} (k : Snd l g M pc2 lo2 st2 S2 Q) H locs ls hP hS hl => k p e R s m args below meth c A cells slots Z H locs ls hC hP hS hl hk
  obtain ⟨hk5, t, ht⟩ := h1
  exact va_ldcS hx hb hown (hKx.2.2.2.2.1 k _ ht) h0 (kk k0 H locs ls hP hS hl)
set_option maxHeartbeats 1000000 in
theorem s_iload_n (l : Launch) (g : WG) : C_iload_n (gS g) (Snd l g) := by
  intro M pc lo st S Q n i x h0 h1 h2 k0 p e R s m args below meth c A cells slots Z H locs ls hC hP hS hl hk
  obtain ⟨hx, hb, hml, hown, hts, hKx, hD, hA, hfr, hlo, hce, hsl⟩ := id hC
  have kk := fun {pc2 : Nat} {lo2 st2 : List Value} {S2 : PS} (k : Snd l g M pc2 lo2 st2 S2 Q) H locs ls hP hS hl => k p e R s m args below meth c A cells slots Z H locs ls hC hP hS hl hk
  exact lv_iload_n hx hb h0 h1 (hl.2.2 i _ h2 (fun q => by cases q)) (kk k0 H locs ls hP hS hl)
set_option maxHeartbeats 1000000 in
theorem s_iload (l : Launch) (g : WG) : C_iload (gS g) (Snd l g) := by
  intro M pc lo st S Q i x h0 h1 k0 p e R s m args below meth c A cells slots Z H locs ls hC hP hS hl hk
  obtain ⟨hx, hb, hml, hown, hts, hKx, hD, hA, hfr, hlo, hce, hsl⟩ := id hC
  have kk := fun {pc2 : Nat} {lo2 st2 : List Value} {S2 : PS} (k : Snd l g M pc2 lo2 st2 S2 Q) H locs ls hP hS hl => k p e R s m args below meth c A cells slots Z H locs ls hC hP hS hl hk
  exact lv_iload hx hb h0 (hl.2.2 i _ h1 (fun q => by cases q)) (kk k0 H locs ls hP hS hl)
set_option maxHeartbeats 1000000 in
theorem s_lload_n (l : Launch) (g : WG) : C_lload_n (gS g) (Snd l g) := by
  intro M pc lo st S Q n i x h0 h1 h2 k0 p e R s m args below meth c A cells slots Z H locs ls hC hP hS hl hk
  obtain ⟨hx, hb, hml, hown, hts, hKx, hD, hA, hfr, hlo, hce, hsl⟩ := id hC
  have kk := fun {pc2 : Nat} {lo2 st2 : List Value} {S2 : PS} (k : Snd l g M pc2 lo2 st2 S2 Q) H locs ls hP hS hl => k p e R s m args below meth c A cells slots Z H locs ls hC hP hS hl hk
  exact lv_lload_n hx hb h0 h1 (hl.2.2 i _ h2 (fun q => by cases q)) (kk k0 H locs ls hP hS hl)
set_option maxHeartbeats 1000000 in
theorem s_lload (l : Launch) (g : WG) : C_lload (gS g) (Snd l g) := by
  intro M pc lo st S Q i x h0 h1 k0 p e R s m args below meth c A cells slots Z H locs ls hC hP hS hl hk
  obtain ⟨hx, hb, hml, hown, hts, hKx, hD, hA, hfr, hlo, hce, hsl⟩ := id hC
  have kk := fun {pc2 : Nat} {lo2 st2 : List Value} {S2 : PS} (k : Snd l g M pc2 lo2 st2 S2 Q) H locs ls hP hS hl => k p e R s m args below meth c A cells slots Z H locs ls hC hP hS hl hk
  exact lv_lload hx hb h0 (hl.2.2 i _ h1 (fun q => by cases q)) (kk k0 H locs ls hP hS hl)
set_option maxHeartbeats 1000000 in
theorem s_aload_n (l : Launch) (g : WG) : C_aload_n (gS g) (Snd l g) := by
  intro M pc lo st S Q n i x h0 h1 h2 k0 p e R s m args below meth c A cells slots Z H locs ls hC hP hS hl hk
  obtain ⟨hx, hb, hml, hown, hts, hKx, hD, hA, hfr, hlo, hce, hsl⟩ := id hC
  have kk := fun {pc2 : Nat} {lo2 st2 : List Value} {S2 : PS} (k : Snd l g M pc2 lo2 st2 S2 Q) H locs ls hP hS hl => k p e R s m args below meth c A cells slots Z H locs ls hC hP hS hl hk
  exact lv_aload_n hx hb h0 h1 (hl.2.2 i _ h2 (fun q => by cases q)) (kk k0 H locs ls hP hS hl)
set_option maxHeartbeats 1000000 in
theorem s_aload (l : Launch) (g : WG) : C_aload (gS g) (Snd l g) := by
  intro M pc lo st S Q i x h0 h1 k0 p e R s m args below meth c A cells slots Z H locs ls hC hP hS hl hk
  obtain ⟨hx, hb, hml, hown, hts, hKx, hD, hA, hfr, hlo, hce, hsl⟩ := id hC
  have kk := fun {pc2 : Nat} {lo2 st2 : List Value} {S2 : PS} (k : Snd l g M pc2 lo2 st2 S2 Q) H locs ls hP hS hl => k p e R s m args below meth c A cells slots Z H locs ls hC hP hS hl hk
  exact lv_aload hx hb h0 (hl.2.2 i _ h1 (fun q => by cases q)) (kk k0 H locs ls hP hS hl)
set_option maxHeartbeats 1000000 in
theorem s_istore_n (l : Launch) (g : WG) : C_istore_n (gS g) (Snd l g) := by
  intro M pc lo st S Q n i x h0 h1 h2 h3 k0 p e R s m args below meth c A cells slots Z H locs ls hC hP hS hl hk
  obtain ⟨hx, hb, hml, hown, hts, hKx, hD, hA, hfr, hlo, hce, hsl⟩ := id hC
  have kk := fun {pc2 : Nat} {lo2 st2 : List Value} {S2 : PS} (k : Snd l g M pc2 lo2 st2 S2 Q) H locs ls hP hS hl => k p e R s m args below meth c A cells slots Z H locs ls hC hP hS hl hk
  exact lv_istore_n hx hb h0 h1 hl.has h2 rfl (fun ls2 hl2 => kk k0 H locs ls2 hP hS (pLo.of1 hl2 rfl h3))
set_option maxHeartbeats 1000000 in
theorem s_istore (l : Launch) (g : WG) : C_istore (gS g) (Snd l g) := by
  intro M pc lo st S Q i x h0 h1 h2 k0 p e R s m args below meth c A cells slots Z H locs ls hC hP hS hl hk
  obtain ⟨hx, hb, hml, hown, hts, hKx, hD, hA, hfr, hlo, hce, hsl⟩ := id hC
  have kk := fun {pc2 : Nat} {lo2 st2 : List Value} {S2 : PS} (k : Snd l g M pc2 lo2 st2 S2 Q) H locs ls hP hS hl => k p e R s m args below meth c A cells slots Z H locs ls hC hP hS hl hk
  exact lv_istore hx hb h0 hl.has h1 rfl (fun ls2 hl2 => kk k0 H locs ls2 hP hS (pLo.of1 hl2 rfl h2))
set_option maxHeartbeats 1000000 in
theorem s_astore_n (l : Launch) (g : WG) : C_astore_n (gS g) (Snd l g) := by
  intro M pc lo st S Q n i x h0 h1 h2 h3 k0 p e R s m args below meth c A cells slots Z H locs ls hC hP hS hl hk
  obtain ⟨hx, hb, hml, hown, hts, hKx, hD, hA, hfr, hlo, hce, hsl⟩ := id hC
  have kk := fun {pc2 : Nat} {lo2 st2 : List Value} {S2 : PS} (k : Snd l g M pc2 lo2 st2 S2 Q) H locs ls hP hS hl => k p e R s m args below meth c A cells slots Z H locs ls hC hP hS hl hk
  exact lv_astore_n hx hb h0 h1 hl.has h2 rfl (fun ls2 hl2 => kk k0 H locs ls2 hP hS (pLo.of1 hl2 rfl h3))
set_option maxHeartbeats 1000000 in
theorem s_astore (l : Launch) (g : WG) : C_astore (gS g) (Snd l g) := by
  intro M pc lo st S Q i x h0 h1 h2 k0 p e R s m args below meth c A cells slots Z H locs ls hC hP hS hl hk
  obtain ⟨hx, hb, hml, hown, hts, hKx, hD, hA, hfr, hlo, hce, hsl⟩ := id hC
  have kk := fun {pc2 : Nat} {lo2 st2 : List Value} {S2 : PS} (k : Snd l g M pc2 lo2 st2 S2 Q) H locs ls hP hS hl => k p e R s m args below meth c A cells slots Z H locs ls hC hP hS hl hk
  exact lv_astore hx hb h0 hl.has h1 rfl (fun ls2 hl2 => kk k0 H locs ls2 hP hS (pLo.of1 hl2 rfl h2))
set_option maxHeartbeats 1000000 in
theorem s_lstore_n (l : Launch) (g : WG) : C_lstore_n (gS g) (Snd l g) := by
  intro M pc lo st S Q n i x h0 h1 h2 h3 k0 p e R s m args below meth c A cells slots Z H locs ls hC hP hS hl hk
  obtain ⟨hx, hb, hml, hown, hts, hKx, hD, hA, hfr, hlo, hce, hsl⟩ := id hC
  have kk := fun {pc2 : Nat} {lo2 st2 : List Value} {S2 : PS} (k : Snd l g M pc2 lo2 st2 S2 Q) H locs ls hP hS hl => k p e R s m args below meth c A cells slots Z H locs ls hC hP hS hl hk
  exact lv_lstore_n hx hb h0 h1 hl.has h2 rfl (fun ls2 hl2 => kk k0 H locs ls2 hP hS (pLo.of2 hl2 rfl h3))
set_option maxHeartbeats 1000000 in
theorem s_lstore (l : Launch) (g : WG) : C_lstore (gS g) (Snd l g) := by
  intro M pc lo st S Q i x h0 h1 h2 k0 p e R s m args below meth c A cells slots Z H locs ls hC hP hS hl hk
  obtain ⟨hx, hb, hml, hown, hts, hKx, hD, hA, hfr, hlo, hce, hsl⟩ := id hC
  have kk := fun {pc2 : Nat} {lo2 st2 : List Value} {S2 : PS} (k : Snd l g M pc2 lo2 st2 S2 Q) H locs ls hP hS hl => k p e R s m args below meth c A cells slots Z H locs ls hC hP hS hl hk
  exact lv_lstore hx hb h0 hl.has h1 rfl (fun ls2 hl2 => kk k0 H locs ls2 hP hS (pLo.of2 hl2 rfl h2))
set_option maxHeartbeats 1000000 in
theorem s_iinc (l : Launch) (g : WG) : C_iinc (gS g) (Snd l g) := by
  intro M pc lo st S Q i n x h0 h1 h2 h3 k0 p e R s m args below meth c A cells slots Z H locs ls hC hP hS hl hk
  obtain ⟨hx, hb, hml, hown, hts, hKx, hD, hA, hfr, hlo, hce, hsl⟩ := id hC
  have kk := fun {pc2 : Nat} {lo2 st2 : List Value} {S2 : PS} (k : Snd l g M pc2 lo2 st2 S2 Q) H locs ls hP hS hl => k p e R s m args below meth c A cells slots Z H locs ls hC hP hS hl hk
  obtain ⟨j, hj⟩ := List.getElem?_of_mem (pLv_in (g := g) h1 (fun q => by cases q))
  exact lv_iinc hx hb h0 hl.has hj rfl h2 rfl (fun ls2 hl2 => kk k0 H locs ls2 hP hS (pLo.of1 hl2 rfl h3))
set_option maxHeartbeats 1000000 in
theorem s_iadd (l : Launch) (g : WG) : C_iadd (gS g) (Snd l g) := by
  intro M pc lo st S Q x y h0 k0 p e R s m args below meth c A cells slots Z H locs ls hC hP hS hl hk
  obtain ⟨hx, hb, hml, hown, hts, hKx, hD, hA, hfr, hlo, hce, hsl⟩ := id hC
  have kk := fun {pc2 : Nat} {lo2 st2 : List Value} {S2 : PS} (k : Snd l g M pc2 lo2 st2 S2 Q) H locs ls hP hS hl => k p e R s m args below meth c A cells slots Z H locs ls hC hP hS hl hk
  exact lv_iadd hx hb h0  (kk k0 H locs ls hP hS hl)
set_option maxHeartbeats 1000000 in
theorem s_isub (l : Launch) (g : WG) : C_isub (gS g) (Snd l g) := by
  intro M pc lo st S Q x y h0 k0 p e R s m args below meth c A cells slots Z H locs ls hC hP hS hl hk
  obtain ⟨hx, hb, hml, hown, hts, hKx, hD, hA, hfr, hlo, hce, hsl⟩ := id hC
  have kk := fun {pc2 : Nat} {lo2 st2 : List Value} {S2 : PS} (k : Snd l g M pc2 lo2 st2 S2 Q) H locs ls hP hS hl => k p e R s m args below meth c A cells slots Z H locs ls hC hP hS hl hk
  exact lv_isub hx hb h0  (kk k0 H locs ls hP hS hl)
set_option maxHeartbeats 1000000 in
theorem s_imul (l : Launch) (g : WG) : C_imul (gS g) (Snd l g) := by
  intro M pc lo st S Q x y h0 k0 p e R s m args below meth c A cells slots Z H locs ls hC hP hS hl hk
  obtain ⟨hx, hb, hml, hown, hts, hKx, hD, hA, hfr, hlo, hce, hsl⟩ := id hC
  have kk := fun {pc2 : Nat} {lo2 st2 : List Value} {S2 : PS} (k : Snd l g M pc2 lo2 st2 S2 Q) H locs ls hP hS hl => k p e R s m args below meth c A cells slots Z H locs ls hC hP hS hl hk
  exact lv_imul hx hb h0  (kk k0 H locs ls hP hS hl)
set_option maxHeartbeats 1000000 in
theorem s_iand (l : Launch) (g : WG) : C_iand (gS g) (Snd l g) := by
  intro M pc lo st S Q x y h0 k0 p e R s m args below meth c A cells slots Z H locs ls hC hP hS hl hk
  obtain ⟨hx, hb, hml, hown, hts, hKx, hD, hA, hfr, hlo, hce, hsl⟩ := id hC
  have kk := fun {pc2 : Nat} {lo2 st2 : List Value} {S2 : PS} (k : Snd l g M pc2 lo2 st2 S2 Q) H locs ls hP hS hl => k p e R s m args below meth c A cells slots Z H locs ls hC hP hS hl hk
  exact lv_iand hx hb h0  (kk k0 H locs ls hP hS hl)
set_option maxHeartbeats 1000000 in
theorem s_ior (l : Launch) (g : WG) : C_ior (gS g) (Snd l g) := by
  intro M pc lo st S Q x y h0 k0 p e R s m args below meth c A cells slots Z H locs ls hC hP hS hl hk
  obtain ⟨hx, hb, hml, hown, hts, hKx, hD, hA, hfr, hlo, hce, hsl⟩ := id hC
  have kk := fun {pc2 : Nat} {lo2 st2 : List Value} {S2 : PS} (k : Snd l g M pc2 lo2 st2 S2 Q) H locs ls hP hS hl => k p e R s m args below meth c A cells slots Z H locs ls hC hP hS hl hk
  exact lv_ior hx hb h0  (kk k0 H locs ls hP hS hl)
set_option maxHeartbeats 1000000 in
theorem s_ishl (l : Launch) (g : WG) : C_ishl (gS g) (Snd l g) := by
  intro M pc lo st S Q x y h0 k0 p e R s m args below meth c A cells slots Z H locs ls hC hP hS hl hk
  obtain ⟨hx, hb, hml, hown, hts, hKx, hD, hA, hfr, hlo, hce, hsl⟩ := id hC
  have kk := fun {pc2 : Nat} {lo2 st2 : List Value} {S2 : PS} (k : Snd l g M pc2 lo2 st2 S2 Q) H locs ls hP hS hl => k p e R s m args below meth c A cells slots Z H locs ls hC hP hS hl hk
  exact lv_ishl hx hb h0  (kk k0 H locs ls hP hS hl)
set_option maxHeartbeats 1000000 in
theorem s_ishr (l : Launch) (g : WG) : C_ishr (gS g) (Snd l g) := by
  intro M pc lo st S Q x y h0 k0 p e R s m args below meth c A cells slots Z H locs ls hC hP hS hl hk
  obtain ⟨hx, hb, hml, hown, hts, hKx, hD, hA, hfr, hlo, hce, hsl⟩ := id hC
  have kk := fun {pc2 : Nat} {lo2 st2 : List Value} {S2 : PS} (k : Snd l g M pc2 lo2 st2 S2 Q) H locs ls hP hS hl => k p e R s m args below meth c A cells slots Z H locs ls hC hP hS hl hk
  exact lv_ishr hx hb h0  (kk k0 H locs ls hP hS hl)
set_option maxHeartbeats 1000000 in
theorem s_iushr (l : Launch) (g : WG) : C_iushr (gS g) (Snd l g) := by
  intro M pc lo st S Q x y h0 k0 p e R s m args below meth c A cells slots Z H locs ls hC hP hS hl hk
  obtain ⟨hx, hb, hml, hown, hts, hKx, hD, hA, hfr, hlo, hce, hsl⟩ := id hC
  have kk := fun {pc2 : Nat} {lo2 st2 : List Value} {S2 : PS} (k : Snd l g M pc2 lo2 st2 S2 Q) H locs ls hP hS hl => k p e R s m args below meth c A cells slots Z H locs ls hC hP hS hl hk
  exact lv_iushr hx hb h0 rfl (kk k0 H locs ls hP hS hl)
set_option maxHeartbeats 1000000 in
theorem s_irem (l : Launch) (g : WG) : C_irem (gS g) (Snd l g) := by
  intro M pc lo st S Q x y h0 h1 k0 p e R s m args below meth c A cells slots Z H locs ls hC hP hS hl hk
  obtain ⟨hx, hb, hml, hown, hts, hKx, hD, hA, hfr, hlo, hce, hsl⟩ := id hC
  have kk := fun {pc2 : Nat} {lo2 st2 : List Value} {S2 : PS} (k : Snd l g M pc2 lo2 st2 S2 Q) H locs ls hP hS hl => k p e R s m args below meth c A cells slots Z H locs ls hC hP hS hl hk
  exact lv_irem hx hb h0 h1 (kk k0 H locs ls hP hS hl)
set_option maxHeartbeats 1000000 in
theorem s_ladd (l : Launch) (g : WG) : C_ladd (gS g) (Snd l g) := by
  intro M pc lo st S Q x y h0 k0 p e R s m args below meth c A cells slots Z H locs ls hC hP hS hl hk
  obtain ⟨hx, hb, hml, hown, hts, hKx, hD, hA, hfr, hlo, hce, hsl⟩ := id hC
  have kk := fun {pc2 : Nat} {lo2 st2 : List Value} {S2 : PS} (k : Snd l g M pc2 lo2 st2 S2 Q) H locs ls hP hS hl => k p e R s m args below meth c A cells slots Z H locs ls hC hP hS hl hk
  exact lv_ladd hx hb h0  (kk k0 H locs ls hP hS hl)
set_option maxHeartbeats 1000000 in
theorem s_lmul (l : Launch) (g : WG) : C_lmul (gS g) (Snd l g) := by
  intro M pc lo st S Q x y h0 k0 p e R s m args below meth c A cells slots Z H locs ls hC hP hS hl hk
  obtain ⟨hx, hb, hml, hown, hts, hKx, hD, hA, hfr, hlo, hce, hsl⟩ := id hC
  have kk := fun {pc2 : Nat} {lo2 st2 : List Value} {S2 : PS} (k : Snd l g M pc2 lo2 st2 S2 Q) H locs ls hP hS hl => k p e R s m args below meth c A cells slots Z H locs ls hC hP hS hl hk
  exact lv_lmul hx hb h0  (kk k0 H locs ls hP hS hl)
set_option maxHeartbeats 1000000 in
theorem s_ldiv (l : Launch) (g : WG) : C_ldiv (gS g) (Snd l g) := by
  intro M pc lo st S Q x y h0 h1 k0 p e R s m args below meth c A cells slots Z H locs ls hC hP hS hl hk
  obtain ⟨hx, hb, hml, hown, hts, hKx, hD, hA, hfr, hlo, hce, hsl⟩ := id hC
  have kk := fun {pc2 : Nat} {lo2 st2 : List Value} {S2 : PS} (k : Snd l g M pc2 lo2 st2 S2 Q) H locs ls hP hS hl => k p e R s m args below meth c A cells slots Z H locs ls hC hP hS hl hk
  exact lv_ldiv hx hb h0 h1 (kk k0 H locs ls hP hS hl)
set_option maxHeartbeats 1000000 in
theorem s_lrem (l : Launch) (g : WG) : C_lrem (gS g) (Snd l g) := by
  intro M pc lo st S Q x y h0 h1 k0 p e R s m args below meth c A cells slots Z H locs ls hC hP hS hl hk
  obtain ⟨hx, hb, hml, hown, hts, hKx, hD, hA, hfr, hlo, hce, hsl⟩ := id hC
  have kk := fun {pc2 : Nat} {lo2 st2 : List Value} {S2 : PS} (k : Snd l g M pc2 lo2 st2 S2 Q) H locs ls hP hS hl => k p e R s m args below meth c A cells slots Z H locs ls hC hP hS hl hk
  exact lv_lrem hx hb h0 h1 (kk k0 H locs ls hP hS hl)
set_option maxHeartbeats 1000000 in
theorem s_lcmp (l : Launch) (g : WG) : C_lcmp (gS g) (Snd l g) := by
  intro M pc lo st S Q x y h0 k0 p e R s m args below meth c A cells slots Z H locs ls hC hP hS hl hk
  obtain ⟨hx, hb, hml, hown, hts, hKx, hD, hA, hfr, hlo, hce, hsl⟩ := id hC
  have kk := fun {pc2 : Nat} {lo2 st2 : List Value} {S2 : PS} (k : Snd l g M pc2 lo2 st2 S2 Q) H locs ls hP hS hl => k p e R s m args below meth c A cells slots Z H locs ls hC hP hS hl hk
  exact W.lcmp hx hb h0  (kk k0 H locs ls hP hS hl)
set_option maxHeartbeats 1000000 in
theorem s_ineg (l : Launch) (g : WG) : C_ineg (gS g) (Snd l g) := by
  intro M pc lo st S Q x h0 k0 p e R s m args below meth c A cells slots Z H locs ls hC hP hS hl hk
  obtain ⟨hx, hb, hml, hown, hts, hKx, hD, hA, hfr, hlo, hce, hsl⟩ := id hC
  have kk := fun {pc2 : Nat} {lo2 st2 : List Value} {S2 : PS} (k : Snd l g M pc2 lo2 st2 S2 Q) H locs ls hP hS hl => k p e R s m args below meth c A cells slots Z H locs ls hC hP hS hl hk
  exact lv_ineg hx hb h0  (kk k0 H locs ls hP hS hl)
set_option maxHeartbeats 1000000 in
theorem s_i2l (l : Launch) (g : WG) : C_i2l (gS g) (Snd l g) := by
  intro M pc lo st S Q x h0 k0 p e R s m args below meth c A cells slots Z H locs ls hC hP hS hl hk
  obtain ⟨hx, hb, hml, hown, hts, hKx, hD, hA, hfr, hlo, hce, hsl⟩ := id hC
  have kk := fun {pc2 : Nat} {lo2 st2 : List Value} {S2 : PS} (k : Snd l g M pc2 lo2 st2 S2 Q) H locs ls hP hS hl => k p e R s m args below meth c A cells slots Z H locs ls hC hP hS hl hk
  exact lv_i2l hx hb h0 rfl (kk k0 H locs ls hP hS hl)
set_option maxHeartbeats 1000000 in
theorem s_i2b (l : Launch) (g : WG) : C_i2b (gS g) (Snd l g) := by
  intro M pc lo st S Q x h0 k0 p e R s m args below meth c A cells slots Z H locs ls hC hP hS hl hk
  obtain ⟨hx, hb, hml, hown, hts, hKx, hD, hA, hfr, hlo, hce, hsl⟩ := id hC
  have kk := fun {pc2 : Nat} {lo2 st2 : List Value} {S2 : PS} (k : Snd l g M pc2 lo2 st2 S2 Q) H locs ls hP hS hl => k p e R s m args below meth c A cells slots Z H locs ls hC hP hS hl hk
  exact lv_i2b hx hb h0 rfl (kk k0 H locs ls hP hS hl)
set_option maxHeartbeats 1000000 in
theorem s_i2s (l : Launch) (g : WG) : C_i2s (gS g) (Snd l g) := by
  intro M pc lo st S Q x h0 k0 p e R s m args below meth c A cells slots Z H locs ls hC hP hS hl hk
  obtain ⟨hx, hb, hml, hown, hts, hKx, hD, hA, hfr, hlo, hce, hsl⟩ := id hC
  have kk := fun {pc2 : Nat} {lo2 st2 : List Value} {S2 : PS} (k : Snd l g M pc2 lo2 st2 S2 Q) H locs ls hP hS hl => k p e R s m args below meth c A cells slots Z H locs ls hC hP hS hl hk
  exact lv_i2s hx hb h0 rfl (kk k0 H locs ls hP hS hl)
set_option maxHeartbeats 1000000 in
theorem s_i2c (l : Launch) (g : WG) : C_i2c (gS g) (Snd l g) := by
  intro M pc lo st S Q x h0 k0 p e R s m args below meth c A cells slots Z H locs ls hC hP hS hl hk
  obtain ⟨hx, hb, hml, hown, hts, hKx, hD, hA, hfr, hlo, hce, hsl⟩ := id hC
  have kk := fun {pc2 : Nat} {lo2 st2 : List Value} {S2 : PS} (k : Snd l g M pc2 lo2 st2 S2 Q) H locs ls hP hS hl => k p e R s m args below meth c A cells slots Z H locs ls hC hP hS hl hk
  exact lv_i2c hx hb h0 rfl (kk k0 H locs ls hP hS hl)
set_option maxHeartbeats 1000000 in
theorem s_dup (l : Launch) (g : WG) : C_dup (gS g) (Snd l g) := by
  intro M pc lo st S Q v h0 h1 k0 p e R s m args below meth c A cells slots Z H locs ls hC hP hS hl hk
  obtain ⟨hx, hb, hml, hown, hts, hKx, hD, hA, hfr, hlo, hce, hsl⟩ := id hC
  have kk := fun {pc2 : Nat} {lo2 st2 : List Value} {S2 : PS} (k : Snd l g M pc2 lo2 st2 S2 Q) H locs ls hP hS hl => k p e R s m args below meth c A cells slots Z H locs ls hC hP hS hl hk
  exact lv_dup hx hb h0 ((pEn_cat g v).trans h1) (kk k0 H locs ls hP hS hl)
set_option maxHeartbeats 1000000 in
theorem s_pop (l : Launch) (g : WG) : C_pop (gS g) (Snd l g) := by
  intro M pc lo st S Q v h0 h1 k0 p e R s m args below meth c A cells slots Z H locs ls hC hP hS hl hk
  obtain ⟨hx, hb, hml, hown, hts, hKx, hD, hA, hfr, hlo, hce, hsl⟩ := id hC
  have kk := fun {pc2 : Nat} {lo2 st2 : List Value} {S2 : PS} (k : Snd l g M pc2 lo2 st2 S2 Q) H locs ls hP hS hl => k p e R s m args below meth c A cells slots Z H locs ls hC hP hS hl hk
  exact lv_pop hx hb h0 ((pEn_cat g v).trans h1) (kk k0 H locs ls hP hS hl)
set_option maxHeartbeats 1000000 in
theorem s_dup2 (l : Launch) (g : WG) : C_dup2 (gS g) (Snd l g) := by
  intro M pc lo st S Q v w h0 h1 h2 k0 p e R s m args below meth c A cells slots Z H locs ls hC hP hS hl hk
  obtain ⟨hx, hb, hml, hown, hts, hKx, hD, hA, hfr, hlo, hce, hsl⟩ := id hC
  have kk := fun {pc2 : Nat} {lo2 st2 : List Value} {S2 : PS} (k : Snd l g M pc2 lo2 st2 S2 Q) H locs ls hP hS hl => k p e R s m args below meth c A cells slots Z H locs ls hC hP hS hl hk
  exact lv_dup2_11 hx hb h0 ((pEn_cat g v).trans h1) ((pEn_cat g w).trans h2) (kk k0 H locs ls hP hS hl)
set_option maxHeartbeats 1000000 in
theorem s_getI (l : Launch) (g : WG) : C_getI (gS g) (Snd l g) := by
  intro M pc lo st S Q x ci k i fs h0 h1 h2 h3 k0 p e R s m args below meth c A cells slots Z H locs ls hC hP hS hl hk
  obtain ⟨hx, hb, hml, hown, hts, hKx, hD, hA, hfr, hlo, hce, hsl⟩ := id hC
  have kk := fun {pc2 : Nat} {lo2 st2 : List Value} {S2 : PS} (k : Snd l g M pc2 lo2 st2 S2 Q) H locs ls hP hS hl => k p e R s m args below meth c A cells slots Z H locs ls hC hP hS hl hk
  obtain ⟨C, T, N, hc, hk9, hT, hws, hlink⟩ := h1
  have he := pcW_at (g := g) (S := S) h2
  have hv : (fs.mapIdx (fun k f => pcV g S i k f))[k]? = some (.int (S.1 i k)) := by rw [List.getElem?_mapIdx, h3]; rfl
  rcases hlink with hlink | ⟨host, hlink⟩
  · exact va_get (D := gD g) hx hb hts hws hown hKx.1 hP i he hc k hk9 (hts _ hlink) (fun _ h => hT ▸ h) hv h0 (kk k0 H locs ls hP hS hl)
  · exact va_getN (D := gD g) hx hb hts hws hown hKx.1 hP i he hc k hk9 (va_Nw.use rfl (hKx.2.1 _ hlink)) (fun _ h => hT ▸ h) hv h0 (kk k0 H locs ls hP hS hl)
set_option maxHeartbeats 1000000 in
theorem s_getR (l : Launch) (g : WG) : C_getR (gS g) (Snd l g) := by
  intro M pc lo st S Q x ci k i j fs h0 h1 h2 h3 k0 p e R s m args below meth c A cells slots Z H locs ls hC hP hS hl hk
  obtain ⟨hx, hb, hml, hown, hts, hKx, hD, hA, hfr, hlo, hce, hsl⟩ := id hC
  have kk := fun {pc2 : Nat} {lo2 st2 : List Value} {S2 : PS} (k : Snd l g M pc2 lo2 st2 S2 Q) H locs ls hP hS hl => k p e R s m args below meth c A cells slots Z H locs ls hC hP hS hl hk
  obtain ⟨C, T, N, hc, hk9, hT, hws, hlink⟩ := h1
  have he := pcW_at (g := g) (S := S) h2
  have hv : (fs.mapIdx (fun k f => pcV g S i k f))[k]? = some (.ref (gA g j)) := by rw [List.getElem?_mapIdx, h3]; rfl
  rcases hlink with hlink | ⟨host, hlink⟩
  · exact va_get (D := gD g) hx hb hts hws hown hKx.1 hP i he hc k hk9 (hts _ hlink) (fun _ h => hT ▸ h) hv h0 (kk k0 H locs ls hP hS hl)
  · exact va_getN (D := gD g) hx hb hts hws hown hKx.1 hP i he hc k hk9 (va_Nw.use rfl (hKx.2.1 _ hlink)) (fun _ h => hT ▸ h) hv h0 (kk k0 H locs ls hP hS hl)
set_option maxHeartbeats 1000000 in
theorem s_putI (l : Launch) (g : WG) : C_putI (gS g) (Snd l g) := by
  intro M pc lo st S Q x ci k i fs z v h0 h1 h2 h3 h4 k0 p e R s m args below meth c A cells slots Z H locs ls hC hP hS hl hk
  obtain ⟨hx, hb, hml, hown, hts, hKx, hD, hA, hfr, hlo, hce, hsl⟩ := id hC
  have kk := fun {pc2 : Nat} {lo2 st2 : List Value} {S2 : PS} (k : Snd l g M pc2 lo2 st2 S2 Q) H locs ls hP hS hl => k p e R s m args below meth c A cells slots Z H locs ls hC hP hS hl hk
  obtain ⟨C, T, N, ty0, hc, hk9, hT, hws, hlink, hty, hnm, hfin, hz⟩ := h1
  have he := pcW_at (g := g) (S := S) h2
  have hkl : k < fs.length := (List.getElem?_eq_some_iff.mp h3).1
  have hn9 : narrow (ty0 k) (.int v) = .int v ∧ fits (ty0 k) (.int v) = true := by
    rw [hz]
    cases z with
    | false => exact ⟨rfl, rfl⟩
    | true => rcases h4 rfl with rfl | rfl <;> exact ⟨rfl, rfl⟩
  have hset : (pcW g S).set i (gA g i, .inr (ci, (fs.mapIdx (fun k f => pcV g S i k f)).set k (.int v))) = pcW g (up2 S.1 i k v, S.2) := by
    refine pcW_set h2 ?_ (fun j hj => ⟨up2_ne _ _ _ hj, rfl⟩)
    show (Sum.inr (ci, fs.mapIdx (fun k2 f => pcV g (up2 S.1 i k v, S.2) i k2 f)) : va_E) = _
    refine congrArg (fun z => (Sum.inr (ci, z) : va_E)) ?_
    apply List.ext_getElem?
    intro j
    by_cases hj : j = k
    · subst hj
      rw [List.getElem?_set_self (by rw [List.length_mapIdx]; exact hkl), List.getElem?_mapIdx, h3]
      show some (Value.int (up2 S.1 i j v i j)) = _
      simp [up2]
    · rw [List.getElem?_set_ne (Ne.symm hj), List.getElem?_mapIdx, List.getElem?_mapIdx]
      cases fs[j]? with
      | none => rfl
      | some f =>
        cases f with
        | none =>
          show some (Value.int (up2 S.1 i k v i j)) = some (Value.int (S.1 i j))
          simp [up2, hj]
        | some q => rfl
  have hl9 : k < (fs.mapIdx (fun k f => pcV g S i k f)).length := by rw [List.length_mapIdx]; exact hkl
  rcases hlink with hlink | ⟨host, hlink⟩
  · refine va_put (D := gD g) hx hb hts hws ty0 hty hnm hown hKx.1 hP (hD S) hS i he hc k hk9 (hts _ hlink) (fun _ h => hT ▸ h) hfin (hty k hk9) hn9.1 hn9.2 hl9 h0 (fun H1 locs1 hP1 _ hS1 => ?_)
    have hP1 : va_P (gD g) vwCl ((pcW g S).set i (gA g i, .inr (ci, (fs.mapIdx (fun k f => pcV g S i k f)).set k (.int v)))) H1 := hP1
    rw [hset] at hP1
    exact kk k0 H1 locs1 ls hP1 hS1 hl
  · refine va_putN (D := gD g) hx hb hts hws ty0 hty hnm hown hKx.1 hP (hD S) hS i he hc k hk9 (va_Nw.use rfl (hKx.2.1 _ hlink)) (fun _ h => hT ▸ h) hfin (hty k hk9) hn9.1 hn9.2 hl9 h0 (fun H1 locs1 hP1 _ hS1 => ?_)
    have hP1 : va_P (gD g) vwCl ((pcW g S).set i (gA g i, .inr (ci, (fs.mapIdx (fun k f => pcV g S i k f)).set k (.int v)))) H1 := hP1
    rw [hset] at hP1
    exact kk k0 H1 locs1 ls hP1 hS1 hl
set_option maxHeartbeats 1000000 in
theorem s_iald (l : Launch) (g : WG) : C_iald (gS g) (Snd l g) := by
  intro M pc lo st S Q i n j h0 h1 h2 k0 p e R s m args below meth c A cells slots Z H locs ls hC hP hS hl hk
  obtain ⟨hx, hb, hml, hown, hts, hKx, hD, hA, hfr, hlo, hce, hsl⟩ := id hC
  have kk := fun {pc2 : Nat} {lo2 st2 : List Value} {S2 : PS} (k : Snd l g M pc2 lo2 st2 S2 Q) H locs ls hP hS hl => k p e R s m args below meth c A cells slots Z H locs ls hC hP hS hl hk
  exact va_iald (D := gD g) hx hb hKx.1 hP i 0 (pcW_at h1) (pcT_at (ty := .int) rfl) h2 h0 (kk k0 H locs ls hP hS hl)
set_option maxHeartbeats 1000000 in
theorem s_iast (l : Launch) (g : WG) : C_iast (gS g) (Snd l g) := by
  intro M pc lo st S Q i n j v h0 h1 h2 k0 p e R s m args below meth c A cells slots Z H locs ls hC hP hS hl hk
  obtain ⟨hx, hb, hml, hown, hts, hKx, hD, hA, hfr, hlo, hce, hsl⟩ := id hC
  have kk := fun {pc2 : Nat} {lo2 st2 : List Value} {S2 : PS} (k : Snd l g M pc2 lo2 st2 S2 Q) H locs ls hP hS hl => k p e R s m args below meth c A cells slots Z H locs ls hC hP hS hl hk
  have hset : (pcW g S).set i (gA g i, .inl (gC g 0, n, .inl (upd (S.1 i) j.toNatClampNeg v))) = pcW g (up2 S.1 i j.toNatClampNeg v, S.2) := by
    refine pcW_set h1 ?_ (fun j hj => ⟨up2_ne _ _ _ hj, rfl⟩)
    show (Sum.inl (gC g 0, n, Sum.inl (up2 S.1 i j.toNatClampNeg v i)) : va_E) = _
    rw [up2_at]
    rfl
  refine va_iast (D := gD g) hx hb hKx.1 hP (hD S) hS i 0 (pcW_at h1) (pcT_at (ty := .int) rfl) h2 h0 (fun H1 locs1 hP1 _ hS1 => ?_)
  rw [hset] at hP1
  exact kk k0 H1 locs1 ls hP1 hS1 hl
set_option maxHeartbeats 1000000 in
theorem s_bald (l : Launch) (g : WG) : C_bald (gS g) (Snd l g) := by
  intro M pc lo st S Q i n j h0 h1 h2 k0 p e R s m args below meth c A cells slots Z H locs ls hC hP hS hl hk
  obtain ⟨hx, hb, hml, hown, hts, hKx, hD, hA, hfr, hlo, hce, hsl⟩ := id hC
  have kk := fun {pc2 : Nat} {lo2 st2 : List Value} {S2 : PS} (k : Snd l g M pc2 lo2 st2 S2 Q) H locs ls hP hS hl => k p e R s m args below meth c A cells slots Z H locs ls hC hP hS hl hk
  exact va_bald (D := gD g) hx hb hKx.1 hP i 1 (pcW_at h1) (pcT_at (ty := .byte) rfl) h2 h0 (kk k0 H locs ls hP hS hl)
set_option maxHeartbeats 1000000 in
theorem s_bast (l : Launch) (g : WG) : C_bast (gS g) (Snd l g) := by
  intro M pc lo st S Q i n j v h0 h1 h2 k0 p e R s m args below meth c A cells slots Z H locs ls hC hP hS hl hk
  obtain ⟨hx, hb, hml, hown, hts, hKx, hD, hA, hfr, hlo, hce, hsl⟩ := id hC
  have kk := fun {pc2 : Nat} {lo2 st2 : List Value} {S2 : PS} (k : Snd l g M pc2 lo2 st2 S2 Q) H locs ls hP hS hl => k p e R s m args below meth c A cells slots Z H locs ls hC hP hS hl hk
  have hset : (pcW g S).set i (gA g i, .inl (gC g 1, n, .inl (upd (S.1 i) j.toNatClampNeg (vp_nar .byte v)))) = pcW g (up2 S.1 i j.toNatClampNeg (vp_nar .byte v), S.2) := by
    refine pcW_set h1 ?_ (fun j hj => ⟨up2_ne _ _ _ hj, rfl⟩)
    show (Sum.inl (gC g 1, n, Sum.inl (up2 S.1 i j.toNatClampNeg (vp_nar .byte v) i)) : va_E) = _
    rw [up2_at]
    rfl
  refine va_bast (D := gD g) hx hb hKx.1 hP (hD S) hS i 1 (pcW_at h1) (pcT_at (ty := .byte) rfl) h2 h0 (fun H1 locs1 hP1 _ hS1 => ?_)
  rw [hset] at hP1
  exact kk k0 H1 locs1 ls hP1 hS1 hl
set_option maxHeartbeats 1000000 in
theorem s_zald (l : Launch) (g : WG) : C_zald (gS g) (Snd l g) := by
  intro M pc lo st S Q i n j h0 h1 h2 k0 p e R s m args below meth c A cells slots Z H locs ls hC hP hS hl hk
  obtain ⟨hx, hb, hml, hown, hts, hKx, hD, hA, hfr, hlo, hce, hsl⟩ := id hC
  have kk := fun {pc2 : Nat} {lo2 st2 : List Value} {S2 : PS} (k : Snd l g M pc2 lo2 st2 S2 Q) H locs ls hP hS hl => k p e R s m args below meth c A cells slots Z H locs ls hC hP hS hl hk
  exact va_zald (D := gD g) hx hb hKx.1 hP i 2 (pcW_at h1) (pcT_at (ty := .boolean) rfl) h2 h0 (kk k0 H locs ls hP hS hl)
set_option maxHeartbeats 1000000 in
theorem s_zast (l : Launch) (g : WG) : C_zast (gS g) (Snd l g) := by
  intro M pc lo st S Q i n j v h0 h1 h2 k0 p e R s m args below meth c A cells slots Z H locs ls hC hP hS hl hk
  obtain ⟨hx, hb, hml, hown, hts, hKx, hD, hA, hfr, hlo, hce, hsl⟩ := id hC
  have kk := fun {pc2 : Nat} {lo2 st2 : List Value} {S2 : PS} (k : Snd l g M pc2 lo2 st2 S2 Q) H locs ls hP hS hl => k p e R s m args below meth c A cells slots Z H locs ls hC hP hS hl hk
  have hset : (pcW g S).set i (gA g i, .inl (gC g 2, n, .inl (upd (S.1 i) j.toNatClampNeg (vp_nar .boolean v)))) = pcW g (up2 S.1 i j.toNatClampNeg (vp_nar .boolean v), S.2) := by
    refine pcW_set h1 ?_ (fun j hj => ⟨up2_ne _ _ _ hj, rfl⟩)
    show (Sum.inl (gC g 2, n, Sum.inl (up2 S.1 i j.toNatClampNeg (vp_nar .boolean v) i)) : va_E) = _
    rw [up2_at]
    rfl
  refine va_zast (D := gD g) hx hb hKx.1 hP (hD S) hS i 2 (pcW_at h1) (pcT_at (ty := .boolean) rfl) h2 h0 (fun H1 locs1 hP1 _ hS1 => ?_)
  rw [hset] at hP1
  exact kk k0 H1 locs1 ls hP1 hS1 hl
set_option maxHeartbeats 1000000 in
theorem s_lald (l : Launch) (g : WG) : C_lald (gS g) (Snd l g) := by
  intro M pc lo st S Q i n j h0 h1 h2 k0 p e R s m args below meth c A cells slots Z H locs ls hC hP hS hl hk
  obtain ⟨hx, hb, hml, hown, hts, hKx, hD, hA, hfr, hlo, hce, hsl⟩ := id hC
  have kk := fun {pc2 : Nat} {lo2 st2 : List Value} {S2 : PS} (k : Snd l g M pc2 lo2 st2 S2 Q) H locs ls hP hS hl => k p e R s m args below meth c A cells slots Z H locs ls hC hP hS hl hk
  exact va_lald (D := gD g) hx hb hKx.1 hP i 3 (pcW_at h1) (pcT_at (ty := .long) rfl) h2 h0 (kk k0 H locs ls hP hS hl)
set_option maxHeartbeats 1000000 in
theorem s_last (l : Launch) (g : WG) : C_last (gS g) (Snd l g) := by
  intro M pc lo st S Q i n j v h0 h1 h2 k0 p e R s m args below meth c A cells slots Z H locs ls hC hP hS hl hk
  obtain ⟨hx, hb, hml, hown, hts, hKx, hD, hA, hfr, hlo, hce, hsl⟩ := id hC
  have kk := fun {pc2 : Nat} {lo2 st2 : List Value} {S2 : PS} (k : Snd l g M pc2 lo2 st2 S2 Q) H locs ls hP hS hl => k p e R s m args below meth c A cells slots Z H locs ls hC hP hS hl hk
  have hset : (pcW g S).set i (gA g i, .inl (gC g 3, n, .inr (.inl (vp_updL (S.2 i) j.toNatClampNeg v)))) = pcW g (S.1, up2 S.2 i j.toNatClampNeg v) := by
    refine pcW_set h1 ?_ (fun j hj => ⟨rfl, up2_ne _ _ _ hj⟩)
    show (Sum.inl (gC g 3, n, Sum.inr (Sum.inl (up2 S.2 i j.toNatClampNeg v i))) : va_E) = _
    rw [up2_at]
    rfl
  refine va_last (D := gD g) hx hb hKx.1 hP (hD S) hS i 3 (pcW_at h1) (pcT_at (ty := .long) rfl) h2 h0 (fun H1 locs1 hP1 _ hS1 => ?_)
  rw [hset] at hP1
  exact kk k0 H1 locs1 ls hP1 hS1 hl
set_option maxHeartbeats 1000000 in
theorem s_aald (l : Launch) (g : WG) : C_aald (gS g) (Snd l g) := by
  intro M pc lo st S Q i t r js j h0 h1 h2 h3 k0 p e R s m args below meth c A cells slots Z H locs ls hC hP hS hl hk
  obtain ⟨hx, hb, hml, hown, hts, hKx, hD, hA, hfr, hlo, hce, hsl⟩ := id hC
  have kk := fun {pc2 : Nat} {lo2 st2 : List Value} {S2 : PS} (k : Snd l g M pc2 lo2 st2 S2 Q) H locs ls hP hS hl => k p e R s m args below meth c A cells slots Z H locs ls hC hP hS hl hk
  obtain ⟨ty, ht, hr9⟩ := sh_ref' h1
  have ha := pcW_at (g := g) (S := S) h1
  have hlt : j.toNatClampNeg < js.length := Nat.not_le.mp fun q => h2 (Or.inr q)
  refine W.aald (v := .ref (gA g r)) (ty := ty) hx hb (hP i _ ha) ((hKx.1.2 t _ (pcT_at ht)).1 js.length (fun k => va_rf ((js[k]?).map (gA g)))) hr9 (fun q => by cases q) (by show ¬ (j < 0 ∨ (arrV _ _ _).slots.size ≤ _); rw [arrV_size]; exact h2) (by show (arrV _ _ _).slots[_]? = _; rw [arrV_read _ _ hlt]; show some (va_rf ((js[j.toNatClampNeg]?).map (gA g))) = _; rw [h3]; rfl) rfl rfl h0 (kk k0 H locs ls hP hS hl)
set_option maxHeartbeats 1000000 in
theorem s_sld (l : Launch) (g : WG) : C_sld (gS g) (Snd l g) := by
  intro M pc lo st S Q j h0 h1 k0 p e R s m args below meth c A cells slots Z H locs ls hC hP hS hl hk
  obtain ⟨hx, hb, hml, hown, hts, hKx, hD, hA, hfr, hlo, hce, hsl⟩ := id hC
  have kk := fun {pc2 : Nat} {lo2 st2 : List Value} {S2 : PS} (k : Snd l g M pc2 lo2 st2 S2 Q) H locs ls hP hS hl => k p e R s m args below meth c A cells slots Z H locs ls hC hP hS hl hk
  exact va_sld hx hb hKx.2.2.1.1 hKx.2.2.1.2.1 hKx.2.2.1.2.2 hS h1 h0 (kk k0 H locs ls hP hS hl)
set_option maxHeartbeats 1000000 in
theorem s_slen (l : Launch) (g : WG) : C_slen (gS g) (Snd l g) := by
  intro M pc lo st S Q  h0 k0 p e R s m args below meth c A cells slots Z H locs ls hC hP hS hl hk
  obtain ⟨hx, hb, hml, hown, hts, hKx, hD, hA, hfr, hlo, hce, hsl⟩ := id hC
  have kk := fun {pc2 : Nat} {lo2 st2 : List Value} {S2 : PS} (k : Snd l g M pc2 lo2 st2 S2 Q) H locs ls hP hS hl => k p e R s m args below meth c A cells slots Z H locs ls hC hP hS hl hk
  exact va_slen hx hb hKx.2.2.1.1 hKx.2.2.1.2.1 hKx.2.2.1.2.2 hS h0 (kk k0 H locs ls hP hS hl)
set_option maxHeartbeats 1000000 in
theorem s_getSV (l : Launch) (g : WG) : C_getSV (gS g) (Snd l g) := by
  intro M pc lo st S Q x k h0 h1 h2 k0 p e R s m args below meth c A cells slots Z H locs ls hC hP hS hl hk
  obtain ⟨hx, hb, hml, hown, hts, hKx, hD, hA, hfr, hlo, hce, hsl⟩ := id hC
  have kk := fun {pc2 : Nat} {lo2 st2 : List Value} {S2 : PS} (k : Snd l g M pc2 lo2 st2 S2 Q) H locs ls hP hS hl => k p e R s m args below meth c A cells slots Z H locs ls hC hP hS hl hk
  exact vk_getf hx hb (hKx.2.2.2.1.1 k h1).2.2.1 hS hown (hts _ h2) (fun _ h => h) h0 (kk k0 H locs ls hP hS hl)
set_option maxHeartbeats 1000000 in
theorem s_getSC (l : Launch) (g : WG) : C_getSC (gS g) (Snd l g) := by
  intro M pc lo st S Q x k h0 h1 h2 k0 p e R s m args below meth c A cells slots Z H locs ls hC hP hS hl hk
  obtain ⟨hx, hb, hml, hown, hts, hKx, hD, hA, hfr, hlo, hce, hsl⟩ := id hC
  have kk := fun {pc2 : Nat} {lo2 st2 : List Value} {S2 : PS} (k : Snd l g M pc2 lo2 st2 S2 Q) H locs ls hP hS hl => k p e R s m args below meth c A cells slots Z H locs ls hC hP hS hl hk
  exact vk_getf hx hb (hKx.2.2.2.1.1 k h1).2.1 hS hown (hts _ h2) (fun _ h => h) h0 (kk k0 H locs ls hP hS hl)
set_option maxHeartbeats 1000000 in
theorem s_alenS (l : Launch) (g : WG) : C_alenS (gS g) (Snd l g) := by
  intro M pc lo st S Q k h0 h1 k0 p e R s m args below meth c A cells slots Z H locs ls hC hP hS hl hk
  obtain ⟨hx, hb, hml, hown, hts, hKx, hD, hA, hfr, hlo, hce, hsl⟩ := id hC
  have kk := fun {pc2 : Nat} {lo2 st2 : List Value} {S2 : PS} (k : Snd l g M pc2 lo2 st2 S2 Q) H locs ls hP hS hl => k p e R s m args below meth c A cells slots Z H locs ls hC hP hS hl hk
  exact va_tlen hx hb (hKx.2.2.2.1.1 k h1).2.2.2 hS rfl h0 (kk k0 H locs ls hP hS hl)
set_option maxHeartbeats 1000000 in
theorem s_baldS (l : Launch) (g : WG) : C_baldS (gS g) (Snd l g) := by
  intro M pc lo st S Q k j h0 h1 h2 k0 p e R s m args below meth c A cells slots Z H locs ls hC hP hS hl hk
  obtain ⟨hx, hb, hml, hown, hts, hKx, hD, hA, hfr, hlo, hce, hsl⟩ := id hC
  have kk := fun {pc2 : Nat} {lo2 st2 : List Value} {S2 : PS} (k : Snd l g M pc2 lo2 st2 S2 Q) H locs ls hP hS hl => k p e R s m args below meth c A cells slots Z H locs ls hC hP hS hl hk
  exact va_tb hx hb (hKx.2.2.2.1.1 k h1).2.2.2 hS h2 rfl h0 (kk k0 H locs ls hP hS hl)
set_option maxHeartbeats 1000000 in
theorem s_getsC (l : Launch) (g : WG) : C_getsC (gS g) (Snd l g) := by
  intro M pc lo st S Q x h0 h1 k0 p e R s m args below meth c A cells slots Z H locs ls hC hP hS hl hk
  obtain ⟨hx, hb, hml, hown, hts, hKx, hD, hA, hfr, hlo, hce, hsl⟩ := id hC
  have kk := fun {pc2 : Nat} {lo2 st2 : List Value} {S2 : PS} (k : Snd l g M pc2 lo2 st2 S2 Q) H locs ls hP hS hl => k p e R s m args below meth c A cells slots Z H locs ls hC hP hS hl hk
  exact va_gets hx hb hKx.2.2.2.2.2.1 hS hown (hts _ h1) (fun _ h => h) h0 (kk k0 H locs ls hP hS hl)
set_option maxHeartbeats 1000000 in
theorem s_getsR (l : Launch) (g : WG) : C_getsR (gS g) (Snd l g) := by
  intro M pc lo st S Q x h0 h1 k0 p e R s m args below meth c A cells slots Z H locs ls hC hP hS hl hk
  obtain ⟨hx, hb, hml, hown, hts, hKx, hD, hA, hfr, hlo, hce, hsl⟩ := id hC
  have kk := fun {pc2 : Nat} {lo2 st2 : List Value} {S2 : PS} (k : Snd l g M pc2 lo2 st2 S2 Q) H locs ls hP hS hl => k p e R s m args below meth c A cells slots Z H locs ls hC hP hS hl hk
  rcases hKx.2.2.2.2.2.2 with hz | hz
  · exact va_gets hx hb hz hS hown (hts _ h1) (fun _ h => h) h0 (kk (k0 .null (Or.inl rfl)) H locs ls hP hS hl)
  · exact va_gets hx hb hz hS hown (hts _ h1) (fun _ h => h) h0 (kk (k0 (.ref 98) (Or.inr rfl)) H locs ls hP hS hl)
set_option maxHeartbeats 1000000 in
theorem s_mmax (l : Launch) (g : WG) : C_mmax (gS g) (Snd l g) := by
  intro M pc lo st S Q x a b h0 h1 h2 h3 k0 p e R s m args below meth c A cells slots Z H locs ls hC hP hS hl hk
  obtain ⟨hx, hb, hml, hown, hts, hKx, hD, hA, hfr, hlo, hce, hsl⟩ := id hC
  have kk := fun {pc2 : Nat} {lo2 st2 : List Value} {S2 : PS} (k : Snd l g M pc2 lo2 st2 S2 Q) H locs ls hP hS hl => k p e R s m args below meth c A cells slots Z H locs ls hC hP hS hl hk
  have h3' : ((st.map (pEn g)).map fun v => v.category).sum ≤ 8 := by rw [pEn_sum]; exact h3
  exact va_mmax hx hb (by rw [hml]; exact hl.1.symm) hown (hts _ h1.1) (hts _ h1.2.1) (hts _ h1.2.2.1) (hts _ h1.2.2.2) (by omega) (by omega) hce hsl h0 (kk k0 H locs ls hP hS hl)
set_option maxHeartbeats 1000000 in
theorem s_mabs (l : Launch) (g : WG) : C_mabs (gS g) (Snd l g) := by
  intro M pc lo st S Q x a h0 h1 h2 h3 k0 p e R s m args below meth c A cells slots Z H locs ls hC hP hS hl hk
  obtain ⟨hx, hb, hml, hown, hts, hKx, hD, hA, hfr, hlo, hce, hsl⟩ := id hC
  have kk := fun {pc2 : Nat} {lo2 st2 : List Value} {S2 : PS} (k : Snd l g M pc2 lo2 st2 S2 Q) H locs ls hP hS hl => k p e R s m args below meth c A cells slots Z H locs ls hC hP hS hl hk
  have h3' : ((st.map (pEn g)).map fun v => v.category).sum ≤ 8 := by rw [pEn_sum]; exact h3
  exact va_mabs hx hb (by rw [hml]; exact hl.1.symm) hown (hts _ h1.1) (hts _ h1.2.1) (hts _ h1.2.2.1) (hts _ h1.2.2.2) (by omega) (by omega) hce hsl h0 (kk k0 H locs ls hP hS hl)
set_option maxHeartbeats 1000000 in
theorem s_if_eq (l : Launch) (g : WG) : C_if_eq (gS g) (Snd l g) := by
  intro M pc lo st S Q x off tgt h0 h1 k0 k1 p e R s m args below meth c A cells slots Z H locs ls hC hP hS hl hk
  obtain ⟨hx, hb, hml, hown, hts, hKx, hD, hA, hfr, hlo, hce, hsl⟩ := id hC
  have kk := fun {pc2 : Nat} {lo2 st2 : List Value} {S2 : PS} (k : Snd l g M pc2 lo2 st2 S2 Q) H locs ls hP hS hl => k p e R s m args below meth c A cells slots Z H locs ls hC hP hS hl hk
  exact lv_if_eq hx hb h0 h1 (fun h => kk (k0 h) H locs ls hP hS hl) (fun h => kk (k1 h) H locs ls hP hS hl)
set_option maxHeartbeats 1000000 in
theorem s_if_ne (l : Launch) (g : WG) : C_if_ne (gS g) (Snd l g) := by
  intro M pc lo st S Q x off tgt h0 h1 k0 k1 p e R s m args below meth c A cells slots Z H locs ls hC hP hS hl hk
  obtain ⟨hx, hb, hml, hown, hts, hKx, hD, hA, hfr, hlo, hce, hsl⟩ := id hC
  have kk := fun {pc2 : Nat} {lo2 st2 : List Value} {S2 : PS} (k : Snd l g M pc2 lo2 st2 S2 Q) H locs ls hP hS hl => k p e R s m args below meth c A cells slots Z H locs ls hC hP hS hl hk
  exact lv_if_ne hx hb h0 h1 (fun h => kk (k0 h) H locs ls hP hS hl) (fun h => kk (k1 h) H locs ls hP hS hl)
set_option maxHeartbeats 1000000 in
theorem s_if_lt (l : Launch) (g : WG) : C_if_lt (gS g) (Snd l g) := by
  intro M pc lo st S Q x off tgt h0 h1 k0 k1 p e R s m args below meth c A cells slots Z H locs ls hC hP hS hl hk
  obtain ⟨hx, hb, hml, hown, hts, hKx, hD, hA, hfr, hlo, hce, hsl⟩ := id hC
  have kk := fun {pc2 : Nat} {lo2 st2 : List Value} {S2 : PS} (k : Snd l g M pc2 lo2 st2 S2 Q) H locs ls hP hS hl => k p e R s m args below meth c A cells slots Z H locs ls hC hP hS hl hk
  exact lv_if_lt hx hb h0 h1 (fun h => kk (k0 h) H locs ls hP hS hl) (fun h => kk (k1 h) H locs ls hP hS hl)
set_option maxHeartbeats 1000000 in
theorem s_if_ge (l : Launch) (g : WG) : C_if_ge (gS g) (Snd l g) := by
  intro M pc lo st S Q x off tgt h0 h1 k0 k1 p e R s m args below meth c A cells slots Z H locs ls hC hP hS hl hk
  obtain ⟨hx, hb, hml, hown, hts, hKx, hD, hA, hfr, hlo, hce, hsl⟩ := id hC
  have kk := fun {pc2 : Nat} {lo2 st2 : List Value} {S2 : PS} (k : Snd l g M pc2 lo2 st2 S2 Q) H locs ls hP hS hl => k p e R s m args below meth c A cells slots Z H locs ls hC hP hS hl hk
  exact lv_if_ge hx hb h0 h1 (fun h => kk (k0 h) H locs ls hP hS hl) (fun h => kk (k1 h) H locs ls hP hS hl)
set_option maxHeartbeats 1000000 in
theorem s_if_gt (l : Launch) (g : WG) : C_if_gt (gS g) (Snd l g) := by
  intro M pc lo st S Q x off tgt h0 h1 k0 k1 p e R s m args below meth c A cells slots Z H locs ls hC hP hS hl hk
  obtain ⟨hx, hb, hml, hown, hts, hKx, hD, hA, hfr, hlo, hce, hsl⟩ := id hC
  have kk := fun {pc2 : Nat} {lo2 st2 : List Value} {S2 : PS} (k : Snd l g M pc2 lo2 st2 S2 Q) H locs ls hP hS hl => k p e R s m args below meth c A cells slots Z H locs ls hC hP hS hl hk
  exact lv_if_gt hx hb h0 h1 (fun h => kk (k0 h) H locs ls hP hS hl) (fun h => kk (k1 h) H locs ls hP hS hl)
set_option maxHeartbeats 1000000 in
theorem s_if_le (l : Launch) (g : WG) : C_if_le (gS g) (Snd l g) := by
  intro M pc lo st S Q x off tgt h0 h1 k0 k1 p e R s m args below meth c A cells slots Z H locs ls hC hP hS hl hk
  obtain ⟨hx, hb, hml, hown, hts, hKx, hD, hA, hfr, hlo, hce, hsl⟩ := id hC
  have kk := fun {pc2 : Nat} {lo2 st2 : List Value} {S2 : PS} (k : Snd l g M pc2 lo2 st2 S2 Q) H locs ls hP hS hl => k p e R s m args below meth c A cells slots Z H locs ls hC hP hS hl hk
  exact lv_if_le hx hb h0 h1 (fun h => kk (k0 h) H locs ls hP hS hl) (fun h => kk (k1 h) H locs ls hP hS hl)
set_option maxHeartbeats 1000000 in
theorem s_icmp_eq (l : Launch) (g : WG) : C_icmp_eq (gS g) (Snd l g) := by
  intro M pc lo st S Q x y off tgt h0 h1 k0 k1 p e R s m args below meth c A cells slots Z H locs ls hC hP hS hl hk
  obtain ⟨hx, hb, hml, hown, hts, hKx, hD, hA, hfr, hlo, hce, hsl⟩ := id hC
  have kk := fun {pc2 : Nat} {lo2 st2 : List Value} {S2 : PS} (k : Snd l g M pc2 lo2 st2 S2 Q) H locs ls hP hS hl => k p e R s m args below meth c A cells slots Z H locs ls hC hP hS hl hk
  exact lv_icmp_eq hx hb h0 h1 (fun h => kk (k0 h) H locs ls hP hS hl) (fun h => kk (k1 h) H locs ls hP hS hl)
set_option maxHeartbeats 1000000 in
theorem s_icmp_ne (l : Launch) (g : WG) : C_icmp_ne (gS g) (Snd l g) := by
  intro M pc lo st S Q x y off tgt h0 h1 k0 k1 p e R s m args below meth c A cells slots Z H locs ls hC hP hS hl hk
  obtain ⟨hx, hb, hml, hown, hts, hKx, hD, hA, hfr, hlo, hce, hsl⟩ := id hC
  have kk := fun {pc2 : Nat} {lo2 st2 : List Value} {S2 : PS} (k : Snd l g M pc2 lo2 st2 S2 Q) H locs ls hP hS hl => k p e R s m args below meth c A cells slots Z H locs ls hC hP hS hl hk
  exact lv_icmp_ne hx hb h0 h1 (fun h => kk (k0 h) H locs ls hP hS hl) (fun h => kk (k1 h) H locs ls hP hS hl)
set_option maxHeartbeats 1000000 in
theorem s_icmp_lt (l : Launch) (g : WG) : C_icmp_lt (gS g) (Snd l g) := by
  intro M pc lo st S Q x y off tgt h0 h1 k0 k1 p e R s m args below meth c A cells slots Z H locs ls hC hP hS hl hk
  obtain ⟨hx, hb, hml, hown, hts, hKx, hD, hA, hfr, hlo, hce, hsl⟩ := id hC
  have kk := fun {pc2 : Nat} {lo2 st2 : List Value} {S2 : PS} (k : Snd l g M pc2 lo2 st2 S2 Q) H locs ls hP hS hl => k p e R s m args below meth c A cells slots Z H locs ls hC hP hS hl hk
  exact lv_icmp_lt hx hb h0 h1 (fun h => kk (k0 h) H locs ls hP hS hl) (fun h => kk (k1 h) H locs ls hP hS hl)
set_option maxHeartbeats 1000000 in
theorem s_icmp_ge (l : Launch) (g : WG) : C_icmp_ge (gS g) (Snd l g) := by
  intro M pc lo st S Q x y off tgt h0 h1 k0 k1 p e R s m args below meth c A cells slots Z H locs ls hC hP hS hl hk
  obtain ⟨hx, hb, hml, hown, hts, hKx, hD, hA, hfr, hlo, hce, hsl⟩ := id hC
  have kk := fun {pc2 : Nat} {lo2 st2 : List Value} {S2 : PS} (k : Snd l g M pc2 lo2 st2 S2 Q) H locs ls hP hS hl => k p e R s m args below meth c A cells slots Z H locs ls hC hP hS hl hk
  exact lv_icmp_ge hx hb h0 h1 (fun h => kk (k0 h) H locs ls hP hS hl) (fun h => kk (k1 h) H locs ls hP hS hl)
set_option maxHeartbeats 1000000 in
theorem s_icmp_gt (l : Launch) (g : WG) : C_icmp_gt (gS g) (Snd l g) := by
  intro M pc lo st S Q x y off tgt h0 h1 k0 k1 p e R s m args below meth c A cells slots Z H locs ls hC hP hS hl hk
  obtain ⟨hx, hb, hml, hown, hts, hKx, hD, hA, hfr, hlo, hce, hsl⟩ := id hC
  have kk := fun {pc2 : Nat} {lo2 st2 : List Value} {S2 : PS} (k : Snd l g M pc2 lo2 st2 S2 Q) H locs ls hP hS hl => k p e R s m args below meth c A cells slots Z H locs ls hC hP hS hl hk
  exact lv_icmp_gt hx hb h0 h1 (fun h => kk (k0 h) H locs ls hP hS hl) (fun h => kk (k1 h) H locs ls hP hS hl)
set_option maxHeartbeats 1000000 in
theorem s_icmp_le (l : Launch) (g : WG) : C_icmp_le (gS g) (Snd l g) := by
  intro M pc lo st S Q x y off tgt h0 h1 k0 k1 p e R s m args below meth c A cells slots Z H locs ls hC hP hS hl hk
  obtain ⟨hx, hb, hml, hown, hts, hKx, hD, hA, hfr, hlo, hce, hsl⟩ := id hC
  have kk := fun {pc2 : Nat} {lo2 st2 : List Value} {S2 : PS} (k : Snd l g M pc2 lo2 st2 S2 Q) H locs ls hP hS hl => k p e R s m args below meth c A cells slots Z H locs ls hC hP hS hl hk
  exact lv_icmp_le hx hb h0 h1 (fun h => kk (k0 h) H locs ls hP hS hl) (fun h => kk (k1 h) H locs ls hP hS hl)
set_option maxHeartbeats 1000000 in
theorem s_goto (l : Launch) (g : WG) : C_goto (gS g) (Snd l g) := by
  intro M pc lo st S Q off tgt h0 h1 k0 p e R s m args below meth c A cells slots Z H locs ls hC hP hS hl hk
  obtain ⟨hx, hb, hml, hown, hts, hKx, hD, hA, hfr, hlo, hce, hsl⟩ := id hC
  have kk := fun {pc2 : Nat} {lo2 st2 : List Value} {S2 : PS} (k : Snd l g M pc2 lo2 st2 S2 Q) H locs ls hP hS hl => k p e R s m args below meth c A cells slots Z H locs ls hC hP hS hl hk
  exact lv_goto hx hb h0 h1 (kk k0 H locs ls hP hS hl)
set_option maxHeartbeats 1000000 in
theorem s_table (l : Launch) (g : WG) : C_table (gS g) (Snd l g) := by
  intro M pc lo st S Q x dflt lw hi offs len h0 k0 p e R s m args below meth c A cells slots Z H locs ls hC hP hS hl hk
  obtain ⟨hx, hb, hml, hown, hts, hKx, hD, hA, hfr, hlo, hce, hsl⟩ := id hC
  have kk := fun {pc2 : Nat} {lo2 st2 : List Value} {S2 : PS} (k : Snd l g M pc2 lo2 st2 S2 Q) H locs ls hP hS hl => k p e R s m args below meth c A cells slots Z H locs ls hC hP hS hl hk
  obtain ⟨tgt, hor, k⟩ := k0
  rcases hor with ⟨ho, ht⟩ | ⟨ho1, ho2, off, ho, ht⟩
  · exact lv_tableOut hx hb h0 ho ht (kk k H locs ls hP hS hl)
  · exact lv_tableIn hx hb h0 ho1 ho2 ho ht (kk k H locs ls hP hS hl)
set_option maxHeartbeats 1000000 in
theorem s_lookup (l : Launch) (g : WG) : C_lookup (gS g) (Snd l g) := by
  intro M pc lo st S Q x dflt ps len tgt h0 h1 h2 k0 p e R s m args below meth c A cells slots Z H locs ls hC hP hS hl hk
  obtain ⟨hx, hb, hml, hown, hts, hKx, hD, hA, hfr, hlo, hce, hsl⟩ := id hC
  have kk := fun {pc2 : Nat} {lo2 st2 : List Value} {S2 : PS} (k : Snd l g M pc2 lo2 st2 S2 Q) H locs ls hP hS hl => k p e R s m args below meth c A cells slots Z H locs ls hC hP hS hl hk
  exact lv_lookup hx hb h0 h1 rfl h2 (kk k0 H locs ls hP hS hl)
set_option maxHeartbeats 1000000 in
theorem s_iret (l : Launch) (g : WG) : C_iret (gS g) (Snd l g) := by
  intro M pc lo st S Q x ty h0 h1 h2 k0 p e R s m args below meth c A cells slots Z H locs ls hC hP hS hl hk
  obtain ⟨hx, hb, hml, hown, hts, hKx, hD, hA, hfr, hlo, hce, hsl⟩ := id hC
  have kk := fun {pc2 : Nat} {lo2 st2 : List Value} {S2 : PS} (k : Snd l g M pc2 lo2 st2 S2 Q) H locs ls hP hS hl => k p e R s m args below meth c A cells slots Z H locs ls hC hP hS hl hk
  exact hk (some (.int x)) S H locs ls pc k0 ⟨h0, ty, h1, h2⟩ hP hS
set_option maxHeartbeats 1000000 in
theorem s_lret (l : Launch) (g : WG) : C_lret (gS g) (Snd l g) := by
  intro M pc lo st S Q x h0 h1 k0 p e R s m args below meth c A cells slots Z H locs ls hC hP hS hl hk
  obtain ⟨hx, hb, hml, hown, hts, hKx, hD, hA, hfr, hlo, hce, hsl⟩ := id hC
  have kk := fun {pc2 : Nat} {lo2 st2 : List Value} {S2 : PS} (k : Snd l g M pc2 lo2 st2 S2 Q) H locs ls hP hS hl => k p e R s m args below meth c A cells slots Z H locs ls hC hP hS hl hk
  exact hk (some (.long x)) S H locs ls pc k0 ⟨h0, h1⟩ hP hS
set_option maxHeartbeats 1000000 in
theorem s_vret (l : Launch) (g : WG) : C_vret (gS g) (Snd l g) := by
  intro M pc lo st S Q  h0 h1 k0 p e R s m args below meth c A cells slots Z H locs ls hC hP hS hl hk
  obtain ⟨hx, hb, hml, hown, hts, hKx, hD, hA, hfr, hlo, hce, hsl⟩ := id hC
  have kk := fun {pc2 : Nat} {lo2 st2 : List Value} {S2 : PS} (k : Snd l g M pc2 lo2 st2 S2 Q) H locs ls hP hS hl => k p e R s m args below meth c A cells slots Z H locs ls hC hP hS hl hk
  exact hk none S H locs ls pc k0 ⟨h0, h1⟩ hP hS
set_option maxHeartbeats 1000000 in
theorem s_callV (l : Launch) (g : WG) : C_callV (gS g) (Snd l g) := by
  intro M pc lo st S Q M' x i n As st0 Qm h0 h1 h2 h3 h4 h5 h6 h7 h8 k0 k1 p e R s m args below meth c A cells slots Z H locs ls hC hP hS hl hk
  obtain ⟨hx, hb, hml, hown, hts, hKx, hD, hA, hfr, hlo, hce, hsl⟩ := id hC
  have kk := fun {pc2 : Nat} {lo2 st2 : List Value} {S2 : PS} (k : Snd l g M pc2 lo2 st2 S2 Q) H locs ls hP hS hl => k p e R s m args below meth c A cells slots Z H locs ls hC hP hS hl hk
  have h7' : ((st.map (pEn g)).map fun v => v.category).sum ≤ 8 := by rw [pEn_sum]; exact h7
  obtain ⟨hn, hin, hsel⟩ := h1
  obtain ⟨hpl, hcode, hini, ⟨hd1, hd2, hd3⟩, hL⟩ := id hn
  have hF := pFree (hD S) hA hS
  have hM := met_of (sz := H.size) hn h8 k0
  have hgood := pGood M' hcode
  have hpre : ∀ U : State, U.heap = H → s.WarmedH U.vm → pPc g (.ref i :: As) S H.size (Value.ref (gA g i) :: As.map (pEn g)).toArray U := by
    intro U hU hW
    exact ⟨rfl, by rw [hU], by rw [hU]; exact hP, by rw [hU]; exact hKx.go hS hW hF, (hD S).weaken (fun _ _ _ _ => trivial)⟩
  have hrec : ∃ cellB : Cell, H[gA g i]? = some cellB ∧ cellB.vm.isStatics = false ∧ s.vm.findClass (pmY M').cls = some cellB.cls := by
    rcases h4 with ⟨ci, fs, q, a1, a2, a3⟩ | ⟨k9, a1, rfl, a2⟩
    · rw [← a3]
      exact va_recv hKx.1 hP a2 (pcW_at a1)
    · rw [a2]
      exact vk_recv (adK := fun k => gA g (100 + k)) (i := k9) hKx.2.2.2.1 a1 hS
  have hst : st0.map (pEn g) = (As.map (pEn g)).reverse ++ .ref (gA g i) :: st.map (pEn g) := by
    rw [h6, List.map_append, List.map_reverse]; rfl
  rw [hst]
  have hlen : (As.map (pEn g)).length = n := by rw [List.length_map]; exact h5
  have hR9 : (pRm M').frames + 1 ≤ R.frames ∧ 8 + (pmL M' + 11) + (pRm M').locals ≤ R.locals := by
    show pmV M' + 1 ≤ R.frames ∧ 8 + (pmL M' + 11) + 36 * pmV M' ≤ R.locals
    omega
  have hrun : va_Run p l e R s m args below meth c H locs cells slots 0 0 (F0 m pc ls ((As.map (pEn g)).reverse ++ .ref (gA g i) :: st.map (pEn g))) (st.map (pEn g)) (pQc g S H.size Qm (Value.ref (gA g i) :: As.map (pEn g)).toArray) (va_A (pcW g S) H.size) := by
    rcases h2 with hlk | ⟨host, hlk⟩
    · exact va_runV (C := (pmY M').cls) (bytes := pmB M') (maxL := pmL M') (ret := pmR M') (nL := pmL M) (n := n) (Ts := lw_good) ⟨hx, hb, hml, hown, hts⟩ hM ⟨callB_of n hts hgood rfl rfl rfl (hts _ hini) (hts _ hlk) ⟨hd1, hd2, hd3⟩ hR9, hts _ hin, hts _ hsel⟩ ⟨pBlind g _ S H.size, hrec, hpre⟩ rfl hlen hl.1 rfl (lv_room h7') h0 ⟨hce, hsl⟩
    · exact va_runVN (C := (pmY M').cls) (bytes := pmB M') (maxL := pmL M') (ret := pmR M') (nL := pmL M) (n := n) (Ts := lw_good) ⟨hx, hb, hml, hown, hts⟩ hM ⟨va_cnB n hts hgood rfl rfl rfl (hKx.2.1 _ hlk) (hts _ hini) ⟨hd1, hd2, hd3⟩ hR9, hts _ hin, hts _ hsel⟩ ⟨pBlind g _ S H.size, hrec, hpre⟩ rfl hlen hl.1 rfl (lv_room h7') h0 ⟨hce, hsl⟩
  refine pcall hrun hS hF (fun r S' H1 locs1 hq hP1 hS1 => ?_)
  have := kk (k1 r S' hq) H1 locs1 ls hP1 hS1 hl
  rw [List.map_append] at this
  cases r <;> exact this
set_option maxHeartbeats 1000000 in
theorem s_callS (l : Launch) (g : WG) : C_callS (gS g) (Snd l g) := by
  intro M pc lo st S Q M' x n As st0 Qm h0 h1 h2 h3 h4 h5 h6 h7 k0 k1 p e R s m args below meth c A cells slots Z H locs ls hC hP hS hl hk
  obtain ⟨hx, hb, hml, hown, hts, hKx, hD, hA, hfr, hlo, hce, hsl⟩ := id hC
  have kk := fun {pc2 : Nat} {lo2 st2 : List Value} {S2 : PS} (k : Snd l g M pc2 lo2 st2 S2 Q) H locs ls hP hS hl => k p e R s m args below meth c A cells slots Z H locs ls hC hP hS hl hk
  have h6' : ((st.map (pEn g)).map fun v => v.category).sum ≤ 8 := by rw [pEn_sum]; exact h6
  obtain ⟨hn, hst9⟩ := h1
  obtain ⟨hpl, hcode, hini, ⟨hd1, hd2, hd3⟩, hL⟩ := id hn
  have hF := pFree (hD S) hA hS
  have hM := met_of (sz := H.size) hn h7 k0
  have hgood := pGood M' hcode
  have hpre : ∀ U : State, U.heap = H → s.WarmedH U.vm → pPc g As S H.size (As.map (pEn g)).toArray U := by
    intro U hU hW
    exact ⟨rfl, by rw [hU], by rw [hU]; exact hP, by rw [hU]; exact hKx.go hS hW hF, (hD S).weaken (fun _ _ _ _ => trivial)⟩
  have hst : st0.map (pEn g) = (As.map (pEn g)).reverse ++ st.map (pEn g) := by
    rw [h5, List.map_append, List.map_reverse]
  rw [hst]
  have hlen : (As.map (pEn g)).length = n := by rw [List.length_map]; exact h4
  have hR9 : (pRm M').frames + 1 ≤ R.frames ∧ 8 + (pmL M' + 11) + (pRm M').locals ≤ R.locals := by
    show pmV M' + 1 ≤ R.frames ∧ 8 + (pmL M' + 11) + 36 * pmV M' ≤ R.locals
    omega
  have hrun : va_Run p l e R s m args below meth c H locs cells slots 0 0 (F0 m pc ls ((As.map (pEn g)).reverse ++ st.map (pEn g))) (st.map (pEn g)) (pQc g S H.size Qm (As.map (pEn g)).toArray) (va_A (pcW g S) H.size) := by
    rcases h2 with hlk | ⟨host, hlk⟩
    · exact va_runS (bytes := pmB M') (maxL := pmL M') (ret := pmR M') (nL := pmL M) (n := n) (Ts := lw_good) ⟨hx, hb, hml, hown, hts⟩ hM ⟨callB_of n hts hgood rfl rfl rfl (hts _ hini) (hts _ hlk) ⟨hd1, hd2, hd3⟩ hR9, hts _ hst9⟩ ⟨pBlind g _ S H.size, hpre⟩ rfl hlen hl.1 rfl (lv_room h6') h0 ⟨hce, hsl⟩
    · exact va_runSN (bytes := pmB M') (maxL := pmL M') (ret := pmR M') (nL := pmL M) (n := n) (Ts := lw_good) ⟨hx, hb, hml, hown, hts⟩ hM ⟨va_cnB n hts hgood rfl rfl rfl (hKx.2.1 _ hlk) (hts _ hini) ⟨hd1, hd2, hd3⟩ hR9, hts _ hst9, trivial⟩ ⟨pBlind g _ S H.size, hpre⟩ rfl hlen hl.1 rfl (lv_room h6') h0 ⟨hce, hsl⟩
  refine pcall hrun hS hF (fun r S' H1 locs1 hq hP1 hS1 => ?_)
  have := kk (k1 r S' hq) H1 locs1 ls hP1 hS1 hl
  rw [List.map_append] at this
  cases r <;> exact this
theorem sG0 (l : Launch) (g : WG) : CG0 (gS g) (Snd l g) := ⟨s_iconst l g, s_bipush l g, s_sipush l g, s_lconst l g, s_ldc l g, s_ldcw l g, s_ldc2 l g, s_ldcS l g⟩
theorem sG1 (l : Launch) (g : WG) : CG1 (gS g) (Snd l g) := ⟨s_iload_n l g, s_iload l g, s_lload_n l g, s_lload l g, s_aload_n l g, s_aload l g, s_istore_n l g, s_istore l g⟩
theorem sG2 (l : Launch) (g : WG) : CG2 (gS g) (Snd l g) := ⟨s_astore_n l g, s_astore l g, s_lstore_n l g, s_lstore l g, s_iinc l g, s_iadd l g, s_isub l g, s_imul l g⟩
theorem sG3 (l : Launch) (g : WG) : CG3 (gS g) (Snd l g) := ⟨s_iand l g, s_ior l g, s_ishl l g, s_ishr l g, s_iushr l g, s_irem l g, s_ladd l g, s_lmul l g⟩
theorem sG4 (l : Launch) (g : WG) : CG4 (gS g) (Snd l g) := ⟨s_ldiv l g, s_lrem l g, s_lcmp l g, s_ineg l g, s_i2l l g, s_i2b l g, s_i2s l g, s_i2c l g⟩
theorem sG5 (l : Launch) (g : WG) : CG5 (gS g) (Snd l g) := ⟨s_dup l g, s_pop l g, s_dup2 l g, s_getI l g, s_getR l g, s_putI l g, s_iald l g, s_iast l g⟩
theorem sG6 (l : Launch) (g : WG) : CG6 (gS g) (Snd l g) := ⟨s_bald l g, s_bast l g, s_zald l g, s_zast l g, s_lald l g, s_last l g, s_aald l g, s_sld l g⟩
theorem sG7 (l : Launch) (g : WG) : CG7 (gS g) (Snd l g) := ⟨s_slen l g, s_getSV l g, s_getSC l g, s_alenS l g, s_baldS l g, s_getsC l g, s_getsR l g, s_mmax l g⟩
theorem sG8 (l : Launch) (g : WG) : CG8 (gS g) (Snd l g) := ⟨s_mabs l g, s_if_eq l g, s_if_ne l g, s_if_lt l g, s_if_ge l g, s_if_gt l g, s_if_le l g, s_icmp_eq l g⟩
theorem sG9 (l : Launch) (g : WG) : CG9 (gS g) (Snd l g) := ⟨s_icmp_ne l g, s_icmp_lt l g, s_icmp_ge l g, s_icmp_gt l g, s_icmp_le l g, s_goto l g, s_table l g, s_lookup l g⟩
theorem sG10 (l : Launch) (g : WG) : CG10 (gS g) (Snd l g) := ⟨s_iret l g, s_lret l g, s_vret l g, s_callV l g, s_callS l g⟩
theorem snd_all (l : Launch) (g : WG) : Cl (gS g) (Snd l g) := ⟨sG0 l g, sG1 l g, sG2 l g, sG3 l g, sG4 l g, sG5 l g, sG6 l g, sG7 l g, sG8 l g, sG9 l g, sG10 l g⟩
/-- what the plain machine says holds of the machine -/
theorem sound (l : Launch) (g : WG) {M : PM} {pc : Nat} {lo st : List Value} {S : PS} {Q : PQ} (h : E (gS g) M pc lo st S Q) : Snd l g M pc lo st S Q := h (Snd l g) (snd_all l g)

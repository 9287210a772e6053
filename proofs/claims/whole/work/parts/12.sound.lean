/-! THE PLAIN MACHINE IS SOUND: words -/
abbrev WG : Type := (Nat → ClassId) × (Nat → Nat → Nat) × (Nat → Nat) × (Nat → ClassId) × Nat × (Nat → Int32)
abbrev gD (g : WG) : va_G := (g.1, g.2.1)
abbrev gA (g : WG) : Nat → Nat := g.2.2.1
abbrev gC (g : WG) : Nat → ClassId := g.2.2.2.1
abbrev gS (g : WG) : PSc := g.2.2.2.2
def pEn (g : WG) (v : Value) : Value := match v with
  | .ref i => .ref (gA g i)
  | v => v
theorem pEn_cat (g : WG) (v : Value) : (pEn g v).category = v.category := by cases v <;> rfl
theorem pEn_sum (g : WG) (st : List Value) : ((st.map (pEn g)).map fun v => v.category) = st.map fun v => v.category := by
  rw [List.map_map]
  exact List.map_congr_left (fun v _ => pEn_cat g v)
def pcV (g : WG) (S : PS) (i k : Nat) (f : Option Nat) : Value := match f with
  | none => .int (S.1 i k)
  | some j => .ref (gA g j)
def pcE (g : WG) (S : PS) (i : Nat) (sh : Shp) : va_E := match sh with
  | .inl q => .inr (q.1, q.2.mapIdx (fun k f => pcV g S i k f))
  | .inr (.inl q) => .inl (gC g q.1, q.2, .inl (S.1 i))
  | .inr (.inr (.inl n)) => .inl (gC g 3, n, .inr (.inl (S.2 i)))
  | .inr (.inr (.inr q)) => .inl (gC g q.1, q.2.length, .inr (.inr (.inr (.inr (fun k => (q.2[k]?).map (gA g))))))
def pcW (g : WG) (S : PS) : va_W := shps.mapIdx (fun i sh => (gA g i, pcE g S i sh))
theorem pcW_at {g : WG} {S : PS} {i : Nat} {sh : Shp} (h : shps[i]? = some sh) : (pcW g S)[i]? = some (gA g i, pcE g S i sh) := by
  rw [pcW, List.getElem?_mapIdx, h]; rfl
theorem pcW_inv {g : WG} {S : PS} {i : Nat} {q : Nat × va_E} (h : (pcW g S)[i]? = some q) : ∃ sh, shps[i]? = some sh ∧ q = (gA g i, pcE g S i sh) := by
  rw [pcW, List.getElem?_mapIdx] at h
  cases hs : shps[i]? with
  | none => rw [hs] at h; cases h
  | some sh => rw [hs] at h; cases h; exact ⟨sh, rfl, rfl⟩
theorem pcE_cong {g : WG} {S S2 : PS} {i : Nat} (h1 : S2.1 i = S.1 i) (h2 : S2.2 i = S.2 i) (sh : Shp) : pcE g S2 i sh = pcE g S i sh := by
  unfold pcE
  split
  · congr 2
    congr 1
    funext k f
    cases f with
    | none => show Value.int (S2.1 i k) = .int (S.1 i k); rw [h1]
    | some j => rfl
  · rw [h1]
  · rw [h2]
  · rfl
theorem pcW_set {g : WG} {S S2 : PS} {i : Nat} {sh : Shp} {e : va_E} (hs : shps[i]? = some sh) (he : pcE g S2 i sh = e) (hf : ∀ j, j ≠ i → S2.1 j = S.1 j ∧ S2.2 j = S.2 j) : (pcW g S).set i (gA g i, e) = pcW g S2 := by
  apply List.ext_getElem?
  intro j
  by_cases hj : j = i
  · subst hj
    have hl : j < (pcW g S).length := (List.getElem?_eq_some_iff.mp (pcW_at (g := g) (S := S) hs)).1
    rw [List.getElem?_set_self hl, pcW_at hs, he]
  · rw [List.getElem?_set_ne (Ne.symm hj)]
    cases hs2 : shps[j]? with
    | none => rw [pcW, pcW, List.getElem?_mapIdx, List.getElem?_mapIdx, hs2]; rfl
    | some s2 => rw [pcW_at hs2, pcW_at hs2, pcE_cong (hf j hj).1 (hf j hj).2]
theorem pcW_D {g : WG} {S S2 : PS} {A : Nat → Prop} (h : va_D A (pcW g S)) : va_D A (pcW g S2) := by
  refine ⟨fun i j x y hi hj hxy => ?_, fun k q hk => ?_⟩
  · obtain ⟨s1, a1, rfl⟩ := pcW_inv hi
    obtain ⟨s2, a2, rfl⟩ := pcW_inv hj
    exact h.1 i j _ _ (pcW_at a1) (pcW_at a2) hxy
  · obtain ⟨s1, a1, rfl⟩ := pcW_inv hk
    exact (h.2 k (gA g k, pcE g S k s1) (pcW_at a1) : A (gA g k))
theorem pcW_A {g : WG} {S S2 : PS} {sz q : Nat} (h : va_A (pcW g S) sz q) : va_A (pcW g S2) sz q := by
  rcases h with ⟨k, e, h⟩ | h
  · obtain ⟨s1, a1, e1⟩ := pcW_inv h
    cases e1
    exact Or.inl ⟨k, _, pcW_at a1⟩
  · exact Or.inr h
theorem up2_at {α : Type} (f : Nat → Nat → α) (i k : Nat) (v : α) : up2 f i k v i = fun b => if b = k then v else f i b := by
  funext b
  simp [up2]
theorem up2_ne {α : Type} (f : Nat → Nat → α) {i j : Nat} (k : Nat) (v : α) (h : j ≠ i) : up2 f i k v j = f j := by
  funext b
  simp [up2, h]
def pcT (g : WG) : List (ClassId × FieldType) := tyT.mapIdx (fun t ty => (gC g t, ty))
theorem sh_ref : shps.all (fun sh => match sh with | .inr (.inr (.inr (t, _))) => (tyT[t]?).any FieldType.isReference | _ => true) = true := by decide +kernel
theorem sh_ref' {i t : Nat} {js : List Nat} (h : shps[i]? = some (.inr (.inr (.inr (t, js))))) : ∃ ty, tyT[t]? = some ty ∧ ty.isReference = true := by
  have h1 := List.all_eq_true.mp sh_ref _ (List.mem_of_getElem? h)
  dsimp only at h1
  cases ht : tyT[t]? with
  | none => rw [ht] at h1; cases h1
  | some ty => rw [ht] at h1; exact ⟨ty, rfl, h1⟩
theorem pcT_at {g : WG} {t : Nat} {ty : FieldType} (h : tyT[t]? = some ty) : (pcT g)[t]? = some (gC g t, ty) := by
  rw [pcT, List.getElem?_mapIdx, h]; rfl
/-! locals -/
def pLo (g : WG) (ls : Array Slot) (nL : Nat) (lo : List Value) : Prop := ls.size = nL ∧ lv_wf ls ∧ ∀ (i : Nat) (v : Value), lo[i]? = some v → v ≠ .null → ls[i]? = some (.val (pEn g v))
def pLv (g : WG) (lo : List Value) : List (Nat × Value) := (lo.mapIdx (fun i v => (i, v))).filterMap (fun q => if q.2 = .null then none else some (q.1, pEn g q.2))
theorem pLv_in {g : WG} {lo : List Value} {i : Nat} {v : Value} (h : lo[i]? = some v) (hn : v ≠ .null) : (i, pEn g v) ∈ pLv g lo := by
  unfold pLv
  refine List.mem_filterMap.mpr ⟨(i, v), List.mem_of_getElem? (i := i) (by rw [List.getElem?_mapIdx, h]; rfl), ?_⟩
  simp [hn]
theorem pLv_of {g : WG} {lo : List Value} {q : Nat × Value} (h : q ∈ pLv g lo) : ∃ v, lo[q.1]? = some v ∧ v ≠ .null ∧ q.2 = pEn g v := by
  unfold pLv at h
  obtain ⟨x, hx, hq⟩ := List.mem_filterMap.mp h
  obtain ⟨k, hk⟩ := List.getElem?_of_mem hx
  rw [List.getElem?_mapIdx] at hk
  cases hl : lo[k]? with
  | none => rw [hl] at hk; cases hk
  | some v =>
    rw [hl] at hk
    cases hk
    by_cases hv : v = .null
    · simp [hv] at hq
    · simp [hv] at hq
      subst hq
      exact ⟨v, hl, hv, rfl⟩
theorem pLo.has {g : WG} {ls : Array Slot} {nL : Nat} {lo : List Value} (h : pLo g ls nL lo) : lv_has ls nL (pLv g lo) := by
  refine ⟨h.1, h.2.1, fun q hq => ?_⟩
  obtain ⟨v, h1, h2, h3⟩ := pLv_of hq
  rw [h3]
  exact h.2.2 _ v h1 h2
theorem pre2_cat {lo : List Value} {j : Nat} {v : Value} (h : pre2 lo (j + 1) = true) (hv : lo[j]? = some v) : v.category = 1 := by
  have h : (match lo[j]? with | some (.long _) => false | some (.double _) => false | _ => true) = true := h
  rw [hv] at h
  cases v <;> first | rfl | (simp at h)
theorem pLo.of1 {g : WG} {ls : Array Slot} {nL i : Nat} {lo : List Value} {v w : Value} (h : lv_has ls nL ((i, w) :: (pLv g lo).filter (fun q => !(q.1 == i) && !(q.1 + 1 == i && q.2.category == 2)))) (hw : w = pEn g v) (hp : pre2 lo i = true) : pLo g ls nL (lo.set i v) := by
  refine ⟨h.1, h.2.1, fun j u hj hu => ?_⟩
  by_cases e : j = i
  · subst e
    rw [List.getElem?_set] at hj
    simp at hj
    rw [← hj.2, ← hw]
    exact h.2.2 (j, w) List.mem_cons_self
  · rw [List.getElem?_set_ne (Ne.symm e)] at hj
    refine h.2.2 (j, pEn g u) (List.mem_cons_of_mem _ (List.mem_filter.mpr ⟨pLv_in hj hu, ?_⟩))
    simp only [pEn_cat]
    by_cases e2 : j + 1 = i
    · subst e2
      simp [pre2_cat hp hj]
    · simp [e, e2]
theorem pLo.of2 {g : WG} {ls : Array Slot} {nL i : Nat} {lo : List Value} {v w : Value} (h : lv_has ls nL ((i, w) :: (pLv g lo).filter (fun q => !(q.1 == i) && (!(q.1 == i + 1) && !(q.1 + 1 == i && q.2.category == 2))))) (hw : w = pEn g v) (hp : pre2 lo i = true) : pLo g ls nL ((lo.set i v).set (i + 1) .null) := by
  refine ⟨h.1, h.2.1, fun j u hj hu => ?_⟩
  by_cases e1 : j = i + 1
  · subst e1
    rw [List.getElem?_set] at hj
    simp at hj
    exact absurd hj.2.symm hu
  · rw [List.getElem?_set_ne (Ne.symm e1)] at hj
    by_cases e : j = i
    · subst e
      rw [List.getElem?_set] at hj
      simp at hj
      rw [← hj.2, ← hw]
      exact h.2.2 (j, w) List.mem_cons_self
    · rw [List.getElem?_set_ne (Ne.symm e)] at hj
      refine h.2.2 (j, pEn g u) (List.mem_cons_of_mem _ (List.mem_filter.mpr ⟨pLv_in hj hu, ?_⟩))
      simp only [pEn_cat]
      by_cases e2 : j + 1 = i
      · subst e2
        simp [pre2_cat hp hj]; omega
      · simp [e, e1, e2]
theorem pEl_args (g : WG) : ∀ (As : List Value) (k j : Nat) (v : Value), (pEl As)[j]? = some v → v ≠ .null → (k + j, pEn g v) ∈ lv_args k (As.map (pEn g))
  | [], k, j, v, h, hn => by simp [pEl] at h
  | a :: r, k, j, v, h, hn => by
    by_cases hc : a.category = 2
    · have e : pEl (a :: r) = a :: .null :: pEl r := by cases a <;> first | rfl | (simp [Value.category] at hc)
      rw [e] at h
      show (k + j, pEn g v) ∈ (k, pEn g a) :: lv_args (if (pEn g a).category = 2 then k + 2 else k + 1) (r.map (pEn g))
      rw [pEn_cat, if_pos hc]
      match j, h with
      | 0, h => cases h; exact List.mem_cons_self
      | 1, h => cases h; exact absurd rfl hn
      | j + 2, h =>
        have := pEl_args g r (k + 2) j v h hn
        rw [show k + (j + 2) = k + 2 + j by omega]
        exact List.mem_cons_of_mem _ this
    · have e : pEl (a :: r) = a :: pEl r := by cases a <;> first | rfl | (simp [Value.category] at hc)
      rw [e] at h
      show (k + j, pEn g v) ∈ (k, pEn g a) :: lv_args (if (pEn g a).category = 2 then k + 2 else k + 1) (r.map (pEn g))
      rw [pEn_cat, if_neg hc]
      match j, h with
      | 0, h => cases h; exact List.mem_cons_self
      | j + 1, h =>
        have := pEl_args g r (k + 1) j v h hn
        rw [show k + (j + 1) = k + 1 + j by omega]
        exact List.mem_cons_of_mem _ this
theorem pEl_len (g : WG) : ∀ As : List Value, (lg_sl (As.map (pEn g))).length = (pEl As).length
  | [] => rfl
  | a :: r => by
    have ih := pEl_len g r
    rw [List.map_cons]
    show (List.flatMap _ (pEn g a :: r.map (pEn g))).length = _
    rw [List.flatMap_cons, List.length_append]
    have ih' : (List.flatMap (fun v : Value => if v.category = 2 then [Slot.val v, .second] else [.val v]) (r.map (pEn g))).length = (pEl r).length := ih
    rw [ih']
    cases a <;> simp [pEn, Value.category, pEl] <;> omega
theorem pLo.entry {g : WG} {ls : Array Slot} {M : PM} {As : List Value} (h : lv_has ls (pmL M) (lv_args 0 (As.map (pEn g)))) : pLo g ls (pmL M) (pL0 M As) := by
  refine ⟨h.1, h.2.1, fun i v hi hv => ?_⟩
  unfold pL0 at hi
  by_cases hl : i < (pEl As).length
  · rw [List.getElem?_append_left hl] at hi
    have := pEl_args g As 0 i v hi hv
    rw [Nat.zero_add] at this
    exact h.2.2 _ this
  · rw [List.getElem?_append_right (by omega), List.getElem?_replicate] at hi
    split at hi
    · cases hi; exact absurd rfl hv
    · cases hi
/-! what stays as it is -/
def pKx (g : WG) (A : Nat → Prop) (U : State) (H : Heap) : Prop :=
  va_K (gD g) vwCl (pcT g) U ∧ (∀ w ∈ lw_nest, va_Nw w U) ∧ (va_X (gA g 99) (gS g).1 (gS g).2 U H ∧ gA g 99 < H.size ∧ ¬ A (gA g 99)) ∧
  vk_S 5 sLen sByt (fun k => gA g (100 + k)) (fun k => gA g (200 + k)) A U H ∧ (∀ (k : Nat) (q : String × Nat × String), sOwn[k]? = some q → vk_R q.1 q.2.1 q.2.2 (gA g (100 + k)) U) ∧
  va_Z "java/lang/String" "COMPACT_STRINGS" "Z" (.int 1) A U H ∧
  (va_Z "jdk/internal/util/Preconditions" "SIOOBE_FORMATTER" "Ljava/util/function/BiFunction;" .null A U H ∨ va_Z "jdk/internal/util/Preconditions" "SIOOBE_FORMATTER" "Ljava/util/function/BiFunction;" (.ref (gA g 98)) A U H)
theorem nest_in {w : Cond} (h : w ∈ lw_nest) : isNest w = true := (List.mem_filter.mp h).2
theorem pKx.go {g : WG} {A B : Nat → Prop} {s U : State} {H : Heap} {locs : List Loc} (h : pKx g A s s.heap) (hS : va_S A s.heap H locs) (hW : s.WarmedH U.vm) (hB : ∀ q, B q → A q) : pKx g B U H := by
  obtain ⟨h1, h2, ⟨h3, h4, h5⟩, h6, h7, h8, h9⟩ := h
  refine ⟨va_K.moved hW.alike h1, fun w hw => ?_, ⟨va_X.moved hW.alike (h3.kept (hS.2.1 _ h4 h5)), Nat.lt_of_lt_of_le h4 hS.1, fun q => h5 (hB _ q)⟩, vk_S.moved hW.alike ((h6.kept hS.2.1).narrow hB), fun k q hq => vk_R.warm hW (h7 k q hq), va_Z.moved hW.alike ((h8.kept hS.2.1).narrow hB), ?_⟩
  · have hn := nest_in hw
    have hz := h2 w hw
    cases w <;> first | exact va_Nw.warmF hW hz | exact va_Nw.warmM hW hz | cases hn
  · rcases h9 with h9 | h9
    · exact Or.inl (va_Z.moved hW.alike ((h9.kept hS.2.1).narrow hB))
    · exact Or.inr (va_Z.moved hW.alike ((h9.kept hS.2.1).narrow hB))
theorem pKx.same {g : WG} {A : Nat → Prop} {u U : State} {H : Heap} (hv : u.vm = U.vm) (h : pKx g A u H) : pKx g A U H := by
  obtain ⟨h1, h2, ⟨h3, h4, h5⟩, h6, h7, h8, h9⟩ := h
  have ha : u.vm.Alike U.vm := by rw [hv]; exact Vm.Alike.refl U.vm
  refine ⟨va_K.moved ha h1, fun w hw => ?_, ⟨va_X.moved ha h3, h4, h5⟩, vk_S.moved ha h6, fun k q hq => vk_R.same hv.symm (h7 k q hq), va_Z.moved ha h8, ?_⟩
  · have hn := nest_in hw
    have hz := h2 w hw
    cases w <;> first | exact va_Nw.same rfl hv hz | cases hn
  · rcases h9 with h9 | h9
    · exact Or.inl (va_Z.moved ha h9)
    · exact Or.inr (va_Z.moved ha h9)
/-- what holds at a method's frame -/
def pCx (g : WG) (p : Program) (R : Room) (s : State) (m : MethodId) (args : Array Value) (c : Code) (A : Nat → Prop) (cells slots : Nat) (M : PM) : Prop :=
  p.tables.exec = Jvm.exec ∧ c.code = pmB M ∧ c.maxLocals = pmL M ∧ s.vm.findClass (pmY M).cls = some m.cls ∧ (∀ w ∈ lw_good, w.before args s = true) ∧ pKx g A s s.heap ∧ (∀ S, va_D A (pcW g S)) ∧ (∀ q, s.heap.size ≤ q → A q) ∧ pmV M ≤ R.frames ∧ 36 * pmV M ≤ R.locals ∧ cells ≤ R.cells ∧ slots ≤ R.slots
def pRet (M : PM) (pc : Nat) (r : Option Value) : Prop := match r with
  | none => decode (pmB M) pc = .ok (.return_, 1) ∧ pmR M = none
  | some (.int x) => decode (pmB M) pc = .ok (.ireturn, 1) ∧ ∃ ty, pmR M = some ty ∧ narrow ty (.int x) = .int x
  | some (.long _) => decode (pmB M) pc = .ok (.lreturn, 1) ∧ pmR M = some .long
  | _ => False
/-- the soundness of a frame of the plain machine -/
def Snd (l : Launch) (g : WG) : PP := fun M pc lo st S Q => ∀ (p : Program) (e : Env) (R : Room) (s : State) (m : MethodId) (args : Array Value) (below : List Frame) (meth : Method) (c : Code) (A : Nat → Prop) (cells slots : Nat) (Z : State → Prop) (H : Heap) (locs : List Loc) (ls : Array Slot),
  pCx g p R s m args c A cells slots M → va_P (gD g) vwCl (pcW g S) H → va_S A s.heap H locs → pLo g ls (pmL M) lo →
  (∀ (r : Option Value) (S' : PS) (H' : Heap) (locs' : List Loc) (ls' : Array Slot) (pc' : Nat), Q r S' → pRet M pc' r → va_P (gD g) vwCl (pcW g S') H' → va_S A s.heap H' locs' → W p l e R s m args below meth c H' locs' cells slots Z (F0 m pc' ls' (r.toList.map (pEn g)))) →
  W p l e R s m args below meth c H locs cells slots Z (F0 m pc ls (st.map (pEn g)))

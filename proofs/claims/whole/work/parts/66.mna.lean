def va_AOA (t : FieldType) (U : State) : Prop := (Cond.arrayOver (.array t)).before #[] U = true
theorem va_AOA.use {t : FieldType} {A : Array Value} {U : State} (h : va_AOA t U) : (Cond.arrayOver (.array t)).before A U = true := h
theorem va_AOA.moved {t : FieldType} {u U : State} (hvm : u.vm.Alike U.vm) (h : va_AOA t u) : va_AOA t U := over_moved hvm h
section CTORM
variable {p : Program} {l : Launch} {e : Env} {R : Room} {s : State} {m : MethodId} {args : Array Value} {below : List Frame} {meth : Method} {c : Code} {H : Heap} {locs : List Loc} {cells slots : Nat} {Q : State → Prop}
variable {cc : ByteArray} {pc : Nat} {ls : Array Slot} {rest : List Value} {D : va_G} {A : Nat → Prop} {gc : Nat → ClassId} {ws : va_W} {H0 : Heap}
theorem w_mna (hexec : p.tables.exec = Jvm.exec) (hb : c.code = cc) {own : String} {index : Nat} (hown : s.vm.findClass own = some m.cls) (hclink : (Cond.classLink own index "[[I").before args s = true) (hover : va_AOA .int s) (harr : (Cond.arrayClass .int).before args s = true) (hK : va_K D vwCl (pcTc gc) s) (hP : va_P D vwCl ws H) (hD : va_D A ws) (hS : va_S A H0 H locs) (hA : ∀ q, H0.size ≤ q → A q) (hcells : cells + 14 ≤ R.cells) (hslots : slots + 2626 ≤ R.slots) (hdg : decode cc pc = .ok (.multianewarray index 2, 4))
    (kk : ∀ (q : Nat) (r : Nat → Nat) (H1 : Heap), va_P D vwCl (ws ++ [(q, .inl (gc 6, 13, .inr (.inr (.inr (.inr (fun k => ([r 0, r 1, r 2, r 3, r 4, r 5, r 6, r 7, r 8, r 9, r 10, r 11, r 12] : List Nat)[k]?)))))), (r 0, .inl (gc 0, 201, .inl (fun _ => 0))), (r 1, .inl (gc 0, 201, .inl (fun _ => 0))), (r 2, .inl (gc 0, 201, .inl (fun _ => 0))), (r 3, .inl (gc 0, 201, .inl (fun _ => 0))), (r 4, .inl (gc 0, 201, .inl (fun _ => 0))), (r 5, .inl (gc 0, 201, .inl (fun _ => 0))), (r 6, .inl (gc 0, 201, .inl (fun _ => 0))), (r 7, .inl (gc 0, 201, .inl (fun _ => 0))), (r 8, .inl (gc 0, 201, .inl (fun _ => 0))), (r 9, .inl (gc 0, 201, .inl (fun _ => 0))), (r 10, .inl (gc 0, 201, .inl (fun _ => 0))), (r 11, .inl (gc 0, 201, .inl (fun _ => 0))), (r 12, .inl (gc 0, 201, .inl (fun _ => 0)))]) H1 → va_D A (ws ++ [(q, .inl (gc 6, 13, .inr (.inr (.inr (.inr (fun k => ([r 0, r 1, r 2, r 3, r 4, r 5, r 6, r 7, r 8, r 9, r 10, r 11, r 12] : List Nat)[k]?)))))), (r 0, .inl (gc 0, 201, .inl (fun _ => 0))), (r 1, .inl (gc 0, 201, .inl (fun _ => 0))), (r 2, .inl (gc 0, 201, .inl (fun _ => 0))), (r 3, .inl (gc 0, 201, .inl (fun _ => 0))), (r 4, .inl (gc 0, 201, .inl (fun _ => 0))), (r 5, .inl (gc 0, 201, .inl (fun _ => 0))), (r 6, .inl (gc 0, 201, .inl (fun _ => 0))), (r 7, .inl (gc 0, 201, .inl (fun _ => 0))), (r 8, .inl (gc 0, 201, .inl (fun _ => 0))), (r 9, .inl (gc 0, 201, .inl (fun _ => 0))), (r 10, .inl (gc 0, 201, .inl (fun _ => 0))), (r 11, .inl (gc 0, 201, .inl (fun _ => 0))), (r 12, .inl (gc 0, 201, .inl (fun _ => 0)))]) → va_S A H0 H1 locs → W p l e R s m args below meth c H1 locs (cells + 1 + 13) (slots + 13 + 13 * 201) Q (F0 m (pc + 4) ls (.ref q :: rest))) : W p l e R s m args below meth c H locs cells slots Q (F0 m pc ls (.int 201 :: .int 13 :: rest)) := by
  sorry
end CTORM
/-- what the class's constructor wants of the tables -/
def kX (D : va_G) (gc : Nat → ClassId) (U : State) : Prop := va_K D vwCl (pcTc gc) U ∧ (∀ w ∈ lw_nest, va_Nw w U) ∧ va_AO RX0 U ∧ va_AO RX2 U ∧ va_AOA .int U
theorem kX.warm {D : va_G} {gc : Nat → ClassId} {s U : State} (hW : s.WarmedH U.vm) (h : kX D gc s) : kX D gc U := by
  obtain ⟨h1, h2, h3, h4, h5⟩ := h
  refine ⟨va_K.moved hW.alike h1, fun w hw => ?_, va_AO.moved hW.alike h3, va_AO.moved hW.alike h4, va_AOA.moved hW.alike h5⟩
  have hn := nest_in hw
  have hz := h2 w hw
  cases w <;> first | exact va_Nw.warmF hW hz | exact va_Nw.warmM hW hz | cases hn
theorem kX.same {D : va_G} {gc : Nat → ClassId} {u U : State} (hv : u.vm = U.vm) (h : kX D gc u) : kX D gc U := by
  obtain ⟨h1, h2, h3, h4, h5⟩ := h
  have ha : u.vm.Alike U.vm := by rw [hv]; exact Vm.Alike.refl U.vm
  refine ⟨va_K.moved ha h1, fun w hw => ?_, va_AO.moved ha h3, va_AO.moved ha h4, va_AOA.moved ha h5⟩
  have hn := nest_in hw
  have hz := h2 w hw
  cases w <;> first | exact va_Nw.same rfl hv hz | cases hn

/-! what the Statement gives of statics and String constants, outside the cells A: they stay -/
abbrev xE : Type := va_G × ClassId × ClassId × Nat × (Nat → Int32) × (Nat → Nat) × (Nat → Nat)
/-- E: where classes and slots are; the classes of int and byte arrays; the static LAW_BOUNDS and what it holds; the two String constants and their arrays -/
def xZ (E : xE) (A : Nat → Prop) (U : State) (H : Heap) : Prop := va_Z "EggTown" "LAW_BOUNDS" "[I" (.ref E.2.2.2.1) A U H ∧ va_T .int E.2.2.2.1 6 (fun j => .int (E.2.2.2.2.1 j)) A U H ∧ ¬ A E.2.2.2.1 ∧ va_Z "java/lang/String" "COMPACT_STRINGS" "Z" (.int 1) A U H ∧ vk_S 2 [6, 11] [[108, 102, 98, 104, 112, 116], [100, 119, 121, 107, 114, 109, 97, 99, 111, 105, 110]] E.2.2.2.2.2.1 E.2.2.2.2.2.2 A U H ∧ vk_R "EggTown$LawReader" 37 "lfbhpt" (E.2.2.2.2.2.1 0) U ∧ vk_R "EggTown$LawReader" 89 "dwykrmacoin" (E.2.2.2.2.2.1 1) U
theorem va_X.lt {b L : Nat} {xs : Nat → Int32} {U : State} {H : Heap} (h : va_X b L xs U H) : b < H.size := by
  obtain ⟨scr, h1, -⟩ := h
  exact (Array.getElem?_eq_some_iff.mp h1).1
theorem xZ.to {E : xE} {A B : Nat → Prop} {s U : State} {H : Heap} {locs : List Loc} (h : xZ E A s s.heap) (hW : s.WarmedH U.vm) (hS : va_S A s.heap H locs) (hAB : ∀ q, B q → A q) : xZ E B U H := by
  obtain ⟨h1, h2, h3, h4, h5, h6, h7⟩ := h
  exact ⟨((h1.kept hS.2.1).moved hW.alike).narrow hAB, ((h2.kept hS.2.1).moved hW.alike).narrow hAB, fun q => h3 (hAB _ q), ((h4.kept hS.2.1).moved hW.alike).narrow hAB, ((h5.kept hS.2.1).moved hW.alike).narrow hAB, h6.warm hW, h7.warm hW⟩
theorem xZ.calling {E : xE} {A : Nat → Prop} {U : State} {g : JFrame} {mk : MethodId} {a : Array Value} (h : xZ E A U U.heap) : xZ E A (U.calling g mk a) (U.calling g mk a).heap := by
  obtain ⟨h1, h2, h3, h4, h5, h6, h7⟩ := h
  exact ⟨va_Z.moved (u := U) (U := U.calling g mk a) (Vm.Alike.refl U.vm) h1, va_T.moved (u := U) (U := U.calling g mk a) (Vm.Alike.refl U.vm) h2, h3, va_Z.moved (u := U) (U := U.calling g mk a) (Vm.Alike.refl U.vm) h4, vk_S.moved (u := U) (U := U.calling g mk a) (Vm.Alike.refl U.vm) h5, vk_R.same rfl h6, vk_R.same rfl h7⟩

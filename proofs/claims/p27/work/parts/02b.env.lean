/-! what the Statement gives of statics and String constants, outside the cells A: they stay -/
def xZ (A : Nat → Prop) (U : State) (H : Heap) : Prop := ∃ (b0 : Nat) (f0 : Nat → Int32) (adK adV : Nat → Nat), va_Z "EggTown" "LAW_BOUNDS" "[I" (.ref b0) A U H ∧ va_X b0 6 f0 U H ∧ ¬ A b0 ∧ va_Z "java/lang/String" "COMPACT_STRINGS" "Z" (.int 1) A U H ∧ vk_S 2 [6, 11] [[108, 102, 98, 104, 112, 116], [100, 119, 121, 107, 114, 109, 97, 99, 111, 105, 110]] adK adV A U H ∧ vk_R "EggTown$LawReader" 37 "lfbhpt" (adK 0) U ∧ vk_R "EggTown$LawReader" 89 "dwykrmacoin" (adK 1) U
theorem va_X.lt {b L : Nat} {xs : Nat → Int32} {U : State} {H : Heap} (h : va_X b L xs U H) : b < H.size := by
  obtain ⟨scr, h1, -⟩ := h
  exact (Array.getElem?_eq_some_iff.mp h1).1
theorem xZ.to {A B : Nat → Prop} {s U : State} {H : Heap} {locs : List Loc} (h : xZ A s s.heap) (hW : s.WarmedH U.vm) (hS : va_S A s.heap H locs) (hAB : ∀ q, B q → A q) : xZ B U H := by
  obtain ⟨b0, f0, adK, adV, h1, h2, h3, h4, h5, h6, h7⟩ := h
  exact ⟨b0, f0, adK, adV, ((h1.kept hS.2.1).moved hW.alike).narrow hAB, (h2.kept (hS.2.1 b0 h2.lt h3)).moved hW.alike, fun q => h3 (hAB _ q), ((h4.kept hS.2.1).moved hW.alike).narrow hAB, ((h5.kept hS.2.1).moved hW.alike).narrow hAB, h6.warm hW, h7.warm hW⟩
theorem xZ.calling {A : Nat → Prop} {U : State} {g : JFrame} {mk : MethodId} {a : Array Value} (h : xZ A U U.heap) : xZ A (U.calling g mk a) (U.calling g mk a).heap := by
  obtain ⟨b0, f0, adK, adV, h1, h2, h3, h4, h5, h6, h7⟩ := h
  exact ⟨b0, f0, adK, adV, va_Z.moved (u := U) (U := U.calling g mk a) (Vm.Alike.refl U.vm) h1, va_X.moved (u := U) (U := U.calling g mk a) (Vm.Alike.refl U.vm) h2, h3, va_Z.moved (u := U) (U := U.calling g mk a) (Vm.Alike.refl U.vm) h4, vk_S.moved (u := U) (U := U.calling g mk a) (Vm.Alike.refl U.vm) h5, vk_R.same rfl h6, vk_R.same rfl h7⟩

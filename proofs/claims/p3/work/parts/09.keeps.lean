/-! worlds: what stays of one in another -/
def keeps (ws w : va_W) (P : Nat → Prop) : Prop := ∀ (q : Nat) (c : Nat × va_E), ¬ P q → ws[q]? = some c → w[q]? = some c
theorem keeps_rf {ws : va_W} {P : Nat → Prop} : keeps ws ws P := fun _ _ _ h => h
theorem keeps_set {ws w w1 : va_W} {P : Nat → Prop} {k : Nat} {c : Nat × va_E} (h : keeps ws w P) (hw : w1 = w.set k c) (hk : P k) : keeps ws w1 P := by
  intro q d hq hd
  have hne : k ≠ q := fun e => hq (by rw [← e]; exact hk)
  rw [hw, List.getElem?_set_ne hne]
  exact h q d hq hd
theorem keeps_tr {ws w w1 : va_W} {P P1 : Nat → Prop} (h : keeps ws w P) (h1 : keeps w w1 P1) (hs : ∀ q, P1 q → P q) : keeps ws w1 P := fun q c hq hc => h1 q c (fun g => hq (hs q g)) (h q c hq hc)
theorem keeps_at {ws w : va_W} {P : Nat → Prop} {q : Nat} {c : Nat × va_E} (h : keeps ws w P) (hc : ws[q]? = some c) (hq : ¬ P q) : w[q]? = some c := h q c hq hc

/-! the flock, as numbers -/
def fv (f : Nat → Nat) (h x : Nat) : Nat := h - x + f (h + x)
def sc (f : Nat → Nat) (h : Nat) : Nat → Nat
  | 0 => 0
  | k + 1 => if fv f h (sc f h k) < fv f h (k + 1) then k + 1 else sc f h k
def mn (h : Nat) : Nat := if h < 20 - h then h else 20 - h
def fh : Nat → Nat → Nat
  | 0, _ => 0
  | d + 1, h => fv (fh d) h (sc (fh d) h (mn h))
def fb (d h : Nat) : Nat := sc (fh d) h (mn h)
theorem fh_s (d h : Nat) : fh (d + 1) h = fv (fh d) h (fb d h) := rfl
theorem sc_le (f : Nat → Nat) (h k : Nat) : sc f h k ≤ k := by
  induction k with
  | zero => exact Nat.le_refl 0
  | succ k ih =>
    rw [sc]
    split <;> omega
theorem mn_le (h : Nat) : mn h ≤ h := by
  rw [mn]
  split <;> omega
theorem mn_20 {h : Nat} (hh : h ≤ 20) : h + mn h ≤ 20 := by
  rw [mn]
  split <;> omega
theorem mn_eq {h k : Nat} (hh : h ≤ 20) (h1 : k ≤ mn h + 1) (h2 : h < k ∨ 20 < h + k) : k = mn h + 1 := by
  have e : mn h = if h < 20 - h then h else 20 - h := rfl
  by_cases q : h < 20 - h
  · rw [if_pos q] at e; omega
  · rw [if_neg q] at e; omega
theorem mn_in {h k : Nat} (h1 : k ≤ h) (h2 : h + k ≤ 20) : k ≤ mn h := by
  rw [mn]
  split <;> omega
theorem fb_le (d h : Nat) : fb d h ≤ mn h := sc_le _ _ _
theorem fh_le (d : Nat) : ∀ h, h ≤ 20 → fh d h ≤ 20 * d := by
  induction d with
  | zero => intro h _; exact Nat.le_refl 0
  | succ d ih =>
    intro h hh
    rw [fh_s, fv]
    have h1 := fb_le d h
    have h2 := mn_20 hh
    have h3 := ih (h + fb d h) (by omega)
    omega
theorem upd_z (k : Nat) : upd (fun _ => (0 : Int32)) k 0 = fun _ => 0 := by
  funext j
  by_cases h : j = k
  · subst h; exact pk_us
  · exact pk_un h
theorem set_same {α : Type} {ws : List α} {q : Nat} {c : α} (h : ws[q]? = some c) : ws.set q c = ws := by
  apply List.ext_getElem?
  intro i
  by_cases e : q = i
  · subst e; rw [set_eq h, h]
  · rw [List.getElem?_set_ne e]
def flk (a n v : Int32) : Int32 := if wth a 1 20 ∧ wth n 1 12 ∧ wth v 0 1 then (if v = 0 then nI (fh n.toNatClampNeg a.toNatClampNeg) else nI (fb (n.toNatClampNeg - 1) a.toNatClampNeg)) else -1
theorem nI_m1 {a : Nat} (h : a < 2 ^ 31) : ¬ nI a ≤ -1 := by
  rw [Int32.le_iff_toInt_le, nI_toInt h]
  have : (-1 : Int32).toInt = -1 := by decide
  omega
theorem nI_le' {a b : Nat} (h : nI a ≤ nI b) (ha : a < 2 ^ 31) (hb : b < 2 ^ 31) : a ≤ b := (nI_leI ha hb).mp h
theorem nI_lt' {a b : Nat} (h : nI a < nI b) (ha : a < 2 ^ 31) (hb : b < 2 ^ 31) : a < b := (nI_ltI ha hb).mp h
theorem nI_nle' {a b : Nat} (h : ¬ nI a ≤ nI b) (ha : a < 2 ^ 31) (hb : b < 2 ^ 31) : b < a := by
  rcases Nat.lt_or_ge b a with q | q
  · exact q
  · exact absurd ((nI_leI ha hb).mpr q) h
theorem nI_nlt' {a b : Nat} (h : ¬ nI a < nI b) (ha : a < 2 ^ 31) (hb : b < 2 ^ 31) : b ≤ a := by
  rcases Nat.lt_or_ge a b with q | q
  · exact absurd ((nI_ltI ha hb).mpr q) h
  · exact q
/-- the scan up to k, as the class keeps it -/
def bhI (g : Nat → Nat) (h k : Nat) (best most : Int32) : Prop := (k = 0 ∧ best = 0 ∧ most = -1) ∨ ∃ k', k = k' + 1 ∧ best = nI (sc g h k') ∧ most = nI (fv g h (sc g h k'))
theorem bhI_up {g : Nat → Nat} {h k : Nat} {best most : Int32} (hb : ∀ j, j ≤ 20 → g j ≤ 1000) (hk : k ≤ h) (hh : h + k ≤ 20) (I : bhI g h k best most) (c : ¬ nI (fv g h k) ≤ most) : bhI g h (k + 1) (nI k) (nI (fv g h k)) := by
  have b1 := hb (h + k) hh
  rcases I with ⟨rfl, -, -⟩ | ⟨k', rfl, -, e2⟩
  · exact Or.inr ⟨0, rfl, rfl, rfl⟩
  · refine Or.inr ⟨k' + 1, rfl, ?_, ?_⟩
    all_goals
      have hs := sc_le g h k'
      have b2 := hb (h + sc g h k') (by omega)
      rw [e2] at c
      have := nI_nle' c (by rw [fv]; omega) (by rw [fv]; omega)
      rw [sc, if_pos this]
theorem bhI_no {g : Nat → Nat} {h k : Nat} {best most : Int32} (hb : ∀ j, j ≤ 20 → g j ≤ 1000) (hk : k ≤ h) (hh : h + k ≤ 20) (I : bhI g h k best most) (c : nI (fv g h k) ≤ most) : bhI g h (k + 1) best most := by
  have b1 := hb (h + k) hh
  rcases I with ⟨rfl, -, e⟩ | ⟨k', rfl, e1, e2⟩
  · rw [e] at c
    exact absurd c (nI_m1 (by rw [fv]; omega))
  · refine Or.inr ⟨k' + 1, rfl, ?_, ?_⟩
    all_goals
      have hs := sc_le g h k'
      have b2 := hb (h + sc g h k') (by omega)
      have c2 := c
      rw [e2] at c2
      have := nI_le' c2 (by rw [fv]; omega) (by rw [fv]; omega)
      rw [sc, if_neg (by omega)]
      assumption
theorem bhI_end {g : Nat → Nat} {h k : Nat} {best most : Int32} (I : bhI g h k best most) (hk : k = mn h + 1) : best = nI (sc g h (mn h)) := by
  rcases I with ⟨rfl, -, -⟩ | ⟨k', e, e1, -⟩
  · omega
  · have : k' = mn h := by omega
    rw [← this]; exact e1

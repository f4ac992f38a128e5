def sw (k : Nat) : Nat := if 71 ≤ k ∧ k < 79 then k + 8 else if 79 ≤ k ∧ k < 87 then k - 8 else k
def swl : List Nat := [0, 1, 2, 3, 4, 5, 6, 7, 8, 9, 10, 11, 12, 13, 14, 15, 16, 17, 18, 19, 20, 21, 22, 23, 24, 25, 26, 27, 28, 29, 30, 31, 32, 33, 34, 35, 36, 37, 38, 39, 40, 41, 42, 43, 44, 45, 46, 47, 48, 49, 50, 51, 52, 53, 54, 55, 56, 57, 58, 59, 60, 61, 62, 63, 64, 65, 66, 67, 68, 69, 70, 79, 80, 81, 82, 83, 84, 85, 86, 71, 72, 73, 74, 75, 76, 77, 78, 87, 88, 89, 90, 91, 92, 93, 94, 95, 96, 97, 98, 99, 100, 101, 102, 103, 104, 105, 106, 107, 108, 109, 110, 111, 112]
theorem some_at {α : Type} {L : List (α → Prop)} {k : Nat} {P Q : α → Prop} {c : α} (hP : L[k]? = some P) (hQ : L[k]? = some Q) (h : Q c) : P c := by
  cases hP.symm.trans hQ
  exact h
theorem sw_ok {E : xE} {a : Nat → Nat} {w0 : va_W} (h : WX (okX E a) w0) : ∀ k : Nat, k < 113 → k ≠ 0 → ∀ P, (okX E (fun j => a (sw j)))[k]? = some P → ∃ c, w0[sw k]? = some c ∧ P c
  | 0, _, h, _, _ => absurd rfl h
  | 1, _, _, _, hP => by
    obtain ⟨c, hc, hp⟩ := h 1 _ rfl
    exact ⟨c, hc, some_at hP rfl hp⟩
  | 2, _, _, _, hP => by
    obtain ⟨c, hc, hp⟩ := h 2 _ rfl
    exact ⟨c, hc, some_at hP rfl hp⟩
  | 3, _, _, _, hP => by
    obtain ⟨c, hc, hp⟩ := h 3 _ rfl
    exact ⟨c, hc, some_at hP rfl hp⟩
  | 4, _, _, _, hP => by
    obtain ⟨c, hc, hp⟩ := h 4 _ rfl
    exact ⟨c, hc, some_at hP rfl hp⟩
  | 5, _, _, _, hP => by
    obtain ⟨c, hc, hp⟩ := h 5 _ rfl
    exact ⟨c, hc, some_at hP rfl hp⟩
  | 6, _, _, _, hP => by
    obtain ⟨c, hc, hp⟩ := h 6 _ rfl
    exact ⟨c, hc, some_at hP rfl hp⟩
  | 7, _, _, _, hP => by
    obtain ⟨c, hc, hp⟩ := h 7 _ rfl
    exact ⟨c, hc, some_at hP rfl hp⟩
  | 8, _, _, _, hP => by
    obtain ⟨c, hc, hp⟩ := h 8 _ rfl
    exact ⟨c, hc, some_at hP rfl hp⟩
  | 9, _, _, _, hP => by
    obtain ⟨c, hc, hp⟩ := h 9 _ rfl
    exact ⟨c, hc, some_at hP rfl hp⟩
  | 10, _, _, _, hP => by
    obtain ⟨c, hc, hp⟩ := h 10 _ rfl
    exact ⟨c, hc, some_at hP rfl hp⟩
  | 11, _, _, _, hP => by
    obtain ⟨c, hc, hp⟩ := h 11 _ rfl
    exact ⟨c, hc, some_at hP rfl hp⟩
  | 12, _, _, _, hP => by
    obtain ⟨c, hc, hp⟩ := h 12 _ rfl
    exact ⟨c, hc, some_at hP rfl hp⟩
  | 13, _, _, _, hP => by
    obtain ⟨c, hc, hp⟩ := h 13 _ rfl
    exact ⟨c, hc, some_at hP rfl hp⟩
  | 14, _, _, _, hP => by
    obtain ⟨c, hc, hp⟩ := h 14 _ rfl
    exact ⟨c, hc, some_at hP rfl hp⟩
  | 15, _, _, _, hP => by
    obtain ⟨c, hc, hp⟩ := h 15 _ rfl
    exact ⟨c, hc, some_at hP rfl hp⟩
  | 16, _, _, _, hP => by
    obtain ⟨c, hc, hp⟩ := h 16 _ rfl
    exact ⟨c, hc, some_at hP rfl hp⟩
  | 17, _, _, _, hP => by
    obtain ⟨c, hc, hp⟩ := h 17 _ rfl
    exact ⟨c, hc, some_at hP rfl hp⟩
  | 18, _, _, _, hP => by
    obtain ⟨c, hc, hp⟩ := h 18 _ rfl
    exact ⟨c, hc, some_at hP rfl hp⟩
  | 19, _, _, _, hP => by
    obtain ⟨c, hc, hp⟩ := h 19 _ rfl
    exact ⟨c, hc, some_at hP rfl hp⟩
  | 20, _, _, _, hP => by
    obtain ⟨c, hc, hp⟩ := h 20 _ rfl
    exact ⟨c, hc, some_at hP rfl hp⟩
  | 21, _, _, _, hP => by
    obtain ⟨c, hc, hp⟩ := h 21 _ rfl
    exact ⟨c, hc, some_at hP rfl hp⟩
  | 22, _, _, _, hP => by
    obtain ⟨c, hc, hp⟩ := h 22 _ rfl
    exact ⟨c, hc, some_at hP rfl hp⟩
  | 23, _, _, _, hP => by
    obtain ⟨c, hc, hp⟩ := h 23 _ rfl
    exact ⟨c, hc, some_at hP rfl hp⟩
  | 24, _, _, _, hP => by
    obtain ⟨c, hc, hp⟩ := h 24 _ rfl
    exact ⟨c, hc, some_at hP rfl hp⟩
  | 25, _, _, _, hP => by
    obtain ⟨c, hc, hp⟩ := h 25 _ rfl
    exact ⟨c, hc, some_at hP rfl hp⟩
  | 26, _, _, _, hP => by
    obtain ⟨c, hc, hp⟩ := h 26 _ rfl
    exact ⟨c, hc, some_at hP rfl hp⟩
  | 27, _, _, _, hP => by
    obtain ⟨c, hc, hp⟩ := h 27 _ rfl
    exact ⟨c, hc, some_at hP rfl hp⟩
  | 28, _, _, _, hP => by
    obtain ⟨c, hc, hp⟩ := h 28 _ rfl
    exact ⟨c, hc, some_at hP rfl hp⟩
  | 29, _, _, _, hP => by
    obtain ⟨c, hc, hp⟩ := h 29 _ rfl
    exact ⟨c, hc, some_at hP rfl hp⟩
  | 30, _, _, _, hP => by
    obtain ⟨c, hc, hp⟩ := h 30 _ rfl
    exact ⟨c, hc, some_at hP rfl hp⟩
  | 31, _, _, _, hP => by
    obtain ⟨c, hc, hp⟩ := h 31 _ rfl
    exact ⟨c, hc, some_at hP rfl hp⟩
  | 32, _, _, _, hP => by
    obtain ⟨c, hc, hp⟩ := h 32 _ rfl
    exact ⟨c, hc, some_at hP rfl hp⟩
  | 33, _, _, _, hP => by
    obtain ⟨c, hc, hp⟩ := h 33 _ rfl
    exact ⟨c, hc, some_at hP rfl hp⟩
  | 34, _, _, _, hP => by
    obtain ⟨c, hc, hp⟩ := h 34 _ rfl
    exact ⟨c, hc, some_at hP rfl hp⟩
  | 35, _, _, _, hP => by
    obtain ⟨c, hc, hp⟩ := h 35 _ rfl
    exact ⟨c, hc, some_at hP rfl hp⟩
  | 36, _, _, _, hP => by
    obtain ⟨c, hc, hp⟩ := h 36 _ rfl
    exact ⟨c, hc, some_at hP rfl hp⟩
  | 37, _, _, _, hP => by
    obtain ⟨c, hc, hp⟩ := h 37 _ rfl
    exact ⟨c, hc, some_at hP rfl hp⟩
  | 38, _, _, _, hP => by
    obtain ⟨c, hc, hp⟩ := h 38 _ rfl
    exact ⟨c, hc, some_at hP rfl hp⟩
  | 39, _, _, _, hP => by
    obtain ⟨c, hc, hp⟩ := h 39 _ rfl
    exact ⟨c, hc, some_at hP rfl hp⟩
  | 40, _, _, _, hP => by
    obtain ⟨c, hc, hp⟩ := h 40 _ rfl
    exact ⟨c, hc, some_at hP rfl hp⟩
  | 41, _, _, _, hP => by
    obtain ⟨c, hc, hp⟩ := h 41 _ rfl
    exact ⟨c, hc, some_at hP rfl hp⟩
  | 42, _, _, _, hP => by
    obtain ⟨c, hc, hp⟩ := h 42 _ rfl
    exact ⟨c, hc, some_at hP rfl hp⟩
  | 43, _, _, _, hP => by
    obtain ⟨c, hc, hp⟩ := h 43 _ rfl
    exact ⟨c, hc, some_at hP rfl hp⟩
  | 44, _, _, _, hP => by
    obtain ⟨c, hc, hp⟩ := h 44 _ rfl
    exact ⟨c, hc, some_at hP rfl hp⟩
  | 45, _, _, _, hP => by
    obtain ⟨c, hc, hp⟩ := h 45 _ rfl
    exact ⟨c, hc, some_at hP rfl hp⟩
  | 46, _, _, _, hP => by
    obtain ⟨c, hc, hp⟩ := h 46 _ rfl
    exact ⟨c, hc, some_at hP rfl hp⟩
  | 47, _, _, _, hP => by
    obtain ⟨c, hc, hp⟩ := h 47 _ rfl
    exact ⟨c, hc, some_at hP rfl hp⟩
  | 48, _, _, _, hP => by
    obtain ⟨c, hc, hp⟩ := h 48 _ rfl
    exact ⟨c, hc, some_at hP rfl hp⟩
  | 49, _, _, _, hP => by
    obtain ⟨c, hc, hp⟩ := h 49 _ rfl
    exact ⟨c, hc, some_at hP rfl hp⟩
  | 50, _, _, _, hP => by
    obtain ⟨c, hc, hp⟩ := h 50 _ rfl
    exact ⟨c, hc, some_at hP rfl hp⟩
  | 51, _, _, _, hP => by
    obtain ⟨c, hc, hp⟩ := h 51 _ rfl
    exact ⟨c, hc, some_at hP rfl hp⟩
  | 52, _, _, _, hP => by
    obtain ⟨c, hc, hp⟩ := h 52 _ rfl
    exact ⟨c, hc, some_at hP rfl hp⟩
  | 53, _, _, _, hP => by
    obtain ⟨c, hc, hp⟩ := h 53 _ rfl
    exact ⟨c, hc, some_at hP rfl hp⟩
  | 54, _, _, _, hP => by
    obtain ⟨c, hc, hp⟩ := h 54 _ rfl
    exact ⟨c, hc, some_at hP rfl hp⟩
  | 55, _, _, _, hP => by
    obtain ⟨c, hc, hp⟩ := h 55 _ rfl
    exact ⟨c, hc, some_at hP rfl hp⟩
  | 56, _, _, _, hP => by
    obtain ⟨c, hc, hp⟩ := h 56 _ rfl
    exact ⟨c, hc, some_at hP rfl hp⟩
  | 57, _, _, _, hP => by
    obtain ⟨c, hc, hp⟩ := h 57 _ rfl
    exact ⟨c, hc, some_at hP rfl hp⟩
  | 58, _, _, _, hP => by
    obtain ⟨c, hc, hp⟩ := h 58 _ rfl
    exact ⟨c, hc, some_at hP rfl hp⟩
  | 59, _, _, _, hP => by
    obtain ⟨c, hc, hp⟩ := h 59 _ rfl
    exact ⟨c, hc, some_at hP rfl hp⟩
  | 60, _, _, _, hP => by
    obtain ⟨c, hc, hp⟩ := h 60 _ rfl
    exact ⟨c, hc, some_at hP rfl hp⟩
  | 61, _, _, _, hP => by
    obtain ⟨c, hc, hp⟩ := h 61 _ rfl
    exact ⟨c, hc, some_at hP rfl hp⟩
  | 62, _, _, _, hP => by
    obtain ⟨c, hc, hp⟩ := h 62 _ rfl
    exact ⟨c, hc, some_at hP rfl hp⟩
  | 63, _, _, _, hP => by
    obtain ⟨c, hc, hp⟩ := h 63 _ rfl
    exact ⟨c, hc, some_at hP rfl hp⟩
  | 64, _, _, _, hP => by
    obtain ⟨c, hc, hp⟩ := h 64 _ rfl
    exact ⟨c, hc, some_at hP rfl hp⟩
  | 65, _, _, _, hP => by
    obtain ⟨c, hc, hp⟩ := h 65 _ rfl
    exact ⟨c, hc, some_at hP rfl hp⟩
  | 66, _, _, _, hP => by
    obtain ⟨c, hc, hp⟩ := h 66 _ rfl
    exact ⟨c, hc, some_at hP rfl hp⟩
  | 67, _, _, _, hP => by
    obtain ⟨c, hc, hp⟩ := h 67 _ rfl
    exact ⟨c, hc, some_at hP rfl hp⟩
  | 68, _, _, _, hP => by
    obtain ⟨c, hc, hp⟩ := h 68 _ rfl
    exact ⟨c, hc, some_at hP rfl hp⟩
  | 69, _, _, _, hP => by
    obtain ⟨c, hc, hp⟩ := h 69 _ rfl
    exact ⟨c, hc, some_at hP rfl hp⟩
  | 70, _, _, _, hP => by
    obtain ⟨c, hc, hp⟩ := h 70 _ rfl
    exact ⟨c, hc, some_at hP rfl hp⟩
  | 71, _, _, _, hP => by
    obtain ⟨c, hc, hp⟩ := h 79 _ rfl
    exact ⟨c, hc, some_at hP rfl hp⟩
  | 72, _, _, _, hP => by
    obtain ⟨c, hc, hp⟩ := h 80 _ rfl
    exact ⟨c, hc, some_at hP rfl hp⟩
  | 73, _, _, _, hP => by
    obtain ⟨c, hc, hp⟩ := h 81 _ rfl
    exact ⟨c, hc, some_at hP rfl hp⟩
  | 74, _, _, _, hP => by
    obtain ⟨c, hc, hp⟩ := h 82 _ rfl
    exact ⟨c, hc, some_at hP rfl hp⟩
  | 75, _, _, _, hP => by
    obtain ⟨c, hc, hp⟩ := h 83 _ rfl
    exact ⟨c, hc, some_at hP rfl hp⟩
  | 76, _, _, _, hP => by
    obtain ⟨c, hc, hp⟩ := h 84 _ rfl
    exact ⟨c, hc, some_at hP rfl hp⟩
  | 77, _, _, _, hP => by
    obtain ⟨c, hc, hp⟩ := h 85 _ rfl
    exact ⟨c, hc, some_at hP rfl hp⟩
  | 78, _, _, _, hP => by
    obtain ⟨c, hc, hp⟩ := h 86 _ rfl
    exact ⟨c, hc, some_at hP rfl hp⟩
  | 79, _, _, _, hP => by
    obtain ⟨c, hc, hp⟩ := h 71 _ rfl
    exact ⟨c, hc, some_at hP rfl hp⟩
  | 80, _, _, _, hP => by
    obtain ⟨c, hc, hp⟩ := h 72 _ rfl
    exact ⟨c, hc, some_at hP rfl hp⟩
  | 81, _, _, _, hP => by
    obtain ⟨c, hc, hp⟩ := h 73 _ rfl
    exact ⟨c, hc, some_at hP rfl hp⟩
  | 82, _, _, _, hP => by
    obtain ⟨c, hc, hp⟩ := h 74 _ rfl
    exact ⟨c, hc, some_at hP rfl hp⟩
  | 83, _, _, _, hP => by
    obtain ⟨c, hc, hp⟩ := h 75 _ rfl
    exact ⟨c, hc, some_at hP rfl hp⟩
  | 84, _, _, _, hP => by
    obtain ⟨c, hc, hp⟩ := h 76 _ rfl
    exact ⟨c, hc, some_at hP rfl hp⟩
  | 85, _, _, _, hP => by
    obtain ⟨c, hc, hp⟩ := h 77 _ rfl
    exact ⟨c, hc, some_at hP rfl hp⟩
  | 86, _, _, _, hP => by
    obtain ⟨c, hc, hp⟩ := h 78 _ rfl
    exact ⟨c, hc, some_at hP rfl hp⟩
  | 87, _, _, _, hP => by
    obtain ⟨c, hc, hp⟩ := h 87 _ rfl
    exact ⟨c, hc, some_at hP rfl hp⟩
  | 88, _, _, _, hP => by
    obtain ⟨c, hc, hp⟩ := h 88 _ rfl
    exact ⟨c, hc, some_at hP rfl hp⟩
  | 89, _, _, _, hP => by
    obtain ⟨c, hc, hp⟩ := h 89 _ rfl
    exact ⟨c, hc, some_at hP rfl hp⟩
  | 90, _, _, _, hP => by
    obtain ⟨c, hc, hp⟩ := h 90 _ rfl
    exact ⟨c, hc, some_at hP rfl hp⟩
  | 91, _, _, _, hP => by
    obtain ⟨c, hc, hp⟩ := h 91 _ rfl
    exact ⟨c, hc, some_at hP rfl hp⟩
  | 92, _, _, _, hP => by
    obtain ⟨c, hc, hp⟩ := h 92 _ rfl
    exact ⟨c, hc, some_at hP rfl hp⟩
  | 93, _, _, _, hP => by
    obtain ⟨c, hc, hp⟩ := h 93 _ rfl
    exact ⟨c, hc, some_at hP rfl hp⟩
  | 94, _, _, _, hP => by
    obtain ⟨c, hc, hp⟩ := h 94 _ rfl
    exact ⟨c, hc, some_at hP rfl hp⟩
  | 95, _, _, _, hP => by
    obtain ⟨c, hc, hp⟩ := h 95 _ rfl
    exact ⟨c, hc, some_at hP rfl hp⟩
  | 96, _, _, _, hP => by
    obtain ⟨c, hc, hp⟩ := h 96 _ rfl
    exact ⟨c, hc, some_at hP rfl hp⟩
  | 97, _, _, _, hP => by
    obtain ⟨c, hc, hp⟩ := h 97 _ rfl
    exact ⟨c, hc, some_at hP rfl hp⟩
  | 98, _, _, _, hP => by
    obtain ⟨c, hc, hp⟩ := h 98 _ rfl
    exact ⟨c, hc, some_at hP rfl hp⟩
  | 99, _, _, _, hP => by
    obtain ⟨c, hc, hp⟩ := h 99 _ rfl
    exact ⟨c, hc, some_at hP rfl hp⟩
  | 100, _, _, _, hP => by
    obtain ⟨c, hc, hp⟩ := h 100 _ rfl
    exact ⟨c, hc, some_at hP rfl hp⟩
  | 101, _, _, _, hP => by
    obtain ⟨c, hc, hp⟩ := h 101 _ rfl
    exact ⟨c, hc, some_at hP rfl hp⟩
  | 102, _, _, _, hP => by
    obtain ⟨c, hc, hp⟩ := h 102 _ rfl
    exact ⟨c, hc, some_at hP rfl hp⟩
  | 103, _, _, _, hP => by
    obtain ⟨c, hc, hp⟩ := h 103 _ rfl
    exact ⟨c, hc, some_at hP rfl hp⟩
  | 104, _, _, _, hP => by
    obtain ⟨c, hc, hp⟩ := h 104 _ rfl
    exact ⟨c, hc, some_at hP rfl hp⟩
  | 105, _, _, _, hP => by
    obtain ⟨c, hc, hp⟩ := h 105 _ rfl
    exact ⟨c, hc, some_at hP rfl hp⟩
  | 106, _, _, _, hP => by
    obtain ⟨c, hc, hp⟩ := h 106 _ rfl
    exact ⟨c, hc, some_at hP rfl hp⟩
  | 107, _, _, _, hP => by
    obtain ⟨c, hc, hp⟩ := h 107 _ rfl
    exact ⟨c, hc, some_at hP rfl hp⟩
  | 108, _, _, _, hP => by
    obtain ⟨c, hc, hp⟩ := h 108 _ rfl
    exact ⟨c, hc, some_at hP rfl hp⟩
  | 109, _, _, _, hP => by
    obtain ⟨c, hc, hp⟩ := h 109 _ rfl
    exact ⟨c, hc, some_at hP rfl hp⟩
  | 110, _, _, _, hP => by
    obtain ⟨c, hc, hp⟩ := h 110 _ rfl
    exact ⟨c, hc, some_at hP rfl hp⟩
  | 111, _, _, _, hP => by
    obtain ⟨c, hc, hp⟩ := h 111 _ rfl
    exact ⟨c, hc, some_at hP rfl hp⟩
  | 112, _, _, _, hP => by
    obtain ⟨c, hc, hp⟩ := h 112 _ rfl
    exact ⟨c, hc, some_at hP rfl hp⟩
  | n + 113, h, _, _, _ => absurd h (by omega)
theorem swl_at : ∀ k : Nat, k < 113 → swl[k]? = some (sw k) := by decide +kernel
theorem pick_all {w : va_W} {is : List Nat} (h : ∀ i ∈ is, ∃ c, w[i]? = some c) : is.map (fun i => w[i]?) = (is.filterMap (fun i => w[i]?)).map some := by
  induction is with
  | nil => rfl
  | cons i is ih =>
    obtain ⟨c, hc⟩ := h i List.mem_cons_self
    rw [List.map_cons, List.filterMap_cons_some hc, List.map_cons, hc, ih (fun j hj => h j (List.mem_cons_of_mem _ hj))]
theorem pick_at {w : va_W} {is : List Nat} (h : ∀ i ∈ is, ∃ c, w[i]? = some c) {k i : Nat} (hk : is[k]? = some i) : (is.filterMap (fun i => w[i]?))[k]? = w[i]? := by
  have e := congrArg (fun l => l[k]?) (pick_all h)
  simp only [List.getElem?_map, hk, Option.map_some] at e
  obtain ⟨c, hc⟩ := h i (List.mem_of_getElem? hk)
  rw [hc] at e ⊢
  cases hq : (is.filterMap (fun i => w[i]?))[k]? with
  | none => rw [hq] at e; cases e
  | some z => rw [hq] at e; simp at e; rw [e]
theorem okX_len (E : xE) (a : Nat → Nat) : (okX E a).length = 113 := rfl
theorem swl_lt : ∀ i ∈ swl, i < 113 := by decide +kernel
theorem wx_has {E : xE} {a : Nat → Nat} {w0 w : va_W} (h : WX (okX E a) w0) (hw : ∀ k, k ≠ 0 → w[k]? = w0[k]?) {c0 : Nat × va_E} (h0 : w[0]? = some c0) : ∀ i, i < 113 → ∃ c, w[i]? = some c := by
  intro i hi
  by_cases e : i = 0
  · subst e; exact ⟨_, h0⟩
  · obtain ⟨c, hc, -⟩ := h i ((okX E a)[i]'(by rw [okX_len]; exact hi)) (List.getElem?_eq_getElem _)
    exact ⟨c, by rw [hw i e]; exact hc⟩
theorem wx_swap {E : xE} {a : Nat → Nat} {w0 w : va_W} (h : WX (okX E a) w0) (hw : ∀ k, k ≠ 0 → w[k]? = w0[k]?) {v5 : Int32} (h0 : w[0]? = some (ob (a 0) 10 [.ref (a 1), .ref (a 3), .ref (a 5), .ref (a 27), .ref (a 49), .int v5, .ref (a 79), .ref (a 71), .ref (a 87), .ref (a 92), .ref (a 103), .ref (a 105), .ref (a 106), .ref (a 107), .ref (a 108), .ref (a 109), .ref (a 110), .ref (a 111), .ref (a 112)])) : swl.map (fun i => w[i]?) = (swl.filterMap (fun i => w[i]?)).map some ∧ WX (okX E (fun j => a (sw j))) (swl.filterMap (fun i => w[i]?)) := by
  have hs : ∀ i ∈ swl, ∃ c, w[i]? = some c := fun i hi => wx_has h hw h0 i (swl_lt i hi)
  refine ⟨pick_all hs, fun k P hP => ?_⟩
  have hk : k < 113 := by
    have := (List.getElem?_eq_some_iff.mp hP).1
    rw [okX_len] at this
    exact this
  rw [pick_at hs (swl_at k hk)]
  by_cases e : k = 0
  · subst e
    refine ⟨_, h0, ?_⟩
    have e2 : (okX E (fun j => a (sw j)))[0]? = some P := hP
    injection e2 with e2
    subst e2
    exact ⟨v5, rfl⟩
  · obtain ⟨c, hc, hp⟩ := sw_ok h k hk e P hP
    have e3 : sw k ≠ 0 := by rw [sw]; split <;> first | omega | (split <;> omega)
    exact ⟨c, by rw [hw _ e3]; exact hc, hp⟩
theorem dX11_law_0 : decode cX11_law 0 = .ok (.aload_n 0, 1) := by decide +kernel
theorem dX11_law_1 : decode cX11_law 1 = .ok (.getfield 10, 3) := by decide +kernel
theorem dX11_law_4 : decode cX11_law 4 = .ok (.iload_n 1, 1) := by decide +kernel
theorem dX11_law_5 : decode cX11_law 5 = .ok (.iconst 1, 1) := by decide +kernel
theorem dX11_law_6 : decode cX11_law 6 = .ok (.sipush 240, 3) := by decide +kernel
theorem dX11_law_9 : decode cX11_law 9 = .ok (.iconst 1, 1) := by decide +kernel
theorem dX11_law_10 : decode cX11_law 10 = .ok (.invokevirtual 149, 3) := by decide +kernel
theorem dX11_law_13 : decode cX11_law 13 = .ok (.ifCond .ne 5, 3) := by decide +kernel
theorem dX11_law_16 : decode cX11_law 16 = .ok (.iconst (-1), 1) := by decide +kernel
theorem dX11_law_17 : decode cX11_law 17 = .ok (.ireturn, 1) := by decide +kernel
theorem dX11_law_18 : decode cX11_law 18 = .ok (.aload_n 0, 1) := by decide +kernel
theorem dX11_law_19 : decode cX11_law 19 = .ok (.getfield 10, 3) := by decide +kernel
theorem dX11_law_22 : decode cX11_law 22 = .ok (.iload_n 1, 1) := by decide +kernel
theorem dX11_law_23 : decode cX11_law 23 = .ok (.invokevirtual 153, 3) := by decide +kernel
theorem dX11_law_26 : decode cX11_law 26 = .ok (.aload_n 0, 1) := by decide +kernel
theorem dX11_law_27 : decode cX11_law 27 = .ok (.getfield 10, 3) := by decide +kernel
theorem dX11_law_30 : decode cX11_law 30 = .ok (.aload_n 0, 1) := by decide +kernel
theorem dX11_law_31 : decode cX11_law 31 = .ok (.getfield 43, 3) := by decide +kernel
theorem dX11_law_34 : decode cX11_law 34 = .ok (.invokestatic 156, 3) := by decide +kernel
theorem dX11_law_37 : decode cX11_law 37 = .ok (.istore_n 2, 1) := by decide +kernel
theorem dX11_law_38 : decode cX11_law 38 = .ok (.aload_n 0, 1) := by decide +kernel
theorem dX11_law_39 : decode cX11_law 39 = .ok (.getfield 10, 3) := by decide +kernel
theorem dX11_law_42 : decode cX11_law 42 = .ok (.iconst 0, 1) := by decide +kernel
theorem dX11_law_43 : decode cX11_law 43 = .ok (.putfield 142, 3) := by decide +kernel
theorem dX11_law_46 : decode cX11_law 46 = .ok (.iload_n 2, 1) := by decide +kernel
theorem dX11_law_47 : decode cX11_law 47 = .ok (.ifCond .ne 11, 3) := by decide +kernel
theorem dX11_law_50 : decode cX11_law 50 = .ok (.aload_n 0, 1) := by decide +kernel
theorem dX11_law_51 : decode cX11_law 51 = .ok (.getfield 10, 3) := by decide +kernel
theorem dX11_law_54 : decode cX11_law 54 = .ok (.invokevirtual 162, 3) := by decide +kernel
theorem dX11_law_57 : decode cX11_law 57 = .ok (.ireturn, 1) := by decide +kernel
theorem dX11_law_58 : decode cX11_law 58 = .ok (.aload_n 0, 1) := by decide +kernel
theorem dX11_law_59 : decode cX11_law 59 = .ok (.getfield 39, 3) := by decide +kernel
theorem dX11_law_62 : decode cX11_law 62 = .ok (.astore_n 3, 1) := by decide +kernel
theorem dX11_law_63 : decode cX11_law 63 = .ok (.aload_n 0, 1) := by decide +kernel
theorem dX11_law_64 : decode cX11_law 64 = .ok (.aload_n 0, 1) := by decide +kernel
theorem dX11_law_65 : decode cX11_law 65 = .ok (.getfield 43, 3) := by decide +kernel
theorem dX11_law_68 : decode cX11_law 68 = .ok (.putfield 39, 3) := by decide +kernel
theorem dX11_law_71 : decode cX11_law 71 = .ok (.aload_n 0, 1) := by decide +kernel
theorem dX11_law_72 : decode cX11_law 72 = .ok (.aload_n 3, 1) := by decide +kernel
theorem dX11_law_73 : decode cX11_law 73 = .ok (.putfield 43, 3) := by decide +kernel
theorem dX11_law_76 : decode cX11_law 76 = .ok (.aload_n 0, 1) := by decide +kernel
theorem dX11_law_77 : decode cX11_law 77 = .ok (.getfield 39, 3) := by decide +kernel
theorem dX11_law_80 : decode cX11_law 80 = .ok (.getfield 165, 3) := by decide +kernel
theorem dX11_law_83 : decode cX11_law 83 = .ok (.ireturn, 1) := by decide +kernel
set_option maxRecDepth 20000 in
set_option maxHeartbeats 4000000 in
theorem c_law (E : xE) (l : Launch) (a : Nat → Nat) (ws : va_W) (hW : WX (okX E a) ws) (p0 : Int32) : xI E l yX11_law cX11_law 4 (some .int) 46 [.ref (a 0), .int p0] ws (fun r w => ∃ a2 : Nat → Nat, a2 0 = a 0 ∧ WX (okX E a2) w) := by
  refine xI_start (lv := [(0, .ref (a 0)), (1, .int p0)]) RX11 (by decide) rfl (Nat.le_of_ble_eq_true rfl) rfl (fun p e s m below meth c A C hr hlk => ?_)
  refine x_aload_n C dX11_law_0 rfl 0 rfl rfl ?_
  obtain ⟨_, k1, v2, rfl⟩ := hW 0 _ rfl
  refine x_get C (ci := 10) (k := 0) 0 k1 rfl in_X11 (by decide) w_385 rfl dX11_law_1 rfl ?_
  refine x_iload_n C dX11_law_4 rfl 1 rfl rfl ?_
  refine x_iconst C (v := 1) dX11_law_5 (by decide) rfl ?_
  refine x_sipush C (v := 240) dX11_law_6 (by decide) rfl ?_
  refine x_iconst C (v := 1) dX11_law_9 (by decide) rfl ?_
  obtain ⟨_, k3, n4, v6, v7, v8, bn5, rfl⟩ := hW 1 _ rfl
  refine x_vi C (As := [.int p0, .int 1, .int 240, .int 1]) (rest := []) (c_holds E l a ws hW p0 (1 : Int32) (240 : Int32) (1 : Int32)) mf_X8_holds w_507 1 k3 rfl rfl rfl (Nat.le_of_ble_eq_true rfl) ⟨(Nat.le_of_ble_eq_true rfl), (Nat.le_of_ble_eq_true rfl)⟩ ⟨(Nat.le_of_ble_eq_true rfl), (Nat.le_of_ble_eq_true rfl)⟩ dX11_law_10 rfl (fun r10 w11 h9 => ?_)
  obtain ⟨hW12, zb13, x14⟩ := h9
  refine x_ws hW12 ?_
  refine x_if_ne C (tgt := 18) dX11_law_13 (by decide) rfl (fun c15 => ?_) (fun c15 => ?_)
  · skip
    obtain ⟨j16, hl17, hh18, ej19⟩ := w_nat (a := 1) (b := 240) (by decide) (by decide) (x14 c15)
    subst ej19
    refine x_aload_n C dX11_law_18 rfl 0 rfl rfl ?_
    refine x_get C (ci := 10) (k := 0) 0 k1 rfl in_X11 (by decide) w_385 rfl dX11_law_19 rfl ?_
    refine x_iload_n C dX11_law_22 rfl 1 rfl rfl ?_
    refine x_vv C (As := [.int (nI j16)]) (rest := []) (c_startText E l a ws hW ((nI j16))) mf_X8_startText w_511 1 k3 rfl rfl rfl (Nat.le_of_ble_eq_true rfl) ⟨(Nat.le_of_ble_eq_true rfl), (Nat.le_of_ble_eq_true rfl)⟩ ⟨(Nat.le_of_ble_eq_true rfl), (Nat.le_of_ble_eq_true rfl)⟩ dX11_law_23 rfl (fun w22 h20 => ?_)
    obtain ⟨hW23, kq24⟩ := h20
    have k25 : w22[0]? = some (ob (a 0) 10 [.ref (a 1), .ref (a 3), .ref (a 5), .ref (a 27), .ref (a 49), .int v2, .ref (a 71), .ref (a 79), .ref (a 87), .ref (a 92), .ref (a 103), .ref (a 105), .ref (a 106), .ref (a 107), .ref (a 108), .ref (a 109), .ref (a 110), .ref (a 111), .ref (a 112)]) := keeps_at kq24 k1 (by first | decide | omega | (dsimp only; omega))
    refine x_aload_n C dX11_law_26 rfl 0 rfl rfl ?_
    refine x_get C (ci := 10) (k := 0) 0 k25 rfl in_X11 (by decide) w_385 rfl dX11_law_27 rfl ?_
    refine x_aload_n C dX11_law_30 rfl 0 rfl rfl ?_
    refine x_get C (ci := 10) (k := 7) 0 k25 rfl in_X11 (by decide) w_392 rfl dX11_law_31 rfl ?_
    refine x_si C (As := [.ref (a 1), .ref (a 79)]) (rest := []) (c_read E l a w22 hW23) mf_X4_read w_515 rfl rfl (Nat.le_of_ble_eq_true rfl) ⟨(Nat.le_of_ble_eq_true rfl), (Nat.le_of_ble_eq_true rfl)⟩ ⟨(Nat.le_of_ble_eq_true rfl), (Nat.le_of_ble_eq_true rfl)⟩ dX11_law_34 rfl (fun r27 w28 h26 => ?_)
    obtain ⟨hW29, kq30, zb31⟩ := h26
    have k32 : w28[0]? = some (ob (a 0) 10 [.ref (a 1), .ref (a 3), .ref (a 5), .ref (a 27), .ref (a 49), .int v2, .ref (a 71), .ref (a 79), .ref (a 87), .ref (a 92), .ref (a 103), .ref (a 105), .ref (a 106), .ref (a 107), .ref (a 108), .ref (a 109), .ref (a 110), .ref (a 111), .ref (a 112)]) := keeps_at kq30 k25 (by first | decide | omega | (dsimp only; omega))
    refine x_istore_n C (lv' := [(2, .int r27), (0, .ref (a 0)), (1, .int (nI j16))]) dX11_law_37 rfl (by decide) rfl rfl ?_
    refine x_aload_n C dX11_law_38 rfl 1 rfl rfl ?_
    refine x_get C (ci := 10) (k := 0) 0 k32 rfl in_X11 (by decide) w_385 rfl dX11_law_39 rfl ?_
    refine x_iconst C (v := 0) dX11_law_42 (by decide) rfl ?_
    obtain ⟨_, k33, n34, v36, v37, v38, bn35, rfl⟩ := hW29 1 _ rfl
    obtain ⟨w39, hw40⟩ : ∃ w : va_W, w = List.set w28 1 (ob (a 1) 7 [.ref (a 2), .int 0, .int v36, .int v37, .int v38]) := ⟨_, rfl⟩
    refine x_put C (ci := 7) (k := 1) (ty := .int) 1 k33 rfl in_X8 tyX8 tyX8_ok nmX8 (by decide) w_38 rfl rfl rfl rfl (Nat.le_of_ble_eq_true rfl) hw40.symm dX11_law_43 rfl ?_
    have hW41 : WX (okX E a) w39 := by rw [hw40]; exact hW29.set (k := 1) rfl ⟨0, v36, v37, v38, by omega, rfl⟩
    have k42 : w39[0]? = some (ob (a 0) 10 [.ref (a 1), .ref (a 3), .ref (a 5), .ref (a 27), .ref (a 49), .int v2, .ref (a 71), .ref (a 79), .ref (a 87), .ref (a 92), .ref (a 103), .ref (a 105), .ref (a 106), .ref (a 107), .ref (a 108), .ref (a 109), .ref (a 110), .ref (a 111), .ref (a 112)]) := by rw [hw40]; exact set_ne k32 (by decide)
    have k43 : w39[1]? = some (ob (a 1) 7 [.ref (a 2), .int 0, .int v36, .int v37, .int v38]) := by rw [hw40]; exact set_eq k33
    refine x_iload_n C dX11_law_46 rfl 0 rfl rfl ?_
    refine x_if_ne C (tgt := 58) dX11_law_47 (by decide) rfl (fun c44 => ?_) (fun c44 => ?_)
    · skip
      obtain ⟨_, k45, v46, n47, n49, bn48, bn50, rfl⟩ := hW41 79 _ rfl
      refine x_aload_n C dX11_law_58 rfl 1 rfl rfl ?_
      refine x_get C (ci := 10) (k := 6) 0 k42 rfl in_X11 (by decide) w_391 rfl dX11_law_59 rfl ?_
      refine x_astore_n C (lv' := [(3, .ref (a 71)), (2, .int r27), (0, .ref (a 0)), (1, .int (nI j16))]) dX11_law_62 rfl (by decide) rfl rfl ?_
      refine x_aload_n C dX11_law_63 rfl 2 rfl rfl ?_
      refine x_aload_n C dX11_law_64 rfl 2 rfl rfl ?_
      refine x_get C (ci := 10) (k := 7) 0 k42 rfl in_X11 (by decide) w_392 rfl dX11_law_65 rfl ?_
      obtain ⟨w51, hw52⟩ : ∃ w : va_W, w = List.set w39 0 (ob (a 0) 10 [.ref (a 1), .ref (a 3), .ref (a 5), .ref (a 27), .ref (a 49), .int v2, .ref (a 79), .ref (a 79), .ref (a 87), .ref (a 92), .ref (a 103), .ref (a 105), .ref (a 106), .ref (a 107), .ref (a 108), .ref (a 109), .ref (a 110), .ref (a 111), .ref (a 112)]) := ⟨_, rfl⟩
      refine x_put C (ci := 10) (k := 6) (ty := .object "EggTown$Law") 0 k42 rfl in_X11 tyX11 tyX11_ok nmX11 (by decide) w_391 rfl rfl rfl rfl (Nat.le_of_ble_eq_true rfl) hw52.symm dX11_law_68 rfl ?_
      have k54 : w51[0]? = some (ob (a 0) 10 [.ref (a 1), .ref (a 3), .ref (a 5), .ref (a 27), .ref (a 49), .int v2, .ref (a 79), .ref (a 79), .ref (a 87), .ref (a 92), .ref (a 103), .ref (a 105), .ref (a 106), .ref (a 107), .ref (a 108), .ref (a 109), .ref (a 110), .ref (a 111), .ref (a 112)]) := by rw [hw52]; exact set_eq k42
      have k55 : w51[1]? = some (ob (a 1) 7 [.ref (a 2), .int 0, .int v36, .int v37, .int v38]) := by rw [hw52]; exact set_ne k43 (by decide)
      have k56 : w51[79]? = some (ob (a 79) 3 [.int v46, .ref (a 80), .ref (a 81), .ref (a 82), .ref (a 83), .int (nI n47), .ref (a 84), .ref (a 85), .ref (a 86), .int (nI n49)]) := by rw [hw52]; exact set_ne k45 (by decide)
      refine x_aload_n C dX11_law_71 rfl 2 rfl rfl ?_
      refine x_aload_n C dX11_law_72 rfl 0 rfl rfl ?_
      obtain ⟨w57, hw58⟩ : ∃ w : va_W, w = List.set w51 0 (ob (a 0) 10 [.ref (a 1), .ref (a 3), .ref (a 5), .ref (a 27), .ref (a 49), .int v2, .ref (a 79), .ref (a 71), .ref (a 87), .ref (a 92), .ref (a 103), .ref (a 105), .ref (a 106), .ref (a 107), .ref (a 108), .ref (a 109), .ref (a 110), .ref (a 111), .ref (a 112)]) := ⟨_, rfl⟩
      refine x_put C (ci := 10) (k := 7) (ty := .object "EggTown$Law") 0 k54 rfl in_X11 tyX11 tyX11_ok nmX11 (by decide) w_392 rfl rfl rfl rfl (Nat.le_of_ble_eq_true rfl) hw58.symm dX11_law_73 rfl ?_
      have k60 : w57[0]? = some (ob (a 0) 10 [.ref (a 1), .ref (a 3), .ref (a 5), .ref (a 27), .ref (a 49), .int v2, .ref (a 79), .ref (a 71), .ref (a 87), .ref (a 92), .ref (a 103), .ref (a 105), .ref (a 106), .ref (a 107), .ref (a 108), .ref (a 109), .ref (a 110), .ref (a 111), .ref (a 112)]) := by rw [hw58]; exact set_eq k54
      have k61 : w57[1]? = some (ob (a 1) 7 [.ref (a 2), .int 0, .int v36, .int v37, .int v38]) := by rw [hw58]; exact set_ne k55 (by decide)
      have k62 : w57[79]? = some (ob (a 79) 3 [.int v46, .ref (a 80), .ref (a 81), .ref (a 82), .ref (a 83), .int (nI n47), .ref (a 84), .ref (a 85), .ref (a 86), .int (nI n49)]) := by rw [hw58]; exact set_ne k56 (by decide)
      refine x_aload_n C dX11_law_76 rfl 2 rfl rfl ?_
      refine x_get C (ci := 10) (k := 6) 0 k60 rfl in_X11 (by decide) w_391 rfl dX11_law_77 rfl ?_
      refine x_get C (ci := 3) (k := 0) 79 k62 rfl in_X3 (by decide) w_252 rfl dX11_law_80 rfl ?_
      have sx63 := wx_swap (w := w57) hW41 (fun k hk => by rw [hw58, List.getElem?_set_ne (Ne.symm hk), hw52, List.getElem?_set_ne (Ne.symm hk)]) k60
      refine x_sub swl (by decide +kernel) rfl sx63.1 ?_
      exact x_zret C hr hlk rfl dX11_law_83 ⟨fun j => a (sw j), rfl, sx63.2⟩
    · skip
      refine x_aload_n C dX11_law_50 rfl 1 rfl rfl ?_
      refine x_get C (ci := 10) (k := 0) 0 k42 rfl in_X11 (by decide) w_385 rfl dX11_law_51 rfl ?_
      refine x_vi C (As := []) (rest := []) (c_faultAnswer E l a w39 hW41) mf_X8_faultAnswer w_655 1 k43 rfl rfl rfl (Nat.le_of_ble_eq_true rfl) ⟨(Nat.le_of_ble_eq_true rfl), (Nat.le_of_ble_eq_true rfl)⟩ ⟨(Nat.le_of_ble_eq_true rfl), (Nat.le_of_ble_eq_true rfl)⟩ dX11_law_54 rfl (fun r65 w66 h64 => ?_)
      have hW67 := h64
      refine x_ws hW67 ?_
      exact x_zret C hr hlk rfl dX11_law_57 ⟨a, rfl, hW41⟩
  · skip
    refine x_iconst C (v := (-1)) dX11_law_16 (by decide) rfl ?_
    exact x_zret C hr hlk rfl dX11_law_17 ⟨a, rfl, hW⟩

def sw (k : Nat) : Nat := if 71 ≤ k ∧ k < 79 then k + 8 else if 79 ≤ k ∧ k < 87 then k - 8 else k
def swl : List Nat := [0, 1, 2, 3, 4, 5, 6, 7, 8, 9, 10, 11, 12, 13, 14, 15, 16, 17, 18, 19, 20, 21, 22, 23, 24, 25, 26, 27, 28, 29, 30, 31, 32, 33, 34, 35, 36, 37, 38, 39, 40, 41, 42, 43, 44, 45, 46, 47, 48, 49, 50, 51, 52, 53, 54, 55, 56, 57, 58, 59, 60, 61, 62, 63, 64, 65, 66, 67, 68, 69, 70, 79, 80, 81, 82, 83, 84, 85, 86, 71, 72, 73, 74, 75, 76, 77, 78, 87, 88, 89, 90, 91, 92, 93, 94, 95, 96, 97, 98, 99, 100, 101, 102, 103, 104, 105, 106, 107, 108, 109, 110, 111, 112]
theorem some_at {α : Type} {L : List (α → Prop)} {k : Nat} {P Q : α → Prop} {c : α} (hP : L[k]? = some P) (hQ : L[k]? = some Q) (h : Q c) : P c := by
  cases hP.symm.trans hQ
  exact h
theorem sw_ok {E : xE} {a : Nat → Nat} {w0 : va_W} (h : WX (okX E a) w0) : ∀ k : Nat, k < 113 → k ≠ 0 → ∀ P, (okX E (fun j => a (sw j)))[k]? = some P → ∃ c, w0[sw k]? = some c ∧ P c
  | 0, _, h, _, _ => absurd rfl h
  | 1, _, _, _, hP => by
    obtain ⟨c, hc, hp⟩ := h 1 _ rfl
    exact ⟨c, hc, some_at hP rfl hp⟩
  | 2, _, _, _, hP => by
    obtain ⟨c, hc, hp⟩ := h 2 _ rfl
    exact ⟨c, hc, some_at hP rfl hp⟩
  | 3, _, _, _, hP => by
    obtain ⟨c, hc, hp⟩ := h 3 _ rfl
    exact ⟨c, hc, some_at hP rfl hp⟩
  | 4, _, _, _, hP => by
    obtain ⟨c, hc, hp⟩ := h 4 _ rfl
    exact ⟨c, hc, some_at hP rfl hp⟩
  | 5, _, _, _, hP => by
    obtain ⟨c, hc, hp⟩ := h 5 _ rfl
    exact ⟨c, hc, some_at hP rfl hp⟩
  | 6, _, _, _, hP => by
    obtain ⟨c, hc, hp⟩ := h 6 _ rfl
    exact ⟨c, hc, some_at hP rfl hp⟩
  | 7, _, _, _, hP => by
    obtain ⟨c, hc, hp⟩ := h 7 _ rfl
    exact ⟨c, hc, some_at hP rfl hp⟩
  | 8, _, _, _, hP => by
    obtain ⟨c, hc, hp⟩ := h 8 _ rfl
    exact ⟨c, hc, some_at hP rfl hp⟩
  | 9, _, _, _, hP => by
    obtain ⟨c, hc, hp⟩ := h 9 _ rfl
    exact ⟨c, hc, some_at hP rfl hp⟩
  | 10, _, _, _, hP => by
    obtain ⟨c, hc, hp⟩ := h 10 _ rfl
    exact ⟨c, hc, some_at hP rfl hp⟩
  | 11, _, _, _, hP => by
    obtain ⟨c, hc, hp⟩ := h 11 _ rfl
    exact ⟨c, hc, some_at hP rfl hp⟩
  | 12, _, _, _, hP => by
    obtain ⟨c, hc, hp⟩ := h 12 _ rfl
    exact ⟨c, hc, some_at hP rfl hp⟩
  | 13, _, _, _, hP => by
    obtain ⟨c, hc, hp⟩ := h 13 _ rfl
    exact ⟨c, hc, some_at hP rfl hp⟩
  | 14, _, _, _, hP => by
    obtain ⟨c, hc, hp⟩ := h 14 _ rfl
    exact ⟨c, hc, some_at hP rfl hp⟩
  | 15, _, _, _, hP => by
    obtain ⟨c, hc, hp⟩ := h 15 _ rfl
    exact ⟨c, hc, some_at hP rfl hp⟩
  | 16, _, _, _, hP => by
    obtain ⟨c, hc, hp⟩ := h 16 _ rfl
    exact ⟨c, hc, some_at hP rfl hp⟩
  | 17, _, _, _, hP => by
    obtain ⟨c, hc, hp⟩ := h 17 _ rfl
    exact ⟨c, hc, some_at hP rfl hp⟩
  | 18, _, _, _, hP => by
    obtain ⟨c, hc, hp⟩ := h 18 _ rfl
    exact ⟨c, hc, some_at hP rfl hp⟩
  | 19, _, _, _, hP => by
    obtain ⟨c, hc, hp⟩ := h 19 _ rfl
    exact ⟨c, hc, some_at hP rfl hp⟩
  | 20, _, _, _, hP => by
    obtain ⟨c, hc, hp⟩ := h 20 _ rfl
    exact ⟨c, hc, some_at hP rfl hp⟩
  | 21, _, _, _, hP => by
    obtain ⟨c, hc, hp⟩ := h 21 _ rfl
    exact ⟨c, hc, some_at hP rfl hp⟩
  | 22, _, _, _, hP => by
    obtain ⟨c, hc, hp⟩ := h 22 _ rfl
    exact ⟨c, hc, some_at hP rfl hp⟩
  | 23, _, _, _, hP => by
    obtain ⟨c, hc, hp⟩ := h 23 _ rfl
    exact ⟨c, hc, some_at hP rfl hp⟩
  | 24, _, _, _, hP => by
    obtain ⟨c, hc, hp⟩ := h 24 _ rfl
    exact ⟨c, hc, some_at hP rfl hp⟩
  | 25, _, _, _, hP => by
    obtain ⟨c, hc, hp⟩ := h 25 _ rfl
    exact ⟨c, hc, some_at hP rfl hp⟩
  | 26, _, _, _, hP => by
    obtain ⟨c, hc, hp⟩ := h 26 _ rfl
    exact ⟨c, hc, some_at hP rfl hp⟩
  | 27, _, _, _, hP => by
    obtain ⟨c, hc, hp⟩ := h 27 _ rfl
    exact ⟨c, hc, some_at hP rfl hp⟩
  | 28, _, _, _, hP => by
    obtain ⟨c, hc, hp⟩ := h 28 _ rfl
    exact ⟨c, hc, some_at hP rfl hp⟩
  | 29, _, _, _, hP => by
    obtain ⟨c, hc, hp⟩ := h 29 _ rfl
    exact ⟨c, hc, some_at hP rfl hp⟩
  | 30, _, _, _, hP => by
    obtain ⟨c, hc, hp⟩ := h 30 _ rfl
    exact ⟨c, hc, some_at hP rfl hp⟩
  | 31, _, _, _, hP => by
    obtain ⟨c, hc, hp⟩ := h 31 _ rfl
    exact ⟨c, hc, some_at hP rfl hp⟩
  | 32, _, _, _, hP => by
    obtain ⟨c, hc, hp⟩ := h 32 _ rfl
    exact ⟨c, hc, some_at hP rfl hp⟩
  | 33, _, _, _, hP => by
    obtain ⟨c, hc, hp⟩ := h 33 _ rfl
    exact ⟨c, hc, some_at hP rfl hp⟩
  | 34, _, _, _, hP => by
    obtain ⟨c, hc, hp⟩ := h 34 _ rfl
    exact ⟨c, hc, some_at hP rfl hp⟩
  | 35, _, _, _, hP => by
    obtain ⟨c, hc, hp⟩ := h 35 _ rfl
    exact ⟨c, hc, some_at hP rfl hp⟩
  | 36, _, _, _, hP => by
    obtain ⟨c, hc, hp⟩ := h 36 _ rfl
    exact ⟨c, hc, some_at hP rfl hp⟩
  | 37, _, _, _, hP => by
    obtain ⟨c, hc, hp⟩ := h 37 _ rfl
    exact ⟨c, hc, some_at hP rfl hp⟩
  | 38, _, _, _, hP => by
    obtain ⟨c, hc, hp⟩ := h 38 _ rfl
    exact ⟨c, hc, some_at hP rfl hp⟩
  | 39, _, _, _, hP => by
    obtain ⟨c, hc, hp⟩ := h 39 _ rfl
    exact ⟨c, hc, some_at hP rfl hp⟩
  | 40, _, _, _, hP => by
    obtain ⟨c, hc, hp⟩ := h 40 _ rfl
    exact ⟨c, hc, some_at hP rfl hp⟩
  | 41, _, _, _, hP => by
    obtain ⟨c, hc, hp⟩ := h 41 _ rfl
    exact ⟨c, hc, some_at hP rfl hp⟩
  | 42, _, _, _, hP => by
    obtain ⟨c, hc, hp⟩ := h 42 _ rfl
    exact ⟨c, hc, some_at hP rfl hp⟩
  | 43, _, _, _, hP => by
    obtain ⟨c, hc, hp⟩ := h 43 _ rfl
    exact ⟨c, hc, some_at hP rfl hp⟩
  | 44, _, _, _, hP => by
    obtain ⟨c, hc, hp⟩ := h 44 _ rfl
    exact ⟨c, hc, some_at hP rfl hp⟩
  | 45, _, _, _, hP => by
    obtain ⟨c, hc, hp⟩ := h 45 _ rfl
    exact ⟨c, hc, some_at hP rfl hp⟩
  | 46, _, _, _, hP => by
    obtain ⟨c, hc, hp⟩ := h 46 _ rfl
    exact ⟨c, hc, some_at hP rfl hp⟩
  | 47, _, _, _, hP => by
    obtain ⟨c, hc, hp⟩ := h 47 _ rfl
    exact ⟨c, hc, some_at hP rfl hp⟩
  | 48, _, _, _, hP => by
    obtain ⟨c, hc, hp⟩ := h 48 _ rfl
    exact ⟨c, hc, some_at hP rfl hp⟩
  | 49, _, _, _, hP => by
    obtain ⟨c, hc, hp⟩ := h 49 _ rfl
    exact ⟨c, hc, some_at hP rfl hp⟩
  | 50, _, _, _, hP => by
    obtain ⟨c, hc, hp⟩ := h 50 _ rfl
    exact ⟨c, hc, some_at hP rfl hp⟩
  | 51, _, _, _, hP => by
    obtain ⟨c, hc, hp⟩ := h 51 _ rfl
    exact ⟨c, hc, some_at hP rfl hp⟩
  | 52, _, _, _, hP => by
    obtain ⟨c, hc, hp⟩ := h 52 _ rfl
    exact ⟨c, hc, some_at hP rfl hp⟩
  | 53, _, _, _, hP => by
    obtain ⟨c, hc, hp⟩ := h 53 _ rfl
    exact ⟨c, hc, some_at hP rfl hp⟩
  | 54, _, _, _, hP => by
    obtain ⟨c, hc, hp⟩ := h 54 _ rfl
    exact ⟨c, hc, some_at hP rfl hp⟩
  | 55, _, _, _, hP => by
    obtain ⟨c, hc, hp⟩ := h 55 _ rfl
    exact ⟨c, hc, some_at hP rfl hp⟩
  | 56, _, _, _, hP => by
    obtain ⟨c, hc, hp⟩ := h 56 _ rfl
    exact ⟨c, hc, some_at hP rfl hp⟩
  | 57, _, _, _, hP => by
    obtain ⟨c, hc, hp⟩ := h 57 _ rfl
    exact ⟨c, hc, some_at hP rfl hp⟩
  | 58, _, _, _, hP => by
    obtain ⟨c, hc, hp⟩ := h 58 _ rfl
    exact ⟨c, hc, some_at hP rfl hp⟩
  | 59, _, _, _, hP => by
    obtain ⟨c, hc, hp⟩ := h 59 _ rfl
    exact ⟨c, hc, some_at hP rfl hp⟩
  | 60, _, _, _, hP => by
    obtain ⟨c, hc, hp⟩ := h 60 _ rfl
    exact ⟨c, hc, some_at hP rfl hp⟩
  | 61, _, _, _, hP => by
    obtain ⟨c, hc, hp⟩ := h 61 _ rfl
    exact ⟨c, hc, some_at hP rfl hp⟩
  | 62, _, _, _, hP => by
    obtain ⟨c, hc, hp⟩ := h 62 _ rfl
    exact ⟨c, hc, some_at hP rfl hp⟩
  | 63, _, _, _, hP => by
    obtain ⟨c, hc, hp⟩ := h 63 _ rfl
    exact ⟨c, hc, some_at hP rfl hp⟩
  | 64, _, _, _, hP => by
    obtain ⟨c, hc, hp⟩ := h 64 _ rfl
    exact ⟨c, hc, some_at hP rfl hp⟩
  | 65, _, _, _, hP => by
    obtain ⟨c, hc, hp⟩ := h 65 _ rfl
    exact ⟨c, hc, some_at hP rfl hp⟩
  | 66, _, _, _, hP => by
    obtain ⟨c, hc, hp⟩ := h 66 _ rfl
    exact ⟨c, hc, some_at hP rfl hp⟩
  | 67, _, _, _, hP => by
    obtain ⟨c, hc, hp⟩ := h 67 _ rfl
    exact ⟨c, hc, some_at hP rfl hp⟩
  | 68, _, _, _, hP => by
    obtain ⟨c, hc, hp⟩ := h 68 _ rfl
    exact ⟨c, hc, some_at hP rfl hp⟩
  | 69, _, _, _, hP => by
    obtain ⟨c, hc, hp⟩ := h 69 _ rfl
    exact ⟨c, hc, some_at hP rfl hp⟩
  | 70, _, _, _, hP => by
    obtain ⟨c, hc, hp⟩ := h 70 _ rfl
    exact ⟨c, hc, some_at hP rfl hp⟩
  | 71, _, _, _, hP => by
    obtain ⟨c, hc, hp⟩ := h 79 _ rfl
    exact ⟨c, hc, some_at hP rfl hp⟩
  | 72, _, _, _, hP => by
    obtain ⟨c, hc, hp⟩ := h 80 _ rfl
    exact ⟨c, hc, some_at hP rfl hp⟩
  | 73, _, _, _, hP => by
    obtain ⟨c, hc, hp⟩ := h 81 _ rfl
    exact ⟨c, hc, some_at hP rfl hp⟩
  | 74, _, _, _, hP => by
    obtain ⟨c, hc, hp⟩ := h 82 _ rfl
    exact ⟨c, hc, some_at hP rfl hp⟩
  | 75, _, _, _, hP => by
    obtain ⟨c, hc, hp⟩ := h 83 _ rfl
    exact ⟨c, hc, some_at hP rfl hp⟩
  | 76, _, _, _, hP => by
    obtain ⟨c, hc, hp⟩ := h 84 _ rfl
    exact ⟨c, hc, some_at hP rfl hp⟩
  | 77, _, _, _, hP => by
    obtain ⟨c, hc, hp⟩ := h 85 _ rfl
    exact ⟨c, hc, some_at hP rfl hp⟩
  | 78, _, _, _, hP => by
    obtain ⟨c, hc, hp⟩ := h 86 _ rfl
    exact ⟨c, hc, some_at hP rfl hp⟩
  | 79, _, _, _, hP => by
    obtain ⟨c, hc, hp⟩ := h 71 _ rfl
    exact ⟨c, hc, some_at hP rfl hp⟩
  | 80, _, _, _, hP => by
    obtain ⟨c, hc, hp⟩ := h 72 _ rfl
    exact ⟨c, hc, some_at hP rfl hp⟩
  | 81, _, _, _, hP => by
    obtain ⟨c, hc, hp⟩ := h 73 _ rfl
    exact ⟨c, hc, some_at hP rfl hp⟩
  | 82, _, _, _, hP => by
    obtain ⟨c, hc, hp⟩ := h 74 _ rfl
    exact ⟨c, hc, some_at hP rfl hp⟩
  | 83, _, _, _, hP => by
    obtain ⟨c, hc, hp⟩ := h 75 _ rfl
    exact ⟨c, hc, some_at hP rfl hp⟩
  | 84, _, _, _, hP => by
    obtain ⟨c, hc, hp⟩ := h 76 _ rfl
    exact ⟨c, hc, some_at hP rfl hp⟩
  | 85, _, _, _, hP => by
    obtain ⟨c, hc, hp⟩ := h 77 _ rfl
    exact ⟨c, hc, some_at hP rfl hp⟩
  | 86, _, _, _, hP => by
    obtain ⟨c, hc, hp⟩ := h 78 _ rfl
    exact ⟨c, hc, some_at hP rfl hp⟩
  | 87, _, _, _, hP => by
    obtain ⟨c, hc, hp⟩ := h 87 _ rfl
    exact ⟨c, hc, some_at hP rfl hp⟩
  | 88, _, _, _, hP => by
    obtain ⟨c, hc, hp⟩ := h 88 _ rfl
    exact ⟨c, hc, some_at hP rfl hp⟩
  | 89, _, _, _, hP => by
    obtain ⟨c, hc, hp⟩ := h 89 _ rfl
    exact ⟨c, hc, some_at hP rfl hp⟩
  | 90, _, _, _, hP => by
    obtain ⟨c, hc, hp⟩ := h 90 _ rfl
    exact ⟨c, hc, some_at hP rfl hp⟩
  | 91, _, _, _, hP => by
    obtain ⟨c, hc, hp⟩ := h 91 _ rfl
    exact ⟨c, hc, some_at hP rfl hp⟩
  | 92, _, _, _, hP => by
    obtain ⟨c, hc, hp⟩ := h 92 _ rfl
    exact ⟨c, hc, some_at hP rfl hp⟩
  | 93, _, _, _, hP => by
    obtain ⟨c, hc, hp⟩ := h 93 _ rfl
    exact ⟨c, hc, some_at hP rfl hp⟩
  | 94, _, _, _, hP => by
    obtain ⟨c, hc, hp⟩ := h 94 _ rfl
    exact ⟨c, hc, some_at hP rfl hp⟩
  | 95, _, _, _, hP => by
    obtain ⟨c, hc, hp⟩ := h 95 _ rfl
    exact ⟨c, hc, some_at hP rfl hp⟩
  | 96, _, _, _, hP => by
    obtain ⟨c, hc, hp⟩ := h 96 _ rfl
    exact ⟨c, hc, some_at hP rfl hp⟩
  | 97, _, _, _, hP => by
    obtain ⟨c, hc, hp⟩ := h 97 _ rfl
    exact ⟨c, hc, some_at hP rfl hp⟩
  | 98, _, _, _, hP => by
    obtain ⟨c, hc, hp⟩ := h 98 _ rfl
    exact ⟨c, hc, some_at hP rfl hp⟩
  | 99, _, _, _, hP => by
    obtain ⟨c, hc, hp⟩ := h 99 _ rfl
    exact ⟨c, hc, some_at hP rfl hp⟩
  | 100, _, _, _, hP => by
    obtain ⟨c, hc, hp⟩ := h 100 _ rfl
    exact ⟨c, hc, some_at hP rfl hp⟩
  | 101, _, _, _, hP => by
    obtain ⟨c, hc, hp⟩ := h 101 _ rfl
    exact ⟨c, hc, some_at hP rfl hp⟩
  | 102, _, _, _, hP => by
    obtain ⟨c, hc, hp⟩ := h 102 _ rfl
    exact ⟨c, hc, some_at hP rfl hp⟩
  | 103, _, _, _, hP => by
    obtain ⟨c, hc, hp⟩ := h 103 _ rfl
    exact ⟨c, hc, some_at hP rfl hp⟩
  | 104, _, _, _, hP => by
    obtain ⟨c, hc, hp⟩ := h 104 _ rfl
    exact ⟨c, hc, some_at hP rfl hp⟩
  | 105, _, _, _, hP => by
    obtain ⟨c, hc, hp⟩ := h 105 _ rfl
    exact ⟨c, hc, some_at hP rfl hp⟩
  | 106, _, _, _, hP => by
    obtain ⟨c, hc, hp⟩ := h 106 _ rfl
    exact ⟨c, hc, some_at hP rfl hp⟩
  | 107, _, _, _, hP => by
    obtain ⟨c, hc, hp⟩ := h 107 _ rfl
    exact ⟨c, hc, some_at hP rfl hp⟩
  | 108, _, _, _, hP => by
    obtain ⟨c, hc, hp⟩ := h 108 _ rfl
    exact ⟨c, hc, some_at hP rfl hp⟩
  | 109, _, _, _, hP => by
    obtain ⟨c, hc, hp⟩ := h 109 _ rfl
    exact ⟨c, hc, some_at hP rfl hp⟩
  | 110, _, _, _, hP => by
    obtain ⟨c, hc, hp⟩ := h 110 _ rfl
    exact ⟨c, hc, some_at hP rfl hp⟩
  | 111, _, _, _, hP => by
    obtain ⟨c, hc, hp⟩ := h 111 _ rfl
    exact ⟨c, hc, some_at hP rfl hp⟩
  | 112, _, _, _, hP => by
    obtain ⟨c, hc, hp⟩ := h 112 _ rfl
    exact ⟨c, hc, some_at hP rfl hp⟩
  | n + 113, h, _, _, _ => absurd h (by omega)
theorem swl_at : ∀ k : Nat, k < 113 → swl[k]? = some (sw k) := by decide +kernel
theorem pick_all {w : va_W} {is : List Nat} (h : ∀ i ∈ is, ∃ c, w[i]? = some c) : is.map (fun i => w[i]?) = (is.filterMap (fun i => w[i]?)).map some := by
  induction is with
  | nil => rfl
  | cons i is ih =>
    obtain ⟨c, hc⟩ := h i List.mem_cons_self
    rw [List.map_cons, List.filterMap_cons_some hc, List.map_cons, hc, ih (fun j hj => h j (List.mem_cons_of_mem _ hj))]
theorem pick_at {w : va_W} {is : List Nat} (h : ∀ i ∈ is, ∃ c, w[i]? = some c) {k i : Nat} (hk : is[k]? = some i) : (is.filterMap (fun i => w[i]?))[k]? = w[i]? := by
  have e := congrArg (fun l => l[k]?) (pick_all h)
  simp only [List.getElem?_map, hk, Option.map_some] at e
  obtain ⟨c, hc⟩ := h i (List.mem_of_getElem? hk)
  rw [hc] at e ⊢
  cases hq : (is.filterMap (fun i => w[i]?))[k]? with
  | none => rw [hq] at e; cases e
  | some z => rw [hq] at e; simp at e; rw [e]
theorem okX_len (E : xE) (a : Nat → Nat) : (okX E a).length = 113 := rfl
theorem swl_lt : ∀ i ∈ swl, i < 113 := by decide +kernel
theorem wx_has {E : xE} {a : Nat → Nat} {w0 w : va_W} (h : WX (okX E a) w0) (hw : ∀ k, k ≠ 0 → w[k]? = w0[k]?) {c0 : Nat × va_E} (h0 : w[0]? = some c0) : ∀ i, i < 113 → ∃ c, w[i]? = some c := by
  intro i hi
  by_cases e : i = 0
  · subst e; exact ⟨_, h0⟩
  · obtain ⟨c, hc, -⟩ := h i ((okX E a)[i]'(by rw [okX_len]; exact hi)) (List.getElem?_eq_getElem _)
    exact ⟨c, by rw [hw i e]; exact hc⟩
theorem wx_swap {E : xE} {a : Nat → Nat} {w0 w : va_W} (h : WX (okX E a) w0) (hw : ∀ k, k ≠ 0 → w[k]? = w0[k]?) {v5 : Int32} (h0 : w[0]? = some (ob (a 0) 10 [.ref (a 1), .ref (a 3), .ref (a 5), .ref (a 27), .ref (a 49), .int v5, .ref (a 79), .ref (a 71), .ref (a 87), .ref (a 92), .ref (a 103), .ref (a 105), .ref (a 106), .ref (a 107), .ref (a 108), .ref (a 109), .ref (a 110), .ref (a 111), .ref (a 112)])) : swl.map (fun i => w[i]?) = (swl.filterMap (fun i => w[i]?)).map some ∧ WX (okX E (fun j => a (sw j))) (swl.filterMap (fun i => w[i]?)) := by
  have hs : ∀ i ∈ swl, ∃ c, w[i]? = some c := fun i hi => wx_has h hw h0 i (swl_lt i hi)
  refine ⟨pick_all hs, fun k P hP => ?_⟩
  have hk : k < 113 := by
    have := (List.getElem?_eq_some_iff.mp hP).1
    rw [okX_len] at this
    exact this
  rw [pick_at hs (swl_at k hk)]
  by_cases e : k = 0
  · subst e
    refine ⟨_, h0, ?_⟩
    have e2 : (okX E (fun j => a (sw j)))[0]? = some P := hP
    injection e2 with e2
    subst e2
    exact ⟨v5, rfl⟩
  · obtain ⟨c, hc, hp⟩ := sw_ok h k hk e P hP
    have e3 : sw k ≠ 0 := by rw [sw]; split <;> first | omega | (split <;> omega)
    exact ⟨c, by rw [hw _ e3]; exact hc, hp⟩
theorem JX_sw {E : xE} {a : Nat → Nat} {w0 w : va_W} (h : WX (okX E a) w0) (hw : ∀ k, k ≠ 0 → w[k]? = w0[k]?) {v5 P H Pk Hk : Int32} (h0 : w[0]? = some (ob (a 0) 10 [.ref (a 1), .ref (a 3), .ref (a 5), .ref (a 27), .ref (a 49), .int v5, .ref (a 79), .ref (a 71), .ref (a 87), .ref (a 92), .ref (a 103), .ref (a 105), .ref (a 106), .ref (a 107), .ref (a 108), .ref (a 109), .ref (a 110), .ref (a 111), .ref (a 112)])) (h6 : w[6]? = some (ob (a 6) 2 [.int H, .ref (a 7), .ref (a 8)])) (h9 : w[9]? = some (ob (a 9) 4 [.int P, .ref (a 10), .ref (a 11), .ref (a 12), .ref (a 13)])) (h28 : w[28]? = some (ob (a 28) 2 [.int Hk, .ref (a 29), .ref (a 30)])) (h31 : w[31]? = some (ob (a 31) 4 [.int Pk, .ref (a 32), .ref (a 33), .ref (a 34), .ref (a 35)])) : JX (fun j => a (sw j)) (swl.filterMap (fun i => w[i]?)) v5 P H Pk Hk := by
  have hs : ∀ i ∈ swl, ∃ c, w[i]? = some c := fun i hi => wx_has h hw h0 i (swl_lt i hi)
  exact ⟨(pick_at hs (swl_at 0 (by decide))).trans h0, (pick_at hs (swl_at 6 (by decide))).trans h6, (pick_at hs (swl_at 9 (by decide))).trans h9, (pick_at hs (swl_at 28 (by decide))).trans h28, (pick_at hs (swl_at 31 (by decide))).trans h31⟩
theorem dX11_law_0 : decode cX11_law 0 = .ok (.aload_n 0, 1) := by decide +kernel
theorem dX11_law_1 : decode cX11_law 1 = .ok (.getfield 10, 3) := by decide +kernel
theorem dX11_law_4 : decode cX11_law 4 = .ok (.iload_n 1, 1) := by decide +kernel
theorem dX11_law_5 : decode cX11_law 5 = .ok (.iconst 1, 1) := by decide +kernel
theorem dX11_law_6 : decode cX11_law 6 = .ok (.sipush 240, 3) := by decide +kernel
theorem dX11_law_9 : decode cX11_law 9 = .ok (.iconst 1, 1) := by decide +kernel
theorem dX11_law_10 : decode cX11_law 10 = .ok (.invokevirtual 149, 3) := by decide +kernel
theorem dX11_law_13 : decode cX11_law 13 = .ok (.ifCond .ne 5, 3) := by decide +kernel
theorem dX11_law_16 : decode cX11_law 16 = .ok (.iconst (-1), 1) := by decide +kernel
theorem dX11_law_17 : decode cX11_law 17 = .ok (.ireturn, 1) := by decide +kernel
theorem dX11_law_18 : decode cX11_law 18 = .ok (.aload_n 0, 1) := by decide +kernel
theorem dX11_law_19 : decode cX11_law 19 = .ok (.getfield 10, 3) := by decide +kernel
theorem dX11_law_22 : decode cX11_law 22 = .ok (.iload_n 1, 1) := by decide +kernel
theorem dX11_law_23 : decode cX11_law 23 = .ok (.invokevirtual 153, 3) := by decide +kernel
theorem dX11_law_26 : decode cX11_law 26 = .ok (.aload_n 0, 1) := by decide +kernel
theorem dX11_law_27 : decode cX11_law 27 = .ok (.getfield 10, 3) := by decide +kernel
theorem dX11_law_30 : decode cX11_law 30 = .ok (.aload_n 0, 1) := by decide +kernel
theorem dX11_law_31 : decode cX11_law 31 = .ok (.getfield 43, 3) := by decide +kernel
theorem dX11_law_34 : decode cX11_law 34 = .ok (.invokestatic 156, 3) := by decide +kernel
theorem dX11_law_37 : decode cX11_law 37 = .ok (.istore_n 2, 1) := by decide +kernel
theorem dX11_law_38 : decode cX11_law 38 = .ok (.aload_n 0, 1) := by decide +kernel
theorem dX11_law_39 : decode cX11_law 39 = .ok (.getfield 10, 3) := by decide +kernel
theorem dX11_law_42 : decode cX11_law 42 = .ok (.iconst 0, 1) := by decide +kernel
theorem dX11_law_43 : decode cX11_law 43 = .ok (.putfield 142, 3) := by decide +kernel
theorem dX11_law_46 : decode cX11_law 46 = .ok (.iload_n 2, 1) := by decide +kernel
theorem dX11_law_47 : decode cX11_law 47 = .ok (.ifCond .ne 11, 3) := by decide +kernel
theorem dX11_law_50 : decode cX11_law 50 = .ok (.aload_n 0, 1) := by decide +kernel
theorem dX11_law_51 : decode cX11_law 51 = .ok (.getfield 10, 3) := by decide +kernel
theorem dX11_law_54 : decode cX11_law 54 = .ok (.invokevirtual 162, 3) := by decide +kernel
theorem dX11_law_57 : decode cX11_law 57 = .ok (.ireturn, 1) := by decide +kernel
theorem dX11_law_58 : decode cX11_law 58 = .ok (.aload_n 0, 1) := by decide +kernel
theorem dX11_law_59 : decode cX11_law 59 = .ok (.getfield 39, 3) := by decide +kernel
theorem dX11_law_62 : decode cX11_law 62 = .ok (.astore_n 3, 1) := by decide +kernel
theorem dX11_law_63 : decode cX11_law 63 = .ok (.aload_n 0, 1) := by decide +kernel
theorem dX11_law_64 : decode cX11_law 64 = .ok (.aload_n 0, 1) := by decide +kernel
theorem dX11_law_65 : decode cX11_law 65 = .ok (.getfield 43, 3) := by decide +kernel
theorem dX11_law_68 : decode cX11_law 68 = .ok (.putfield 39, 3) := by decide +kernel
theorem dX11_law_71 : decode cX11_law 71 = .ok (.aload_n 0, 1) := by decide +kernel
theorem dX11_law_72 : decode cX11_law 72 = .ok (.aload_n 3, 1) := by decide +kernel
theorem dX11_law_73 : decode cX11_law 73 = .ok (.putfield 43, 3) := by decide +kernel
theorem dX11_law_76 : decode cX11_law 76 = .ok (.aload_n 0, 1) := by decide +kernel
theorem dX11_law_77 : decode cX11_law 77 = .ok (.getfield 39, 3) := by decide +kernel
theorem dX11_law_80 : decode cX11_law 80 = .ok (.getfield 165, 3) := by decide +kernel
theorem dX11_law_83 : decode cX11_law 83 = .ok (.ireturn, 1) := by decide +kernel
set_option maxRecDepth 20000 in
set_option maxHeartbeats 4000000 in
theorem c_law (E : xE) (l : Launch) (a : Nat → Nat) (ws : va_W) (hW : WX (okX E a) ws) (p0 : Int32) (k P H Pk Hk : Int32) (hJ : JX a ws k P H Pk Hk) : xI E l yX11_law cX11_law 4 (some .int) 46 [.ref (a 0), .int p0] ws (fun r w => ∃ a2 : Nat → Nat, a2 0 = a 0 ∧ WX (okX E a2) w ∧ JX a2 w k P H Pk Hk) := by
  refine xI_start (lv := [(0, .ref (a 0)), (1, .int p0)]) RX11 (by decide) rfl (Nat.le_of_ble_eq_true rfl) rfl (fun p e s m below meth c A C hr hlk => ?_)
  refine x_aload_n C dX11_law_0 rfl 0 rfl rfl ?_
  refine x_get C (ci := 10) (k := 0) 0 hJ.1 rfl in_X11 (by decide) w_385 rfl dX11_law_1 rfl ?_
  refine x_iload_n C dX11_law_4 rfl 1 rfl rfl ?_
  refine x_iconst C (v := 1) dX11_law_5 (by decide) rfl ?_
  refine x_sipush C (v := 240) dX11_law_6 (by decide) rfl ?_
  refine x_iconst C (v := 1) dX11_law_9 (by decide) rfl ?_
  obtain ⟨_, k1, n2, v4, v5, v6, bn3, rfl⟩ := hW 1 _ rfl
  refine x_vi C (As := [.int p0, .int 1, .int 240, .int 1]) (rest := []) (c_holds E l a ws hW p0 (1 : Int32) (240 : Int32) (1 : Int32)) mf_X8_holds w_507 1 k1 rfl rfl rfl (Nat.le_of_ble_eq_true rfl) ⟨(Nat.le_of_ble_eq_true rfl), (Nat.le_of_ble_eq_true rfl)⟩ ⟨(Nat.le_of_ble_eq_true rfl), (Nat.le_of_ble_eq_true rfl)⟩ dX11_law_10 rfl (fun r8 w9 h7 => ?_)
  obtain ⟨hW10, zb11, x12⟩ := h7
  refine x_ws hW10 ?_
  refine x_if_ne C (tgt := 18) dX11_law_13 (by decide) rfl (fun c13 => ?_) (fun c13 => ?_)
  · skip
    obtain ⟨j14, hl15, hh16, ej17⟩ := w_nat (a := 1) (b := 240) (by decide) (by decide) (x12 c13)
    subst ej17
    refine x_aload_n C dX11_law_18 rfl 0 rfl rfl ?_
    refine x_get C (ci := 10) (k := 0) 0 hJ.1 rfl in_X11 (by decide) w_385 rfl dX11_law_19 rfl ?_
    refine x_iload_n C dX11_law_22 rfl 1 rfl rfl ?_
    refine x_vv C (As := [.int (nI j14)]) (rest := []) (c_startText E l a ws hW ((nI j14))) mf_X8_startText w_511 1 k1 rfl rfl rfl (Nat.le_of_ble_eq_true rfl) ⟨(Nat.le_of_ble_eq_true rfl), (Nat.le_of_ble_eq_true rfl)⟩ ⟨(Nat.le_of_ble_eq_true rfl), (Nat.le_of_ble_eq_true rfl)⟩ dX11_law_23 rfl (fun w20 h18 => ?_)
    obtain ⟨hW21, kq22⟩ := h18
    have k23 : w20[0]? = some (ob (a 0) 10 [.ref (a 1), .ref (a 3), .ref (a 5), .ref (a 27), .ref (a 49), .int k, .ref (a 71), .ref (a 79), .ref (a 87), .ref (a 92), .ref (a 103), .ref (a 105), .ref (a 106), .ref (a 107), .ref (a 108), .ref (a 109), .ref (a 110), .ref (a 111), .ref (a 112)]) := keeps_at kq22 hJ.1 (by first | decide | omega | (dsimp only; omega))
    have k24 : w20[6]? = some (ob (a 6) 2 [.int H, .ref (a 7), .ref (a 8)]) := keeps_at kq22 hJ.2.1 (by first | decide | omega | (dsimp only; omega))
    have k25 : w20[9]? = some (ob (a 9) 4 [.int P, .ref (a 10), .ref (a 11), .ref (a 12), .ref (a 13)]) := keeps_at kq22 hJ.2.2.1 (by first | decide | omega | (dsimp only; omega))
    have k26 : w20[28]? = some (ob (a 28) 2 [.int Hk, .ref (a 29), .ref (a 30)]) := keeps_at kq22 hJ.2.2.2.1 (by first | decide | omega | (dsimp only; omega))
    have k27 : w20[31]? = some (ob (a 31) 4 [.int Pk, .ref (a 32), .ref (a 33), .ref (a 34), .ref (a 35)]) := keeps_at kq22 hJ.2.2.2.2 (by first | decide | omega | (dsimp only; omega))
    refine x_aload_n C dX11_law_26 rfl 0 rfl rfl ?_
    refine x_get C (ci := 10) (k := 0) 0 k23 rfl in_X11 (by decide) w_385 rfl dX11_law_27 rfl ?_
    refine x_aload_n C dX11_law_30 rfl 0 rfl rfl ?_
    refine x_get C (ci := 10) (k := 7) 0 k23 rfl in_X11 (by decide) w_392 rfl dX11_law_31 rfl ?_
    refine x_si C (As := [.ref (a 1), .ref (a 79)]) (rest := []) (c_read E l a w20 hW21) mf_X4_read w_515 rfl rfl (Nat.le_of_ble_eq_true rfl) ⟨(Nat.le_of_ble_eq_true rfl), (Nat.le_of_ble_eq_true rfl)⟩ ⟨(Nat.le_of_ble_eq_true rfl), (Nat.le_of_ble_eq_true rfl)⟩ dX11_law_34 rfl (fun r29 w30 h28 => ?_)
    obtain ⟨hW31, kq32, zb33⟩ := h28
    have k34 : w30[0]? = some (ob (a 0) 10 [.ref (a 1), .ref (a 3), .ref (a 5), .ref (a 27), .ref (a 49), .int k, .ref (a 71), .ref (a 79), .ref (a 87), .ref (a 92), .ref (a 103), .ref (a 105), .ref (a 106), .ref (a 107), .ref (a 108), .ref (a 109), .ref (a 110), .ref (a 111), .ref (a 112)]) := keeps_at kq32 k23 (by first | decide | omega | (dsimp only; omega))
    have k35 : w30[6]? = some (ob (a 6) 2 [.int H, .ref (a 7), .ref (a 8)]) := keeps_at kq32 k24 (by first | decide | omega | (dsimp only; omega))
    have k36 : w30[9]? = some (ob (a 9) 4 [.int P, .ref (a 10), .ref (a 11), .ref (a 12), .ref (a 13)]) := keeps_at kq32 k25 (by first | decide | omega | (dsimp only; omega))
    have k37 : w30[28]? = some (ob (a 28) 2 [.int Hk, .ref (a 29), .ref (a 30)]) := keeps_at kq32 k26 (by first | decide | omega | (dsimp only; omega))
    have k38 : w30[31]? = some (ob (a 31) 4 [.int Pk, .ref (a 32), .ref (a 33), .ref (a 34), .ref (a 35)]) := keeps_at kq32 k27 (by first | decide | omega | (dsimp only; omega))
    refine x_istore_n C (lv' := [(2, .int r29), (0, .ref (a 0)), (1, .int (nI j14))]) dX11_law_37 rfl (by decide) rfl rfl ?_
    refine x_aload_n C dX11_law_38 rfl 1 rfl rfl ?_
    refine x_get C (ci := 10) (k := 0) 0 k34 rfl in_X11 (by decide) w_385 rfl dX11_law_39 rfl ?_
    refine x_iconst C (v := 0) dX11_law_42 (by decide) rfl ?_
    obtain ⟨_, k39, n40, v42, v43, v44, bn41, rfl⟩ := hW31 1 _ rfl
    obtain ⟨w45, hw46⟩ : ∃ w : va_W, w = List.set w30 1 (ob (a 1) 7 [.ref (a 2), .int 0, .int v42, .int v43, .int v44]) := ⟨_, rfl⟩
    refine x_put C (ci := 7) (k := 1) (ty := .int) 1 k39 rfl in_X8 tyX8 tyX8_ok nmX8 (by decide) w_38 rfl rfl rfl rfl (Nat.le_of_ble_eq_true rfl) hw46.symm dX11_law_43 rfl ?_
    have hW47 : WX (okX E a) w45 := by rw [hw46]; exact hW31.set (k := 1) rfl ⟨0, v42, v43, v44, by omega, rfl⟩
    have k48 : w45[0]? = some (ob (a 0) 10 [.ref (a 1), .ref (a 3), .ref (a 5), .ref (a 27), .ref (a 49), .int k, .ref (a 71), .ref (a 79), .ref (a 87), .ref (a 92), .ref (a 103), .ref (a 105), .ref (a 106), .ref (a 107), .ref (a 108), .ref (a 109), .ref (a 110), .ref (a 111), .ref (a 112)]) := by rw [hw46]; exact set_ne k34 (by decide)
    have k49 : w45[6]? = some (ob (a 6) 2 [.int H, .ref (a 7), .ref (a 8)]) := by rw [hw46]; exact set_ne k35 (by decide)
    have k50 : w45[9]? = some (ob (a 9) 4 [.int P, .ref (a 10), .ref (a 11), .ref (a 12), .ref (a 13)]) := by rw [hw46]; exact set_ne k36 (by decide)
    have k51 : w45[28]? = some (ob (a 28) 2 [.int Hk, .ref (a 29), .ref (a 30)]) := by rw [hw46]; exact set_ne k37 (by decide)
    have k52 : w45[31]? = some (ob (a 31) 4 [.int Pk, .ref (a 32), .ref (a 33), .ref (a 34), .ref (a 35)]) := by rw [hw46]; exact set_ne k38 (by decide)
    have k53 : w45[1]? = some (ob (a 1) 7 [.ref (a 2), .int 0, .int v42, .int v43, .int v44]) := by rw [hw46]; exact set_eq k39
    refine x_iload_n C dX11_law_46 rfl 0 rfl rfl ?_
    refine x_if_ne C (tgt := 58) dX11_law_47 (by decide) rfl (fun c54 => ?_) (fun c54 => ?_)
    · skip
      obtain ⟨_, k55, v56, n57, n59, bn58, bn60, rfl⟩ := hW47 79 _ rfl
      refine x_aload_n C dX11_law_58 rfl 1 rfl rfl ?_
      refine x_get C (ci := 10) (k := 6) 0 k48 rfl in_X11 (by decide) w_391 rfl dX11_law_59 rfl ?_
      refine x_astore_n C (lv' := [(3, .ref (a 71)), (2, .int r29), (0, .ref (a 0)), (1, .int (nI j14))]) dX11_law_62 rfl (by decide) rfl rfl ?_
      refine x_aload_n C dX11_law_63 rfl 2 rfl rfl ?_
      refine x_aload_n C dX11_law_64 rfl 2 rfl rfl ?_
      refine x_get C (ci := 10) (k := 7) 0 k48 rfl in_X11 (by decide) w_392 rfl dX11_law_65 rfl ?_
      obtain ⟨w61, hw62⟩ : ∃ w : va_W, w = List.set w45 0 (ob (a 0) 10 [.ref (a 1), .ref (a 3), .ref (a 5), .ref (a 27), .ref (a 49), .int k, .ref (a 79), .ref (a 79), .ref (a 87), .ref (a 92), .ref (a 103), .ref (a 105), .ref (a 106), .ref (a 107), .ref (a 108), .ref (a 109), .ref (a 110), .ref (a 111), .ref (a 112)]) := ⟨_, rfl⟩
      refine x_put C (ci := 10) (k := 6) (ty := .object "EggTown$Law") 0 k48 rfl in_X11 tyX11 tyX11_ok nmX11 (by decide) w_391 rfl rfl rfl rfl (Nat.le_of_ble_eq_true rfl) hw62.symm dX11_law_68 rfl ?_
      have k64 : w61[0]? = some (ob (a 0) 10 [.ref (a 1), .ref (a 3), .ref (a 5), .ref (a 27), .ref (a 49), .int k, .ref (a 79), .ref (a 79), .ref (a 87), .ref (a 92), .ref (a 103), .ref (a 105), .ref (a 106), .ref (a 107), .ref (a 108), .ref (a 109), .ref (a 110), .ref (a 111), .ref (a 112)]) := by rw [hw62]; exact set_eq k48
      have k65 : w61[6]? = some (ob (a 6) 2 [.int H, .ref (a 7), .ref (a 8)]) := by rw [hw62]; exact set_ne k49 (by decide)
      have k66 : w61[9]? = some (ob (a 9) 4 [.int P, .ref (a 10), .ref (a 11), .ref (a 12), .ref (a 13)]) := by rw [hw62]; exact set_ne k50 (by decide)
      have k67 : w61[28]? = some (ob (a 28) 2 [.int Hk, .ref (a 29), .ref (a 30)]) := by rw [hw62]; exact set_ne k51 (by decide)
      have k68 : w61[31]? = some (ob (a 31) 4 [.int Pk, .ref (a 32), .ref (a 33), .ref (a 34), .ref (a 35)]) := by rw [hw62]; exact set_ne k52 (by decide)
      have k69 : w61[1]? = some (ob (a 1) 7 [.ref (a 2), .int 0, .int v42, .int v43, .int v44]) := by rw [hw62]; exact set_ne k53 (by decide)
      have k70 : w61[79]? = some (ob (a 79) 3 [.int v56, .ref (a 80), .ref (a 81), .ref (a 82), .ref (a 83), .int (nI n57), .ref (a 84), .ref (a 85), .ref (a 86), .int (nI n59)]) := by rw [hw62]; exact set_ne k55 (by decide)
      refine x_aload_n C dX11_law_71 rfl 2 rfl rfl ?_
      refine x_aload_n C dX11_law_72 rfl 0 rfl rfl ?_
      obtain ⟨w71, hw72⟩ : ∃ w : va_W, w = List.set w61 0 (ob (a 0) 10 [.ref (a 1), .ref (a 3), .ref (a 5), .ref (a 27), .ref (a 49), .int k, .ref (a 79), .ref (a 71), .ref (a 87), .ref (a 92), .ref (a 103), .ref (a 105), .ref (a 106), .ref (a 107), .ref (a 108), .ref (a 109), .ref (a 110), .ref (a 111), .ref (a 112)]) := ⟨_, rfl⟩
      refine x_put C (ci := 10) (k := 7) (ty := .object "EggTown$Law") 0 k64 rfl in_X11 tyX11 tyX11_ok nmX11 (by decide) w_392 rfl rfl rfl rfl (Nat.le_of_ble_eq_true rfl) hw72.symm dX11_law_73 rfl ?_
      have k74 : w71[0]? = some (ob (a 0) 10 [.ref (a 1), .ref (a 3), .ref (a 5), .ref (a 27), .ref (a 49), .int k, .ref (a 79), .ref (a 71), .ref (a 87), .ref (a 92), .ref (a 103), .ref (a 105), .ref (a 106), .ref (a 107), .ref (a 108), .ref (a 109), .ref (a 110), .ref (a 111), .ref (a 112)]) := by rw [hw72]; exact set_eq k64
      have k75 : w71[6]? = some (ob (a 6) 2 [.int H, .ref (a 7), .ref (a 8)]) := by rw [hw72]; exact set_ne k65 (by decide)
      have k76 : w71[9]? = some (ob (a 9) 4 [.int P, .ref (a 10), .ref (a 11), .ref (a 12), .ref (a 13)]) := by rw [hw72]; exact set_ne k66 (by decide)
      have k77 : w71[28]? = some (ob (a 28) 2 [.int Hk, .ref (a 29), .ref (a 30)]) := by rw [hw72]; exact set_ne k67 (by decide)
      have k78 : w71[31]? = some (ob (a 31) 4 [.int Pk, .ref (a 32), .ref (a 33), .ref (a 34), .ref (a 35)]) := by rw [hw72]; exact set_ne k68 (by decide)
      have k79 : w71[1]? = some (ob (a 1) 7 [.ref (a 2), .int 0, .int v42, .int v43, .int v44]) := by rw [hw72]; exact set_ne k69 (by decide)
      have k80 : w71[79]? = some (ob (a 79) 3 [.int v56, .ref (a 80), .ref (a 81), .ref (a 82), .ref (a 83), .int (nI n57), .ref (a 84), .ref (a 85), .ref (a 86), .int (nI n59)]) := by rw [hw72]; exact set_ne k70 (by decide)
      refine x_aload_n C dX11_law_76 rfl 2 rfl rfl ?_
      refine x_get C (ci := 10) (k := 6) 0 k74 rfl in_X11 (by decide) w_391 rfl dX11_law_77 rfl ?_
      refine x_get C (ci := 3) (k := 0) 79 k80 rfl in_X3 (by decide) w_252 rfl dX11_law_80 rfl ?_
      have sx81 := wx_swap (w := w71) hW47 (fun k hk => by rw [hw72, List.getElem?_set_ne (Ne.symm hk), hw62, List.getElem?_set_ne (Ne.symm hk)]) k74
      refine x_sub swl (by decide +kernel) rfl sx81.1 ?_
      exact x_zret C hr hlk rfl dX11_law_83 ⟨fun j => a (sw j), rfl, sx81.2, JX_sw (w := w71) hW47 (fun k hk => by rw [hw72, List.getElem?_set_ne (Ne.symm hk), hw62, List.getElem?_set_ne (Ne.symm hk)]) k74 k75 k76 k77 k78⟩
    · skip
      refine x_aload_n C dX11_law_50 rfl 1 rfl rfl ?_
      refine x_get C (ci := 10) (k := 0) 0 k48 rfl in_X11 (by decide) w_385 rfl dX11_law_51 rfl ?_
      refine x_vi C (As := []) (rest := []) (c_faultAnswer E l a w45 hW47) mf_X8_faultAnswer w_655 1 k53 rfl rfl rfl (Nat.le_of_ble_eq_true rfl) ⟨(Nat.le_of_ble_eq_true rfl), (Nat.le_of_ble_eq_true rfl)⟩ ⟨(Nat.le_of_ble_eq_true rfl), (Nat.le_of_ble_eq_true rfl)⟩ dX11_law_54 rfl (fun r83 w84 h82 => ?_)
      have hW85 := h82
      refine x_ws hW85 ?_
      exact x_zret C hr hlk rfl dX11_law_57 ⟨a, rfl, hW47, ⟨k48, k49, k50, k51, k52⟩⟩
  · skip
    refine x_iconst C (v := (-1)) dX11_law_16 (by decide) rfl ?_
    exact x_zret C hr hlk rfl dX11_law_17 ⟨a, rfl, hW, ⟨hJ.1, hJ.2.1, hJ.2.2.1, hJ.2.2.2.1, hJ.2.2.2.2⟩⟩

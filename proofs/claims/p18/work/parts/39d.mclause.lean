theorem wx_11 {E : xE} {a : Nat → Nat} {cd : Cd} {w : va_W} (x : Nat → Int32) (h : WX (okM E a cd) w) : ∀ (k : Nat) (P : Nat × va_E → Prop), (okM E a (x, cd.2))[k]? = some P → ∃ c, (List.set w 11 (iA E (a 11) 260 x))[k]? = some c ∧ P c
  | 0, _, hP => by
    obtain ⟨c, hc, hp⟩ := h 0 _ rfl
    exact ⟨c, set_ne hc (by decide), some_at hP rfl hp⟩
  | 1, _, hP => by
    obtain ⟨c, hc, hp⟩ := h 1 _ rfl
    exact ⟨c, set_ne hc (by decide), some_at hP rfl hp⟩
  | 2, _, hP => by
    obtain ⟨c, hc, hp⟩ := h 2 _ rfl
    exact ⟨c, set_ne hc (by decide), some_at hP rfl hp⟩
  | 3, _, hP => by
    obtain ⟨c, hc, hp⟩ := h 3 _ rfl
    exact ⟨c, set_ne hc (by decide), some_at hP rfl hp⟩
  | 4, _, hP => by
    obtain ⟨c, hc, hp⟩ := h 4 _ rfl
    exact ⟨c, set_ne hc (by decide), some_at hP rfl hp⟩
  | 5, _, hP => by
    obtain ⟨c, hc, hp⟩ := h 5 _ rfl
    exact ⟨c, set_ne hc (by decide), some_at hP rfl hp⟩
  | 6, _, hP => by
    obtain ⟨c, hc, hp⟩ := h 6 _ rfl
    exact ⟨c, set_ne hc (by decide), some_at hP rfl hp⟩
  | 7, _, hP => by
    obtain ⟨c, hc, hp⟩ := h 7 _ rfl
    exact ⟨c, set_ne hc (by decide), some_at hP rfl hp⟩
  | 8, _, hP => by
    obtain ⟨c, hc, hp⟩ := h 8 _ rfl
    exact ⟨c, set_ne hc (by decide), some_at hP rfl hp⟩
  | 9, _, hP => by
    obtain ⟨c, hc, hp⟩ := h 9 _ rfl
    exact ⟨c, set_ne hc (by decide), some_at hP rfl hp⟩
  | 10, _, hP => by
    obtain ⟨c, hc, hp⟩ := h 10 _ rfl
    exact ⟨c, set_ne hc (by decide), some_at hP rfl hp⟩
  | 11, _, hP => by
    obtain ⟨c, hc, -⟩ := h 11 _ rfl
    exact ⟨_, set_eq hc, some_at hP rfl rfl⟩
  | 12, _, hP => by
    obtain ⟨c, hc, hp⟩ := h 12 _ rfl
    exact ⟨c, set_ne hc (by decide), some_at hP rfl hp⟩
  | 13, _, hP => by
    obtain ⟨c, hc, hp⟩ := h 13 _ rfl
    exact ⟨c, set_ne hc (by decide), some_at hP rfl hp⟩
  | 14, _, hP => by
    obtain ⟨c, hc, hp⟩ := h 14 _ rfl
    exact ⟨c, set_ne hc (by decide), some_at hP rfl hp⟩
  | 15, _, hP => by
    obtain ⟨c, hc, hp⟩ := h 15 _ rfl
    exact ⟨c, set_ne hc (by decide), some_at hP rfl hp⟩
  | 16, _, hP => by
    obtain ⟨c, hc, hp⟩ := h 16 _ rfl
    exact ⟨c, set_ne hc (by decide), some_at hP rfl hp⟩
  | 17, _, hP => by
    obtain ⟨c, hc, hp⟩ := h 17 _ rfl
    exact ⟨c, set_ne hc (by decide), some_at hP rfl hp⟩
  | 18, _, hP => by
    obtain ⟨c, hc, hp⟩ := h 18 _ rfl
    exact ⟨c, set_ne hc (by decide), some_at hP rfl hp⟩
  | 19, _, hP => by
    obtain ⟨c, hc, hp⟩ := h 19 _ rfl
    exact ⟨c, set_ne hc (by decide), some_at hP rfl hp⟩
  | 20, _, hP => by
    obtain ⟨c, hc, hp⟩ := h 20 _ rfl
    exact ⟨c, set_ne hc (by decide), some_at hP rfl hp⟩
  | 21, _, hP => by
    obtain ⟨c, hc, hp⟩ := h 21 _ rfl
    exact ⟨c, set_ne hc (by decide), some_at hP rfl hp⟩
  | 22, _, hP => by
    obtain ⟨c, hc, hp⟩ := h 22 _ rfl
    exact ⟨c, set_ne hc (by decide), some_at hP rfl hp⟩
  | 23, _, hP => by
    obtain ⟨c, hc, hp⟩ := h 23 _ rfl
    exact ⟨c, set_ne hc (by decide), some_at hP rfl hp⟩
  | 24, _, hP => by
    obtain ⟨c, hc, hp⟩ := h 24 _ rfl
    exact ⟨c, set_ne hc (by decide), some_at hP rfl hp⟩
  | 25, _, hP => by
    obtain ⟨c, hc, hp⟩ := h 25 _ rfl
    exact ⟨c, set_ne hc (by decide), some_at hP rfl hp⟩
  | 26, _, hP => by
    obtain ⟨c, hc, hp⟩ := h 26 _ rfl
    exact ⟨c, set_ne hc (by decide), some_at hP rfl hp⟩
  | 27, _, hP => by
    obtain ⟨c, hc, hp⟩ := h 27 _ rfl
    exact ⟨c, set_ne hc (by decide), some_at hP rfl hp⟩
  | 28, _, hP => by
    obtain ⟨c, hc, hp⟩ := h 28 _ rfl
    exact ⟨c, set_ne hc (by decide), some_at hP rfl hp⟩
  | 29, _, hP => by
    obtain ⟨c, hc, hp⟩ := h 29 _ rfl
    exact ⟨c, set_ne hc (by decide), some_at hP rfl hp⟩
  | 30, _, hP => by
    obtain ⟨c, hc, hp⟩ := h 30 _ rfl
    exact ⟨c, set_ne hc (by decide), some_at hP rfl hp⟩
  | n + 31, P, hP => absurd (show (none : Option (Nat × va_E → Prop)) = some P from hP) (fun q => by cases q)
theorem wx_12 {E : xE} {a : Nat → Nat} {cd : Cd} {w : va_W} (x : Nat → Int32) (h : WX (okM E a cd) w) : ∀ (k : Nat) (P : Nat × va_E → Prop), (okM E a (cd.1, x, cd.2.2))[k]? = some P → ∃ c, (List.set w 12 (iA E (a 12) 16 x))[k]? = some c ∧ P c
  | 0, _, hP => by
    obtain ⟨c, hc, hp⟩ := h 0 _ rfl
    exact ⟨c, set_ne hc (by decide), some_at hP rfl hp⟩
  | 1, _, hP => by
    obtain ⟨c, hc, hp⟩ := h 1 _ rfl
    exact ⟨c, set_ne hc (by decide), some_at hP rfl hp⟩
  | 2, _, hP => by
    obtain ⟨c, hc, hp⟩ := h 2 _ rfl
    exact ⟨c, set_ne hc (by decide), some_at hP rfl hp⟩
  | 3, _, hP => by
    obtain ⟨c, hc, hp⟩ := h 3 _ rfl
    exact ⟨c, set_ne hc (by decide), some_at hP rfl hp⟩
  | 4, _, hP => by
    obtain ⟨c, hc, hp⟩ := h 4 _ rfl
    exact ⟨c, set_ne hc (by decide), some_at hP rfl hp⟩
  | 5, _, hP => by
    obtain ⟨c, hc, hp⟩ := h 5 _ rfl
    exact ⟨c, set_ne hc (by decide), some_at hP rfl hp⟩
  | 6, _, hP => by
    obtain ⟨c, hc, hp⟩ := h 6 _ rfl
    exact ⟨c, set_ne hc (by decide), some_at hP rfl hp⟩
  | 7, _, hP => by
    obtain ⟨c, hc, hp⟩ := h 7 _ rfl
    exact ⟨c, set_ne hc (by decide), some_at hP rfl hp⟩
  | 8, _, hP => by
    obtain ⟨c, hc, hp⟩ := h 8 _ rfl
    exact ⟨c, set_ne hc (by decide), some_at hP rfl hp⟩
  | 9, _, hP => by
    obtain ⟨c, hc, hp⟩ := h 9 _ rfl
    exact ⟨c, set_ne hc (by decide), some_at hP rfl hp⟩
  | 10, _, hP => by
    obtain ⟨c, hc, hp⟩ := h 10 _ rfl
    exact ⟨c, set_ne hc (by decide), some_at hP rfl hp⟩
  | 11, _, hP => by
    obtain ⟨c, hc, hp⟩ := h 11 _ rfl
    exact ⟨c, set_ne hc (by decide), some_at hP rfl hp⟩
  | 12, _, hP => by
    obtain ⟨c, hc, -⟩ := h 12 _ rfl
    exact ⟨_, set_eq hc, some_at hP rfl rfl⟩
  | 13, _, hP => by
    obtain ⟨c, hc, hp⟩ := h 13 _ rfl
    exact ⟨c, set_ne hc (by decide), some_at hP rfl hp⟩
  | 14, _, hP => by
    obtain ⟨c, hc, hp⟩ := h 14 _ rfl
    exact ⟨c, set_ne hc (by decide), some_at hP rfl hp⟩
  | 15, _, hP => by
    obtain ⟨c, hc, hp⟩ := h 15 _ rfl
    exact ⟨c, set_ne hc (by decide), some_at hP rfl hp⟩
  | 16, _, hP => by
    obtain ⟨c, hc, hp⟩ := h 16 _ rfl
    exact ⟨c, set_ne hc (by decide), some_at hP rfl hp⟩
  | 17, _, hP => by
    obtain ⟨c, hc, hp⟩ := h 17 _ rfl
    exact ⟨c, set_ne hc (by decide), some_at hP rfl hp⟩
  | 18, _, hP => by
    obtain ⟨c, hc, hp⟩ := h 18 _ rfl
    exact ⟨c, set_ne hc (by decide), some_at hP rfl hp⟩
  | 19, _, hP => by
    obtain ⟨c, hc, hp⟩ := h 19 _ rfl
    exact ⟨c, set_ne hc (by decide), some_at hP rfl hp⟩
  | 20, _, hP => by
    obtain ⟨c, hc, hp⟩ := h 20 _ rfl
    exact ⟨c, set_ne hc (by decide), some_at hP rfl hp⟩
  | 21, _, hP => by
    obtain ⟨c, hc, hp⟩ := h 21 _ rfl
    exact ⟨c, set_ne hc (by decide), some_at hP rfl hp⟩
  | 22, _, hP => by
    obtain ⟨c, hc, hp⟩ := h 22 _ rfl
    exact ⟨c, set_ne hc (by decide), some_at hP rfl hp⟩
  | 23, _, hP => by
    obtain ⟨c, hc, hp⟩ := h 23 _ rfl
    exact ⟨c, set_ne hc (by decide), some_at hP rfl hp⟩
  | 24, _, hP => by
    obtain ⟨c, hc, hp⟩ := h 24 _ rfl
    exact ⟨c, set_ne hc (by decide), some_at hP rfl hp⟩
  | 25, _, hP => by
    obtain ⟨c, hc, hp⟩ := h 25 _ rfl
    exact ⟨c, set_ne hc (by decide), some_at hP rfl hp⟩
  | 26, _, hP => by
    obtain ⟨c, hc, hp⟩ := h 26 _ rfl
    exact ⟨c, set_ne hc (by decide), some_at hP rfl hp⟩
  | 27, _, hP => by
    obtain ⟨c, hc, hp⟩ := h 27 _ rfl
    exact ⟨c, set_ne hc (by decide), some_at hP rfl hp⟩
  | 28, _, hP => by
    obtain ⟨c, hc, hp⟩ := h 28 _ rfl
    exact ⟨c, set_ne hc (by decide), some_at hP rfl hp⟩
  | 29, _, hP => by
    obtain ⟨c, hc, hp⟩ := h 29 _ rfl
    exact ⟨c, set_ne hc (by decide), some_at hP rfl hp⟩
  | 30, _, hP => by
    obtain ⟨c, hc, hp⟩ := h 30 _ rfl
    exact ⟨c, set_ne hc (by decide), some_at hP rfl hp⟩
  | n + 31, P, hP => absurd (show (none : Option (Nat × va_E → Prop)) = some P from hP) (fun q => by cases q)
theorem wx_13 {E : xE} {a : Nat → Nat} {cd : Cd} {w : va_W} (x : Nat → Int32) (h : WX (okM E a cd) w) : ∀ (k : Nat) (P : Nat × va_E → Prop), (okM E a (cd.1, cd.2.1, x, cd.2.2.2))[k]? = some P → ∃ c, (List.set w 13 (iA E (a 13) 16 x))[k]? = some c ∧ P c
  | 0, _, hP => by
    obtain ⟨c, hc, hp⟩ := h 0 _ rfl
    exact ⟨c, set_ne hc (by decide), some_at hP rfl hp⟩
  | 1, _, hP => by
    obtain ⟨c, hc, hp⟩ := h 1 _ rfl
    exact ⟨c, set_ne hc (by decide), some_at hP rfl hp⟩
  | 2, _, hP => by
    obtain ⟨c, hc, hp⟩ := h 2 _ rfl
    exact ⟨c, set_ne hc (by decide), some_at hP rfl hp⟩
  | 3, _, hP => by
    obtain ⟨c, hc, hp⟩ := h 3 _ rfl
    exact ⟨c, set_ne hc (by decide), some_at hP rfl hp⟩
  | 4, _, hP => by
    obtain ⟨c, hc, hp⟩ := h 4 _ rfl
    exact ⟨c, set_ne hc (by decide), some_at hP rfl hp⟩
  | 5, _, hP => by
    obtain ⟨c, hc, hp⟩ := h 5 _ rfl
    exact ⟨c, set_ne hc (by decide), some_at hP rfl hp⟩
  | 6, _, hP => by
    obtain ⟨c, hc, hp⟩ := h 6 _ rfl
    exact ⟨c, set_ne hc (by decide), some_at hP rfl hp⟩
  | 7, _, hP => by
    obtain ⟨c, hc, hp⟩ := h 7 _ rfl
    exact ⟨c, set_ne hc (by decide), some_at hP rfl hp⟩
  | 8, _, hP => by
    obtain ⟨c, hc, hp⟩ := h 8 _ rfl
    exact ⟨c, set_ne hc (by decide), some_at hP rfl hp⟩
  | 9, _, hP => by
    obtain ⟨c, hc, hp⟩ := h 9 _ rfl
    exact ⟨c, set_ne hc (by decide), some_at hP rfl hp⟩
  | 10, _, hP => by
    obtain ⟨c, hc, hp⟩ := h 10 _ rfl
    exact ⟨c, set_ne hc (by decide), some_at hP rfl hp⟩
  | 11, _, hP => by
    obtain ⟨c, hc, hp⟩ := h 11 _ rfl
    exact ⟨c, set_ne hc (by decide), some_at hP rfl hp⟩
  | 12, _, hP => by
    obtain ⟨c, hc, hp⟩ := h 12 _ rfl
    exact ⟨c, set_ne hc (by decide), some_at hP rfl hp⟩
  | 13, _, hP => by
    obtain ⟨c, hc, -⟩ := h 13 _ rfl
    exact ⟨_, set_eq hc, some_at hP rfl rfl⟩
  | 14, _, hP => by
    obtain ⟨c, hc, hp⟩ := h 14 _ rfl
    exact ⟨c, set_ne hc (by decide), some_at hP rfl hp⟩
  | 15, _, hP => by
    obtain ⟨c, hc, hp⟩ := h 15 _ rfl
    exact ⟨c, set_ne hc (by decide), some_at hP rfl hp⟩
  | 16, _, hP => by
    obtain ⟨c, hc, hp⟩ := h 16 _ rfl
    exact ⟨c, set_ne hc (by decide), some_at hP rfl hp⟩
  | 17, _, hP => by
    obtain ⟨c, hc, hp⟩ := h 17 _ rfl
    exact ⟨c, set_ne hc (by decide), some_at hP rfl hp⟩
  | 18, _, hP => by
    obtain ⟨c, hc, hp⟩ := h 18 _ rfl
    exact ⟨c, set_ne hc (by decide), some_at hP rfl hp⟩
  | 19, _, hP => by
    obtain ⟨c, hc, hp⟩ := h 19 _ rfl
    exact ⟨c, set_ne hc (by decide), some_at hP rfl hp⟩
  | 20, _, hP => by
    obtain ⟨c, hc, hp⟩ := h 20 _ rfl
    exact ⟨c, set_ne hc (by decide), some_at hP rfl hp⟩
  | 21, _, hP => by
    obtain ⟨c, hc, hp⟩ := h 21 _ rfl
    exact ⟨c, set_ne hc (by decide), some_at hP rfl hp⟩
  | 22, _, hP => by
    obtain ⟨c, hc, hp⟩ := h 22 _ rfl
    exact ⟨c, set_ne hc (by decide), some_at hP rfl hp⟩
  | 23, _, hP => by
    obtain ⟨c, hc, hp⟩ := h 23 _ rfl
    exact ⟨c, set_ne hc (by decide), some_at hP rfl hp⟩
  | 24, _, hP => by
    obtain ⟨c, hc, hp⟩ := h 24 _ rfl
    exact ⟨c, set_ne hc (by decide), some_at hP rfl hp⟩
  | 25, _, hP => by
    obtain ⟨c, hc, hp⟩ := h 25 _ rfl
    exact ⟨c, set_ne hc (by decide), some_at hP rfl hp⟩
  | 26, _, hP => by
    obtain ⟨c, hc, hp⟩ := h 26 _ rfl
    exact ⟨c, set_ne hc (by decide), some_at hP rfl hp⟩
  | 27, _, hP => by
    obtain ⟨c, hc, hp⟩ := h 27 _ rfl
    exact ⟨c, set_ne hc (by decide), some_at hP rfl hp⟩
  | 28, _, hP => by
    obtain ⟨c, hc, hp⟩ := h 28 _ rfl
    exact ⟨c, set_ne hc (by decide), some_at hP rfl hp⟩
  | 29, _, hP => by
    obtain ⟨c, hc, hp⟩ := h 29 _ rfl
    exact ⟨c, set_ne hc (by decide), some_at hP rfl hp⟩
  | 30, _, hP => by
    obtain ⟨c, hc, hp⟩ := h 30 _ rfl
    exact ⟨c, set_ne hc (by decide), some_at hP rfl hp⟩
  | n + 31, P, hP => absurd (show (none : Option (Nat × va_E → Prop)) = some P from hP) (fun q => by cases q)
theorem wx_14 {E : xE} {a : Nat → Nat} {cd : Cd} {w : va_W} (x : Nat → Int32) (h : WX (okM E a cd) w) : ∀ (k : Nat) (P : Nat × va_E → Prop), (okM E a (cd.1, cd.2.1, cd.2.2.1, x, cd.2.2.2.2))[k]? = some P → ∃ c, (List.set w 14 (iA E (a 14) 16 x))[k]? = some c ∧ P c
  | 0, _, hP => by
    obtain ⟨c, hc, hp⟩ := h 0 _ rfl
    exact ⟨c, set_ne hc (by decide), some_at hP rfl hp⟩
  | 1, _, hP => by
    obtain ⟨c, hc, hp⟩ := h 1 _ rfl
    exact ⟨c, set_ne hc (by decide), some_at hP rfl hp⟩
  | 2, _, hP => by
    obtain ⟨c, hc, hp⟩ := h 2 _ rfl
    exact ⟨c, set_ne hc (by decide), some_at hP rfl hp⟩
  | 3, _, hP => by
    obtain ⟨c, hc, hp⟩ := h 3 _ rfl
    exact ⟨c, set_ne hc (by decide), some_at hP rfl hp⟩
  | 4, _, hP => by
    obtain ⟨c, hc, hp⟩ := h 4 _ rfl
    exact ⟨c, set_ne hc (by decide), some_at hP rfl hp⟩
  | 5, _, hP => by
    obtain ⟨c, hc, hp⟩ := h 5 _ rfl
    exact ⟨c, set_ne hc (by decide), some_at hP rfl hp⟩
  | 6, _, hP => by
    obtain ⟨c, hc, hp⟩ := h 6 _ rfl
    exact ⟨c, set_ne hc (by decide), some_at hP rfl hp⟩
  | 7, _, hP => by
    obtain ⟨c, hc, hp⟩ := h 7 _ rfl
    exact ⟨c, set_ne hc (by decide), some_at hP rfl hp⟩
  | 8, _, hP => by
    obtain ⟨c, hc, hp⟩ := h 8 _ rfl
    exact ⟨c, set_ne hc (by decide), some_at hP rfl hp⟩
  | 9, _, hP => by
    obtain ⟨c, hc, hp⟩ := h 9 _ rfl
    exact ⟨c, set_ne hc (by decide), some_at hP rfl hp⟩
  | 10, _, hP => by
    obtain ⟨c, hc, hp⟩ := h 10 _ rfl
    exact ⟨c, set_ne hc (by decide), some_at hP rfl hp⟩
  | 11, _, hP => by
    obtain ⟨c, hc, hp⟩ := h 11 _ rfl
    exact ⟨c, set_ne hc (by decide), some_at hP rfl hp⟩
  | 12, _, hP => by
    obtain ⟨c, hc, hp⟩ := h 12 _ rfl
    exact ⟨c, set_ne hc (by decide), some_at hP rfl hp⟩
  | 13, _, hP => by
    obtain ⟨c, hc, hp⟩ := h 13 _ rfl
    exact ⟨c, set_ne hc (by decide), some_at hP rfl hp⟩
  | 14, _, hP => by
    obtain ⟨c, hc, -⟩ := h 14 _ rfl
    exact ⟨_, set_eq hc, some_at hP rfl rfl⟩
  | 15, _, hP => by
    obtain ⟨c, hc, hp⟩ := h 15 _ rfl
    exact ⟨c, set_ne hc (by decide), some_at hP rfl hp⟩
  | 16, _, hP => by
    obtain ⟨c, hc, hp⟩ := h 16 _ rfl
    exact ⟨c, set_ne hc (by decide), some_at hP rfl hp⟩
  | 17, _, hP => by
    obtain ⟨c, hc, hp⟩ := h 17 _ rfl
    exact ⟨c, set_ne hc (by decide), some_at hP rfl hp⟩
  | 18, _, hP => by
    obtain ⟨c, hc, hp⟩ := h 18 _ rfl
    exact ⟨c, set_ne hc (by decide), some_at hP rfl hp⟩
  | 19, _, hP => by
    obtain ⟨c, hc, hp⟩ := h 19 _ rfl
    exact ⟨c, set_ne hc (by decide), some_at hP rfl hp⟩
  | 20, _, hP => by
    obtain ⟨c, hc, hp⟩ := h 20 _ rfl
    exact ⟨c, set_ne hc (by decide), some_at hP rfl hp⟩
  | 21, _, hP => by
    obtain ⟨c, hc, hp⟩ := h 21 _ rfl
    exact ⟨c, set_ne hc (by decide), some_at hP rfl hp⟩
  | 22, _, hP => by
    obtain ⟨c, hc, hp⟩ := h 22 _ rfl
    exact ⟨c, set_ne hc (by decide), some_at hP rfl hp⟩
  | 23, _, hP => by
    obtain ⟨c, hc, hp⟩ := h 23 _ rfl
    exact ⟨c, set_ne hc (by decide), some_at hP rfl hp⟩
  | 24, _, hP => by
    obtain ⟨c, hc, hp⟩ := h 24 _ rfl
    exact ⟨c, set_ne hc (by decide), some_at hP rfl hp⟩
  | 25, _, hP => by
    obtain ⟨c, hc, hp⟩ := h 25 _ rfl
    exact ⟨c, set_ne hc (by decide), some_at hP rfl hp⟩
  | 26, _, hP => by
    obtain ⟨c, hc, hp⟩ := h 26 _ rfl
    exact ⟨c, set_ne hc (by decide), some_at hP rfl hp⟩
  | 27, _, hP => by
    obtain ⟨c, hc, hp⟩ := h 27 _ rfl
    exact ⟨c, set_ne hc (by decide), some_at hP rfl hp⟩
  | 28, _, hP => by
    obtain ⟨c, hc, hp⟩ := h 28 _ rfl
    exact ⟨c, set_ne hc (by decide), some_at hP rfl hp⟩
  | 29, _, hP => by
    obtain ⟨c, hc, hp⟩ := h 29 _ rfl
    exact ⟨c, set_ne hc (by decide), some_at hP rfl hp⟩
  | 30, _, hP => by
    obtain ⟨c, hc, hp⟩ := h 30 _ rfl
    exact ⟨c, set_ne hc (by decide), some_at hP rfl hp⟩
  | n + 31, P, hP => absurd (show (none : Option (Nat × va_E → Prop)) = some P from hP) (fun q => by cases q)
theorem wx_15 {E : xE} {a : Nat → Nat} {cd : Cd} {w : va_W} (x : Nat → Int32) (h : WX (okM E a cd) w) : ∀ (k : Nat) (P : Nat × va_E → Prop), (okM E a (cd.1, cd.2.1, cd.2.2.1, cd.2.2.2.1, x, cd.2.2.2.2.2))[k]? = some P → ∃ c, (List.set w 15 (iA E (a 15) 16 x))[k]? = some c ∧ P c
  | 0, _, hP => by
    obtain ⟨c, hc, hp⟩ := h 0 _ rfl
    exact ⟨c, set_ne hc (by decide), some_at hP rfl hp⟩
  | 1, _, hP => by
    obtain ⟨c, hc, hp⟩ := h 1 _ rfl
    exact ⟨c, set_ne hc (by decide), some_at hP rfl hp⟩
  | 2, _, hP => by
    obtain ⟨c, hc, hp⟩ := h 2 _ rfl
    exact ⟨c, set_ne hc (by decide), some_at hP rfl hp⟩
  | 3, _, hP => by
    obtain ⟨c, hc, hp⟩ := h 3 _ rfl
    exact ⟨c, set_ne hc (by decide), some_at hP rfl hp⟩
  | 4, _, hP => by
    obtain ⟨c, hc, hp⟩ := h 4 _ rfl
    exact ⟨c, set_ne hc (by decide), some_at hP rfl hp⟩
  | 5, _, hP => by
    obtain ⟨c, hc, hp⟩ := h 5 _ rfl
    exact ⟨c, set_ne hc (by decide), some_at hP rfl hp⟩
  | 6, _, hP => by
    obtain ⟨c, hc, hp⟩ := h 6 _ rfl
    exact ⟨c, set_ne hc (by decide), some_at hP rfl hp⟩
  | 7, _, hP => by
    obtain ⟨c, hc, hp⟩ := h 7 _ rfl
    exact ⟨c, set_ne hc (by decide), some_at hP rfl hp⟩
  | 8, _, hP => by
    obtain ⟨c, hc, hp⟩ := h 8 _ rfl
    exact ⟨c, set_ne hc (by decide), some_at hP rfl hp⟩
  | 9, _, hP => by
    obtain ⟨c, hc, hp⟩ := h 9 _ rfl
    exact ⟨c, set_ne hc (by decide), some_at hP rfl hp⟩
  | 10, _, hP => by
    obtain ⟨c, hc, hp⟩ := h 10 _ rfl
    exact ⟨c, set_ne hc (by decide), some_at hP rfl hp⟩
  | 11, _, hP => by
    obtain ⟨c, hc, hp⟩ := h 11 _ rfl
    exact ⟨c, set_ne hc (by decide), some_at hP rfl hp⟩
  | 12, _, hP => by
    obtain ⟨c, hc, hp⟩ := h 12 _ rfl
    exact ⟨c, set_ne hc (by decide), some_at hP rfl hp⟩
  | 13, _, hP => by
    obtain ⟨c, hc, hp⟩ := h 13 _ rfl
    exact ⟨c, set_ne hc (by decide), some_at hP rfl hp⟩
  | 14, _, hP => by
    obtain ⟨c, hc, hp⟩ := h 14 _ rfl
    exact ⟨c, set_ne hc (by decide), some_at hP rfl hp⟩
  | 15, _, hP => by
    obtain ⟨c, hc, -⟩ := h 15 _ rfl
    exact ⟨_, set_eq hc, some_at hP rfl rfl⟩
  | 16, _, hP => by
    obtain ⟨c, hc, hp⟩ := h 16 _ rfl
    exact ⟨c, set_ne hc (by decide), some_at hP rfl hp⟩
  | 17, _, hP => by
    obtain ⟨c, hc, hp⟩ := h 17 _ rfl
    exact ⟨c, set_ne hc (by decide), some_at hP rfl hp⟩
  | 18, _, hP => by
    obtain ⟨c, hc, hp⟩ := h 18 _ rfl
    exact ⟨c, set_ne hc (by decide), some_at hP rfl hp⟩
  | 19, _, hP => by
    obtain ⟨c, hc, hp⟩ := h 19 _ rfl
    exact ⟨c, set_ne hc (by decide), some_at hP rfl hp⟩
  | 20, _, hP => by
    obtain ⟨c, hc, hp⟩ := h 20 _ rfl
    exact ⟨c, set_ne hc (by decide), some_at hP rfl hp⟩
  | 21, _, hP => by
    obtain ⟨c, hc, hp⟩ := h 21 _ rfl
    exact ⟨c, set_ne hc (by decide), some_at hP rfl hp⟩
  | 22, _, hP => by
    obtain ⟨c, hc, hp⟩ := h 22 _ rfl
    exact ⟨c, set_ne hc (by decide), some_at hP rfl hp⟩
  | 23, _, hP => by
    obtain ⟨c, hc, hp⟩ := h 23 _ rfl
    exact ⟨c, set_ne hc (by decide), some_at hP rfl hp⟩
  | 24, _, hP => by
    obtain ⟨c, hc, hp⟩ := h 24 _ rfl
    exact ⟨c, set_ne hc (by decide), some_at hP rfl hp⟩
  | 25, _, hP => by
    obtain ⟨c, hc, hp⟩ := h 25 _ rfl
    exact ⟨c, set_ne hc (by decide), some_at hP rfl hp⟩
  | 26, _, hP => by
    obtain ⟨c, hc, hp⟩ := h 26 _ rfl
    exact ⟨c, set_ne hc (by decide), some_at hP rfl hp⟩
  | 27, _, hP => by
    obtain ⟨c, hc, hp⟩ := h 27 _ rfl
    exact ⟨c, set_ne hc (by decide), some_at hP rfl hp⟩
  | 28, _, hP => by
    obtain ⟨c, hc, hp⟩ := h 28 _ rfl
    exact ⟨c, set_ne hc (by decide), some_at hP rfl hp⟩
  | 29, _, hP => by
    obtain ⟨c, hc, hp⟩ := h 29 _ rfl
    exact ⟨c, set_ne hc (by decide), some_at hP rfl hp⟩
  | 30, _, hP => by
    obtain ⟨c, hc, hp⟩ := h 30 _ rfl
    exact ⟨c, set_ne hc (by decide), some_at hP rfl hp⟩
  | n + 31, P, hP => absurd (show (none : Option (Nat × va_E → Prop)) = some P from hP) (fun q => by cases q)
theorem wx_cl {E : xE} {a : Nat → Nat} {cd : Cd} {w : va_W} {tp pl le cm wt sm lm n : Nat} {nu : Int32} {c : Nat × va_E} (h : WX (okM E a cd) w) (hw : (List.set w 0 c)[0]? = some c) (hm : MO a (cd.1, cd.2.1, cd.2.2.1, cd.2.2.2.1, cd.2.2.2.2.1, n) (List.set w 0 c) tp pl le cm wt sm lm nu) : ∀ (k : Nat) (P : Nat × va_E → Prop), (okM E a (cd.1, cd.2.1, cd.2.2.1, cd.2.2.2.1, cd.2.2.2.2.1, n))[k]? = some P → ∃ c', (List.set w 0 c)[k]? = some c' ∧ P c'
  | 0, _, hP => by
    obtain ⟨v7, v9, v32, v33, v34, v35, v47, n36, n37, ⟨b1, b2, b3, b4, b5, b6, b7⟩, ⟨b8, b9⟩, z, e⟩ := hm
    rw [hw] at e
    injection e with e
    refine ⟨c, hw, some_at hP rfl ?_⟩
    rw [e]
    exact ⟨_, _, _, _, _, _, _, _, _, _, _, _, _, _, _, _, _, b1, b2, b3, b4, b5, b6, b7, b8, b9, z, rfl⟩
  | 1, _, hP => by
    obtain ⟨c, hc, hp⟩ := h 1 _ rfl
    exact ⟨c, set_ne hc (by decide), some_at hP rfl hp⟩
  | 2, _, hP => by
    obtain ⟨c, hc, hp⟩ := h 2 _ rfl
    exact ⟨c, set_ne hc (by decide), some_at hP rfl hp⟩
  | 3, _, hP => by
    obtain ⟨c, hc, hp⟩ := h 3 _ rfl
    exact ⟨c, set_ne hc (by decide), some_at hP rfl hp⟩
  | 4, _, hP => by
    obtain ⟨c, hc, hp⟩ := h 4 _ rfl
    exact ⟨c, set_ne hc (by decide), some_at hP rfl hp⟩
  | 5, _, hP => by
    obtain ⟨c, hc, hp⟩ := h 5 _ rfl
    exact ⟨c, set_ne hc (by decide), some_at hP rfl hp⟩
  | 6, _, hP => by
    obtain ⟨c, hc, hp⟩ := h 6 _ rfl
    exact ⟨c, set_ne hc (by decide), some_at hP rfl hp⟩
  | 7, _, hP => by
    obtain ⟨c, hc, hp⟩ := h 7 _ rfl
    exact ⟨c, set_ne hc (by decide), some_at hP rfl hp⟩
  | 8, _, hP => by
    obtain ⟨c, hc, hp⟩ := h 8 _ rfl
    exact ⟨c, set_ne hc (by decide), some_at hP rfl hp⟩
  | 9, _, hP => by
    obtain ⟨c, hc, hp⟩ := h 9 _ rfl
    exact ⟨c, set_ne hc (by decide), some_at hP rfl hp⟩
  | 10, _, hP => by
    obtain ⟨c, hc, hp⟩ := h 10 _ rfl
    exact ⟨c, set_ne hc (by decide), some_at hP rfl hp⟩
  | 11, _, hP => by
    obtain ⟨c, hc, hp⟩ := h 11 _ rfl
    exact ⟨c, set_ne hc (by decide), some_at hP rfl hp⟩
  | 12, _, hP => by
    obtain ⟨c, hc, hp⟩ := h 12 _ rfl
    exact ⟨c, set_ne hc (by decide), some_at hP rfl hp⟩
  | 13, _, hP => by
    obtain ⟨c, hc, hp⟩ := h 13 _ rfl
    exact ⟨c, set_ne hc (by decide), some_at hP rfl hp⟩
  | 14, _, hP => by
    obtain ⟨c, hc, hp⟩ := h 14 _ rfl
    exact ⟨c, set_ne hc (by decide), some_at hP rfl hp⟩
  | 15, _, hP => by
    obtain ⟨c, hc, hp⟩ := h 15 _ rfl
    exact ⟨c, set_ne hc (by decide), some_at hP rfl hp⟩
  | 16, _, hP => by
    obtain ⟨c, hc, hp⟩ := h 16 _ rfl
    exact ⟨c, set_ne hc (by decide), some_at hP rfl hp⟩
  | 17, _, hP => by
    obtain ⟨c, hc, hp⟩ := h 17 _ rfl
    exact ⟨c, set_ne hc (by decide), some_at hP rfl hp⟩
  | 18, _, hP => by
    obtain ⟨c, hc, hp⟩ := h 18 _ rfl
    exact ⟨c, set_ne hc (by decide), some_at hP rfl hp⟩
  | 19, _, hP => by
    obtain ⟨c, hc, hp⟩ := h 19 _ rfl
    exact ⟨c, set_ne hc (by decide), some_at hP rfl hp⟩
  | 20, _, hP => by
    obtain ⟨c, hc, hp⟩ := h 20 _ rfl
    exact ⟨c, set_ne hc (by decide), some_at hP rfl hp⟩
  | 21, _, hP => by
    obtain ⟨c, hc, hp⟩ := h 21 _ rfl
    exact ⟨c, set_ne hc (by decide), some_at hP rfl hp⟩
  | 22, _, hP => by
    obtain ⟨c, hc, hp⟩ := h 22 _ rfl
    exact ⟨c, set_ne hc (by decide), some_at hP rfl hp⟩
  | 23, _, hP => by
    obtain ⟨c, hc, hp⟩ := h 23 _ rfl
    exact ⟨c, set_ne hc (by decide), some_at hP rfl hp⟩
  | 24, _, hP => by
    obtain ⟨c, hc, hp⟩ := h 24 _ rfl
    exact ⟨c, set_ne hc (by decide), some_at hP rfl hp⟩
  | 25, _, hP => by
    obtain ⟨c, hc, hp⟩ := h 25 _ rfl
    exact ⟨c, set_ne hc (by decide), some_at hP rfl hp⟩
  | 26, _, hP => by
    obtain ⟨c, hc, hp⟩ := h 26 _ rfl
    exact ⟨c, set_ne hc (by decide), some_at hP rfl hp⟩
  | 27, _, hP => by
    obtain ⟨c, hc, hp⟩ := h 27 _ rfl
    exact ⟨c, set_ne hc (by decide), some_at hP rfl hp⟩
  | 28, _, hP => by
    obtain ⟨c, hc, hp⟩ := h 28 _ rfl
    exact ⟨c, set_ne hc (by decide), some_at hP rfl hp⟩
  | 29, _, hP => by
    obtain ⟨c, hc, hp⟩ := h 29 _ rfl
    exact ⟨c, set_ne hc (by decide), some_at hP rfl hp⟩
  | 30, _, hP => by
    obtain ⟨c, hc, hp⟩ := h 30 _ rfl
    exact ⟨c, set_ne hc (by decide), some_at hP rfl hp⟩
  | n + 31, P, hP => absurd (show (none : Option (Nat × va_E → Prop)) = some P from hP) (fun q => by cases q)
theorem Good_of {cd2 : Cd} {fs f8 f9 f10 : Nat → Int32} {sm cm : Nat} (hkl : KL fs f8 f9 f10 sm cm) (hsm : sm ≤ 16) (e6 : cd2.2.2.2.2.2 = sm) (h1 : ∀ k, k < cm → cd2.1 k = fs k) (h8 : ∀ q, q < sm → cd2.2.2.1 q = f8 q) (h9 : ∀ q, q < sm → cd2.2.2.2.1 q = f9 q) (h10 : ∀ q, q < sm → cd2.2.2.2.2.1 q = f10 q) : Good cd2 := by
  refine ⟨by rw [e6]; exact hsm, fun q hq => ?_⟩
  rw [e6] at hq
  obtain ⟨fr, half, to, a1, a2, a3, a4, s1, s2⟩ := hkl q hq
  have l1 := cSeg_lt s1
  have l2 := cSeg_lt s2
  exact ⟨fr, half, to, by rw [h8 q hq]; exact a1, by rw [h9 q hq]; exact a2, by rw [h10 q hq]; exact a3, cSeg_congr s1 (fun k hk => h1 k (by omega)), cSeg_congr s2 (fun k hk => h1 k (by omega))⟩
theorem cpy_step {f g : Nat → Int32} {k : Nat} (h : ∀ j, j < k → g j = f j) : ∀ j, j < k + 1 → upd g k (f k) j = f j := by
  intro j hj
  by_cases e : j = k
  · subst e; rw [pk_us]
  · rw [pk_un e]; exact h j (by omega)
theorem dX12_isClause_0 : decode cX12_isClause 0 = .ok (.iload_n 0, 1) := by decide +kernel
theorem dX12_isClause_1 : decode cX12_isClause 1 = .ok (.bipush 108, 2) := by decide +kernel
theorem dX12_isClause_3 : decode cX12_isClause 3 = .ok (.if_icmp .eq 33, 3) := by decide +kernel
theorem dX12_isClause_6 : decode cX12_isClause 6 = .ok (.iload_n 0, 1) := by decide +kernel
theorem dX12_isClause_7 : decode cX12_isClause 7 = .ok (.bipush 102, 2) := by decide +kernel
theorem dX12_isClause_9 : decode cX12_isClause 9 = .ok (.if_icmp .eq 27, 3) := by decide +kernel
theorem dX12_isClause_12 : decode cX12_isClause 12 = .ok (.iload_n 0, 1) := by decide +kernel
theorem dX12_isClause_13 : decode cX12_isClause 13 = .ok (.bipush 98, 2) := by decide +kernel
theorem dX12_isClause_15 : decode cX12_isClause 15 = .ok (.if_icmp .eq 21, 3) := by decide +kernel
theorem dX12_isClause_18 : decode cX12_isClause 18 = .ok (.iload_n 0, 1) := by decide +kernel
theorem dX12_isClause_19 : decode cX12_isClause 19 = .ok (.bipush 104, 2) := by decide +kernel
theorem dX12_isClause_21 : decode cX12_isClause 21 = .ok (.if_icmp .eq 15, 3) := by decide +kernel
theorem dX12_isClause_24 : decode cX12_isClause 24 = .ok (.iload_n 0, 1) := by decide +kernel
theorem dX12_isClause_25 : decode cX12_isClause 25 = .ok (.bipush 112, 2) := by decide +kernel
theorem dX12_isClause_27 : decode cX12_isClause 27 = .ok (.if_icmp .eq 9, 3) := by decide +kernel
theorem dX12_isClause_30 : decode cX12_isClause 30 = .ok (.iload_n 0, 1) := by decide +kernel
theorem dX12_isClause_31 : decode cX12_isClause 31 = .ok (.bipush 116, 2) := by decide +kernel
theorem dX12_isClause_33 : decode cX12_isClause 33 = .ok (.if_icmp .ne 7, 3) := by decide +kernel
theorem dX12_isClause_36 : decode cX12_isClause 36 = .ok (.iconst 1, 1) := by decide +kernel
theorem dX12_isClause_37 : decode cX12_isClause 37 = .ok (.goto 4, 3) := by decide +kernel
theorem dX12_isClause_40 : decode cX12_isClause 40 = .ok (.iconst 0, 1) := by decide +kernel
theorem dX12_isClause_41 : decode cX12_isClause 41 = .ok (.ireturn, 1) := by decide +kernel
set_option maxRecDepth 20000 in
set_option maxHeartbeats 4000000 in
theorem m_isClause (E : xE) (l : Launch) (a : Nat → Nat) (cd : Cd) (hG : Good cd) (ws : va_W) (hW : WX (okM E a cd) ws) (p0 : Int32) : xI E l yX12_isClause cX12_isClause 1 (some .boolean) 0 [.int p0] ws (fun r w => w = ws ∧ zb r ∧ (¬ r = 0 → ¬ p0 = -1)) := by
  refine xI_start (lv := [(0, .int p0)]) RX12 (by decide) rfl (Nat.le_of_ble_eq_true rfl) rfl (fun p e s m below meth c A C hr hlk => ?_)
  refine x_iload_n C dX12_isClause_0 rfl 0 rfl rfl ?_
  refine x_bipush C (v := 108) dX12_isClause_1 (by decide) rfl ?_
  refine x_icmp_eq C (tgt := 36) dX12_isClause_3 (by decide) rfl (fun c1 => ?_) (fun c1 => ?_)
  · skip
    refine x_iconst C (v := 1) dX12_isClause_36 (by decide) rfl ?_
    refine x_goto C (tgt := 41) dX12_isClause_37 (by decide) ?_
    exact x_zret C hr hlk rfl dX12_isClause_41 ⟨rfl, (Or.inr rfl), (fun _ => by rw [c1]; decide)⟩
  · skip
    refine x_iload_n C dX12_isClause_6 rfl 0 rfl rfl ?_
    refine x_bipush C (v := 102) dX12_isClause_7 (by decide) rfl ?_
    refine x_icmp_eq C (tgt := 36) dX12_isClause_9 (by decide) rfl (fun c2 => ?_) (fun c2 => ?_)
    · skip
      refine x_iconst C (v := 1) dX12_isClause_36 (by decide) rfl ?_
      refine x_goto C (tgt := 41) dX12_isClause_37 (by decide) ?_
      exact x_zret C hr hlk rfl dX12_isClause_41 ⟨rfl, (Or.inr rfl), (fun _ => by rw [c2]; decide)⟩
    · skip
      refine x_iload_n C dX12_isClause_12 rfl 0 rfl rfl ?_
      refine x_bipush C (v := 98) dX12_isClause_13 (by decide) rfl ?_
      refine x_icmp_eq C (tgt := 36) dX12_isClause_15 (by decide) rfl (fun c3 => ?_) (fun c3 => ?_)
      · skip
        refine x_iconst C (v := 1) dX12_isClause_36 (by decide) rfl ?_
        refine x_goto C (tgt := 41) dX12_isClause_37 (by decide) ?_
        exact x_zret C hr hlk rfl dX12_isClause_41 ⟨rfl, (Or.inr rfl), (fun _ => by rw [c3]; decide)⟩
      · skip
        refine x_iload_n C dX12_isClause_18 rfl 0 rfl rfl ?_
        refine x_bipush C (v := 104) dX12_isClause_19 (by decide) rfl ?_
        refine x_icmp_eq C (tgt := 36) dX12_isClause_21 (by decide) rfl (fun c4 => ?_) (fun c4 => ?_)
        · skip
          refine x_iconst C (v := 1) dX12_isClause_36 (by decide) rfl ?_
          refine x_goto C (tgt := 41) dX12_isClause_37 (by decide) ?_
          exact x_zret C hr hlk rfl dX12_isClause_41 ⟨rfl, (Or.inr rfl), (fun _ => by rw [c4]; decide)⟩
        · skip
          refine x_iload_n C dX12_isClause_24 rfl 0 rfl rfl ?_
          refine x_bipush C (v := 112) dX12_isClause_25 (by decide) rfl ?_
          refine x_icmp_eq C (tgt := 36) dX12_isClause_27 (by decide) rfl (fun c5 => ?_) (fun c5 => ?_)
          · skip
            refine x_iconst C (v := 1) dX12_isClause_36 (by decide) rfl ?_
            refine x_goto C (tgt := 41) dX12_isClause_37 (by decide) ?_
            exact x_zret C hr hlk rfl dX12_isClause_41 ⟨rfl, (Or.inr rfl), (fun _ => by rw [c5]; decide)⟩
          · skip
            refine x_iload_n C dX12_isClause_30 rfl 0 rfl rfl ?_
            refine x_bipush C (v := 116) dX12_isClause_31 (by decide) rfl ?_
            refine x_icmp_ne C (tgt := 40) dX12_isClause_33 (by decide) rfl (fun c6 => ?_) (fun c6 => ?_)
            · skip
              refine x_iconst C (v := 0) dX12_isClause_40 (by decide) rfl ?_
              exact x_zret C hr hlk rfl dX12_isClause_41 ⟨rfl, (Or.inl rfl), (fun q => absurd rfl q)⟩
            · skip
              refine x_iconst C (v := 1) dX12_isClause_36 (by decide) rfl ?_
              refine x_goto C (tgt := 41) dX12_isClause_37 (by decide) ?_
              exact x_zret C hr hlk rfl dX12_isClause_41 ⟨rfl, (Or.inr rfl), (fun _ => by rw [c6]; decide)⟩
theorem dX12_readsClause_0 : decode cX12_readsClause 0 = .ok (.aload_n 0, 1) := by decide +kernel
theorem dX12_readsClause_1 : decode cX12_readsClause 1 = .ok (.invokevirtual 137, 3) := by decide +kernel
theorem dX12_readsClause_4 : decode cX12_readsClause 4 = .ok (.istore_n 1, 1) := by decide +kernel
theorem dX12_readsClause_5 : decode cX12_readsClause 5 = .ok (.iload_n 1, 1) := by decide +kernel
theorem dX12_readsClause_6 : decode cX12_readsClause 6 = .ok (.invokestatic 208, 3) := by decide +kernel
theorem dX12_readsClause_9 : decode cX12_readsClause 9 = .ok (.ifCond .ne 13, 3) := by decide +kernel
theorem dX12_readsClause_12 : decode cX12_readsClause 12 = .ok (.aload_n 0, 1) := by decide +kernel
theorem dX12_readsClause_13 : decode cX12_readsClause 13 = .ok (.iconst 1, 1) := by decide +kernel
theorem dX12_readsClause_14 : decode cX12_readsClause 14 = .ok (.aload_n 0, 1) := by decide +kernel
theorem dX12_readsClause_15 : decode cX12_readsClause 15 = .ok (.getfield 131, 3) := by decide +kernel
theorem dX12_readsClause_18 : decode cX12_readsClause 18 = .ok (.invokevirtual 144, 3) := by decide +kernel
theorem dX12_readsClause_21 : decode cX12_readsClause 21 = .ok (.ireturn, 1) := by decide +kernel
theorem dX12_readsClause_22 : decode cX12_readsClause 22 = .ok (.aload_n 0, 1) := by decide +kernel
theorem dX12_readsClause_23 : decode cX12_readsClause 23 = .ok (.getfield 211, 3) := by decide +kernel
theorem dX12_readsClause_26 : decode cX12_readsClause 26 = .ok (.bipush 16, 2) := by decide +kernel
theorem dX12_readsClause_28 : decode cX12_readsClause 28 = .ok (.if_icmp .ne 13, 3) := by decide +kernel
theorem dX12_readsClause_31 : decode cX12_readsClause 31 = .ok (.aload_n 0, 1) := by decide +kernel
theorem dX12_readsClause_32 : decode cX12_readsClause 32 = .ok (.iconst 4, 1) := by decide +kernel
theorem dX12_readsClause_33 : decode cX12_readsClause 33 = .ok (.aload_n 0, 1) := by decide +kernel
theorem dX12_readsClause_34 : decode cX12_readsClause 34 = .ok (.getfield 131, 3) := by decide +kernel
theorem dX12_readsClause_37 : decode cX12_readsClause 37 = .ok (.invokevirtual 144, 3) := by decide +kernel
theorem dX12_readsClause_40 : decode cX12_readsClause 40 = .ok (.ireturn, 1) := by decide +kernel
theorem dX12_readsClause_41 : decode cX12_readsClause 41 = .ok (.aload_n 0, 1) := by decide +kernel
theorem dX12_readsClause_42 : decode cX12_readsClause 42 = .ok (.getfield 29, 3) := by decide +kernel
theorem dX12_readsClause_45 : decode cX12_readsClause 45 = .ok (.aload_n 0, 1) := by decide +kernel
theorem dX12_readsClause_46 : decode cX12_readsClause 46 = .ok (.getfield 211, 3) := by decide +kernel
theorem dX12_readsClause_49 : decode cX12_readsClause 49 = .ok (.iload_n 1, 1) := by decide +kernel
theorem dX12_readsClause_50 : decode cX12_readsClause 50 = .ok (.iastore, 1) := by decide +kernel
theorem dX12_readsClause_51 : decode cX12_readsClause 51 = .ok (.aload_n 0, 1) := by decide +kernel
theorem dX12_readsClause_52 : decode cX12_readsClause 52 = .ok (.aload_n 0, 1) := by decide +kernel
theorem dX12_readsClause_53 : decode cX12_readsClause 53 = .ok (.getfield 131, 3) := by decide +kernel
theorem dX12_readsClause_56 : decode cX12_readsClause 56 = .ok (.iconst 1, 1) := by decide +kernel
theorem dX12_readsClause_57 : decode cX12_readsClause 57 = .ok (.iadd, 1) := by decide +kernel
theorem dX12_readsClause_58 : decode cX12_readsClause 58 = .ok (.putfield 131, 3) := by decide +kernel
theorem dX12_readsClause_61 : decode cX12_readsClause 61 = .ok (.aload_n 0, 1) := by decide +kernel
theorem dX12_readsClause_62 : decode cX12_readsClause 62 = .ok (.getfield 32, 3) := by decide +kernel
theorem dX12_readsClause_65 : decode cX12_readsClause 65 = .ok (.aload_n 0, 1) := by decide +kernel
theorem dX12_readsClause_66 : decode cX12_readsClause 66 = .ok (.getfield 211, 3) := by decide +kernel
theorem dX12_readsClause_69 : decode cX12_readsClause 69 = .ok (.aload_n 0, 1) := by decide +kernel
theorem dX12_readsClause_70 : decode cX12_readsClause 70 = .ok (.getfield 154, 3) := by decide +kernel
theorem dX12_readsClause_73 : decode cX12_readsClause 73 = .ok (.iastore, 1) := by decide +kernel
theorem dX12_readsClause_74 : decode cX12_readsClause 74 = .ok (.aload_n 0, 1) := by decide +kernel
theorem dX12_readsClause_75 : decode cX12_readsClause 75 = .ok (.iconst 0, 1) := by decide +kernel
theorem dX12_readsClause_76 : decode cX12_readsClause 76 = .ok (.putfield 158, 3) := by decide +kernel
theorem dX12_readsClause_79 : decode cX12_readsClause 79 = .ok (.aload_n 0, 1) := by decide +kernel
theorem dX12_readsClause_80 : decode cX12_readsClause 80 = .ok (.iconst 0, 1) := by decide +kernel
theorem dX12_readsClause_81 : decode cX12_readsClause 81 = .ok (.putfield 161, 3) := by decide +kernel
theorem dX12_readsClause_84 : decode cX12_readsClause 84 = .ok (.aload_n 0, 1) := by decide +kernel
theorem dX12_readsClause_85 : decode cX12_readsClause 85 = .ok (.invokevirtual 193, 3) := by decide +kernel
theorem dX12_readsClause_88 : decode cX12_readsClause 88 = .ok (.ifCond .ne 5, 3) := by decide +kernel
theorem dX12_readsClause_91 : decode cX12_readsClause 91 = .ok (.iconst 0, 1) := by decide +kernel
theorem dX12_readsClause_92 : decode cX12_readsClause 92 = .ok (.ireturn, 1) := by decide +kernel
theorem dX12_readsClause_93 : decode cX12_readsClause 93 = .ok (.aload_n 0, 1) := by decide +kernel
theorem dX12_readsClause_94 : decode cX12_readsClause 94 = .ok (.getfield 35, 3) := by decide +kernel
theorem dX12_readsClause_97 : decode cX12_readsClause 97 = .ok (.aload_n 0, 1) := by decide +kernel
theorem dX12_readsClause_98 : decode cX12_readsClause 98 = .ok (.getfield 211, 3) := by decide +kernel
theorem dX12_readsClause_101 : decode cX12_readsClause 101 = .ok (.aload_n 0, 1) := by decide +kernel
theorem dX12_readsClause_102 : decode cX12_readsClause 102 = .ok (.getfield 154, 3) := by decide +kernel
theorem dX12_readsClause_105 : decode cX12_readsClause 105 = .ok (.iastore, 1) := by decide +kernel
theorem dX12_readsClause_106 : decode cX12_readsClause 106 = .ok (.aload_n 0, 1) := by decide +kernel
theorem dX12_readsClause_107 : decode cX12_readsClause 107 = .ok (.invokevirtual 214, 3) := by decide +kernel
theorem dX12_readsClause_110 : decode cX12_readsClause 110 = .ok (.ifCond .ne 5, 3) := by decide +kernel
theorem dX12_readsClause_113 : decode cX12_readsClause 113 = .ok (.iconst 0, 1) := by decide +kernel
theorem dX12_readsClause_114 : decode cX12_readsClause 114 = .ok (.ireturn, 1) := by decide +kernel
theorem dX12_readsClause_115 : decode cX12_readsClause 115 = .ok (.aload_n 0, 1) := by decide +kernel
theorem dX12_readsClause_116 : decode cX12_readsClause 116 = .ok (.getfield 38, 3) := by decide +kernel
theorem dX12_readsClause_119 : decode cX12_readsClause 119 = .ok (.aload_n 0, 1) := by decide +kernel
theorem dX12_readsClause_120 : decode cX12_readsClause 120 = .ok (.getfield 211, 3) := by decide +kernel
theorem dX12_readsClause_123 : decode cX12_readsClause 123 = .ok (.aload_n 0, 1) := by decide +kernel
theorem dX12_readsClause_124 : decode cX12_readsClause 124 = .ok (.getfield 154, 3) := by decide +kernel
theorem dX12_readsClause_127 : decode cX12_readsClause 127 = .ok (.iastore, 1) := by decide +kernel
theorem dX12_readsClause_128 : decode cX12_readsClause 128 = .ok (.aload_n 0, 1) := by decide +kernel
theorem dX12_readsClause_129 : decode cX12_readsClause 129 = .ok (.aload_n 0, 1) := by decide +kernel
theorem dX12_readsClause_130 : decode cX12_readsClause 130 = .ok (.getfield 211, 3) := by decide +kernel
theorem dX12_readsClause_133 : decode cX12_readsClause 133 = .ok (.iconst 1, 1) := by decide +kernel
theorem dX12_readsClause_134 : decode cX12_readsClause 134 = .ok (.iadd, 1) := by decide +kernel
theorem dX12_readsClause_135 : decode cX12_readsClause 135 = .ok (.putfield 211, 3) := by decide +kernel
theorem dX12_readsClause_138 : decode cX12_readsClause 138 = .ok (.iconst 1, 1) := by decide +kernel
theorem dX12_readsClause_139 : decode cX12_readsClause 139 = .ok (.ireturn, 1) := by decide +kernel
set_option maxRecDepth 20000 in
set_option maxHeartbeats 4000000 in
theorem m_readsClause (E : xE) (l : Launch) (a : Nat → Nat) (cd : Cd) (hG : Good cd) (ws : va_W) (hW : WX (okM E a cd) ws) (tp pl le cm wt sm lm : Nat) (nu : Int32) (h0 : MO a cd ws tp pl le cm wt sm lm nu) (tf : Nat → Int32) (htf : ws[4]? = some (bA E (a 4) 260 tf)) (hpl : pl ≤ le) (fs : Nat → Int32) (hfs : ws[5]? = some (iA E (a 5) 260 fs)) (fw : Nat → Int32) (hfw : ws[6]? = some (iA E (a 6) 260 fw)) (f8 : Nat → Int32) (h8 : ws[8]? = some (iA E (a 8) 16 f8)) (f9 : Nat → Int32) (h9 : ws[9]? = some (iA E (a 9) 16 f9)) (f10 : Nat → Int32) (h10 : ws[10]? = some (iA E (a 10) 16 f10)) (hcm : cm ≤ pl) (hkl : KL fs f8 f9 f10 sm cm) : xI E l yX12_readsClause cX12_readsClause 2 (some .boolean) 7 [.ref (a 0)] ws (fun r w => WX (okM E a cd) w ∧ keeps ws w (fun q => q = 0 ∨ q = 5 ∨ q = 6 ∨ q = 7 ∨ q = 8 ∨ q = 9 ∨ q = 10) ∧ zb r ∧ ((r = 0 ∧ RF E a cd w tp le sm lm) ∨ (r = 1 ∧ ∃ (pl2 cm2 wt2 : Nat) (fs2 fw2 g8 g9 g10 : Nat → Int32), pl < pl2 ∧ pl2 ≤ le ∧ RS E a cd w tp pl2 le cm2 wt2 (sm + 1) lm fs2 fw2 ∧ w[8]? = some (iA E (a 8) 16 g8) ∧ w[9]? = some (iA E (a 9) 16 g9) ∧ w[10]? = some (iA E (a 10) 16 g10) ∧ cm2 ≤ pl2 ∧ KL fs2 g8 g9 g10 (sm + 1) cm2))) := by
  refine xI_start (lv := [(0, .ref (a 0))]) RX12 (by decide) rfl (Nat.le_of_ble_eq_true rfl) rfl (fun p e s m below meth c A C hr hlk => ?_)
  have kp0 : keeps ws ws (fun q => q = 0 ∨ q = 5 ∨ q = 6 ∨ q = 7 ∨ q = 8 ∨ q = 9 ∨ q = 10) := keeps_rf
  obtain ⟨v1, v2, v3, v4, v5, v6, v7, n8, n9, bo10, bo11, zb12, k13⟩ := h0
  refine x_aload_n C dX12_readsClause_0 rfl 0 rfl rfl ?_
  refine x_vi C (As := []) (rest := []) (m_here E l a cd hG ws hW tp pl le cm wt sm lm nu ⟨v1, v2, v3, v4, v5, v6, v7, n8, n9, ⟨by omega, by omega, by omega, by omega, by omega, by omega, by omega⟩, ⟨by omega, by omega⟩, zb12, k13⟩ tf htf) mf_X12_here w_1317 0 k13 rfl rfl rfl (Nat.le_of_ble_eq_true rfl) ⟨(Nat.le_of_ble_eq_true rfl), (Nat.le_of_ble_eq_true rfl)⟩ ⟨(Nat.le_of_ble_eq_true rfl), (Nat.le_of_ble_eq_true rfl)⟩ dX12_readsClause_1 rfl (fun r15 w16 h14 => ?_)
  obtain ⟨hW17, x18⟩ := h14
  refine x_ws hW17 ?_
  refine x_istore_n C (lv' := [(1, .int r15), (0, .ref (a 0))]) dX12_readsClause_4 rfl (by decide) rfl rfl ?_
  refine x_iload_n C dX12_readsClause_5 rfl 0 rfl rfl ?_
  refine x_si C (As := [.int r15]) (rest := []) (m_isClause E l a cd hG ws hW r15) mf_X12_isClause w_1321 rfl rfl (Nat.le_of_ble_eq_true rfl) ⟨(Nat.le_of_ble_eq_true rfl), (Nat.le_of_ble_eq_true rfl)⟩ ⟨(Nat.le_of_ble_eq_true rfl), (Nat.le_of_ble_eq_true rfl)⟩ dX12_readsClause_6 rfl (fun r20 w21 h19 => ?_)
  obtain ⟨hW22, zb23, x24⟩ := h19
  refine x_ws hW22 ?_
  refine x_if_ne C (tgt := 22) dX12_readsClause_9 (by decide) rfl (fun c25 => ?_) (fun c25 => ?_)
  · skip
    have hic26 := x24 c25
    have hp27 := hv_lt (x18.symm) hic26
    refine x_aload_n C dX12_readsClause_22 rfl 1 rfl rfl ?_
    refine x_get C (ci := 11) (k := 12) 0 k13 rfl in_X12 (by decide) w_1130 rfl dX12_readsClause_23 rfl ?_
    refine x_bipush C (v := 16) dX12_readsClause_26 (by decide) rfl ?_
    refine x_icmp_ne C (tgt := 41) dX12_readsClause_28 (by decide) rfl (fun c28 => ?_) (fun c28 => ?_)
    · skip
      have nf29 : ¬ sm = 16 := fun q => c28 (congrArg nI q)
      refine x_aload_n C dX12_readsClause_41 rfl 1 rfl rfl ?_
      refine x_get C (ci := 11) (k := 16) 0 k13 rfl in_X12 (by decide) w_1134 rfl dX12_readsClause_42 rfl ?_
      refine x_aload_n C dX12_readsClause_45 rfl 1 rfl rfl ?_
      refine x_get C (ci := 11) (k := 12) 0 k13 rfl in_X12 (by decide) w_1130 rfl dX12_readsClause_46 rfl ?_
      refine x_iload_n C dX12_readsClause_49 rfl 0 rfl rfl ?_
      obtain ⟨_, k30, f31, rfl⟩ := hW 7 _ rfl
      obtain ⟨w32, hw33⟩ : ∃ w : va_W, w = List.set ws 7 (iA E (a 7) 16 (upd f31 sm r15)) := ⟨_, rfl⟩
      refine x_iask C sm (nI_clamp (by omega)) (nI_pos (by omega)) (by omega) 7 k30 hw33.symm dX12_readsClause_50 rfl ?_
      have hW34 : WX (okM E a cd) w32 := by rw [hw33]; exact hW.set (k := 7) rfl ⟨_, rfl⟩
      have k35 : w32[0]? = some (ob (a 0) 11 [.ref (a 1), .ref (a 2), .ref (a 3), .ref (a 4), .int (nI tp), .int (nI pl), .int (nI le), .int v1, .int nu, .int v2, .int (nI cm), .int (nI wt), .int (nI sm), .int (nI (cd.2.2.2.2.2)), .ref (a 5), .ref (a 6), .ref (a 7), .ref (a 8), .ref (a 9), .ref (a 10), .ref (a 11), .ref (a 12), .ref (a 13), .ref (a 14), .ref (a 15), .ref (a 16), .ref (a 17), .int (nI lm), .ref (a 18), .ref (a 19), .ref (a 20), .ref (a 21), .int v3, .int v4, .int v5, .int v6, .int (nI n8), .int (nI n9), .ref (a 22), .ref (a 23), .ref (a 24), .ref (a 25), .ref (a 26), .ref (a 27), .ref (a 28), .ref (a 29), .ref (a 30), .int v7]) := by rw [hw33]; exact set_ne k13 (by decide)
      have k36 : w32[4]? = some (bA E (a 4) 260 tf) := by rw [hw33]; exact set_ne htf (by decide)
      have k37 : w32[5]? = some (iA E (a 5) 260 fs) := by rw [hw33]; exact set_ne hfs (by decide)
      have k38 : w32[6]? = some (iA E (a 6) 260 fw) := by rw [hw33]; exact set_ne hfw (by decide)
      have k39 : w32[8]? = some (iA E (a 8) 16 f8) := by rw [hw33]; exact set_ne h8 (by decide)
      have k40 : w32[9]? = some (iA E (a 9) 16 f9) := by rw [hw33]; exact set_ne h9 (by decide)
      have k41 : w32[10]? = some (iA E (a 10) 16 f10) := by rw [hw33]; exact set_ne h10 (by decide)
      have k42 : w32[7]? = some (iA E (a 7) 16 (upd f31 sm r15)) := by rw [hw33]; exact set_eq k30
      have kp43 := keeps_set kp0 hw33 (by first | exact rfl | decide | omega | (dsimp only; omega))
      refine x_aload_n C dX12_readsClause_51 rfl 1 rfl rfl ?_
      refine x_aload_n C dX12_readsClause_52 rfl 1 rfl rfl ?_
      refine x_get C (ci := 11) (k := 5) 0 k35 rfl in_X12 (by decide) w_1123 rfl dX12_readsClause_53 rfl ?_
      refine x_iconst C (v := 1) dX12_readsClause_56 (by decide) rfl ?_
      refine x_iadd C (v := (nI (pl + 1))) dX12_readsClause_57 (nI_add pl 1) rfl ?_
      obtain ⟨w44, hw45⟩ : ∃ w : va_W, w = List.set w32 0 (ob (a 0) 11 [.ref (a 1), .ref (a 2), .ref (a 3), .ref (a 4), .int (nI tp), .int (nI (pl + 1)), .int (nI le), .int v1, .int nu, .int v2, .int (nI cm), .int (nI wt), .int (nI sm), .int (nI (cd.2.2.2.2.2)), .ref (a 5), .ref (a 6), .ref (a 7), .ref (a 8), .ref (a 9), .ref (a 10), .ref (a 11), .ref (a 12), .ref (a 13), .ref (a 14), .ref (a 15), .ref (a 16), .ref (a 17), .int (nI lm), .ref (a 18), .ref (a 19), .ref (a 20), .ref (a 21), .int v3, .int v4, .int v5, .int v6, .int (nI n8), .int (nI n9), .ref (a 22), .ref (a 23), .ref (a 24), .ref (a 25), .ref (a 26), .ref (a 27), .ref (a 28), .ref (a 29), .ref (a 30), .int v7]) := ⟨_, rfl⟩
      refine x_put C (ci := 11) (k := 5) (ty := .int) 0 k35 rfl in_X12 tyX12 tyX12_ok nmX12 (by decide) w_1123 rfl rfl rfl rfl (Nat.le_of_ble_eq_true rfl) hw45.symm dX12_readsClause_58 rfl ?_
      have hW46 : WX (okM E a cd) w44 := by rw [hw45]; exact hW34.set (k := 0) rfl ⟨tp, (pl + 1), le, v1, nu, v2, cm, wt, sm, lm, v3, v4, v5, v6, n8, n9, v7, by omega, by omega, by omega, by omega, by omega, by omega, by omega, by omega, by omega, zb12, rfl⟩
      have k47 : w44[0]? = some (ob (a 0) 11 [.ref (a 1), .ref (a 2), .ref (a 3), .ref (a 4), .int (nI tp), .int (nI (pl + 1)), .int (nI le), .int v1, .int nu, .int v2, .int (nI cm), .int (nI wt), .int (nI sm), .int (nI (cd.2.2.2.2.2)), .ref (a 5), .ref (a 6), .ref (a 7), .ref (a 8), .ref (a 9), .ref (a 10), .ref (a 11), .ref (a 12), .ref (a 13), .ref (a 14), .ref (a 15), .ref (a 16), .ref (a 17), .int (nI lm), .ref (a 18), .ref (a 19), .ref (a 20), .ref (a 21), .int v3, .int v4, .int v5, .int v6, .int (nI n8), .int (nI n9), .ref (a 22), .ref (a 23), .ref (a 24), .ref (a 25), .ref (a 26), .ref (a 27), .ref (a 28), .ref (a 29), .ref (a 30), .int v7]) := by rw [hw45]; exact set_eq k35
      have k48 : w44[4]? = some (bA E (a 4) 260 tf) := by rw [hw45]; exact set_ne k36 (by decide)
      have k49 : w44[5]? = some (iA E (a 5) 260 fs) := by rw [hw45]; exact set_ne k37 (by decide)
      have k50 : w44[6]? = some (iA E (a 6) 260 fw) := by rw [hw45]; exact set_ne k38 (by decide)
      have k51 : w44[8]? = some (iA E (a 8) 16 f8) := by rw [hw45]; exact set_ne k39 (by decide)
      have k52 : w44[9]? = some (iA E (a 9) 16 f9) := by rw [hw45]; exact set_ne k40 (by decide)
      have k53 : w44[10]? = some (iA E (a 10) 16 f10) := by rw [hw45]; exact set_ne k41 (by decide)
      have k54 : w44[7]? = some (iA E (a 7) 16 (upd f31 sm r15)) := by rw [hw45]; exact set_ne k42 (by decide)
      have kp55 := keeps_set kp43 hw45 (by first | exact rfl | decide | omega | (dsimp only; omega))
      refine x_aload_n C dX12_readsClause_61 rfl 1 rfl rfl ?_
      refine x_get C (ci := 11) (k := 17) 0 k47 rfl in_X12 (by decide) w_1135 rfl dX12_readsClause_62 rfl ?_
      refine x_aload_n C dX12_readsClause_65 rfl 1 rfl rfl ?_
      refine x_get C (ci := 11) (k := 12) 0 k47 rfl in_X12 (by decide) w_1130 rfl dX12_readsClause_66 rfl ?_
      refine x_aload_n C dX12_readsClause_69 rfl 1 rfl rfl ?_
      refine x_get C (ci := 11) (k := 10) 0 k47 rfl in_X12 (by decide) w_1128 rfl dX12_readsClause_70 rfl ?_
      obtain ⟨w56, hw57⟩ : ∃ w : va_W, w = List.set w44 8 (iA E (a 8) 16 (upd f8 sm (nI cm))) := ⟨_, rfl⟩
      refine x_iask C sm (nI_clamp (by omega)) (nI_pos (by omega)) (by omega) 8 k51 hw57.symm dX12_readsClause_73 rfl ?_
      have hW58 : WX (okM E a cd) w56 := by rw [hw57]; exact hW46.set (k := 8) rfl ⟨_, rfl⟩
      have k59 : w56[0]? = some (ob (a 0) 11 [.ref (a 1), .ref (a 2), .ref (a 3), .ref (a 4), .int (nI tp), .int (nI (pl + 1)), .int (nI le), .int v1, .int nu, .int v2, .int (nI cm), .int (nI wt), .int (nI sm), .int (nI (cd.2.2.2.2.2)), .ref (a 5), .ref (a 6), .ref (a 7), .ref (a 8), .ref (a 9), .ref (a 10), .ref (a 11), .ref (a 12), .ref (a 13), .ref (a 14), .ref (a 15), .ref (a 16), .ref (a 17), .int (nI lm), .ref (a 18), .ref (a 19), .ref (a 20), .ref (a 21), .int v3, .int v4, .int v5, .int v6, .int (nI n8), .int (nI n9), .ref (a 22), .ref (a 23), .ref (a 24), .ref (a 25), .ref (a 26), .ref (a 27), .ref (a 28), .ref (a 29), .ref (a 30), .int v7]) := by rw [hw57]; exact set_ne k47 (by decide)
      have k60 : w56[4]? = some (bA E (a 4) 260 tf) := by rw [hw57]; exact set_ne k48 (by decide)
      have k61 : w56[5]? = some (iA E (a 5) 260 fs) := by rw [hw57]; exact set_ne k49 (by decide)
      have k62 : w56[6]? = some (iA E (a 6) 260 fw) := by rw [hw57]; exact set_ne k50 (by decide)
      have k63 : w56[8]? = some (iA E (a 8) 16 (upd f8 sm (nI cm))) := by rw [hw57]; exact set_eq k51
      have k64 : w56[9]? = some (iA E (a 9) 16 f9) := by rw [hw57]; exact set_ne k52 (by decide)
      have k65 : w56[10]? = some (iA E (a 10) 16 f10) := by rw [hw57]; exact set_ne k53 (by decide)
      have k66 : w56[7]? = some (iA E (a 7) 16 (upd f31 sm r15)) := by rw [hw57]; exact set_ne k54 (by decide)
      have kp67 := keeps_set kp55 hw57 (by first | exact rfl | decide | omega | (dsimp only; omega))
      refine x_aload_n C dX12_readsClause_74 rfl 1 rfl rfl ?_
      refine x_iconst C (v := 0) dX12_readsClause_75 (by decide) rfl ?_
      obtain ⟨w68, hw69⟩ : ∃ w : va_W, w = List.set w56 0 (ob (a 0) 11 [.ref (a 1), .ref (a 2), .ref (a 3), .ref (a 4), .int (nI tp), .int (nI (pl + 1)), .int (nI le), .int v1, .int nu, .int 0, .int (nI cm), .int (nI wt), .int (nI sm), .int (nI (cd.2.2.2.2.2)), .ref (a 5), .ref (a 6), .ref (a 7), .ref (a 8), .ref (a 9), .ref (a 10), .ref (a 11), .ref (a 12), .ref (a 13), .ref (a 14), .ref (a 15), .ref (a 16), .ref (a 17), .int (nI lm), .ref (a 18), .ref (a 19), .ref (a 20), .ref (a 21), .int v3, .int v4, .int v5, .int v6, .int (nI n8), .int (nI n9), .ref (a 22), .ref (a 23), .ref (a 24), .ref (a 25), .ref (a 26), .ref (a 27), .ref (a 28), .ref (a 29), .ref (a 30), .int v7]) := ⟨_, rfl⟩
      refine x_put C (ci := 11) (k := 9) (ty := .int) 0 k59 rfl in_X12 tyX12 tyX12_ok nmX12 (by decide) w_1127 rfl rfl rfl rfl (Nat.le_of_ble_eq_true rfl) hw69.symm dX12_readsClause_76 rfl ?_
      have hW70 : WX (okM E a cd) w68 := by rw [hw69]; exact hW58.set (k := 0) rfl ⟨tp, (pl + 1), le, v1, nu, (0 : Int32), cm, wt, sm, lm, v3, v4, v5, v6, n8, n9, v7, by omega, by omega, by omega, by omega, by omega, by omega, by omega, by omega, by omega, zb12, rfl⟩
      have k71 : w68[0]? = some (ob (a 0) 11 [.ref (a 1), .ref (a 2), .ref (a 3), .ref (a 4), .int (nI tp), .int (nI (pl + 1)), .int (nI le), .int v1, .int nu, .int 0, .int (nI cm), .int (nI wt), .int (nI sm), .int (nI (cd.2.2.2.2.2)), .ref (a 5), .ref (a 6), .ref (a 7), .ref (a 8), .ref (a 9), .ref (a 10), .ref (a 11), .ref (a 12), .ref (a 13), .ref (a 14), .ref (a 15), .ref (a 16), .ref (a 17), .int (nI lm), .ref (a 18), .ref (a 19), .ref (a 20), .ref (a 21), .int v3, .int v4, .int v5, .int v6, .int (nI n8), .int (nI n9), .ref (a 22), .ref (a 23), .ref (a 24), .ref (a 25), .ref (a 26), .ref (a 27), .ref (a 28), .ref (a 29), .ref (a 30), .int v7]) := by rw [hw69]; exact set_eq k59
      have k72 : w68[4]? = some (bA E (a 4) 260 tf) := by rw [hw69]; exact set_ne k60 (by decide)
      have k73 : w68[5]? = some (iA E (a 5) 260 fs) := by rw [hw69]; exact set_ne k61 (by decide)
      have k74 : w68[6]? = some (iA E (a 6) 260 fw) := by rw [hw69]; exact set_ne k62 (by decide)
      have k75 : w68[8]? = some (iA E (a 8) 16 (upd f8 sm (nI cm))) := by rw [hw69]; exact set_ne k63 (by decide)
      have k76 : w68[9]? = some (iA E (a 9) 16 f9) := by rw [hw69]; exact set_ne k64 (by decide)
      have k77 : w68[10]? = some (iA E (a 10) 16 f10) := by rw [hw69]; exact set_ne k65 (by decide)
      have k78 : w68[7]? = some (iA E (a 7) 16 (upd f31 sm r15)) := by rw [hw69]; exact set_ne k66 (by decide)
      have kp79 := keeps_set kp67 hw69 (by first | exact rfl | decide | omega | (dsimp only; omega))
      refine x_aload_n C dX12_readsClause_79 rfl 1 rfl rfl ?_
      refine x_iconst C (v := 0) dX12_readsClause_80 (by decide) rfl ?_
      obtain ⟨w80, hw81⟩ : ∃ w : va_W, w = List.set w68 0 (ob (a 0) 11 [.ref (a 1), .ref (a 2), .ref (a 3), .ref (a 4), .int (nI tp), .int (nI (pl + 1)), .int (nI le), .int v1, .int nu, .int 0, .int (nI cm), .int 0, .int (nI sm), .int (nI (cd.2.2.2.2.2)), .ref (a 5), .ref (a 6), .ref (a 7), .ref (a 8), .ref (a 9), .ref (a 10), .ref (a 11), .ref (a 12), .ref (a 13), .ref (a 14), .ref (a 15), .ref (a 16), .ref (a 17), .int (nI lm), .ref (a 18), .ref (a 19), .ref (a 20), .ref (a 21), .int v3, .int v4, .int v5, .int v6, .int (nI n8), .int (nI n9), .ref (a 22), .ref (a 23), .ref (a 24), .ref (a 25), .ref (a 26), .ref (a 27), .ref (a 28), .ref (a 29), .ref (a 30), .int v7]) := ⟨_, rfl⟩
      refine x_put C (ci := 11) (k := 11) (ty := .int) 0 k71 rfl in_X12 tyX12 tyX12_ok nmX12 (by decide) w_1129 rfl rfl rfl rfl (Nat.le_of_ble_eq_true rfl) hw81.symm dX12_readsClause_81 rfl ?_
      have hW82 : WX (okM E a cd) w80 := by rw [hw81]; exact hW70.set (k := 0) rfl ⟨tp, (pl + 1), le, v1, nu, (0 : Int32), cm, 0, sm, lm, v3, v4, v5, v6, n8, n9, v7, by omega, by omega, by omega, by omega, by omega, by omega, by omega, by omega, by omega, zb12, rfl⟩
      have k83 : w80[0]? = some (ob (a 0) 11 [.ref (a 1), .ref (a 2), .ref (a 3), .ref (a 4), .int (nI tp), .int (nI (pl + 1)), .int (nI le), .int v1, .int nu, .int 0, .int (nI cm), .int 0, .int (nI sm), .int (nI (cd.2.2.2.2.2)), .ref (a 5), .ref (a 6), .ref (a 7), .ref (a 8), .ref (a 9), .ref (a 10), .ref (a 11), .ref (a 12), .ref (a 13), .ref (a 14), .ref (a 15), .ref (a 16), .ref (a 17), .int (nI lm), .ref (a 18), .ref (a 19), .ref (a 20), .ref (a 21), .int v3, .int v4, .int v5, .int v6, .int (nI n8), .int (nI n9), .ref (a 22), .ref (a 23), .ref (a 24), .ref (a 25), .ref (a 26), .ref (a 27), .ref (a 28), .ref (a 29), .ref (a 30), .int v7]) := by rw [hw81]; exact set_eq k71
      have k84 : w80[4]? = some (bA E (a 4) 260 tf) := by rw [hw81]; exact set_ne k72 (by decide)
      have k85 : w80[5]? = some (iA E (a 5) 260 fs) := by rw [hw81]; exact set_ne k73 (by decide)
      have k86 : w80[6]? = some (iA E (a 6) 260 fw) := by rw [hw81]; exact set_ne k74 (by decide)
      have k87 : w80[8]? = some (iA E (a 8) 16 (upd f8 sm (nI cm))) := by rw [hw81]; exact set_ne k75 (by decide)
      have k88 : w80[9]? = some (iA E (a 9) 16 f9) := by rw [hw81]; exact set_ne k76 (by decide)
      have k89 : w80[10]? = some (iA E (a 10) 16 f10) := by rw [hw81]; exact set_ne k77 (by decide)
      have k90 : w80[7]? = some (iA E (a 7) 16 (upd f31 sm r15)) := by rw [hw81]; exact set_ne k78 (by decide)
      have kp91 := keeps_set kp79 hw81 (by first | exact rfl | decide | omega | (dsimp only; omega))
      have hw0 : wgt [] = 0 := rfl
      refine x_aload_n C dX12_readsClause_84 rfl 1 rfl rfl ?_
      refine x_vi C (As := []) (rest := []) (m_readsSum E l a cd hG w80 hW82 tp (pl + 1) le cm 0 sm lm nu ⟨v1, (0 : Int32), v3, v4, v5, v6, v7, n8, n9, ⟨by omega, by omega, by omega, by omega, by omega, by omega, by omega⟩, ⟨by omega, by omega⟩, zb12, k83⟩ tf k84 (by omega) fs k85 fw k86 ([]) (show wR _ [] 0 from rfl) nOps_nil cm 0 (CI_start _ _) (by omega) 0 (by omega) (by omega)) mf_X12_readsSum w_1328 0 k83 rfl rfl rfl (Nat.le_of_ble_eq_true rfl) ⟨(Nat.le_of_ble_eq_true rfl), (Nat.le_of_ble_eq_true rfl)⟩ ⟨(Nat.le_of_ble_eq_true rfl), (Nat.le_of_ble_eq_true rfl)⟩ dX12_readsClause_85 rfl (fun r93 w94 h92 => ?_)
      obtain ⟨hW95, kq96, zb97, x98⟩ := h92
      have k99 : w94[4]? = some (bA E (a 4) 260 tf) := keeps_at kq96 k84 (by first | decide | omega | (dsimp only; omega))
      have k100 : w94[8]? = some (iA E (a 8) 16 (upd f8 sm (nI cm))) := keeps_at kq96 k87 (by first | decide | omega | (dsimp only; omega))
      have k101 : w94[9]? = some (iA E (a 9) 16 f9) := keeps_at kq96 k88 (by first | decide | omega | (dsimp only; omega))
      have k102 : w94[10]? = some (iA E (a 10) 16 f10) := keeps_at kq96 k89 (by first | decide | omega | (dsimp only; omega))
      have k103 : w94[7]? = some (iA E (a 7) 16 (upd f31 sm r15)) := keeps_at kq96 k90 (by first | decide | omega | (dsimp only; omega))
      have kp104 := keeps_tr kp91 kq96 (fun q hq => by first | omega | (dsimp only at *; omega))
      rcases x98 with ⟨e105, rf106⟩ | ⟨e107, pl108, cm109, fs110, fw111, hs112, hs113, hs114, hs115, hs116, hs117, hs118⟩
      · refine x_top e105 ?_
        obtain ⟨pl119, cm120, wt121, fs122, fw123, rs124⟩ := rf106
        obtain ⟨⟨nu125, mo126⟩, k127, k128⟩ := rs124
        obtain ⟨v129, v130, v131, v132, v133, v134, v135, n136, n137, bo138, bo139, zb140, k141⟩ := mo126
        refine x_if_ne C (tgt := 93) dX12_readsClause_88 (by decide) rfl (fun h => absurd h (by decide)) (fun _ => ?_)
        refine x_iconst C (v := 0) dX12_readsClause_91 (by decide) rfl ?_
        exact x_zret C hr hlk rfl dX12_readsClause_92 ⟨hW95, kp104, (Or.inl rfl), (Or.inl ⟨rfl, ⟨pl119, cm120, wt121, _, _, ⟨⟨_, ⟨v129, v130, v131, v132, v133, v134, v135, n136, n137, ⟨by omega, by omega, by omega, by omega, by omega, by omega, by omega⟩, ⟨by omega, by omega⟩, zb140, k141⟩⟩, k127, k128⟩⟩⟩)⟩
      · refine x_top e107 ?_
        obtain ⟨⟨nu142, mo143⟩, k144, k145⟩ := hs115
        obtain ⟨v146, v147, v148, v149, v150, v151, v152, n153, n154, bo155, bo156, zb157, k158⟩ := mo143
        refine x_if_ne C (tgt := 93) dX12_readsClause_88 (by decide) rfl (fun _ => ?_) (fun h => absurd h (by decide))
        refine x_aload_n C dX12_readsClause_93 rfl 1 rfl rfl ?_
        refine x_get C (ci := 11) (k := 18) 0 k158 rfl in_X12 (by decide) w_1136 rfl dX12_readsClause_94 rfl ?_
        refine x_aload_n C dX12_readsClause_97 rfl 1 rfl rfl ?_
        refine x_get C (ci := 11) (k := 12) 0 k158 rfl in_X12 (by decide) w_1130 rfl dX12_readsClause_98 rfl ?_
        refine x_aload_n C dX12_readsClause_101 rfl 1 rfl rfl ?_
        refine x_get C (ci := 11) (k := 10) 0 k158 rfl in_X12 (by decide) w_1128 rfl dX12_readsClause_102 rfl ?_
        obtain ⟨w159, hw160⟩ : ∃ w : va_W, w = List.set w94 9 (iA E (a 9) 16 (upd f9 sm (nI cm109))) := ⟨_, rfl⟩
        refine x_iask C sm (nI_clamp (by omega)) (nI_pos (by omega)) (by omega) 9 k101 hw160.symm dX12_readsClause_105 rfl ?_
        have hW161 : WX (okM E a cd) w159 := by rw [hw160]; exact hW95.set (k := 9) rfl ⟨_, rfl⟩
        have k162 : w159[4]? = some (bA E (a 4) 260 tf) := by rw [hw160]; exact set_ne k99 (by decide)
        have k163 : w159[8]? = some (iA E (a 8) 16 (upd f8 sm (nI cm))) := by rw [hw160]; exact set_ne k100 (by decide)
        have k164 : w159[9]? = some (iA E (a 9) 16 (upd f9 sm (nI cm109))) := by rw [hw160]; exact set_eq k101
        have k165 : w159[10]? = some (iA E (a 10) 16 f10) := by rw [hw160]; exact set_ne k102 (by decide)
        have k166 : w159[7]? = some (iA E (a 7) 16 (upd f31 sm r15)) := by rw [hw160]; exact set_ne k103 (by decide)
        have k167 : w159[0]? = some (ob (a 0) 11 [.ref (a 1), .ref (a 2), .ref (a 3), .ref (a 4), .int (nI tp), .int (nI pl108), .int (nI le), .int v146, .int nu142, .int v147, .int (nI cm109), .int (nI 0), .int (nI sm), .int (nI (cd.2.2.2.2.2)), .ref (a 5), .ref (a 6), .ref (a 7), .ref (a 8), .ref (a 9), .ref (a 10), .ref (a 11), .ref (a 12), .ref (a 13), .ref (a 14), .ref (a 15), .ref (a 16), .ref (a 17), .int (nI lm), .ref (a 18), .ref (a 19), .ref (a 20), .ref (a 21), .int v148, .int v149, .int v150, .int v151, .int (nI n153), .int (nI n154), .ref (a 22), .ref (a 23), .ref (a 24), .ref (a 25), .ref (a 26), .ref (a 27), .ref (a 28), .ref (a 29), .ref (a 30), .int v152]) := by rw [hw160]; exact set_ne k158 (by decide)
        have k168 : w159[5]? = some (iA E (a 5) 260 fs110) := by rw [hw160]; exact set_ne k144 (by decide)
        have k169 : w159[6]? = some (iA E (a 6) 260 fw111) := by rw [hw160]; exact set_ne k145 (by decide)
        have kp170 := keeps_set kp104 hw160 (by first | exact rfl | decide | omega | (dsimp only; omega))
        have hseg1 := CI_seg hs116 (by omega)
        refine x_aload_n C dX12_readsClause_106 rfl 1 rfl rfl ?_
        refine x_vi C (As := []) (rest := []) (m_readsCondition E l a cd hG w159 hW161 tp pl108 le cm109 0 sm lm nu142 ⟨v146, v147, v148, v149, v150, v151, v152, n153, n154, ⟨by omega, by omega, by omega, by omega, by omega, by omega, by omega⟩, ⟨by omega, by omega⟩, zb157, k167⟩ tf k162 (by omega) fs110 k168 fw111 k169 (by omega)) mf_X12_readsCondition w_1371 0 k167 rfl rfl rfl (Nat.le_of_ble_eq_true rfl) ⟨(Nat.le_of_ble_eq_true rfl), (Nat.le_of_ble_eq_true rfl)⟩ ⟨(Nat.le_of_ble_eq_true rfl), (Nat.le_of_ble_eq_true rfl)⟩ dX12_readsClause_107 rfl (fun r172 w173 h171 => ?_)
        obtain ⟨hW174, kq175, zb176, x177⟩ := h171
        have k178 : w173[4]? = some (bA E (a 4) 260 tf) := keeps_at kq175 k162 (by first | decide | omega | (dsimp only; omega))
        have k179 : w173[8]? = some (iA E (a 8) 16 (upd f8 sm (nI cm))) := keeps_at kq175 k163 (by first | decide | omega | (dsimp only; omega))
        have k180 : w173[9]? = some (iA E (a 9) 16 (upd f9 sm (nI cm109))) := keeps_at kq175 k164 (by first | decide | omega | (dsimp only; omega))
        have k181 : w173[10]? = some (iA E (a 10) 16 f10) := keeps_at kq175 k165 (by first | decide | omega | (dsimp only; omega))
        have k182 : w173[7]? = some (iA E (a 7) 16 (upd f31 sm r15)) := keeps_at kq175 k166 (by first | decide | omega | (dsimp only; omega))
        have kp183 := keeps_tr kp170 kq175 (fun q hq => by first | omega | (dsimp only at *; omega))
        rcases x177 with ⟨e184, rf185⟩ | ⟨e186, pl187, cm188, fs189, fw190, hq191, hq192, hq193, hq194, hq195, hq196⟩
        · refine x_top e184 ?_
          obtain ⟨pl197, cm198, wt199, fs200, fw201, rs202⟩ := rf185
          obtain ⟨⟨nu203, mo204⟩, k205, k206⟩ := rs202
          obtain ⟨v207, v208, v209, v210, v211, v212, v213, n214, n215, bo216, bo217, zb218, k219⟩ := mo204
          refine x_if_ne C (tgt := 115) dX12_readsClause_110 (by decide) rfl (fun h => absurd h (by decide)) (fun _ => ?_)
          refine x_iconst C (v := 0) dX12_readsClause_113 (by decide) rfl ?_
          exact x_zret C hr hlk rfl dX12_readsClause_114 ⟨hW174, kp183, (Or.inl rfl), (Or.inl ⟨rfl, ⟨pl197, cm198, wt199, _, _, ⟨⟨_, ⟨v207, v208, v209, v210, v211, v212, v213, n214, n215, ⟨by omega, by omega, by omega, by omega, by omega, by omega, by omega⟩, ⟨by omega, by omega⟩, zb218, k219⟩⟩, k205, k206⟩⟩⟩)⟩
        · refine x_top e186 ?_
          obtain ⟨⟨nu220, mo221⟩, k222, k223⟩ := hq193
          obtain ⟨v224, v225, v226, v227, v228, v229, v230, n231, n232, bo233, bo234, zb235, k236⟩ := mo221
          refine x_if_ne C (tgt := 115) dX12_readsClause_110 (by decide) rfl (fun _ => ?_) (fun h => absurd h (by decide))
          refine x_aload_n C dX12_readsClause_115 rfl 1 rfl rfl ?_
          refine x_get C (ci := 11) (k := 19) 0 k236 rfl in_X12 (by decide) w_1137 rfl dX12_readsClause_116 rfl ?_
          refine x_aload_n C dX12_readsClause_119 rfl 1 rfl rfl ?_
          refine x_get C (ci := 11) (k := 12) 0 k236 rfl in_X12 (by decide) w_1130 rfl dX12_readsClause_120 rfl ?_
          refine x_aload_n C dX12_readsClause_123 rfl 1 rfl rfl ?_
          refine x_get C (ci := 11) (k := 10) 0 k236 rfl in_X12 (by decide) w_1128 rfl dX12_readsClause_124 rfl ?_
          obtain ⟨w237, hw238⟩ : ∃ w : va_W, w = List.set w173 10 (iA E (a 10) 16 (upd f10 sm (nI cm188))) := ⟨_, rfl⟩
          refine x_iask C sm (nI_clamp (by omega)) (nI_pos (by omega)) (by omega) 10 k181 hw238.symm dX12_readsClause_127 rfl ?_
          have hW239 : WX (okM E a cd) w237 := by rw [hw238]; exact hW174.set (k := 10) rfl ⟨_, rfl⟩
          have k240 : w237[4]? = some (bA E (a 4) 260 tf) := by rw [hw238]; exact set_ne k178 (by decide)
          have k241 : w237[8]? = some (iA E (a 8) 16 (upd f8 sm (nI cm))) := by rw [hw238]; exact set_ne k179 (by decide)
          have k242 : w237[9]? = some (iA E (a 9) 16 (upd f9 sm (nI cm109))) := by rw [hw238]; exact set_ne k180 (by decide)
          have k243 : w237[10]? = some (iA E (a 10) 16 (upd f10 sm (nI cm188))) := by rw [hw238]; exact set_eq k181
          have k244 : w237[7]? = some (iA E (a 7) 16 (upd f31 sm r15)) := by rw [hw238]; exact set_ne k182 (by decide)
          have k245 : w237[0]? = some (ob (a 0) 11 [.ref (a 1), .ref (a 2), .ref (a 3), .ref (a 4), .int (nI tp), .int (nI pl187), .int (nI le), .int v224, .int nu220, .int v225, .int (nI cm188), .int (nI 0), .int (nI sm), .int (nI (cd.2.2.2.2.2)), .ref (a 5), .ref (a 6), .ref (a 7), .ref (a 8), .ref (a 9), .ref (a 10), .ref (a 11), .ref (a 12), .ref (a 13), .ref (a 14), .ref (a 15), .ref (a 16), .ref (a 17), .int (nI lm), .ref (a 18), .ref (a 19), .ref (a 20), .ref (a 21), .int v226, .int v227, .int v228, .int v229, .int (nI n231), .int (nI n232), .ref (a 22), .ref (a 23), .ref (a 24), .ref (a 25), .ref (a 26), .ref (a 27), .ref (a 28), .ref (a 29), .ref (a 30), .int v230]) := by rw [hw238]; exact set_ne k236 (by decide)
          have k246 : w237[5]? = some (iA E (a 5) 260 fs189) := by rw [hw238]; exact set_ne k222 (by decide)
          have k247 : w237[6]? = some (iA E (a 6) 260 fw190) := by rw [hw238]; exact set_ne k223 (by decide)
          have kp248 := keeps_set kp183 hw238 (by first | exact rfl | decide | omega | (dsimp only; omega))
          refine x_aload_n C dX12_readsClause_128 rfl 1 rfl rfl ?_
          refine x_aload_n C dX12_readsClause_129 rfl 1 rfl rfl ?_
          refine x_get C (ci := 11) (k := 12) 0 k245 rfl in_X12 (by decide) w_1130 rfl dX12_readsClause_130 rfl ?_
          refine x_iconst C (v := 1) dX12_readsClause_133 (by decide) rfl ?_
          refine x_iadd C (v := (nI (sm + 1))) dX12_readsClause_134 (nI_add sm 1) rfl ?_
          obtain ⟨w249, hw250⟩ : ∃ w : va_W, w = List.set w237 0 (ob (a 0) 11 [.ref (a 1), .ref (a 2), .ref (a 3), .ref (a 4), .int (nI tp), .int (nI pl187), .int (nI le), .int v224, .int nu220, .int v225, .int (nI cm188), .int (nI 0), .int (nI (sm + 1)), .int (nI (cd.2.2.2.2.2)), .ref (a 5), .ref (a 6), .ref (a 7), .ref (a 8), .ref (a 9), .ref (a 10), .ref (a 11), .ref (a 12), .ref (a 13), .ref (a 14), .ref (a 15), .ref (a 16), .ref (a 17), .int (nI lm), .ref (a 18), .ref (a 19), .ref (a 20), .ref (a 21), .int v226, .int v227, .int v228, .int v229, .int (nI n231), .int (nI n232), .ref (a 22), .ref (a 23), .ref (a 24), .ref (a 25), .ref (a 26), .ref (a 27), .ref (a 28), .ref (a 29), .ref (a 30), .int v230]) := ⟨_, rfl⟩
          refine x_put C (ci := 11) (k := 12) (ty := .int) 0 k245 rfl in_X12 tyX12 tyX12_ok nmX12 (by decide) w_1130 rfl rfl rfl rfl (Nat.le_of_ble_eq_true rfl) hw250.symm dX12_readsClause_135 rfl ?_
          have hW251 : WX (okM E a cd) w249 := by rw [hw250]; exact hW239.set (k := 0) rfl ⟨tp, pl187, le, v224, nu220, v225, cm188, 0, (sm + 1), lm, v226, v227, v228, v229, n231, n232, v230, by omega, by omega, by omega, by omega, by omega, by omega, by omega, by omega, by omega, zb235, rfl⟩
          have k252 : w249[4]? = some (bA E (a 4) 260 tf) := by rw [hw250]; exact set_ne k240 (by decide)
          have k253 : w249[8]? = some (iA E (a 8) 16 (upd f8 sm (nI cm))) := by rw [hw250]; exact set_ne k241 (by decide)
          have k254 : w249[9]? = some (iA E (a 9) 16 (upd f9 sm (nI cm109))) := by rw [hw250]; exact set_ne k242 (by decide)
          have k255 : w249[10]? = some (iA E (a 10) 16 (upd f10 sm (nI cm188))) := by rw [hw250]; exact set_ne k243 (by decide)
          have k256 : w249[7]? = some (iA E (a 7) 16 (upd f31 sm r15)) := by rw [hw250]; exact set_ne k244 (by decide)
          have k257 : w249[0]? = some (ob (a 0) 11 [.ref (a 1), .ref (a 2), .ref (a 3), .ref (a 4), .int (nI tp), .int (nI pl187), .int (nI le), .int v224, .int nu220, .int v225, .int (nI cm188), .int (nI 0), .int (nI (sm + 1)), .int (nI (cd.2.2.2.2.2)), .ref (a 5), .ref (a 6), .ref (a 7), .ref (a 8), .ref (a 9), .ref (a 10), .ref (a 11), .ref (a 12), .ref (a 13), .ref (a 14), .ref (a 15), .ref (a 16), .ref (a 17), .int (nI lm), .ref (a 18), .ref (a 19), .ref (a 20), .ref (a 21), .int v226, .int v227, .int v228, .int v229, .int (nI n231), .int (nI n232), .ref (a 22), .ref (a 23), .ref (a 24), .ref (a 25), .ref (a 26), .ref (a 27), .ref (a 28), .ref (a 29), .ref (a 30), .int v230]) := by rw [hw250]; exact set_eq k245
          have k258 : w249[5]? = some (iA E (a 5) 260 fs189) := by rw [hw250]; exact set_ne k246 (by decide)
          have k259 : w249[6]? = some (iA E (a 6) 260 fw190) := by rw [hw250]; exact set_ne k247 (by decide)
          have kp260 := keeps_set kp248 hw250 (by first | exact rfl | decide | omega | (dsimp only; omega))
          have hlt9 := cSeg_lt hseg1
          refine x_iconst C (v := 1) dX12_readsClause_138 (by decide) rfl ?_
          exact x_zret C hr hlk rfl dX12_readsClause_139 ⟨hW251, kp260, (Or.inr rfl), (Or.inr ⟨rfl, pl187, cm188, 0, _, _, _, _, _, by omega, by omega, ⟨⟨_, ⟨v224, v225, v226, v227, v228, v229, v230, n231, n232, ⟨by omega, by omega, by omega, by omega, by omega, by omega, by omega⟩, ⟨by omega, by omega⟩, zb235, k257⟩⟩, k258, k259⟩, k253, k254, k255, by omega, KL_step hkl (fun k hk => (hq196 k (by omega)).trans (hs118 k hk)) (cSeg_congr hseg1 (fun k hk => hq196 k hk)) hq194⟩)⟩
    · skip
      have nf261 : sm = 16 := (nI_eq (by omega) (by omega)).mp c28
      refine x_aload_n C dX12_readsClause_31 rfl 1 rfl rfl ?_
      refine x_iconst C (v := 4) dX12_readsClause_32 (by decide) rfl ?_
      refine x_aload_n C dX12_readsClause_33 rfl 1 rfl rfl ?_
      refine x_get C (ci := 11) (k := 5) 0 k13 rfl in_X12 (by decide) w_1123 rfl dX12_readsClause_34 rfl ?_
      refine x_vi C (As := [.int 4, .int (nI pl)]) (rest := []) (m_wrongAt E l a cd hG ws hW (4 : Int32) ((nI pl)) tp pl le cm wt sm lm nu ⟨v1, v2, v3, v4, v5, v6, v7, n8, n9, ⟨by omega, by omega, by omega, by omega, by omega, by omega, by omega⟩, ⟨by omega, by omega⟩, zb12, k13⟩) mf_X12_wrongAt w_1324 0 k13 rfl rfl rfl (Nat.le_of_ble_eq_true rfl) ⟨(Nat.le_of_ble_eq_true rfl), (Nat.le_of_ble_eq_true rfl)⟩ ⟨(Nat.le_of_ble_eq_true rfl), (Nat.le_of_ble_eq_true rfl)⟩ dX12_readsClause_37 rfl (fun r263 w264 h262 => ?_)
      obtain ⟨hW265, kq266, e267, x268⟩ := h262
      refine x_top e267 ?_
      have k269 : w264[4]? = some (bA E (a 4) 260 tf) := keeps_at kq266 htf (by first | decide | omega | (dsimp only; omega))
      have k270 : w264[5]? = some (iA E (a 5) 260 fs) := keeps_at kq266 hfs (by first | decide | omega | (dsimp only; omega))
      have k271 : w264[6]? = some (iA E (a 6) 260 fw) := keeps_at kq266 hfw (by first | decide | omega | (dsimp only; omega))
      have k272 : w264[8]? = some (iA E (a 8) 16 f8) := keeps_at kq266 h8 (by first | decide | omega | (dsimp only; omega))
      have k273 : w264[9]? = some (iA E (a 9) 16 f9) := keeps_at kq266 h9 (by first | decide | omega | (dsimp only; omega))
      have k274 : w264[10]? = some (iA E (a 10) 16 f10) := keeps_at kq266 h10 (by first | decide | omega | (dsimp only; omega))
      have kp275 := keeps_tr kp0 kq266 (fun q hq => by first | omega | (dsimp only at *; omega))
      obtain ⟨v276, v277, v278, v279, v280, v281, v282, n283, n284, bo285, bo286, zb287, k288⟩ := x268
      exact x_zret C hr hlk rfl dX12_readsClause_40 ⟨hW265, kp275, (Or.inl rfl), (Or.inl ⟨rfl, ⟨pl, cm, wt, _, _, ⟨⟨_, ⟨v276, v277, v278, v279, v280, v281, v282, n283, n284, ⟨by omega, by omega, by omega, by omega, by omega, by omega, by omega⟩, ⟨by omega, by omega⟩, zb287, k288⟩⟩, k270, k271⟩⟩⟩)⟩
  · skip
    refine x_aload_n C dX12_readsClause_12 rfl 1 rfl rfl ?_
    refine x_iconst C (v := 1) dX12_readsClause_13 (by decide) rfl ?_
    refine x_aload_n C dX12_readsClause_14 rfl 1 rfl rfl ?_
    refine x_get C (ci := 11) (k := 5) 0 k13 rfl in_X12 (by decide) w_1123 rfl dX12_readsClause_15 rfl ?_
    refine x_vi C (As := [.int 1, .int (nI pl)]) (rest := []) (m_wrongAt E l a cd hG ws hW (1 : Int32) ((nI pl)) tp pl le cm wt sm lm nu ⟨v1, v2, v3, v4, v5, v6, v7, n8, n9, ⟨by omega, by omega, by omega, by omega, by omega, by omega, by omega⟩, ⟨by omega, by omega⟩, zb12, k13⟩) mf_X12_wrongAt w_1324 0 k13 rfl rfl rfl (Nat.le_of_ble_eq_true rfl) ⟨(Nat.le_of_ble_eq_true rfl), (Nat.le_of_ble_eq_true rfl)⟩ ⟨(Nat.le_of_ble_eq_true rfl), (Nat.le_of_ble_eq_true rfl)⟩ dX12_readsClause_18 rfl (fun r290 w291 h289 => ?_)
    obtain ⟨hW292, kq293, e294, x295⟩ := h289
    refine x_top e294 ?_
    have k296 : w291[4]? = some (bA E (a 4) 260 tf) := keeps_at kq293 htf (by first | decide | omega | (dsimp only; omega))
    have k297 : w291[5]? = some (iA E (a 5) 260 fs) := keeps_at kq293 hfs (by first | decide | omega | (dsimp only; omega))
    have k298 : w291[6]? = some (iA E (a 6) 260 fw) := keeps_at kq293 hfw (by first | decide | omega | (dsimp only; omega))
    have k299 : w291[8]? = some (iA E (a 8) 16 f8) := keeps_at kq293 h8 (by first | decide | omega | (dsimp only; omega))
    have k300 : w291[9]? = some (iA E (a 9) 16 f9) := keeps_at kq293 h9 (by first | decide | omega | (dsimp only; omega))
    have k301 : w291[10]? = some (iA E (a 10) 16 f10) := keeps_at kq293 h10 (by first | decide | omega | (dsimp only; omega))
    have kp302 := keeps_tr kp0 kq293 (fun q hq => by first | omega | (dsimp only at *; omega))
    obtain ⟨v303, v304, v305, v306, v307, v308, v309, n310, n311, bo312, bo313, zb314, k315⟩ := x295
    exact x_zret C hr hlk rfl dX12_readsClause_21 ⟨hW292, kp302, (Or.inl rfl), (Or.inl ⟨rfl, ⟨pl, cm, wt, _, _, ⟨⟨_, ⟨v303, v304, v305, v306, v307, v308, v309, n310, n311, ⟨by omega, by omega, by omega, by omega, by omega, by omega, by omega⟩, ⟨by omega, by omega⟩, zb314, k315⟩⟩, k297, k298⟩⟩⟩)⟩

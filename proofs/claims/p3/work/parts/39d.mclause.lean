theorem wx_11 {E : xE} {a : Nat → Nat} {cd : Cd} {kf : Int32} {jn js jq : Lb} {w : va_W} (x : Nat → Int32) (h : WX (okM E a cd kf jn js jq) w) : ∀ (k : Nat) (P : Nat × va_E → Prop), (okM E a (x, cd.2) kf jn js jq)[k]? = some P → ∃ c, (List.set w 11 (iA E (a 11) 260 x))[k]? = some c ∧ P c
  | 0, _, hP => by
    obtain ⟨c, hc, hp⟩ := h 0 _ rfl
    exact ⟨c, set_ne hc (by decide), some_at hP rfl hp⟩
  | 1, _, hP => by
    obtain ⟨c, hc, hp⟩ := h 1 _ rfl
    exact ⟨c, set_ne hc (by decide), some_at hP rfl hp⟩
  | 2, _, hP => by
    obtain ⟨c, hc, hp⟩ := h 2 _ rfl
    exact ⟨c, set_ne hc (by decide), some_at hP rfl hp⟩
  | 3, _, hP => by
    obtain ⟨c, hc, hp⟩ := h 3 _ rfl
    exact ⟨c, set_ne hc (by decide), some_at hP rfl hp⟩
  | 4, _, hP => by
    obtain ⟨c, hc, hp⟩ := h 4 _ rfl
    exact ⟨c, set_ne hc (by decide), some_at hP rfl hp⟩
  | 5, _, hP => by
    obtain ⟨c, hc, hp⟩ := h 5 _ rfl
    exact ⟨c, set_ne hc (by decide), some_at hP rfl hp⟩
  | 6, _, hP => by
    obtain ⟨c, hc, hp⟩ := h 6 _ rfl
    exact ⟨c, set_ne hc (by decide), some_at hP rfl hp⟩
  | 7, _, hP => by
    obtain ⟨c, hc, hp⟩ := h 7 _ rfl
    exact ⟨c, set_ne hc (by decide), some_at hP rfl hp⟩
  | 8, _, hP => by
    obtain ⟨c, hc, hp⟩ := h 8 _ rfl
    exact ⟨c, set_ne hc (by decide), some_at hP rfl hp⟩
  | 9, _, hP => by
    obtain ⟨c, hc, hp⟩ := h 9 _ rfl
    exact ⟨c, set_ne hc (by decide), some_at hP rfl hp⟩
  | 10, _, hP => by
    obtain ⟨c, hc, hp⟩ := h 10 _ rfl
    exact ⟨c, set_ne hc (by decide), some_at hP rfl hp⟩
  | 11, _, hP => by
    obtain ⟨c, hc, -⟩ := h 11 _ rfl
    exact ⟨_, set_eq hc, some_at hP rfl rfl⟩
  | 12, _, hP => by
    obtain ⟨c, hc, hp⟩ := h 12 _ rfl
    exact ⟨c, set_ne hc (by decide), some_at hP rfl hp⟩
  | 13, _, hP => by
    obtain ⟨c, hc, hp⟩ := h 13 _ rfl
    exact ⟨c, set_ne hc (by decide), some_at hP rfl hp⟩
  | 14, _, hP => by
    obtain ⟨c, hc, hp⟩ := h 14 _ rfl
    exact ⟨c, set_ne hc (by decide), some_at hP rfl hp⟩
  | 15, _, hP => by
    obtain ⟨c, hc, hp⟩ := h 15 _ rfl
    exact ⟨c, set_ne hc (by decide), some_at hP rfl hp⟩
  | 16, _, hP => by
    obtain ⟨c, hc, hp⟩ := h 16 _ rfl
    exact ⟨c, set_ne hc (by decide), some_at hP rfl hp⟩
  | 17, _, hP => by
    obtain ⟨c, hc, hp⟩ := h 17 _ rfl
    exact ⟨c, set_ne hc (by decide), some_at hP rfl hp⟩
  | 18, _, hP => by
    obtain ⟨c, hc, hp⟩ := h 18 _ rfl
    exact ⟨c, set_ne hc (by decide), some_at hP rfl hp⟩
  | 19, _, hP => by
    obtain ⟨c, hc, hp⟩ := h 19 _ rfl
    exact ⟨c, set_ne hc (by decide), some_at hP rfl hp⟩
  | 20, _, hP => by
    obtain ⟨c, hc, hp⟩ := h 20 _ rfl
    exact ⟨c, set_ne hc (by decide), some_at hP rfl hp⟩
  | 21, _, hP => by
    obtain ⟨c, hc, hp⟩ := h 21 _ rfl
    exact ⟨c, set_ne hc (by decide), some_at hP rfl hp⟩
  | 22, _, hP => by
    obtain ⟨c, hc, hp⟩ := h 22 _ rfl
    exact ⟨c, set_ne hc (by decide), some_at hP rfl hp⟩
  | 23, _, hP => by
    obtain ⟨c, hc, hp⟩ := h 23 _ rfl
    exact ⟨c, set_ne hc (by decide), some_at hP rfl hp⟩
  | 24, _, hP => by
    obtain ⟨c, hc, hp⟩ := h 24 _ rfl
    exact ⟨c, set_ne hc (by decide), some_at hP rfl hp⟩
  | 25, _, hP => by
    obtain ⟨c, hc, hp⟩ := h 25 _ rfl
    exact ⟨c, set_ne hc (by decide), some_at hP rfl hp⟩
  | 26, _, hP => by
    obtain ⟨c, hc, hp⟩ := h 26 _ rfl
    exact ⟨c, set_ne hc (by decide), some_at hP rfl hp⟩
  | 27, _, hP => by
    obtain ⟨c, hc, hp⟩ := h 27 _ rfl
    exact ⟨c, set_ne hc (by decide), some_at hP rfl hp⟩
  | 28, _, hP => by
    obtain ⟨c, hc, hp⟩ := h 28 _ rfl
    exact ⟨c, set_ne hc (by decide), some_at hP rfl hp⟩
  | 29, _, hP => by
    obtain ⟨c, hc, hp⟩ := h 29 _ rfl
    exact ⟨c, set_ne hc (by decide), some_at hP rfl hp⟩
  | 30, _, hP => by
    obtain ⟨c, hc, hp⟩ := h 30 _ rfl
    exact ⟨c, set_ne hc (by decide), some_at hP rfl hp⟩
  | n + 31, P, hP => absurd (show (none : Option (Nat × va_E → Prop)) = some P from hP) (fun q => by cases q)
theorem wx_12 {E : xE} {a : Nat → Nat} {cd : Cd} {kf : Int32} {jn js jq : Lb} {w : va_W} (x : Nat → Int32) (h : WX (okM E a cd kf jn js jq) w) : ∀ (k : Nat) (P : Nat × va_E → Prop), (okM E a (cd.1, x, cd.2.2) kf jn js jq)[k]? = some P → ∃ c, (List.set w 12 (iA E (a 12) 16 x))[k]? = some c ∧ P c
  | 0, _, hP => by
    obtain ⟨c, hc, hp⟩ := h 0 _ rfl
    exact ⟨c, set_ne hc (by decide), some_at hP rfl hp⟩
  | 1, _, hP => by
    obtain ⟨c, hc, hp⟩ := h 1 _ rfl
    exact ⟨c, set_ne hc (by decide), some_at hP rfl hp⟩
  | 2, _, hP => by
    obtain ⟨c, hc, hp⟩ := h 2 _ rfl
    exact ⟨c, set_ne hc (by decide), some_at hP rfl hp⟩
  | 3, _, hP => by
    obtain ⟨c, hc, hp⟩ := h 3 _ rfl
    exact ⟨c, set_ne hc (by decide), some_at hP rfl hp⟩
  | 4, _, hP => by
    obtain ⟨c, hc, hp⟩ := h 4 _ rfl
    exact ⟨c, set_ne hc (by decide), some_at hP rfl hp⟩
  | 5, _, hP => by
    obtain ⟨c, hc, hp⟩ := h 5 _ rfl
    exact ⟨c, set_ne hc (by decide), some_at hP rfl hp⟩
  | 6, _, hP => by
    obtain ⟨c, hc, hp⟩ := h 6 _ rfl
    exact ⟨c, set_ne hc (by decide), some_at hP rfl hp⟩
  | 7, _, hP => by
    obtain ⟨c, hc, hp⟩ := h 7 _ rfl
    exact ⟨c, set_ne hc (by decide), some_at hP rfl hp⟩
  | 8, _, hP => by
    obtain ⟨c, hc, hp⟩ := h 8 _ rfl
    exact ⟨c, set_ne hc (by decide), some_at hP rfl hp⟩
  | 9, _, hP => by
    obtain ⟨c, hc, hp⟩ := h 9 _ rfl
    exact ⟨c, set_ne hc (by decide), some_at hP rfl hp⟩
  | 10, _, hP => by
    obtain ⟨c, hc, hp⟩ := h 10 _ rfl
    exact ⟨c, set_ne hc (by decide), some_at hP rfl hp⟩
  | 11, _, hP => by
    obtain ⟨c, hc, hp⟩ := h 11 _ rfl
    exact ⟨c, set_ne hc (by decide), some_at hP rfl hp⟩
  | 12, _, hP => by
    obtain ⟨c, hc, -⟩ := h 12 _ rfl
    exact ⟨_, set_eq hc, some_at hP rfl rfl⟩
  | 13, _, hP => by
    obtain ⟨c, hc, hp⟩ := h 13 _ rfl
    exact ⟨c, set_ne hc (by decide), some_at hP rfl hp⟩
  | 14, _, hP => by
    obtain ⟨c, hc, hp⟩ := h 14 _ rfl
    exact ⟨c, set_ne hc (by decide), some_at hP rfl hp⟩
  | 15, _, hP => by
    obtain ⟨c, hc, hp⟩ := h 15 _ rfl
    exact ⟨c, set_ne hc (by decide), some_at hP rfl hp⟩
  | 16, _, hP => by
    obtain ⟨c, hc, hp⟩ := h 16 _ rfl
    exact ⟨c, set_ne hc (by decide), some_at hP rfl hp⟩
  | 17, _, hP => by
    obtain ⟨c, hc, hp⟩ := h 17 _ rfl
    exact ⟨c, set_ne hc (by decide), some_at hP rfl hp⟩
  | 18, _, hP => by
    obtain ⟨c, hc, hp⟩ := h 18 _ rfl
    exact ⟨c, set_ne hc (by decide), some_at hP rfl hp⟩
  | 19, _, hP => by
    obtain ⟨c, hc, hp⟩ := h 19 _ rfl
    exact ⟨c, set_ne hc (by decide), some_at hP rfl hp⟩
  | 20, _, hP => by
    obtain ⟨c, hc, hp⟩ := h 20 _ rfl
    exact ⟨c, set_ne hc (by decide), some_at hP rfl hp⟩
  | 21, _, hP => by
    obtain ⟨c, hc, hp⟩ := h 21 _ rfl
    exact ⟨c, set_ne hc (by decide), some_at hP rfl hp⟩
  | 22, _, hP => by
    obtain ⟨c, hc, hp⟩ := h 22 _ rfl
    exact ⟨c, set_ne hc (by decide), some_at hP rfl hp⟩
  | 23, _, hP => by
    obtain ⟨c, hc, hp⟩ := h 23 _ rfl
    exact ⟨c, set_ne hc (by decide), some_at hP rfl hp⟩
  | 24, _, hP => by
    obtain ⟨c, hc, hp⟩ := h 24 _ rfl
    exact ⟨c, set_ne hc (by decide), some_at hP rfl hp⟩
  | 25, _, hP => by
    obtain ⟨c, hc, hp⟩ := h 25 _ rfl
    exact ⟨c, set_ne hc (by decide), some_at hP rfl hp⟩
  | 26, _, hP => by
    obtain ⟨c, hc, hp⟩ := h 26 _ rfl
    exact ⟨c, set_ne hc (by decide), some_at hP rfl hp⟩
  | 27, _, hP => by
    obtain ⟨c, hc, hp⟩ := h 27 _ rfl
    exact ⟨c, set_ne hc (by decide), some_at hP rfl hp⟩
  | 28, _, hP => by
    obtain ⟨c, hc, hp⟩ := h 28 _ rfl
    exact ⟨c, set_ne hc (by decide), some_at hP rfl hp⟩
  | 29, _, hP => by
    obtain ⟨c, hc, hp⟩ := h 29 _ rfl
    exact ⟨c, set_ne hc (by decide), some_at hP rfl hp⟩
  | 30, _, hP => by
    obtain ⟨c, hc, hp⟩ := h 30 _ rfl
    exact ⟨c, set_ne hc (by decide), some_at hP rfl hp⟩
  | n + 31, P, hP => absurd (show (none : Option (Nat × va_E → Prop)) = some P from hP) (fun q => by cases q)
theorem wx_13 {E : xE} {a : Nat → Nat} {cd : Cd} {kf : Int32} {jn js jq : Lb} {w : va_W} (x : Nat → Int32) (h : WX (okM E a cd kf jn js jq) w) : ∀ (k : Nat) (P : Nat × va_E → Prop), (okM E a (cd.1, cd.2.1, x, cd.2.2.2) kf jn js jq)[k]? = some P → ∃ c, (List.set w 13 (iA E (a 13) 16 x))[k]? = some c ∧ P c
  | 0, _, hP => by
    obtain ⟨c, hc, hp⟩ := h 0 _ rfl
    exact ⟨c, set_ne hc (by decide), some_at hP rfl hp⟩
  | 1, _, hP => by
    obtain ⟨c, hc, hp⟩ := h 1 _ rfl
    exact ⟨c, set_ne hc (by decide), some_at hP rfl hp⟩
  | 2, _, hP => by
    obtain ⟨c, hc, hp⟩ := h 2 _ rfl
    exact ⟨c, set_ne hc (by decide), some_at hP rfl hp⟩
  | 3, _, hP => by
    obtain ⟨c, hc, hp⟩ := h 3 _ rfl
    exact ⟨c, set_ne hc (by decide), some_at hP rfl hp⟩
  | 4, _, hP => by
    obtain ⟨c, hc, hp⟩ := h 4 _ rfl
    exact ⟨c, set_ne hc (by decide), some_at hP rfl hp⟩
  | 5, _, hP => by
    obtain ⟨c, hc, hp⟩ := h 5 _ rfl
    exact ⟨c, set_ne hc (by decide), some_at hP rfl hp⟩
  | 6, _, hP => by
    obtain ⟨c, hc, hp⟩ := h 6 _ rfl
    exact ⟨c, set_ne hc (by decide), some_at hP rfl hp⟩
  | 7, _, hP => by
    obtain ⟨c, hc, hp⟩ := h 7 _ rfl
    exact ⟨c, set_ne hc (by decide), some_at hP rfl hp⟩
  | 8, _, hP => by
    obtain ⟨c, hc, hp⟩ := h 8 _ rfl
    exact ⟨c, set_ne hc (by decide), some_at hP rfl hp⟩
  | 9, _, hP => by
    obtain ⟨c, hc, hp⟩ := h 9 _ rfl
    exact ⟨c, set_ne hc (by decide), some_at hP rfl hp⟩
  | 10, _, hP => by
    obtain ⟨c, hc, hp⟩ := h 10 _ rfl
    exact ⟨c, set_ne hc (by decide), some_at hP rfl hp⟩
  | 11, _, hP => by
    obtain ⟨c, hc, hp⟩ := h 11 _ rfl
    exact ⟨c, set_ne hc (by decide), some_at hP rfl hp⟩
  | 12, _, hP => by
    obtain ⟨c, hc, hp⟩ := h 12 _ rfl
    exact ⟨c, set_ne hc (by decide), some_at hP rfl hp⟩
  | 13, _, hP => by
    obtain ⟨c, hc, -⟩ := h 13 _ rfl
    exact ⟨_, set_eq hc, some_at hP rfl rfl⟩
  | 14, _, hP => by
    obtain ⟨c, hc, hp⟩ := h 14 _ rfl
    exact ⟨c, set_ne hc (by decide), some_at hP rfl hp⟩
  | 15, _, hP => by
    obtain ⟨c, hc, hp⟩ := h 15 _ rfl
    exact ⟨c, set_ne hc (by decide), some_at hP rfl hp⟩
  | 16, _, hP => by
    obtain ⟨c, hc, hp⟩ := h 16 _ rfl
    exact ⟨c, set_ne hc (by decide), some_at hP rfl hp⟩
  | 17, _, hP => by
    obtain ⟨c, hc, hp⟩ := h 17 _ rfl
    exact ⟨c, set_ne hc (by decide), some_at hP rfl hp⟩
  | 18, _, hP => by
    obtain ⟨c, hc, hp⟩ := h 18 _ rfl
    exact ⟨c, set_ne hc (by decide), some_at hP rfl hp⟩
  | 19, _, hP => by
    obtain ⟨c, hc, hp⟩ := h 19 _ rfl
    exact ⟨c, set_ne hc (by decide), some_at hP rfl hp⟩
  | 20, _, hP => by
    obtain ⟨c, hc, hp⟩ := h 20 _ rfl
    exact ⟨c, set_ne hc (by decide), some_at hP rfl hp⟩
  | 21, _, hP => by
    obtain ⟨c, hc, hp⟩ := h 21 _ rfl
    exact ⟨c, set_ne hc (by decide), some_at hP rfl hp⟩
  | 22, _, hP => by
    obtain ⟨c, hc, hp⟩ := h 22 _ rfl
    exact ⟨c, set_ne hc (by decide), some_at hP rfl hp⟩
  | 23, _, hP => by
    obtain ⟨c, hc, hp⟩ := h 23 _ rfl
    exact ⟨c, set_ne hc (by decide), some_at hP rfl hp⟩
  | 24, _, hP => by
    obtain ⟨c, hc, hp⟩ := h 24 _ rfl
    exact ⟨c, set_ne hc (by decide), some_at hP rfl hp⟩
  | 25, _, hP => by
    obtain ⟨c, hc, hp⟩ := h 25 _ rfl
    exact ⟨c, set_ne hc (by decide), some_at hP rfl hp⟩
  | 26, _, hP => by
    obtain ⟨c, hc, hp⟩ := h 26 _ rfl
    exact ⟨c, set_ne hc (by decide), some_at hP rfl hp⟩
  | 27, _, hP => by
    obtain ⟨c, hc, hp⟩ := h 27 _ rfl
    exact ⟨c, set_ne hc (by decide), some_at hP rfl hp⟩
  | 28, _, hP => by
    obtain ⟨c, hc, hp⟩ := h 28 _ rfl
    exact ⟨c, set_ne hc (by decide), some_at hP rfl hp⟩
  | 29, _, hP => by
    obtain ⟨c, hc, hp⟩ := h 29 _ rfl
    exact ⟨c, set_ne hc (by decide), some_at hP rfl hp⟩
  | 30, _, hP => by
    obtain ⟨c, hc, hp⟩ := h 30 _ rfl
    exact ⟨c, set_ne hc (by decide), some_at hP rfl hp⟩
  | n + 31, P, hP => absurd (show (none : Option (Nat × va_E → Prop)) = some P from hP) (fun q => by cases q)
theorem wx_14 {E : xE} {a : Nat → Nat} {cd : Cd} {kf : Int32} {jn js jq : Lb} {w : va_W} (x : Nat → Int32) (h : WX (okM E a cd kf jn js jq) w) : ∀ (k : Nat) (P : Nat × va_E → Prop), (okM E a (cd.1, cd.2.1, cd.2.2.1, x, cd.2.2.2.2) kf jn js jq)[k]? = some P → ∃ c, (List.set w 14 (iA E (a 14) 16 x))[k]? = some c ∧ P c
  | 0, _, hP => by
    obtain ⟨c, hc, hp⟩ := h 0 _ rfl
    exact ⟨c, set_ne hc (by decide), some_at hP rfl hp⟩
  | 1, _, hP => by
    obtain ⟨c, hc, hp⟩ := h 1 _ rfl
    exact ⟨c, set_ne hc (by decide), some_at hP rfl hp⟩
  | 2, _, hP => by
    obtain ⟨c, hc, hp⟩ := h 2 _ rfl
    exact ⟨c, set_ne hc (by decide), some_at hP rfl hp⟩
  | 3, _, hP => by
    obtain ⟨c, hc, hp⟩ := h 3 _ rfl
    exact ⟨c, set_ne hc (by decide), some_at hP rfl hp⟩
  | 4, _, hP => by
    obtain ⟨c, hc, hp⟩ := h 4 _ rfl
    exact ⟨c, set_ne hc (by decide), some_at hP rfl hp⟩
  | 5, _, hP => by
    obtain ⟨c, hc, hp⟩ := h 5 _ rfl
    exact ⟨c, set_ne hc (by decide), some_at hP rfl hp⟩
  | 6, _, hP => by
    obtain ⟨c, hc, hp⟩ := h 6 _ rfl
    exact ⟨c, set_ne hc (by decide), some_at hP rfl hp⟩
  | 7, _, hP => by
    obtain ⟨c, hc, hp⟩ := h 7 _ rfl
    exact ⟨c, set_ne hc (by decide), some_at hP rfl hp⟩
  | 8, _, hP => by
    obtain ⟨c, hc, hp⟩ := h 8 _ rfl
    exact ⟨c, set_ne hc (by decide), some_at hP rfl hp⟩
  | 9, _, hP => by
    obtain ⟨c, hc, hp⟩ := h 9 _ rfl
    exact ⟨c, set_ne hc (by decide), some_at hP rfl hp⟩
  | 10, _, hP => by
    obtain ⟨c, hc, hp⟩ := h 10 _ rfl
    exact ⟨c, set_ne hc (by decide), some_at hP rfl hp⟩
  | 11, _, hP => by
    obtain ⟨c, hc, hp⟩ := h 11 _ rfl
    exact ⟨c, set_ne hc (by decide), some_at hP rfl hp⟩
  | 12, _, hP => by
    obtain ⟨c, hc, hp⟩ := h 12 _ rfl
    exact ⟨c, set_ne hc (by decide), some_at hP rfl hp⟩
  | 13, _, hP => by
    obtain ⟨c, hc, hp⟩ := h 13 _ rfl
    exact ⟨c, set_ne hc (by decide), some_at hP rfl hp⟩
  | 14, _, hP => by
    obtain ⟨c, hc, -⟩ := h 14 _ rfl
    exact ⟨_, set_eq hc, some_at hP rfl rfl⟩
  | 15, _, hP => by
    obtain ⟨c, hc, hp⟩ := h 15 _ rfl
    exact ⟨c, set_ne hc (by decide), some_at hP rfl hp⟩
  | 16, _, hP => by
    obtain ⟨c, hc, hp⟩ := h 16 _ rfl
    exact ⟨c, set_ne hc (by decide), some_at hP rfl hp⟩
  | 17, _, hP => by
    obtain ⟨c, hc, hp⟩ := h 17 _ rfl
    exact ⟨c, set_ne hc (by decide), some_at hP rfl hp⟩
  | 18, _, hP => by
    obtain ⟨c, hc, hp⟩ := h 18 _ rfl
    exact ⟨c, set_ne hc (by decide), some_at hP rfl hp⟩
  | 19, _, hP => by
    obtain ⟨c, hc, hp⟩ := h 19 _ rfl
    exact ⟨c, set_ne hc (by decide), some_at hP rfl hp⟩
  | 20, _, hP => by
    obtain ⟨c, hc, hp⟩ := h 20 _ rfl
    exact ⟨c, set_ne hc (by decide), some_at hP rfl hp⟩
  | 21, _, hP => by
    obtain ⟨c, hc, hp⟩ := h 21 _ rfl
    exact ⟨c, set_ne hc (by decide), some_at hP rfl hp⟩
  | 22, _, hP => by
    obtain ⟨c, hc, hp⟩ := h 22 _ rfl
    exact ⟨c, set_ne hc (by decide), some_at hP rfl hp⟩
  | 23, _, hP => by
    obtain ⟨c, hc, hp⟩ := h 23 _ rfl
    exact ⟨c, set_ne hc (by decide), some_at hP rfl hp⟩
  | 24, _, hP => by
    obtain ⟨c, hc, hp⟩ := h 24 _ rfl
    exact ⟨c, set_ne hc (by decide), some_at hP rfl hp⟩
  | 25, _, hP => by
    obtain ⟨c, hc, hp⟩ := h 25 _ rfl
    exact ⟨c, set_ne hc (by decide), some_at hP rfl hp⟩
  | 26, _, hP => by
    obtain ⟨c, hc, hp⟩ := h 26 _ rfl
    exact ⟨c, set_ne hc (by decide), some_at hP rfl hp⟩
  | 27, _, hP => by
    obtain ⟨c, hc, hp⟩ := h 27 _ rfl
    exact ⟨c, set_ne hc (by decide), some_at hP rfl hp⟩
  | 28, _, hP => by
    obtain ⟨c, hc, hp⟩ := h 28 _ rfl
    exact ⟨c, set_ne hc (by decide), some_at hP rfl hp⟩
  | 29, _, hP => by
    obtain ⟨c, hc, hp⟩ := h 29 _ rfl
    exact ⟨c, set_ne hc (by decide), some_at hP rfl hp⟩
  | 30, _, hP => by
    obtain ⟨c, hc, hp⟩ := h 30 _ rfl
    exact ⟨c, set_ne hc (by decide), some_at hP rfl hp⟩
  | n + 31, P, hP => absurd (show (none : Option (Nat × va_E → Prop)) = some P from hP) (fun q => by cases q)
theorem wx_15 {E : xE} {a : Nat → Nat} {cd : Cd} {kf : Int32} {jn js jq : Lb} {w : va_W} (x : Nat → Int32) (h : WX (okM E a cd kf jn js jq) w) : ∀ (k : Nat) (P : Nat × va_E → Prop), (okM E a (cd.1, cd.2.1, cd.2.2.1, cd.2.2.2.1, x, cd.2.2.2.2.2) kf jn js jq)[k]? = some P → ∃ c, (List.set w 15 (iA E (a 15) 16 x))[k]? = some c ∧ P c
  | 0, _, hP => by
    obtain ⟨c, hc, hp⟩ := h 0 _ rfl
    exact ⟨c, set_ne hc (by decide), some_at hP rfl hp⟩
  | 1, _, hP => by
    obtain ⟨c, hc, hp⟩ := h 1 _ rfl
    exact ⟨c, set_ne hc (by decide), some_at hP rfl hp⟩
  | 2, _, hP => by
    obtain ⟨c, hc, hp⟩ := h 2 _ rfl
    exact ⟨c, set_ne hc (by decide), some_at hP rfl hp⟩
  | 3, _, hP => by
    obtain ⟨c, hc, hp⟩ := h 3 _ rfl
    exact ⟨c, set_ne hc (by decide), some_at hP rfl hp⟩
  | 4, _, hP => by
    obtain ⟨c, hc, hp⟩ := h 4 _ rfl
    exact ⟨c, set_ne hc (by decide), some_at hP rfl hp⟩
  | 5, _, hP => by
    obtain ⟨c, hc, hp⟩ := h 5 _ rfl
    exact ⟨c, set_ne hc (by decide), some_at hP rfl hp⟩
  | 6, _, hP => by
    obtain ⟨c, hc, hp⟩ := h 6 _ rfl
    exact ⟨c, set_ne hc (by decide), some_at hP rfl hp⟩
  | 7, _, hP => by
    obtain ⟨c, hc, hp⟩ := h 7 _ rfl
    exact ⟨c, set_ne hc (by decide), some_at hP rfl hp⟩
  | 8, _, hP => by
    obtain ⟨c, hc, hp⟩ := h 8 _ rfl
    exact ⟨c, set_ne hc (by decide), some_at hP rfl hp⟩
  | 9, _, hP => by
    obtain ⟨c, hc, hp⟩ := h 9 _ rfl
    exact ⟨c, set_ne hc (by decide), some_at hP rfl hp⟩
  | 10, _, hP => by
    obtain ⟨c, hc, hp⟩ := h 10 _ rfl
    exact ⟨c, set_ne hc (by decide), some_at hP rfl hp⟩
  | 11, _, hP => by
    obtain ⟨c, hc, hp⟩ := h 11 _ rfl
    exact ⟨c, set_ne hc (by decide), some_at hP rfl hp⟩
  | 12, _, hP => by
    obtain ⟨c, hc, hp⟩ := h 12 _ rfl
    exact ⟨c, set_ne hc (by decide), some_at hP rfl hp⟩
  | 13, _, hP => by
    obtain ⟨c, hc, hp⟩ := h 13 _ rfl
    exact ⟨c, set_ne hc (by decide), some_at hP rfl hp⟩
  | 14, _, hP => by
    obtain ⟨c, hc, hp⟩ := h 14 _ rfl
    exact ⟨c, set_ne hc (by decide), some_at hP rfl hp⟩
  | 15, _, hP => by
    obtain ⟨c, hc, -⟩ := h 15 _ rfl
    exact ⟨_, set_eq hc, some_at hP rfl rfl⟩
  | 16, _, hP => by
    obtain ⟨c, hc, hp⟩ := h 16 _ rfl
    exact ⟨c, set_ne hc (by decide), some_at hP rfl hp⟩
  | 17, _, hP => by
    obtain ⟨c, hc, hp⟩ := h 17 _ rfl
    exact ⟨c, set_ne hc (by decide), some_at hP rfl hp⟩
  | 18, _, hP => by
    obtain ⟨c, hc, hp⟩ := h 18 _ rfl
    exact ⟨c, set_ne hc (by decide), some_at hP rfl hp⟩
  | 19, _, hP => by
    obtain ⟨c, hc, hp⟩ := h 19 _ rfl
    exact ⟨c, set_ne hc (by decide), some_at hP rfl hp⟩
  | 20, _, hP => by
    obtain ⟨c, hc, hp⟩ := h 20 _ rfl
    exact ⟨c, set_ne hc (by decide), some_at hP rfl hp⟩
  | 21, _, hP => by
    obtain ⟨c, hc, hp⟩ := h 21 _ rfl
    exact ⟨c, set_ne hc (by decide), some_at hP rfl hp⟩
  | 22, _, hP => by
    obtain ⟨c, hc, hp⟩ := h 22 _ rfl
    exact ⟨c, set_ne hc (by decide), some_at hP rfl hp⟩
  | 23, _, hP => by
    obtain ⟨c, hc, hp⟩ := h 23 _ rfl
    exact ⟨c, set_ne hc (by decide), some_at hP rfl hp⟩
  | 24, _, hP => by
    obtain ⟨c, hc, hp⟩ := h 24 _ rfl
    exact ⟨c, set_ne hc (by decide), some_at hP rfl hp⟩
  | 25, _, hP => by
    obtain ⟨c, hc, hp⟩ := h 25 _ rfl
    exact ⟨c, set_ne hc (by decide), some_at hP rfl hp⟩
  | 26, _, hP => by
    obtain ⟨c, hc, hp⟩ := h 26 _ rfl
    exact ⟨c, set_ne hc (by decide), some_at hP rfl hp⟩
  | 27, _, hP => by
    obtain ⟨c, hc, hp⟩ := h 27 _ rfl
    exact ⟨c, set_ne hc (by decide), some_at hP rfl hp⟩
  | 28, _, hP => by
    obtain ⟨c, hc, hp⟩ := h 28 _ rfl
    exact ⟨c, set_ne hc (by decide), some_at hP rfl hp⟩
  | 29, _, hP => by
    obtain ⟨c, hc, hp⟩ := h 29 _ rfl
    exact ⟨c, set_ne hc (by decide), some_at hP rfl hp⟩
  | 30, _, hP => by
    obtain ⟨c, hc, hp⟩ := h 30 _ rfl
    exact ⟨c, set_ne hc (by decide), some_at hP rfl hp⟩
  | n + 31, P, hP => absurd (show (none : Option (Nat × va_E → Prop)) = some P from hP) (fun q => by cases q)
theorem wx_cl {E : xE} {a : Nat → Nat} {cd : Cd} {kf : Int32} {jn js jq : Lb} {w : va_W} {tp pl le cm wt sm lm n : Nat} {nu : Int32} {c : Nat × va_E} (h : WX (okM E a cd kf jn js jq) w) (hw : (List.set w 0 c)[0]? = some c) (hm : MO a (cd.1, cd.2.1, cd.2.2.1, cd.2.2.2.1, cd.2.2.2.2.1, n) kf (List.set w 0 c) tp pl le cm wt sm lm nu) : ∀ (k : Nat) (P : Nat × va_E → Prop), (okM E a (cd.1, cd.2.1, cd.2.2.1, cd.2.2.2.1, cd.2.2.2.2.1, n) kf jn js jq)[k]? = some P → ∃ c', (List.set w 0 c)[k]? = some c' ∧ P c'
  | 0, _, hP => by
    obtain ⟨v7, v9, v32, v33, v34, v35, n36, n37, ⟨b1, b2, b3, b4, b5, b6, b7⟩, ⟨b8, b9⟩, e⟩ := hm
    rw [hw] at e
    injection e with e
    refine ⟨c, hw, some_at hP rfl ?_⟩
    rw [e]
    exact ⟨_, _, _, _, _, _, _, _, _, _, _, _, _, _, _, _, b1, b2, b3, b4, b5, b6, b7, b8, b9, rfl⟩
  | 1, _, hP => by
    obtain ⟨c, hc, hp⟩ := h 1 _ rfl
    exact ⟨c, set_ne hc (by decide), some_at hP rfl hp⟩
  | 2, _, hP => by
    obtain ⟨c, hc, hp⟩ := h 2 _ rfl
    exact ⟨c, set_ne hc (by decide), some_at hP rfl hp⟩
  | 3, _, hP => by
    obtain ⟨c, hc, hp⟩ := h 3 _ rfl
    exact ⟨c, set_ne hc (by decide), some_at hP rfl hp⟩
  | 4, _, hP => by
    obtain ⟨c, hc, hp⟩ := h 4 _ rfl
    exact ⟨c, set_ne hc (by decide), some_at hP rfl hp⟩
  | 5, _, hP => by
    obtain ⟨c, hc, hp⟩ := h 5 _ rfl
    exact ⟨c, set_ne hc (by decide), some_at hP rfl hp⟩
  | 6, _, hP => by
    obtain ⟨c, hc, hp⟩ := h 6 _ rfl
    exact ⟨c, set_ne hc (by decide), some_at hP rfl hp⟩
  | 7, _, hP => by
    obtain ⟨c, hc, hp⟩ := h 7 _ rfl
    exact ⟨c, set_ne hc (by decide), some_at hP rfl hp⟩
  | 8, _, hP => by
    obtain ⟨c, hc, hp⟩ := h 8 _ rfl
    exact ⟨c, set_ne hc (by decide), some_at hP rfl hp⟩
  | 9, _, hP => by
    obtain ⟨c, hc, hp⟩ := h 9 _ rfl
    exact ⟨c, set_ne hc (by decide), some_at hP rfl hp⟩
  | 10, _, hP => by
    obtain ⟨c, hc, hp⟩ := h 10 _ rfl
    exact ⟨c, set_ne hc (by decide), some_at hP rfl hp⟩
  | 11, _, hP => by
    obtain ⟨c, hc, hp⟩ := h 11 _ rfl
    exact ⟨c, set_ne hc (by decide), some_at hP rfl hp⟩
  | 12, _, hP => by
    obtain ⟨c, hc, hp⟩ := h 12 _ rfl
    exact ⟨c, set_ne hc (by decide), some_at hP rfl hp⟩
  | 13, _, hP => by
    obtain ⟨c, hc, hp⟩ := h 13 _ rfl
    exact ⟨c, set_ne hc (by decide), some_at hP rfl hp⟩
  | 14, _, hP => by
    obtain ⟨c, hc, hp⟩ := h 14 _ rfl
    exact ⟨c, set_ne hc (by decide), some_at hP rfl hp⟩
  | 15, _, hP => by
    obtain ⟨c, hc, hp⟩ := h 15 _ rfl
    exact ⟨c, set_ne hc (by decide), some_at hP rfl hp⟩
  | 16, _, hP => by
    obtain ⟨c, hc, hp⟩ := h 16 _ rfl
    exact ⟨c, set_ne hc (by decide), some_at hP rfl hp⟩
  | 17, _, hP => by
    obtain ⟨c, hc, hp⟩ := h 17 _ rfl
    exact ⟨c, set_ne hc (by decide), some_at hP rfl hp⟩
  | 18, _, hP => by
    obtain ⟨c, hc, hp⟩ := h 18 _ rfl
    exact ⟨c, set_ne hc (by decide), some_at hP rfl hp⟩
  | 19, _, hP => by
    obtain ⟨c, hc, hp⟩ := h 19 _ rfl
    exact ⟨c, set_ne hc (by decide), some_at hP rfl hp⟩
  | 20, _, hP => by
    obtain ⟨c, hc, hp⟩ := h 20 _ rfl
    exact ⟨c, set_ne hc (by decide), some_at hP rfl hp⟩
  | 21, _, hP => by
    obtain ⟨c, hc, hp⟩ := h 21 _ rfl
    exact ⟨c, set_ne hc (by decide), some_at hP rfl hp⟩
  | 22, _, hP => by
    obtain ⟨c, hc, hp⟩ := h 22 _ rfl
    exact ⟨c, set_ne hc (by decide), some_at hP rfl hp⟩
  | 23, _, hP => by
    obtain ⟨c, hc, hp⟩ := h 23 _ rfl
    exact ⟨c, set_ne hc (by decide), some_at hP rfl hp⟩
  | 24, _, hP => by
    obtain ⟨c, hc, hp⟩ := h 24 _ rfl
    exact ⟨c, set_ne hc (by decide), some_at hP rfl hp⟩
  | 25, _, hP => by
    obtain ⟨c, hc, hp⟩ := h 25 _ rfl
    exact ⟨c, set_ne hc (by decide), some_at hP rfl hp⟩
  | 26, _, hP => by
    obtain ⟨c, hc, hp⟩ := h 26 _ rfl
    exact ⟨c, set_ne hc (by decide), some_at hP rfl hp⟩
  | 27, _, hP => by
    obtain ⟨c, hc, hp⟩ := h 27 _ rfl
    exact ⟨c, set_ne hc (by decide), some_at hP rfl hp⟩
  | 28, _, hP => by
    obtain ⟨c, hc, hp⟩ := h 28 _ rfl
    exact ⟨c, set_ne hc (by decide), some_at hP rfl hp⟩
  | 29, _, hP => by
    obtain ⟨c, hc, hp⟩ := h 29 _ rfl
    exact ⟨c, set_ne hc (by decide), some_at hP rfl hp⟩
  | 30, _, hP => by
    obtain ⟨c, hc, hp⟩ := h 30 _ rfl
    exact ⟨c, set_ne hc (by decide), some_at hP rfl hp⟩
  | n + 31, P, hP => absurd (show (none : Option (Nat × va_E → Prop)) = some P from hP) (fun q => by cases q)
theorem Good_of {cd2 : Cd} {fs f8 f9 f10 : Nat → Int32} {sm cm : Nat} (hkl : KL fs f8 f9 f10 sm cm) (hsm : sm ≤ 16) (e6 : cd2.2.2.2.2.2 = sm) (h1 : ∀ k, k < cm → cd2.1 k = fs k) (h8 : ∀ q, q < sm → cd2.2.2.1 q = f8 q) (h9 : ∀ q, q < sm → cd2.2.2.2.1 q = f9 q) (h10 : ∀ q, q < sm → cd2.2.2.2.2.1 q = f10 q) : Good cd2 := by
  refine ⟨by rw [e6]; exact hsm, fun q hq => ?_⟩
  rw [e6] at hq
  obtain ⟨fr, half, to, a1, a2, a3, a4, s1, s2⟩ := hkl q hq
  have l1 := cSeg_lt s1
  have l2 := cSeg_lt s2
  exact ⟨fr, half, to, by rw [h8 q hq]; exact a1, by rw [h9 q hq]; exact a2, by rw [h10 q hq]; exact a3, cSeg_congr s1 (fun k hk => h1 k (by omega)), cSeg_congr s2 (fun k hk => h1 k (by omega))⟩
theorem cpy_step {f g : Nat → Int32} {k : Nat} (h : ∀ j, j < k → g j = f j) : ∀ j, j < k + 1 → upd g k (f k) j = f j := by
  intro j hj
  by_cases e : j = k
  · subst e; rw [pk_us]
  · rw [pk_un e]; exact h j (by omega)
theorem dX12_isClause_0 : decode cX12_isClause 0 = .ok (.iload_n 0, 1) := by decide +kernel
theorem dX12_isClause_1 : decode cX12_isClause 1 = .ok (.bipush 108, 2) := by decide +kernel
theorem dX12_isClause_3 : decode cX12_isClause 3 = .ok (.if_icmp .eq 33, 3) := by decide +kernel
theorem dX12_isClause_6 : decode cX12_isClause 6 = .ok (.iload_n 0, 1) := by decide +kernel
theorem dX12_isClause_7 : decode cX12_isClause 7 = .ok (.bipush 102, 2) := by decide +kernel
theorem dX12_isClause_9 : decode cX12_isClause 9 = .ok (.if_icmp .eq 27, 3) := by decide +kernel
theorem dX12_isClause_12 : decode cX12_isClause 12 = .ok (.iload_n 0, 1) := by decide +kernel
theorem dX12_isClause_13 : decode cX12_isClause 13 = .ok (.bipush 98, 2) := by decide +kernel
theorem dX12_isClause_15 : decode cX12_isClause 15 = .ok (.if_icmp .eq 21, 3) := by decide +kernel
theorem dX12_isClause_18 : decode cX12_isClause 18 = .ok (.iload_n 0, 1) := by decide +kernel
theorem dX12_isClause_19 : decode cX12_isClause 19 = .ok (.bipush 104, 2) := by decide +kernel
theorem dX12_isClause_21 : decode cX12_isClause 21 = .ok (.if_icmp .eq 15, 3) := by decide +kernel
theorem dX12_isClause_24 : decode cX12_isClause 24 = .ok (.iload_n 0, 1) := by decide +kernel
theorem dX12_isClause_25 : decode cX12_isClause 25 = .ok (.bipush 112, 2) := by decide +kernel
theorem dX12_isClause_27 : decode cX12_isClause 27 = .ok (.if_icmp .eq 9, 3) := by decide +kernel
theorem dX12_isClause_30 : decode cX12_isClause 30 = .ok (.iload_n 0, 1) := by decide +kernel
theorem dX12_isClause_31 : decode cX12_isClause 31 = .ok (.bipush 116, 2) := by decide +kernel
theorem dX12_isClause_33 : decode cX12_isClause 33 = .ok (.if_icmp .ne 7, 3) := by decide +kernel
theorem dX12_isClause_36 : decode cX12_isClause 36 = .ok (.iconst 1, 1) := by decide +kernel
theorem dX12_isClause_37 : decode cX12_isClause 37 = .ok (.goto 4, 3) := by decide +kernel
theorem dX12_isClause_40 : decode cX12_isClause 40 = .ok (.iconst 0, 1) := by decide +kernel
theorem dX12_isClause_41 : decode cX12_isClause 41 = .ok (.ireturn, 1) := by decide +kernel
set_option maxRecDepth 20000 in
set_option maxHeartbeats 4000000 in
theorem m_isClause (E : xE) (l : Launch) (a : Nat → Nat) (cd : Cd) (hG : Good cd) (kf : Int32) (jn js jq : Lb) (ws : va_W) (hW : WX (okM E a cd kf jn js jq) ws) (p0 : Int32) : xI E l yX12_isClause cX12_isClause 1 (some .boolean) 0 [.int p0] ws (fun r w => w = ws ∧ zb r ∧ (¬ r = 0 → ¬ p0 = -1)) := by
  refine xI_start (lv := [(0, .int p0)]) RX12 (by decide) rfl (Nat.le_of_ble_eq_true rfl) rfl (fun p e s m below meth c A C hr hlk => ?_)
  refine x_iload_n C dX12_isClause_0 rfl 0 rfl rfl ?_
  refine x_bipush C (v := 108) dX12_isClause_1 (by decide) rfl ?_
  refine x_icmp_eq C (tgt := 36) dX12_isClause_3 (by decide) rfl (fun c1 => ?_) (fun c1 => ?_)
  · skip
    refine x_iconst C (v := 1) dX12_isClause_36 (by decide) rfl ?_
    refine x_goto C (tgt := 41) dX12_isClause_37 (by decide) ?_
    exact x_zret C hr hlk rfl dX12_isClause_41 ⟨rfl, (Or.inr rfl), (fun _ => by rw [c1]; decide)⟩
  · skip
    refine x_iload_n C dX12_isClause_6 rfl 0 rfl rfl ?_
    refine x_bipush C (v := 102) dX12_isClause_7 (by decide) rfl ?_
    refine x_icmp_eq C (tgt := 36) dX12_isClause_9 (by decide) rfl (fun c2 => ?_) (fun c2 => ?_)
    · skip
      refine x_iconst C (v := 1) dX12_isClause_36 (by decide) rfl ?_
      refine x_goto C (tgt := 41) dX12_isClause_37 (by decide) ?_
      exact x_zret C hr hlk rfl dX12_isClause_41 ⟨rfl, (Or.inr rfl), (fun _ => by rw [c2]; decide)⟩
    · skip
      refine x_iload_n C dX12_isClause_12 rfl 0 rfl rfl ?_
      refine x_bipush C (v := 98) dX12_isClause_13 (by decide) rfl ?_
      refine x_icmp_eq C (tgt := 36) dX12_isClause_15 (by decide) rfl (fun c3 => ?_) (fun c3 => ?_)
      · skip
        refine x_iconst C (v := 1) dX12_isClause_36 (by decide) rfl ?_
        refine x_goto C (tgt := 41) dX12_isClause_37 (by decide) ?_
        exact x_zret C hr hlk rfl dX12_isClause_41 ⟨rfl, (Or.inr rfl), (fun _ => by rw [c3]; decide)⟩
      · skip
        refine x_iload_n C dX12_isClause_18 rfl 0 rfl rfl ?_
        refine x_bipush C (v := 104) dX12_isClause_19 (by decide) rfl ?_
        refine x_icmp_eq C (tgt := 36) dX12_isClause_21 (by decide) rfl (fun c4 => ?_) (fun c4 => ?_)
        · skip
          refine x_iconst C (v := 1) dX12_isClause_36 (by decide) rfl ?_
          refine x_goto C (tgt := 41) dX12_isClause_37 (by decide) ?_
          exact x_zret C hr hlk rfl dX12_isClause_41 ⟨rfl, (Or.inr rfl), (fun _ => by rw [c4]; decide)⟩
        · skip
          refine x_iload_n C dX12_isClause_24 rfl 0 rfl rfl ?_
          refine x_bipush C (v := 112) dX12_isClause_25 (by decide) rfl ?_
          refine x_icmp_eq C (tgt := 36) dX12_isClause_27 (by decide) rfl (fun c5 => ?_) (fun c5 => ?_)
          · skip
            refine x_iconst C (v := 1) dX12_isClause_36 (by decide) rfl ?_
            refine x_goto C (tgt := 41) dX12_isClause_37 (by decide) ?_
            exact x_zret C hr hlk rfl dX12_isClause_41 ⟨rfl, (Or.inr rfl), (fun _ => by rw [c5]; decide)⟩
          · skip
            refine x_iload_n C dX12_isClause_30 rfl 0 rfl rfl ?_
            refine x_bipush C (v := 116) dX12_isClause_31 (by decide) rfl ?_
            refine x_icmp_ne C (tgt := 40) dX12_isClause_33 (by decide) rfl (fun c6 => ?_) (fun c6 => ?_)
            · skip
              refine x_iconst C (v := 0) dX12_isClause_40 (by decide) rfl ?_
              exact x_zret C hr hlk rfl dX12_isClause_41 ⟨rfl, (Or.inl rfl), (fun q => absurd rfl q)⟩
            · skip
              refine x_iconst C (v := 1) dX12_isClause_36 (by decide) rfl ?_
              refine x_goto C (tgt := 41) dX12_isClause_37 (by decide) ?_
              exact x_zret C hr hlk rfl dX12_isClause_41 ⟨rfl, (Or.inr rfl), (fun _ => by rw [c6]; decide)⟩
theorem dX12_readsClause_0 : decode cX12_readsClause 0 = .ok (.aload_n 0, 1) := by decide +kernel
theorem dX12_readsClause_1 : decode cX12_readsClause 1 = .ok (.invokevirtual 137, 3) := by decide +kernel
theorem dX12_readsClause_4 : decode cX12_readsClause 4 = .ok (.istore_n 1, 1) := by decide +kernel
theorem dX12_readsClause_5 : decode cX12_readsClause 5 = .ok (.iload_n 1, 1) := by decide +kernel
theorem dX12_readsClause_6 : decode cX12_readsClause 6 = .ok (.invokestatic 208, 3) := by decide +kernel
theorem dX12_readsClause_9 : decode cX12_readsClause 9 = .ok (.ifCond .ne 13, 3) := by decide +kernel
theorem dX12_readsClause_12 : decode cX12_readsClause 12 = .ok (.aload_n 0, 1) := by decide +kernel
theorem dX12_readsClause_13 : decode cX12_readsClause 13 = .ok (.iconst 1, 1) := by decide +kernel
theorem dX12_readsClause_14 : decode cX12_readsClause 14 = .ok (.aload_n 0, 1) := by decide +kernel
theorem dX12_readsClause_15 : decode cX12_readsClause 15 = .ok (.getfield 131, 3) := by decide +kernel
theorem dX12_readsClause_18 : decode cX12_readsClause 18 = .ok (.invokevirtual 144, 3) := by decide +kernel
theorem dX12_readsClause_21 : decode cX12_readsClause 21 = .ok (.ireturn, 1) := by decide +kernel
theorem dX12_readsClause_22 : decode cX12_readsClause 22 = .ok (.aload_n 0, 1) := by decide +kernel
theorem dX12_readsClause_23 : decode cX12_readsClause 23 = .ok (.getfield 211, 3) := by decide +kernel
theorem dX12_readsClause_26 : decode cX12_readsClause 26 = .ok (.bipush 16, 2) := by decide +kernel
theorem dX12_readsClause_28 : decode cX12_readsClause 28 = .ok (.if_icmp .ne 13, 3) := by decide +kernel
theorem dX12_readsClause_31 : decode cX12_readsClause 31 = .ok (.aload_n 0, 1) := by decide +kernel
theorem dX12_readsClause_32 : decode cX12_readsClause 32 = .ok (.iconst 4, 1) := by decide +kernel
theorem dX12_readsClause_33 : decode cX12_readsClause 33 = .ok (.aload_n 0, 1) := by decide +kernel
theorem dX12_readsClause_34 : decode cX12_readsClause 34 = .ok (.getfield 131, 3) := by decide +kernel
theorem dX12_readsClause_37 : decode cX12_readsClause 37 = .ok (.invokevirtual 144, 3) := by decide +kernel
theorem dX12_readsClause_40 : decode cX12_readsClause 40 = .ok (.ireturn, 1) := by decide +kernel
theorem dX12_readsClause_41 : decode cX12_readsClause 41 = .ok (.aload_n 0, 1) := by decide +kernel
theorem dX12_readsClause_42 : decode cX12_readsClause 42 = .ok (.getfield 29, 3) := by decide +kernel
theorem dX12_readsClause_45 : decode cX12_readsClause 45 = .ok (.aload_n 0, 1) := by decide +kernel
theorem dX12_readsClause_46 : decode cX12_readsClause 46 = .ok (.getfield 211, 3) := by decide +kernel
theorem dX12_readsClause_49 : decode cX12_readsClause 49 = .ok (.iload_n 1, 1) := by decide +kernel
theorem dX12_readsClause_50 : decode cX12_readsClause 50 = .ok (.iastore, 1) := by decide +kernel
theorem dX12_readsClause_51 : decode cX12_readsClause 51 = .ok (.aload_n 0, 1) := by decide +kernel
theorem dX12_readsClause_52 : decode cX12_readsClause 52 = .ok (.aload_n 0, 1) := by decide +kernel
theorem dX12_readsClause_53 : decode cX12_readsClause 53 = .ok (.getfield 131, 3) := by decide +kernel
theorem dX12_readsClause_56 : decode cX12_readsClause 56 = .ok (.iconst 1, 1) := by decide +kernel
theorem dX12_readsClause_57 : decode cX12_readsClause 57 = .ok (.iadd, 1) := by decide +kernel
theorem dX12_readsClause_58 : decode cX12_readsClause 58 = .ok (.putfield 131, 3) := by decide +kernel
theorem dX12_readsClause_61 : decode cX12_readsClause 61 = .ok (.aload_n 0, 1) := by decide +kernel
theorem dX12_readsClause_62 : decode cX12_readsClause 62 = .ok (.getfield 32, 3) := by decide +kernel
theorem dX12_readsClause_65 : decode cX12_readsClause 65 = .ok (.aload_n 0, 1) := by decide +kernel
theorem dX12_readsClause_66 : decode cX12_readsClause 66 = .ok (.getfield 211, 3) := by decide +kernel
theorem dX12_readsClause_69 : decode cX12_readsClause 69 = .ok (.aload_n 0, 1) := by decide +kernel
theorem dX12_readsClause_70 : decode cX12_readsClause 70 = .ok (.getfield 154, 3) := by decide +kernel
theorem dX12_readsClause_73 : decode cX12_readsClause 73 = .ok (.iastore, 1) := by decide +kernel
theorem dX12_readsClause_74 : decode cX12_readsClause 74 = .ok (.aload_n 0, 1) := by decide +kernel
theorem dX12_readsClause_75 : decode cX12_readsClause 75 = .ok (.iconst 0, 1) := by decide +kernel
theorem dX12_readsClause_76 : decode cX12_readsClause 76 = .ok (.putfield 158, 3) := by decide +kernel
theorem dX12_readsClause_79 : decode cX12_readsClause 79 = .ok (.aload_n 0, 1) := by decide +kernel
theorem dX12_readsClause_80 : decode cX12_readsClause 80 = .ok (.iconst 0, 1) := by decide +kernel
theorem dX12_readsClause_81 : decode cX12_readsClause 81 = .ok (.putfield 161, 3) := by decide +kernel
theorem dX12_readsClause_84 : decode cX12_readsClause 84 = .ok (.aload_n 0, 1) := by decide +kernel
theorem dX12_readsClause_85 : decode cX12_readsClause 85 = .ok (.invokevirtual 193, 3) := by decide +kernel
theorem dX12_readsClause_88 : decode cX12_readsClause 88 = .ok (.ifCond .ne 5, 3) := by decide +kernel
theorem dX12_readsClause_91 : decode cX12_readsClause 91 = .ok (.iconst 0, 1) := by decide +kernel
theorem dX12_readsClause_92 : decode cX12_readsClause 92 = .ok (.ireturn, 1) := by decide +kernel
theorem dX12_readsClause_93 : decode cX12_readsClause 93 = .ok (.aload_n 0, 1) := by decide +kernel
theorem dX12_readsClause_94 : decode cX12_readsClause 94 = .ok (.getfield 35, 3) := by decide +kernel
theorem dX12_readsClause_97 : decode cX12_readsClause 97 = .ok (.aload_n 0, 1) := by decide +kernel
theorem dX12_readsClause_98 : decode cX12_readsClause 98 = .ok (.getfield 211, 3) := by decide +kernel
theorem dX12_readsClause_101 : decode cX12_readsClause 101 = .ok (.aload_n 0, 1) := by decide +kernel
theorem dX12_readsClause_102 : decode cX12_readsClause 102 = .ok (.getfield 154, 3) := by decide +kernel
theorem dX12_readsClause_105 : decode cX12_readsClause 105 = .ok (.iastore, 1) := by decide +kernel
theorem dX12_readsClause_106 : decode cX12_readsClause 106 = .ok (.aload_n 0, 1) := by decide +kernel
theorem dX12_readsClause_107 : decode cX12_readsClause 107 = .ok (.invokevirtual 214, 3) := by decide +kernel
theorem dX12_readsClause_110 : decode cX12_readsClause 110 = .ok (.ifCond .ne 5, 3) := by decide +kernel
theorem dX12_readsClause_113 : decode cX12_readsClause 113 = .ok (.iconst 0, 1) := by decide +kernel
theorem dX12_readsClause_114 : decode cX12_readsClause 114 = .ok (.ireturn, 1) := by decide +kernel
theorem dX12_readsClause_115 : decode cX12_readsClause 115 = .ok (.aload_n 0, 1) := by decide +kernel
theorem dX12_readsClause_116 : decode cX12_readsClause 116 = .ok (.getfield 38, 3) := by decide +kernel
theorem dX12_readsClause_119 : decode cX12_readsClause 119 = .ok (.aload_n 0, 1) := by decide +kernel
theorem dX12_readsClause_120 : decode cX12_readsClause 120 = .ok (.getfield 211, 3) := by decide +kernel
theorem dX12_readsClause_123 : decode cX12_readsClause 123 = .ok (.aload_n 0, 1) := by decide +kernel
theorem dX12_readsClause_124 : decode cX12_readsClause 124 = .ok (.getfield 154, 3) := by decide +kernel
theorem dX12_readsClause_127 : decode cX12_readsClause 127 = .ok (.iastore, 1) := by decide +kernel
theorem dX12_readsClause_128 : decode cX12_readsClause 128 = .ok (.aload_n 0, 1) := by decide +kernel
theorem dX12_readsClause_129 : decode cX12_readsClause 129 = .ok (.aload_n 0, 1) := by decide +kernel
theorem dX12_readsClause_130 : decode cX12_readsClause 130 = .ok (.getfield 211, 3) := by decide +kernel
theorem dX12_readsClause_133 : decode cX12_readsClause 133 = .ok (.iconst 1, 1) := by decide +kernel
theorem dX12_readsClause_134 : decode cX12_readsClause 134 = .ok (.iadd, 1) := by decide +kernel
theorem dX12_readsClause_135 : decode cX12_readsClause 135 = .ok (.putfield 211, 3) := by decide +kernel
theorem dX12_readsClause_138 : decode cX12_readsClause 138 = .ok (.iconst 1, 1) := by decide +kernel
theorem dX12_readsClause_139 : decode cX12_readsClause 139 = .ok (.ireturn, 1) := by decide +kernel
set_option maxRecDepth 20000 in
set_option maxHeartbeats 4000000 in
theorem m_readsClause (E : xE) (l : Launch) (a : Nat → Nat) (cd : Cd) (hG : Good cd) (kf : Int32) (jn js jq : Lb) (ws : va_W) (hW : WX (okM E a cd kf jn js jq) ws) (tp pl le cm wt sm lm : Nat) (nu : Int32) (h0 : MO a cd kf ws tp pl le cm wt sm lm nu) (tf : Nat → Int32) (htf : ws[4]? = some (bA E (a 4) 260 tf)) (hpl : pl ≤ le) (fs : Nat → Int32) (hfs : ws[5]? = some (iA E (a 5) 260 fs)) (fw : Nat → Int32) (hfw : ws[6]? = some (iA E (a 6) 260 fw)) (f8 : Nat → Int32) (h8 : ws[8]? = some (iA E (a 8) 16 f8)) (f9 : Nat → Int32) (h9 : ws[9]? = some (iA E (a 9) 16 f9)) (f10 : Nat → Int32) (h10 : ws[10]? = some (iA E (a 10) 16 f10)) (hcm : cm ≤ pl) (hkl : KL fs f8 f9 f10 sm cm) : xI E l yX12_readsClause cX12_readsClause 2 (some .boolean) 7 [.ref (a 0)] ws (fun r w => WX (okM E a cd kf jn js jq) w ∧ keeps ws w (fun q => q = 0 ∨ q = 5 ∨ q = 6 ∨ q = 7 ∨ q = 8 ∨ q = 9 ∨ q = 10) ∧ zb r ∧ ((r = 0 ∧ RF E a cd kf w tp le sm lm) ∨ (r = 1 ∧ ∃ (pl2 cm2 wt2 : Nat) (fs2 fw2 g8 g9 g10 : Nat → Int32), pl < pl2 ∧ pl2 ≤ le ∧ RS E a cd kf w tp pl2 le cm2 wt2 (sm + 1) lm fs2 fw2 ∧ w[8]? = some (iA E (a 8) 16 g8) ∧ w[9]? = some (iA E (a 9) 16 g9) ∧ w[10]? = some (iA E (a 10) 16 g10) ∧ cm2 ≤ pl2 ∧ KL fs2 g8 g9 g10 (sm + 1) cm2))) := by
  refine xI_start (lv := [(0, .ref (a 0))]) RX12 (by decide) rfl (Nat.le_of_ble_eq_true rfl) rfl (fun p e s m below meth c A C hr hlk => ?_)
  have kp0 : keeps ws ws (fun q => q = 0 ∨ q = 5 ∨ q = 6 ∨ q = 7 ∨ q = 8 ∨ q = 9 ∨ q = 10) := keeps_rf
  obtain ⟨v1, v2, v3, v4, v5, v6, n7, n8, bo9, bo10, k11⟩ := h0
  refine x_aload_n C dX12_readsClause_0 rfl 0 rfl rfl ?_
  refine x_vi C (As := []) (rest := []) (m_here E l a cd hG kf jn js jq ws hW tp pl le cm wt sm lm nu ⟨v1, v2, v3, v4, v5, v6, n7, n8, ⟨by omega, by omega, by omega, by omega, by omega, by omega, by omega⟩, ⟨by omega, by omega⟩, k11⟩ tf htf) mf_X12_here w_1317 0 k11 rfl rfl rfl (Nat.le_of_ble_eq_true rfl) ⟨(Nat.le_of_ble_eq_true rfl), (Nat.le_of_ble_eq_true rfl)⟩ ⟨(Nat.le_of_ble_eq_true rfl), (Nat.le_of_ble_eq_true rfl)⟩ dX12_readsClause_1 rfl (fun r13 w14 h12 => ?_)
  obtain ⟨hW15, x16⟩ := h12
  refine x_ws hW15 ?_
  refine x_istore_n C (lv' := [(1, .int r13), (0, .ref (a 0))]) dX12_readsClause_4 rfl (by decide) rfl rfl ?_
  refine x_iload_n C dX12_readsClause_5 rfl 0 rfl rfl ?_
  refine x_si C (As := [.int r13]) (rest := []) (m_isClause E l a cd hG kf jn js jq ws hW r13) mf_X12_isClause w_1321 rfl rfl (Nat.le_of_ble_eq_true rfl) ⟨(Nat.le_of_ble_eq_true rfl), (Nat.le_of_ble_eq_true rfl)⟩ ⟨(Nat.le_of_ble_eq_true rfl), (Nat.le_of_ble_eq_true rfl)⟩ dX12_readsClause_6 rfl (fun r18 w19 h17 => ?_)
  obtain ⟨hW20, zb21, x22⟩ := h17
  refine x_ws hW20 ?_
  refine x_if_ne C (tgt := 22) dX12_readsClause_9 (by decide) rfl (fun c23 => ?_) (fun c23 => ?_)
  · skip
    have hic24 := x22 c23
    have hp25 := hv_lt (x16.symm) hic24
    refine x_aload_n C dX12_readsClause_22 rfl 1 rfl rfl ?_
    refine x_get C (ci := 11) (k := 12) 0 k11 rfl in_X12 (by decide) w_1130 rfl dX12_readsClause_23 rfl ?_
    refine x_bipush C (v := 16) dX12_readsClause_26 (by decide) rfl ?_
    refine x_icmp_ne C (tgt := 41) dX12_readsClause_28 (by decide) rfl (fun c26 => ?_) (fun c26 => ?_)
    · skip
      have nf27 : ¬ sm = 16 := fun q => c26 (congrArg nI q)
      refine x_aload_n C dX12_readsClause_41 rfl 1 rfl rfl ?_
      refine x_get C (ci := 11) (k := 16) 0 k11 rfl in_X12 (by decide) w_1134 rfl dX12_readsClause_42 rfl ?_
      refine x_aload_n C dX12_readsClause_45 rfl 1 rfl rfl ?_
      refine x_get C (ci := 11) (k := 12) 0 k11 rfl in_X12 (by decide) w_1130 rfl dX12_readsClause_46 rfl ?_
      refine x_iload_n C dX12_readsClause_49 rfl 0 rfl rfl ?_
      obtain ⟨_, k28, f29, rfl⟩ := hW 7 _ rfl
      obtain ⟨w30, hw31⟩ : ∃ w : va_W, w = List.set ws 7 (iA E (a 7) 16 (upd f29 sm r13)) := ⟨_, rfl⟩
      refine x_iask C sm (nI_clamp (by omega)) (nI_pos (by omega)) (by omega) 7 k28 hw31.symm dX12_readsClause_50 rfl ?_
      have hW32 : WX (okM E a cd kf jn js jq) w30 := by rw [hw31]; exact hW.set (k := 7) rfl ⟨_, rfl⟩
      have k33 : w30[0]? = some (ob (a 0) 11 [.ref (a 1), .ref (a 2), .ref (a 3), .ref (a 4), .int (nI tp), .int (nI pl), .int (nI le), .int v1, .int nu, .int v2, .int (nI cm), .int (nI wt), .int (nI sm), .int (nI (cd.2.2.2.2.2)), .ref (a 5), .ref (a 6), .ref (a 7), .ref (a 8), .ref (a 9), .ref (a 10), .ref (a 11), .ref (a 12), .ref (a 13), .ref (a 14), .ref (a 15), .ref (a 16), .ref (a 17), .int (nI lm), .ref (a 18), .ref (a 19), .ref (a 20), .ref (a 21), .int v3, .int v4, .int v5, .int v6, .int (nI n7), .int (nI n8), .ref (a 22), .ref (a 23), .ref (a 24), .ref (a 25), .ref (a 26), .ref (a 27), .ref (a 28), .ref (a 29), .ref (a 30), .int kf]) := by rw [hw31]; exact set_ne k11 (by decide)
      have k34 : w30[4]? = some (bA E (a 4) 260 tf) := by rw [hw31]; exact set_ne htf (by decide)
      have k35 : w30[5]? = some (iA E (a 5) 260 fs) := by rw [hw31]; exact set_ne hfs (by decide)
      have k36 : w30[6]? = some (iA E (a 6) 260 fw) := by rw [hw31]; exact set_ne hfw (by decide)
      have k37 : w30[8]? = some (iA E (a 8) 16 f8) := by rw [hw31]; exact set_ne h8 (by decide)
      have k38 : w30[9]? = some (iA E (a 9) 16 f9) := by rw [hw31]; exact set_ne h9 (by decide)
      have k39 : w30[10]? = some (iA E (a 10) 16 f10) := by rw [hw31]; exact set_ne h10 (by decide)
      have k40 : w30[7]? = some (iA E (a 7) 16 (upd f29 sm r13)) := by rw [hw31]; exact set_eq k28
      have kp41 := keeps_set kp0 hw31 (by first | exact rfl | decide | omega | (dsimp only; omega))
      refine x_aload_n C dX12_readsClause_51 rfl 1 rfl rfl ?_
      refine x_aload_n C dX12_readsClause_52 rfl 1 rfl rfl ?_
      refine x_get C (ci := 11) (k := 5) 0 k33 rfl in_X12 (by decide) w_1123 rfl dX12_readsClause_53 rfl ?_
      refine x_iconst C (v := 1) dX12_readsClause_56 (by decide) rfl ?_
      refine x_iadd C (v := (nI (pl + 1))) dX12_readsClause_57 (nI_add pl 1) rfl ?_
      obtain ⟨w42, hw43⟩ : ∃ w : va_W, w = List.set w30 0 (ob (a 0) 11 [.ref (a 1), .ref (a 2), .ref (a 3), .ref (a 4), .int (nI tp), .int (nI (pl + 1)), .int (nI le), .int v1, .int nu, .int v2, .int (nI cm), .int (nI wt), .int (nI sm), .int (nI (cd.2.2.2.2.2)), .ref (a 5), .ref (a 6), .ref (a 7), .ref (a 8), .ref (a 9), .ref (a 10), .ref (a 11), .ref (a 12), .ref (a 13), .ref (a 14), .ref (a 15), .ref (a 16), .ref (a 17), .int (nI lm), .ref (a 18), .ref (a 19), .ref (a 20), .ref (a 21), .int v3, .int v4, .int v5, .int v6, .int (nI n7), .int (nI n8), .ref (a 22), .ref (a 23), .ref (a 24), .ref (a 25), .ref (a 26), .ref (a 27), .ref (a 28), .ref (a 29), .ref (a 30), .int kf]) := ⟨_, rfl⟩
      refine x_put C (ci := 11) (k := 5) (ty := .int) 0 k33 rfl in_X12 tyX12 tyX12_ok nmX12 (by decide) w_1123 rfl rfl rfl rfl (Nat.le_of_ble_eq_true rfl) hw43.symm dX12_readsClause_58 rfl ?_
      have hW44 : WX (okM E a cd kf jn js jq) w42 := by rw [hw43]; exact hW32.set (k := 0) rfl ⟨tp, (pl + 1), le, v1, nu, v2, cm, wt, sm, lm, v3, v4, v5, v6, n7, n8, by omega, by omega, by omega, by omega, by omega, by omega, by omega, by omega, by omega, rfl⟩
      have k45 : w42[0]? = some (ob (a 0) 11 [.ref (a 1), .ref (a 2), .ref (a 3), .ref (a 4), .int (nI tp), .int (nI (pl + 1)), .int (nI le), .int v1, .int nu, .int v2, .int (nI cm), .int (nI wt), .int (nI sm), .int (nI (cd.2.2.2.2.2)), .ref (a 5), .ref (a 6), .ref (a 7), .ref (a 8), .ref (a 9), .ref (a 10), .ref (a 11), .ref (a 12), .ref (a 13), .ref (a 14), .ref (a 15), .ref (a 16), .ref (a 17), .int (nI lm), .ref (a 18), .ref (a 19), .ref (a 20), .ref (a 21), .int v3, .int v4, .int v5, .int v6, .int (nI n7), .int (nI n8), .ref (a 22), .ref (a 23), .ref (a 24), .ref (a 25), .ref (a 26), .ref (a 27), .ref (a 28), .ref (a 29), .ref (a 30), .int kf]) := by rw [hw43]; exact set_eq k33
      have k46 : w42[4]? = some (bA E (a 4) 260 tf) := by rw [hw43]; exact set_ne k34 (by decide)
      have k47 : w42[5]? = some (iA E (a 5) 260 fs) := by rw [hw43]; exact set_ne k35 (by decide)
      have k48 : w42[6]? = some (iA E (a 6) 260 fw) := by rw [hw43]; exact set_ne k36 (by decide)
      have k49 : w42[8]? = some (iA E (a 8) 16 f8) := by rw [hw43]; exact set_ne k37 (by decide)
      have k50 : w42[9]? = some (iA E (a 9) 16 f9) := by rw [hw43]; exact set_ne k38 (by decide)
      have k51 : w42[10]? = some (iA E (a 10) 16 f10) := by rw [hw43]; exact set_ne k39 (by decide)
      have k52 : w42[7]? = some (iA E (a 7) 16 (upd f29 sm r13)) := by rw [hw43]; exact set_ne k40 (by decide)
      have kp53 := keeps_set kp41 hw43 (by first | exact rfl | decide | omega | (dsimp only; omega))
      refine x_aload_n C dX12_readsClause_61 rfl 1 rfl rfl ?_
      refine x_get C (ci := 11) (k := 17) 0 k45 rfl in_X12 (by decide) w_1135 rfl dX12_readsClause_62 rfl ?_
      refine x_aload_n C dX12_readsClause_65 rfl 1 rfl rfl ?_
      refine x_get C (ci := 11) (k := 12) 0 k45 rfl in_X12 (by decide) w_1130 rfl dX12_readsClause_66 rfl ?_
      refine x_aload_n C dX12_readsClause_69 rfl 1 rfl rfl ?_
      refine x_get C (ci := 11) (k := 10) 0 k45 rfl in_X12 (by decide) w_1128 rfl dX12_readsClause_70 rfl ?_
      obtain ⟨w54, hw55⟩ : ∃ w : va_W, w = List.set w42 8 (iA E (a 8) 16 (upd f8 sm (nI cm))) := ⟨_, rfl⟩
      refine x_iask C sm (nI_clamp (by omega)) (nI_pos (by omega)) (by omega) 8 k49 hw55.symm dX12_readsClause_73 rfl ?_
      have hW56 : WX (okM E a cd kf jn js jq) w54 := by rw [hw55]; exact hW44.set (k := 8) rfl ⟨_, rfl⟩
      have k57 : w54[0]? = some (ob (a 0) 11 [.ref (a 1), .ref (a 2), .ref (a 3), .ref (a 4), .int (nI tp), .int (nI (pl + 1)), .int (nI le), .int v1, .int nu, .int v2, .int (nI cm), .int (nI wt), .int (nI sm), .int (nI (cd.2.2.2.2.2)), .ref (a 5), .ref (a 6), .ref (a 7), .ref (a 8), .ref (a 9), .ref (a 10), .ref (a 11), .ref (a 12), .ref (a 13), .ref (a 14), .ref (a 15), .ref (a 16), .ref (a 17), .int (nI lm), .ref (a 18), .ref (a 19), .ref (a 20), .ref (a 21), .int v3, .int v4, .int v5, .int v6, .int (nI n7), .int (nI n8), .ref (a 22), .ref (a 23), .ref (a 24), .ref (a 25), .ref (a 26), .ref (a 27), .ref (a 28), .ref (a 29), .ref (a 30), .int kf]) := by rw [hw55]; exact set_ne k45 (by decide)
      have k58 : w54[4]? = some (bA E (a 4) 260 tf) := by rw [hw55]; exact set_ne k46 (by decide)
      have k59 : w54[5]? = some (iA E (a 5) 260 fs) := by rw [hw55]; exact set_ne k47 (by decide)
      have k60 : w54[6]? = some (iA E (a 6) 260 fw) := by rw [hw55]; exact set_ne k48 (by decide)
      have k61 : w54[8]? = some (iA E (a 8) 16 (upd f8 sm (nI cm))) := by rw [hw55]; exact set_eq k49
      have k62 : w54[9]? = some (iA E (a 9) 16 f9) := by rw [hw55]; exact set_ne k50 (by decide)
      have k63 : w54[10]? = some (iA E (a 10) 16 f10) := by rw [hw55]; exact set_ne k51 (by decide)
      have k64 : w54[7]? = some (iA E (a 7) 16 (upd f29 sm r13)) := by rw [hw55]; exact set_ne k52 (by decide)
      have kp65 := keeps_set kp53 hw55 (by first | exact rfl | decide | omega | (dsimp only; omega))
      refine x_aload_n C dX12_readsClause_74 rfl 1 rfl rfl ?_
      refine x_iconst C (v := 0) dX12_readsClause_75 (by decide) rfl ?_
      obtain ⟨w66, hw67⟩ : ∃ w : va_W, w = List.set w54 0 (ob (a 0) 11 [.ref (a 1), .ref (a 2), .ref (a 3), .ref (a 4), .int (nI tp), .int (nI (pl + 1)), .int (nI le), .int v1, .int nu, .int 0, .int (nI cm), .int (nI wt), .int (nI sm), .int (nI (cd.2.2.2.2.2)), .ref (a 5), .ref (a 6), .ref (a 7), .ref (a 8), .ref (a 9), .ref (a 10), .ref (a 11), .ref (a 12), .ref (a 13), .ref (a 14), .ref (a 15), .ref (a 16), .ref (a 17), .int (nI lm), .ref (a 18), .ref (a 19), .ref (a 20), .ref (a 21), .int v3, .int v4, .int v5, .int v6, .int (nI n7), .int (nI n8), .ref (a 22), .ref (a 23), .ref (a 24), .ref (a 25), .ref (a 26), .ref (a 27), .ref (a 28), .ref (a 29), .ref (a 30), .int kf]) := ⟨_, rfl⟩
      refine x_put C (ci := 11) (k := 9) (ty := .int) 0 k57 rfl in_X12 tyX12 tyX12_ok nmX12 (by decide) w_1127 rfl rfl rfl rfl (Nat.le_of_ble_eq_true rfl) hw67.symm dX12_readsClause_76 rfl ?_
      have hW68 : WX (okM E a cd kf jn js jq) w66 := by rw [hw67]; exact hW56.set (k := 0) rfl ⟨tp, (pl + 1), le, v1, nu, (0 : Int32), cm, wt, sm, lm, v3, v4, v5, v6, n7, n8, by omega, by omega, by omega, by omega, by omega, by omega, by omega, by omega, by omega, rfl⟩
      have k69 : w66[0]? = some (ob (a 0) 11 [.ref (a 1), .ref (a 2), .ref (a 3), .ref (a 4), .int (nI tp), .int (nI (pl + 1)), .int (nI le), .int v1, .int nu, .int 0, .int (nI cm), .int (nI wt), .int (nI sm), .int (nI (cd.2.2.2.2.2)), .ref (a 5), .ref (a 6), .ref (a 7), .ref (a 8), .ref (a 9), .ref (a 10), .ref (a 11), .ref (a 12), .ref (a 13), .ref (a 14), .ref (a 15), .ref (a 16), .ref (a 17), .int (nI lm), .ref (a 18), .ref (a 19), .ref (a 20), .ref (a 21), .int v3, .int v4, .int v5, .int v6, .int (nI n7), .int (nI n8), .ref (a 22), .ref (a 23), .ref (a 24), .ref (a 25), .ref (a 26), .ref (a 27), .ref (a 28), .ref (a 29), .ref (a 30), .int kf]) := by rw [hw67]; exact set_eq k57
      have k70 : w66[4]? = some (bA E (a 4) 260 tf) := by rw [hw67]; exact set_ne k58 (by decide)
      have k71 : w66[5]? = some (iA E (a 5) 260 fs) := by rw [hw67]; exact set_ne k59 (by decide)
      have k72 : w66[6]? = some (iA E (a 6) 260 fw) := by rw [hw67]; exact set_ne k60 (by decide)
      have k73 : w66[8]? = some (iA E (a 8) 16 (upd f8 sm (nI cm))) := by rw [hw67]; exact set_ne k61 (by decide)
      have k74 : w66[9]? = some (iA E (a 9) 16 f9) := by rw [hw67]; exact set_ne k62 (by decide)
      have k75 : w66[10]? = some (iA E (a 10) 16 f10) := by rw [hw67]; exact set_ne k63 (by decide)
      have k76 : w66[7]? = some (iA E (a 7) 16 (upd f29 sm r13)) := by rw [hw67]; exact set_ne k64 (by decide)
      have kp77 := keeps_set kp65 hw67 (by first | exact rfl | decide | omega | (dsimp only; omega))
      refine x_aload_n C dX12_readsClause_79 rfl 1 rfl rfl ?_
      refine x_iconst C (v := 0) dX12_readsClause_80 (by decide) rfl ?_
      obtain ⟨w78, hw79⟩ : ∃ w : va_W, w = List.set w66 0 (ob (a 0) 11 [.ref (a 1), .ref (a 2), .ref (a 3), .ref (a 4), .int (nI tp), .int (nI (pl + 1)), .int (nI le), .int v1, .int nu, .int 0, .int (nI cm), .int 0, .int (nI sm), .int (nI (cd.2.2.2.2.2)), .ref (a 5), .ref (a 6), .ref (a 7), .ref (a 8), .ref (a 9), .ref (a 10), .ref (a 11), .ref (a 12), .ref (a 13), .ref (a 14), .ref (a 15), .ref (a 16), .ref (a 17), .int (nI lm), .ref (a 18), .ref (a 19), .ref (a 20), .ref (a 21), .int v3, .int v4, .int v5, .int v6, .int (nI n7), .int (nI n8), .ref (a 22), .ref (a 23), .ref (a 24), .ref (a 25), .ref (a 26), .ref (a 27), .ref (a 28), .ref (a 29), .ref (a 30), .int kf]) := ⟨_, rfl⟩
      refine x_put C (ci := 11) (k := 11) (ty := .int) 0 k69 rfl in_X12 tyX12 tyX12_ok nmX12 (by decide) w_1129 rfl rfl rfl rfl (Nat.le_of_ble_eq_true rfl) hw79.symm dX12_readsClause_81 rfl ?_
      have hW80 : WX (okM E a cd kf jn js jq) w78 := by rw [hw79]; exact hW68.set (k := 0) rfl ⟨tp, (pl + 1), le, v1, nu, (0 : Int32), cm, 0, sm, lm, v3, v4, v5, v6, n7, n8, by omega, by omega, by omega, by omega, by omega, by omega, by omega, by omega, by omega, rfl⟩
      have k81 : w78[0]? = some (ob (a 0) 11 [.ref (a 1), .ref (a 2), .ref (a 3), .ref (a 4), .int (nI tp), .int (nI (pl + 1)), .int (nI le), .int v1, .int nu, .int 0, .int (nI cm), .int 0, .int (nI sm), .int (nI (cd.2.2.2.2.2)), .ref (a 5), .ref (a 6), .ref (a 7), .ref (a 8), .ref (a 9), .ref (a 10), .ref (a 11), .ref (a 12), .ref (a 13), .ref (a 14), .ref (a 15), .ref (a 16), .ref (a 17), .int (nI lm), .ref (a 18), .ref (a 19), .ref (a 20), .ref (a 21), .int v3, .int v4, .int v5, .int v6, .int (nI n7), .int (nI n8), .ref (a 22), .ref (a 23), .ref (a 24), .ref (a 25), .ref (a 26), .ref (a 27), .ref (a 28), .ref (a 29), .ref (a 30), .int kf]) := by rw [hw79]; exact set_eq k69
      have k82 : w78[4]? = some (bA E (a 4) 260 tf) := by rw [hw79]; exact set_ne k70 (by decide)
      have k83 : w78[5]? = some (iA E (a 5) 260 fs) := by rw [hw79]; exact set_ne k71 (by decide)
      have k84 : w78[6]? = some (iA E (a 6) 260 fw) := by rw [hw79]; exact set_ne k72 (by decide)
      have k85 : w78[8]? = some (iA E (a 8) 16 (upd f8 sm (nI cm))) := by rw [hw79]; exact set_ne k73 (by decide)
      have k86 : w78[9]? = some (iA E (a 9) 16 f9) := by rw [hw79]; exact set_ne k74 (by decide)
      have k87 : w78[10]? = some (iA E (a 10) 16 f10) := by rw [hw79]; exact set_ne k75 (by decide)
      have k88 : w78[7]? = some (iA E (a 7) 16 (upd f29 sm r13)) := by rw [hw79]; exact set_ne k76 (by decide)
      have kp89 := keeps_set kp77 hw79 (by first | exact rfl | decide | omega | (dsimp only; omega))
      have hw0 : wgt [] = 0 := rfl
      refine x_aload_n C dX12_readsClause_84 rfl 1 rfl rfl ?_
      refine x_vi C (As := []) (rest := []) (m_readsSum E l a cd hG kf jn js jq w78 hW80 tp (pl + 1) le cm 0 sm lm nu ⟨v1, (0 : Int32), v3, v4, v5, v6, n7, n8, ⟨by omega, by omega, by omega, by omega, by omega, by omega, by omega⟩, ⟨by omega, by omega⟩, k81⟩ tf k82 (by omega) fs k83 fw k84 ([]) (show wR _ [] 0 from rfl) nOps_nil cm 0 (CI_start _ _) (by omega) 0 (by omega) (by omega)) mf_X12_readsSum w_1328 0 k81 rfl rfl rfl (Nat.le_of_ble_eq_true rfl) ⟨(Nat.le_of_ble_eq_true rfl), (Nat.le_of_ble_eq_true rfl)⟩ ⟨(Nat.le_of_ble_eq_true rfl), (Nat.le_of_ble_eq_true rfl)⟩ dX12_readsClause_85 rfl (fun r91 w92 h90 => ?_)
      obtain ⟨hW93, kq94, zb95, x96⟩ := h90
      have k97 : w92[4]? = some (bA E (a 4) 260 tf) := keeps_at kq94 k82 (by first | decide | omega | (dsimp only; omega))
      have k98 : w92[8]? = some (iA E (a 8) 16 (upd f8 sm (nI cm))) := keeps_at kq94 k85 (by first | decide | omega | (dsimp only; omega))
      have k99 : w92[9]? = some (iA E (a 9) 16 f9) := keeps_at kq94 k86 (by first | decide | omega | (dsimp only; omega))
      have k100 : w92[10]? = some (iA E (a 10) 16 f10) := keeps_at kq94 k87 (by first | decide | omega | (dsimp only; omega))
      have k101 : w92[7]? = some (iA E (a 7) 16 (upd f29 sm r13)) := keeps_at kq94 k88 (by first | decide | omega | (dsimp only; omega))
      have kp102 := keeps_tr kp89 kq94 (fun q hq => by first | omega | (dsimp only at *; omega))
      rcases x96 with ⟨e103, rf104⟩ | ⟨e105, pl106, cm107, fs108, fw109, hs110, hs111, hs112, hs113, hs114, hs115, hs116⟩
      · refine x_top e103 ?_
        obtain ⟨pl117, cm118, wt119, fs120, fw121, rs122⟩ := rf104
        obtain ⟨⟨nu123, mo124⟩, k125, k126⟩ := rs122
        obtain ⟨v127, v128, v129, v130, v131, v132, n133, n134, bo135, bo136, k137⟩ := mo124
        refine x_if_ne C (tgt := 93) dX12_readsClause_88 (by decide) rfl (fun h => absurd h (by decide)) (fun _ => ?_)
        refine x_iconst C (v := 0) dX12_readsClause_91 (by decide) rfl ?_
        exact x_zret C hr hlk rfl dX12_readsClause_92 ⟨hW93, kp102, (Or.inl rfl), (Or.inl ⟨rfl, ⟨pl117, cm118, wt119, _, _, ⟨⟨_, ⟨v127, v128, v129, v130, v131, v132, n133, n134, ⟨by omega, by omega, by omega, by omega, by omega, by omega, by omega⟩, ⟨by omega, by omega⟩, k137⟩⟩, k125, k126⟩⟩⟩)⟩
      · refine x_top e105 ?_
        obtain ⟨⟨nu138, mo139⟩, k140, k141⟩ := hs113
        obtain ⟨v142, v143, v144, v145, v146, v147, n148, n149, bo150, bo151, k152⟩ := mo139
        refine x_if_ne C (tgt := 93) dX12_readsClause_88 (by decide) rfl (fun _ => ?_) (fun h => absurd h (by decide))
        refine x_aload_n C dX12_readsClause_93 rfl 1 rfl rfl ?_
        refine x_get C (ci := 11) (k := 18) 0 k152 rfl in_X12 (by decide) w_1136 rfl dX12_readsClause_94 rfl ?_
        refine x_aload_n C dX12_readsClause_97 rfl 1 rfl rfl ?_
        refine x_get C (ci := 11) (k := 12) 0 k152 rfl in_X12 (by decide) w_1130 rfl dX12_readsClause_98 rfl ?_
        refine x_aload_n C dX12_readsClause_101 rfl 1 rfl rfl ?_
        refine x_get C (ci := 11) (k := 10) 0 k152 rfl in_X12 (by decide) w_1128 rfl dX12_readsClause_102 rfl ?_
        obtain ⟨w153, hw154⟩ : ∃ w : va_W, w = List.set w92 9 (iA E (a 9) 16 (upd f9 sm (nI cm107))) := ⟨_, rfl⟩
        refine x_iask C sm (nI_clamp (by omega)) (nI_pos (by omega)) (by omega) 9 k99 hw154.symm dX12_readsClause_105 rfl ?_
        have hW155 : WX (okM E a cd kf jn js jq) w153 := by rw [hw154]; exact hW93.set (k := 9) rfl ⟨_, rfl⟩
        have k156 : w153[4]? = some (bA E (a 4) 260 tf) := by rw [hw154]; exact set_ne k97 (by decide)
        have k157 : w153[8]? = some (iA E (a 8) 16 (upd f8 sm (nI cm))) := by rw [hw154]; exact set_ne k98 (by decide)
        have k158 : w153[9]? = some (iA E (a 9) 16 (upd f9 sm (nI cm107))) := by rw [hw154]; exact set_eq k99
        have k159 : w153[10]? = some (iA E (a 10) 16 f10) := by rw [hw154]; exact set_ne k100 (by decide)
        have k160 : w153[7]? = some (iA E (a 7) 16 (upd f29 sm r13)) := by rw [hw154]; exact set_ne k101 (by decide)
        have k161 : w153[0]? = some (ob (a 0) 11 [.ref (a 1), .ref (a 2), .ref (a 3), .ref (a 4), .int (nI tp), .int (nI pl106), .int (nI le), .int v142, .int nu138, .int v143, .int (nI cm107), .int (nI 0), .int (nI sm), .int (nI (cd.2.2.2.2.2)), .ref (a 5), .ref (a 6), .ref (a 7), .ref (a 8), .ref (a 9), .ref (a 10), .ref (a 11), .ref (a 12), .ref (a 13), .ref (a 14), .ref (a 15), .ref (a 16), .ref (a 17), .int (nI lm), .ref (a 18), .ref (a 19), .ref (a 20), .ref (a 21), .int v144, .int v145, .int v146, .int v147, .int (nI n148), .int (nI n149), .ref (a 22), .ref (a 23), .ref (a 24), .ref (a 25), .ref (a 26), .ref (a 27), .ref (a 28), .ref (a 29), .ref (a 30), .int kf]) := by rw [hw154]; exact set_ne k152 (by decide)
        have k162 : w153[5]? = some (iA E (a 5) 260 fs108) := by rw [hw154]; exact set_ne k140 (by decide)
        have k163 : w153[6]? = some (iA E (a 6) 260 fw109) := by rw [hw154]; exact set_ne k141 (by decide)
        have kp164 := keeps_set kp102 hw154 (by first | exact rfl | decide | omega | (dsimp only; omega))
        have hseg1 := CI_seg hs114 (by omega)
        refine x_aload_n C dX12_readsClause_106 rfl 1 rfl rfl ?_
        refine x_vi C (As := []) (rest := []) (m_readsCondition E l a cd hG kf jn js jq w153 hW155 tp pl106 le cm107 0 sm lm nu138 ⟨v142, v143, v144, v145, v146, v147, n148, n149, ⟨by omega, by omega, by omega, by omega, by omega, by omega, by omega⟩, ⟨by omega, by omega⟩, k161⟩ tf k156 (by omega) fs108 k162 fw109 k163 (by omega)) mf_X12_readsCondition w_1371 0 k161 rfl rfl rfl (Nat.le_of_ble_eq_true rfl) ⟨(Nat.le_of_ble_eq_true rfl), (Nat.le_of_ble_eq_true rfl)⟩ ⟨(Nat.le_of_ble_eq_true rfl), (Nat.le_of_ble_eq_true rfl)⟩ dX12_readsClause_107 rfl (fun r166 w167 h165 => ?_)
        obtain ⟨hW168, kq169, zb170, x171⟩ := h165
        have k172 : w167[4]? = some (bA E (a 4) 260 tf) := keeps_at kq169 k156 (by first | decide | omega | (dsimp only; omega))
        have k173 : w167[8]? = some (iA E (a 8) 16 (upd f8 sm (nI cm))) := keeps_at kq169 k157 (by first | decide | omega | (dsimp only; omega))
        have k174 : w167[9]? = some (iA E (a 9) 16 (upd f9 sm (nI cm107))) := keeps_at kq169 k158 (by first | decide | omega | (dsimp only; omega))
        have k175 : w167[10]? = some (iA E (a 10) 16 f10) := keeps_at kq169 k159 (by first | decide | omega | (dsimp only; omega))
        have k176 : w167[7]? = some (iA E (a 7) 16 (upd f29 sm r13)) := keeps_at kq169 k160 (by first | decide | omega | (dsimp only; omega))
        have kp177 := keeps_tr kp164 kq169 (fun q hq => by first | omega | (dsimp only at *; omega))
        rcases x171 with ⟨e178, rf179⟩ | ⟨e180, pl181, cm182, fs183, fw184, hq185, hq186, hq187, hq188, hq189, hq190⟩
        · refine x_top e178 ?_
          obtain ⟨pl191, cm192, wt193, fs194, fw195, rs196⟩ := rf179
          obtain ⟨⟨nu197, mo198⟩, k199, k200⟩ := rs196
          obtain ⟨v201, v202, v203, v204, v205, v206, n207, n208, bo209, bo210, k211⟩ := mo198
          refine x_if_ne C (tgt := 115) dX12_readsClause_110 (by decide) rfl (fun h => absurd h (by decide)) (fun _ => ?_)
          refine x_iconst C (v := 0) dX12_readsClause_113 (by decide) rfl ?_
          exact x_zret C hr hlk rfl dX12_readsClause_114 ⟨hW168, kp177, (Or.inl rfl), (Or.inl ⟨rfl, ⟨pl191, cm192, wt193, _, _, ⟨⟨_, ⟨v201, v202, v203, v204, v205, v206, n207, n208, ⟨by omega, by omega, by omega, by omega, by omega, by omega, by omega⟩, ⟨by omega, by omega⟩, k211⟩⟩, k199, k200⟩⟩⟩)⟩
        · refine x_top e180 ?_
          obtain ⟨⟨nu212, mo213⟩, k214, k215⟩ := hq187
          obtain ⟨v216, v217, v218, v219, v220, v221, n222, n223, bo224, bo225, k226⟩ := mo213
          refine x_if_ne C (tgt := 115) dX12_readsClause_110 (by decide) rfl (fun _ => ?_) (fun h => absurd h (by decide))
          refine x_aload_n C dX12_readsClause_115 rfl 1 rfl rfl ?_
          refine x_get C (ci := 11) (k := 19) 0 k226 rfl in_X12 (by decide) w_1137 rfl dX12_readsClause_116 rfl ?_
          refine x_aload_n C dX12_readsClause_119 rfl 1 rfl rfl ?_
          refine x_get C (ci := 11) (k := 12) 0 k226 rfl in_X12 (by decide) w_1130 rfl dX12_readsClause_120 rfl ?_
          refine x_aload_n C dX12_readsClause_123 rfl 1 rfl rfl ?_
          refine x_get C (ci := 11) (k := 10) 0 k226 rfl in_X12 (by decide) w_1128 rfl dX12_readsClause_124 rfl ?_
          obtain ⟨w227, hw228⟩ : ∃ w : va_W, w = List.set w167 10 (iA E (a 10) 16 (upd f10 sm (nI cm182))) := ⟨_, rfl⟩
          refine x_iask C sm (nI_clamp (by omega)) (nI_pos (by omega)) (by omega) 10 k175 hw228.symm dX12_readsClause_127 rfl ?_
          have hW229 : WX (okM E a cd kf jn js jq) w227 := by rw [hw228]; exact hW168.set (k := 10) rfl ⟨_, rfl⟩
          have k230 : w227[4]? = some (bA E (a 4) 260 tf) := by rw [hw228]; exact set_ne k172 (by decide)
          have k231 : w227[8]? = some (iA E (a 8) 16 (upd f8 sm (nI cm))) := by rw [hw228]; exact set_ne k173 (by decide)
          have k232 : w227[9]? = some (iA E (a 9) 16 (upd f9 sm (nI cm107))) := by rw [hw228]; exact set_ne k174 (by decide)
          have k233 : w227[10]? = some (iA E (a 10) 16 (upd f10 sm (nI cm182))) := by rw [hw228]; exact set_eq k175
          have k234 : w227[7]? = some (iA E (a 7) 16 (upd f29 sm r13)) := by rw [hw228]; exact set_ne k176 (by decide)
          have k235 : w227[0]? = some (ob (a 0) 11 [.ref (a 1), .ref (a 2), .ref (a 3), .ref (a 4), .int (nI tp), .int (nI pl181), .int (nI le), .int v216, .int nu212, .int v217, .int (nI cm182), .int (nI 0), .int (nI sm), .int (nI (cd.2.2.2.2.2)), .ref (a 5), .ref (a 6), .ref (a 7), .ref (a 8), .ref (a 9), .ref (a 10), .ref (a 11), .ref (a 12), .ref (a 13), .ref (a 14), .ref (a 15), .ref (a 16), .ref (a 17), .int (nI lm), .ref (a 18), .ref (a 19), .ref (a 20), .ref (a 21), .int v218, .int v219, .int v220, .int v221, .int (nI n222), .int (nI n223), .ref (a 22), .ref (a 23), .ref (a 24), .ref (a 25), .ref (a 26), .ref (a 27), .ref (a 28), .ref (a 29), .ref (a 30), .int kf]) := by rw [hw228]; exact set_ne k226 (by decide)
          have k236 : w227[5]? = some (iA E (a 5) 260 fs183) := by rw [hw228]; exact set_ne k214 (by decide)
          have k237 : w227[6]? = some (iA E (a 6) 260 fw184) := by rw [hw228]; exact set_ne k215 (by decide)
          have kp238 := keeps_set kp177 hw228 (by first | exact rfl | decide | omega | (dsimp only; omega))
          refine x_aload_n C dX12_readsClause_128 rfl 1 rfl rfl ?_
          refine x_aload_n C dX12_readsClause_129 rfl 1 rfl rfl ?_
          refine x_get C (ci := 11) (k := 12) 0 k235 rfl in_X12 (by decide) w_1130 rfl dX12_readsClause_130 rfl ?_
          refine x_iconst C (v := 1) dX12_readsClause_133 (by decide) rfl ?_
          refine x_iadd C (v := (nI (sm + 1))) dX12_readsClause_134 (nI_add sm 1) rfl ?_
          obtain ⟨w239, hw240⟩ : ∃ w : va_W, w = List.set w227 0 (ob (a 0) 11 [.ref (a 1), .ref (a 2), .ref (a 3), .ref (a 4), .int (nI tp), .int (nI pl181), .int (nI le), .int v216, .int nu212, .int v217, .int (nI cm182), .int (nI 0), .int (nI (sm + 1)), .int (nI (cd.2.2.2.2.2)), .ref (a 5), .ref (a 6), .ref (a 7), .ref (a 8), .ref (a 9), .ref (a 10), .ref (a 11), .ref (a 12), .ref (a 13), .ref (a 14), .ref (a 15), .ref (a 16), .ref (a 17), .int (nI lm), .ref (a 18), .ref (a 19), .ref (a 20), .ref (a 21), .int v218, .int v219, .int v220, .int v221, .int (nI n222), .int (nI n223), .ref (a 22), .ref (a 23), .ref (a 24), .ref (a 25), .ref (a 26), .ref (a 27), .ref (a 28), .ref (a 29), .ref (a 30), .int kf]) := ⟨_, rfl⟩
          refine x_put C (ci := 11) (k := 12) (ty := .int) 0 k235 rfl in_X12 tyX12 tyX12_ok nmX12 (by decide) w_1130 rfl rfl rfl rfl (Nat.le_of_ble_eq_true rfl) hw240.symm dX12_readsClause_135 rfl ?_
          have hW241 : WX (okM E a cd kf jn js jq) w239 := by rw [hw240]; exact hW229.set (k := 0) rfl ⟨tp, pl181, le, v216, nu212, v217, cm182, 0, (sm + 1), lm, v218, v219, v220, v221, n222, n223, by omega, by omega, by omega, by omega, by omega, by omega, by omega, by omega, by omega, rfl⟩
          have k242 : w239[4]? = some (bA E (a 4) 260 tf) := by rw [hw240]; exact set_ne k230 (by decide)
          have k243 : w239[8]? = some (iA E (a 8) 16 (upd f8 sm (nI cm))) := by rw [hw240]; exact set_ne k231 (by decide)
          have k244 : w239[9]? = some (iA E (a 9) 16 (upd f9 sm (nI cm107))) := by rw [hw240]; exact set_ne k232 (by decide)
          have k245 : w239[10]? = some (iA E (a 10) 16 (upd f10 sm (nI cm182))) := by rw [hw240]; exact set_ne k233 (by decide)
          have k246 : w239[7]? = some (iA E (a 7) 16 (upd f29 sm r13)) := by rw [hw240]; exact set_ne k234 (by decide)
          have k247 : w239[0]? = some (ob (a 0) 11 [.ref (a 1), .ref (a 2), .ref (a 3), .ref (a 4), .int (nI tp), .int (nI pl181), .int (nI le), .int v216, .int nu212, .int v217, .int (nI cm182), .int (nI 0), .int (nI (sm + 1)), .int (nI (cd.2.2.2.2.2)), .ref (a 5), .ref (a 6), .ref (a 7), .ref (a 8), .ref (a 9), .ref (a 10), .ref (a 11), .ref (a 12), .ref (a 13), .ref (a 14), .ref (a 15), .ref (a 16), .ref (a 17), .int (nI lm), .ref (a 18), .ref (a 19), .ref (a 20), .ref (a 21), .int v218, .int v219, .int v220, .int v221, .int (nI n222), .int (nI n223), .ref (a 22), .ref (a 23), .ref (a 24), .ref (a 25), .ref (a 26), .ref (a 27), .ref (a 28), .ref (a 29), .ref (a 30), .int kf]) := by rw [hw240]; exact set_eq k235
          have k248 : w239[5]? = some (iA E (a 5) 260 fs183) := by rw [hw240]; exact set_ne k236 (by decide)
          have k249 : w239[6]? = some (iA E (a 6) 260 fw184) := by rw [hw240]; exact set_ne k237 (by decide)
          have kp250 := keeps_set kp238 hw240 (by first | exact rfl | decide | omega | (dsimp only; omega))
          have hlt9 := cSeg_lt hseg1
          refine x_iconst C (v := 1) dX12_readsClause_138 (by decide) rfl ?_
          exact x_zret C hr hlk rfl dX12_readsClause_139 ⟨hW241, kp250, (Or.inr rfl), (Or.inr ⟨rfl, pl181, cm182, 0, _, _, _, _, _, by omega, by omega, ⟨⟨_, ⟨v216, v217, v218, v219, v220, v221, n222, n223, ⟨by omega, by omega, by omega, by omega, by omega, by omega, by omega⟩, ⟨by omega, by omega⟩, k247⟩⟩, k248, k249⟩, k243, k244, k245, by omega, KL_step hkl (fun k hk => (hq190 k (by omega)).trans (hs116 k hk)) (cSeg_congr hseg1 (fun k hk => hq190 k hk)) hq188⟩)⟩
    · skip
      have nf251 : sm = 16 := (nI_eq (by omega) (by omega)).mp c26
      refine x_aload_n C dX12_readsClause_31 rfl 1 rfl rfl ?_
      refine x_iconst C (v := 4) dX12_readsClause_32 (by decide) rfl ?_
      refine x_aload_n C dX12_readsClause_33 rfl 1 rfl rfl ?_
      refine x_get C (ci := 11) (k := 5) 0 k11 rfl in_X12 (by decide) w_1123 rfl dX12_readsClause_34 rfl ?_
      refine x_vi C (As := [.int 4, .int (nI pl)]) (rest := []) (m_wrongAt E l a cd hG kf jn js jq ws hW (4 : Int32) ((nI pl)) tp pl le cm wt sm lm nu ⟨v1, v2, v3, v4, v5, v6, n7, n8, ⟨by omega, by omega, by omega, by omega, by omega, by omega, by omega⟩, ⟨by omega, by omega⟩, k11⟩) mf_X12_wrongAt w_1324 0 k11 rfl rfl rfl (Nat.le_of_ble_eq_true rfl) ⟨(Nat.le_of_ble_eq_true rfl), (Nat.le_of_ble_eq_true rfl)⟩ ⟨(Nat.le_of_ble_eq_true rfl), (Nat.le_of_ble_eq_true rfl)⟩ dX12_readsClause_37 rfl (fun r253 w254 h252 => ?_)
      obtain ⟨hW255, kq256, e257, x258⟩ := h252
      refine x_top e257 ?_
      have k259 : w254[4]? = some (bA E (a 4) 260 tf) := keeps_at kq256 htf (by first | decide | omega | (dsimp only; omega))
      have k260 : w254[5]? = some (iA E (a 5) 260 fs) := keeps_at kq256 hfs (by first | decide | omega | (dsimp only; omega))
      have k261 : w254[6]? = some (iA E (a 6) 260 fw) := keeps_at kq256 hfw (by first | decide | omega | (dsimp only; omega))
      have k262 : w254[8]? = some (iA E (a 8) 16 f8) := keeps_at kq256 h8 (by first | decide | omega | (dsimp only; omega))
      have k263 : w254[9]? = some (iA E (a 9) 16 f9) := keeps_at kq256 h9 (by first | decide | omega | (dsimp only; omega))
      have k264 : w254[10]? = some (iA E (a 10) 16 f10) := keeps_at kq256 h10 (by first | decide | omega | (dsimp only; omega))
      have kp265 := keeps_tr kp0 kq256 (fun q hq => by first | omega | (dsimp only at *; omega))
      obtain ⟨v266, v267, v268, v269, v270, v271, n272, n273, bo274, bo275, k276⟩ := x258
      exact x_zret C hr hlk rfl dX12_readsClause_40 ⟨hW255, kp265, (Or.inl rfl), (Or.inl ⟨rfl, ⟨pl, cm, wt, _, _, ⟨⟨_, ⟨v266, v267, v268, v269, v270, v271, n272, n273, ⟨by omega, by omega, by omega, by omega, by omega, by omega, by omega⟩, ⟨by omega, by omega⟩, k276⟩⟩, k260, k261⟩⟩⟩)⟩
  · skip
    refine x_aload_n C dX12_readsClause_12 rfl 1 rfl rfl ?_
    refine x_iconst C (v := 1) dX12_readsClause_13 (by decide) rfl ?_
    refine x_aload_n C dX12_readsClause_14 rfl 1 rfl rfl ?_
    refine x_get C (ci := 11) (k := 5) 0 k11 rfl in_X12 (by decide) w_1123 rfl dX12_readsClause_15 rfl ?_
    refine x_vi C (As := [.int 1, .int (nI pl)]) (rest := []) (m_wrongAt E l a cd hG kf jn js jq ws hW (1 : Int32) ((nI pl)) tp pl le cm wt sm lm nu ⟨v1, v2, v3, v4, v5, v6, n7, n8, ⟨by omega, by omega, by omega, by omega, by omega, by omega, by omega⟩, ⟨by omega, by omega⟩, k11⟩) mf_X12_wrongAt w_1324 0 k11 rfl rfl rfl (Nat.le_of_ble_eq_true rfl) ⟨(Nat.le_of_ble_eq_true rfl), (Nat.le_of_ble_eq_true rfl)⟩ ⟨(Nat.le_of_ble_eq_true rfl), (Nat.le_of_ble_eq_true rfl)⟩ dX12_readsClause_18 rfl (fun r278 w279 h277 => ?_)
    obtain ⟨hW280, kq281, e282, x283⟩ := h277
    refine x_top e282 ?_
    have k284 : w279[4]? = some (bA E (a 4) 260 tf) := keeps_at kq281 htf (by first | decide | omega | (dsimp only; omega))
    have k285 : w279[5]? = some (iA E (a 5) 260 fs) := keeps_at kq281 hfs (by first | decide | omega | (dsimp only; omega))
    have k286 : w279[6]? = some (iA E (a 6) 260 fw) := keeps_at kq281 hfw (by first | decide | omega | (dsimp only; omega))
    have k287 : w279[8]? = some (iA E (a 8) 16 f8) := keeps_at kq281 h8 (by first | decide | omega | (dsimp only; omega))
    have k288 : w279[9]? = some (iA E (a 9) 16 f9) := keeps_at kq281 h9 (by first | decide | omega | (dsimp only; omega))
    have k289 : w279[10]? = some (iA E (a 10) 16 f10) := keeps_at kq281 h10 (by first | decide | omega | (dsimp only; omega))
    have kp290 := keeps_tr kp0 kq281 (fun q hq => by first | omega | (dsimp only at *; omega))
    obtain ⟨v291, v292, v293, v294, v295, v296, n297, n298, bo299, bo300, k301⟩ := x283
    exact x_zret C hr hlk rfl dX12_readsClause_21 ⟨hW280, kp290, (Or.inl rfl), (Or.inl ⟨rfl, ⟨pl, cm, wt, _, _, ⟨⟨_, ⟨v291, v292, v293, v294, v295, v296, n297, n298, ⟨by omega, by omega, by omega, by omega, by omega, by omega, by omega⟩, ⟨by omega, by omega⟩, k301⟩⟩, k285, k286⟩⟩⟩)⟩

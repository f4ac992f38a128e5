/-- what is known of a row's told sets: people (place 320) and hens (place 337) -/
abbrev Lb : Type := Option (Int32 × Int32)
def bB (k : Nat) : Nat := if k < 48 then 0 else if k < 96 then 9999 else if k < 192 then 7 else if k < 329 then 0 else if k < 337 then 7 else if k = 379 then 9999 else if k = 381 then 48 else 0
def bd (k : Nat) : Prop := (48 ≤ k ∧ k < 192) ∨ (329 ≤ k ∧ k < 337) ∨ k = 379 ∨ k = 381
/-- what the reference's rows of 382 keep: days, hens, people and how many eggs within their bounds; and the told sets, where they are known -/
def NB (o : Lb) (f : Nat → Int32) : Prop := (∀ k : Nat, bd k → ∃ n : Nat, n ≤ bB k ∧ f k = nI n) ∧ ∀ x : Int32 × Int32, o = some x → f 320 = x.1 ∧ f 337 = x.2
theorem NB_w {o : Lb} {f : Nat → Int32} (h : NB o f) : NB none f := ⟨h.1, fun x q => by cases q⟩
theorem NB_P {x y : Int32} {f : Nat → Int32} (h : NB (some (x, y)) f) : f 320 = x := (h.2 _ rfl).1
theorem NB_H {x y : Int32} {f : Nat → Int32} (h : NB (some (x, y)) f) : f 337 = y := (h.2 _ rfl).2
theorem NB_lab {o : Lb} {f : Nat → Int32} {x y : Int32} (h : NB o f) (h1 : f 320 = x) (h2 : f 337 = y) : NB (some (x, y)) f := ⟨h.1, fun z q => by cases q; exact ⟨h1, h2⟩⟩
theorem NB_free {o : Lb} {f : Nat → Int32} {k : Nat} {v : Int32} (h : NB o f) (hk : ¬ (bd k ∨ k = 320 ∨ k = 337)) : NB o (upd f k v) := by
  refine ⟨fun j hj => ?_, fun x hx => ?_⟩
  · have e : j ≠ k := fun q => hk (Or.inl (q ▸ hj))
    rw [pk_un e]; exact h.1 j hj
  · rw [pk_un (fun q => hk (Or.inr (Or.inl q.symm))), pk_un (fun q => hk (Or.inr (Or.inr q.symm)))]; exact h.2 x hx
theorem NB_freeN {f : Nat → Int32} {k : Nat} {v : Int32} (h : NB none f) (hk : ¬ bd k) : NB none (upd f k v) := by
  refine ⟨fun j hj => ?_, fun x hx => by cases hx⟩
  have e : j ≠ k := fun q => hk (q ▸ hj)
  rw [pk_un e]; exact h.1 j hj
theorem NB_put {o : Lb} {f : Nat → Int32} {k n : Nat} (h : NB o f) (hk : bd k) (hn : n ≤ bB k) : NB o (upd f k (nI n)) := by
  have hb : 320 ≠ k ∧ 337 ≠ k := by unfold bd at hk; omega
  refine ⟨fun j hj => ?_, fun x hx => ?_⟩
  · by_cases e : j = k
    · subst e; rw [pk_us]; exact ⟨n, hn, rfl⟩
    · rw [pk_un e]; exact h.1 j hj
  · rw [pk_un hb.1, pk_un hb.2]; exact h.2 x hx
theorem NB_mix {o : Lb} {f g : Nat → Int32} {k : Nat} (hf : NB o f) (hg : NB none g) : NB none (upd g k (f k)) := by
  refine ⟨fun j hj => ?_, fun x hx => by cases hx⟩
  by_cases e : j = k
  · subst e; rw [pk_us]; exact hf.1 j hj
  · rw [pk_un e]; exact hg.1 j hj
theorem NB_all {o : Lb} {f g : Nat → Int32} (hf : NB o f) (h : ∀ j, j < 382 → g j = f j) : NB o g := by
  refine ⟨fun j hj => ?_, fun x hx => ?_⟩
  · rw [h j (by unfold bd at hj; omega)]; exact hf.1 j hj
  · rw [h 320 (by omega), h 337 (by omega)]; exact hf.2 x hx
theorem cpy_st {f g : Nat → Int32} {k : Nat} (h : ∀ j, j < k → g j = f j) : ∀ j, j < k + 1 → upd g k (f k) j = f j := by
  intro j hj
  by_cases e : j = k
  · subst e; rw [pk_us]
  · rw [pk_un e]; exact h j (by omega)
theorem bB_lo {j : Nat} (hj : j < 48) : bB (48 + j) = 9999 := by
  unfold bB
  repeat (first | rw [if_pos (by omega)] | rw [if_neg (by omega)])
theorem NB_lo {o : Lb} {f : Nat → Int32} {j : Nat} (h : NB o f) (hj : j < 48) : ∃ n : Nat, n ≤ 9999 ∧ f (48 + j) = nI n := by
  have q := h.1 (48 + j) (by unfold bd; omega)
  rw [bB_lo hj] at q
  exact q
theorem NB_put_lo {o : Lb} {f : Nat → Int32} {j n : Nat} (h : NB o f) (hj : j < 48) (hn : n ≤ 9999) : NB o (upd f (48 + j) (nI n)) := NB_put h (by unfold bd; omega) (by rw [bB_lo hj]; exact hn)
theorem bB_hen {j : Nat} (hj : j < 96) : bB (96 + j) = 7 := by
  unfold bB
  repeat (first | rw [if_pos (by omega)] | rw [if_neg (by omega)])
theorem NB_hen {o : Lb} {f : Nat → Int32} {j : Nat} (h : NB o f) (hj : j < 96) : ∃ n : Nat, n ≤ 7 ∧ f (96 + j) = nI n := by
  have q := h.1 (96 + j) (by unfold bd; omega)
  rw [bB_hen hj] at q
  exact q
theorem NB_put_hen {o : Lb} {f : Nat → Int32} {j n : Nat} (h : NB o f) (hj : j < 96) (hn : n ≤ 7) : NB o (upd f (96 + j) (nI n)) := NB_put h (by unfold bd; omega) (by rw [bB_hen hj]; exact hn)
theorem bB_own {j : Nat} (hj : j < 48) : bB (144 + j) = 7 := by
  unfold bB
  repeat (first | rw [if_pos (by omega)] | rw [if_neg (by omega)])
theorem NB_own {o : Lb} {f : Nat → Int32} {j : Nat} (h : NB o f) (hj : j < 48) : ∃ n : Nat, n ≤ 7 ∧ f (144 + j) = nI n := by
  have q := h.1 (144 + j) (by unfold bd; omega)
  rw [bB_own hj] at q
  exact q
theorem NB_put_own {o : Lb} {f : Nat → Int32} {j n : Nat} (h : NB o f) (hj : j < 48) (hn : n ≤ 7) : NB o (upd f (144 + j) (nI n)) := NB_put h (by unfold bd; omega) (by rw [bB_own hj]; exact hn)
theorem bB_kp {j : Nat} (hj : j < 8) : bB (329 + j) = 7 := by
  unfold bB
  repeat (first | rw [if_pos (by omega)] | rw [if_neg (by omega)])
theorem NB_kp {o : Lb} {f : Nat → Int32} {j : Nat} (h : NB o f) (hj : j < 8) : ∃ n : Nat, n ≤ 7 ∧ f (329 + j) = nI n := by
  have q := h.1 (329 + j) (by unfold bd; omega)
  rw [bB_kp hj] at q
  exact q
theorem NB_put_kp {o : Lb} {f : Nat → Int32} {j n : Nat} (h : NB o f) (hj : j < 8) (hn : n ≤ 7) : NB o (upd f (329 + j) (nI n)) := NB_put h (by unfold bd; omega) (by rw [bB_kp hj]; exact hn)
theorem NB_day {o : Lb} {f : Nat → Int32} (h : NB o f) : ∃ n : Nat, n ≤ 9999 ∧ f 379 = nI n := h.1 379 (by unfold bd; omega)
theorem NB_put_day {o : Lb} {f : Nat → Int32} {n : Nat} (h : NB o f) (hn : n ≤ 9999) : NB o (upd f 379 (nI n)) := NB_put h (by unfold bd; omega) hn
theorem NB_many {o : Lb} {f : Nat → Int32} (h : NB o f) : ∃ n : Nat, n ≤ 48 ∧ f 381 = nI n := h.1 381 (by unfold bd; omega)
theorem NB_put_many {o : Lb} {f : Nat → Int32} {n : Nat} (h : NB o f) (hn : n ≤ 48) : NB o (upd f 381 (nI n)) := NB_put h (by unfold bd; omega) hn
theorem NB_zero : NB (some (0, 0)) (fun _ => 0) := ⟨fun _ _ => ⟨0, Nat.zero_le _, rfl⟩, fun x q => by cases q; exact ⟨rfl, rfl⟩⟩
theorem updn_leF {g : Nat → Nat} {i v : Nat} {F : Nat → Nat} (hg : ∀ j, g j ≤ F j) (hv : v ≤ F i) : ∀ j, updn g i v j ≤ F j := by
  intro j
  rw [updn]
  split
  · next e => subst e; exact hv
  · exact hg j
/-- the law as the reference keeps it: codes, clauseOf, codeFrom, codeHalf, codeTo, clauses -/
abbrev Cd : Type := (Nat → Int32) × (Nat → Int32) × (Nat → Int32) × (Nat → Int32) × (Nat → Int32) × Nat
/-- the sign and the number at a place of the code are op and v -/
def cAt (c : Nat → Int32) (k op v : Nat) : Prop := op ≤ 12 ∧ v < 1048576 ∧ c k = nI (1048576 * op + v)
/-- one place of the code, with h values waiting before it: ht tells how many wait at each place -/
def cOk (c : Nat → Int32) (to : Nat) (ht : Nat → Nat) (k : Nat) : Prop := ∃ op v : Nat, cAt c k op v ∧
  ((op = 0 ∧ ht (k + 1) = ht k + 1) ∨ (op = 1 ∧ v ≤ 10 ∧ ht (k + 1) = ht k + 1) ∨ (op = 10 ∧ 1 ≤ ht k ∧ ht (k + 1) = ht k) ∨ ((op = 11 ∨ op = 12) ∧ 1 ≤ ht k ∧ ht (k + 1) + 1 = ht k ∧ k < v ∧ v ≤ to ∧ ht v = ht k) ∨ (2 ≤ op ∧ op ≤ 9 ∧ 2 ≤ ht k ∧ ht (k + 1) + 1 = ht k))
/-- a piece of code that comes to one value -/
def cSeg (c : Nat → Int32) (fr to : Nat) : Prop := fr ≤ to ∧ to ≤ 260 ∧ ∃ ht : Nat → Nat, ht fr = 0 ∧ ht to = 1 ∧ (∀ k, ht k ≤ 259) ∧ ∀ k, fr ≤ k → k < to → cOk c to ht k
def Good (cd : Cd) : Prop := cd.2.2.2.2.2 ≤ 16 ∧ ∀ q, q < cd.2.2.2.2.2 → ∃ fr half to : Nat, cd.2.2.1 q = nI fr ∧ cd.2.2.2.1 q = nI half ∧ cd.2.2.2.2.1 q = nI to ∧ cSeg cd.1 fr half ∧ cSeg cd.1 half to
def okM (E : xE) (a : Nat → Nat) (cd : Cd) (kf : Int32) (jn js jq : Lb) : List (Nat × va_E → Prop) := [fun c => ∃ (n4 : Nat) (n5 : Nat) (n6 : Nat) (v7 : Int32) (v8 : Int32) (v9 : Int32) (n10 : Nat) (n11 : Nat) (n12 : Nat) (n27 : Nat) (v32 : Int32) (v33 : Int32) (v34 : Int32) (v35 : Int32) (n36 : Nat) (n37 : Nat), n4 ≤ 260 ∧ n5 ≤ 240 ∧ n6 ≤ 240 ∧ n10 ≤ 260 ∧ n11 ≤ 260 ∧ n12 ≤ 16 ∧ n27 ≤ 24 ∧ n36 ≤ 12 ∧ n37 ≤ 4 ∧ c = ob (a 0) 11 [.ref (a 1), .ref (a 2), .ref (a 3), .ref (a 4), .int (nI n4), .int (nI n5), .int (nI n6), .int v7, .int v8, .int v9, .int (nI n10), .int (nI n11), .int (nI n12), .int (nI cd.2.2.2.2.2), .ref (a 5), .ref (a 6), .ref (a 7), .ref (a 8), .ref (a 9), .ref (a 10), .ref (a 11), .ref (a 12), .ref (a 13), .ref (a 14), .ref (a 15), .ref (a 16), .ref (a 17), .int (nI n27), .ref (a 18), .ref (a 19), .ref (a 20), .ref (a 21), .int v32, .int v33, .int v34, .int v35, .int (nI n36), .int (nI n37), .ref (a 22), .ref (a 23), .ref (a 24), .ref (a 25), .ref (a 26), .ref (a 27), .ref (a 28), .ref (a 29), .ref (a 30), .int kf], fun c => ∃ f : Nat → Int32, NB jn f ∧ c = iA E (a 1) 382 f, fun c => ∃ f : Nat → Int32, NB js f ∧ c = iA E (a 2) 382 f, fun c => ∃ f : Nat → Int32, NB jq f ∧ c = iA E (a 3) 382 f, fun c => ∃ f : Nat → Int32, c = bA E (a 4) 260 f, fun c => ∃ f : Nat → Int32, c = iA E (a 5) 260 f, fun c => ∃ f : Nat → Int32, c = iA E (a 6) 260 f, fun c => ∃ f : Nat → Int32, c = iA E (a 7) 16 f, fun c => ∃ f : Nat → Int32, c = iA E (a 8) 16 f, fun c => ∃ f : Nat → Int32, c = iA E (a 9) 16 f, fun c => ∃ f : Nat → Int32, c = iA E (a 10) 16 f, fun c => c = iA E (a 11) 260 cd.1, fun c => c = iA E (a 12) 16 cd.2.1, fun c => c = iA E (a 13) 16 cd.2.2.1, fun c => c = iA E (a 14) 16 cd.2.2.2.1, fun c => c = iA E (a 15) 16 cd.2.2.2.2.1, fun c => ∃ f : Nat → Int32, c = iA E (a 16) 260 f, fun c => ∃ f : Nat → Int32, c = iA E (a 17) 11 f, fun c => ∃ g : Nat → Nat, (∀ j, g j ≤ 8 * j) ∧ c = iA E (a 18) 25 (fun j => nI (g j)), fun c => ∃ f : Nat → Int32, c = iA E (a 19) 24 f, fun c => ∃ g : Nat → Nat, (∀ j, g j ≤ 7) ∧ c = iA E (a 20) 24 (fun j => nI (g j)), fun c => ∃ g : Nat → Nat, (∀ j, g j ≤ 47) ∧ c = iA E (a 21) 192 (fun j => nI (g j)), fun c => ∃ g : Nat → Nat, (∀ j, g j ≤ 47) ∧ c = iA E (a 22) 12 (fun j => nI (g j)), fun c => ∃ g : Nat → Nat, (∀ j, g j ≤ 7) ∧ c = iA E (a 23) 4 (fun j => nI (g j)), fun c => ∃ f : Nat → Int32, c = iA E (a 24) 5120 f, fun c => ∃ f : Nat → Int32, c = iA E (a 25) 1024 f, fun c => ∃ f : Nat → Int32, c = iA E (a 26) 48 f, fun c => ∃ g : Nat → Nat, (∀ j, g j ≤ 47) ∧ c = iA E (a 27) 48 (fun j => nI (g j)), fun c => ∃ f : Nat → Int32, c = iA E (a 28) 40 f, fun c => ∃ f : Nat → Int32, c = iA E (a 29) 273 f, fun c => ∃ f : Nat → Int32, c = iA E (a 30) 5 f]
theorem wxL_n {E : xE} {a : Nat → Nat} {cd : Cd} {kf : Int32} {jn js jq j : Lb} {w : va_W} (h : WX (okM E a cd kf jn js jq) w) (hz : ∃ f : Nat → Int32, NB j f ∧ w[1]? = some (iA E (a 1) 382 f)) : ∀ (k : Nat) (P : Nat × va_E → Prop), (okM E a cd kf j js jq)[k]? = some P → ∃ c, w[k]? = some c ∧ P c
  | 0, _, hP => by
    obtain ⟨c, hc, hp⟩ := h 0 _ rfl
    exact ⟨c, hc, some_at hP rfl hp⟩
  | 1, _, hP => by
    obtain ⟨f, hf, hc⟩ := hz
    exact ⟨_, hc, some_at hP rfl ⟨f, hf, rfl⟩⟩
  | 2, _, hP => by
    obtain ⟨c, hc, hp⟩ := h 2 _ rfl
    exact ⟨c, hc, some_at hP rfl hp⟩
  | 3, _, hP => by
    obtain ⟨c, hc, hp⟩ := h 3 _ rfl
    exact ⟨c, hc, some_at hP rfl hp⟩
  | 4, _, hP => by
    obtain ⟨c, hc, hp⟩ := h 4 _ rfl
    exact ⟨c, hc, some_at hP rfl hp⟩
  | 5, _, hP => by
    obtain ⟨c, hc, hp⟩ := h 5 _ rfl
    exact ⟨c, hc, some_at hP rfl hp⟩
  | 6, _, hP => by
    obtain ⟨c, hc, hp⟩ := h 6 _ rfl
    exact ⟨c, hc, some_at hP rfl hp⟩
  | 7, _, hP => by
    obtain ⟨c, hc, hp⟩ := h 7 _ rfl
    exact ⟨c, hc, some_at hP rfl hp⟩
  | 8, _, hP => by
    obtain ⟨c, hc, hp⟩ := h 8 _ rfl
    exact ⟨c, hc, some_at hP rfl hp⟩
  | 9, _, hP => by
    obtain ⟨c, hc, hp⟩ := h 9 _ rfl
    exact ⟨c, hc, some_at hP rfl hp⟩
  | 10, _, hP => by
    obtain ⟨c, hc, hp⟩ := h 10 _ rfl
    exact ⟨c, hc, some_at hP rfl hp⟩
  | 11, _, hP => by
    obtain ⟨c, hc, hp⟩ := h 11 _ rfl
    exact ⟨c, hc, some_at hP rfl hp⟩
  | 12, _, hP => by
    obtain ⟨c, hc, hp⟩ := h 12 _ rfl
    exact ⟨c, hc, some_at hP rfl hp⟩
  | 13, _, hP => by
    obtain ⟨c, hc, hp⟩ := h 13 _ rfl
    exact ⟨c, hc, some_at hP rfl hp⟩
  | 14, _, hP => by
    obtain ⟨c, hc, hp⟩ := h 14 _ rfl
    exact ⟨c, hc, some_at hP rfl hp⟩
  | 15, _, hP => by
    obtain ⟨c, hc, hp⟩ := h 15 _ rfl
    exact ⟨c, hc, some_at hP rfl hp⟩
  | 16, _, hP => by
    obtain ⟨c, hc, hp⟩ := h 16 _ rfl
    exact ⟨c, hc, some_at hP rfl hp⟩
  | 17, _, hP => by
    obtain ⟨c, hc, hp⟩ := h 17 _ rfl
    exact ⟨c, hc, some_at hP rfl hp⟩
  | 18, _, hP => by
    obtain ⟨c, hc, hp⟩ := h 18 _ rfl
    exact ⟨c, hc, some_at hP rfl hp⟩
  | 19, _, hP => by
    obtain ⟨c, hc, hp⟩ := h 19 _ rfl
    exact ⟨c, hc, some_at hP rfl hp⟩
  | 20, _, hP => by
    obtain ⟨c, hc, hp⟩ := h 20 _ rfl
    exact ⟨c, hc, some_at hP rfl hp⟩
  | 21, _, hP => by
    obtain ⟨c, hc, hp⟩ := h 21 _ rfl
    exact ⟨c, hc, some_at hP rfl hp⟩
  | 22, _, hP => by
    obtain ⟨c, hc, hp⟩ := h 22 _ rfl
    exact ⟨c, hc, some_at hP rfl hp⟩
  | 23, _, hP => by
    obtain ⟨c, hc, hp⟩ := h 23 _ rfl
    exact ⟨c, hc, some_at hP rfl hp⟩
  | 24, _, hP => by
    obtain ⟨c, hc, hp⟩ := h 24 _ rfl
    exact ⟨c, hc, some_at hP rfl hp⟩
  | 25, _, hP => by
    obtain ⟨c, hc, hp⟩ := h 25 _ rfl
    exact ⟨c, hc, some_at hP rfl hp⟩
  | 26, _, hP => by
    obtain ⟨c, hc, hp⟩ := h 26 _ rfl
    exact ⟨c, hc, some_at hP rfl hp⟩
  | 27, _, hP => by
    obtain ⟨c, hc, hp⟩ := h 27 _ rfl
    exact ⟨c, hc, some_at hP rfl hp⟩
  | 28, _, hP => by
    obtain ⟨c, hc, hp⟩ := h 28 _ rfl
    exact ⟨c, hc, some_at hP rfl hp⟩
  | 29, _, hP => by
    obtain ⟨c, hc, hp⟩ := h 29 _ rfl
    exact ⟨c, hc, some_at hP rfl hp⟩
  | 30, _, hP => by
    obtain ⟨c, hc, hp⟩ := h 30 _ rfl
    exact ⟨c, hc, some_at hP rfl hp⟩
  | n + 31, P, hP => absurd (show (none : Option (Nat × va_E → Prop)) = some P from hP) (fun q => by cases q)
theorem wxW_n {E : xE} {a : Nat → Nat} {cd : Cd} {kf : Int32} {jn js jq : Lb} {w : va_W} (h : WX (okM E a cd kf jn js jq) w) : WX (okM E a cd kf none js jq) w := wxL_n h (by
  obtain ⟨_, hc, f, hf, rfl⟩ := h 1 _ rfl
  exact ⟨f, NB_w hf, hc⟩)
theorem wxL_s {E : xE} {a : Nat → Nat} {cd : Cd} {kf : Int32} {jn js jq j : Lb} {w : va_W} (h : WX (okM E a cd kf jn js jq) w) (hz : ∃ f : Nat → Int32, NB j f ∧ w[2]? = some (iA E (a 2) 382 f)) : ∀ (k : Nat) (P : Nat × va_E → Prop), (okM E a cd kf jn j jq)[k]? = some P → ∃ c, w[k]? = some c ∧ P c
  | 0, _, hP => by
    obtain ⟨c, hc, hp⟩ := h 0 _ rfl
    exact ⟨c, hc, some_at hP rfl hp⟩
  | 1, _, hP => by
    obtain ⟨c, hc, hp⟩ := h 1 _ rfl
    exact ⟨c, hc, some_at hP rfl hp⟩
  | 2, _, hP => by
    obtain ⟨f, hf, hc⟩ := hz
    exact ⟨_, hc, some_at hP rfl ⟨f, hf, rfl⟩⟩
  | 3, _, hP => by
    obtain ⟨c, hc, hp⟩ := h 3 _ rfl
    exact ⟨c, hc, some_at hP rfl hp⟩
  | 4, _, hP => by
    obtain ⟨c, hc, hp⟩ := h 4 _ rfl
    exact ⟨c, hc, some_at hP rfl hp⟩
  | 5, _, hP => by
    obtain ⟨c, hc, hp⟩ := h 5 _ rfl
    exact ⟨c, hc, some_at hP rfl hp⟩
  | 6, _, hP => by
    obtain ⟨c, hc, hp⟩ := h 6 _ rfl
    exact ⟨c, hc, some_at hP rfl hp⟩
  | 7, _, hP => by
    obtain ⟨c, hc, hp⟩ := h 7 _ rfl
    exact ⟨c, hc, some_at hP rfl hp⟩
  | 8, _, hP => by
    obtain ⟨c, hc, hp⟩ := h 8 _ rfl
    exact ⟨c, hc, some_at hP rfl hp⟩
  | 9, _, hP => by
    obtain ⟨c, hc, hp⟩ := h 9 _ rfl
    exact ⟨c, hc, some_at hP rfl hp⟩
  | 10, _, hP => by
    obtain ⟨c, hc, hp⟩ := h 10 _ rfl
    exact ⟨c, hc, some_at hP rfl hp⟩
  | 11, _, hP => by
    obtain ⟨c, hc, hp⟩ := h 11 _ rfl
    exact ⟨c, hc, some_at hP rfl hp⟩
  | 12, _, hP => by
    obtain ⟨c, hc, hp⟩ := h 12 _ rfl
    exact ⟨c, hc, some_at hP rfl hp⟩
  | 13, _, hP => by
    obtain ⟨c, hc, hp⟩ := h 13 _ rfl
    exact ⟨c, hc, some_at hP rfl hp⟩
  | 14, _, hP => by
    obtain ⟨c, hc, hp⟩ := h 14 _ rfl
    exact ⟨c, hc, some_at hP rfl hp⟩
  | 15, _, hP => by
    obtain ⟨c, hc, hp⟩ := h 15 _ rfl
    exact ⟨c, hc, some_at hP rfl hp⟩
  | 16, _, hP => by
    obtain ⟨c, hc, hp⟩ := h 16 _ rfl
    exact ⟨c, hc, some_at hP rfl hp⟩
  | 17, _, hP => by
    obtain ⟨c, hc, hp⟩ := h 17 _ rfl
    exact ⟨c, hc, some_at hP rfl hp⟩
  | 18, _, hP => by
    obtain ⟨c, hc, hp⟩ := h 18 _ rfl
    exact ⟨c, hc, some_at hP rfl hp⟩
  | 19, _, hP => by
    obtain ⟨c, hc, hp⟩ := h 19 _ rfl
    exact ⟨c, hc, some_at hP rfl hp⟩
  | 20, _, hP => by
    obtain ⟨c, hc, hp⟩ := h 20 _ rfl
    exact ⟨c, hc, some_at hP rfl hp⟩
  | 21, _, hP => by
    obtain ⟨c, hc, hp⟩ := h 21 _ rfl
    exact ⟨c, hc, some_at hP rfl hp⟩
  | 22, _, hP => by
    obtain ⟨c, hc, hp⟩ := h 22 _ rfl
    exact ⟨c, hc, some_at hP rfl hp⟩
  | 23, _, hP => by
    obtain ⟨c, hc, hp⟩ := h 23 _ rfl
    exact ⟨c, hc, some_at hP rfl hp⟩
  | 24, _, hP => by
    obtain ⟨c, hc, hp⟩ := h 24 _ rfl
    exact ⟨c, hc, some_at hP rfl hp⟩
  | 25, _, hP => by
    obtain ⟨c, hc, hp⟩ := h 25 _ rfl
    exact ⟨c, hc, some_at hP rfl hp⟩
  | 26, _, hP => by
    obtain ⟨c, hc, hp⟩ := h 26 _ rfl
    exact ⟨c, hc, some_at hP rfl hp⟩
  | 27, _, hP => by
    obtain ⟨c, hc, hp⟩ := h 27 _ rfl
    exact ⟨c, hc, some_at hP rfl hp⟩
  | 28, _, hP => by
    obtain ⟨c, hc, hp⟩ := h 28 _ rfl
    exact ⟨c, hc, some_at hP rfl hp⟩
  | 29, _, hP => by
    obtain ⟨c, hc, hp⟩ := h 29 _ rfl
    exact ⟨c, hc, some_at hP rfl hp⟩
  | 30, _, hP => by
    obtain ⟨c, hc, hp⟩ := h 30 _ rfl
    exact ⟨c, hc, some_at hP rfl hp⟩
  | n + 31, P, hP => absurd (show (none : Option (Nat × va_E → Prop)) = some P from hP) (fun q => by cases q)
theorem wxW_s {E : xE} {a : Nat → Nat} {cd : Cd} {kf : Int32} {jn js jq : Lb} {w : va_W} (h : WX (okM E a cd kf jn js jq) w) : WX (okM E a cd kf jn none jq) w := wxL_s h (by
  obtain ⟨_, hc, f, hf, rfl⟩ := h 2 _ rfl
  exact ⟨f, NB_w hf, hc⟩)
theorem wxL_q {E : xE} {a : Nat → Nat} {cd : Cd} {kf : Int32} {jn js jq j : Lb} {w : va_W} (h : WX (okM E a cd kf jn js jq) w) (hz : ∃ f : Nat → Int32, NB j f ∧ w[3]? = some (iA E (a 3) 382 f)) : ∀ (k : Nat) (P : Nat × va_E → Prop), (okM E a cd kf jn js j)[k]? = some P → ∃ c, w[k]? = some c ∧ P c
  | 0, _, hP => by
    obtain ⟨c, hc, hp⟩ := h 0 _ rfl
    exact ⟨c, hc, some_at hP rfl hp⟩
  | 1, _, hP => by
    obtain ⟨c, hc, hp⟩ := h 1 _ rfl
    exact ⟨c, hc, some_at hP rfl hp⟩
  | 2, _, hP => by
    obtain ⟨c, hc, hp⟩ := h 2 _ rfl
    exact ⟨c, hc, some_at hP rfl hp⟩
  | 3, _, hP => by
    obtain ⟨f, hf, hc⟩ := hz
    exact ⟨_, hc, some_at hP rfl ⟨f, hf, rfl⟩⟩
  | 4, _, hP => by
    obtain ⟨c, hc, hp⟩ := h 4 _ rfl
    exact ⟨c, hc, some_at hP rfl hp⟩
  | 5, _, hP => by
    obtain ⟨c, hc, hp⟩ := h 5 _ rfl
    exact ⟨c, hc, some_at hP rfl hp⟩
  | 6, _, hP => by
    obtain ⟨c, hc, hp⟩ := h 6 _ rfl
    exact ⟨c, hc, some_at hP rfl hp⟩
  | 7, _, hP => by
    obtain ⟨c, hc, hp⟩ := h 7 _ rfl
    exact ⟨c, hc, some_at hP rfl hp⟩
  | 8, _, hP => by
    obtain ⟨c, hc, hp⟩ := h 8 _ rfl
    exact ⟨c, hc, some_at hP rfl hp⟩
  | 9, _, hP => by
    obtain ⟨c, hc, hp⟩ := h 9 _ rfl
    exact ⟨c, hc, some_at hP rfl hp⟩
  | 10, _, hP => by
    obtain ⟨c, hc, hp⟩ := h 10 _ rfl
    exact ⟨c, hc, some_at hP rfl hp⟩
  | 11, _, hP => by
    obtain ⟨c, hc, hp⟩ := h 11 _ rfl
    exact ⟨c, hc, some_at hP rfl hp⟩
  | 12, _, hP => by
    obtain ⟨c, hc, hp⟩ := h 12 _ rfl
    exact ⟨c, hc, some_at hP rfl hp⟩
  | 13, _, hP => by
    obtain ⟨c, hc, hp⟩ := h 13 _ rfl
    exact ⟨c, hc, some_at hP rfl hp⟩
  | 14, _, hP => by
    obtain ⟨c, hc, hp⟩ := h 14 _ rfl
    exact ⟨c, hc, some_at hP rfl hp⟩
  | 15, _, hP => by
    obtain ⟨c, hc, hp⟩ := h 15 _ rfl
    exact ⟨c, hc, some_at hP rfl hp⟩
  | 16, _, hP => by
    obtain ⟨c, hc, hp⟩ := h 16 _ rfl
    exact ⟨c, hc, some_at hP rfl hp⟩
  | 17, _, hP => by
    obtain ⟨c, hc, hp⟩ := h 17 _ rfl
    exact ⟨c, hc, some_at hP rfl hp⟩
  | 18, _, hP => by
    obtain ⟨c, hc, hp⟩ := h 18 _ rfl
    exact ⟨c, hc, some_at hP rfl hp⟩
  | 19, _, hP => by
    obtain ⟨c, hc, hp⟩ := h 19 _ rfl
    exact ⟨c, hc, some_at hP rfl hp⟩
  | 20, _, hP => by
    obtain ⟨c, hc, hp⟩ := h 20 _ rfl
    exact ⟨c, hc, some_at hP rfl hp⟩
  | 21, _, hP => by
    obtain ⟨c, hc, hp⟩ := h 21 _ rfl
    exact ⟨c, hc, some_at hP rfl hp⟩
  | 22, _, hP => by
    obtain ⟨c, hc, hp⟩ := h 22 _ rfl
    exact ⟨c, hc, some_at hP rfl hp⟩
  | 23, _, hP => by
    obtain ⟨c, hc, hp⟩ := h 23 _ rfl
    exact ⟨c, hc, some_at hP rfl hp⟩
  | 24, _, hP => by
    obtain ⟨c, hc, hp⟩ := h 24 _ rfl
    exact ⟨c, hc, some_at hP rfl hp⟩
  | 25, _, hP => by
    obtain ⟨c, hc, hp⟩ := h 25 _ rfl
    exact ⟨c, hc, some_at hP rfl hp⟩
  | 26, _, hP => by
    obtain ⟨c, hc, hp⟩ := h 26 _ rfl
    exact ⟨c, hc, some_at hP rfl hp⟩
  | 27, _, hP => by
    obtain ⟨c, hc, hp⟩ := h 27 _ rfl
    exact ⟨c, hc, some_at hP rfl hp⟩
  | 28, _, hP => by
    obtain ⟨c, hc, hp⟩ := h 28 _ rfl
    exact ⟨c, hc, some_at hP rfl hp⟩
  | 29, _, hP => by
    obtain ⟨c, hc, hp⟩ := h 29 _ rfl
    exact ⟨c, hc, some_at hP rfl hp⟩
  | 30, _, hP => by
    obtain ⟨c, hc, hp⟩ := h 30 _ rfl
    exact ⟨c, hc, some_at hP rfl hp⟩
  | n + 31, P, hP => absurd (show (none : Option (Nat × va_E → Prop)) = some P from hP) (fun q => by cases q)
theorem wxW_q {E : xE} {a : Nat → Nat} {cd : Cd} {kf : Int32} {jn js jq : Lb} {w : va_W} (h : WX (okM E a cd kf jn js jq) w) : WX (okM E a cd kf jn js none) w := wxL_q h (by
  obtain ⟨_, hc, f, hf, rfl⟩ := h 3 _ rfl
  exact ⟨f, NB_w hf, hc⟩)

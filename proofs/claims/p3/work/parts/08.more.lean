/-! small numbers, switches, Math.max -/
theorem sw_lo {x k : Int32} {n : Int} (hk : k.toInt = n) (h : x.toInt < n) : x < k := Int32.lt_iff_toInt_lt.mpr (by rw [hk]; exact h)
theorem sw_hi {x k : Int32} {n : Int} (hk : k.toInt = n) (h : n < x.toInt) : k < x := Int32.lt_iff_toInt_lt.mpr (by rw [hk]; exact h)
theorem sw_eq {x k : Int32} {n : Int} (hk : k.toInt = n) (h : x = k) : x.toInt = n := by rw [h, hk]
theorem sw_ne {x k : Int32} {n : Int} (hk : k.toInt = n) (h : ¬ x = k) : ¬ x.toInt = n := fun q => h (Int32.toInt_inj.mp (by rw [hk]; exact q))
theorem sw_last {x k : Int32} {n : Int} (hk : k.toInt = n) {a b : Int} (_ : ¬ x.toInt < a) (_ : ¬ b < x.toInt) (h : x.toInt = n) : x = k := Int32.toInt_inj.mp (by rw [hk]; exact h)
/-- a number in range is a small one -/
theorem w_nat {x lo hi : Int32} {a b : Nat} (ha : lo.toInt = a) (hb : hi.toInt = b) (h : wth x lo hi) : ∃ j : Nat, a ≤ j ∧ j ≤ b ∧ x = nI j := by
  have h1 := h.1
  have h2 := h.2
  rw [Int32.lt_iff_toInt_lt, ha] at h1
  rw [Int32.lt_iff_toInt_lt, hb] at h2
  refine ⟨x.toInt.toNat, by omega, by omega, ?_⟩
  apply Int32.toInt_inj.mp
  have hx : x.toInt < 2 ^ 31 := x.toInt_lt
  rw [nI_toInt (by omega)]
  omega
section XMM
variable {E : xE} {p : Program} {l : Launch} {e : Env} {R : Room} {s : State} {m : MethodId} {args : Array Value} {below : List Frame} {meth : Method} {c : Code} {A : Nat → Prop} {cc : ByteArray} {nL : Nat} {own : String} {cells slots : Nat} {Q : State → Prop} {ws : va_W} {pc pc' : Nat} {lv lv' : List (Nat × Value)} {st : List Value}
theorem x_mmax (C : xC E p s m args c A cc nL own) {idx : Nat} {x y v : Int32} (hl : Cond.methodLink own idx Lib.Math.max.name ∈ gT) (hst : Cond.static Lib.Math.max.name ∈ gT) (hini : Cond.initialized "java/lang/Math" ∈ gT) (hco : Cond.code Lib.Math.max.name Lib.Math.max.code 2 (some .int) ∈ gT) (hfr : 1 ≤ R.frames) (hlo : (st.map fun v => v.category).sum + 13 ≤ R.locals) (hc : cells ≤ R.cells) (hs : slots ≤ R.slots) (hv : (if x < y then y else x) = v) (hd : decode cc pc = .ok (.invokestatic idx, 3)) (hp : pc + 3 = pc') (kk : X E p l e R s m args below meth c A nL cells slots Q ws pc' lv (.int v :: st)) : X E p l e R s m args below meth c A nL cells slots Q ws pc lv (.int y :: .int x :: st) := by
  subst hp; subst hv
  exact fun H locs ls hP hD hS hl' => va_mmax C.1 C.2.1 (by rw [C.2.2.1]; exact hl'.1.symm) C.2.2.2.1 (C.2.2.2.2.1 _ hl) (C.2.2.2.2.1 _ hst) (C.2.2.2.2.1 _ hini) (C.2.2.2.2.1 _ hco) hfr hlo hc hs hd (kk H locs ls hP hD hS hl')
end XMM
def cnt (v : Int32) : Int32 := if wth v 0 10 then (if v = 7 then 1 else 0) else -1
def thf (v : Int32) : Int32 := if wth v 10 11 then (if v = 10 then -2 else 0) else -1000000000
theorem cnt_out {v : Int32} (h : v < 0 ∨ 10 < v) : cnt v = -1 := by
  rw [cnt, if_neg]
  intro q
  rcases h with h | h
  · exact q.1 h
  · exact q.2 h
theorem lt_tr {a b c : Int32} (h : a < b) (h2 : ¬ c < b) : a < c := by
  rw [Int32.lt_iff_toInt_lt] at *
  omega
theorem hold0 {n lo hi k : Int32} {a b : Nat} (ha : lo.toInt = a) (hb : hi.toInt = b) (hd : ∀ j : Nat, j ≤ b → a ≤ j → 0 < nI j * k) (h1 : ¬ n < lo) (h2 : ¬ hi < n) : 0 < n * k := by
  obtain ⟨j, g1, g2, rfl⟩ := w_nat ha hb ⟨h1, h2⟩
  exact hd j g2 g1
theorem hold1 : ∀ j : Nat, j ≤ 240 → 1 ≤ j → 0 < nI j * 1 := by decide +kernel
theorem hold2 : ∀ j : Nat, j ≤ 5 → 2 ≤ j → 0 < nI j * 2 := by decide +kernel
theorem hold4 : ∀ j : Nat, j ≤ 48 → 1 ≤ j → 0 < nI j * 4 := by decide +kernel
theorem hold4' {n : Int32} (h1 : ¬ n < 0) (h2 : ¬ 48 < n) : 0 < n * 4 ↔ ¬ n = 0 := by
  obtain ⟨j, g1, g2, rfl⟩ := w_nat (a := 0) (b := 48) (by decide) (by decide) ⟨h1, h2⟩
  exact (by decide +kernel : ∀ j : Nat, j ≤ 48 → (0 < nI j * 4 ↔ ¬ nI j = 0)) j g2

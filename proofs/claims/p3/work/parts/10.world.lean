/-! worlds by types: every place has a cell of its kind, whatever it holds (within its bounds) -/
section XY
variable {E : xE} {p : Program} {l : Launch} {e : Env} {R : Room} {s : State} {m : MethodId} {args : Array Value} {below : List Frame} {meth : Method} {c : Code} {A : Nat → Prop} {nL : Nat} {cells slots : Nat} {Q : State → Prop} {ws : va_W} {pc : Nat} {lv : List (Nat × Value)} {st : List Value}
/-- of the number on the stack nothing is known from here on -/
theorem x_any {u : Int32} (k : ∀ v : Int32, X E p l e R s m args below meth c A nL cells slots Q ws pc lv (.int v :: st)) : X E p l e R s m args below meth c A nL cells slots Q ws pc lv (.int u :: st) := k u
end XY
def WX (L : List (Nat × va_E → Prop)) (w : va_W) : Prop := ∀ (k : Nat) (P : Nat × va_E → Prop), L[k]? = some P → ∃ c, w[k]? = some c ∧ P c
theorem WX.set {L : List (Nat × va_E → Prop)} {w : va_W} {k : Nat} {P : Nat × va_E → Prop} {c : Nat × va_E} (h : WX L w) (hk : L[k]? = some P) (hc : P c) : WX L (w.set k c) := by
  intro j P2 hj
  obtain ⟨c0, g0, -⟩ := h k P hk
  by_cases e : k = j
  · subst e
    rw [hk] at hj
    cases hj
    exact ⟨c, set_eq g0, hc⟩
  · obtain ⟨c1, g1, g2⟩ := h j P2 hj
    exact ⟨c1, set_ne g1 e, g2⟩
def updn (g : Nat → Nat) (i v : Nat) : Nat → Nat := fun j => if j = i then v else g j
theorem updn_le {g : Nat → Nat} {i v B : Nat} (hg : ∀ j, g j ≤ B) (hv : v ≤ B) : ∀ j, updn g i v j ≤ B := by
  intro j
  rw [updn]
  split
  · exact hv
  · exact hg j
theorem upd_nI (g : Nat → Nat) (i v : Nat) : upd (fun j => nI (g j)) i (nI v) = fun j => nI (updn g i v j) := by
  funext j
  by_cases h : j = i
  · subst h
    rw [pk_us, updn, if_pos rfl]
  · rw [pk_un h, updn, if_neg h]
theorem iA_n {E : xE} {a n : Nat} {f f' : Nat → Int32} (h : f = f') : iA E a n f = iA E a n f' := by rw [h]
/-- a boolean -/
abbrev zb (r : Int32) : Prop := r = 0 ∨ r = 1
theorem zb_nar {r : Int32} (h : zb r) : narrow .boolean (.int r) = .int r := by
  rcases h with h | h
  · rw [h]; rfl
  · rw [h]; rfl
def tb (t : Nat) : Prop := t = 5 ∨ t = 27 ∨ t = 49
theorem tb_lo {t : Nat} (h : tb t) : 5 ≤ t ∧ t ≤ 49 := by
  rcases h with h | h | h <;> omega
theorem wth_n {j a b : Nat} (h1 : a ≤ j) (h2 : j ≤ b) (hb : b < 2 ^ 31) : wth (nI j) (nI a) (nI b) := ⟨nI_nlt h1 (by omega), nI_nlt h2 hb⟩
theorem wth_le {j a b : Nat} (h : wth (nI j) (nI a) (nI b)) (hj : j < 2 ^ 31) (ha : a < 2 ^ 31) (hb : b < 2 ^ 31) : a ≤ j ∧ j ≤ b := by
  have h1 := h.1
  have h2 := h.2
  rw [nI_ltI hj ha] at h1
  rw [nI_ltI hb hj] at h2
  omega
section XZ
variable {E : xE} {p : Program} {l : Launch} {e : Env} {R : Room} {s : State} {m : MethodId} {args : Array Value} {below : List Frame} {meth : Method} {c : Code} {A : Nat → Prop} {cc : ByteArray} {nL : Nat} {own : String} {cells slots : Nat} {Q : State → Prop} {ws : va_W} {pc pc' : Nat} {lv : List (Nat × Value)} {st : List Value}
theorem x_ineg (C : xC E p s m args c A cc nL own) {x v : Int32} (hd : decode cc pc = .ok (.ineg, 1)) (hv : -x = v) (hp : pc + 1 = pc') (k : X E p l e R s m args below meth c A nL cells slots Q ws pc' lv (.int v :: st)) : X E p l e R s m args below meth c A nL cells slots Q ws pc lv (.int x :: st) := by
  subst hp; subst hv; exact fun H locs ls hP hD hS hl => lv_ineg C.1 C.2.1 hd (k H locs ls hP hD hS hl)
theorem x_i2c (C : xC E p s m args c A cc nL own) {x v : Int32} (hd : decode cc pc = .ok (.i2c, 1)) (hv : (x.toUInt32 % 65536).toInt32 = v) (hp : pc + 1 = pc') (k : X E p l e R s m args below meth c A nL cells slots Q ws pc' lv (.int v :: st)) : X E p l e R s m args below meth c A nL cells slots Q ws pc lv (.int x :: st) := by
  subst hp; exact fun H locs ls hP hD hS hl => lv_i2c C.1 C.2.1 hd hv (k H locs ls hP hD hS hl)
theorem x_dup2 (C : xC E p s m args c A cc nL own) {va vb : Value} (hd : decode cc pc = .ok (.dup2, 1)) (hva : va.category = 1) (hvb : vb.category = 1) (hp : pc + 1 = pc') (k : X E p l e R s m args below meth c A nL cells slots Q ws pc' lv (va :: vb :: va :: vb :: st)) : X E p l e R s m args below meth c A nL cells slots Q ws pc lv (va :: vb :: st) := by
  subst hp; exact fun H locs ls hP hD hS hl => lv_dup2_11 C.1 C.2.1 hd hva hvb (k H locs ls hP hD hS hl)
theorem x_mmin (C : xC E p s m args c A cc nL own) {idx : Nat} {x y v : Int32} (hl : Cond.methodLink own idx Lib.Math.min.name ∈ gT) (hst : Cond.static Lib.Math.min.name ∈ gT) (hini : Cond.initialized "java/lang/Math" ∈ gT) (hco : Cond.code Lib.Math.min.name Lib.Math.min.code 2 (some .int) ∈ gT) (hfr : 1 ≤ R.frames) (hlo : (st.map fun v => v.category).sum + 13 ≤ R.locals) (hc : cells ≤ R.cells) (hs : slots ≤ R.slots) (hv : (if y < x then y else x) = v) (hd : decode cc pc = .ok (.invokestatic idx, 3)) (hp : pc + 3 = pc') (kk : X E p l e R s m args below meth c A nL cells slots Q ws pc' lv (.int v :: st)) : X E p l e R s m args below meth c A nL cells slots Q ws pc lv (.int y :: .int x :: st) := by
  subst hp; subst hv
  exact fun H locs ls hP hD hS hl' => va_mmin C.1 C.2.1 (by rw [C.2.2.1]; exact hl'.1.symm) C.2.2.2.1 (C.2.2.2.2.1 _ hl) (C.2.2.2.2.1 _ hst) (C.2.2.2.2.1 _ hini) (C.2.2.2.2.1 _ hco) hfr hlo hc hs hd (kk H locs ls hP hD hS hl')
end XZ
theorem nI_le' {a b : Nat} (h : nI a ≤ nI b) (ha : a < 2 ^ 31) (hb : b < 2 ^ 31) : a ≤ b := (nI_leI ha hb).mp h
theorem nI_lt' {a b : Nat} (h : nI a < nI b) (ha : a < 2 ^ 31) (hb : b < 2 ^ 31) : a < b := (nI_ltI ha hb).mp h
theorem nI_nle' {a b : Nat} (h : ¬ nI a ≤ nI b) (ha : a < 2 ^ 31) (hb : b < 2 ^ 31) : b < a := by
  rcases Nat.lt_or_ge b a with q | q
  · exact q
  · exact absurd ((nI_leI ha hb).mpr q) h
theorem nI_nlt' {a b : Nat} (h : ¬ nI a < nI b) (ha : a < 2 ^ 31) (hb : b < 2 ^ 31) : b ≤ a := by
  rcases Nat.lt_or_ge a b with q | q
  · exact absurd ((nI_ltI ha hb).mpr q) h
  · exact q
theorem tb_ne {t u : Nat} (ht : tb t) (hu : tb u) (h : t ≠ u) : t + 22 ≤ u ∨ u + 22 ≤ t := by
  rcases ht with h1 | h1 | h1 <;> rcases hu with h2 | h2 | h2 <;> omega
def cpn (g1 g2 : Nat → Nat) (n : Nat) : Nat → Nat := fun j => if j < n then g1 j else g2 j
theorem cpn_le {g1 g2 : Nat → Nat} {n B : Nat} (h1 : ∀ j, g1 j ≤ B) (h2 : ∀ j, g2 j ≤ B) : ∀ j, cpn g1 g2 n j ≤ B := by
  intro j
  rw [cpn]
  split
  · exact h1 j
  · exact h2 j
theorem cpy_nI (g1 g2 : Nat → Nat) (n : Nat) : va_cpy (fun j => nI (g1 j)) (fun j => nI (g2 j)) 0 0 n = fun j => nI (cpn g1 g2 n j) := by
  funext j
  by_cases h : j < n
  · rw [pk_cpy_in (Nat.zero_le _) (by omega), cpn, if_pos h]
    simp
  · rw [pk_cpy_out (Or.inr (by omega)), cpn, if_neg h]
section XG
variable {E : xE} {p : Program} {l : Launch} {e : Env} {R : Room} {s : State} {m : MethodId} {args : Array Value} {below : List Frame} {meth : Method} {c : Code} {A : Nat → Prop} {cc : ByteArray} {nL : Nat} {own : String} {cells slots : Nat} {Q : State → Prop} {ws : va_W} {pc pc' : Nat} {lv : List (Nat × Value)} {st : List Value}
theorem x_getsN (C : xC E p s m args c A cc nL own) {Cn n d ref host : String} {v : Value} {idx : Nat} (hZ : va_Z Cn n d v A s s.heap) (hl : Cond.fieldLinkNest own idx ref n d host ∈ tables_1) (hsame : ∀ x, s.fieldFound? Cn n d = some x → s.fieldFound? ref n d = some x) (hd : decode cc pc = .ok (.getstatic idx, 3)) (hp : pc + 3 = pc') (kk : X E p l e R s m args below meth c A nL cells slots Q ws pc' lv (v :: st)) : X E p l e R s m args below meth c A nL cells slots Q ws pc lv st := by
  subst hp
  exact fun H locs ls hP hD hS hl' => va_getsN C.1 C.2.1 hZ hS C.2.2.2.1 (va_Nw.use rfl (C.2.2.2.2.2.1.2.2 _ _ _ _ _ _ hl)) hsame hd (kk H locs ls hP hD hS hl')
/-- a place of an int array that stays (the script, a static) -/
theorem x_sld (C : xC E p s m args c A cc nL own) {b L : Nat} {xs : Nat → Int32} (hX : va_X b L xs s s.heap) (hbl : b < s.heap.size) (hbA : ¬ A b) {i : Int32} (j : Nat) (hj : i.toNatClampNeg = j) (hn : ¬ i < 0) (hlt : j < L) (hd : decode cc pc = .ok (.iaload, 1)) (hp : pc + 1 = pc') (kk : X E p l e R s m args below meth c A nL cells slots Q ws pc' lv (.int (xs j) :: st)) : X E p l e R s m args below meth c A nL cells slots Q ws pc lv (.int i :: .ref b :: st) := by
  subst hp; subst hj
  exact fun H locs ls hP hD hS hl => va_sld C.1 C.2.1 hX hbl hbA hS (vp_k rfl hn hlt) hd (kk H locs ls hP hD hS hl)
/-- a place of a static int array -/
theorem x_tld (C : xC E p s m args c A cc nL own) {b N : Nat} {xs : Nat → Int32} (hT : va_T .int b N (fun j => .int (xs j)) A s s.heap) {i : Int32} (j : Nat) (hj : i.toNatClampNeg = j) (hn : ¬ i < 0) (hlt : j < N) (hd : decode cc pc = .ok (.iaload, 1)) (hp : pc + 1 = pc') (kk : X E p l e R s m args below meth c A nL cells slots Q ws pc' lv (.int (xs j) :: st)) : X E p l e R s m args below meth c A nL cells slots Q ws pc lv (.int i :: .ref b :: st) := by
  subst hp; subst hj
  exact fun H locs ls hP hD hS hl => va_ti C.1 C.2.1 hT hS (vp_k rfl hn hlt) rfl hd (kk H locs ls hP hD hS hl)
theorem x_slen (C : xC E p s m args c A cc nL own) {b L : Nat} {xs : Nat → Int32} (hX : va_X b L xs s s.heap) (hbl : b < s.heap.size) (hbA : ¬ A b) {v : Int32} (hv : Int32.ofNat L = v) (hd : decode cc pc = .ok (.arraylength, 1)) (hp : pc + 1 = pc') (kk : X E p l e R s m args below meth c A nL cells slots Q ws pc' lv (.int v :: st)) : X E p l e R s m args below meth c A nL cells slots Q ws pc lv (.ref b :: st) := by
  subst hp; subst hv
  exact fun H locs ls hP hD hS hl => va_slen C.1 C.2.1 hX hbl hbA hS hd (kk H locs ls hP hD hS hl)
end XG
theorem ush7 (x : Int32) : ∃ n : Nat, n < 33554432 ∧ (x.toUInt32 >>> ((7 : Int32).toUInt32 &&& Int32.toUInt32 31)).toInt32 = nI n := by
  have h := pk_ushr x 7 7 (by decide)
  have hx : x.toBitVec.toNat < 2 ^ 32 := x.toBitVec.isLt
  refine ⟨x.toBitVec.toNat / 2 ^ 7, by omega, ?_⟩
  apply Int32.toBitVec_inj.mp
  apply BitVec.eq_of_toNat_eq
  rw [h, pk_tn (by omega)]

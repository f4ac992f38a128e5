/-! my own small kit, third part: arrays at known places, small numbers -/
abbrev wth (v lo hi : Int32) : Prop := ¬ v < lo ∧ ¬ hi < v
theorem vp_k {i : Int32} {j n : Nat} (hj : i.toNatClampNeg = j) (hn : ¬ i < 0) (hlt : j < n) : vp_in i n := by
  intro h
  rcases h with h | h
  · exact hn h
  · omega
theorem z_shr (p : Int32) : (0 : Int32) >>> p = 0 := by
  apply Int32.toBitVec_inj.mp
  simp
theorem x_ne {a b : Int32} (h : ¬ a = b) : a ≠ b := h
section XR3
variable {E : xE} {p : Program} {l : Launch} {e : Env} {R : Room} {s : State} {m : MethodId} {args : Array Value} {below : List Frame} {meth : Method} {c : Code} {A : Nat → Prop} {cc : ByteArray} {nL : Nat} {own : String} {cells slots : Nat} {Q : State → Prop} {ws : va_W} {pc pc' : Nat} {lv lv' : List (Nat × Value)} {st : List Value}
theorem x_ialk (C : xC E p s m args c A cc nL own) {a n : Nat} {f : Nat → Int32} {i v : Int32} (j : Nat) (hj : i.toNatClampNeg = j) (hn : ¬ i < 0) (hlt : j < n) (q0 : Nat) (he : ws[q0]? = some (iA E a n f)) (hv : f j = v) (hd : decode cc pc = .ok (.iaload, 1)) (hp : pc + 1 = pc') (kk : X E p l e R s m args below meth c A nL cells slots Q ws pc' lv (.int v :: st)) : X E p l e R s m args below meth c A nL cells slots Q ws pc lv (.int i :: .ref a :: st) := x_iald C q0 he (vp_k hj hn hlt) (by rw [hj]; exact hv) hd hp kk
theorem x_iask (C : xC E p s m args c A cc nL own) {a n : Nat} {f : Nat → Int32} {i x : Int32} {ws1 : va_W} (j : Nat) (hj : i.toNatClampNeg = j) (hn : ¬ i < 0) (hlt : j < n) (q0 : Nat) (he : ws[q0]? = some (iA E a n f)) (hw : ws.set q0 (iA E a n (upd f j x)) = ws1) (hd : decode cc pc = .ok (.iastore, 1)) (hp : pc + 1 = pc') (kk : X E p l e R s m args below meth c A nL cells slots Q ws1 pc' lv st) : X E p l e R s m args below meth c A nL cells slots Q ws pc lv (.int x :: .int i :: .ref a :: st) := x_iast C q0 he (vp_k hj hn hlt) (by rw [hj]; exact hw) hd hp kk
theorem x_bask (C : xC E p s m args c A cc nL own) {a n : Nat} {f : Nat → Int32} {i x : Int32} {ws1 : va_W} (j : Nat) (hj : i.toNatClampNeg = j) (hn : ¬ i < 0) (hlt : j < n) (q0 : Nat) (he : ws[q0]? = some (bA E a n f)) (hw : ws.set q0 (bA E a n (upd f j (vp_nar .byte x))) = ws1) (hd : decode cc pc = .ok (.bastore, 1)) (hp : pc + 1 = pc') (kk : X E p l e R s m args below meth c A nL cells slots Q ws1 pc' lv st) : X E p l e R s m args below meth c A nL cells slots Q ws pc lv (.int x :: .int i :: .ref a :: st) := x_bast C q0 he (vp_k hj hn hlt) (by rw [hj]; exact hw) hd hp kk
/-- the world gets a new name -/
theorem x_nm {P : va_W → Prop} (w : va_W) (h : P w) : ∃ w1, w1 = w ∧ P w1 := ⟨w, rfl, h⟩
end XR3

/-! String constants, statics: rows over 'X' -/
abbrev sK (E : xE) : Nat → Nat := E.2.2.2.2.2.1
abbrev sV (E : xE) : Nat → Nat := E.2.2.2.2.2.2
abbrev sN (i : Nat) : Nat := ([6, 11] : List Nat).getD i 0
section XS2
variable {E : xE} {p : Program} {l : Launch} {e : Env} {R : Room} {s : State} {m : MethodId} {args : Array Value} {below : List Frame} {meth : Method} {c : Code} {A : Nat → Prop} {cc : ByteArray} {nL : Nat} {own : String} {cells slots : Nat} {Q : State → Prop} {ws : va_W} {pc pc' : Nat} {lv : List (Nat × Value)} {st : List Value}
theorem x_ldcS (C : xC E p s m args c A cc nL own) {tx : String} {i q : Nat} (hZ : vk_R own i tx q s) (hd : decode cc pc = .ok (.ldc i, 2)) (hp : pc + 2 = pc') (k : X E p l e R s m args below meth c A nL cells slots Q ws pc' lv (.ref q :: st)) : X E p l e R s m args below meth c A nL cells slots Q ws pc lv st := by
  subst hp; exact fun H locs ls hP hD hS hl => va_ldcS C.1 C.2.1 C.2.2.2.1 hZ hd (k H locs ls hP hD hS hl)
theorem x_gets (C : xC E p s m args c A cc nL own) {Cn n d ref : String} {v : Value} {idx : Nat} (hZ : va_Z Cn n d v A s s.heap) (hl : Cond.fieldLink own idx ref n d ∈ gT) (hsame : ∀ x, s.fieldFound? Cn n d = some x → s.fieldFound? ref n d = some x) (hd : decode cc pc = .ok (.getstatic idx, 3)) (hp : pc + 3 = pc') (kk : X E p l e R s m args below meth c A nL cells slots Q ws pc' lv (v :: st)) : X E p l e R s m args below meth c A nL cells slots Q ws pc lv st := by
  subst hp; exact fun H locs ls hP hD hS hl' => va_gets C.1 C.2.1 hZ hS C.2.2.2.1 (C.2.2.2.2.1 _ hl) hsame hd (kk H locs ls hP hD hS hl')
theorem x_sgf (C : xC E p s m args c A cc nL own) {o n d ref : String} {idx q : Nat} {v : Value} (hE : va_OF o n d v q A s s.heap) (hl : Cond.fieldLink own idx ref n d ∈ gT) (hsame : ∀ x, s.fieldFound? o n d = some x → s.fieldFound? ref n d = some x) (hd : decode cc pc = .ok (.getfield idx, 3)) (hp : pc + 3 = pc') (kk : X E p l e R s m args below meth c A nL cells slots Q ws pc' lv (v :: st)) : X E p l e R s m args below meth c A nL cells slots Q ws pc lv (.ref q :: st) := by
  subst hp; exact fun H locs ls hP hD hS hl' => vk_getf C.1 C.2.1 hE hS C.2.2.2.1 (C.2.2.2.2.1 _ hl) hsame hd (kk H locs ls hP hD hS hl')
theorem x_tb (C : xC E p s m args c A cc nL own) {t N : Nat} {f : Nat → Int32} (hT : va_T .byte t N (fun j => .int (f j)) A s s.heap) {i : Int32} (hin : vp_in i N) (hd : decode cc pc = .ok (.baload, 1)) (hp : pc + 1 = pc') (kk : X E p l e R s m args below meth c A nL cells slots Q ws pc' lv (.int (f i.toNatClampNeg) :: st)) : X E p l e R s m args below meth c A nL cells slots Q ws pc lv (.int i :: .ref t :: st) := by
  subst hp; exact fun H locs ls hP hD hS hl => va_tb C.1 C.2.1 hT hS hin rfl hd (kk H locs ls hP hD hS hl)
theorem x_tlen (C : xC E p s m args c A cc nL own) {ty : FieldType} {t N : Nat} {f : Nat → Value} (hT : va_T ty t N f A s s.heap) (hd : decode cc pc = .ok (.arraylength, 1)) (hp : pc + 1 = pc') (kk : X E p l e R s m args below meth c A nL cells slots Q ws pc' lv (.int (nI N) :: st)) : X E p l e R s m args below meth c A nL cells slots Q ws pc lv (.ref t :: st) := by
  subst hp; exact fun H locs ls hP hD hS hl => va_tlen C.1 C.2.1 hT hS rfl hd (kk H locs ls hP hD hS hl)
/-- invokevirtual on a String constant -/
theorem x_vs (C : xC E p s m args c A cc nL own) {y : MethodName} {b : ByteArray} {n d k idx i : Nat} {ret : Option FieldType} {As rest : List Value} {post : Int32 → va_W → Prop} (hi : i < 2) (hM : xI E l y b n ret d (.ref (sK E i) :: As) ws post) (F : xMV y b n ret k "java/lang/String") (hl : Cond.methodLink own idx y ∈ gT) (hk : As.length = k) (hst : st = As.reverse ++ .ref (sK E i) :: rest) (hr : (rest.map fun v => v.category).sum ≤ 8) (hR : d + 1 ≤ R.frames ∧ 8 + (n + 11) + 40 * d ≤ R.locals) (hf : cells ≤ R.cells ∧ slots ≤ R.slots) (hd : decode cc pc = .ok (.invokevirtual idx, 3)) (hp : pc + 3 = pc') (kk : ∀ (r : Int32) (w : va_W), post r w → X E p l e R s m args below meth c A nL cells slots Q w pc' lv (.int r :: rest)) : X E p l e R s m args below meth c A nL cells slots Q ws pc lv st := by
  subst hp; subst hst
  intro H locs ls hP hD hS hl'
  have hF := C.fr0 hD hS
  refine va_calli (va_runV (As := As) (rest := rest) ⟨C.1, C.2.1, C.2.2.1, C.2.2.2.1, C.2.2.2.2.1⟩ (hM H.size) (cwV k C.2.2.2.2.1 (gT_V F hl) rfl rfl rfl F.2.2.2.2 hR) ⟨xP_blind, vk_recv C.2.2.2.2.2.2.2.2.2.2.2.1 hi hS, fun U hU hW => xP_at hU hW hP C.2.2.2.2.2.1 hD C.2.2.2.2.2.2.2 hS hF⟩ rfl hk hl'.1 rfl (lv_room hr) hd hf) hS (fun q _ h => hF q h) hF (fun r u t H1 locs1 ht hvm hpost hB hz hk1 hS1 => ?_)
  obtain ⟨hP1, hD1⟩ := hB
  rw [ht] at hP1
  exact kk r u hpost H1 locs1 ls hP1 (hD1.weaken (fun _ q _ h => hF q.1 h)) hS1 hl'
end XS2
theorem mf_str {y : MethodName} {b : ByteArray} {n k : Nat} {ret : Option FieldType} (F : xMV y b n ret k RJ0) : xMV y b n ret k "java/lang/String" := F

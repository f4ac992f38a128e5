/-! THE CLAIM OUT OF ONE WALK OF THE LAW'S BODY. Your part is whole_start (and what it stands on); all else here is the same for every law, but numbers. -/
def R_law : String := "EggTownLaw"
def lw_P (b : Addr) (xs : List Int32) (args : Array Value) (s : State) : Prop := args = #[.ref b] ∧ s.IntsAt b xs ∧ xs.length ≤ 3072 ∧ (Jvm.Cond.and given_1 narrow_1).before args s = true
def lw_Q (_ : Array Value) (s : State) (o : Outcome) (t : State) : Prop := o = .returned (some (.int 1)) ∧ Framed s o t [] 600000 7302250
def lw_Z (below : List Frame) (a : Array Value) (s : State) : State → Prop := fun t => ∃ o, t.status = .running ∧ Ended t below o ∧ lw_Q a s o t
/-- the law's own end, with 1 on the stack, nothing written that was there before, its room as the claim has it -/
theorem lw_ret {p : Program} {l : Launch} {e : Env} {s : State} {m : MethodId} {below : List Frame} {meth : Method} {c : Code} {b : Nat} (hx : p.tables.exec = Jvm.exec) (hb : c.code = code) (hr : meth.sig.returnType = ret) (hlocks : meth.locks = false) {pc : Nat} {H : Heap} {ls : Array Slot} (hdg : decode code pc = .ok (.ireturn, 1)) : W p l e room_1 s m #[Value.ref b] below meth c H [] 600000 7302250 (lw_Z below #[Value.ref b] s) (F0 m pc ls [.int 1]) := by
  intro T hT X
  obtain ⟨fs, hret, hrun, hended, hW, hframe⟩ := X.leave (v := some (.int 1)) (hlocks := hlocks) (fun h => by rw [hr] at h; cases h)
  have hmeth' : T.vm.method? m = some meth := X.method'
  refine ⟨T.setFrames fs, ?_, .returned (some (.int 1)), hrun, hended, rfl, ⟨_, rfl⟩, hW, hframe⟩
  jvm_step X.here [X.here.top, hx, hb, hdg, hmeth', hr, ret, narrow_b1]
  (try refine ⟨rfl, ?_⟩); (try refine ⟨rfl, ?_⟩)
  first | (intro acts; rw [hret _ acts rfl rfl rfl]) | rw [hret _ _ rfl rfl rfl]
  exact Steps.refl _
/-- what holds at the law's entry: the machine, the code, the tables' words (any of lw_tbl by 'hts w (by decide +kernel)'), the script of L ints xs at the cell b, what the Statement gives of the start (any of its parts by flat_of_before) -/
def lw_At (p : Program) (s : State) (m : MethodId) (meth : Method) (c : Code) (b L : Nat) (xs : Nat → Int32) : Prop :=
  p.tables.exec = Jvm.exec ∧ c.code = code ∧ meth.sig.returnType = ret ∧ c.maxLocals = 4 ∧ s.vm.findClass R_law = some m.cls ∧ (∀ w ∈ lw_tbl, w.before #[Value.ref b] s = true) ∧ va_X b L xs s s.heap ∧ b < s.heap.size ∧ meth.locks = false ∧ (Jvm.Cond.and given_1 narrow_1).before #[Value.ref b] s = true
section XL
variable {E : xE} {p : Program} {l : Launch} {e : Env} {R : Room} {s : State} {m : MethodId} {args : Array Value} {below : List Frame} {meth : Method} {c : Code} {A : Nat → Prop} {cc : ByteArray} {nL : Nat} {own : String} {cells slots : Nat} {Q : State → Prop} {ws : va_W} {pc pc' : Nat} {lv : List (Nat × Value)} {st : List Value}
/-- invokevirtual on a part of the world: the other part stays, and is all that is looked at behind -/
theorem x_vk (C : xC E p s m args c A cc nL own) {y : MethodName} {b : ByteArray} {n d k idx a ci N : Nat} {ret : Option FieldType} {Cn : String} {T : u_T} {fs As rest : List Value} {W0 wc : va_W} {post : Int32 → va_W → Prop} (hM : xI E l y b n ret d (.ref a :: As) wc post) (F : xMV y b n ret k Cn) (hl : Cond.methodLink own idx y ∈ gT) (hw : ws = W0 ++ wc) (q0 : Nat) (he : wc[q0]? = some (a, .inr (ci, fs))) (hc : vwCl[ci]? = some (Cn, T, N)) (hk : As.length = k) (hst : st = As.reverse ++ .ref a :: rest) (hr : (rest.map fun v => v.category).sum ≤ 8) (hR : d + 1 ≤ R.frames ∧ 8 + (n + 11) + 40 * d ≤ R.locals) (hf : cells ≤ R.cells ∧ slots ≤ R.slots) (hd : decode cc pc = .ok (.invokevirtual idx, 3)) (hp : pc + 3 = pc') (kk : ∀ (r : Int32) (w : va_W), post r w → X E p l e R s m args below meth c A nL cells slots Q (W0 ++ w) pc' lv (.int r :: rest)) : X E p l e R s m args below meth c A nL cells slots Q ws pc lv st := by
  subst hp; subst hst; subst hw
  intro H locs ls hP hD hS hl'
  have hF := C.fr hD hS
  have rt : ∀ (j : Nat) (q : Nat × va_E), wc[j]? = some q → (W0 ++ wc)[W0.length + j]? = some q := fun j q h => by rw [List.getElem?_append_right (Nat.le_add_right _ _), Nat.add_sub_cancel_left]; exact h
  have lf : ∀ (k : Nat) (q : Nat × va_E), W0[k]? = some q → (W0 ++ wc)[k]? = some q := fun k q h => by
    rw [List.getElem?_append_left (List.getElem?_eq_some_iff.mp h).1]; exact h
  have hPc : va_P E.1 vwCl wc H := fun j q h => hP _ q (rt j q h)
  have hDc : va_D A wc := ⟨fun i j x y hx hy e => by have := hD.1 _ _ x y (rt i x hx) (rt j y hy) e; omega, fun j q h => hD.2 _ q (rt j q h)⟩
  refine va_calli (va_runV (As := As) (rest := rest) ⟨C.1, C.2.1, C.2.2.1, C.2.2.2.1, C.2.2.2.2.1⟩ (hM H.size) (cwV k C.2.2.2.2.1 (gT_V F hl) rfl rfl rfl F.2.2.2.2 hR) ⟨xP_blind, va_recv C.2.2.2.2.2.1.1 hPc hc he, fun U hU hW => xP_at hU hW hPc C.2.2.2.2.2.1 hDc C.2.2.2.2.2.2.2 hS hF⟩ rfl hk hl'.1 rfl (lv_room hr) hd hf) hS (fun q _ h => hF q h) hF (fun r u t H1 locs1 ht hvm hpost hB hz hk1 hS1 => ?_)
  obtain ⟨hP1, hD1⟩ := hB
  rw [ht] at hP1
  obtain ⟨g1, g2⟩ := fr_app hP hD hk1 hF hP1 hD1
  exact kk r u hpost H1 locs1 ls g1 g2 hS1 hl'
theorem x_swap {w1 w2 : va_W} (k : X E p l e R s m args below meth c A nL cells slots Q (w2 ++ w1) pc lv st) : X E p l e R s m args below meth c A nL cells slots Q (w1 ++ w2) pc lv st := by
  intro H locs ls hP hD hS hl
  have lf : ∀ (k : Nat) (q : Nat × va_E), w1[k]? = some q → (w1 ++ w2)[k]? = some q := fun k q h => by
    rw [List.getElem?_append_left (List.getElem?_eq_some_iff.mp h).1]; exact h
  have rt : ∀ (j : Nat) (q : Nat × va_E), w2[j]? = some q → (w1 ++ w2)[w1.length + j]? = some q := fun j q h => by rw [List.getElem?_append_right (Nat.le_add_right _ _), Nat.add_sub_cancel_left]; exact h
  refine k H locs ls (va_P.app (fun j q h => hP _ q (rt j q h)) (fun j q h => hP _ q (lf j q h))) (va_D.app ⟨fun i j x y hx hy e => by have := hD.1 _ _ x y (rt i x hx) (rt j y hy) e; omega, fun j q h => hD.2 _ q (rt j q h)⟩ ⟨fun i j x y hx hy e => hD.1 _ _ x y (lf i x hx) (lf j y hy) e, fun j q h => hD.2 _ q (lf j q h)⟩ (fun i j x y hx hy e => ?_)) hS hl
  have h1 := hD.1 _ _ x y (rt i x hx) (lf j y hy) e
  have h2 := (List.getElem?_eq_some_iff.mp hy).1
  omega
end XL
theorem x_lret {E : xE} {p : Program} {l : Launch} {e : Env} {s : State} {m : MethodId} {below : List Frame} {meth : Method} {c : Code} {own : String} {nL cells slots b : Nat} {ws : va_W} {pc : Nat} {lv : List (Nat × Value)} (C : xC E p s m #[Value.ref b] c (fun q => s.heap.size ≤ q) code nL own) (hr : meth.sig.returnType = ret) (hlk : meth.locks = false) (hc : cells ≤ 600000) (hs : slots ≤ 7302250) (hd : decode code pc = .ok (.ireturn, 1)) : X E p l e room_1 s m #[Value.ref b] below meth c (fun q => s.heap.size ≤ q) nL cells slots (lw_Z below #[Value.ref b] s) ws pc lv [.int 1] :=
  fun _ _ _ _ _ hS _ => va_forget (fun q hq => hS.2.2 q hq) (W.widen hc hs (lw_ret C.1 C.2.1 hr hlk hd))
/-- what is known in the law's body: the words, the script, its end -/
def LC (E : xE) (p : Program) (s : State) (m : MethodId) (meth : Method) (c : Code) (b L : Nat) (xs : Nat → Int32) : Prop := xC E p s m #[Value.ref b] c (fun q => s.heap.size ≤ q) code 4 RL ∧ va_X b L xs s s.heap ∧ b < s.heap.size ∧ (¬ s.heap.size ≤ b) ∧ meth.sig.returnType = ret ∧ meth.locks = false
abbrev LX (E : xE) (p : Program) (l : Launch) (e : Env) (s : State) (m : MethodId) (below : List Frame) (meth : Method) (c : Code) (b : Nat) (ws : va_W) (pc : Nat) (lv : List (Nat × Value)) (st : List Value) : Prop := X E p l e room_1 s m #[Value.ref b] below meth c (fun q => s.heap.size ≤ q) 4 144 13559 (lw_Z below #[Value.ref b] s) ws pc lv st

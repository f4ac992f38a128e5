/-! my own small kit, second part: start and end of a method, calls -/
theorem fr_app {A0 : Nat → Prop} {D : va_G} {cl : List vw_C} {W0 wc w1 : va_W} {H H1 : Heap} (hP : va_P D cl (W0 ++ wc) H) (hD : va_D A0 (W0 ++ wc)) (hk : ∀ q : Nat, q < H.size → ¬ va_A wc H.size q → H1[q]? = H[q]?) (hF : ∀ q, va_A wc H.size q → A0 q) (hP1 : va_P D cl w1 H1) (hD1 : va_D (va_A wc H.size) w1) : va_P D cl (W0 ++ w1) H1 ∧ va_D A0 (W0 ++ w1) := by
  have lf : ∀ (k : Nat) (q : Nat × va_E), W0[k]? = some q → (W0 ++ wc)[k]? = some q := fun k q h => by
    rw [List.getElem?_append_left (List.getElem?_eq_some_iff.mp h).1]; exact h
  have apart : ∀ (k : Nat) (q : Nat × va_E), W0[k]? = some q → q.1 < H.size ∧ ¬ va_A wc H.size q.1 := by
    intro k q hq
    have h2 := lf k q hq
    have hl := (hP k q h2).lt
    refine ⟨hl, fun h => ?_⟩
    rcases h with ⟨k2, e, h⟩ | h
    · have h4 : (W0 ++ wc)[W0.length + k2]? = some (q.1, e) := by
        rw [List.getElem?_append_right (Nat.le_add_right _ _), Nat.add_sub_cancel_left]; exact h
      have hij := hD.1 k (W0.length + k2) q (q.1, e) h2 h4 rfl
      have hkl := (List.getElem?_eq_some_iff.mp hq).1
      omega
    · omega
  refine ⟨va_P.app (fun k q hq => ?_) hP1, va_D.app ⟨fun i j x y hx hy e => hD.1 i j x y (lf i x hx) (lf j y hy) e, fun k q h => hD.2 k q (lf k q h)⟩ (hD1.weaken (fun k q _ h => hF q.1 h)) (fun i j x y hx hy hxy => ?_)⟩
  · obtain ⟨g1, g2⟩ := apart k q hq
    exact (hP k q (lf k q hq)).kept (hk q.1 g1 g2)
  · exact (apart i x hx).2 (by rw [hxy]; exact hD1.2 j y hy)
theorem xP_blind {E : xE} {av : List Value} {sz : Nat} {ws : va_W} : FrameBlind (va_Pc av (xPre E sz ws)) := fun _ _ _ _ q => by
  obtain ⟨q0, q1, qP, qK, qD, qZ⟩ := q
  exact ⟨q0, q1, qP, qK.calling, qD, qZ.calling⟩
theorem xP_at {E : xE} {av : List Value} {ws : va_W} {s U : State} {H : Heap} (hU : U.heap = H) (hW : s.WarmedH U.vm) (hP : va_P E.1 vwCl ws H) (hK : xK E s) {A A0 : Nat → Prop} (hD : va_D A ws) {locs : List Loc} (hZ : xZ E A0 s s.heap) (hS : va_S A0 s.heap H locs) (hF : ∀ q, va_A ws H.size q → A0 q) : va_Pc av (xPre E H.size ws) av.toArray U :=
  ⟨rfl, by rw [hU], by rw [hU]; exact hP, hK.warm hW, hD.weaken (fun _ _ _ _ => trivial), by rw [hU]; exact hZ.to hW hS hF⟩
/-- what is known of a method that is called: virtual, static, a constructor -/
def xMV (y : MethodName) (b : ByteArray) (n : Nat) (ret : Option FieldType) (k : Nat) (Cn : String) : Prop := Cond.code y b n ret ∈ gT ∧ Cond.initialized Cn ∈ gT ∧ Cond.instanceMethod y ∈ gT ∧ Cond.selects Cn y y ∈ gT ∧ (y.cls = Cn ∧ y.cls ≠ "java/lang/invoke/MethodHandle" ∧ y.cls ≠ "java/lang/invoke/VarHandle" ∧ (parseMethodDescriptor y.desc).map (fun d => d.parameters.length) = some k)
def xMS (y : MethodName) (b : ByteArray) (n : Nat) (ret : Option FieldType) (k : Nat) : Prop := Cond.code y b n ret ∈ gT ∧ Cond.initialized y.cls ∈ gT ∧ Cond.static y ∈ gT ∧ (y.cls ≠ "java/lang/invoke/MethodHandle" ∧ y.cls ≠ "java/lang/invoke/VarHandle" ∧ (parseMethodDescriptor y.desc).map (fun d => d.parameters.length) = some k)
def xMN (y : MethodName) (b : ByteArray) (n : Nat) (k : Nat) : Prop := Cond.code y b n none ∈ gT ∧ Cond.initialized y.cls ∈ gT ∧ Cond.instanceMethod y ∈ gT ∧ y.name = "<init>" ∧ (y.cls ≠ "java/lang/invoke/MethodHandle" ∧ y.cls ≠ "java/lang/invoke/VarHandle" ∧ (parseMethodDescriptor y.desc).map (fun d => d.parameters.length) = some k)
theorem gT_V {own : String} {idx n k : Nat} {y : MethodName} {b : ByteArray} {ret : Option FieldType} {Cn : String} (F : xMV y b n ret k Cn) (hl : Cond.methodLink own idx y ∈ gT) : GoodIn gT (wsV own idx Cn y (Cond.code y b n ret :: gT)) := by
  refine gT_app [.methodLink own idx y, .instanceMethod y, .selects Cn y y, .initialized Cn] (fun w hw => ?_) (gT_cons F.1)
  rcases List.mem_cons.mp hw with h | hw
  · rw [h]; exact hl
  rcases List.mem_cons.mp hw with h | hw
  · rw [h]; exact F.2.2.1
  rcases List.mem_cons.mp hw with h | hw
  · rw [h]; exact F.2.2.2.1
  rcases List.mem_cons.mp hw with h | hw
  · rw [h]; exact F.2.1
  · cases hw
section XS
variable {E : xE} {l : Launch}
theorem xI_start {y : MethodName} {b : ByteArray} {n d : Nat} {ret : Option FieldType} {av : List Value} {ws : va_W} {post : Int32 → va_W → Prop} {lv : List (Nat × Value)} (own : String) (hy : plainName y.cls = true) (ho : y.cls = own) (hlen : (lg_sl av).length ≤ n) (hlv : lv_args 0 av = lv)
    (body : ∀ (p : Program) (e : Env) (s : State) (m : MethodId) (below : List Frame) (meth : Method) (c : Code) (A : Nat → Prop), xC E p s m av.toArray c A b n own → meth.sig.returnType = ret → meth.locks = false → X E p l e (xRm d 0 0) s m av.toArray below meth c A n 0 0 (MQ below (va_Qi post (xB E A) A) av.toArray s 0 0 A) ws 0 lv []) : xI E l y b n ret d av ws post := by
  intro sz
  refine Met.ofW (cc := b) (maxL := n) (ret := ret) hy rfl ?_
  intro p e s m args below meth c s₁ B hml hv
  obtain ⟨rfl, hsz, hP, hK, hD0, hZ⟩ := hv
  subst hsz
  have hts := atoms_spec (ws := Cond.code y b n ret :: gT) B.pre
  have hown : s.vm.findClass y.cls = some m.cls := findClass_of_methodNamed B.named
  rw [ho] at hown
  have C : xC E p s m av.toArray c (va_A ws s.heap.size) b n own := ⟨B.exec, B.bytes, hml, hown, fun w h => hts w (List.mem_cons_of_mem _ h), hK, fun q h => Or.inr h, hZ⟩
  rw [lg_entry_eq]
  exact body p e s m below meth c _ C B.returns B.notSynchronized s.heap [] _ hP hD0.self va_S.rf (by rw [← hlv]; exact lv_entry av hlen)
theorem xV_start {y : MethodName} {b : ByteArray} {n d mc ms : Nat} {av : List Value} {ws : va_W} {post : va_W → Prop} {lv : List (Nat × Value)} (own : String) (hy : plainName y.cls = true) (ho : y.cls = own) (hlen : (lg_sl av).length ≤ n) (hlv : lv_args 0 av = lv)
    (body : ∀ (p : Program) (e : Env) (s : State) (m : MethodId) (below : List Frame) (meth : Method) (c : Code) (A : Nat → Prop), xC E p s m av.toArray c A b n own → meth.sig.returnType = none → meth.locks = false → meth.name = y.name → X E p l e (xRm d mc ms) s m av.toArray below meth c A n 0 0 (MQ below (va_Qv post (xB E A) A) av.toArray s mc ms A) ws 0 lv []) : xV E l y b n d mc ms av ws post := by
  intro sz
  refine Met.ofW (cc := b) (maxL := n) (ret := none) hy rfl ?_
  intro p e s m args below meth c s₁ B hml hv
  obtain ⟨rfl, hsz, hP, hK, hD0, hZ⟩ := hv
  subst hsz
  have hts := atoms_spec (ws := Cond.code y b n none :: gT) B.pre
  have hown : s.vm.findClass y.cls = some m.cls := findClass_of_methodNamed B.named
  rw [ho] at hown
  have C : xC E p s m av.toArray c (va_A ws s.heap.size) b n own := ⟨B.exec, B.bytes, hml, hown, fun w h => hts w (List.mem_cons_of_mem _ h), hK, fun q h => Or.inr h, hZ⟩
  rw [lg_entry_eq]
  exact body p e s m below meth c _ C B.returns B.notSynchronized (name_of_methodNamed B.named B.method).1 s.heap [] _ hP hD0.self va_S.rf (by rw [← hlv]; exact lv_entry av hlen)
end XS
section XCALL
variable {E : xE} {p : Program} {l : Launch} {e : Env} {R : Room} {s : State} {m : MethodId} {args : Array Value} {below : List Frame} {meth : Method} {c : Code} {A : Nat → Prop} {cc : ByteArray} {nL : Nat} {own : String} {cells slots : Nat} {Q : State → Prop} {ws : va_W} {pc pc' : Nat} {lv : List (Nat × Value)} {st : List Value}
theorem x_zret (C : xC E p s m args c A cc nL own) {ty : FieldType} {v : Int32} {post : Int32 → va_W → Prop} (hr : meth.sig.returnType = some ty) (hlk : meth.locks = false) (hn : narrow ty (.int v) = .int v) (hd : decode cc pc = .ok (.ireturn, 1)) (hq : post v ws) : X E p l e R s m args below meth c A nL cells slots (MQ below (va_Qi post (xB E A) A) args s cells slots A) ws pc lv [.int v] :=
  fun _ _ _ hP hD hS _ => W.zret C.1 C.2.1 hr hn (fun t ht _ => ⟨⟨v, ws, rfl, hq, (And.intro (by rw [ht]; exact hP) hD : xB E A ws t)⟩, hS.F ht⟩) hS.2.2 hd hlk
theorem x_vret (C : xC E p s m args c A cc nL own) {post : va_W → Prop} (hr : meth.sig.returnType = none) (hlk : meth.locks = false) (hd : decode cc pc = .ok (.return_, 1)) (hq : post ws) : X E p l e R s m args below meth c A nL cells slots (MQ below (va_Qv post (xB E A) A) args s cells slots A) ws pc lv [] :=
  fun _ _ _ hP hD hS _ => W.vret C.1 C.2.1 hr (fun t ht _ => ⟨⟨ws, rfl, hq, (And.intro (by rw [ht]; exact hP) hD : xB E A ws t)⟩, hS.F ht⟩) hS.2.2 hd hlk
theorem xC.fr (C : xC E p s m args c A cc nL own) {H : Heap} {locs : List Loc} {W0 wc : va_W} (hD : va_D A (W0 ++ wc)) (hS : va_S A s.heap H locs) : ∀ q, va_A wc H.size q → A q := by
  intro q h
  rcases h with ⟨k, e, h⟩ | h
  · exact hD.2 (W0.length + k) (q, e) (by rw [List.getElem?_append_right (Nat.le_add_right _ _), Nat.add_sub_cancel_left]; exact h)
  · exact C.2.2.2.2.2.2.1 q (Nat.le_trans hS.1 h)
theorem xC.fr0 (C : xC E p s m args c A cc nL own) {H : Heap} {locs : List Loc} {wc : va_W} (hD : va_D A wc) (hS : va_S A s.heap H locs) : ∀ q, va_A wc H.size q → A q := C.fr (W0 := []) hD hS
/-- invokevirtual, an int (boolean) comes -/
theorem x_vi (C : xC E p s m args c A cc nL own) {y : MethodName} {b : ByteArray} {n d k idx a ci N : Nat} {ret : Option FieldType} {Cn : String} {T : u_T} {fs As rest : List Value} {post : Int32 → va_W → Prop} (hM : xI E l y b n ret d (.ref a :: As) ws post) (F : xMV y b n ret k Cn) (hl : Cond.methodLink own idx y ∈ gT) (q0 : Nat) (he : ws[q0]? = some (a, .inr (ci, fs))) (hc : vwCl[ci]? = some (Cn, T, N)) (hk : As.length = k) (hst : st = As.reverse ++ .ref a :: rest) (hr : (rest.map fun v => v.category).sum ≤ 8) (hR : d + 1 ≤ R.frames ∧ 8 + (n + 11) + 40 * d ≤ R.locals) (hf : cells ≤ R.cells ∧ slots ≤ R.slots) (hd : decode cc pc = .ok (.invokevirtual idx, 3)) (hp : pc + 3 = pc') (kk : ∀ (r : Int32) (w : va_W), post r w → X E p l e R s m args below meth c A nL cells slots Q w pc' lv (.int r :: rest)) : X E p l e R s m args below meth c A nL cells slots Q ws pc lv st := by
  subst hp; subst hst
  intro H locs ls hP hD hS hl'
  have hF := C.fr0 hD hS
  refine va_calli (va_runV (As := As) (rest := rest) ⟨C.1, C.2.1, C.2.2.1, C.2.2.2.1, C.2.2.2.2.1⟩ (hM H.size) (cwV k C.2.2.2.2.1 (gT_V F hl) rfl rfl rfl F.2.2.2.2 hR) ⟨xP_blind, va_recv C.2.2.2.2.2.1.1 hP hc he, fun U hU hW => xP_at hU hW hP C.2.2.2.2.2.1 hD C.2.2.2.2.2.2.2 hS hF⟩ rfl hk hl'.1 rfl (lv_room hr) hd hf) hS (fun q _ h => hF q h) hF (fun r u t H1 locs1 ht hvm hpost hB hz hk1 hS1 => ?_)
  obtain ⟨hP1, hD1⟩ := hB
  rw [ht] at hP1
  exact kk r u hpost H1 locs1 ls hP1 (hD1.weaken (fun _ q _ h => hF q.1 h)) hS1 hl'
/-- invokevirtual, nothing comes -/
theorem x_vv (C : xC E p s m args c A cc nL own) {y : MethodName} {b : ByteArray} {n d k idx a ci N : Nat} {Cn : String} {T : u_T} {fs As rest : List Value} {post : va_W → Prop} (hM : xV E l y b n d 0 0 (.ref a :: As) ws post) (F : xMV y b n none k Cn) (hl : Cond.methodLink own idx y ∈ gT) (q0 : Nat) (he : ws[q0]? = some (a, .inr (ci, fs))) (hc : vwCl[ci]? = some (Cn, T, N)) (hk : As.length = k) (hst : st = As.reverse ++ .ref a :: rest) (hr : (rest.map fun v => v.category).sum ≤ 8) (hR : d + 1 ≤ R.frames ∧ 8 + (n + 11) + 40 * d ≤ R.locals) (hf : cells ≤ R.cells ∧ slots ≤ R.slots) (hd : decode cc pc = .ok (.invokevirtual idx, 3)) (hp : pc + 3 = pc') (kk : ∀ (w : va_W), post w → X E p l e R s m args below meth c A nL cells slots Q w pc' lv rest) : X E p l e R s m args below meth c A nL cells slots Q ws pc lv st := by
  subst hp; subst hst
  intro H locs ls hP hD hS hl'
  have hF := C.fr0 hD hS
  refine va_callv (va_runV (As := As) (rest := rest) ⟨C.1, C.2.1, C.2.2.1, C.2.2.2.1, C.2.2.2.2.1⟩ (hM H.size) (cwV k C.2.2.2.2.1 (gT_V F hl) rfl rfl rfl F.2.2.2.2 hR) ⟨xP_blind, va_recv C.2.2.2.2.2.1.1 hP hc he, fun U hU hW => xP_at hU hW hP C.2.2.2.2.2.1 hD C.2.2.2.2.2.2.2 hS hF⟩ rfl hk hl'.1 rfl (lv_room hr) hd hf) hS (fun q _ h => hF q h) hF (fun u t H1 locs1 ht hvm hpost hB hz hk1 hS1 => ?_)
  obtain ⟨hP1, hD1⟩ := hB
  rw [ht] at hP1
  exact kk u hpost H1 locs1 ls hP1 (hD1.weaken (fun _ q _ h => hF q.1 h)) hS1 hl'
/-- invokestatic, an int (boolean) comes -/
theorem x_si (C : xC E p s m args c A cc nL own) {y : MethodName} {b : ByteArray} {n d k idx : Nat} {ret : Option FieldType} {As rest : List Value} {post : Int32 → va_W → Prop} (hM : xI E l y b n ret d As ws post) (F : xMS y b n ret k) (hl : Cond.methodLink own idx y ∈ gT) (hk : As.length = k) (hst : st = As.reverse ++ rest) (hr : (rest.map fun v => v.category).sum ≤ 8) (hR : d + 1 ≤ R.frames ∧ 8 + (n + 11) + 40 * d ≤ R.locals) (hf : cells ≤ R.cells ∧ slots ≤ R.slots) (hd : decode cc pc = .ok (.invokestatic idx, 3)) (hp : pc + 3 = pc') (kk : ∀ (r : Int32) (w : va_W), post r w → X E p l e R s m args below meth c A nL cells slots Q w pc' lv (.int r :: rest)) : X E p l e R s m args below meth c A nL cells slots Q ws pc lv st := by
  subst hp; subst hst
  intro H locs ls hP hD hS hl'
  have hF := C.fr0 hD hS
  refine va_calli (va_runS (As := As) (rest := rest) ⟨C.1, C.2.1, C.2.2.1, C.2.2.2.1, C.2.2.2.2.1⟩ (hM H.size) ⟨callB_of k C.2.2.2.2.1 (gT_cons F.1) rfl rfl rfl (C.2.2.2.2.1 _ F.2.1) (C.2.2.2.2.1 _ hl) F.2.2.2 hR, C.2.2.2.2.1 _ F.2.2.1⟩ ⟨xP_blind, fun U hU hW => xP_at hU hW hP C.2.2.2.2.2.1 hD C.2.2.2.2.2.2.2 hS hF⟩ rfl hk hl'.1 rfl (lv_room hr) hd hf) hS (fun q _ h => hF q h) hF (fun r u t H1 locs1 ht hvm hpost hB hz hk1 hS1 => ?_)
  obtain ⟨hP1, hD1⟩ := hB
  rw [ht] at hP1
  exact kk r u hpost H1 locs1 ls hP1 (hD1.weaken (fun _ q _ h => hF q.1 h)) hS1 hl'
/-- invokestatic, nothing comes -/
theorem x_sv (C : xC E p s m args c A cc nL own) {y : MethodName} {b : ByteArray} {n d k idx : Nat} {As rest : List Value} {post : va_W → Prop} (hM : xV E l y b n d 0 0 As ws post) (F : xMS y b n none k) (hl : Cond.methodLink own idx y ∈ gT) (hk : As.length = k) (hst : st = As.reverse ++ rest) (hr : (rest.map fun v => v.category).sum ≤ 8) (hR : d + 1 ≤ R.frames ∧ 8 + (n + 11) + 40 * d ≤ R.locals) (hf : cells ≤ R.cells ∧ slots ≤ R.slots) (hd : decode cc pc = .ok (.invokestatic idx, 3)) (hp : pc + 3 = pc') (kk : ∀ (w : va_W), post w → X E p l e R s m args below meth c A nL cells slots Q w pc' lv rest) : X E p l e R s m args below meth c A nL cells slots Q ws pc lv st := by
  subst hp; subst hst
  intro H locs ls hP hD hS hl'
  have hF := C.fr0 hD hS
  refine va_callv (va_runS (As := As) (rest := rest) ⟨C.1, C.2.1, C.2.2.1, C.2.2.2.1, C.2.2.2.2.1⟩ (hM H.size) ⟨callB_of k C.2.2.2.2.1 (gT_cons F.1) rfl rfl rfl (C.2.2.2.2.1 _ F.2.1) (C.2.2.2.2.1 _ hl) F.2.2.2 hR, C.2.2.2.2.1 _ F.2.2.1⟩ ⟨xP_blind, fun U hU hW => xP_at hU hW hP C.2.2.2.2.2.1 hD C.2.2.2.2.2.2.2 hS hF⟩ rfl hk hl'.1 rfl (lv_room hr) hd hf) hS (fun q _ h => hF q h) hF (fun u t H1 locs1 ht hvm hpost hB hz hk1 hS1 => ?_)
  obtain ⟨hP1, hD1⟩ := hB
  rw [ht] at hP1
  exact kk u hpost H1 locs1 ls hP1 (hD1.weaken (fun _ q _ h => hF q.1 h)) hS1 hl'
/-- invokestatic of a nest mate's private method -/
theorem x_sn (C : xC E p s m args c A cc nL own) {y : MethodName} {b : ByteArray} {n d k idx : Nat} {host : String} {ret : Option FieldType} {As rest : List Value} {post : Int32 → va_W → Prop} (hM : xI E l y b n ret d As ws post) (F : xMS y b n ret k) (hl : Cond.methodLinkNest own idx y host ∈ tables_1) (hk : As.length = k) (hst : st = As.reverse ++ rest) (hr : (rest.map fun v => v.category).sum ≤ 8) (hR : d + 1 ≤ R.frames ∧ 8 + (n + 11) + 40 * d ≤ R.locals) (hf : cells ≤ R.cells ∧ slots ≤ R.slots) (hd : decode cc pc = .ok (.invokestatic idx, 3)) (hp : pc + 3 = pc') (kk : ∀ (r : Int32) (w : va_W), post r w → X E p l e R s m args below meth c A nL cells slots Q w pc' lv (.int r :: rest)) : X E p l e R s m args below meth c A nL cells slots Q ws pc lv st := by
  subst hp; subst hst
  intro H locs ls hP hD hS hl'
  have hF := C.fr0 hD hS
  refine va_calli (va_runSN (As := As) (rest := rest) ⟨C.1, C.2.1, C.2.2.1, C.2.2.2.1, C.2.2.2.2.1⟩ (hM H.size) ⟨va_cnB k C.2.2.2.2.1 (gT_cons F.1) rfl rfl rfl (C.2.2.2.2.2.1.2.1 _ _ _ _ hl) (C.2.2.2.2.1 _ F.2.1) F.2.2.2 hR, C.2.2.2.2.1 _ F.2.2.1, trivial⟩ ⟨xP_blind, fun U hU hW => xP_at hU hW hP C.2.2.2.2.2.1 hD C.2.2.2.2.2.2.2 hS hF⟩ rfl hk hl'.1 rfl (lv_room hr) hd hf) hS (fun q _ h => hF q h) hF (fun r u t H1 locs1 ht hvm hpost hB hz hk1 hS1 => ?_)
  obtain ⟨hP1, hD1⟩ := hB
  rw [ht] at hP1
  exact kk r u hpost H1 locs1 ls hP1 (hD1.weaken (fun _ q _ h => hF q.1 h)) hS1 hl'
/-- invokespecial of a constructor on the cell that came last: W0 stays -/
theorem x_ni (C : xC E p s m args c A cc nL own) {y : MethodName} {b : ByteArray} {n d k idx a mc ms : Nat} {As rest : List Value} {W0 wc : va_W} {post : va_W → Prop} (hM : xV E l y b n d mc ms (.ref a :: As) wc post) (F : xMN y b n k) (hl : Cond.methodLink own idx y ∈ gT) (hw : ws = W0 ++ wc) (hk : As.length = k) (hst : st = As.reverse ++ .ref a :: rest) (hr : (rest.map fun v => v.category).sum ≤ 8) (hR : d + 1 ≤ R.frames ∧ 8 + (n + 11) + 40 * d ≤ R.locals) (hf : cells + mc ≤ R.cells ∧ slots + ms ≤ R.slots) (hd : decode cc pc = .ok (.invokespecial idx, 3)) (hp : pc + 3 = pc') (kk : ∀ (w : va_W), post w → X E p l e R s m args below meth c A nL (cells + mc) (slots + ms) Q (W0 ++ w) pc' lv rest) : X E p l e R s m args below meth c A nL cells slots Q ws pc lv st := by
  subst hp; subst hst; subst hw
  intro H locs ls hP hD hS hl'
  have hF := C.fr hD hS
  have hPc : va_P E.1 vwCl wc H := fun j q h => hP (W0.length + j) q (by rw [List.getElem?_append_right (Nat.le_add_right _ _), Nat.add_sub_cancel_left]; exact h)
  have rt : ∀ (j : Nat) (q : Nat × va_E), wc[j]? = some q → (W0 ++ wc)[W0.length + j]? = some q := fun j q h => by rw [List.getElem?_append_right (Nat.le_add_right _ _), Nat.add_sub_cancel_left]; exact h
  have hDc : va_D A wc := ⟨fun i j x y hx hy e => by have := hD.1 _ _ x y (rt i x hx) (rt j y hy) e; omega, fun j q h => hD.2 _ q (rt j q h)⟩
  refine va_callv (va_runI (As := As) (rest := rest) ⟨C.1, C.2.1, C.2.2.1, C.2.2.2.1, C.2.2.2.2.1⟩ (hM H.size) (cwI k C.2.2.2.2.1 (gT_cons F.1) rfl rfl rfl (C.2.2.2.2.1 _ F.2.1) (C.2.2.2.2.1 _ hl) (C.2.2.2.2.1 _ F.2.2.1) F.2.2.2.1 F.2.2.2.2 hR) ⟨xP_blind, fun U hU hW => xP_at hU hW hPc C.2.2.2.2.2.1 hDc C.2.2.2.2.2.2.2 hS hF⟩ rfl hk hl'.1 rfl (lv_room hr) hd hf) hS (fun q _ h => hF q h) hF (fun u t H1 locs1 ht hvm hpost hB hz hk1 hS1 => ?_)
  obtain ⟨hP1, hD1⟩ := hB
  rw [ht] at hP1
  obtain ⟨g1, g2⟩ := fr_app hP hD hk1 hF hP1 hD1
  exact kk u hpost H1 locs1 ls g1 g2 hS1 hl'
/-- the same of a nest mate's private constructor -/
theorem x_nn (C : xC E p s m args c A cc nL own) {y : MethodName} {b : ByteArray} {n d k idx a mc ms : Nat} {host : String} {As rest : List Value} {W0 wc : va_W} {post : va_W → Prop} (hM : xV E l y b n d mc ms (.ref a :: As) wc post) (F : xMN y b n k) (hl : Cond.methodLinkNest own idx y host ∈ tables_1) (hw : ws = W0 ++ wc) (hk : As.length = k) (hst : st = As.reverse ++ .ref a :: rest) (hr : (rest.map fun v => v.category).sum ≤ 8) (hR : d + 1 ≤ R.frames ∧ 8 + (n + 11) + 40 * d ≤ R.locals) (hf : cells + mc ≤ R.cells ∧ slots + ms ≤ R.slots) (hd : decode cc pc = .ok (.invokespecial idx, 3)) (hp : pc + 3 = pc') (kk : ∀ (w : va_W), post w → X E p l e R s m args below meth c A nL (cells + mc) (slots + ms) Q (W0 ++ w) pc' lv rest) : X E p l e R s m args below meth c A nL cells slots Q ws pc lv st := by
  subst hp; subst hst; subst hw
  intro H locs ls hP hD hS hl'
  have hF := C.fr hD hS
  have hPc : va_P E.1 vwCl wc H := fun j q h => hP (W0.length + j) q (by rw [List.getElem?_append_right (Nat.le_add_right _ _), Nat.add_sub_cancel_left]; exact h)
  have rt : ∀ (j : Nat) (q : Nat × va_E), wc[j]? = some q → (W0 ++ wc)[W0.length + j]? = some q := fun j q h => by rw [List.getElem?_append_right (Nat.le_add_right _ _), Nat.add_sub_cancel_left]; exact h
  have hDc : va_D A wc := ⟨fun i j x y hx hy e => by have := hD.1 _ _ x y (rt i x hx) (rt j y hy) e; omega, fun j q h => hD.2 _ q (rt j q h)⟩
  refine va_callv (va_runIN (As := As) (rest := rest) ⟨C.1, C.2.1, C.2.2.1, C.2.2.2.1, C.2.2.2.2.1⟩ (hM H.size) ⟨va_cnB k C.2.2.2.2.1 (gT_cons F.1) rfl rfl rfl (C.2.2.2.2.2.1.2.1 _ _ _ _ hl) (C.2.2.2.2.1 _ F.2.1) F.2.2.2.2 hR, F.2.2.2.1, C.2.2.2.2.1 _ F.2.2.1⟩ ⟨xP_blind, fun U hU hW => xP_at hU hW hPc C.2.2.2.2.2.1 hDc C.2.2.2.2.2.2.2 hS hF⟩ rfl hk hl'.1 rfl (lv_room hr) hd hf) hS (fun q _ h => hF q h) hF (fun u t H1 locs1 ht hvm hpost hB hz hk1 hS1 => ?_)
  obtain ⟨hP1, hD1⟩ := hB
  rw [ht] at hP1
  obtain ⟨g1, g2⟩ := fr_app hP hD hk1 hF hP1 hD1
  exact kk u hpost H1 locs1 ls g1 g2 hS1 hl'
end XCALL

def PO (a : Nat → Nat) (cd : Cd) (w : va_W) (om pm : Nat) : Prop := ∃ (n4 n5 n6 n10 n11 n12 n27 : Nat) (v7 v8 v9 v32 v33 v34 v35 v47 : Int32), (n4 ≤ 260 ∧ n5 ≤ 240 ∧ n6 ≤ 240 ∧ n10 ≤ 260 ∧ n11 ≤ 260 ∧ n12 ≤ 16 ∧ n27 ≤ 24) ∧ (om ≤ 12 ∧ pm ≤ 4) ∧ zb v47 ∧ w[0]? = some (ob (a 0) 11 [.ref (a 1), .ref (a 2), .ref (a 3), .ref (a 4), .int (nI n4), .int (nI n5), .int (nI n6), .int v7, .int v8, .int v9, .int (nI n10), .int (nI n11), .int (nI n12), .int (nI cd.2.2.2.2.2), .ref (a 5), .ref (a 6), .ref (a 7), .ref (a 8), .ref (a 9), .ref (a 10), .ref (a 11), .ref (a 12), .ref (a 13), .ref (a 14), .ref (a 15), .ref (a 16), .ref (a 17), .int (nI n27), .ref (a 18), .ref (a 19), .ref (a 20), .ref (a 21), .int v32, .int v33, .int v34, .int v35, .int (nI om), .int (nI pm), .ref (a 22), .ref (a 23), .ref (a 24), .ref (a 25), .ref (a 26), .ref (a 27), .ref (a 28), .ref (a 29), .ref (a 30), .int v47])
def p2 (k : Nat) : Nat := 2 ^ k
theorem p2_0 : p2 0 = 1 := rfl
theorem p2_s (k : Nat) : p2 (k + 1) = 2 * p2 k := by rw [p2, p2, Nat.pow_succ]; omega
theorem p2_pos (k : Nat) : 1 ≤ p2 k := Nat.two_pow_pos k
theorem p2_mono {j k : Nat} (h : j ≤ k) : p2 j ≤ p2 k := Nat.pow_le_pow_right (by omega) h
theorem p2_10 {k : Nat} (h : k ≤ 10) : p2 k ≤ 1024 := p2_mono h
theorem shp_tab : (List.range 11).all (fun n => decide ((1 : Int32) <<< ((nI n) &&& 31) = nI (2 ^ n))) = true := by decide +kernel
theorem shp {n : Nat} (h : n ≤ 10) : (1 : Int32) <<< ((nI n) &&& 31) = nI (p2 n) := of_decide_eq_true (List.all_eq_true.mp shp_tab n (List.mem_range.mpr (by omega)))
theorem orp_tab : (List.range 10).all (fun k => (List.range (2 ^ k)).all (fun s => decide (nI s ||| nI (2 ^ k) = nI (s + 2 ^ k)))) = true := by decide +kernel
theorem orp {k s : Nat} (hk : k ≤ 9) (hs : s < p2 k) : nI s ||| nI (p2 k) = nI (s + p2 k) := of_decide_eq_true (List.all_eq_true.mp (List.all_eq_true.mp orp_tab k (List.mem_range.mpr (by omega))) s (List.mem_range.mpr hs))
theorem and_le {f : Nat} (h : f < 1024) (y : Int32) : ∃ z : Nat, z ≤ f ∧ nI f &&& y = nI z := by
  refine ⟨(BitVec.ofNat 32 f &&& y.toBitVec).toNat, ?_, ?_⟩
  · rw [BitVec.toNat_and]
    have h1 : (BitVec.ofNat 32 f).toNat &&& y.toBitVec.toNat ≤ (BitVec.ofNat 32 f).toNat := Nat.and_le_left
    rw [BitVec.toNat_ofNat] at h1 ⊢
    have h2 := Nat.mod_le f (2 ^ 32)
    omega
  · apply Int32.toBitVec_inj.mp
    show BitVec.ofNat 32 f &&& y.toBitVec = BitVec.ofNat 32 _
    rw [BitVec.ofNat_toNat, BitVec.setWidth_eq]
def la (l s : Nat) : Nat := (nI l &&& (nI s ^^^ (-1 : Int32))).toNatClampNeg
theorem la_eq {l : Nat} (h : l < 1024) (s : Nat) : nI l &&& (nI s ^^^ (-1 : Int32)) = nI (la l s) := by
  obtain ⟨z, hz, e⟩ := and_le h (nI s ^^^ (-1 : Int32))
  rw [la, e, nI_clamp (by omega)]
theorem la_le {l : Nat} (h : l < 1024) (s : Nat) : la l s ≤ l := by
  obtain ⟨z, hz, e⟩ := and_le h (nI s ^^^ (-1 : Int32))
  rw [la, e, nI_clamp (by omega)]; exact hz
def sub (s l : Nat) : Prop := nI s &&& (nI l ^^^ (-1 : Int32)) = 0
theorem xor_self_and (x : Int32) : x &&& (x ^^^ (-1 : Int32)) = 0 := by
  apply Int32.toBitVec_inj.mp
  show x.toBitVec &&& (x.toBitVec ^^^ (-1 : Int32).toBitVec) = (0 : Int32).toBitVec
  have e : (-1 : Int32).toBitVec = BitVec.allOnes 32 := by decide
  rw [e, BitVec.xor_allOnes]
  ext i hi
  simp
theorem sub_rfl (l : Nat) : sub l l := xor_self_and _
theorem sub_zero (l : Nat) : sub 0 l := Int32.zero_and
theorem sub_and {z l : Nat} {y : Int32} (h : y &&& nI l = nI z) : sub z l := by
  rw [sub, ← h, Int32.and_assoc, xor_self_and, Int32.and_zero]
def PT (S wv : Nat → Int32) (n : Nat) : Prop := S 0 = 0 ∧ ∀ k, k < n → ∀ s, s < p2 k → S (s + p2 k) = S s + wv k
theorem PT_uniq {S S' wv : Nat → Int32} : ∀ {n : Nat}, PT S wv n → PT S' wv n → ∀ s, s < p2 n → S s = S' s
  | 0, h, h', s, hs => by
    rw [p2_0] at hs
    have e : s = 0 := by omega
    subst e; rw [h.1, h'.1]
  | n + 1, h, h', s, hs => by
    rw [p2_s] at hs
    have g : PT S wv n := ⟨h.1, fun k hk => h.2 k (by omega)⟩
    have g' : PT S' wv n := ⟨h'.1, fun k hk => h'.2 k (by omega)⟩
    rcases Nat.lt_or_ge s (p2 n) with q | q
    · exact PT_uniq g g' s q
    · have e : s = (s - p2 n) + p2 n := by omega
      rw [e, h.2 n (by omega) _ (by omega), h'.2 n (by omega) _ (by omega), PT_uniq g g' (s - p2 n) (by omega)]
theorem PT_far {S wv : Nat → Int32} {n i : Nat} {v : Int32} (h : PT S wv n) (hi : p2 n ≤ i) : PT (upd S i v) wv n := by
  have h0 := p2_pos n
  refine ⟨by rw [pk_un (by omega)]; exact h.1, fun k hk s hs => ?_⟩
  have h1 := p2_mono (j := k + 1) (k := n) (by omega)
  rw [p2_s] at h1
  rw [pk_un (by omega), pk_un (by omega)]; exact h.2 k hk s hs
theorem PT_succ {S wv : Nat → Int32} {n : Nat} (h : PT S wv n) (h2 : ∀ s, s < p2 n → S (s + p2 n) = S s + wv n) : PT S wv (n + 1) := ⟨h.1, fun k hk => by
  by_cases e : k = n
  · subst e; exact h2
  · exact h.2 k (by omega)⟩
theorem PT_row {S wv : Nat → Int32} {k se : Nat} (h : ∀ s, s < se → S (s + p2 k) = S s + wv k) (hse : se < p2 k) : ∀ s, s < se + 1 → upd S (se + p2 k) (S se + wv k) (s + p2 k) = upd S (se + p2 k) (S se + wv k) s + wv k := by
  intro s hs
  rw [pk_un (j := s) (by omega)]
  by_cases e : s = se
  · subst e; rw [pk_us]
  · rw [pk_un (by omega)]; exact h s (by omega)
/-- what one work's set of eggs brings, with the best of the later works -/
def pB (fn S B : Nat → Int32) (pw : Nat → Nat) (v l s : Nat) : Int32 := ((64 : Int32) * (if fn (346 + pw v) + S s < fn (338 + pw v) then (0 : Int32) else fn (354 + pw v)) - bt (nI s) 12) + B (1024 * (v + 1) + la l s)
theorem pB_S {fn S S' B : Nat → Int32} {pw : Nat → Nat} {v l s : Nat} (h : S s = S' s) : pB fn S B pw v l s = pB fn S' B pw v l s := by rw [pB, pB, h]
theorem pB_B {fn S B B' : Nat → Int32} {pw : Nat → Nat} {v l s : Nat} (h : B (1024 * (v + 1) + la l s) = B' (1024 * (v + 1) + la l s)) : pB fn S B pw v l s = pB fn S B' pw v l s := by rw [pB, pB, h]
def wvs (cd : Cd) (fn : Nat → Int32) (og : Nat → Nat) (wk : Nat) : Nat → Int32 := fun k => wFor cd fn (og k) (nI wk)
/-- a place of the table is reached by one of its sets -/
def rOk (cd : Cd) (fn B : Nat → Int32) (og pw : Nat → Nat) (om v l : Nat) : Prop := ∃ s : Nat, s ≤ l ∧ sub s l ∧ ∀ S, PT S (wvs cd fn og (pw v)) om → B (1024 * v + l) = pB fn S B pw v l s
def bOk (cd : Cd) (fn B : Nat → Int32) (og pw : Nat → Nat) (om lo pm : Nat) : Prop := ∀ v, lo ≤ v → v < pm → ∀ l, l < p2 om → rOk cd fn B og pw om v l
theorem rOk_far {cd : Cd} {fn B : Nat → Int32} {og pw : Nat → Nat} {om v l i : Nat} {x : Int32} (h : rOk cd fn B og pw om v l) (h1 : i ≠ 1024 * v + l) (h2 : i < 1024 * (v + 1)) : rOk cd fn (upd B i x) og pw om v l := by
  obtain ⟨s, hs1, hs2, hs3⟩ := h
  refine ⟨s, hs1, hs2, fun S hS => ?_⟩
  rw [pk_un (by omega), hs3 S hS]
  exact pB_B (by rw [pk_un (by omega)])
theorem bOk_far {cd : Cd} {fn B : Nat → Int32} {og pw : Nat → Nat} {om w pm l : Nat} {x : Int32} (h : bOk cd fn B og pw om (w + 1) pm) (hl : l < 1024) : bOk cd fn (upd B (1024 * w + l) x) og pw om (w + 1) pm := fun v h1 h2 l2 h3 => rOk_far (h v h1 h2 l2 h3) (by omega) (by omega)
theorem row_step {cd : Cd} {fn B S : Nat → Int32} {og pw : Nat → Nat} {om w l : Nat} {x : Int32} (h : ∀ j, j < l → rOk cd fn B og pw om w j) (hl : l < p2 om) (hl2 : l < 1024) (hS : PT S (wvs cd fn og (pw w)) om) (hx : ∃ s : Nat, s ≤ l ∧ sub s l ∧ x = pB fn S B pw w l s) : ∀ j, j < l + 1 → rOk cd fn (upd B (1024 * w + l) x) og pw om w j := by
  intro j hj
  by_cases e : j = l
  · subst e
    obtain ⟨s, h1, h2, h3⟩ := hx
    refine ⟨s, h1, h2, fun S' hS' => ?_⟩
    rw [pk_us, h3, pB_S (PT_uniq hS hS' s (by omega))]
    exact pB_B (by rw [pk_un (by omega)])
  · exact rOk_far (h j (by omega)) (by omega) (by omega)
theorem bOk_row {cd : Cd} {fn B : Nat → Int32} {og pw : Nat → Nat} {om w pm : Nat} (h : bOk cd fn B og pw om (w + 1) pm) (h2 : ∀ j, j < p2 om → rOk cd fn B og pw om w j) : bOk cd fn B og pw om w pm := by
  intro v h3 h4 l hl
  by_cases e : v = w
  · subst e; exact h2 l hl
  · exact h v (by omega) h4 l hl
def btn (w i : Nat) : Nat := ((List.range i).filter (fun k => w.testBit k)).length
theorem btn_tab : (List.range 256).all (fun w => decide (bt (nI w) 12 = nI (btn w 8)) && (List.range 8).all (fun i => decide (((nI w >>> (nI i &&& 31)) &&& 1 = 1 ∧ btn w (i + 1) = btn w i + 1 ∧ btn w (i + 1) ≤ btn w 8) ∨ (¬ (nI w >>> (nI i &&& 31)) &&& 1 = 1 ∧ btn w (i + 1) = btn w i ∧ btn w (i + 1) ≤ btn w 8)))) = true := by decide +kernel
theorem btn_12 {w : Nat} (h : w ≤ 255) : bt (nI w) 12 = nI (btn w 8) := by
  have q := List.all_eq_true.mp btn_tab w (List.mem_range.mpr (by omega))
  exact of_decide_eq_true ((Bool.and_eq_true _ _).mp q).1
theorem btn_i {w i : Nat} (h : w ≤ 255) (hi : i < 8) : (hb (nI w) (nI i) ∧ btn w (i + 1) = btn w i + 1 ∧ btn w (i + 1) ≤ btn w 8) ∨ (¬ hb (nI w) (nI i) ∧ btn w (i + 1) = btn w i ∧ btn w (i + 1) ≤ btn w 8) := by
  have q := List.all_eq_true.mp btn_tab w (List.mem_range.mpr (by omega))
  unfold hb
  exact of_decide_eq_true (List.all_eq_true.mp ((Bool.and_eq_true _ _).mp q).2 i (List.mem_range.mpr hi))
theorem btn_le8 (w : Nat) : btn w 8 ≤ 8 := by
  rw [btn]; exact Nat.le_trans (List.length_filter_le _ _) (by rw [List.length_range]; omega)
theorem dX12_laysSums_0 : decode cX12_laysSums 0 = .ok (.aload_n 0, 1) := by decide +kernel
theorem dX12_laysSums_1 : decode cX12_laysSums 1 = .ok (.getfield 83, 3) := by decide +kernel
theorem dX12_laysSums_4 : decode cX12_laysSums 4 = .ok (.iconst 0, 1) := by decide +kernel
theorem dX12_laysSums_5 : decode cX12_laysSums 5 = .ok (.iconst 0, 1) := by decide +kernel
theorem dX12_laysSums_6 : decode cX12_laysSums 6 = .ok (.iastore, 1) := by decide +kernel
theorem dX12_laysSums_7 : decode cX12_laysSums 7 = .ok (.iconst 0, 1) := by decide +kernel
theorem dX12_laysSums_8 : decode cX12_laysSums 8 = .ok (.istore_n 2, 1) := by decide +kernel
theorem dX12_laysSums_9 : decode cX12_laysSums 9 = .ok (.iload_n 2, 1) := by decide +kernel
theorem dX12_laysSums_10 : decode cX12_laysSums 10 = .ok (.aload_n 0, 1) := by decide +kernel
theorem dX12_laysSums_11 : decode cX12_laysSums 11 = .ok (.getfield 344, 3) := by decide +kernel
theorem dX12_laysSums_14 : decode cX12_laysSums 14 = .ok (.if_icmp .ge 58, 3) := by decide +kernel
theorem dX12_laysSums_17 : decode cX12_laysSums 17 = .ok (.aload_n 0, 1) := by decide +kernel
theorem dX12_laysSums_18 : decode cX12_laysSums 18 = .ok (.aload_n 0, 1) := by decide +kernel
theorem dX12_laysSums_19 : decode cX12_laysSums 19 = .ok (.getfield 74, 3) := by decide +kernel
theorem dX12_laysSums_22 : decode cX12_laysSums 22 = .ok (.iload_n 2, 1) := by decide +kernel
theorem dX12_laysSums_23 : decode cX12_laysSums 23 = .ok (.iaload, 1) := by decide +kernel
theorem dX12_laysSums_24 : decode cX12_laysSums 24 = .ok (.iload_n 1, 1) := by decide +kernel
theorem dX12_laysSums_25 : decode cX12_laysSums 25 = .ok (.invokevirtual 275, 3) := by decide +kernel
theorem dX12_laysSums_28 : decode cX12_laysSums 28 = .ok (.istore_n 3, 1) := by decide +kernel
theorem dX12_laysSums_29 : decode cX12_laysSums 29 = .ok (.iconst 0, 1) := by decide +kernel
theorem dX12_laysSums_30 : decode cX12_laysSums 30 = .ok (.istore 4, 2) := by decide +kernel
theorem dX12_laysSums_32 : decode cX12_laysSums 32 = .ok (.iload 4, 2) := by decide +kernel
theorem dX12_laysSums_34 : decode cX12_laysSums 34 = .ok (.iconst 1, 1) := by decide +kernel
theorem dX12_laysSums_35 : decode cX12_laysSums 35 = .ok (.iload_n 2, 1) := by decide +kernel
theorem dX12_laysSums_36 : decode cX12_laysSums 36 = .ok (.ishl, 1) := by decide +kernel
theorem dX12_laysSums_37 : decode cX12_laysSums 37 = .ok (.if_icmp .ge 29, 3) := by decide +kernel
theorem dX12_laysSums_40 : decode cX12_laysSums 40 = .ok (.aload_n 0, 1) := by decide +kernel
theorem dX12_laysSums_41 : decode cX12_laysSums 41 = .ok (.getfield 83, 3) := by decide +kernel
theorem dX12_laysSums_44 : decode cX12_laysSums 44 = .ok (.iload 4, 2) := by decide +kernel
theorem dX12_laysSums_46 : decode cX12_laysSums 46 = .ok (.iconst 1, 1) := by decide +kernel
theorem dX12_laysSums_47 : decode cX12_laysSums 47 = .ok (.iload_n 2, 1) := by decide +kernel
theorem dX12_laysSums_48 : decode cX12_laysSums 48 = .ok (.ishl, 1) := by decide +kernel
theorem dX12_laysSums_49 : decode cX12_laysSums 49 = .ok (.ior, 1) := by decide +kernel
theorem dX12_laysSums_50 : decode cX12_laysSums 50 = .ok (.aload_n 0, 1) := by decide +kernel
theorem dX12_laysSums_51 : decode cX12_laysSums 51 = .ok (.getfield 83, 3) := by decide +kernel
theorem dX12_laysSums_54 : decode cX12_laysSums 54 = .ok (.iload 4, 2) := by decide +kernel
theorem dX12_laysSums_56 : decode cX12_laysSums 56 = .ok (.iaload, 1) := by decide +kernel
theorem dX12_laysSums_57 : decode cX12_laysSums 57 = .ok (.iload_n 3, 1) := by decide +kernel
theorem dX12_laysSums_58 : decode cX12_laysSums 58 = .ok (.iadd, 1) := by decide +kernel
theorem dX12_laysSums_59 : decode cX12_laysSums 59 = .ok (.iastore, 1) := by decide +kernel
theorem dX12_laysSums_60 : decode cX12_laysSums 60 = .ok (.iinc 4 1, 3) := by decide +kernel
theorem dX12_laysSums_63 : decode cX12_laysSums 63 = .ok (.goto (-31), 3) := by decide +kernel
theorem dX12_laysSums_66 : decode cX12_laysSums 66 = .ok (.iinc 2 1, 3) := by decide +kernel
theorem dX12_laysSums_69 : decode cX12_laysSums 69 = .ok (.goto (-60), 3) := by decide +kernel
theorem dX12_laysSums_72 : decode cX12_laysSums 72 = .ok (.return_, 1) := by decide +kernel
set_option maxRecDepth 20000 in
set_option maxHeartbeats 4000000 in
theorem m_laysSums (E : xE) (l : Launch) (a : Nat → Nat) (cd : Cd) (hG : Good cd) (ws : va_W) (hW : WX (okM E a cd) ws) (wk0 : Nat) (fn : Nat → Int32) (hfn : ws[1]? = some (iA E (a 1) 382 fn)) (om pm : Nat) (h0 : PO a cd ws om pm) (hom : om ≤ 10) (og : Nat → Nat) (hob : ∀ j, og j ≤ 47) (hog : ws[22]? = some (iA E (a 22) 12 (fun j => nI (og j)))) : xV E l yX12_laysSums cX12_laysSums 5 4 0 0 [.ref (a 0), .int (nI wk0)] ws (fun w => WX (okM E a cd) w ∧ keeps ws w (fun q => q = 16 ∨ q = 17 ∨ q = 25) ∧ (∃ S : Nat → Int32, w[25]? = some (iA E (a 25) 1024 S) ∧ PT S (wvs cd fn og wk0) om)) := by
  refine xV_start (lv := [(0, .ref (a 0)), (1, .int (nI wk0))]) RX12 (by decide) rfl (Nat.le_of_ble_eq_true rfl) rfl (fun p e s m below meth c A C hr hlk hin => ?_)
  have kp0 : keeps ws ws (fun q => q = 16 ∨ q = 17 ∨ q = 25) := keeps_rf
  obtain ⟨_, kq1, fq, pfq, rfl⟩ := hW 1 _ rfl
  obtain rfl := iA_inj (hfn.symm.trans kq1)
  obtain ⟨n1, n2, n3, n4, n5, n6, n7, v8, v9, v10, v11, v12, v13, v14, v15, bo16, bo17, zb18, k19⟩ := h0
  obtain ⟨_, k20, f21, rfl⟩ := hW 25 _ rfl
  refine x_aload_n C dX12_laysSums_0 rfl 0 rfl rfl ?_
  refine x_get C (ci := 11) (k := 41) 0 k19 rfl in_X12 (by decide) w_1159 rfl dX12_laysSums_1 rfl ?_
  refine x_iconst C (v := 0) dX12_laysSums_4 (by decide) rfl ?_
  refine x_iconst C (v := 0) dX12_laysSums_5 (by decide) rfl ?_
  obtain ⟨w22, hw23⟩ : ∃ w : va_W, w = List.set ws 25 (iA E (a 25) 1024 (upd f21 0 (0 : Int32))) := ⟨_, rfl⟩
  refine x_iask C 0 (by decide) (by decide) (by decide) 25 k20 hw23.symm dX12_laysSums_6 rfl ?_
  have hW24 : WX (okM E a cd) w22 := by rw [hw23]; exact hW.set (k := 25) rfl ⟨_, rfl⟩
  have k25 : w22[1]? = some (iA E (a 1) 382 fn) := by rw [hw23]; exact set_ne hfn (by decide)
  have k26 : w22[0]? = some (ob (a 0) 11 [.ref (a 1), .ref (a 2), .ref (a 3), .ref (a 4), .int (nI n1), .int (nI n2), .int (nI n3), .int v8, .int v9, .int v10, .int (nI n4), .int (nI n5), .int (nI n6), .int (nI (cd.2.2.2.2.2)), .ref (a 5), .ref (a 6), .ref (a 7), .ref (a 8), .ref (a 9), .ref (a 10), .ref (a 11), .ref (a 12), .ref (a 13), .ref (a 14), .ref (a 15), .ref (a 16), .ref (a 17), .int (nI n7), .ref (a 18), .ref (a 19), .ref (a 20), .ref (a 21), .int v11, .int v12, .int v13, .int v14, .int (nI om), .int (nI pm), .ref (a 22), .ref (a 23), .ref (a 24), .ref (a 25), .ref (a 26), .ref (a 27), .ref (a 28), .ref (a 29), .ref (a 30), .int v15]) := by rw [hw23]; exact set_ne k19 (by decide)
  have k27 : w22[22]? = some (iA E (a 22) 12 (fun j => nI (og j))) := by rw [hw23]; exact set_ne hog (by decide)
  have k28 : w22[25]? = some (iA E (a 25) 1024 (upd f21 0 (0 : Int32))) := by rw [hw23]; exact set_eq k20
  have kp29 := keeps_set kp0 hw23 (by first | exact rfl | decide | omega | (dsimp only; omega))
  refine x_iconst C (v := 0) dX12_laysSums_7 (by decide) rfl ?_
  refine x_istore_n C (lv' := [(2, .int 0), (0, .ref (a 0)), (1, .int (nI wk0))]) dX12_laysSums_8 rfl (by decide) rfl rfl ?_
  have loop9 : ∀ (fu9 : Nat) (k : Nat) (wl9 : va_W), WX (okM E a cd) wl9 → om - k < fu9 → k ≤ om → (∃ S : Nat → Int32, wl9[25]? = some (iA E (a 25) 1024 S) ∧ PT S (wvs cd fn og wk0) k) → keeps ws wl9 (fun q => q = 16 ∨ q = 17 ∨ q = 25) → X E p l e (xRm 4 0 0) s m ([.ref (a 0), .int (nI wk0)] : List Value).toArray below meth c A 5 0 0 (MQ below (va_Qv (fun w => WX (okM E a cd) w ∧ keeps ws w (fun q => q = 16 ∨ q = 17 ∨ q = 25) ∧ (∃ S : Nat → Int32, w[25]? = some (iA E (a 25) 1024 S) ∧ PT S (wvs cd fn og wk0) om)) (xB E A) A) ([.ref (a 0), .int (nI wk0)] : List Value).toArray s 0 0 A) wl9 9 [(0, .ref (a 0)), (1, .int (nI wk0)), (2, .int (nI k))] [] := by
    intro fu9
    induction fu9 with
    | zero => intro k wl9 _ q; omega
    | succ fu9 ih9 =>
      intro k wl9 hWl9 me9 iv9_0 iv9_1 kq9
      have k30 : wl9[0]? = some (ob (a 0) 11 [.ref (a 1), .ref (a 2), .ref (a 3), .ref (a 4), .int (nI n1), .int (nI n2), .int (nI n3), .int v8, .int v9, .int v10, .int (nI n4), .int (nI n5), .int (nI n6), .int (nI (cd.2.2.2.2.2)), .ref (a 5), .ref (a 6), .ref (a 7), .ref (a 8), .ref (a 9), .ref (a 10), .ref (a 11), .ref (a 12), .ref (a 13), .ref (a 14), .ref (a 15), .ref (a 16), .ref (a 17), .int (nI n7), .ref (a 18), .ref (a 19), .ref (a 20), .ref (a 21), .int v11, .int v12, .int v13, .int v14, .int (nI om), .int (nI pm), .ref (a 22), .ref (a 23), .ref (a 24), .ref (a 25), .ref (a 26), .ref (a 27), .ref (a 28), .ref (a 29), .ref (a 30), .int v15]) := keeps_at kq9 k19 (by first | decide | omega | (dsimp only; omega))
      have k31 : wl9[1]? = some (iA E (a 1) 382 fn) := keeps_at kq9 hfn (by first | decide | omega | (dsimp only; omega))
      have k32 : wl9[22]? = some (iA E (a 22) 12 (fun j => nI (og j))) := keeps_at kq9 hog (by first | decide | omega | (dsimp only; omega))
      obtain ⟨ps33, k34, hPTps33⟩ := iv9_1
      refine x_iload_n C dX12_laysSums_9 rfl 2 rfl rfl ?_
      refine x_aload_n C dX12_laysSums_10 rfl 0 rfl rfl ?_
      refine x_get C (ci := 11) (k := 36) 0 k30 rfl in_X12 (by decide) w_1154 rfl dX12_laysSums_11 rfl ?_
      refine x_icmp_ge C (tgt := 72) dX12_laysSums_14 (by decide) rfl (fun c35 => ?_) (fun c35 => ?_)
      · skip
        have nf36 := nI_le' (a := om) (b := k) c35 (by omega) (by omega)
        exact x_vret C hr hlk dX12_laysSums_72 ⟨hWl9, kq9, ⟨_, k34, (show k = om from by omega) ▸ hPTps33⟩⟩
      · skip
        have nf37 := nI_nle' (a := om) (b := k) c35 (by omega) (by omega)
        have hp2k := p2_10 (k := k + 1) (by omega)
        rw [p2_s] at hp2k
        refine x_aload_n C dX12_laysSums_17 rfl 0 rfl rfl ?_
        refine x_aload_n C dX12_laysSums_18 rfl 0 rfl rfl ?_
        refine x_get C (ci := 11) (k := 38) 0 k30 rfl in_X12 (by decide) w_1156 rfl dX12_laysSums_19 rfl ?_
        refine x_iload_n C dX12_laysSums_22 rfl 2 rfl rfl ?_
        refine x_ialk C (v := nI (og k)) k (nI_clamp (by omega)) (nI_pos (by omega)) (by omega) 22 k32 rfl dX12_laysSums_23 rfl ?_
        have bx38 := hob k
        refine x_iload_n C dX12_laysSums_24 rfl 1 rfl rfl ?_
        refine x_vi C (As := [.int (nI (og k)), .int (nI wk0)]) (rest := []) (m_worthFor E l a cd hG wl9 hWl9 (og k) ((nI wk0)) (by omega) fn k31) mf_X12_worthFor w_1451 0 k30 rfl rfl rfl (Nat.le_of_ble_eq_true rfl) ⟨(Nat.le_of_ble_eq_true rfl), (Nat.le_of_ble_eq_true rfl)⟩ ⟨(Nat.le_of_ble_eq_true rfl), (Nat.le_of_ble_eq_true rfl)⟩ dX12_laysSums_25 rfl (fun r40 w41 h39 => ?_)
        obtain ⟨hW42, kq43, ⟨m45, bm46, e44⟩, x47⟩ := h39
        refine x_top e44 ?_
        have k48 : w41[0]? = some (ob (a 0) 11 [.ref (a 1), .ref (a 2), .ref (a 3), .ref (a 4), .int (nI n1), .int (nI n2), .int (nI n3), .int v8, .int v9, .int v10, .int (nI n4), .int (nI n5), .int (nI n6), .int (nI (cd.2.2.2.2.2)), .ref (a 5), .ref (a 6), .ref (a 7), .ref (a 8), .ref (a 9), .ref (a 10), .ref (a 11), .ref (a 12), .ref (a 13), .ref (a 14), .ref (a 15), .ref (a 16), .ref (a 17), .int (nI n7), .ref (a 18), .ref (a 19), .ref (a 20), .ref (a 21), .int v11, .int v12, .int v13, .int v14, .int (nI om), .int (nI pm), .ref (a 22), .ref (a 23), .ref (a 24), .ref (a 25), .ref (a 26), .ref (a 27), .ref (a 28), .ref (a 29), .ref (a 30), .int v15]) := keeps_at kq43 k30 (by first | decide | omega | (dsimp only; omega))
        have k49 : w41[1]? = some (iA E (a 1) 382 fn) := keeps_at kq43 k31 (by first | decide | omega | (dsimp only; omega))
        have k50 : w41[22]? = some (iA E (a 22) 12 (fun j => nI (og j))) := keeps_at kq43 k32 (by first | decide | omega | (dsimp only; omega))
        have k51 : w41[25]? = some (iA E (a 25) 1024 ps33) := keeps_at kq43 k34 (by first | decide | omega | (dsimp only; omega))
        have kp52 := keeps_tr kq9 kq43 (fun q hq => by first | omega | (dsimp only at *; omega))
        have hw53 : nI m45 = wvs cd fn og wk0 k := e44.symm.trans x47
        refine x_top hw53 ?_
        refine x_istore_n C (lv' := [(3, .int (wvs cd fn og wk0 k)), (0, .ref (a 0)), (1, .int (nI wk0)), (2, .int (nI k))]) dX12_laysSums_28 rfl (by decide) rfl rfl ?_
        refine x_iconst C (v := 0) dX12_laysSums_29 (by decide) rfl ?_
        refine x_istore C (lv' := [(4, .int 0), (3, .int (wvs cd fn og wk0 k)), (0, .ref (a 0)), (1, .int (nI wk0)), (2, .int (nI k))]) dX12_laysSums_30 (by decide) rfl rfl ?_
        have loop32 : ∀ (fu32 : Nat) (se : Nat) (wl32 : va_W), WX (okM E a cd) wl32 → p2 k - se < fu32 → se ≤ p2 k → (∃ S : Nat → Int32, wl32[25]? = some (iA E (a 25) 1024 S) ∧ PT S (wvs cd fn og wk0) k ∧ ∀ s, s < se → S (s + p2 k) = S s + wvs cd fn og wk0 k) → keeps ws wl32 (fun q => q = 16 ∨ q = 17 ∨ q = 25) → X E p l e (xRm 4 0 0) s m ([.ref (a 0), .int (nI wk0)] : List Value).toArray below meth c A 5 0 0 (MQ below (va_Qv (fun w => WX (okM E a cd) w ∧ keeps ws w (fun q => q = 16 ∨ q = 17 ∨ q = 25) ∧ (∃ S : Nat → Int32, w[25]? = some (iA E (a 25) 1024 S) ∧ PT S (wvs cd fn og wk0) om)) (xB E A) A) ([.ref (a 0), .int (nI wk0)] : List Value).toArray s 0 0 A) wl32 32 [(0, .ref (a 0)), (1, .int (nI wk0)), (2, .int (nI k)), (3, .int (wvs cd fn og wk0 k)), (4, .int (nI se))] [] := by
          intro fu32
          induction fu32 with
          | zero => intro se wl32 _ q; omega
          | succ fu32 ih32 =>
            intro se wl32 hWl32 me32 iv32_0 iv32_1 kq32
            have k54 : wl32[0]? = some (ob (a 0) 11 [.ref (a 1), .ref (a 2), .ref (a 3), .ref (a 4), .int (nI n1), .int (nI n2), .int (nI n3), .int v8, .int v9, .int v10, .int (nI n4), .int (nI n5), .int (nI n6), .int (nI (cd.2.2.2.2.2)), .ref (a 5), .ref (a 6), .ref (a 7), .ref (a 8), .ref (a 9), .ref (a 10), .ref (a 11), .ref (a 12), .ref (a 13), .ref (a 14), .ref (a 15), .ref (a 16), .ref (a 17), .int (nI n7), .ref (a 18), .ref (a 19), .ref (a 20), .ref (a 21), .int v11, .int v12, .int v13, .int v14, .int (nI om), .int (nI pm), .ref (a 22), .ref (a 23), .ref (a 24), .ref (a 25), .ref (a 26), .ref (a 27), .ref (a 28), .ref (a 29), .ref (a 30), .int v15]) := keeps_at kq32 k19 (by first | decide | omega | (dsimp only; omega))
            have k55 : wl32[1]? = some (iA E (a 1) 382 fn) := keeps_at kq32 hfn (by first | decide | omega | (dsimp only; omega))
            have k56 : wl32[22]? = some (iA E (a 22) 12 (fun j => nI (og j))) := keeps_at kq32 hog (by first | decide | omega | (dsimp only; omega))
            obtain ⟨ps57, k58, hPTps57, hrowps57⟩ := iv32_1
            refine x_iload C dX12_laysSums_32 4 rfl rfl ?_
            refine x_iconst C (v := 1) dX12_laysSums_34 (by decide) rfl ?_
            refine x_iload_n C dX12_laysSums_35 rfl 2 rfl rfl ?_
            refine x_ishl C (v := (nI (p2 k))) dX12_laysSums_36 (shp (by omega)) rfl ?_
            refine x_icmp_ge C (tgt := 66) dX12_laysSums_37 (by decide) rfl (fun c59 => ?_) (fun c59 => ?_)
            · skip
              have nf60 := nI_le' (a := (p2 k)) (b := se) c59 (by omega) (by omega)
              refine x_iinc C (v := (nI (k + 1))) (lv' := [(2, .int (nI (k + 1))), (0, .ref (a 0)), (1, .int (nI wk0)), (3, .int (wvs cd fn og wk0 k)), (4, .int (nI se))]) dX12_laysSums_66 2 rfl (nI_add k 1) (by decide) rfl rfl ?_
              refine x_goto C (tgt := 9) dX12_laysSums_69 (by decide) ?_
              refine x_lv (lv1 := [(0, .ref (a 0)), (1, .int (nI wk0)), (2, .int (nI (k + 1)))]) [1, 2, 0] rfl ?_
              exact ih9 (k + 1) wl32 hWl32 (by omega) (by omega) ⟨_, k58, PT_succ hPTps57 (fun s9 h9 => hrowps57 s9 (by omega))⟩ kq32
            · skip
              have nf61 := nI_nle' (a := (p2 k)) (b := se) c59 (by omega) (by omega)
              refine x_aload_n C dX12_laysSums_40 rfl 0 rfl rfl ?_
              refine x_get C (ci := 11) (k := 41) 0 k54 rfl in_X12 (by decide) w_1159 rfl dX12_laysSums_41 rfl ?_
              refine x_iload C dX12_laysSums_44 4 rfl rfl ?_
              refine x_iconst C (v := 1) dX12_laysSums_46 (by decide) rfl ?_
              refine x_iload_n C dX12_laysSums_47 rfl 2 rfl rfl ?_
              refine x_ishl C (v := (nI (p2 k))) dX12_laysSums_48 (shp (by omega)) rfl ?_
              refine x_ior C (v := (nI (se + p2 k))) dX12_laysSums_49 (orp (by omega) (by omega)) rfl ?_
              refine x_aload_n C dX12_laysSums_50 rfl 0 rfl rfl ?_
              refine x_get C (ci := 11) (k := 41) 0 k54 rfl in_X12 (by decide) w_1159 rfl dX12_laysSums_51 rfl ?_
              refine x_iload C dX12_laysSums_54 4 rfl rfl ?_
              refine x_ialk C (v := (ps57 se)) se (nI_clamp (by omega)) (nI_pos (by omega)) (by omega) 25 k58 rfl dX12_laysSums_56 rfl ?_
              refine x_iload_n C dX12_laysSums_57 rfl 3 rfl rfl ?_
              refine x_iadd C (v := ((ps57 se) + (wvs cd fn og wk0 k))) dX12_laysSums_58 rfl rfl ?_
              obtain ⟨w62, hw63⟩ : ∃ w : va_W, w = List.set wl32 25 (iA E (a 25) 1024 (upd ps57 (se + p2 k) ((ps57 se) + (wvs cd fn og wk0 k)))) := ⟨_, rfl⟩
              refine x_iask C (se + p2 k) (nI_clamp (by omega)) (nI_pos (by omega)) (by omega) 25 k58 hw63.symm dX12_laysSums_59 rfl ?_
              have hW64 : WX (okM E a cd) w62 := by rw [hw63]; exact hWl32.set (k := 25) rfl ⟨_, rfl⟩
              have k65 : w62[0]? = some (ob (a 0) 11 [.ref (a 1), .ref (a 2), .ref (a 3), .ref (a 4), .int (nI n1), .int (nI n2), .int (nI n3), .int v8, .int v9, .int v10, .int (nI n4), .int (nI n5), .int (nI n6), .int (nI (cd.2.2.2.2.2)), .ref (a 5), .ref (a 6), .ref (a 7), .ref (a 8), .ref (a 9), .ref (a 10), .ref (a 11), .ref (a 12), .ref (a 13), .ref (a 14), .ref (a 15), .ref (a 16), .ref (a 17), .int (nI n7), .ref (a 18), .ref (a 19), .ref (a 20), .ref (a 21), .int v11, .int v12, .int v13, .int v14, .int (nI om), .int (nI pm), .ref (a 22), .ref (a 23), .ref (a 24), .ref (a 25), .ref (a 26), .ref (a 27), .ref (a 28), .ref (a 29), .ref (a 30), .int v15]) := by rw [hw63]; exact set_ne k54 (by decide)
              have k66 : w62[1]? = some (iA E (a 1) 382 fn) := by rw [hw63]; exact set_ne k55 (by decide)
              have k67 : w62[22]? = some (iA E (a 22) 12 (fun j => nI (og j))) := by rw [hw63]; exact set_ne k56 (by decide)
              have k68 : w62[25]? = some (iA E (a 25) 1024 (upd ps57 (se + p2 k) ((ps57 se) + (wvs cd fn og wk0 k)))) := by rw [hw63]; exact set_eq k58
              have kp69 := keeps_set kq32 hw63 (by first | exact rfl | decide | omega | (dsimp only; omega))
              refine x_iinc C (v := (nI (se + 1))) (lv' := [(4, .int (nI (se + 1))), (0, .ref (a 0)), (1, .int (nI wk0)), (2, .int (nI k)), (3, .int (wvs cd fn og wk0 k))]) dX12_laysSums_60 4 rfl (nI_add se 1) (by decide) rfl rfl ?_
              refine x_goto C (tgt := 32) dX12_laysSums_63 (by decide) ?_
              refine x_lv (lv1 := [(0, .ref (a 0)), (1, .int (nI wk0)), (2, .int (nI k)), (3, .int (wvs cd fn og wk0 k)), (4, .int (nI (se + 1)))]) [1, 2, 3, 4, 0] rfl ?_
              exact ih32 (se + 1) w62 hW64 (by omega) (by omega) ⟨_, k68, PT_far hPTps57 (by omega), PT_row hrowps57 (by omega)⟩ kp69
        refine x_lv (lv1 := [(0, .ref (a 0)), (1, .int (nI wk0)), (2, .int (nI k)), (3, .int (wvs cd fn og wk0 k)), (4, .int 0)]) [2, 3, 4, 1, 0] rfl ?_
        exact loop32 _ 0 w41 hW42 (Nat.lt_succ_self _) (by omega) ⟨_, k51, hPTps33, fun s9 h9 => absurd h9 (by omega)⟩ kp52
  refine x_lv (lv1 := [(0, .ref (a 0)), (1, .int (nI wk0)), (2, .int 0)]) [1, 2, 0] rfl ?_
  exact loop9 _ 0 w22 hW24 (Nat.lt_succ_self _) (by omega) ⟨_, k28, pk_us, fun j hj => absurd hj (by omega)⟩ kp29
theorem dX12_planBy_0 : decode cX12_planBy 0 = .ok (.aload_n 0, 1) := by decide +kernel
theorem dX12_planBy_1 : decode cX12_planBy 1 = .ok (.getfield 77, 3) := by decide +kernel
theorem dX12_planBy_4 : decode cX12_planBy 4 = .ok (.iload_n 1, 1) := by decide +kernel
theorem dX12_planBy_5 : decode cX12_planBy 5 = .ok (.iaload, 1) := by decide +kernel
theorem dX12_planBy_6 : decode cX12_planBy 6 = .ok (.istore 4, 2) := by decide +kernel
theorem dX12_planBy_8 : decode cX12_planBy 8 = .ok (.aload_n 0, 1) := by decide +kernel
theorem dX12_planBy_9 : decode cX12_planBy 9 = .ok (.getfield 7, 3) := by decide +kernel
theorem dX12_planBy_12 : decode cX12_planBy 12 = .ok (.sipush 346, 3) := by decide +kernel
theorem dX12_planBy_15 : decode cX12_planBy 15 = .ok (.iload 4, 2) := by decide +kernel
theorem dX12_planBy_17 : decode cX12_planBy 17 = .ok (.iadd, 1) := by decide +kernel
theorem dX12_planBy_18 : decode cX12_planBy 18 = .ok (.iaload, 1) := by decide +kernel
theorem dX12_planBy_19 : decode cX12_planBy 19 = .ok (.aload_n 0, 1) := by decide +kernel
theorem dX12_planBy_20 : decode cX12_planBy 20 = .ok (.getfield 83, 3) := by decide +kernel
theorem dX12_planBy_23 : decode cX12_planBy 23 = .ok (.iload_n 3, 1) := by decide +kernel
theorem dX12_planBy_24 : decode cX12_planBy 24 = .ok (.iaload, 1) := by decide +kernel
theorem dX12_planBy_25 : decode cX12_planBy 25 = .ok (.iadd, 1) := by decide +kernel
theorem dX12_planBy_26 : decode cX12_planBy 26 = .ok (.aload_n 0, 1) := by decide +kernel
theorem dX12_planBy_27 : decode cX12_planBy 27 = .ok (.getfield 7, 3) := by decide +kernel
theorem dX12_planBy_30 : decode cX12_planBy 30 = .ok (.sipush 338, 3) := by decide +kernel
theorem dX12_planBy_33 : decode cX12_planBy 33 = .ok (.iload 4, 2) := by decide +kernel
theorem dX12_planBy_35 : decode cX12_planBy 35 = .ok (.iadd, 1) := by decide +kernel
theorem dX12_planBy_36 : decode cX12_planBy 36 = .ok (.iaload, 1) := by decide +kernel
theorem dX12_planBy_37 : decode cX12_planBy 37 = .ok (.if_icmp .lt 17, 3) := by decide +kernel
theorem dX12_planBy_40 : decode cX12_planBy 40 = .ok (.aload_n 0, 1) := by decide +kernel
theorem dX12_planBy_41 : decode cX12_planBy 41 = .ok (.getfield 7, 3) := by decide +kernel
theorem dX12_planBy_44 : decode cX12_planBy 44 = .ok (.sipush 354, 3) := by decide +kernel
theorem dX12_planBy_47 : decode cX12_planBy 47 = .ok (.iload 4, 2) := by decide +kernel
theorem dX12_planBy_49 : decode cX12_planBy 49 = .ok (.iadd, 1) := by decide +kernel
theorem dX12_planBy_50 : decode cX12_planBy 50 = .ok (.iaload, 1) := by decide +kernel
theorem dX12_planBy_51 : decode cX12_planBy 51 = .ok (.goto 4, 3) := by decide +kernel
theorem dX12_planBy_54 : decode cX12_planBy 54 = .ok (.iconst 0, 1) := by decide +kernel
theorem dX12_planBy_55 : decode cX12_planBy 55 = .ok (.istore 5, 2) := by decide +kernel
theorem dX12_planBy_57 : decode cX12_planBy 57 = .ok (.bipush 64, 2) := by decide +kernel
theorem dX12_planBy_59 : decode cX12_planBy 59 = .ok (.iload 5, 2) := by decide +kernel
theorem dX12_planBy_61 : decode cX12_planBy 61 = .ok (.imul, 1) := by decide +kernel
theorem dX12_planBy_62 : decode cX12_planBy 62 = .ok (.iload_n 3, 1) := by decide +kernel
theorem dX12_planBy_63 : decode cX12_planBy 63 = .ok (.invokestatic 347, 3) := by decide +kernel
theorem dX12_planBy_66 : decode cX12_planBy 66 = .ok (.isub, 1) := by decide +kernel
theorem dX12_planBy_67 : decode cX12_planBy 67 = .ok (.aload_n 0, 1) := by decide +kernel
theorem dX12_planBy_68 : decode cX12_planBy 68 = .ok (.getfield 80, 3) := by decide +kernel
theorem dX12_planBy_71 : decode cX12_planBy 71 = .ok (.sipush 1024, 3) := by decide +kernel
theorem dX12_planBy_74 : decode cX12_planBy 74 = .ok (.iload_n 1, 1) := by decide +kernel
theorem dX12_planBy_75 : decode cX12_planBy 75 = .ok (.iconst 1, 1) := by decide +kernel
theorem dX12_planBy_76 : decode cX12_planBy 76 = .ok (.iadd, 1) := by decide +kernel
theorem dX12_planBy_77 : decode cX12_planBy 77 = .ok (.imul, 1) := by decide +kernel
theorem dX12_planBy_78 : decode cX12_planBy 78 = .ok (.iload_n 2, 1) := by decide +kernel
theorem dX12_planBy_79 : decode cX12_planBy 79 = .ok (.iload_n 3, 1) := by decide +kernel
theorem dX12_planBy_80 : decode cX12_planBy 80 = .ok (.iconst (-1), 1) := by decide +kernel
theorem dX12_planBy_81 : decode cX12_planBy 81 = .ok (.ixor, 1) := by decide +kernel
theorem dX12_planBy_82 : decode cX12_planBy 82 = .ok (.iand, 1) := by decide +kernel
theorem dX12_planBy_83 : decode cX12_planBy 83 = .ok (.iadd, 1) := by decide +kernel
theorem dX12_planBy_84 : decode cX12_planBy 84 = .ok (.iaload, 1) := by decide +kernel
theorem dX12_planBy_85 : decode cX12_planBy 85 = .ok (.iadd, 1) := by decide +kernel
theorem dX12_planBy_86 : decode cX12_planBy 86 = .ok (.ireturn, 1) := by decide +kernel
set_option maxRecDepth 20000 in
set_option maxHeartbeats 4000000 in
theorem m_planBy (E : xE) (l : Launch) (a : Nat → Nat) (cd : Cd) (hG : Good cd) (ws : va_W) (hW : WX (okM E a cd) ws) (w0 : Nat) (l0 : Nat) (s0 : Nat) (hw0 : w0 ≤ 3) (hl0 : l0 < 1024) (hs0 : s0 < 1024) (fn : Nat → Int32) (hfn : ws[1]? = some (iA E (a 1) 382 fn)) (pw : Nat → Nat) (hpb : ∀ j, pw j ≤ 7) (hpw : ws[23]? = some (iA E (a 23) 4 (fun j => nI (pw j)))) (ps : Nat → Int32) (hps : ws[25]? = some (iA E (a 25) 1024 ps)) (pb : Nat → Int32) (hpbst : ws[24]? = some (iA E (a 24) 5120 pb)) : xI E l yX12_planBy cX12_planBy 6 (some .int) 1 [.ref (a 0), .int (nI w0), .int (nI l0), .int (nI s0)] ws (fun r w => w = ws ∧ (r = pB fn ps pb pw w0 l0 s0)) := by
  refine xI_start (lv := [(0, .ref (a 0)), (1, .int (nI w0)), (2, .int (nI l0)), (3, .int (nI s0))]) RX12 (by decide) rfl (Nat.le_of_ble_eq_true rfl) rfl (fun p e s m below meth c A C hr hlk => ?_)
  obtain ⟨_, kq1, fq, pfq, rfl⟩ := hW 1 _ rfl
  obtain rfl := iA_inj (hfn.symm.trans kq1)
  have hla := la_le (l := l0) (by omega) s0
  refine x_aload_n C dX12_planBy_0 rfl 0 rfl rfl ?_
  obtain ⟨_, k1, n2, n4, n6, v8, v9, v10, n11, n13, n15, n17, v19, v20, v21, v22, n23, n25, v27, bn3, bn5, bn7, bn12, bn14, bn16, bn18, bn24, bn26, zv28, rfl⟩ := hW 0 _ rfl
  refine x_get C (ci := 11) (k := 39) 0 k1 rfl in_X12 (by decide) w_1157 rfl dX12_planBy_1 rfl ?_
  refine x_iload_n C dX12_planBy_4 rfl 1 rfl rfl ?_
  refine x_ialk C (v := nI (pw w0)) w0 (nI_clamp (by omega)) (nI_pos (by omega)) (by omega) 23 hpw rfl dX12_planBy_5 rfl ?_
  have bx29 := hpb w0
  refine x_istore C (lv' := [(4, .int (nI (pw w0))), (0, .ref (a 0)), (1, .int (nI w0)), (2, .int (nI l0)), (3, .int (nI s0))]) dX12_planBy_6 (by decide) rfl rfl ?_
  refine x_aload_n C dX12_planBy_8 rfl 1 rfl rfl ?_
  refine x_get C (ci := 11) (k := 0) 0 k1 rfl in_X12 (by decide) w_1118 rfl dX12_planBy_9 rfl ?_
  refine x_sipush C (v := 346) dX12_planBy_12 (by decide) rfl ?_
  refine x_iload C dX12_planBy_15 0 rfl rfl ?_
  refine x_iadd C (v := (nI (346 + (pw w0)))) dX12_planBy_17 (nI_add 346 (pw w0)) rfl ?_
  refine x_ialk C (v := (fn (346 + (pw w0)))) (346 + (pw w0)) (nI_clamp (by omega)) (nI_pos (by omega)) (by omega) 1 hfn rfl dX12_planBy_18 rfl ?_
  refine x_aload_n C dX12_planBy_19 rfl 1 rfl rfl ?_
  refine x_get C (ci := 11) (k := 41) 0 k1 rfl in_X12 (by decide) w_1159 rfl dX12_planBy_20 rfl ?_
  refine x_iload_n C dX12_planBy_23 rfl 4 rfl rfl ?_
  refine x_ialk C (v := (ps s0)) s0 (nI_clamp (by omega)) (nI_pos (by omega)) (by omega) 25 hps rfl dX12_planBy_24 rfl ?_
  refine x_iadd C (v := ((fn (346 + (pw w0))) + (ps s0))) dX12_planBy_25 rfl rfl ?_
  refine x_aload_n C dX12_planBy_26 rfl 1 rfl rfl ?_
  refine x_get C (ci := 11) (k := 0) 0 k1 rfl in_X12 (by decide) w_1118 rfl dX12_planBy_27 rfl ?_
  refine x_sipush C (v := 338) dX12_planBy_30 (by decide) rfl ?_
  refine x_iload C dX12_planBy_33 0 rfl rfl ?_
  refine x_iadd C (v := (nI (338 + (pw w0)))) dX12_planBy_35 (nI_add 338 (pw w0)) rfl ?_
  refine x_ialk C (v := (fn (338 + (pw w0)))) (338 + (pw w0)) (nI_clamp (by omega)) (nI_pos (by omega)) (by omega) 1 hfn rfl dX12_planBy_36 rfl ?_
  refine x_icmp_lt C (tgt := 54) dX12_planBy_37 (by decide) rfl (fun c30 => ?_) (fun c30 => ?_)
  · skip
    refine x_iconst C (v := 0) dX12_planBy_54 (by decide) rfl ?_
    refine x_istore C (lv' := [(5, .int 0), (4, .int (nI (pw w0))), (0, .ref (a 0)), (1, .int (nI w0)), (2, .int (nI l0)), (3, .int (nI s0))]) dX12_planBy_55 (by decide) rfl rfl ?_
    refine x_bipush C (v := 64) dX12_planBy_57 (by decide) rfl ?_
    refine x_iload C dX12_planBy_59 0 rfl rfl ?_
    refine x_imul C (v := 0) dX12_planBy_61 (by decide) rfl ?_
    refine x_iload_n C dX12_planBy_62 rfl 5 rfl rfl ?_
    refine x_si C (As := [.int (nI s0)]) (rest := [.int 0]) (m_bits E l a cd hG ws hW ((nI s0))) mf_X12_bits w_1559 rfl rfl (Nat.le_of_ble_eq_true rfl) ⟨(Nat.le_of_ble_eq_true rfl), (Nat.le_of_ble_eq_true rfl)⟩ ⟨(Nat.le_of_ble_eq_true rfl), (Nat.le_of_ble_eq_true rfl)⟩ dX12_planBy_63 rfl (fun r32 w33 h31 => ?_)
    obtain ⟨hW34, x35⟩ := h31
    refine x_ws hW34 ?_
    refine x_isub C (v := ((0 : Int32) - r32)) dX12_planBy_66 rfl rfl ?_
    refine x_aload_n C dX12_planBy_67 rfl 2 rfl rfl ?_
    refine x_get C (ci := 11) (k := 40) 0 k1 rfl in_X12 (by decide) w_1158 rfl dX12_planBy_68 rfl ?_
    refine x_sipush C (v := 1024) dX12_planBy_71 (by decide) rfl ?_
    refine x_iload_n C dX12_planBy_74 rfl 3 rfl rfl ?_
    refine x_iconst C (v := 1) dX12_planBy_75 (by decide) rfl ?_
    refine x_iadd C (v := (nI (w0 + 1))) dX12_planBy_76 (nI_add w0 1) rfl ?_
    refine x_imul C (v := (nI (1024 * (w0 + 1)))) dX12_planBy_77 (pk_mul 1024 (w0 + 1)) rfl ?_
    refine x_iload_n C dX12_planBy_78 rfl 4 rfl rfl ?_
    refine x_iload_n C dX12_planBy_79 rfl 5 rfl rfl ?_
    refine x_iconst C (v := (-1)) dX12_planBy_80 (by decide) rfl ?_
    refine x_ixor C (v := ((nI s0) ^^^ ((-1) : Int32))) dX12_planBy_81 rfl rfl ?_
    refine x_iand C (v := (nI (la l0 s0))) dX12_planBy_82 (la_eq (by omega) s0) rfl ?_
    refine x_iadd C (v := (nI ((1024 * (w0 + 1)) + (la l0 s0)))) dX12_planBy_83 (nI_add (1024 * (w0 + 1)) (la l0 s0)) rfl ?_
    refine x_ialk C (v := (pb ((1024 * (w0 + 1)) + (la l0 s0)))) ((1024 * (w0 + 1)) + (la l0 s0)) (nI_clamp (by omega)) (nI_pos (by omega)) (by omega) 24 hpbst rfl dX12_planBy_84 rfl ?_
    refine x_iadd C (v := (((0 : Int32) - r32) + (pb ((1024 * (w0 + 1)) + (la l0 s0))))) dX12_planBy_85 rfl rfl ?_
    exact x_zret C hr hlk rfl dX12_planBy_86 ⟨rfl, (by rw [pB, if_pos c30, ← x35]; rfl)⟩
  · skip
    refine x_aload_n C dX12_planBy_40 rfl 1 rfl rfl ?_
    refine x_get C (ci := 11) (k := 0) 0 k1 rfl in_X12 (by decide) w_1118 rfl dX12_planBy_41 rfl ?_
    refine x_sipush C (v := 354) dX12_planBy_44 (by decide) rfl ?_
    refine x_iload C dX12_planBy_47 0 rfl rfl ?_
    refine x_iadd C (v := (nI (354 + (pw w0)))) dX12_planBy_49 (nI_add 354 (pw w0)) rfl ?_
    refine x_ialk C (v := (fn (354 + (pw w0)))) (354 + (pw w0)) (nI_clamp (by omega)) (nI_pos (by omega)) (by omega) 1 hfn rfl dX12_planBy_50 rfl ?_
    refine x_goto C (tgt := 55) dX12_planBy_51 (by decide) ?_
    refine x_istore C (lv' := [(5, .int (fn (354 + (pw w0)))), (4, .int (nI (pw w0))), (0, .ref (a 0)), (1, .int (nI w0)), (2, .int (nI l0)), (3, .int (nI s0))]) dX12_planBy_55 (by decide) rfl rfl ?_
    refine x_bipush C (v := 64) dX12_planBy_57 (by decide) rfl ?_
    refine x_iload C dX12_planBy_59 0 rfl rfl ?_
    refine x_imul C (v := ((64 : Int32) * (fn (354 + (pw w0))))) dX12_planBy_61 rfl rfl ?_
    refine x_iload_n C dX12_planBy_62 rfl 5 rfl rfl ?_
    refine x_si C (As := [.int (nI s0)]) (rest := [.int ((64 : Int32) * (fn (354 + (pw w0))))]) (m_bits E l a cd hG ws hW ((nI s0))) mf_X12_bits w_1559 rfl rfl (Nat.le_of_ble_eq_true rfl) ⟨(Nat.le_of_ble_eq_true rfl), (Nat.le_of_ble_eq_true rfl)⟩ ⟨(Nat.le_of_ble_eq_true rfl), (Nat.le_of_ble_eq_true rfl)⟩ dX12_planBy_63 rfl (fun r37 w38 h36 => ?_)
    obtain ⟨hW39, x40⟩ := h36
    refine x_ws hW39 ?_
    refine x_isub C (v := (((64 : Int32) * (fn (354 + (pw w0)))) - r37)) dX12_planBy_66 rfl rfl ?_
    refine x_aload_n C dX12_planBy_67 rfl 2 rfl rfl ?_
    refine x_get C (ci := 11) (k := 40) 0 k1 rfl in_X12 (by decide) w_1158 rfl dX12_planBy_68 rfl ?_
    refine x_sipush C (v := 1024) dX12_planBy_71 (by decide) rfl ?_
    refine x_iload_n C dX12_planBy_74 rfl 3 rfl rfl ?_
    refine x_iconst C (v := 1) dX12_planBy_75 (by decide) rfl ?_
    refine x_iadd C (v := (nI (w0 + 1))) dX12_planBy_76 (nI_add w0 1) rfl ?_
    refine x_imul C (v := (nI (1024 * (w0 + 1)))) dX12_planBy_77 (pk_mul 1024 (w0 + 1)) rfl ?_
    refine x_iload_n C dX12_planBy_78 rfl 4 rfl rfl ?_
    refine x_iload_n C dX12_planBy_79 rfl 5 rfl rfl ?_
    refine x_iconst C (v := (-1)) dX12_planBy_80 (by decide) rfl ?_
    refine x_ixor C (v := ((nI s0) ^^^ ((-1) : Int32))) dX12_planBy_81 rfl rfl ?_
    refine x_iand C (v := (nI (la l0 s0))) dX12_planBy_82 (la_eq (by omega) s0) rfl ?_
    refine x_iadd C (v := (nI ((1024 * (w0 + 1)) + (la l0 s0)))) dX12_planBy_83 (nI_add (1024 * (w0 + 1)) (la l0 s0)) rfl ?_
    refine x_ialk C (v := (pb ((1024 * (w0 + 1)) + (la l0 s0)))) ((1024 * (w0 + 1)) + (la l0 s0)) (nI_clamp (by omega)) (nI_pos (by omega)) (by omega) 24 hpbst rfl dX12_planBy_84 rfl ?_
    refine x_iadd C (v := ((((64 : Int32) * (fn (354 + (pw w0)))) - r37) + (pb ((1024 * (w0 + 1)) + (la l0 s0))))) dX12_planBy_85 rfl rfl ?_
    exact x_zret C hr hlk rfl dX12_planBy_86 ⟨rfl, (by rw [pB, if_neg c30, ← x40])⟩
set_option maxRecDepth 20000 in
set_option maxHeartbeats 4000000 in
theorem m_maxX (E : xE) (l : Launch) (a : Nat → Nat) (cd : Cd) (hG : Good cd) (ws : va_W) (hW : WX (okM E a cd) ws) (p0 : Int32) (p1 : Int32) : xI E l yX12_max cX12_max 2 (some .int) 0 [.int p0, .int p1] ws (fun r w => w = ws ∧ (r = p0 ∨ r = p1)) := by
  refine xI_start (lv := [(0, .int p0), (1, .int p1)]) RX12 (by decide) rfl (Nat.le_of_ble_eq_true rfl) rfl (fun p e s m below meth c A C hr hlk => ?_)
  refine x_iload_n C dX12_max_0 rfl 0 rfl rfl ?_
  refine x_iload_n C dX12_max_1 rfl 1 rfl rfl ?_
  refine x_icmp_le C (tgt := 9) dX12_max_2 (by decide) rfl (fun c1 => ?_) (fun c1 => ?_)
  · skip
    refine x_iload_n C dX12_max_9 rfl 1 rfl rfl ?_
    exact x_zret C hr hlk rfl dX12_max_10 ⟨rfl, (Or.inr rfl)⟩
  · skip
    refine x_iload_n C dX12_max_5 rfl 0 rfl rfl ?_
    refine x_goto C (tgt := 10) dX12_max_6 (by decide) ?_
    exact x_zret C hr hlk rfl dX12_max_10 ⟨rfl, (Or.inl rfl)⟩
theorem dX12_laysPlan_0 : decode cX12_laysPlan 0 = .ok (.aload_n 0, 1) := by decide +kernel
theorem dX12_laysPlan_1 : decode cX12_laysPlan 1 = .ok (.iconst 0, 1) := by decide +kernel
theorem dX12_laysPlan_2 : decode cX12_laysPlan 2 = .ok (.putfield 350, 3) := by decide +kernel
theorem dX12_laysPlan_5 : decode cX12_laysPlan 5 = .ok (.iconst 0, 1) := by decide +kernel
theorem dX12_laysPlan_6 : decode cX12_laysPlan 6 = .ok (.istore_n 2, 1) := by decide +kernel
theorem dX12_laysPlan_7 : decode cX12_laysPlan 7 = .ok (.iload_n 2, 1) := by decide +kernel
theorem dX12_laysPlan_8 : decode cX12_laysPlan 8 = .ok (.bipush 8, 2) := by decide +kernel
theorem dX12_laysPlan_10 : decode cX12_laysPlan 10 = .ok (.if_icmp .ge 40, 3) := by decide +kernel
theorem dX12_laysPlan_13 : decode cX12_laysPlan 13 = .ok (.iload_n 1, 1) := by decide +kernel
theorem dX12_laysPlan_14 : decode cX12_laysPlan 14 = .ok (.iload_n 2, 1) := by decide +kernel
theorem dX12_laysPlan_15 : decode cX12_laysPlan 15 = .ok (.invokestatic 101, 3) := by decide +kernel
theorem dX12_laysPlan_18 : decode cX12_laysPlan 18 = .ok (.ifCond .ne 6, 3) := by decide +kernel
theorem dX12_laysPlan_21 : decode cX12_laysPlan 21 = .ok (.goto 23, 3) := by decide +kernel
theorem dX12_laysPlan_24 : decode cX12_laysPlan 24 = .ok (.aload_n 0, 1) := by decide +kernel
theorem dX12_laysPlan_25 : decode cX12_laysPlan 25 = .ok (.getfield 77, 3) := by decide +kernel
theorem dX12_laysPlan_28 : decode cX12_laysPlan 28 = .ok (.aload_n 0, 1) := by decide +kernel
theorem dX12_laysPlan_29 : decode cX12_laysPlan 29 = .ok (.getfield 350, 3) := by decide +kernel
theorem dX12_laysPlan_32 : decode cX12_laysPlan 32 = .ok (.iload_n 2, 1) := by decide +kernel
theorem dX12_laysPlan_33 : decode cX12_laysPlan 33 = .ok (.iastore, 1) := by decide +kernel
theorem dX12_laysPlan_34 : decode cX12_laysPlan 34 = .ok (.aload_n 0, 1) := by decide +kernel
theorem dX12_laysPlan_35 : decode cX12_laysPlan 35 = .ok (.aload_n 0, 1) := by decide +kernel
theorem dX12_laysPlan_36 : decode cX12_laysPlan 36 = .ok (.getfield 350, 3) := by decide +kernel
theorem dX12_laysPlan_39 : decode cX12_laysPlan 39 = .ok (.iconst 1, 1) := by decide +kernel
theorem dX12_laysPlan_40 : decode cX12_laysPlan 40 = .ok (.iadd, 1) := by decide +kernel
theorem dX12_laysPlan_41 : decode cX12_laysPlan 41 = .ok (.putfield 350, 3) := by decide +kernel
theorem dX12_laysPlan_44 : decode cX12_laysPlan 44 = .ok (.iinc 2 1, 3) := by decide +kernel
theorem dX12_laysPlan_47 : decode cX12_laysPlan 47 = .ok (.goto (-40), 3) := by decide +kernel
theorem dX12_laysPlan_50 : decode cX12_laysPlan 50 = .ok (.iconst 0, 1) := by decide +kernel
theorem dX12_laysPlan_51 : decode cX12_laysPlan 51 = .ok (.istore_n 2, 1) := by decide +kernel
theorem dX12_laysPlan_52 : decode cX12_laysPlan 52 = .ok (.iload_n 2, 1) := by decide +kernel
theorem dX12_laysPlan_53 : decode cX12_laysPlan 53 = .ok (.iconst 1, 1) := by decide +kernel
theorem dX12_laysPlan_54 : decode cX12_laysPlan 54 = .ok (.aload_n 0, 1) := by decide +kernel
theorem dX12_laysPlan_55 : decode cX12_laysPlan 55 = .ok (.getfield 344, 3) := by decide +kernel
theorem dX12_laysPlan_58 : decode cX12_laysPlan 58 = .ok (.ishl, 1) := by decide +kernel
theorem dX12_laysPlan_59 : decode cX12_laysPlan 59 = .ok (.if_icmp .ge 25, 3) := by decide +kernel
theorem dX12_laysPlan_62 : decode cX12_laysPlan 62 = .ok (.aload_n 0, 1) := by decide +kernel
theorem dX12_laysPlan_63 : decode cX12_laysPlan 63 = .ok (.getfield 80, 3) := by decide +kernel
theorem dX12_laysPlan_66 : decode cX12_laysPlan 66 = .ok (.sipush 1024, 3) := by decide +kernel
theorem dX12_laysPlan_69 : decode cX12_laysPlan 69 = .ok (.aload_n 0, 1) := by decide +kernel
theorem dX12_laysPlan_70 : decode cX12_laysPlan 70 = .ok (.getfield 350, 3) := by decide +kernel
theorem dX12_laysPlan_73 : decode cX12_laysPlan 73 = .ok (.imul, 1) := by decide +kernel
theorem dX12_laysPlan_74 : decode cX12_laysPlan 74 = .ok (.iload_n 2, 1) := by decide +kernel
theorem dX12_laysPlan_75 : decode cX12_laysPlan 75 = .ok (.iadd, 1) := by decide +kernel
theorem dX12_laysPlan_76 : decode cX12_laysPlan 76 = .ok (.iconst 0, 1) := by decide +kernel
theorem dX12_laysPlan_77 : decode cX12_laysPlan 77 = .ok (.iastore, 1) := by decide +kernel
theorem dX12_laysPlan_78 : decode cX12_laysPlan 78 = .ok (.iinc 2 1, 3) := by decide +kernel
theorem dX12_laysPlan_81 : decode cX12_laysPlan 81 = .ok (.goto (-29), 3) := by decide +kernel
theorem dX12_laysPlan_84 : decode cX12_laysPlan 84 = .ok (.aload_n 0, 1) := by decide +kernel
theorem dX12_laysPlan_85 : decode cX12_laysPlan 85 = .ok (.getfield 350, 3) := by decide +kernel
theorem dX12_laysPlan_88 : decode cX12_laysPlan 88 = .ok (.iconst 1, 1) := by decide +kernel
theorem dX12_laysPlan_89 : decode cX12_laysPlan 89 = .ok (.isub, 1) := by decide +kernel
theorem dX12_laysPlan_90 : decode cX12_laysPlan 90 = .ok (.istore_n 2, 1) := by decide +kernel
theorem dX12_laysPlan_91 : decode cX12_laysPlan 91 = .ok (.iload_n 2, 1) := by decide +kernel
theorem dX12_laysPlan_92 : decode cX12_laysPlan 92 = .ok (.ifCond .lt 94, 3) := by decide +kernel
theorem dX12_laysPlan_95 : decode cX12_laysPlan 95 = .ok (.aload_n 0, 1) := by decide +kernel
theorem dX12_laysPlan_96 : decode cX12_laysPlan 96 = .ok (.aload_n 0, 1) := by decide +kernel
theorem dX12_laysPlan_97 : decode cX12_laysPlan 97 = .ok (.getfield 77, 3) := by decide +kernel
theorem dX12_laysPlan_100 : decode cX12_laysPlan 100 = .ok (.iload_n 2, 1) := by decide +kernel
theorem dX12_laysPlan_101 : decode cX12_laysPlan 101 = .ok (.iaload, 1) := by decide +kernel
theorem dX12_laysPlan_102 : decode cX12_laysPlan 102 = .ok (.invokevirtual 353, 3) := by decide +kernel
theorem dX12_laysPlan_105 : decode cX12_laysPlan 105 = .ok (.iconst 0, 1) := by decide +kernel
theorem dX12_laysPlan_106 : decode cX12_laysPlan 106 = .ok (.istore_n 3, 1) := by decide +kernel
theorem dX12_laysPlan_107 : decode cX12_laysPlan 107 = .ok (.iload_n 3, 1) := by decide +kernel
theorem dX12_laysPlan_108 : decode cX12_laysPlan 108 = .ok (.iconst 1, 1) := by decide +kernel
theorem dX12_laysPlan_109 : decode cX12_laysPlan 109 = .ok (.aload_n 0, 1) := by decide +kernel
theorem dX12_laysPlan_110 : decode cX12_laysPlan 110 = .ok (.getfield 344, 3) := by decide +kernel
theorem dX12_laysPlan_113 : decode cX12_laysPlan 113 = .ok (.ishl, 1) := by decide +kernel
theorem dX12_laysPlan_114 : decode cX12_laysPlan 114 = .ok (.if_icmp .ge 66, 3) := by decide +kernel
theorem dX12_laysPlan_117 : decode cX12_laysPlan 117 = .ok (.aload_n 0, 1) := by decide +kernel
theorem dX12_laysPlan_118 : decode cX12_laysPlan 118 = .ok (.iload_n 2, 1) := by decide +kernel
theorem dX12_laysPlan_119 : decode cX12_laysPlan 119 = .ok (.iload_n 3, 1) := by decide +kernel
theorem dX12_laysPlan_120 : decode cX12_laysPlan 120 = .ok (.iconst 0, 1) := by decide +kernel
theorem dX12_laysPlan_121 : decode cX12_laysPlan 121 = .ok (.invokevirtual 356, 3) := by decide +kernel
theorem dX12_laysPlan_124 : decode cX12_laysPlan 124 = .ok (.istore 4, 2) := by decide +kernel
theorem dX12_laysPlan_126 : decode cX12_laysPlan 126 = .ok (.iload_n 3, 1) := by decide +kernel
theorem dX12_laysPlan_127 : decode cX12_laysPlan 127 = .ok (.istore 5, 2) := by decide +kernel
theorem dX12_laysPlan_129 : decode cX12_laysPlan 129 = .ok (.iload 5, 2) := by decide +kernel
theorem dX12_laysPlan_131 : decode cX12_laysPlan 131 = .ok (.ifCond .le 29, 3) := by decide +kernel
theorem dX12_laysPlan_134 : decode cX12_laysPlan 134 = .ok (.iload 4, 2) := by decide +kernel
theorem dX12_laysPlan_136 : decode cX12_laysPlan 136 = .ok (.aload_n 0, 1) := by decide +kernel
theorem dX12_laysPlan_137 : decode cX12_laysPlan 137 = .ok (.iload_n 2, 1) := by decide +kernel
theorem dX12_laysPlan_138 : decode cX12_laysPlan 138 = .ok (.iload_n 3, 1) := by decide +kernel
theorem dX12_laysPlan_139 : decode cX12_laysPlan 139 = .ok (.iload 5, 2) := by decide +kernel
theorem dX12_laysPlan_141 : decode cX12_laysPlan 141 = .ok (.invokevirtual 356, 3) := by decide +kernel
theorem dX12_laysPlan_144 : decode cX12_laysPlan 144 = .ok (.invokestatic 359, 3) := by decide +kernel
theorem dX12_laysPlan_147 : decode cX12_laysPlan 147 = .ok (.istore 4, 2) := by decide +kernel
theorem dX12_laysPlan_149 : decode cX12_laysPlan 149 = .ok (.iload 5, 2) := by decide +kernel
theorem dX12_laysPlan_151 : decode cX12_laysPlan 151 = .ok (.iconst 1, 1) := by decide +kernel
theorem dX12_laysPlan_152 : decode cX12_laysPlan 152 = .ok (.isub, 1) := by decide +kernel
theorem dX12_laysPlan_153 : decode cX12_laysPlan 153 = .ok (.iload_n 3, 1) := by decide +kernel
theorem dX12_laysPlan_154 : decode cX12_laysPlan 154 = .ok (.iand, 1) := by decide +kernel
theorem dX12_laysPlan_155 : decode cX12_laysPlan 155 = .ok (.istore 5, 2) := by decide +kernel
theorem dX12_laysPlan_157 : decode cX12_laysPlan 157 = .ok (.goto (-28), 3) := by decide +kernel
theorem dX12_laysPlan_160 : decode cX12_laysPlan 160 = .ok (.aload_n 0, 1) := by decide +kernel
theorem dX12_laysPlan_161 : decode cX12_laysPlan 161 = .ok (.getfield 80, 3) := by decide +kernel
theorem dX12_laysPlan_164 : decode cX12_laysPlan 164 = .ok (.sipush 1024, 3) := by decide +kernel
theorem dX12_laysPlan_167 : decode cX12_laysPlan 167 = .ok (.iload_n 2, 1) := by decide +kernel
theorem dX12_laysPlan_168 : decode cX12_laysPlan 168 = .ok (.imul, 1) := by decide +kernel
theorem dX12_laysPlan_169 : decode cX12_laysPlan 169 = .ok (.iload_n 3, 1) := by decide +kernel
theorem dX12_laysPlan_170 : decode cX12_laysPlan 170 = .ok (.iadd, 1) := by decide +kernel
theorem dX12_laysPlan_171 : decode cX12_laysPlan 171 = .ok (.iload 4, 2) := by decide +kernel
theorem dX12_laysPlan_173 : decode cX12_laysPlan 173 = .ok (.iastore, 1) := by decide +kernel
theorem dX12_laysPlan_174 : decode cX12_laysPlan 174 = .ok (.iinc 3 1, 3) := by decide +kernel
theorem dX12_laysPlan_177 : decode cX12_laysPlan 177 = .ok (.goto (-70), 3) := by decide +kernel
theorem dX12_laysPlan_180 : decode cX12_laysPlan 180 = .ok (.iinc 2 (-1), 3) := by decide +kernel
theorem dX12_laysPlan_183 : decode cX12_laysPlan 183 = .ok (.goto (-92), 3) := by decide +kernel
theorem dX12_laysPlan_186 : decode cX12_laysPlan 186 = .ok (.return_, 1) := by decide +kernel
set_option maxRecDepth 20000 in
set_option maxHeartbeats 4000000 in
theorem m_laysPlan (E : xE) (l : Launch) (a : Nat → Nat) (cd : Cd) (hG : Good cd) (ws : va_W) (hW : WX (okM E a cd) ws) (wk : Nat) (hwk : wk ≤ 255 ∧ btn wk 8 ≤ 4) (fn : Nat → Int32) (hfn : ws[1]? = some (iA E (a 1) 382 fn)) (om pm : Nat) (h0 : PO a cd ws om pm) (hom : om ≤ 10) (og : Nat → Nat) (hob : ∀ j, og j ≤ 47) (hog : ws[22]? = some (iA E (a 22) 12 (fun j => nI (og j)))) : xV E l yX12_laysPlan cX12_laysPlan 6 5 0 0 [.ref (a 0), .int (nI wk)] ws (fun w => WX (okM E a cd) w ∧ keeps ws w (fun q => q = 0 ∨ q = 16 ∨ q = 17 ∨ q = 23 ∨ q = 24 ∨ q = 25) ∧ (∃ (pm : Nat) (pw : Nat → Nat) (B : Nat → Int32), PO a cd w om pm ∧ (∀ j, pw j ≤ 7) ∧ w[23]? = some (iA E (a 23) 4 (fun j => nI (pw j))) ∧ w[24]? = some (iA E (a 24) 5120 B) ∧ bOk cd fn B og pw om 0 pm)) := by
  refine xV_start (lv := [(0, .ref (a 0)), (1, .int (nI wk))]) RX12 (by decide) rfl (Nat.le_of_ble_eq_true rfl) rfl (fun p e s m below meth c A C hr hlk hin => ?_)
  have kp0 : keeps ws ws (fun q => q = 0 ∨ q = 16 ∨ q = 17 ∨ q = 23 ∨ q = 24 ∨ q = 25) := keeps_rf
  obtain ⟨_, kq1, fq, pfq, rfl⟩ := hW 1 _ rfl
  obtain rfl := iA_inj (hfn.symm.trans kq1)
  obtain ⟨n1, n2, n3, n4, n5, n6, n7, v8, v9, v10, v11, v12, v13, v14, v15, bo16, bo17, zb18, k19⟩ := h0
  have hp2o := p2_10 (k := om) (by omega)
  have hp2p := p2_pos om
  refine x_aload_n C dX12_laysPlan_0 rfl 0 rfl rfl ?_
  refine x_iconst C (v := 0) dX12_laysPlan_1 (by decide) rfl ?_
  obtain ⟨w20, hw21⟩ : ∃ w : va_W, w = List.set ws 0 (ob (a 0) 11 [.ref (a 1), .ref (a 2), .ref (a 3), .ref (a 4), .int (nI n1), .int (nI n2), .int (nI n3), .int v8, .int v9, .int v10, .int (nI n4), .int (nI n5), .int (nI n6), .int (nI (cd.2.2.2.2.2)), .ref (a 5), .ref (a 6), .ref (a 7), .ref (a 8), .ref (a 9), .ref (a 10), .ref (a 11), .ref (a 12), .ref (a 13), .ref (a 14), .ref (a 15), .ref (a 16), .ref (a 17), .int (nI n7), .ref (a 18), .ref (a 19), .ref (a 20), .ref (a 21), .int v11, .int v12, .int v13, .int v14, .int (nI om), .int 0, .ref (a 22), .ref (a 23), .ref (a 24), .ref (a 25), .ref (a 26), .ref (a 27), .ref (a 28), .ref (a 29), .ref (a 30), .int v15]) := ⟨_, rfl⟩
  refine x_put C (ci := 11) (k := 37) (ty := .int) 0 k19 rfl in_X12 tyX12 tyX12_ok nmX12 (by decide) w_1155 rfl rfl rfl rfl (Nat.le_of_ble_eq_true rfl) hw21.symm dX12_laysPlan_2 rfl ?_
  have hW22 : WX (okM E a cd) w20 := by rw [hw21]; exact hW.set (k := 0) rfl ⟨n1, n2, n3, v8, v9, v10, n4, n5, n6, n7, v11, v12, v13, v14, om, 0, v15, by omega, by omega, by omega, by omega, by omega, by omega, by omega, by omega, by omega, zb18, rfl⟩
  have k23 : w20[1]? = some (iA E (a 1) 382 fn) := by rw [hw21]; exact set_ne hfn (by decide)
  have k24 : w20[0]? = some (ob (a 0) 11 [.ref (a 1), .ref (a 2), .ref (a 3), .ref (a 4), .int (nI n1), .int (nI n2), .int (nI n3), .int v8, .int v9, .int v10, .int (nI n4), .int (nI n5), .int (nI n6), .int (nI (cd.2.2.2.2.2)), .ref (a 5), .ref (a 6), .ref (a 7), .ref (a 8), .ref (a 9), .ref (a 10), .ref (a 11), .ref (a 12), .ref (a 13), .ref (a 14), .ref (a 15), .ref (a 16), .ref (a 17), .int (nI n7), .ref (a 18), .ref (a 19), .ref (a 20), .ref (a 21), .int v11, .int v12, .int v13, .int v14, .int (nI om), .int 0, .ref (a 22), .ref (a 23), .ref (a 24), .ref (a 25), .ref (a 26), .ref (a 27), .ref (a 28), .ref (a 29), .ref (a 30), .int v15]) := by rw [hw21]; exact set_eq k19
  have k25 : w20[22]? = some (iA E (a 22) 12 (fun j => nI (og j))) := by rw [hw21]; exact set_ne hog (by decide)
  have kp26 := keeps_set kp0 hw21 (by first | exact rfl | decide | omega | (dsimp only; omega))
  refine x_iconst C (v := 0) dX12_laysPlan_5 (by decide) rfl ?_
  refine x_istore_n C (lv' := [(2, .int 0), (0, .ref (a 0)), (1, .int (nI wk))]) dX12_laysPlan_6 rfl (by decide) rfl rfl ?_
  have loop7 : ∀ (fu7 : Nat) (i : Nat) (wl7 : va_W), WX (okM E a cd) wl7 → 8 - i < fu7 → i ≤ 8 → PO a cd wl7 om (btn wk i) → keeps ws wl7 (fun q => q = 0 ∨ q = 16 ∨ q = 17 ∨ q = 23 ∨ q = 24 ∨ q = 25) → X E p l e (xRm 5 0 0) s m ([.ref (a 0), .int (nI wk)] : List Value).toArray below meth c A 6 0 0 (MQ below (va_Qv (fun w => WX (okM E a cd) w ∧ keeps ws w (fun q => q = 0 ∨ q = 16 ∨ q = 17 ∨ q = 23 ∨ q = 24 ∨ q = 25) ∧ (∃ (pm : Nat) (pw : Nat → Nat) (B : Nat → Int32), PO a cd w om pm ∧ (∀ j, pw j ≤ 7) ∧ w[23]? = some (iA E (a 23) 4 (fun j => nI (pw j))) ∧ w[24]? = some (iA E (a 24) 5120 B) ∧ bOk cd fn B og pw om 0 pm)) (xB E A) A) ([.ref (a 0), .int (nI wk)] : List Value).toArray s 0 0 A) wl7 7 [(0, .ref (a 0)), (1, .int (nI wk)), (2, .int (nI i))] [] := by
    intro fu7
    induction fu7 with
    | zero => intro i wl7 _ q; omega
    | succ fu7 ih7 =>
      intro i wl7 hWl7 me7 iv7_0 iv7_1 kq7
      have k27 : wl7[1]? = some (iA E (a 1) 382 fn) := keeps_at kq7 hfn (by first | decide | omega | (dsimp only; omega))
      have k28 : wl7[22]? = some (iA E (a 22) 12 (fun j => nI (og j))) := keeps_at kq7 hog (by first | decide | omega | (dsimp only; omega))
      obtain ⟨n29, n30, n31, n32, n33, n34, n35, v36, v37, v38, v39, v40, v41, v42, v43, bo44, bo45, zb46, k47⟩ := iv7_1
      refine x_iload_n C dX12_laysPlan_7 rfl 2 rfl rfl ?_
      refine x_bipush C (v := 8) dX12_laysPlan_8 (by decide) rfl ?_
      refine x_icmp_ge C (tgt := 50) dX12_laysPlan_10 (by decide) rfl (fun c48 => ?_) (fun c48 => ?_)
      · skip
        have nf49 := nI_le' (a := 8) (b := i) c48 (by omega) (by omega)
        have hi8 : i = 8 := by omega
        subst hi8
        refine x_iconst C (v := 0) dX12_laysPlan_50 (by decide) rfl ?_
        refine x_istore_n C (lv' := [(2, .int 0), (0, .ref (a 0)), (1, .int (nI wk))]) dX12_laysPlan_51 rfl (by decide) rfl rfl ?_
        have loop52 : ∀ (fu52 : Nat) (lq : Nat) (wl52 : va_W), WX (okM E a cd) wl52 → p2 om - lq < fu52 → lq ≤ p2 om → PO a cd wl52 om (btn wk 8) → keeps ws wl52 (fun q => q = 0 ∨ q = 16 ∨ q = 17 ∨ q = 23 ∨ q = 24 ∨ q = 25) → X E p l e (xRm 5 0 0) s m ([.ref (a 0), .int (nI wk)] : List Value).toArray below meth c A 6 0 0 (MQ below (va_Qv (fun w => WX (okM E a cd) w ∧ keeps ws w (fun q => q = 0 ∨ q = 16 ∨ q = 17 ∨ q = 23 ∨ q = 24 ∨ q = 25) ∧ (∃ (pm : Nat) (pw : Nat → Nat) (B : Nat → Int32), PO a cd w om pm ∧ (∀ j, pw j ≤ 7) ∧ w[23]? = some (iA E (a 23) 4 (fun j => nI (pw j))) ∧ w[24]? = some (iA E (a 24) 5120 B) ∧ bOk cd fn B og pw om 0 pm)) (xB E A) A) ([.ref (a 0), .int (nI wk)] : List Value).toArray s 0 0 A) wl52 52 [(0, .ref (a 0)), (1, .int (nI wk)), (2, .int (nI lq))] [] := by
          intro fu52
          induction fu52 with
          | zero => intro lq wl52 _ q; omega
          | succ fu52 ih52 =>
            intro lq wl52 hWl52 me52 iv52_0 iv52_1 kq52
            have k50 : wl52[1]? = some (iA E (a 1) 382 fn) := keeps_at kq52 hfn (by first | decide | omega | (dsimp only; omega))
            have k51 : wl52[22]? = some (iA E (a 22) 12 (fun j => nI (og j))) := keeps_at kq52 hog (by first | decide | omega | (dsimp only; omega))
            obtain ⟨n52, n53, n54, n55, n56, n57, n58, v59, v60, v61, v62, v63, v64, v65, v66, bo67, bo68, zb69, k70⟩ := iv52_1
            refine x_iload_n C dX12_laysPlan_52 rfl 2 rfl rfl ?_
            refine x_iconst C (v := 1) dX12_laysPlan_53 (by decide) rfl ?_
            refine x_aload_n C dX12_laysPlan_54 rfl 0 rfl rfl ?_
            refine x_get C (ci := 11) (k := 36) 0 k70 rfl in_X12 (by decide) w_1154 rfl dX12_laysPlan_55 rfl ?_
            refine x_ishl C (v := (nI (p2 om))) dX12_laysPlan_58 (shp (by omega)) rfl ?_
            refine x_icmp_ge C (tgt := 84) dX12_laysPlan_59 (by decide) rfl (fun c71 => ?_) (fun c71 => ?_)
            · skip
              have nf72 := nI_le' (a := (p2 om)) (b := lq) c71 (by omega) (by omega)
              obtain ⟨_, k73, f74, rfl⟩ := hWl52 24 _ rfl
              obtain ⟨_, k75, g76, gb77, rfl⟩ := hWl52 23 _ rfl
              refine x_aload_n C dX12_laysPlan_84 rfl 0 rfl rfl ?_
              refine x_get C (ci := 11) (k := 37) 0 k70 rfl in_X12 (by decide) w_1155 rfl dX12_laysPlan_85 rfl ?_
              refine x_iconst C (v := 1) dX12_laysPlan_88 (by decide) rfl ?_
              by_cases hz78 : (btn wk 8) = 0
              · refine x_isub C (v := -1) dX12_laysPlan_89 (by rw [hz78]; decide) rfl ?_
                refine x_istore_n C (lv' := [(2, .int (-1)), (0, .ref (a 0)), (1, .int (nI wk))]) dX12_laysPlan_90 rfl (by decide) rfl rfl ?_
                refine x_iload_n C dX12_laysPlan_91 rfl 0 rfl rfl ?_
                refine x_if_lt C (tgt := 186) dX12_laysPlan_92 (by decide) rfl (fun _ => ?_) (fun h => absurd h (by decide))
                exact x_vret C hr hlk dX12_laysPlan_186 ⟨hWl52, kq52, ⟨btn wk 8, g76, f74, ⟨n52, n53, n54, n55, n56, n57, n58, v59, v60, v61, v62, v63, v64, v65, v66, ⟨by omega, by omega, by omega, by omega, by omega, by omega, by omega⟩, ⟨by omega, by omega⟩, zb69, k70⟩, gb77, k75, k73, (fun v9 h9 h8 => absurd h8 (by omega))⟩⟩
              · refine x_isub C (v := nI (((btn wk 8)) - 1)) dX12_laysPlan_89 (pk_sub (a := ((btn wk 8))) (b := 1) (by omega)) rfl ?_
                refine x_istore_n C (lv' := [(2, .int (nI (((btn wk 8)) - 1))), (0, .ref (a 0)), (1, .int (nI wk))]) dX12_laysPlan_90 rfl (by decide) rfl rfl ?_
                have loop91 : ∀ (fu91 : Nat) (wq : Nat) (wl91 : va_W), WX (okM E a cd) wl91 → wq < fu91 → wq < btn wk 8 → PO a cd wl91 om (btn wk 8) → wl91[23]? = some (iA E (a 23) 4 (fun j => nI (g76 j))) → (∃ B : Nat → Int32, wl91[24]? = some (iA E (a 24) 5120 B) ∧ bOk cd fn B og g76 om (wq + 1) (btn wk 8)) → keeps ws wl91 (fun q => q = 0 ∨ q = 16 ∨ q = 17 ∨ q = 23 ∨ q = 24 ∨ q = 25) → X E p l e (xRm 5 0 0) s m ([.ref (a 0), .int (nI wk)] : List Value).toArray below meth c A 6 0 0 (MQ below (va_Qv (fun w => WX (okM E a cd) w ∧ keeps ws w (fun q => q = 0 ∨ q = 16 ∨ q = 17 ∨ q = 23 ∨ q = 24 ∨ q = 25) ∧ (∃ (pm : Nat) (pw : Nat → Nat) (B : Nat → Int32), PO a cd w om pm ∧ (∀ j, pw j ≤ 7) ∧ w[23]? = some (iA E (a 23) 4 (fun j => nI (pw j))) ∧ w[24]? = some (iA E (a 24) 5120 B) ∧ bOk cd fn B og pw om 0 pm)) (xB E A) A) ([.ref (a 0), .int (nI wk)] : List Value).toArray s 0 0 A) wl91 91 [(0, .ref (a 0)), (1, .int (nI wk)), (2, .int (nI wq))] [] := by
                  intro fu91
                  induction fu91 with
                  | zero => intro wq wl91 _ q; omega
                  | succ fu91 ih91 =>
                    intro wq wl91 hWl91 me91 iv91_0 iv91_1 iv91_2 iv91_3 kq91
                    have k79 : wl91[1]? = some (iA E (a 1) 382 fn) := keeps_at kq91 hfn (by first | decide | omega | (dsimp only; omega))
                    have k80 : wl91[22]? = some (iA E (a 22) 12 (fun j => nI (og j))) := keeps_at kq91 hog (by first | decide | omega | (dsimp only; omega))
                    obtain ⟨n81, n82, n83, n84, n85, n86, n87, v88, v89, v90, v91, v92, v93, v94, v95, bo96, bo97, zb98, k99⟩ := iv91_1
                    obtain ⟨pb100, k101, hB102⟩ := iv91_3
                    refine x_iload_n C dX12_laysPlan_91 rfl 2 rfl rfl ?_
                    refine x_if_lt C (tgt := 186) dX12_laysPlan_92 (by decide) rfl (fun c103 => ?_) (fun c103 => ?_)
                    · skip
                      have nf104 := nI_lt' (a := wq) (b := 0) c103 (by omega) (by omega)
                      exact x_vret C hr hlk dX12_laysPlan_186 ⟨hWl91, kq91, ⟨btn wk 8, g76, pb100, ⟨n81, n82, n83, n84, n85, n86, n87, v88, v89, v90, v91, v92, v93, v94, v95, ⟨by omega, by omega, by omega, by omega, by omega, by omega, by omega⟩, ⟨by omega, by omega⟩, zb98, k99⟩, gb77, iv91_2, k101, (fun v9 h9 h8 => absurd h8 (by omega))⟩⟩
                    · skip
                      have nf105 := nI_nlt' (a := wq) (b := 0) c103 (by omega) (by omega)
                      refine x_aload_n C dX12_laysPlan_95 rfl 0 rfl rfl ?_
                      refine x_aload_n C dX12_laysPlan_96 rfl 0 rfl rfl ?_
                      refine x_get C (ci := 11) (k := 39) 0 k99 rfl in_X12 (by decide) w_1157 rfl dX12_laysPlan_97 rfl ?_
                      refine x_iload_n C dX12_laysPlan_100 rfl 2 rfl rfl ?_
                      refine x_ialk C (v := nI (g76 wq)) wq (nI_clamp (by omega)) (nI_pos (by omega)) (by omega) 23 iv91_2 rfl dX12_laysPlan_101 rfl ?_
                      have bx106 := gb77 wq
                      refine x_vv C (As := [.int (nI (g76 wq))]) (rest := []) (m_laysSums E l a cd hG wl91 hWl91 (g76 wq) fn k79 om ((btn wk 8)) ⟨n81, n82, n83, n84, n85, n86, n87, v88, v89, v90, v91, v92, v93, v94, v95, ⟨by omega, by omega, by omega, by omega, by omega, by omega, by omega⟩, ⟨by omega, by omega⟩, zb98, k99⟩ (by omega) og hob k80) mf_X12_laysSums w_1570 0 k99 rfl rfl rfl (Nat.le_of_ble_eq_true rfl) ⟨(Nat.le_of_ble_eq_true rfl), (Nat.le_of_ble_eq_true rfl)⟩ ⟨(Nat.le_of_ble_eq_true rfl), (Nat.le_of_ble_eq_true rfl)⟩ dX12_laysPlan_102 rfl (fun w109 h107 => ?_)
                      obtain ⟨hW110, kq111, x112⟩ := h107
                      have k113 : w109[1]? = some (iA E (a 1) 382 fn) := keeps_at kq111 k79 (by first | decide | omega | (dsimp only; omega))
                      have k114 : w109[22]? = some (iA E (a 22) 12 (fun j => nI (og j))) := keeps_at kq111 k80 (by first | decide | omega | (dsimp only; omega))
                      have k115 : w109[0]? = some (ob (a 0) 11 [.ref (a 1), .ref (a 2), .ref (a 3), .ref (a 4), .int (nI n81), .int (nI n82), .int (nI n83), .int v88, .int v89, .int v90, .int (nI n84), .int (nI n85), .int (nI n86), .int (nI (cd.2.2.2.2.2)), .ref (a 5), .ref (a 6), .ref (a 7), .ref (a 8), .ref (a 9), .ref (a 10), .ref (a 11), .ref (a 12), .ref (a 13), .ref (a 14), .ref (a 15), .ref (a 16), .ref (a 17), .int (nI n87), .ref (a 18), .ref (a 19), .ref (a 20), .ref (a 21), .int v91, .int v92, .int v93, .int v94, .int (nI om), .int (nI (btn wk 8)), .ref (a 22), .ref (a 23), .ref (a 24), .ref (a 25), .ref (a 26), .ref (a 27), .ref (a 28), .ref (a 29), .ref (a 30), .int v95]) := keeps_at kq111 k99 (by first | decide | omega | (dsimp only; omega))
                      have k116 : w109[23]? = some (iA E (a 23) 4 (fun j => nI (g76 j))) := keeps_at kq111 iv91_2 (by first | decide | omega | (dsimp only; omega))
                      have k117 : w109[24]? = some (iA E (a 24) 5120 pb100) := keeps_at kq111 k101 (by first | decide | omega | (dsimp only; omega))
                      have kp118 := keeps_tr kq91 kq111 (fun q hq => by first | omega | (dsimp only at *; omega))
                      obtain ⟨ps119, k120, hPTps119⟩ := x112
                      refine x_iconst C (v := 0) dX12_laysPlan_105 (by decide) rfl ?_
                      refine x_istore_n C (lv' := [(3, .int 0), (0, .ref (a 0)), (1, .int (nI wk)), (2, .int (nI wq))]) dX12_laysPlan_106 rfl (by decide) rfl rfl ?_
                      have loop107 : ∀ (fu107 : Nat) (lf : Nat) (wl107 : va_W), WX (okM E a cd) wl107 → p2 om - lf < fu107 → lf ≤ p2 om → PO a cd wl107 om (btn wk 8) → wl107[23]? = some (iA E (a 23) 4 (fun j => nI (g76 j))) → wl107[25]? = some (iA E (a 25) 1024 ps119) → (∃ B : Nat → Int32, wl107[24]? = some (iA E (a 24) 5120 B) ∧ bOk cd fn B og g76 om (wq + 1) (btn wk 8) ∧ ∀ j, j < lf → rOk cd fn B og g76 om wq j) → keeps ws wl107 (fun q => q = 0 ∨ q = 16 ∨ q = 17 ∨ q = 23 ∨ q = 24 ∨ q = 25) → X E p l e (xRm 5 0 0) s m ([.ref (a 0), .int (nI wk)] : List Value).toArray below meth c A 6 0 0 (MQ below (va_Qv (fun w => WX (okM E a cd) w ∧ keeps ws w (fun q => q = 0 ∨ q = 16 ∨ q = 17 ∨ q = 23 ∨ q = 24 ∨ q = 25) ∧ (∃ (pm : Nat) (pw : Nat → Nat) (B : Nat → Int32), PO a cd w om pm ∧ (∀ j, pw j ≤ 7) ∧ w[23]? = some (iA E (a 23) 4 (fun j => nI (pw j))) ∧ w[24]? = some (iA E (a 24) 5120 B) ∧ bOk cd fn B og pw om 0 pm)) (xB E A) A) ([.ref (a 0), .int (nI wk)] : List Value).toArray s 0 0 A) wl107 107 [(0, .ref (a 0)), (1, .int (nI wk)), (2, .int (nI wq)), (3, .int (nI lf))] [] := by
                        intro fu107
                        induction fu107 with
                        | zero => intro lf wl107 _ q; omega
                        | succ fu107 ih107 =>
                          intro lf wl107 hWl107 me107 iv107_0 iv107_1 iv107_2 iv107_3 iv107_4 kq107
                          have k121 : wl107[1]? = some (iA E (a 1) 382 fn) := keeps_at kq107 hfn (by first | decide | omega | (dsimp only; omega))
                          have k122 : wl107[22]? = some (iA E (a 22) 12 (fun j => nI (og j))) := keeps_at kq107 hog (by first | decide | omega | (dsimp only; omega))
                          obtain ⟨n123, n124, n125, n126, n127, n128, n129, v130, v131, v132, v133, v134, v135, v136, v137, bo138, bo139, zb140, k141⟩ := iv107_1
                          obtain ⟨pb142, k143, hB144, hR145⟩ := iv107_4
                          refine x_iload_n C dX12_laysPlan_107 rfl 3 rfl rfl ?_
                          refine x_iconst C (v := 1) dX12_laysPlan_108 (by decide) rfl ?_
                          refine x_aload_n C dX12_laysPlan_109 rfl 0 rfl rfl ?_
                          refine x_get C (ci := 11) (k := 36) 0 k141 rfl in_X12 (by decide) w_1154 rfl dX12_laysPlan_110 rfl ?_
                          refine x_ishl C (v := (nI (p2 om))) dX12_laysPlan_113 (shp (by omega)) rfl ?_
                          refine x_icmp_ge C (tgt := 180) dX12_laysPlan_114 (by decide) rfl (fun c146 => ?_) (fun c146 => ?_)
                          · skip
                            have nf147 := nI_le' (a := (p2 om)) (b := lf) c146 (by omega) (by omega)
                            have hrow148 := bOk_row hB144 (fun j9 h9 => hR145 j9 (by omega))
                            by_cases hz149 : wq = 0
                            · refine x_iinc C (v := -1) (lv' := [(2, .int (-1)), (0, .ref (a 0)), (1, .int (nI wk)), (3, .int (nI lf))]) dX12_laysPlan_180 2 rfl (by rw [hz149]; decide) (by decide) rfl rfl ?_
                              refine x_goto C (tgt := 91) dX12_laysPlan_183 (by decide) ?_
                              refine x_iload_n C dX12_laysPlan_91 rfl 0 rfl rfl ?_
                              refine x_if_lt C (tgt := 186) dX12_laysPlan_92 (by decide) rfl (fun _ => ?_) (fun h => absurd h (by decide))
                              exact x_vret C hr hlk dX12_laysPlan_186 ⟨hWl107, kq107, ⟨btn wk 8, g76, pb142, ⟨n123, n124, n125, n126, n127, n128, n129, v130, v131, v132, v133, v134, v135, v136, v137, ⟨by omega, by omega, by omega, by omega, by omega, by omega, by omega⟩, ⟨by omega, by omega⟩, zb140, k141⟩, gb77, iv107_2, k143, (fun v9 h9 h8 => hrow148 v9 (by omega) h8)⟩⟩
                            · refine x_iinc C (v := nI (wq - 1)) (lv' := [(2, .int (nI (wq - 1))), (0, .ref (a 0)), (1, .int (nI wk)), (3, .int (nI lf))]) dX12_laysPlan_180 2 rfl (dec_n (by omega)) (by decide) rfl rfl ?_
                              refine x_goto C (tgt := 91) dX12_laysPlan_183 (by decide) ?_
                              refine x_lv (lv1 := [(0, .ref (a 0)), (1, .int (nI wk)), (2, .int (nI (wq - 1)))]) [1, 2, 0] rfl ?_
                              exact ih91 (wq - 1) wl107 hWl107 (by omega) (by omega) ⟨n123, n124, n125, n126, n127, n128, n129, v130, v131, v132, v133, v134, v135, v136, v137, ⟨by omega, by omega, by omega, by omega, by omega, by omega, by omega⟩, ⟨by omega, by omega⟩, zb140, k141⟩ iv107_2 ⟨_, k143, (show wq - 1 + 1 = wq from by omega) ▸ hrow148⟩ kq107
                          · skip
                            have nf150 := nI_nle' (a := (p2 om)) (b := lf) c146 (by omega) (by omega)
                            refine x_aload_n C dX12_laysPlan_117 rfl 0 rfl rfl ?_
                            refine x_iload_n C dX12_laysPlan_118 rfl 2 rfl rfl ?_
                            refine x_iload_n C dX12_laysPlan_119 rfl 3 rfl rfl ?_
                            refine x_iconst C (v := 0) dX12_laysPlan_120 (by decide) rfl ?_
                            refine x_vi C (As := [.int (nI wq), .int (nI lf), .int 0]) (rest := []) (m_planBy E l a cd hG wl107 hWl107 wq lf 0 (by omega) (by omega) (by omega) fn k121 g76 gb77 iv107_2 ps119 iv107_3 pb142 k143) mf_X12_planBy w_1574 0 k141 rfl rfl rfl (Nat.le_of_ble_eq_true rfl) ⟨(Nat.le_of_ble_eq_true rfl), (Nat.le_of_ble_eq_true rfl)⟩ ⟨(Nat.le_of_ble_eq_true rfl), (Nat.le_of_ble_eq_true rfl)⟩ dX12_laysPlan_121 rfl (fun r152 w153 h151 => ?_)
                            obtain ⟨hW154, x155⟩ := h151
                            refine x_ws hW154 ?_
                            refine x_istore C (lv' := [(4, .int r152), (0, .ref (a 0)), (1, .int (nI wk)), (2, .int (nI wq)), (3, .int (nI lf))]) dX12_laysPlan_124 (by decide) rfl rfl ?_
                            refine x_iload_n C dX12_laysPlan_126 rfl 4 rfl rfl ?_
                            refine x_istore C (lv' := [(5, .int (nI lf)), (4, .int r152), (0, .ref (a 0)), (1, .int (nI wk)), (2, .int (nI wq)), (3, .int (nI lf))]) dX12_laysPlan_127 (by decide) rfl rfl ?_
                            have loop129 : ∀ (fu129 : Nat) (z129_4 : Int32) (se : Nat), True → se < fu129 → se ≤ lf → sub se lf → (∃ s : Nat, s ≤ lf ∧ sub s lf ∧ z129_4 = pB fn ps119 pb142 g76 wq lf s) → X E p l e (xRm 5 0 0) s m ([.ref (a 0), .int (nI wk)] : List Value).toArray below meth c A 6 0 0 (MQ below (va_Qv (fun w => WX (okM E a cd) w ∧ keeps ws w (fun q => q = 0 ∨ q = 16 ∨ q = 17 ∨ q = 23 ∨ q = 24 ∨ q = 25) ∧ (∃ (pm : Nat) (pw : Nat → Nat) (B : Nat → Int32), PO a cd w om pm ∧ (∀ j, pw j ≤ 7) ∧ w[23]? = some (iA E (a 23) 4 (fun j => nI (pw j))) ∧ w[24]? = some (iA E (a 24) 5120 B) ∧ bOk cd fn B og pw om 0 pm)) (xB E A) A) ([.ref (a 0), .int (nI wk)] : List Value).toArray s 0 0 A) wl107 129 [(0, .ref (a 0)), (1, .int (nI wk)), (2, .int (nI wq)), (3, .int (nI lf)), (4, .int z129_4), (5, .int (nI se))] [] := by
                              intro fu129
                              induction fu129 with
                              | zero => intro z129_4 se _ q; omega
                              | succ fu129 ih129 =>
                                intro z129_4 se _ me129 iv129_0 iv129_1 iv129_2
                                refine x_iload C dX12_laysPlan_129 5 rfl rfl ?_
                                refine x_if_le C (tgt := 160) dX12_laysPlan_131 (by decide) rfl (fun c156 => ?_) (fun c156 => ?_)
                                · skip
                                  have nf157 := nI_le' (a := se) (b := 0) c156 (by omega) (by omega)
                                  refine x_aload_n C dX12_laysPlan_160 rfl 0 rfl rfl ?_
                                  refine x_get C (ci := 11) (k := 40) 0 k141 rfl in_X12 (by decide) w_1158 rfl dX12_laysPlan_161 rfl ?_
                                  refine x_sipush C (v := 1024) dX12_laysPlan_164 (by decide) rfl ?_
                                  refine x_iload_n C dX12_laysPlan_167 rfl 2 rfl rfl ?_
                                  refine x_imul C (v := (nI (1024 * wq))) dX12_laysPlan_168 (pk_mul 1024 wq) rfl ?_
                                  refine x_iload_n C dX12_laysPlan_169 rfl 3 rfl rfl ?_
                                  refine x_iadd C (v := (nI ((1024 * wq) + lf))) dX12_laysPlan_170 (nI_add (1024 * wq) lf) rfl ?_
                                  refine x_iload C dX12_laysPlan_171 4 rfl rfl ?_
                                  obtain ⟨w158, hw159⟩ : ∃ w : va_W, w = List.set wl107 24 (iA E (a 24) 5120 (upd pb142 ((1024 * wq) + lf) z129_4)) := ⟨_, rfl⟩
                                  refine x_iask C ((1024 * wq) + lf) (nI_clamp (by omega)) (nI_pos (by omega)) (by omega) 24 k143 hw159.symm dX12_laysPlan_173 rfl ?_
                                  have hW160 : WX (okM E a cd) w158 := by rw [hw159]; exact hWl107.set (k := 24) rfl ⟨_, rfl⟩
                                  have k161 : w158[1]? = some (iA E (a 1) 382 fn) := by rw [hw159]; exact set_ne k121 (by decide)
                                  have k162 : w158[22]? = some (iA E (a 22) 12 (fun j => nI (og j))) := by rw [hw159]; exact set_ne k122 (by decide)
                                  have k163 : w158[0]? = some (ob (a 0) 11 [.ref (a 1), .ref (a 2), .ref (a 3), .ref (a 4), .int (nI n123), .int (nI n124), .int (nI n125), .int v130, .int v131, .int v132, .int (nI n126), .int (nI n127), .int (nI n128), .int (nI (cd.2.2.2.2.2)), .ref (a 5), .ref (a 6), .ref (a 7), .ref (a 8), .ref (a 9), .ref (a 10), .ref (a 11), .ref (a 12), .ref (a 13), .ref (a 14), .ref (a 15), .ref (a 16), .ref (a 17), .int (nI n129), .ref (a 18), .ref (a 19), .ref (a 20), .ref (a 21), .int v133, .int v134, .int v135, .int v136, .int (nI om), .int (nI (btn wk 8)), .ref (a 22), .ref (a 23), .ref (a 24), .ref (a 25), .ref (a 26), .ref (a 27), .ref (a 28), .ref (a 29), .ref (a 30), .int v137]) := by rw [hw159]; exact set_ne k141 (by decide)
                                  have k164 : w158[23]? = some (iA E (a 23) 4 (fun j => nI (g76 j))) := by rw [hw159]; exact set_ne iv107_2 (by decide)
                                  have k165 : w158[25]? = some (iA E (a 25) 1024 ps119) := by rw [hw159]; exact set_ne iv107_3 (by decide)
                                  have k166 : w158[24]? = some (iA E (a 24) 5120 (upd pb142 ((1024 * wq) + lf) z129_4)) := by rw [hw159]; exact set_eq k143
                                  have kp167 := keeps_set kq107 hw159 (by first | exact rfl | decide | omega | (dsimp only; omega))
                                  refine x_iinc C (v := (nI (lf + 1))) (lv' := [(3, .int (nI (lf + 1))), (0, .ref (a 0)), (1, .int (nI wk)), (2, .int (nI wq)), (4, .int z129_4), (5, .int (nI se))]) dX12_laysPlan_174 3 rfl (nI_add lf 1) (by decide) rfl rfl ?_
                                  refine x_goto C (tgt := 107) dX12_laysPlan_177 (by decide) ?_
                                  refine x_lv (lv1 := [(0, .ref (a 0)), (1, .int (nI wk)), (2, .int (nI wq)), (3, .int (nI (lf + 1)))]) [1, 2, 3, 0] rfl ?_
                                  exact ih107 (lf + 1) w158 hW160 (by omega) (by omega) ⟨n123, n124, n125, n126, n127, n128, n129, v130, v131, v132, v133, v134, v135, v136, v137, ⟨by omega, by omega, by omega, by omega, by omega, by omega, by omega⟩, ⟨by omega, by omega⟩, zb140, k163⟩ k164 k165 ⟨_, k166, bOk_far hB144 (by omega), row_step hR145 (by omega) (by omega) hPTps119 iv129_2⟩ kp167
                                · skip
                                  have nf168 := nI_nle' (a := se) (b := 0) c156 (by omega) (by omega)
                                  refine x_iload C dX12_laysPlan_134 4 rfl rfl ?_
                                  refine x_aload_n C dX12_laysPlan_136 rfl 0 rfl rfl ?_
                                  refine x_iload_n C dX12_laysPlan_137 rfl 2 rfl rfl ?_
                                  refine x_iload_n C dX12_laysPlan_138 rfl 3 rfl rfl ?_
                                  refine x_iload C dX12_laysPlan_139 5 rfl rfl ?_
                                  refine x_vi C (As := [.int (nI wq), .int (nI lf), .int (nI se)]) (rest := [.int z129_4]) (m_planBy E l a cd hG wl107 hWl107 wq lf se (by omega) (by omega) (by omega) fn k121 g76 gb77 iv107_2 ps119 iv107_3 pb142 k143) mf_X12_planBy w_1574 0 k141 rfl rfl rfl (Nat.le_of_ble_eq_true rfl) ⟨(Nat.le_of_ble_eq_true rfl), (Nat.le_of_ble_eq_true rfl)⟩ ⟨(Nat.le_of_ble_eq_true rfl), (Nat.le_of_ble_eq_true rfl)⟩ dX12_laysPlan_141 rfl (fun r170 w171 h169 => ?_)
                                  obtain ⟨hW172, x173⟩ := h169
                                  refine x_ws hW172 ?_
                                  refine x_si C (As := [.int z129_4, .int r170]) (rest := []) (m_maxX E l a cd hG wl107 hWl107 z129_4 r170) mf_X12_max w_1578 rfl rfl (Nat.le_of_ble_eq_true rfl) ⟨(Nat.le_of_ble_eq_true rfl), (Nat.le_of_ble_eq_true rfl)⟩ ⟨(Nat.le_of_ble_eq_true rfl), (Nat.le_of_ble_eq_true rfl)⟩ dX12_laysPlan_144 rfl (fun r175 w176 h174 => ?_)
                                  obtain ⟨hW177, x178⟩ := h174
                                  refine x_ws hW177 ?_
                                  refine x_istore C (lv' := [(4, .int r175), (0, .ref (a 0)), (1, .int (nI wk)), (2, .int (nI wq)), (3, .int (nI lf)), (5, .int (nI se))]) dX12_laysPlan_147 (by decide) rfl rfl ?_
                                  refine x_iload C dX12_laysPlan_149 5 rfl rfl ?_
                                  refine x_iconst C (v := 1) dX12_laysPlan_151 (by decide) rfl ?_
                                  refine x_isub C (v := (nI (se - 1))) dX12_laysPlan_152 (pk_sub (a := se) (b := 1) (by omega)) rfl ?_
                                  refine x_iload_n C dX12_laysPlan_153 rfl 4 rfl rfl ?_
                                  obtain ⟨z179, hz180, ez181⟩ := and_le (f := (se - 1)) (by omega) (nI lf)
                                  refine x_iand C (v := (nI z179)) dX12_laysPlan_154 ez181 rfl ?_
                                  refine x_istore C (lv' := [(5, .int (nI z179)), (4, .int r175), (0, .ref (a 0)), (1, .int (nI wk)), (2, .int (nI wq)), (3, .int (nI lf))]) dX12_laysPlan_155 (by decide) rfl rfl ?_
                                  refine x_goto C (tgt := 129) dX12_laysPlan_157 (by decide) ?_
                                  refine x_lv (lv1 := [(0, .ref (a 0)), (1, .int (nI wk)), (2, .int (nI wq)), (3, .int (nI lf)), (4, .int r175), (5, .int (nI z179))]) [2, 3, 4, 5, 1, 0] rfl ?_
                                  exact ih129 r175 z179 trivial (by omega) (by omega) (sub_and ez181) (Or.elim x178 (fun q => Exists.elim iv129_2 (fun s9 h9 => ⟨s9, h9.1, h9.2.1, q.trans h9.2.2⟩)) (fun q => ⟨se, by omega, iv129_1, q.trans x173⟩))
                            refine x_lv (lv1 := [(0, .ref (a 0)), (1, .int (nI wk)), (2, .int (nI wq)), (3, .int (nI lf)), (4, .int r152), (5, .int (nI lf))]) [2, 3, 4, 5, 1, 0] rfl ?_
                            exact loop129 _ r152 lf trivial (Nat.lt_succ_self _) (by omega) (sub_rfl _) ⟨0, by omega, sub_zero _, x155⟩
                      refine x_lv (lv1 := [(0, .ref (a 0)), (1, .int (nI wk)), (2, .int (nI wq)), (3, .int 0)]) [1, 2, 3, 0] rfl ?_
                      exact loop107 _ 0 w109 hW110 (Nat.lt_succ_self _) (by omega) ⟨n81, n82, n83, n84, n85, n86, n87, v88, v89, v90, v91, v92, v93, v94, v95, ⟨by omega, by omega, by omega, by omega, by omega, by omega, by omega⟩, ⟨by omega, by omega⟩, zb98, k115⟩ k116 k120 ⟨_, k117, hB102, fun j9 h9 => absurd h9 (by omega)⟩ kp118
                refine x_lv (lv1 := [(0, .ref (a 0)), (1, .int (nI wk)), (2, .int (nI (((btn wk 8)) - 1)))]) [1, 2, 0] rfl ?_
                exact loop91 _ (((btn wk 8)) - 1) wl52 hWl52 (Nat.lt_succ_self _) (by omega) ⟨n52, n53, n54, n55, n56, n57, n58, v59, v60, v61, v62, v63, v64, v65, v66, ⟨by omega, by omega, by omega, by omega, by omega, by omega, by omega⟩, ⟨by omega, by omega⟩, zb69, k70⟩ k75 ⟨_, k73, fun v9 h9 h8 => absurd h8 (by omega)⟩ kq52
            · skip
              have nf182 := nI_nle' (a := (p2 om)) (b := lq) c71 (by omega) (by omega)
              refine x_aload_n C dX12_laysPlan_62 rfl 0 rfl rfl ?_
              refine x_get C (ci := 11) (k := 40) 0 k70 rfl in_X12 (by decide) w_1158 rfl dX12_laysPlan_63 rfl ?_
              refine x_sipush C (v := 1024) dX12_laysPlan_66 (by decide) rfl ?_
              refine x_aload_n C dX12_laysPlan_69 rfl 0 rfl rfl ?_
              refine x_get C (ci := 11) (k := 37) 0 k70 rfl in_X12 (by decide) w_1155 rfl dX12_laysPlan_70 rfl ?_
              refine x_imul C (v := (nI (1024 * ((btn wk 8))))) dX12_laysPlan_73 (pk_mul 1024 ((btn wk 8))) rfl ?_
              refine x_iload_n C dX12_laysPlan_74 rfl 2 rfl rfl ?_
              refine x_iadd C (v := (nI ((1024 * ((btn wk 8))) + lq))) dX12_laysPlan_75 (nI_add (1024 * ((btn wk 8))) lq) rfl ?_
              refine x_iconst C (v := 0) dX12_laysPlan_76 (by decide) rfl ?_
              obtain ⟨_, k183, f184, rfl⟩ := hWl52 24 _ rfl
              obtain ⟨w185, hw186⟩ : ∃ w : va_W, w = List.set wl52 24 (iA E (a 24) 5120 (upd f184 ((1024 * ((btn wk 8))) + lq) (0 : Int32))) := ⟨_, rfl⟩
              refine x_iask C ((1024 * ((btn wk 8))) + lq) (nI_clamp (by omega)) (nI_pos (by omega)) (by omega) 24 k183 hw186.symm dX12_laysPlan_77 rfl ?_
              have hW187 : WX (okM E a cd) w185 := by rw [hw186]; exact hWl52.set (k := 24) rfl ⟨_, rfl⟩
              have k188 : w185[1]? = some (iA E (a 1) 382 fn) := by rw [hw186]; exact set_ne k50 (by decide)
              have k189 : w185[22]? = some (iA E (a 22) 12 (fun j => nI (og j))) := by rw [hw186]; exact set_ne k51 (by decide)
              have k190 : w185[0]? = some (ob (a 0) 11 [.ref (a 1), .ref (a 2), .ref (a 3), .ref (a 4), .int (nI n52), .int (nI n53), .int (nI n54), .int v59, .int v60, .int v61, .int (nI n55), .int (nI n56), .int (nI n57), .int (nI (cd.2.2.2.2.2)), .ref (a 5), .ref (a 6), .ref (a 7), .ref (a 8), .ref (a 9), .ref (a 10), .ref (a 11), .ref (a 12), .ref (a 13), .ref (a 14), .ref (a 15), .ref (a 16), .ref (a 17), .int (nI n58), .ref (a 18), .ref (a 19), .ref (a 20), .ref (a 21), .int v62, .int v63, .int v64, .int v65, .int (nI om), .int (nI (btn wk 8)), .ref (a 22), .ref (a 23), .ref (a 24), .ref (a 25), .ref (a 26), .ref (a 27), .ref (a 28), .ref (a 29), .ref (a 30), .int v66]) := by rw [hw186]; exact set_ne k70 (by decide)
              have k191 : w185[24]? = some (iA E (a 24) 5120 (upd f184 ((1024 * ((btn wk 8))) + lq) (0 : Int32))) := by rw [hw186]; exact set_eq k183
              have kp192 := keeps_set kq52 hw186 (by first | exact rfl | decide | omega | (dsimp only; omega))
              refine x_iinc C (v := (nI (lq + 1))) (lv' := [(2, .int (nI (lq + 1))), (0, .ref (a 0)), (1, .int (nI wk))]) dX12_laysPlan_78 2 rfl (nI_add lq 1) (by decide) rfl rfl ?_
              refine x_goto C (tgt := 52) dX12_laysPlan_81 (by decide) ?_
              refine x_lv (lv1 := [(0, .ref (a 0)), (1, .int (nI wk)), (2, .int (nI (lq + 1)))]) [1, 2, 0] rfl ?_
              exact ih52 (lq + 1) w185 hW187 (by omega) (by omega) ⟨n52, n53, n54, n55, n56, n57, n58, v59, v60, v61, v62, v63, v64, v65, v66, ⟨by omega, by omega, by omega, by omega, by omega, by omega, by omega⟩, ⟨by omega, by omega⟩, zb69, k190⟩ kp192
        refine x_lv (lv1 := [(0, .ref (a 0)), (1, .int (nI wk)), (2, .int 0)]) [1, 2, 0] rfl ?_
        exact loop52 _ 0 wl7 hWl7 (Nat.lt_succ_self _) (by omega) ⟨n29, n30, n31, n32, n33, n34, n35, v36, v37, v38, v39, v40, v41, v42, v43, ⟨by omega, by omega, by omega, by omega, by omega, by omega, by omega⟩, ⟨by omega, by omega⟩, zb46, k47⟩ kq7
      · skip
        have nf193 := nI_nle' (a := 8) (b := i) c48 (by omega) (by omega)
        have hbt := btn_i (w := wk) (i := i) (by omega) (by omega)
        refine x_iload_n C dX12_laysPlan_13 rfl 1 rfl rfl ?_
        refine x_iload_n C dX12_laysPlan_14 rfl 2 rfl rfl ?_
        refine x_si C (As := [.int (nI wk), .int (nI i)]) (rest := []) (m_has E l a cd hG wl7 hWl7 ((nI wk)) ((nI i))) mf_X12_has w_1274 rfl rfl (Nat.le_of_ble_eq_true rfl) ⟨(Nat.le_of_ble_eq_true rfl), (Nat.le_of_ble_eq_true rfl)⟩ ⟨(Nat.le_of_ble_eq_true rfl), (Nat.le_of_ble_eq_true rfl)⟩ dX12_laysPlan_15 rfl (fun r195 w196 h194 => ?_)
        obtain ⟨hW197, zb198, x199⟩ := h194
        refine x_ws hW197 ?_
        refine x_if_ne C (tgt := 24) dX12_laysPlan_18 (by decide) rfl (fun c200 => ?_) (fun c200 => ?_)
        · skip
          have hbi201 : btn wk (i + 1) = btn wk i + 1 ∧ btn wk (i + 1) ≤ btn wk 8 := by rcases hbt with q | q; exact q.2; exact absurd (x199.mp c200) q.1
          refine x_aload_n C dX12_laysPlan_24 rfl 0 rfl rfl ?_
          refine x_get C (ci := 11) (k := 39) 0 k47 rfl in_X12 (by decide) w_1157 rfl dX12_laysPlan_25 rfl ?_
          refine x_aload_n C dX12_laysPlan_28 rfl 0 rfl rfl ?_
          refine x_get C (ci := 11) (k := 37) 0 k47 rfl in_X12 (by decide) w_1155 rfl dX12_laysPlan_29 rfl ?_
          refine x_iload_n C dX12_laysPlan_32 rfl 2 rfl rfl ?_
          obtain ⟨_, k202, g203, gb204, rfl⟩ := hWl7 23 _ rfl
          have gb205 := updn_le (i := ((btn wk i))) (v := i) gb204 (by omega)
          obtain ⟨w206, hw207⟩ : ∃ w : va_W, w = List.set wl7 23 (iA E (a 23) 4 (upd (fun j => nI (g203 j)) ((btn wk i)) (nI i))) := ⟨_, rfl⟩
          refine x_iask C ((btn wk i)) (nI_clamp (by omega)) (nI_pos (by omega)) (by omega) 23 k202 hw207.symm dX12_laysPlan_33 rfl ?_
          have hW208 : WX (okM E a cd) w206 := by rw [hw207]; exact hWl7.set (k := 23) rfl ⟨_, gb205, iA_n (upd_nI g203 ((btn wk i)) i)⟩
          have k209 : w206[1]? = some (iA E (a 1) 382 fn) := by rw [hw207]; exact set_ne k27 (by decide)
          have k210 : w206[22]? = some (iA E (a 22) 12 (fun j => nI (og j))) := by rw [hw207]; exact set_ne k28 (by decide)
          have k211 : w206[0]? = some (ob (a 0) 11 [.ref (a 1), .ref (a 2), .ref (a 3), .ref (a 4), .int (nI n29), .int (nI n30), .int (nI n31), .int v36, .int v37, .int v38, .int (nI n32), .int (nI n33), .int (nI n34), .int (nI (cd.2.2.2.2.2)), .ref (a 5), .ref (a 6), .ref (a 7), .ref (a 8), .ref (a 9), .ref (a 10), .ref (a 11), .ref (a 12), .ref (a 13), .ref (a 14), .ref (a 15), .ref (a 16), .ref (a 17), .int (nI n35), .ref (a 18), .ref (a 19), .ref (a 20), .ref (a 21), .int v39, .int v40, .int v41, .int v42, .int (nI om), .int (nI (btn wk i)), .ref (a 22), .ref (a 23), .ref (a 24), .ref (a 25), .ref (a 26), .ref (a 27), .ref (a 28), .ref (a 29), .ref (a 30), .int v43]) := by rw [hw207]; exact set_ne k47 (by decide)
          have k212 : w206[23]? = some (iA E (a 23) 4 (upd (fun j => nI (g203 j)) ((btn wk i)) (nI i))) := by rw [hw207]; exact set_eq k202
          have kp213 := keeps_set kq7 hw207 (by first | exact rfl | decide | omega | (dsimp only; omega))
          have k214 : w206[23]? = some (iA E (a 23) 4 (fun j => nI ((updn g203 ((btn wk i)) i) j))) := by rw [← upd_nI]; exact k212
          refine x_aload_n C dX12_laysPlan_34 rfl 0 rfl rfl ?_
          refine x_aload_n C dX12_laysPlan_35 rfl 0 rfl rfl ?_
          refine x_get C (ci := 11) (k := 37) 0 k211 rfl in_X12 (by decide) w_1155 rfl dX12_laysPlan_36 rfl ?_
          refine x_iconst C (v := 1) dX12_laysPlan_39 (by decide) rfl ?_
          refine x_iadd C (v := (nI (((btn wk i)) + 1))) dX12_laysPlan_40 (nI_add ((btn wk i)) 1) rfl ?_
          obtain ⟨w215, hw216⟩ : ∃ w : va_W, w = List.set w206 0 (ob (a 0) 11 [.ref (a 1), .ref (a 2), .ref (a 3), .ref (a 4), .int (nI n29), .int (nI n30), .int (nI n31), .int v36, .int v37, .int v38, .int (nI n32), .int (nI n33), .int (nI n34), .int (nI (cd.2.2.2.2.2)), .ref (a 5), .ref (a 6), .ref (a 7), .ref (a 8), .ref (a 9), .ref (a 10), .ref (a 11), .ref (a 12), .ref (a 13), .ref (a 14), .ref (a 15), .ref (a 16), .ref (a 17), .int (nI n35), .ref (a 18), .ref (a 19), .ref (a 20), .ref (a 21), .int v39, .int v40, .int v41, .int v42, .int (nI om), .int (nI (((btn wk i)) + 1)), .ref (a 22), .ref (a 23), .ref (a 24), .ref (a 25), .ref (a 26), .ref (a 27), .ref (a 28), .ref (a 29), .ref (a 30), .int v43]) := ⟨_, rfl⟩
          refine x_put C (ci := 11) (k := 37) (ty := .int) 0 k211 rfl in_X12 tyX12 tyX12_ok nmX12 (by decide) w_1155 rfl rfl rfl rfl (Nat.le_of_ble_eq_true rfl) hw216.symm dX12_laysPlan_41 rfl ?_
          have hW217 : WX (okM E a cd) w215 := by rw [hw216]; exact hW208.set (k := 0) rfl ⟨n29, n30, n31, v36, v37, v38, n32, n33, n34, n35, v39, v40, v41, v42, om, (((btn wk i)) + 1), v43, by omega, by omega, by omega, by omega, by omega, by omega, by omega, by omega, by omega, zb46, rfl⟩
          have k218 : w215[1]? = some (iA E (a 1) 382 fn) := by rw [hw216]; exact set_ne k209 (by decide)
          have k219 : w215[22]? = some (iA E (a 22) 12 (fun j => nI (og j))) := by rw [hw216]; exact set_ne k210 (by decide)
          have k220 : w215[0]? = some (ob (a 0) 11 [.ref (a 1), .ref (a 2), .ref (a 3), .ref (a 4), .int (nI n29), .int (nI n30), .int (nI n31), .int v36, .int v37, .int v38, .int (nI n32), .int (nI n33), .int (nI n34), .int (nI (cd.2.2.2.2.2)), .ref (a 5), .ref (a 6), .ref (a 7), .ref (a 8), .ref (a 9), .ref (a 10), .ref (a 11), .ref (a 12), .ref (a 13), .ref (a 14), .ref (a 15), .ref (a 16), .ref (a 17), .int (nI n35), .ref (a 18), .ref (a 19), .ref (a 20), .ref (a 21), .int v39, .int v40, .int v41, .int v42, .int (nI om), .int (nI (((btn wk i)) + 1)), .ref (a 22), .ref (a 23), .ref (a 24), .ref (a 25), .ref (a 26), .ref (a 27), .ref (a 28), .ref (a 29), .ref (a 30), .int v43]) := by rw [hw216]; exact set_eq k211
          have k221 : w215[23]? = some (iA E (a 23) 4 (fun j => nI ((updn g203 ((btn wk i)) i) j))) := by rw [hw216]; exact set_ne k214 (by decide)
          have kp222 := keeps_set kp213 hw216 (by first | exact rfl | decide | omega | (dsimp only; omega))
          refine x_iinc C (v := (nI (i + 1))) (lv' := [(2, .int (nI (i + 1))), (0, .ref (a 0)), (1, .int (nI wk))]) dX12_laysPlan_44 2 rfl (nI_add i 1) (by decide) rfl rfl ?_
          refine x_goto C (tgt := 7) dX12_laysPlan_47 (by decide) ?_
          refine x_lv (lv1 := [(0, .ref (a 0)), (1, .int (nI wk)), (2, .int (nI (i + 1)))]) [1, 2, 0] rfl ?_
          exact ih7 (i + 1) w215 hW217 (by omega) (by omega) (by rw [hbi201.1]; exact ⟨n29, n30, n31, n32, n33, n34, n35, v36, v37, v38, v39, v40, v41, v42, v43, ⟨by omega, by omega, by omega, by omega, by omega, by omega, by omega⟩, ⟨by omega, by omega⟩, zb46, k220⟩) kp222
        · skip
          have hbi223 : btn wk (i + 1) = btn wk i := by rcases hbt with q | q; exact absurd (x199.mpr q.1) (fun z => z c200); exact q.2.1
          refine x_goto C (tgt := 44) dX12_laysPlan_21 (by decide) ?_
          refine x_iinc C (v := (nI (i + 1))) (lv' := [(2, .int (nI (i + 1))), (0, .ref (a 0)), (1, .int (nI wk))]) dX12_laysPlan_44 2 rfl (nI_add i 1) (by decide) rfl rfl ?_
          refine x_goto C (tgt := 7) dX12_laysPlan_47 (by decide) ?_
          refine x_lv (lv1 := [(0, .ref (a 0)), (1, .int (nI wk)), (2, .int (nI (i + 1)))]) [1, 2, 0] rfl ?_
          exact ih7 (i + 1) wl7 hWl7 (by omega) (by omega) (by rw [hbi223]; exact ⟨n29, n30, n31, n32, n33, n34, n35, v36, v37, v38, v39, v40, v41, v42, v43, ⟨by omega, by omega, by omega, by omega, by omega, by omega, by omega⟩, ⟨by omega, by omega⟩, zb46, k47⟩) kq7
  refine x_lv (lv1 := [(0, .ref (a 0)), (1, .int (nI wk)), (2, .int 0)]) [1, 2, 0] rfl ?_
  exact loop7 _ 0 w20 hW22 (Nat.lt_succ_self _) (by omega) (by rw [show btn wk 0 = 0 from rfl]; exact ⟨n1, n2, n3, n4, n5, n6, n7, v8, v9, v10, v11, v12, v13, v14, v15, ⟨by omega, by omega, by omega, by omega, by omega, by omega, by omega⟩, ⟨by omega, by omega⟩, zb18, k24⟩) kp26
theorem dX12_planSet_0 : decode cX12_planSet 0 = .ok (.iconst 1, 1) := by decide +kernel
theorem dX12_planSet_1 : decode cX12_planSet 1 = .ok (.aload_n 0, 1) := by decide +kernel
theorem dX12_planSet_2 : decode cX12_planSet 2 = .ok (.getfield 344, 3) := by decide +kernel
theorem dX12_planSet_5 : decode cX12_planSet 5 = .ok (.ishl, 1) := by decide +kernel
theorem dX12_planSet_6 : decode cX12_planSet 6 = .ok (.iconst 1, 1) := by decide +kernel
theorem dX12_planSet_7 : decode cX12_planSet 7 = .ok (.isub, 1) := by decide +kernel
theorem dX12_planSet_8 : decode cX12_planSet 8 = .ok (.istore_n 2, 1) := by decide +kernel
theorem dX12_planSet_9 : decode cX12_planSet 9 = .ok (.iconst 0, 1) := by decide +kernel
theorem dX12_planSet_10 : decode cX12_planSet 10 = .ok (.istore_n 3, 1) := by decide +kernel
theorem dX12_planSet_11 : decode cX12_planSet 11 = .ok (.iconst 0, 1) := by decide +kernel
theorem dX12_planSet_12 : decode cX12_planSet 12 = .ok (.istore 4, 2) := by decide +kernel
theorem dX12_planSet_14 : decode cX12_planSet 14 = .ok (.iload 4, 2) := by decide +kernel
theorem dX12_planSet_16 : decode cX12_planSet 16 = .ok (.aload_n 0, 1) := by decide +kernel
theorem dX12_planSet_17 : decode cX12_planSet 17 = .ok (.getfield 350, 3) := by decide +kernel
theorem dX12_planSet_20 : decode cX12_planSet 20 = .ok (.if_icmp .ge 80, 3) := by decide +kernel
theorem dX12_planSet_23 : decode cX12_planSet 23 = .ok (.aload_n 0, 1) := by decide +kernel
theorem dX12_planSet_24 : decode cX12_planSet 24 = .ok (.aload_n 0, 1) := by decide +kernel
theorem dX12_planSet_25 : decode cX12_planSet 25 = .ok (.getfield 77, 3) := by decide +kernel
theorem dX12_planSet_28 : decode cX12_planSet 28 = .ok (.iload 4, 2) := by decide +kernel
theorem dX12_planSet_30 : decode cX12_planSet 30 = .ok (.iaload, 1) := by decide +kernel
theorem dX12_planSet_31 : decode cX12_planSet 31 = .ok (.invokevirtual 353, 3) := by decide +kernel
theorem dX12_planSet_34 : decode cX12_planSet 34 = .ok (.iconst 0, 1) := by decide +kernel
theorem dX12_planSet_35 : decode cX12_planSet 35 = .ok (.istore_n 3, 1) := by decide +kernel
theorem dX12_planSet_36 : decode cX12_planSet 36 = .ok (.iload_n 3, 1) := by decide +kernel
theorem dX12_planSet_37 : decode cX12_planSet 37 = .ok (.iload_n 2, 1) := by decide +kernel
theorem dX12_planSet_38 : decode cX12_planSet 38 = .ok (.iconst (-1), 1) := by decide +kernel
theorem dX12_planSet_39 : decode cX12_planSet 39 = .ok (.ixor, 1) := by decide +kernel
theorem dX12_planSet_40 : decode cX12_planSet 40 = .ok (.iand, 1) := by decide +kernel
theorem dX12_planSet_41 : decode cX12_planSet 41 = .ok (.ifCond .ne 27, 3) := by decide +kernel
theorem dX12_planSet_44 : decode cX12_planSet 44 = .ok (.aload_n 0, 1) := by decide +kernel
theorem dX12_planSet_45 : decode cX12_planSet 45 = .ok (.iload 4, 2) := by decide +kernel
theorem dX12_planSet_47 : decode cX12_planSet 47 = .ok (.iload_n 2, 1) := by decide +kernel
theorem dX12_planSet_48 : decode cX12_planSet 48 = .ok (.iload_n 3, 1) := by decide +kernel
theorem dX12_planSet_49 : decode cX12_planSet 49 = .ok (.invokevirtual 356, 3) := by decide +kernel
theorem dX12_planSet_52 : decode cX12_planSet 52 = .ok (.aload_n 0, 1) := by decide +kernel
theorem dX12_planSet_53 : decode cX12_planSet 53 = .ok (.getfield 80, 3) := by decide +kernel
theorem dX12_planSet_56 : decode cX12_planSet 56 = .ok (.sipush 1024, 3) := by decide +kernel
theorem dX12_planSet_59 : decode cX12_planSet 59 = .ok (.iload 4, 2) := by decide +kernel
theorem dX12_planSet_61 : decode cX12_planSet 61 = .ok (.imul, 1) := by decide +kernel
theorem dX12_planSet_62 : decode cX12_planSet 62 = .ok (.iload_n 2, 1) := by decide +kernel
theorem dX12_planSet_63 : decode cX12_planSet 63 = .ok (.iadd, 1) := by decide +kernel
theorem dX12_planSet_64 : decode cX12_planSet 64 = .ok (.iaload, 1) := by decide +kernel
theorem dX12_planSet_65 : decode cX12_planSet 65 = .ok (.if_icmp .eq 10, 3) := by decide +kernel
theorem dX12_planSet_68 : decode cX12_planSet 68 = .ok (.iload_n 3, 1) := by decide +kernel
theorem dX12_planSet_69 : decode cX12_planSet 69 = .ok (.iconst 1, 1) := by decide +kernel
theorem dX12_planSet_70 : decode cX12_planSet 70 = .ok (.iadd, 1) := by decide +kernel
theorem dX12_planSet_71 : decode cX12_planSet 71 = .ok (.istore_n 3, 1) := by decide +kernel
theorem dX12_planSet_72 : decode cX12_planSet 72 = .ok (.goto (-36), 3) := by decide +kernel
theorem dX12_planSet_75 : decode cX12_planSet 75 = .ok (.aload_n 0, 1) := by decide +kernel
theorem dX12_planSet_76 : decode cX12_planSet 76 = .ok (.getfield 77, 3) := by decide +kernel
theorem dX12_planSet_79 : decode cX12_planSet 79 = .ok (.iload 4, 2) := by decide +kernel
theorem dX12_planSet_81 : decode cX12_planSet 81 = .ok (.iaload, 1) := by decide +kernel
theorem dX12_planSet_82 : decode cX12_planSet 82 = .ok (.iload_n 1, 1) := by decide +kernel
theorem dX12_planSet_83 : decode cX12_planSet 83 = .ok (.if_icmp .ne 5, 3) := by decide +kernel
theorem dX12_planSet_86 : decode cX12_planSet 86 = .ok (.iload_n 3, 1) := by decide +kernel
theorem dX12_planSet_87 : decode cX12_planSet 87 = .ok (.ireturn, 1) := by decide +kernel
theorem dX12_planSet_88 : decode cX12_planSet 88 = .ok (.iload_n 2, 1) := by decide +kernel
theorem dX12_planSet_89 : decode cX12_planSet 89 = .ok (.iload_n 3, 1) := by decide +kernel
theorem dX12_planSet_90 : decode cX12_planSet 90 = .ok (.iconst (-1), 1) := by decide +kernel
theorem dX12_planSet_91 : decode cX12_planSet 91 = .ok (.ixor, 1) := by decide +kernel
theorem dX12_planSet_92 : decode cX12_planSet 92 = .ok (.iand, 1) := by decide +kernel
theorem dX12_planSet_93 : decode cX12_planSet 93 = .ok (.istore_n 2, 1) := by decide +kernel
theorem dX12_planSet_94 : decode cX12_planSet 94 = .ok (.iinc 4 1, 3) := by decide +kernel
theorem dX12_planSet_97 : decode cX12_planSet 97 = .ok (.goto (-83), 3) := by decide +kernel
theorem dX12_planSet_100 : decode cX12_planSet 100 = .ok (.iload_n 3, 1) := by decide +kernel
theorem dX12_planSet_101 : decode cX12_planSet 101 = .ok (.ireturn, 1) := by decide +kernel
set_option maxRecDepth 20000 in
set_option maxHeartbeats 4000000 in
theorem m_planSet (E : xE) (l : Launch) (a : Nat → Nat) (cd : Cd) (hG : Good cd) (ws : va_W) (hW : WX (okM E a cd) ws) (p0 : Int32) (fn : Nat → Int32) (hfn : ws[1]? = some (iA E (a 1) 382 fn)) (om pm : Nat) (h0 : PO a cd ws om pm) (hom : om ≤ 10) (og : Nat → Nat) (hob : ∀ j, og j ≤ 47) (hog : ws[22]? = some (iA E (a 22) 12 (fun j => nI (og j)))) (pw : Nat → Nat) (hpb : ∀ j, pw j ≤ 7) (hpw : ws[23]? = some (iA E (a 23) 4 (fun j => nI (pw j)))) (pb : Nat → Int32) (hpbst : ws[24]? = some (iA E (a 24) 5120 pb)) (hbok : bOk cd fn pb og pw om 0 pm) : xI E l yX12_planSet cX12_planSet 5 (some .int) 5 [.ref (a 0), .int p0] ws (fun r w => WX (okM E a cd) w ∧ keeps ws w (fun q => q = 16 ∨ q = 17 ∨ q = 25)) := by
  refine xI_start (lv := [(0, .ref (a 0)), (1, .int p0)]) RX12 (by decide) rfl (Nat.le_of_ble_eq_true rfl) rfl (fun p e s m below meth c A C hr hlk => ?_)
  have kp0 : keeps ws ws (fun q => q = 16 ∨ q = 17 ∨ q = 25) := keeps_rf
  obtain ⟨_, kq1, fq, pfq, rfl⟩ := hW 1 _ rfl
  obtain rfl := iA_inj (hfn.symm.trans kq1)
  obtain ⟨n1, n2, n3, n4, n5, n6, n7, v8, v9, v10, v11, v12, v13, v14, v15, bo16, bo17, zb18, k19⟩ := h0
  have hp2o := p2_10 (k := om) (by omega)
  have hp2p := p2_pos om
  refine x_iconst C (v := 1) dX12_planSet_0 (by decide) rfl ?_
  refine x_aload_n C dX12_planSet_1 rfl 0 rfl rfl ?_
  refine x_get C (ci := 11) (k := 36) 0 k19 rfl in_X12 (by decide) w_1154 rfl dX12_planSet_2 rfl ?_
  refine x_ishl C (v := (nI (p2 om))) dX12_planSet_5 (shp (by omega)) rfl ?_
  refine x_iconst C (v := 1) dX12_planSet_6 (by decide) rfl ?_
  refine x_isub C (v := (nI ((p2 om) - 1))) dX12_planSet_7 (pk_sub (a := (p2 om)) (b := 1) (by omega)) rfl ?_
  refine x_istore_n C (lv' := [(2, .int (nI ((p2 om) - 1))), (0, .ref (a 0)), (1, .int p0)]) dX12_planSet_8 rfl (by decide) rfl rfl ?_
  refine x_iconst C (v := 0) dX12_planSet_9 (by decide) rfl ?_
  refine x_istore_n C (lv' := [(3, .int 0), (2, .int (nI ((p2 om) - 1))), (0, .ref (a 0)), (1, .int p0)]) dX12_planSet_10 rfl (by decide) rfl rfl ?_
  refine x_iconst C (v := 0) dX12_planSet_11 (by decide) rfl ?_
  refine x_istore C (lv' := [(4, .int 0), (3, .int 0), (2, .int (nI ((p2 om) - 1))), (0, .ref (a 0)), (1, .int p0)]) dX12_planSet_12 (by decide) rfl rfl ?_
  have loop14 : ∀ (fu14 : Nat) (lf : Nat) (z14_3 : Int32) (wq : Nat) (wl14 : va_W), WX (okM E a cd) wl14 → pm - wq < fu14 → lf < p2 om → wq ≤ pm → keeps ws wl14 (fun q => q = 16 ∨ q = 17 ∨ q = 25) → X E p l e (xRm 5 0 0) s m ([.ref (a 0), .int p0] : List Value).toArray below meth c A 5 0 0 (MQ below (va_Qi (fun r w => WX (okM E a cd) w ∧ keeps ws w (fun q => q = 16 ∨ q = 17 ∨ q = 25)) (xB E A) A) ([.ref (a 0), .int p0] : List Value).toArray s 0 0 A) wl14 14 [(0, .ref (a 0)), (1, .int p0), (2, .int (nI lf)), (3, .int z14_3), (4, .int (nI wq))] [] := by
    intro fu14
    induction fu14 with
    | zero => intro lf z14_3 wq wl14 _ q; omega
    | succ fu14 ih14 =>
      intro lf z14_3 wq wl14 hWl14 me14 iv14_0 iv14_1 kq14
      have k20 : wl14[0]? = some (ob (a 0) 11 [.ref (a 1), .ref (a 2), .ref (a 3), .ref (a 4), .int (nI n1), .int (nI n2), .int (nI n3), .int v8, .int v9, .int v10, .int (nI n4), .int (nI n5), .int (nI n6), .int (nI (cd.2.2.2.2.2)), .ref (a 5), .ref (a 6), .ref (a 7), .ref (a 8), .ref (a 9), .ref (a 10), .ref (a 11), .ref (a 12), .ref (a 13), .ref (a 14), .ref (a 15), .ref (a 16), .ref (a 17), .int (nI n7), .ref (a 18), .ref (a 19), .ref (a 20), .ref (a 21), .int v11, .int v12, .int v13, .int v14, .int (nI om), .int (nI pm), .ref (a 22), .ref (a 23), .ref (a 24), .ref (a 25), .ref (a 26), .ref (a 27), .ref (a 28), .ref (a 29), .ref (a 30), .int v15]) := keeps_at kq14 k19 (by first | decide | omega | (dsimp only; omega))
      have k21 : wl14[1]? = some (iA E (a 1) 382 fn) := keeps_at kq14 hfn (by first | decide | omega | (dsimp only; omega))
      have k22 : wl14[22]? = some (iA E (a 22) 12 (fun j => nI (og j))) := keeps_at kq14 hog (by first | decide | omega | (dsimp only; omega))
      have k23 : wl14[23]? = some (iA E (a 23) 4 (fun j => nI (pw j))) := keeps_at kq14 hpw (by first | decide | omega | (dsimp only; omega))
      have k24 : wl14[24]? = some (iA E (a 24) 5120 pb) := keeps_at kq14 hpbst (by first | decide | omega | (dsimp only; omega))
      refine x_iload C dX12_planSet_14 4 rfl rfl ?_
      refine x_aload_n C dX12_planSet_16 rfl 0 rfl rfl ?_
      refine x_get C (ci := 11) (k := 37) 0 k20 rfl in_X12 (by decide) w_1155 rfl dX12_planSet_17 rfl ?_
      refine x_icmp_ge C (tgt := 100) dX12_planSet_20 (by decide) rfl (fun c25 => ?_) (fun c25 => ?_)
      · skip
        have nf26 := nI_le' (a := pm) (b := wq) c25 (by omega) (by omega)
        refine x_iload_n C dX12_planSet_100 rfl 3 rfl rfl ?_
        exact x_zret C hr hlk rfl dX12_planSet_101 ⟨hWl14, kq14⟩
      · skip
        have nf27 := nI_nle' (a := pm) (b := wq) c25 (by omega) (by omega)
        refine x_aload_n C dX12_planSet_23 rfl 0 rfl rfl ?_
        refine x_aload_n C dX12_planSet_24 rfl 0 rfl rfl ?_
        refine x_get C (ci := 11) (k := 39) 0 k20 rfl in_X12 (by decide) w_1157 rfl dX12_planSet_25 rfl ?_
        refine x_iload C dX12_planSet_28 4 rfl rfl ?_
        refine x_ialk C (v := nI (pw wq)) wq (nI_clamp (by omega)) (nI_pos (by omega)) (by omega) 23 k23 rfl dX12_planSet_30 rfl ?_
        have bx28 := hpb wq
        refine x_vv C (As := [.int (nI (pw wq))]) (rest := []) (m_laysSums E l a cd hG wl14 hWl14 (pw wq) fn k21 om pm ⟨n1, n2, n3, n4, n5, n6, n7, v8, v9, v10, v11, v12, v13, v14, v15, ⟨by omega, by omega, by omega, by omega, by omega, by omega, by omega⟩, ⟨by omega, by omega⟩, zb18, k20⟩ (by omega) og hob k22) mf_X12_laysSums w_1570 0 k20 rfl rfl rfl (Nat.le_of_ble_eq_true rfl) ⟨(Nat.le_of_ble_eq_true rfl), (Nat.le_of_ble_eq_true rfl)⟩ ⟨(Nat.le_of_ble_eq_true rfl), (Nat.le_of_ble_eq_true rfl)⟩ dX12_planSet_31 rfl (fun w31 h29 => ?_)
        obtain ⟨hW32, kq33, x34⟩ := h29
        have k35 : w31[0]? = some (ob (a 0) 11 [.ref (a 1), .ref (a 2), .ref (a 3), .ref (a 4), .int (nI n1), .int (nI n2), .int (nI n3), .int v8, .int v9, .int v10, .int (nI n4), .int (nI n5), .int (nI n6), .int (nI (cd.2.2.2.2.2)), .ref (a 5), .ref (a 6), .ref (a 7), .ref (a 8), .ref (a 9), .ref (a 10), .ref (a 11), .ref (a 12), .ref (a 13), .ref (a 14), .ref (a 15), .ref (a 16), .ref (a 17), .int (nI n7), .ref (a 18), .ref (a 19), .ref (a 20), .ref (a 21), .int v11, .int v12, .int v13, .int v14, .int (nI om), .int (nI pm), .ref (a 22), .ref (a 23), .ref (a 24), .ref (a 25), .ref (a 26), .ref (a 27), .ref (a 28), .ref (a 29), .ref (a 30), .int v15]) := keeps_at kq33 k20 (by first | decide | omega | (dsimp only; omega))
        have k36 : w31[1]? = some (iA E (a 1) 382 fn) := keeps_at kq33 k21 (by first | decide | omega | (dsimp only; omega))
        have k37 : w31[22]? = some (iA E (a 22) 12 (fun j => nI (og j))) := keeps_at kq33 k22 (by first | decide | omega | (dsimp only; omega))
        have k38 : w31[23]? = some (iA E (a 23) 4 (fun j => nI (pw j))) := keeps_at kq33 k23 (by first | decide | omega | (dsimp only; omega))
        have k39 : w31[24]? = some (iA E (a 24) 5120 pb) := keeps_at kq33 k24 (by first | decide | omega | (dsimp only; omega))
        have kp40 := keeps_tr kq14 kq33 (fun q hq => by first | omega | (dsimp only at *; omega))
        obtain ⟨ps41, k42, hPTps41⟩ := x34
        obtain ⟨sx, hsx1, hsx2, hsx3⟩ := hbok wq (by omega) (by omega) lf (by omega)
        have hsx4 := hsx3 ps41 hPTps41
        refine x_iconst C (v := 0) dX12_planSet_34 (by decide) rfl ?_
        refine x_istore_n C (lv' := [(3, .int 0), (0, .ref (a 0)), (1, .int p0), (2, .int (nI lf)), (4, .int (nI wq))]) dX12_planSet_35 rfl (by decide) rfl rfl ?_
        have loop36 : ∀ (fu36 : Nat) (se : Nat), True → sx - se < fu36 → se ≤ sx → X E p l e (xRm 5 0 0) s m ([.ref (a 0), .int p0] : List Value).toArray below meth c A 5 0 0 (MQ below (va_Qi (fun r w => WX (okM E a cd) w ∧ keeps ws w (fun q => q = 16 ∨ q = 17 ∨ q = 25)) (xB E A) A) ([.ref (a 0), .int p0] : List Value).toArray s 0 0 A) w31 36 [(0, .ref (a 0)), (1, .int p0), (2, .int (nI lf)), (3, .int (nI se)), (4, .int (nI wq))] [] := by
          intro fu36
          induction fu36 with
          | zero => intro se _ q; omega
          | succ fu36 ih36 =>
            intro se _ me36 iv36_0
            refine x_iload_n C dX12_planSet_36 rfl 3 rfl rfl ?_
            refine x_iload_n C dX12_planSet_37 rfl 2 rfl rfl ?_
            refine x_iconst C (v := (-1)) dX12_planSet_38 (by decide) rfl ?_
            refine x_ixor C (v := ((nI lf) ^^^ ((-1) : Int32))) dX12_planSet_39 rfl rfl ?_
            refine x_iand C (v := ((nI se) &&& ((nI lf) ^^^ ((-1) : Int32)))) dX12_planSet_40 rfl rfl ?_
            refine x_if_ne C (tgt := 68) dX12_planSet_41 (by decide) rfl (fun c43 => ?_) (fun c43 => ?_)
            · skip
              have hne44 : se ≠ sx := fun q => c43 (q ▸ hsx2)
              refine x_iload_n C dX12_planSet_68 rfl 3 rfl rfl ?_
              refine x_iconst C (v := 1) dX12_planSet_69 (by decide) rfl ?_
              refine x_iadd C (v := (nI (se + 1))) dX12_planSet_70 (nI_add se 1) rfl ?_
              refine x_istore_n C (lv' := [(3, .int (nI (se + 1))), (0, .ref (a 0)), (1, .int p0), (2, .int (nI lf)), (4, .int (nI wq))]) dX12_planSet_71 rfl (by decide) rfl rfl ?_
              refine x_goto C (tgt := 36) dX12_planSet_72 (by decide) ?_
              refine x_lv (lv1 := [(0, .ref (a 0)), (1, .int p0), (2, .int (nI lf)), (3, .int (nI (se + 1))), (4, .int (nI wq))]) [1, 2, 3, 0, 4] rfl ?_
              exact ih36 (se + 1) trivial (by omega) (by omega)
            · skip
              refine x_aload_n C dX12_planSet_44 rfl 0 rfl rfl ?_
              refine x_iload C dX12_planSet_45 4 rfl rfl ?_
              refine x_iload_n C dX12_planSet_47 rfl 2 rfl rfl ?_
              refine x_iload_n C dX12_planSet_48 rfl 3 rfl rfl ?_
              refine x_vi C (As := [.int (nI wq), .int (nI lf), .int (nI se)]) (rest := []) (m_planBy E l a cd hG w31 hW32 wq lf se (by omega) (by omega) (by omega) fn k36 pw hpb k38 ps41 k42 pb k39) mf_X12_planBy w_1574 0 k35 rfl rfl rfl (Nat.le_of_ble_eq_true rfl) ⟨(Nat.le_of_ble_eq_true rfl), (Nat.le_of_ble_eq_true rfl)⟩ ⟨(Nat.le_of_ble_eq_true rfl), (Nat.le_of_ble_eq_true rfl)⟩ dX12_planSet_49 rfl (fun r46 w47 h45 => ?_)
              obtain ⟨hW48, x49⟩ := h45
              refine x_ws hW48 ?_
              refine x_aload_n C dX12_planSet_52 rfl 0 rfl rfl ?_
              refine x_get C (ci := 11) (k := 40) 0 k35 rfl in_X12 (by decide) w_1158 rfl dX12_planSet_53 rfl ?_
              refine x_sipush C (v := 1024) dX12_planSet_56 (by decide) rfl ?_
              refine x_iload C dX12_planSet_59 4 rfl rfl ?_
              refine x_imul C (v := (nI (1024 * wq))) dX12_planSet_61 (pk_mul 1024 wq) rfl ?_
              refine x_iload_n C dX12_planSet_62 rfl 2 rfl rfl ?_
              refine x_iadd C (v := (nI ((1024 * wq) + lf))) dX12_planSet_63 (nI_add (1024 * wq) lf) rfl ?_
              refine x_ialk C (v := (pb ((1024 * wq) + lf))) ((1024 * wq) + lf) (nI_clamp (by omega)) (nI_pos (by omega)) (by omega) 24 k39 rfl dX12_planSet_64 rfl ?_
              refine x_icmp_eq C (tgt := 75) dX12_planSet_65 (by decide) rfl (fun c50 => ?_) (fun c50 => ?_)
              · skip
                refine x_aload_n C dX12_planSet_75 rfl 0 rfl rfl ?_
                refine x_get C (ci := 11) (k := 39) 0 k35 rfl in_X12 (by decide) w_1157 rfl dX12_planSet_76 rfl ?_
                refine x_iload C dX12_planSet_79 4 rfl rfl ?_
                refine x_ialk C (v := nI (pw wq)) wq (nI_clamp (by omega)) (nI_pos (by omega)) (by omega) 23 k38 rfl dX12_planSet_81 rfl ?_
                have bx51 := hpb wq
                refine x_iload_n C dX12_planSet_82 rfl 1 rfl rfl ?_
                refine x_icmp_ne C (tgt := 88) dX12_planSet_83 (by decide) rfl (fun c52 => ?_) (fun c52 => ?_)
                · skip
                  refine x_iload_n C dX12_planSet_88 rfl 2 rfl rfl ?_
                  refine x_iload_n C dX12_planSet_89 rfl 3 rfl rfl ?_
                  refine x_iconst C (v := (-1)) dX12_planSet_90 (by decide) rfl ?_
                  refine x_ixor C (v := ((nI se) ^^^ ((-1) : Int32))) dX12_planSet_91 rfl rfl ?_
                  have hla53 := la_le (l := lf) (by omega) se
                  refine x_iand C (v := (nI (la lf se))) dX12_planSet_92 (la_eq (by omega) se) rfl ?_
                  refine x_istore_n C (lv' := [(2, .int (nI (la lf se))), (0, .ref (a 0)), (1, .int p0), (3, .int (nI se)), (4, .int (nI wq))]) dX12_planSet_93 rfl (by decide) rfl rfl ?_
                  refine x_iinc C (v := (nI (wq + 1))) (lv' := [(4, .int (nI (wq + 1))), (2, .int (nI (la lf se))), (0, .ref (a 0)), (1, .int p0), (3, .int (nI se))]) dX12_planSet_94 4 rfl (nI_add wq 1) (by decide) rfl rfl ?_
                  refine x_goto C (tgt := 14) dX12_planSet_97 (by decide) ?_
                  refine x_lv (lv1 := [(0, .ref (a 0)), (1, .int p0), (2, .int (nI (la lf se))), (3, .int (nI se)), (4, .int (nI (wq + 1)))]) [2, 3, 1, 4, 0] rfl ?_
                  exact ih14 (la lf se) ((nI se)) (wq + 1) w31 hW32 (by omega) (by omega) (by omega) kp40
                · skip
                  refine x_iload_n C dX12_planSet_86 rfl 3 rfl rfl ?_
                  exact x_zret C hr hlk rfl dX12_planSet_87 ⟨hW32, kp40⟩
              · skip
                have hne54 : se ≠ sx := fun q => c50 (x49.trans (q ▸ hsx4.symm))
                refine x_iload_n C dX12_planSet_68 rfl 3 rfl rfl ?_
                refine x_iconst C (v := 1) dX12_planSet_69 (by decide) rfl ?_
                refine x_iadd C (v := (nI (se + 1))) dX12_planSet_70 (nI_add se 1) rfl ?_
                refine x_istore_n C (lv' := [(3, .int (nI (se + 1))), (0, .ref (a 0)), (1, .int p0), (2, .int (nI lf)), (4, .int (nI wq))]) dX12_planSet_71 rfl (by decide) rfl rfl ?_
                refine x_goto C (tgt := 36) dX12_planSet_72 (by decide) ?_
                refine x_lv (lv1 := [(0, .ref (a 0)), (1, .int p0), (2, .int (nI lf)), (3, .int (nI (se + 1))), (4, .int (nI wq))]) [1, 2, 3, 0, 4] rfl ?_
                exact ih36 (se + 1) trivial (by omega) (by omega)
        refine x_lv (lv1 := [(0, .ref (a 0)), (1, .int p0), (2, .int (nI lf)), (3, .int 0), (4, .int (nI wq))]) [1, 2, 3, 0, 4] rfl ?_
        exact loop36 _ 0 trivial (Nat.lt_succ_self _) (by omega)
  refine x_lv (lv1 := [(0, .ref (a 0)), (1, .int p0), (2, .int (nI ((p2 om) - 1))), (3, .int 0), (4, .int 0)]) [3, 4, 2, 1, 0] rfl ?_
  exact loop14 _ ((p2 om) - 1) (0 : Int32) 0 ws hW (Nat.lt_succ_self _) (by omega) (by omega) kp0
set_option maxRecDepth 20000 in
set_option maxHeartbeats 4000000 in
theorem m_laysOwnP (E : xE) (l : Launch) (a : Nat → Nat) (cd : Cd) (hG : Good cd) (ws : va_W) (hW : WX (okM E a cd) ws) (p0 : Int32) (m0 : Nat) (hm0 : m0 ≤ 12) : xV E l yX12_laysOwn cX12_laysOwn 4 2 0 0 [.ref (a 0), .int p0, .int (nI m0)] ws (fun w => WX (okM E a cd) w ∧ keeps ws w (fun q => q = 0 ∨ q = 22) ∧ (∃ om pm : Nat, om ≤ m0 ∧ PO a cd w om pm)) := by
  refine xV_start (lv := [(0, .ref (a 0)), (1, .int p0), (2, .int (nI m0))]) RX12 (by decide) rfl (Nat.le_of_ble_eq_true rfl) rfl (fun p e s m below meth c A C hr hlk hin => ?_)
  have kp0 : keeps ws ws (fun q => q = 0 ∨ q = 22) := keeps_rf
  obtain ⟨_, k1, n2, n4, n6, v8, v9, v10, n11, n13, n15, n17, v19, v20, v21, v22, n23, n25, v27, bn3, bn5, bn7, bn12, bn14, bn16, bn18, bn24, bn26, zv28, rfl⟩ := hW 0 _ rfl
  refine x_aload_n C dX12_laysOwn_0 rfl 0 rfl rfl ?_
  refine x_iconst C (v := 0) dX12_laysOwn_1 (by decide) rfl ?_
  obtain ⟨w29, hw30⟩ : ∃ w : va_W, w = List.set ws 0 (ob (a 0) 11 [.ref (a 1), .ref (a 2), .ref (a 3), .ref (a 4), .int (nI n2), .int (nI n4), .int (nI n6), .int v8, .int v9, .int v10, .int (nI n11), .int (nI n13), .int (nI n15), .int (nI (cd.2.2.2.2.2)), .ref (a 5), .ref (a 6), .ref (a 7), .ref (a 8), .ref (a 9), .ref (a 10), .ref (a 11), .ref (a 12), .ref (a 13), .ref (a 14), .ref (a 15), .ref (a 16), .ref (a 17), .int (nI n17), .ref (a 18), .ref (a 19), .ref (a 20), .ref (a 21), .int v19, .int v20, .int v21, .int v22, .int 0, .int (nI n25), .ref (a 22), .ref (a 23), .ref (a 24), .ref (a 25), .ref (a 26), .ref (a 27), .ref (a 28), .ref (a 29), .ref (a 30), .int v27]) := ⟨_, rfl⟩
  refine x_put C (ci := 11) (k := 36) (ty := .int) 0 k1 rfl in_X12 tyX12 tyX12_ok nmX12 (by decide) w_1154 rfl rfl rfl rfl (Nat.le_of_ble_eq_true rfl) hw30.symm dX12_laysOwn_2 rfl ?_
  have hW31 : WX (okM E a cd) w29 := by rw [hw30]; exact hW.set (k := 0) rfl ⟨n2, n4, n6, v8, v9, v10, n11, n13, n15, n17, v19, v20, v21, v22, 0, n25, v27, by omega, by omega, by omega, by omega, by omega, by omega, by omega, by omega, by omega, zv28, rfl⟩
  have k32 : w29[0]? = some (ob (a 0) 11 [.ref (a 1), .ref (a 2), .ref (a 3), .ref (a 4), .int (nI n2), .int (nI n4), .int (nI n6), .int v8, .int v9, .int v10, .int (nI n11), .int (nI n13), .int (nI n15), .int (nI (cd.2.2.2.2.2)), .ref (a 5), .ref (a 6), .ref (a 7), .ref (a 8), .ref (a 9), .ref (a 10), .ref (a 11), .ref (a 12), .ref (a 13), .ref (a 14), .ref (a 15), .ref (a 16), .ref (a 17), .int (nI n17), .ref (a 18), .ref (a 19), .ref (a 20), .ref (a 21), .int v19, .int v20, .int v21, .int v22, .int 0, .int (nI n25), .ref (a 22), .ref (a 23), .ref (a 24), .ref (a 25), .ref (a 26), .ref (a 27), .ref (a 28), .ref (a 29), .ref (a 30), .int v27]) := by rw [hw30]; exact set_eq k1
  have kp33 := keeps_set kp0 hw30 (by first | exact rfl | decide | omega | (dsimp only; omega))
  refine x_iconst C (v := 0) dX12_laysOwn_5 (by decide) rfl ?_
  refine x_istore_n C (lv' := [(3, .int 0), (0, .ref (a 0)), (1, .int p0), (2, .int (nI m0))]) dX12_laysOwn_6 rfl (by decide) rfl rfl ?_
  have loop7 : ∀ (fu7 : Nat) (i : Nat) (wl7 : va_W), WX (okM E a cd) wl7 → 48 - i < fu7 → i ≤ 48 → (∃ om pm : Nat, om ≤ m0 ∧ PO a cd wl7 om pm) → keeps ws wl7 (fun q => q = 0 ∨ q = 22) → X E p l e (xRm 2 0 0) s m ([.ref (a 0), .int p0, .int (nI m0)] : List Value).toArray below meth c A 4 0 0 (MQ below (va_Qv (fun w => WX (okM E a cd) w ∧ keeps ws w (fun q => q = 0 ∨ q = 22) ∧ (∃ om pm : Nat, om ≤ m0 ∧ PO a cd w om pm)) (xB E A) A) ([.ref (a 0), .int p0, .int (nI m0)] : List Value).toArray s 0 0 A) wl7 7 [(0, .ref (a 0)), (1, .int p0), (2, .int (nI m0)), (3, .int (nI i))] [] := by
    intro fu7
    induction fu7 with
    | zero => intro i wl7 _ q; omega
    | succ fu7 ih7 =>
      intro i wl7 hWl7 me7 iv7_0 iv7_1 kq7
      obtain ⟨om34, pm35, ho37, h36⟩ := iv7_1
      obtain ⟨n38, n39, n40, n41, n42, n43, n44, v45, v46, v47, v48, v49, v50, v51, v52, bo53, bo54, zb55, k56⟩ := h36
      refine x_iload_n C dX12_laysOwn_7 rfl 3 rfl rfl ?_
      refine x_aload_n C dX12_laysOwn_8 rfl 0 rfl rfl ?_
      refine x_get C (ci := 11) (k := 0) 0 k56 rfl in_X12 (by decide) w_1118 rfl dX12_laysOwn_9 rfl ?_
      refine x_sipush C (v := 381) dX12_laysOwn_12 (by decide) rfl ?_
      obtain ⟨_, k57, f58, pf59, rfl⟩ := hWl7 1 _ rfl
      obtain ⟨n60, hn61, en62⟩ := NB_many pf59
      refine x_ialk C (v := nI n60) 381 (by decide) (by decide) (by decide) 1 k57 en62 dX12_laysOwn_15 rfl ?_
      refine x_icmp_ge C (tgt := 78) dX12_laysOwn_16 (by decide) rfl (fun c63 => ?_) (fun c63 => ?_)
      · skip
        have nf64 := nI_le' (a := n60) (b := i) c63 (by omega) (by omega)
        exact x_vret C hr hlk dX12_laysOwn_78 ⟨hWl7, kq7, ⟨om34, pm35, by omega, ⟨n38, n39, n40, n41, n42, n43, n44, v45, v46, v47, v48, v49, v50, v51, v52, ⟨by omega, by omega, by omega, by omega, by omega, by omega, by omega⟩, ⟨by omega, by omega⟩, zb55, k56⟩⟩⟩
      · skip
        have nf65 := nI_nle' (a := n60) (b := i) c63 (by omega) (by omega)
        refine x_aload_n C dX12_laysOwn_19 rfl 0 rfl rfl ?_
        refine x_get C (ci := 11) (k := 36) 0 k56 rfl in_X12 (by decide) w_1154 rfl dX12_laysOwn_20 rfl ?_
        refine x_iload_n C dX12_laysOwn_23 rfl 2 rfl rfl ?_
        refine x_icmp_ge C (tgt := 78) dX12_laysOwn_24 (by decide) rfl (fun c66 => ?_) (fun c66 => ?_)
        · skip
          have nf67 := nI_le' (a := m0) (b := om34) c66 (by omega) (by omega)
          exact x_vret C hr hlk dX12_laysOwn_78 ⟨hWl7, kq7, ⟨om34, pm35, by omega, ⟨n38, n39, n40, n41, n42, n43, n44, v45, v46, v47, v48, v49, v50, v51, v52, ⟨by omega, by omega, by omega, by omega, by omega, by omega, by omega⟩, ⟨by omega, by omega⟩, zb55, k56⟩⟩⟩
        · skip
          have nf68 := nI_nle' (a := m0) (b := om34) c66 (by omega) (by omega)
          refine x_aload_n C dX12_laysOwn_27 rfl 0 rfl rfl ?_
          refine x_iload_n C dX12_laysOwn_28 rfl 3 rfl rfl ?_
          refine x_vi C (As := [.int (nI i)]) (rest := []) (m_isWhole E l a cd hG wl7 hWl7 ((nI i))) mf_X12_isWhole w_1435 0 k56 rfl rfl rfl (Nat.le_of_ble_eq_true rfl) ⟨(Nat.le_of_ble_eq_true rfl), (Nat.le_of_ble_eq_true rfl)⟩ ⟨(Nat.le_of_ble_eq_true rfl), (Nat.le_of_ble_eq_true rfl)⟩ dX12_laysOwn_29 rfl (fun r70 w71 h69 => ?_)
          obtain ⟨hW72, zb73, x74⟩ := h69
          refine x_ws hW72 ?_
          refine x_if_eq C (tgt := 72) dX12_laysOwn_32 (by decide) rfl (fun c75 => ?_) (fun c75 => ?_)
          · skip
            refine x_iinc C (v := (nI (i + 1))) (lv' := [(3, .int (nI (i + 1))), (0, .ref (a 0)), (1, .int p0), (2, .int (nI m0))]) dX12_laysOwn_72 3 rfl (nI_add i 1) (by decide) rfl rfl ?_
            refine x_goto C (tgt := 7) dX12_laysOwn_75 (by decide) ?_
            refine x_lv (lv1 := [(0, .ref (a 0)), (1, .int p0), (2, .int (nI m0)), (3, .int (nI (i + 1)))]) [1, 2, 3, 0] rfl ?_
            exact ih7 (i + 1) wl7 hWl7 (by omega) (by omega) ⟨om34, pm35, by omega, ⟨n38, n39, n40, n41, n42, n43, n44, v45, v46, v47, v48, v49, v50, v51, v52, ⟨by omega, by omega, by omega, by omega, by omega, by omega, by omega⟩, ⟨by omega, by omega⟩, zb55, k56⟩⟩ kq7
          · skip
            have wi76 := wth_le (a := 0) (b := 47) (j := i) (x74 c75) (by omega) (by decide) (by decide)
            refine x_aload_n C dX12_laysOwn_35 rfl 0 rfl rfl ?_
            refine x_get C (ci := 11) (k := 0) 0 k56 rfl in_X12 (by decide) w_1118 rfl dX12_laysOwn_36 rfl ?_
            refine x_sipush C (v := 144) dX12_laysOwn_39 (by decide) rfl ?_
            refine x_iload_n C dX12_laysOwn_42 rfl 3 rfl rfl ?_
            refine x_iadd C (v := (nI (144 + i))) dX12_laysOwn_43 (nI_add 144 i) rfl ?_
            obtain ⟨n77, hn78, en79⟩ := NB_own (j := i) pf59 (by omega)
            refine x_ialk C (v := nI n77) (144 + i) (nI_clamp (by omega)) (nI_pos (by omega)) (by omega) 1 k57 en79 dX12_laysOwn_44 rfl ?_
            refine x_iload_n C dX12_laysOwn_45 rfl 1 rfl rfl ?_
            refine x_icmp_eq C (tgt := 52) dX12_laysOwn_46 (by decide) rfl (fun c80 => ?_) (fun c80 => ?_)
            · skip
              refine x_aload_n C dX12_laysOwn_52 rfl 0 rfl rfl ?_
              refine x_get C (ci := 11) (k := 38) 0 k56 rfl in_X12 (by decide) w_1156 rfl dX12_laysOwn_53 rfl ?_
              refine x_aload_n C dX12_laysOwn_56 rfl 0 rfl rfl ?_
              refine x_get C (ci := 11) (k := 36) 0 k56 rfl in_X12 (by decide) w_1154 rfl dX12_laysOwn_57 rfl ?_
              refine x_iload_n C dX12_laysOwn_60 rfl 3 rfl rfl ?_
              obtain ⟨_, k81, g82, gb83, rfl⟩ := hWl7 22 _ rfl
              have gb84 := updn_le (i := om34) (v := i) gb83 (by omega)
              obtain ⟨w85, hw86⟩ : ∃ w : va_W, w = List.set wl7 22 (iA E (a 22) 12 (upd (fun j => nI (g82 j)) om34 (nI i))) := ⟨_, rfl⟩
              refine x_iask C om34 (nI_clamp (by omega)) (nI_pos (by omega)) (by omega) 22 k81 hw86.symm dX12_laysOwn_61 rfl ?_
              have hW87 : WX (okM E a cd) w85 := by rw [hw86]; exact hWl7.set (k := 22) rfl ⟨_, gb84, iA_n (upd_nI g82 om34 i)⟩
              have k88 : w85[0]? = some (ob (a 0) 11 [.ref (a 1), .ref (a 2), .ref (a 3), .ref (a 4), .int (nI n38), .int (nI n39), .int (nI n40), .int v45, .int v46, .int v47, .int (nI n41), .int (nI n42), .int (nI n43), .int (nI (cd.2.2.2.2.2)), .ref (a 5), .ref (a 6), .ref (a 7), .ref (a 8), .ref (a 9), .ref (a 10), .ref (a 11), .ref (a 12), .ref (a 13), .ref (a 14), .ref (a 15), .ref (a 16), .ref (a 17), .int (nI n44), .ref (a 18), .ref (a 19), .ref (a 20), .ref (a 21), .int v48, .int v49, .int v50, .int v51, .int (nI om34), .int (nI pm35), .ref (a 22), .ref (a 23), .ref (a 24), .ref (a 25), .ref (a 26), .ref (a 27), .ref (a 28), .ref (a 29), .ref (a 30), .int v52]) := by rw [hw86]; exact set_ne k56 (by decide)
              have k89 : w85[1]? = some (iA E (a 1) 382 f58) := by rw [hw86]; exact set_ne k57 (by decide)
              have k90 : w85[22]? = some (iA E (a 22) 12 (upd (fun j => nI (g82 j)) om34 (nI i))) := by rw [hw86]; exact set_eq k81
              have kp91 := keeps_set kq7 hw86 (by first | exact rfl | decide | omega | (dsimp only; omega))
              have k92 : w85[22]? = some (iA E (a 22) 12 (fun j => nI ((updn g82 om34 i) j))) := by rw [← upd_nI]; exact k90
              refine x_aload_n C dX12_laysOwn_62 rfl 0 rfl rfl ?_
              refine x_aload_n C dX12_laysOwn_63 rfl 0 rfl rfl ?_
              refine x_get C (ci := 11) (k := 36) 0 k88 rfl in_X12 (by decide) w_1154 rfl dX12_laysOwn_64 rfl ?_
              refine x_iconst C (v := 1) dX12_laysOwn_67 (by decide) rfl ?_
              refine x_iadd C (v := (nI (om34 + 1))) dX12_laysOwn_68 (nI_add om34 1) rfl ?_
              obtain ⟨w93, hw94⟩ : ∃ w : va_W, w = List.set w85 0 (ob (a 0) 11 [.ref (a 1), .ref (a 2), .ref (a 3), .ref (a 4), .int (nI n38), .int (nI n39), .int (nI n40), .int v45, .int v46, .int v47, .int (nI n41), .int (nI n42), .int (nI n43), .int (nI (cd.2.2.2.2.2)), .ref (a 5), .ref (a 6), .ref (a 7), .ref (a 8), .ref (a 9), .ref (a 10), .ref (a 11), .ref (a 12), .ref (a 13), .ref (a 14), .ref (a 15), .ref (a 16), .ref (a 17), .int (nI n44), .ref (a 18), .ref (a 19), .ref (a 20), .ref (a 21), .int v48, .int v49, .int v50, .int v51, .int (nI (om34 + 1)), .int (nI pm35), .ref (a 22), .ref (a 23), .ref (a 24), .ref (a 25), .ref (a 26), .ref (a 27), .ref (a 28), .ref (a 29), .ref (a 30), .int v52]) := ⟨_, rfl⟩
              refine x_put C (ci := 11) (k := 36) (ty := .int) 0 k88 rfl in_X12 tyX12 tyX12_ok nmX12 (by decide) w_1154 rfl rfl rfl rfl (Nat.le_of_ble_eq_true rfl) hw94.symm dX12_laysOwn_69 rfl ?_
              have hW95 : WX (okM E a cd) w93 := by rw [hw94]; exact hW87.set (k := 0) rfl ⟨n38, n39, n40, v45, v46, v47, n41, n42, n43, n44, v48, v49, v50, v51, (om34 + 1), pm35, v52, by omega, by omega, by omega, by omega, by omega, by omega, by omega, by omega, by omega, zb55, rfl⟩
              have k96 : w93[0]? = some (ob (a 0) 11 [.ref (a 1), .ref (a 2), .ref (a 3), .ref (a 4), .int (nI n38), .int (nI n39), .int (nI n40), .int v45, .int v46, .int v47, .int (nI n41), .int (nI n42), .int (nI n43), .int (nI (cd.2.2.2.2.2)), .ref (a 5), .ref (a 6), .ref (a 7), .ref (a 8), .ref (a 9), .ref (a 10), .ref (a 11), .ref (a 12), .ref (a 13), .ref (a 14), .ref (a 15), .ref (a 16), .ref (a 17), .int (nI n44), .ref (a 18), .ref (a 19), .ref (a 20), .ref (a 21), .int v48, .int v49, .int v50, .int v51, .int (nI (om34 + 1)), .int (nI pm35), .ref (a 22), .ref (a 23), .ref (a 24), .ref (a 25), .ref (a 26), .ref (a 27), .ref (a 28), .ref (a 29), .ref (a 30), .int v52]) := by rw [hw94]; exact set_eq k88
              have k97 : w93[1]? = some (iA E (a 1) 382 f58) := by rw [hw94]; exact set_ne k89 (by decide)
              have k98 : w93[22]? = some (iA E (a 22) 12 (fun j => nI ((updn g82 om34 i) j))) := by rw [hw94]; exact set_ne k92 (by decide)
              have kp99 := keeps_set kp91 hw94 (by first | exact rfl | decide | omega | (dsimp only; omega))
              refine x_iinc C (v := (nI (i + 1))) (lv' := [(3, .int (nI (i + 1))), (0, .ref (a 0)), (1, .int p0), (2, .int (nI m0))]) dX12_laysOwn_72 3 rfl (nI_add i 1) (by decide) rfl rfl ?_
              refine x_goto C (tgt := 7) dX12_laysOwn_75 (by decide) ?_
              refine x_lv (lv1 := [(0, .ref (a 0)), (1, .int p0), (2, .int (nI m0)), (3, .int (nI (i + 1)))]) [1, 2, 3, 0] rfl ?_
              exact ih7 (i + 1) w93 hW95 (by omega) (by omega) ⟨(om34 + 1), pm35, by omega, ⟨n38, n39, n40, n41, n42, n43, n44, v45, v46, v47, v48, v49, v50, v51, v52, ⟨by omega, by omega, by omega, by omega, by omega, by omega, by omega⟩, ⟨by omega, by omega⟩, zb55, k96⟩⟩ kp99
            · skip
              refine x_goto C (tgt := 72) dX12_laysOwn_49 (by decide) ?_
              refine x_iinc C (v := (nI (i + 1))) (lv' := [(3, .int (nI (i + 1))), (0, .ref (a 0)), (1, .int p0), (2, .int (nI m0))]) dX12_laysOwn_72 3 rfl (nI_add i 1) (by decide) rfl rfl ?_
              refine x_goto C (tgt := 7) dX12_laysOwn_75 (by decide) ?_
              refine x_lv (lv1 := [(0, .ref (a 0)), (1, .int p0), (2, .int (nI m0)), (3, .int (nI (i + 1)))]) [1, 2, 3, 0] rfl ?_
              exact ih7 (i + 1) wl7 hWl7 (by omega) (by omega) ⟨om34, pm35, by omega, ⟨n38, n39, n40, n41, n42, n43, n44, v45, v46, v47, v48, v49, v50, v51, v52, ⟨by omega, by omega, by omega, by omega, by omega, by omega, by omega⟩, ⟨by omega, by omega⟩, zb55, k56⟩⟩ kq7
  refine x_lv (lv1 := [(0, .ref (a 0)), (1, .int p0), (2, .int (nI m0)), (3, .int 0)]) [1, 2, 3, 0] rfl ?_
  exact loop7 _ 0 w29 hW31 (Nat.lt_succ_self _) (by omega) ⟨0, n25, by omega, ⟨n2, n4, n6, n11, n13, n15, n17, v8, v9, v10, v19, v20, v21, v22, v27, ⟨by omega, by omega, by omega, by omega, by omega, by omega, by omega⟩, ⟨by omega, by omega⟩, zv28, k32⟩⟩ kp33
theorem dX12_plan_0 : decode cX12_plan 0 = .ok (.aload_n 0, 1) := by decide +kernel
theorem dX12_plan_1 : decode cX12_plan 1 = .ok (.iload_n 1, 1) := by decide +kernel
theorem dX12_plan_2 : decode cX12_plan 2 = .ok (.invokevirtual 113, 3) := by decide +kernel
theorem dX12_plan_5 : decode cX12_plan 5 = .ok (.ifCond .eq 37, 3) := by decide +kernel
theorem dX12_plan_8 : decode cX12_plan 8 = .ok (.iload_n 2, 1) := by decide +kernel
theorem dX12_plan_9 : decode cX12_plan 9 = .ok (.iconst 1, 1) := by decide +kernel
theorem dX12_plan_10 : decode cX12_plan 10 = .ok (.sipush 255, 3) := by decide +kernel
theorem dX12_plan_13 : decode cX12_plan 13 = .ok (.invokestatic 109, 3) := by decide +kernel
theorem dX12_plan_16 : decode cX12_plan 16 = .ok (.ifCond .eq 26, 3) := by decide +kernel
theorem dX12_plan_19 : decode cX12_plan 19 = .ok (.iload_n 2, 1) := by decide +kernel
theorem dX12_plan_20 : decode cX12_plan 20 = .ok (.invokestatic 347, 3) := by decide +kernel
theorem dX12_plan_23 : decode cX12_plan 23 = .ok (.iconst 4, 1) := by decide +kernel
theorem dX12_plan_24 : decode cX12_plan 24 = .ok (.if_icmp .gt 18, 3) := by decide +kernel
theorem dX12_plan_27 : decode cX12_plan 27 = .ok (.iload_n 2, 1) := by decide +kernel
theorem dX12_plan_28 : decode cX12_plan 28 = .ok (.aload_n 0, 1) := by decide +kernel
theorem dX12_plan_29 : decode cX12_plan 29 = .ok (.getfield 7, 3) := by decide +kernel
theorem dX12_plan_32 : decode cX12_plan 32 = .ok (.sipush 378, 3) := by decide +kernel
theorem dX12_plan_35 : decode cX12_plan 35 = .ok (.iaload, 1) := by decide +kernel
theorem dX12_plan_36 : decode cX12_plan 36 = .ok (.iconst (-1), 1) := by decide +kernel
theorem dX12_plan_37 : decode cX12_plan 37 = .ok (.ixor, 1) := by decide +kernel
theorem dX12_plan_38 : decode cX12_plan 38 = .ok (.iand, 1) := by decide +kernel
theorem dX12_plan_39 : decode cX12_plan 39 = .ok (.ifCond .eq 5, 3) := by decide +kernel
theorem dX12_plan_42 : decode cX12_plan 42 = .ok (.iconst (-1), 1) := by decide +kernel
theorem dX12_plan_43 : decode cX12_plan 43 = .ok (.ireturn, 1) := by decide +kernel
theorem dX12_plan_44 : decode cX12_plan 44 = .ok (.iload_n 3, 1) := by decide +kernel
theorem dX12_plan_45 : decode cX12_plan 45 = .ok (.iconst 0, 1) := by decide +kernel
theorem dX12_plan_46 : decode cX12_plan 46 = .ok (.iconst 1, 1) := by decide +kernel
theorem dX12_plan_47 : decode cX12_plan 47 = .ok (.invokestatic 109, 3) := by decide +kernel
theorem dX12_plan_50 : decode cX12_plan 50 = .ok (.ifCond .ne 27, 3) := by decide +kernel
theorem dX12_plan_53 : decode cX12_plan 53 = .ok (.iload_n 3, 1) := by decide +kernel
theorem dX12_plan_54 : decode cX12_plan 54 = .ok (.bipush 10, 2) := by decide +kernel
theorem dX12_plan_56 : decode cX12_plan 56 = .ok (.bipush 17, 2) := by decide +kernel
theorem dX12_plan_58 : decode cX12_plan 58 = .ok (.invokestatic 109, 3) := by decide +kernel
theorem dX12_plan_61 : decode cX12_plan 61 = .ok (.ifCond .eq 14, 3) := by decide +kernel
theorem dX12_plan_64 : decode cX12_plan 64 = .ok (.iload_n 2, 1) := by decide +kernel
theorem dX12_plan_65 : decode cX12_plan 65 = .ok (.iload_n 3, 1) := by decide +kernel
theorem dX12_plan_66 : decode cX12_plan 66 = .ok (.bipush 10, 2) := by decide +kernel
theorem dX12_plan_68 : decode cX12_plan 68 = .ok (.isub, 1) := by decide +kernel
theorem dX12_plan_69 : decode cX12_plan 69 = .ok (.invokestatic 101, 3) := by decide +kernel
theorem dX12_plan_72 : decode cX12_plan 72 = .ok (.ifCond .ne 5, 3) := by decide +kernel
theorem dX12_plan_75 : decode cX12_plan 75 = .ok (.iconst (-1), 1) := by decide +kernel
theorem dX12_plan_76 : decode cX12_plan 76 = .ok (.ireturn, 1) := by decide +kernel
theorem dX12_plan_77 : decode cX12_plan 77 = .ok (.iconst 0, 1) := by decide +kernel
theorem dX12_plan_78 : decode cX12_plan 78 = .ok (.istore 4, 2) := by decide +kernel
theorem dX12_plan_80 : decode cX12_plan 80 = .ok (.iload 4, 2) := by decide +kernel
theorem dX12_plan_82 : decode cX12_plan 82 = .ok (.bipush 8, 2) := by decide +kernel
theorem dX12_plan_84 : decode cX12_plan 84 = .ok (.if_icmp .ge 30, 3) := by decide +kernel
theorem dX12_plan_87 : decode cX12_plan 87 = .ok (.iload_n 2, 1) := by decide +kernel
theorem dX12_plan_88 : decode cX12_plan 88 = .ok (.iload 4, 2) := by decide +kernel
theorem dX12_plan_90 : decode cX12_plan 90 = .ok (.invokestatic 101, 3) := by decide +kernel
theorem dX12_plan_93 : decode cX12_plan 93 = .ok (.ifCond .eq 15, 3) := by decide +kernel
theorem dX12_plan_96 : decode cX12_plan 96 = .ok (.aload_n 0, 1) := by decide +kernel
theorem dX12_plan_97 : decode cX12_plan 97 = .ok (.iload 4, 2) := by decide +kernel
theorem dX12_plan_99 : decode cX12_plan 99 = .ok (.invokevirtual 265, 3) := by decide +kernel
theorem dX12_plan_102 : decode cX12_plan 102 = .ok (.ifCond .eq 6, 3) := by decide +kernel
theorem dX12_plan_105 : decode cX12_plan 105 = .ok (.bipush (-2), 2) := by decide +kernel
theorem dX12_plan_107 : decode cX12_plan 107 = .ok (.ireturn, 1) := by decide +kernel
theorem dX12_plan_108 : decode cX12_plan 108 = .ok (.iinc 4 1, 3) := by decide +kernel
theorem dX12_plan_111 : decode cX12_plan 111 = .ok (.goto (-31), 3) := by decide +kernel
theorem dX12_plan_114 : decode cX12_plan 114 = .ok (.aload_n 0, 1) := by decide +kernel
theorem dX12_plan_115 : decode cX12_plan 115 = .ok (.iload_n 1, 1) := by decide +kernel
theorem dX12_plan_116 : decode cX12_plan 116 = .ok (.bipush 10, 2) := by decide +kernel
theorem dX12_plan_118 : decode cX12_plan 118 = .ok (.invokevirtual 362, 3) := by decide +kernel
theorem dX12_plan_121 : decode cX12_plan 121 = .ok (.aload_n 0, 1) := by decide +kernel
theorem dX12_plan_122 : decode cX12_plan 122 = .ok (.iload_n 2, 1) := by decide +kernel
theorem dX12_plan_123 : decode cX12_plan 123 = .ok (.invokevirtual 365, 3) := by decide +kernel
theorem dX12_plan_126 : decode cX12_plan 126 = .ok (.aload_n 0, 1) := by decide +kernel
theorem dX12_plan_127 : decode cX12_plan 127 = .ok (.getfield 80, 3) := by decide +kernel
theorem dX12_plan_130 : decode cX12_plan 130 = .ok (.iconst 1, 1) := by decide +kernel
theorem dX12_plan_131 : decode cX12_plan 131 = .ok (.aload_n 0, 1) := by decide +kernel
theorem dX12_plan_132 : decode cX12_plan 132 = .ok (.getfield 344, 3) := by decide +kernel
theorem dX12_plan_135 : decode cX12_plan 135 = .ok (.ishl, 1) := by decide +kernel
theorem dX12_plan_136 : decode cX12_plan 136 = .ok (.iconst 1, 1) := by decide +kernel
theorem dX12_plan_137 : decode cX12_plan 137 = .ok (.isub, 1) := by decide +kernel
theorem dX12_plan_138 : decode cX12_plan 138 = .ok (.iaload, 1) := by decide +kernel
theorem dX12_plan_139 : decode cX12_plan 139 = .ok (.istore 4, 2) := by decide +kernel
theorem dX12_plan_141 : decode cX12_plan 141 = .ok (.iload 4, 2) := by decide +kernel
theorem dX12_plan_143 : decode cX12_plan 143 = .ok (.bipush 63, 2) := by decide +kernel
theorem dX12_plan_145 : decode cX12_plan 145 = .ok (.iadd, 1) := by decide +kernel
theorem dX12_plan_146 : decode cX12_plan 146 = .ok (.bipush 64, 2) := by decide +kernel
theorem dX12_plan_148 : decode cX12_plan 148 = .ok (.idiv, 1) := by decide +kernel
theorem dX12_plan_149 : decode cX12_plan 149 = .ok (.istore 5, 2) := by decide +kernel
theorem dX12_plan_151 : decode cX12_plan 151 = .ok (.iload_n 3, 1) := by decide +kernel
theorem dX12_plan_152 : decode cX12_plan 152 = .ok (.ifCond .ne 8, 3) := by decide +kernel
theorem dX12_plan_155 : decode cX12_plan 155 = .ok (.iload 5, 2) := by decide +kernel
theorem dX12_plan_157 : decode cX12_plan 157 = .ok (.goto 27, 3) := by decide +kernel
theorem dX12_plan_160 : decode cX12_plan 160 = .ok (.iload_n 3, 1) := by decide +kernel
theorem dX12_plan_161 : decode cX12_plan 161 = .ok (.iconst 1, 1) := by decide +kernel
theorem dX12_plan_162 : decode cX12_plan 162 = .ok (.if_icmp .ne 14, 3) := by decide +kernel
theorem dX12_plan_165 : decode cX12_plan 165 = .ok (.bipush 64, 2) := by decide +kernel
theorem dX12_plan_167 : decode cX12_plan 167 = .ok (.iload 5, 2) := by decide +kernel
theorem dX12_plan_169 : decode cX12_plan 169 = .ok (.imul, 1) := by decide +kernel
theorem dX12_plan_170 : decode cX12_plan 170 = .ok (.iload 4, 2) := by decide +kernel
theorem dX12_plan_172 : decode cX12_plan 172 = .ok (.isub, 1) := by decide +kernel
theorem dX12_plan_173 : decode cX12_plan 173 = .ok (.goto 11, 3) := by decide +kernel
theorem dX12_plan_176 : decode cX12_plan 176 = .ok (.aload_n 0, 1) := by decide +kernel
theorem dX12_plan_177 : decode cX12_plan 177 = .ok (.iload_n 3, 1) := by decide +kernel
theorem dX12_plan_178 : decode cX12_plan 178 = .ok (.bipush 10, 2) := by decide +kernel
theorem dX12_plan_180 : decode cX12_plan 180 = .ok (.isub, 1) := by decide +kernel
theorem dX12_plan_181 : decode cX12_plan 181 = .ok (.invokevirtual 368, 3) := by decide +kernel
theorem dX12_plan_184 : decode cX12_plan 184 = .ok (.ireturn, 1) := by decide +kernel
set_option maxRecDepth 20000 in
set_option maxHeartbeats 4000000 in
theorem m_plan (E : xE) (l : Launch) (a : Nat → Nat) (cd : Cd) (hG : Good cd) (ws : va_W) (hW : WX (okM E a cd) ws) (p0 : Int32) (p1 : Int32) (p2 : Int32) : xI E l yX12_plan cX12_plan 6 (some .int) 8 [.ref (a 0), .int p0, .int p1, .int p2] ws (fun r w => WX (okM E a cd) w) := by
  refine xI_start (lv := [(0, .ref (a 0)), (1, .int p0), (2, .int p1), (3, .int p2)]) RX12 (by decide) rfl (Nat.le_of_ble_eq_true rfl) rfl (fun p e s m below meth c A C hr hlk => ?_)
  refine x_aload_n C dX12_plan_0 rfl 0 rfl rfl ?_
  refine x_iload_n C dX12_plan_1 rfl 1 rfl rfl ?_
  obtain ⟨_, k1, n2, n4, n6, v8, v9, v10, n11, n13, n15, n17, v19, v20, v21, v22, n23, n25, v27, bn3, bn5, bn7, bn12, bn14, bn16, bn18, bn24, bn26, zv28, rfl⟩ := hW 0 _ rfl
  refine x_vi C (As := [.int p0]) (rest := []) (m_isPerson E l a cd hG ws hW p0) mf_X12_isPerson w_1270 0 k1 rfl rfl rfl (Nat.le_of_ble_eq_true rfl) ⟨(Nat.le_of_ble_eq_true rfl), (Nat.le_of_ble_eq_true rfl)⟩ ⟨(Nat.le_of_ble_eq_true rfl), (Nat.le_of_ble_eq_true rfl)⟩ dX12_plan_2 rfl (fun r30 w31 h29 => ?_)
  obtain ⟨hW32, zb33, x34⟩ := h29
  refine x_ws hW32 ?_
  refine x_if_eq C (tgt := 42) dX12_plan_5 (by decide) rfl (fun c35 => ?_) (fun c35 => ?_)
  · skip
    refine x_iconst C (v := (-1)) dX12_plan_42 (by decide) rfl ?_
    exact x_zret C hr hlk rfl dX12_plan_43 hW
  · skip
    obtain ⟨j36, hl37, hh38, ej39⟩ := w_nat (a := 0) (b := 7) (by decide) (by decide) (x34 c35)
    subst ej39
    refine x_iload_n C dX12_plan_8 rfl 2 rfl rfl ?_
    refine x_iconst C (v := 1) dX12_plan_9 (by decide) rfl ?_
    refine x_sipush C (v := 255) dX12_plan_10 (by decide) rfl ?_
    refine x_si C (As := [.int p1, .int 1, .int 255]) (rest := []) (m_in E l a cd hG ws hW p1 (1 : Int32) (255 : Int32)) mf_X12_in w_1267 rfl rfl (Nat.le_of_ble_eq_true rfl) ⟨(Nat.le_of_ble_eq_true rfl), (Nat.le_of_ble_eq_true rfl)⟩ ⟨(Nat.le_of_ble_eq_true rfl), (Nat.le_of_ble_eq_true rfl)⟩ dX12_plan_13 rfl (fun r41 w42 h40 => ?_)
    obtain ⟨hW43, zb44, x45⟩ := h40
    refine x_ws hW43 ?_
    refine x_if_eq C (tgt := 42) dX12_plan_16 (by decide) rfl (fun c46 => ?_) (fun c46 => ?_)
    · skip
      refine x_iconst C (v := (-1)) dX12_plan_42 (by decide) rfl ?_
      exact x_zret C hr hlk rfl dX12_plan_43 hW
    · skip
      obtain ⟨j47, hl48, hh49, ej50⟩ := w_nat (a := 1) (b := 255) (by decide) (by decide) (x45 c46)
      subst ej50
      refine x_iload_n C dX12_plan_19 rfl 2 rfl rfl ?_
      refine x_si C (As := [.int (nI j47)]) (rest := []) (m_bits E l a cd hG ws hW ((nI j47))) mf_X12_bits w_1559 rfl rfl (Nat.le_of_ble_eq_true rfl) ⟨(Nat.le_of_ble_eq_true rfl), (Nat.le_of_ble_eq_true rfl)⟩ ⟨(Nat.le_of_ble_eq_true rfl), (Nat.le_of_ble_eq_true rfl)⟩ dX12_plan_20 rfl (fun r52 w53 h51 => ?_)
      obtain ⟨hW54, x55⟩ := h51
      refine x_ws hW54 ?_
      have hbt56 := btn_12 (w := j47) (by omega)
      have h857 := btn_le8 j47
      refine x_top (x55.trans hbt56) ?_
      refine x_iconst C (v := 4) dX12_plan_23 (by decide) rfl ?_
      refine x_icmp_gt C (tgt := 42) dX12_plan_24 (by decide) rfl (fun c58 => ?_) (fun c58 => ?_)
      · skip
        have nf59 := nI_lt' (a := 4) (b := (btn j47 8)) c58 (by omega) (by omega)
        refine x_iconst C (v := (-1)) dX12_plan_42 (by decide) rfl ?_
        exact x_zret C hr hlk rfl dX12_plan_43 hW
      · skip
        have nf60 := nI_nlt' (a := 4) (b := (btn j47 8)) c58 (by omega) (by omega)
        refine x_iload_n C dX12_plan_27 rfl 2 rfl rfl ?_
        refine x_aload_n C dX12_plan_28 rfl 0 rfl rfl ?_
        refine x_get C (ci := 11) (k := 0) 0 k1 rfl in_X12 (by decide) w_1118 rfl dX12_plan_29 rfl ?_
        refine x_sipush C (v := 378) dX12_plan_32 (by decide) rfl ?_
        obtain ⟨_, k61, f62, pf63, rfl⟩ := hW 1 _ rfl
        refine x_iald C (v := (f62 (378 : Int32).toNatClampNeg)) 1 k61 (vp_k (j := 378) (by decide) (by decide) (by decide)) rfl dX12_plan_35 rfl ?_
        refine x_any (fun v64 => ?_)
        refine x_iconst C (v := (-1)) dX12_plan_36 (by decide) rfl ?_
        refine x_ixor C (v := (v64 ^^^ ((-1) : Int32))) dX12_plan_37 rfl rfl ?_
        refine x_any (fun v65 => ?_)
        refine x_iand C (v := ((nI j47) &&& v65)) dX12_plan_38 rfl rfl ?_
        refine x_any (fun v66 => ?_)
        refine x_if_eq C (tgt := 44) dX12_plan_39 (by decide) rfl (fun c67 => ?_) (fun c67 => ?_)
        · skip
          refine x_iload_n C dX12_plan_44 rfl 3 rfl rfl ?_
          refine x_iconst C (v := 0) dX12_plan_45 (by decide) rfl ?_
          refine x_iconst C (v := 1) dX12_plan_46 (by decide) rfl ?_
          refine x_si C (As := [.int p2, .int 0, .int 1]) (rest := []) (m_in E l a cd hG ws hW p2 (0 : Int32) (1 : Int32)) mf_X12_in w_1267 rfl rfl (Nat.le_of_ble_eq_true rfl) ⟨(Nat.le_of_ble_eq_true rfl), (Nat.le_of_ble_eq_true rfl)⟩ ⟨(Nat.le_of_ble_eq_true rfl), (Nat.le_of_ble_eq_true rfl)⟩ dX12_plan_47 rfl (fun r69 w70 h68 => ?_)
          obtain ⟨hW71, zb72, x73⟩ := h68
          refine x_ws hW71 ?_
          refine x_if_ne C (tgt := 77) dX12_plan_50 (by decide) rfl (fun c74 => ?_) (fun c74 => ?_)
          · skip
            obtain ⟨j75, hl76, hh77, ej78⟩ := w_nat (a := 0) (b := 1) (by decide) (by decide) (x73 c74)
            subst ej78
            refine x_iconst C (v := 0) dX12_plan_77 (by decide) rfl ?_
            refine x_istore C (lv' := [(4, .int 0), (0, .ref (a 0)), (1, .int (nI j36)), (2, .int (nI j47)), (3, .int (nI j75))]) dX12_plan_78 (by decide) rfl rfl ?_
            have loop80 : ∀ (fu80 : Nat) (i : Nat), True → 8 - i < fu80 → i ≤ 8 → X E p l e (xRm 8 0 0) s m ([.ref (a 0), .int (nI j36), .int (nI j47), .int (nI j75)] : List Value).toArray below meth c A 6 0 0 (MQ below (va_Qi (fun r w => WX (okM E a cd) w) (xB E A) A) ([.ref (a 0), .int (nI j36), .int (nI j47), .int (nI j75)] : List Value).toArray s 0 0 A) ws 80 [(0, .ref (a 0)), (1, .int (nI j36)), (2, .int (nI j47)), (3, .int (nI j75)), (4, .int (nI i))] [] := by
              intro fu80
              induction fu80 with
              | zero => intro i _ q; omega
              | succ fu80 ih80 =>
                intro i _ me80 iv80_0
                refine x_iload C dX12_plan_80 4 rfl rfl ?_
                refine x_bipush C (v := 8) dX12_plan_82 (by decide) rfl ?_
                refine x_icmp_ge C (tgt := 114) dX12_plan_84 (by decide) rfl (fun c79 => ?_) (fun c79 => ?_)
                · skip
                  have nf80 := nI_le' (a := 8) (b := i) c79 (by omega) (by omega)
                  refine x_aload_n C dX12_plan_114 rfl 0 rfl rfl ?_
                  refine x_iload_n C dX12_plan_115 rfl 1 rfl rfl ?_
                  refine x_bipush C (v := 10) dX12_plan_116 (by decide) rfl ?_
                  refine x_vv C (As := [.int (nI j36), .int 10]) (rest := []) (m_laysOwnP E l a cd hG ws hW ((nI j36)) 10 (by omega)) mf_X12_laysOwn w_1562 0 k1 rfl rfl rfl (Nat.le_of_ble_eq_true rfl) ⟨(Nat.le_of_ble_eq_true rfl), (Nat.le_of_ble_eq_true rfl)⟩ ⟨(Nat.le_of_ble_eq_true rfl), (Nat.le_of_ble_eq_true rfl)⟩ dX12_plan_118 rfl (fun w83 h81 => ?_)
                  obtain ⟨hW84, kq85, x86⟩ := h81
                  have k87 : w83[1]? = some (iA E (a 1) 382 f62) := keeps_at kq85 k61 (by first | decide | omega | (dsimp only; omega))
                  obtain ⟨om88, pm89, ho91, h90⟩ := x86
                  obtain ⟨n92, n93, n94, n95, n96, n97, n98, v99, v100, v101, v102, v103, v104, v105, v106, bo107, bo108, zb109, k110⟩ := h90
                  obtain ⟨_, k111, g112, gb113, rfl⟩ := hW84 22 _ rfl
                  have hp114 := p2_10 (k := om88) (by omega)
                  have hp115 := p2_pos om88
                  refine x_aload_n C dX12_plan_121 rfl 0 rfl rfl ?_
                  refine x_iload_n C dX12_plan_122 rfl 2 rfl rfl ?_
                  refine x_vv C (As := [.int (nI j47)]) (rest := []) (m_laysPlan E l a cd hG w83 hW84 j47 ⟨by omega, by omega⟩ f62 k87 om88 pm89 ⟨n92, n93, n94, n95, n96, n97, n98, v99, v100, v101, v102, v103, v104, v105, v106, ⟨by omega, by omega, by omega, by omega, by omega, by omega, by omega⟩, ⟨by omega, by omega⟩, zb109, k110⟩ (by omega) g112 gb113 k111) mf_X12_laysPlan w_1566 0 k110 rfl rfl rfl (Nat.le_of_ble_eq_true rfl) ⟨(Nat.le_of_ble_eq_true rfl), (Nat.le_of_ble_eq_true rfl)⟩ ⟨(Nat.le_of_ble_eq_true rfl), (Nat.le_of_ble_eq_true rfl)⟩ dX12_plan_123 rfl (fun w118 h116 => ?_)
                  obtain ⟨hW119, kq120, x121⟩ := h116
                  have k122 : w118[1]? = some (iA E (a 1) 382 f62) := keeps_at kq120 k87 (by first | decide | omega | (dsimp only; omega))
                  have k123 : w118[22]? = some (iA E (a 22) 12 (fun j => nI (g112 j))) := keeps_at kq120 k111 (by first | decide | omega | (dsimp only; omega))
                  obtain ⟨pm124, pw125, pb126, h127, hb128, k129, k130, hB131⟩ := x121
                  obtain ⟨n132, n133, n134, n135, n136, n137, n138, v139, v140, v141, v142, v143, v144, v145, v146, bo147, bo148, zb149, k150⟩ := h127
                  refine x_aload_n C dX12_plan_126 rfl 0 rfl rfl ?_
                  refine x_get C (ci := 11) (k := 40) 0 k150 rfl in_X12 (by decide) w_1158 rfl dX12_plan_127 rfl ?_
                  refine x_iconst C (v := 1) dX12_plan_130 (by decide) rfl ?_
                  refine x_aload_n C dX12_plan_131 rfl 0 rfl rfl ?_
                  refine x_get C (ci := 11) (k := 36) 0 k150 rfl in_X12 (by decide) w_1154 rfl dX12_plan_132 rfl ?_
                  refine x_ishl C (v := (nI (p2 om88))) dX12_plan_135 (shp (by omega)) rfl ?_
                  refine x_iconst C (v := 1) dX12_plan_136 (by decide) rfl ?_
                  refine x_isub C (v := (nI ((p2 om88) - 1))) dX12_plan_137 (pk_sub (a := (p2 om88)) (b := 1) (by omega)) rfl ?_
                  refine x_iald C (v := (pb126 (nI ((p2 om88) - 1)).toNatClampNeg)) 24 k130 (vp_in_nI (by omega) (by decide)) rfl dX12_plan_138 rfl ?_
                  refine x_any (fun v151 => ?_)
                  refine x_istore C (lv' := [(4, .int v151), (0, .ref (a 0)), (1, .int (nI j36)), (2, .int (nI j47)), (3, .int (nI j75))]) dX12_plan_139 (by decide) rfl rfl ?_
                  refine x_iload C dX12_plan_141 0 rfl rfl ?_
                  refine x_bipush C (v := 63) dX12_plan_143 (by decide) rfl ?_
                  refine x_iadd C (v := (v151 + (63 : Int32))) dX12_plan_145 rfl rfl ?_
                  refine x_any (fun v152 => ?_)
                  refine x_bipush C (v := 64) dX12_plan_146 (by decide) rfl ?_
                  refine x_idiv C (v := (v152 / (64 : Int32))) dX12_plan_148 (by decide) rfl rfl ?_
                  refine x_any (fun v153 => ?_)
                  refine x_istore C (lv' := [(5, .int v153), (4, .int v151), (0, .ref (a 0)), (1, .int (nI j36)), (2, .int (nI j47)), (3, .int (nI j75))]) dX12_plan_149 (by decide) rfl rfl ?_
                  refine x_iload_n C dX12_plan_151 rfl 5 rfl rfl ?_
                  refine x_if_ne C (tgt := 160) dX12_plan_152 (by decide) rfl (fun c154 => ?_) (fun c154 => ?_)
                  · skip
                    have nf155 : ¬ j75 = 0 := fun q => c154 (congrArg nI q)
                    refine x_iload_n C dX12_plan_160 rfl 5 rfl rfl ?_
                    refine x_iconst C (v := 1) dX12_plan_161 (by decide) rfl ?_
                    refine x_icmp_ne C (tgt := 176) dX12_plan_162 (by decide) rfl (fun c156 => ?_) (fun c156 => ?_)
                    · skip
                      have nf157 : ¬ j75 = 1 := fun q => c156 (congrArg nI q)
                      refine x_aload_n C dX12_plan_176 rfl 2 rfl rfl ?_
                      refine x_iload_n C dX12_plan_177 rfl 5 rfl rfl ?_
                      refine x_bipush C (v := 10) dX12_plan_178 (by decide) rfl ?_
                      refine x_isub C (v := ((nI j75) - (10 : Int32))) dX12_plan_180 rfl rfl ?_
                      refine x_any (fun v158 => ?_)
                      refine x_vi C (As := [.int v158]) (rest := []) (m_planSet E l a cd hG w118 hW119 v158 f62 k122 om88 pm124 ⟨n132, n133, n134, n135, n136, n137, n138, v139, v140, v141, v142, v143, v144, v145, v146, ⟨by omega, by omega, by omega, by omega, by omega, by omega, by omega⟩, ⟨by omega, by omega⟩, zb149, k150⟩ (by omega) g112 gb113 k123 pw125 hb128 k129 pb126 k130 hB131) mf_X12_planSet w_1581 0 k150 rfl rfl rfl (Nat.le_of_ble_eq_true rfl) ⟨(Nat.le_of_ble_eq_true rfl), (Nat.le_of_ble_eq_true rfl)⟩ ⟨(Nat.le_of_ble_eq_true rfl), (Nat.le_of_ble_eq_true rfl)⟩ dX12_plan_181 rfl (fun r160 w161 h159 => ?_)
                      obtain ⟨hW162, kq163⟩ := h159
                      have k164 : w161[1]? = some (iA E (a 1) 382 f62) := keeps_at kq163 k122 (by first | decide | omega | (dsimp only; omega))
                      have k165 : w161[22]? = some (iA E (a 22) 12 (fun j => nI (g112 j))) := keeps_at kq163 k123 (by first | decide | omega | (dsimp only; omega))
                      have k166 : w161[0]? = some (ob (a 0) 11 [.ref (a 1), .ref (a 2), .ref (a 3), .ref (a 4), .int (nI n132), .int (nI n133), .int (nI n134), .int v139, .int v140, .int v141, .int (nI n135), .int (nI n136), .int (nI n137), .int (nI (cd.2.2.2.2.2)), .ref (a 5), .ref (a 6), .ref (a 7), .ref (a 8), .ref (a 9), .ref (a 10), .ref (a 11), .ref (a 12), .ref (a 13), .ref (a 14), .ref (a 15), .ref (a 16), .ref (a 17), .int (nI n138), .ref (a 18), .ref (a 19), .ref (a 20), .ref (a 21), .int v142, .int v143, .int v144, .int v145, .int (nI om88), .int (nI pm124), .ref (a 22), .ref (a 23), .ref (a 24), .ref (a 25), .ref (a 26), .ref (a 27), .ref (a 28), .ref (a 29), .ref (a 30), .int v146]) := keeps_at kq163 k150 (by first | decide | omega | (dsimp only; omega))
                      have k167 : w161[23]? = some (iA E (a 23) 4 (fun j => nI (pw125 j))) := keeps_at kq163 k129 (by first | decide | omega | (dsimp only; omega))
                      have k168 : w161[24]? = some (iA E (a 24) 5120 pb126) := keeps_at kq163 k130 (by first | decide | omega | (dsimp only; omega))
                      exact x_zret C hr hlk rfl dX12_plan_184 hW162
                    · skip
                      have nf169 : j75 = 1 := (nI_eq (by omega) (by omega)).mp c156
                      refine x_bipush C (v := 64) dX12_plan_165 (by decide) rfl ?_
                      refine x_iload C dX12_plan_167 0 rfl rfl ?_
                      refine x_imul C (v := ((64 : Int32) * v153)) dX12_plan_169 rfl rfl ?_
                      refine x_any (fun v170 => ?_)
                      refine x_iload C dX12_plan_170 1 rfl rfl ?_
                      refine x_isub C (v := (v170 - v151)) dX12_plan_172 rfl rfl ?_
                      refine x_any (fun v171 => ?_)
                      refine x_goto C (tgt := 184) dX12_plan_173 (by decide) ?_
                      exact x_zret C hr hlk rfl dX12_plan_184 hW119
                  · skip
                    have nf172 : j75 = 0 := (nI_eq (by omega) (by omega)).mp c154
                    refine x_iload C dX12_plan_155 0 rfl rfl ?_
                    refine x_goto C (tgt := 184) dX12_plan_157 (by decide) ?_
                    exact x_zret C hr hlk rfl dX12_plan_184 hW119
                · skip
                  have nf173 := nI_nle' (a := 8) (b := i) c79 (by omega) (by omega)
                  refine x_iload_n C dX12_plan_87 rfl 2 rfl rfl ?_
                  refine x_iload C dX12_plan_88 4 rfl rfl ?_
                  refine x_si C (As := [.int (nI j47), .int (nI i)]) (rest := []) (m_has E l a cd hG ws hW ((nI j47)) ((nI i))) mf_X12_has w_1274 rfl rfl (Nat.le_of_ble_eq_true rfl) ⟨(Nat.le_of_ble_eq_true rfl), (Nat.le_of_ble_eq_true rfl)⟩ ⟨(Nat.le_of_ble_eq_true rfl), (Nat.le_of_ble_eq_true rfl)⟩ dX12_plan_90 rfl (fun r175 w176 h174 => ?_)
                  obtain ⟨hW177, zb178, x179⟩ := h174
                  refine x_ws hW177 ?_
                  refine x_if_eq C (tgt := 108) dX12_plan_93 (by decide) rfl (fun c180 => ?_) (fun c180 => ?_)
                  · skip
                    refine x_iinc C (v := (nI (i + 1))) (lv' := [(4, .int (nI (i + 1))), (0, .ref (a 0)), (1, .int (nI j36)), (2, .int (nI j47)), (3, .int (nI j75))]) dX12_plan_108 4 rfl (nI_add i 1) (by decide) rfl rfl ?_
                    refine x_goto C (tgt := 80) dX12_plan_111 (by decide) ?_
                    refine x_lv (lv1 := [(0, .ref (a 0)), (1, .int (nI j36)), (2, .int (nI j47)), (3, .int (nI j75)), (4, .int (nI (i + 1)))]) [1, 2, 3, 4, 0] rfl ?_
                    exact ih80 (i + 1) trivial (by omega) (by omega)
                  · skip
                    refine x_aload_n C dX12_plan_96 rfl 0 rfl rfl ?_
                    refine x_iload C dX12_plan_97 4 rfl rfl ?_
                    refine x_vi C (As := [.int (nI i)]) (rest := []) (m_isDone E l a cd hG ws hW i (by omega)) mf_X12_isDone w_1431 0 k1 rfl rfl rfl (Nat.le_of_ble_eq_true rfl) ⟨(Nat.le_of_ble_eq_true rfl), (Nat.le_of_ble_eq_true rfl)⟩ ⟨(Nat.le_of_ble_eq_true rfl), (Nat.le_of_ble_eq_true rfl)⟩ dX12_plan_99 rfl (fun r182 w183 h181 => ?_)
                    obtain ⟨hW184, zb185⟩ := h181
                    refine x_ws hW184 ?_
                    refine x_if_eq C (tgt := 108) dX12_plan_102 (by decide) rfl (fun c186 => ?_) (fun c186 => ?_)
                    · skip
                      refine x_iinc C (v := (nI (i + 1))) (lv' := [(4, .int (nI (i + 1))), (0, .ref (a 0)), (1, .int (nI j36)), (2, .int (nI j47)), (3, .int (nI j75))]) dX12_plan_108 4 rfl (nI_add i 1) (by decide) rfl rfl ?_
                      refine x_goto C (tgt := 80) dX12_plan_111 (by decide) ?_
                      refine x_lv (lv1 := [(0, .ref (a 0)), (1, .int (nI j36)), (2, .int (nI j47)), (3, .int (nI j75)), (4, .int (nI (i + 1)))]) [1, 2, 3, 4, 0] rfl ?_
                      exact ih80 (i + 1) trivial (by omega) (by omega)
                    · skip
                      refine x_bipush C (v := (-2)) dX12_plan_105 (by decide) rfl ?_
                      exact x_zret C hr hlk rfl dX12_plan_107 hW
            refine x_lv (lv1 := [(0, .ref (a 0)), (1, .int (nI j36)), (2, .int (nI j47)), (3, .int (nI j75)), (4, .int 0)]) [1, 2, 3, 4, 0] rfl ?_
            exact loop80 _ 0 trivial (Nat.lt_succ_self _) (by omega)
          · skip
            refine x_iload_n C dX12_plan_53 rfl 3 rfl rfl ?_
            refine x_bipush C (v := 10) dX12_plan_54 (by decide) rfl ?_
            refine x_bipush C (v := 17) dX12_plan_56 (by decide) rfl ?_
            refine x_si C (As := [.int p2, .int 10, .int 17]) (rest := []) (m_in E l a cd hG ws hW p2 (10 : Int32) (17 : Int32)) mf_X12_in w_1267 rfl rfl (Nat.le_of_ble_eq_true rfl) ⟨(Nat.le_of_ble_eq_true rfl), (Nat.le_of_ble_eq_true rfl)⟩ ⟨(Nat.le_of_ble_eq_true rfl), (Nat.le_of_ble_eq_true rfl)⟩ dX12_plan_58 rfl (fun r188 w189 h187 => ?_)
            obtain ⟨hW190, zb191, x192⟩ := h187
            refine x_ws hW190 ?_
            refine x_if_eq C (tgt := 75) dX12_plan_61 (by decide) rfl (fun c193 => ?_) (fun c193 => ?_)
            · skip
              refine x_iconst C (v := (-1)) dX12_plan_75 (by decide) rfl ?_
              exact x_zret C hr hlk rfl dX12_plan_76 hW
            · skip
              obtain ⟨j194, hl195, hh196, ej197⟩ := w_nat (a := 10) (b := 17) (by decide) (by decide) (x192 c193)
              subst ej197
              refine x_iload_n C dX12_plan_64 rfl 2 rfl rfl ?_
              refine x_iload_n C dX12_plan_65 rfl 3 rfl rfl ?_
              refine x_bipush C (v := 10) dX12_plan_66 (by decide) rfl ?_
              refine x_isub C (v := ((nI j194) - (10 : Int32))) dX12_plan_68 rfl rfl ?_
              refine x_any (fun v198 => ?_)
              refine x_si C (As := [.int (nI j47), .int v198]) (rest := []) (m_has E l a cd hG ws hW ((nI j47)) v198) mf_X12_has w_1274 rfl rfl (Nat.le_of_ble_eq_true rfl) ⟨(Nat.le_of_ble_eq_true rfl), (Nat.le_of_ble_eq_true rfl)⟩ ⟨(Nat.le_of_ble_eq_true rfl), (Nat.le_of_ble_eq_true rfl)⟩ dX12_plan_69 rfl (fun r200 w201 h199 => ?_)
              obtain ⟨hW202, zb203, x204⟩ := h199
              refine x_ws hW202 ?_
              refine x_if_ne C (tgt := 77) dX12_plan_72 (by decide) rfl (fun c205 => ?_) (fun c205 => ?_)
              · skip
                refine x_iconst C (v := 0) dX12_plan_77 (by decide) rfl ?_
                refine x_istore C (lv' := [(4, .int 0), (0, .ref (a 0)), (1, .int (nI j36)), (2, .int (nI j47)), (3, .int (nI j194))]) dX12_plan_78 (by decide) rfl rfl ?_
                have loop80 : ∀ (fu80 : Nat) (i : Nat), True → 8 - i < fu80 → i ≤ 8 → X E p l e (xRm 8 0 0) s m ([.ref (a 0), .int (nI j36), .int (nI j47), .int (nI j194)] : List Value).toArray below meth c A 6 0 0 (MQ below (va_Qi (fun r w => WX (okM E a cd) w) (xB E A) A) ([.ref (a 0), .int (nI j36), .int (nI j47), .int (nI j194)] : List Value).toArray s 0 0 A) ws 80 [(0, .ref (a 0)), (1, .int (nI j36)), (2, .int (nI j47)), (3, .int (nI j194)), (4, .int (nI i))] [] := by
                  intro fu80
                  induction fu80 with
                  | zero => intro i _ q; omega
                  | succ fu80 ih80 =>
                    intro i _ me80 iv80_0
                    refine x_iload C dX12_plan_80 4 rfl rfl ?_
                    refine x_bipush C (v := 8) dX12_plan_82 (by decide) rfl ?_
                    refine x_icmp_ge C (tgt := 114) dX12_plan_84 (by decide) rfl (fun c206 => ?_) (fun c206 => ?_)
                    · skip
                      have nf207 := nI_le' (a := 8) (b := i) c206 (by omega) (by omega)
                      refine x_aload_n C dX12_plan_114 rfl 0 rfl rfl ?_
                      refine x_iload_n C dX12_plan_115 rfl 1 rfl rfl ?_
                      refine x_bipush C (v := 10) dX12_plan_116 (by decide) rfl ?_
                      refine x_vv C (As := [.int (nI j36), .int 10]) (rest := []) (m_laysOwnP E l a cd hG ws hW ((nI j36)) 10 (by omega)) mf_X12_laysOwn w_1562 0 k1 rfl rfl rfl (Nat.le_of_ble_eq_true rfl) ⟨(Nat.le_of_ble_eq_true rfl), (Nat.le_of_ble_eq_true rfl)⟩ ⟨(Nat.le_of_ble_eq_true rfl), (Nat.le_of_ble_eq_true rfl)⟩ dX12_plan_118 rfl (fun w210 h208 => ?_)
                      obtain ⟨hW211, kq212, x213⟩ := h208
                      have k214 : w210[1]? = some (iA E (a 1) 382 f62) := keeps_at kq212 k61 (by first | decide | omega | (dsimp only; omega))
                      obtain ⟨om215, pm216, ho218, h217⟩ := x213
                      obtain ⟨n219, n220, n221, n222, n223, n224, n225, v226, v227, v228, v229, v230, v231, v232, v233, bo234, bo235, zb236, k237⟩ := h217
                      obtain ⟨_, k238, g239, gb240, rfl⟩ := hW211 22 _ rfl
                      have hp241 := p2_10 (k := om215) (by omega)
                      have hp242 := p2_pos om215
                      refine x_aload_n C dX12_plan_121 rfl 0 rfl rfl ?_
                      refine x_iload_n C dX12_plan_122 rfl 2 rfl rfl ?_
                      refine x_vv C (As := [.int (nI j47)]) (rest := []) (m_laysPlan E l a cd hG w210 hW211 j47 ⟨by omega, by omega⟩ f62 k214 om215 pm216 ⟨n219, n220, n221, n222, n223, n224, n225, v226, v227, v228, v229, v230, v231, v232, v233, ⟨by omega, by omega, by omega, by omega, by omega, by omega, by omega⟩, ⟨by omega, by omega⟩, zb236, k237⟩ (by omega) g239 gb240 k238) mf_X12_laysPlan w_1566 0 k237 rfl rfl rfl (Nat.le_of_ble_eq_true rfl) ⟨(Nat.le_of_ble_eq_true rfl), (Nat.le_of_ble_eq_true rfl)⟩ ⟨(Nat.le_of_ble_eq_true rfl), (Nat.le_of_ble_eq_true rfl)⟩ dX12_plan_123 rfl (fun w245 h243 => ?_)
                      obtain ⟨hW246, kq247, x248⟩ := h243
                      have k249 : w245[1]? = some (iA E (a 1) 382 f62) := keeps_at kq247 k214 (by first | decide | omega | (dsimp only; omega))
                      have k250 : w245[22]? = some (iA E (a 22) 12 (fun j => nI (g239 j))) := keeps_at kq247 k238 (by first | decide | omega | (dsimp only; omega))
                      obtain ⟨pm251, pw252, pb253, h254, hb255, k256, k257, hB258⟩ := x248
                      obtain ⟨n259, n260, n261, n262, n263, n264, n265, v266, v267, v268, v269, v270, v271, v272, v273, bo274, bo275, zb276, k277⟩ := h254
                      refine x_aload_n C dX12_plan_126 rfl 0 rfl rfl ?_
                      refine x_get C (ci := 11) (k := 40) 0 k277 rfl in_X12 (by decide) w_1158 rfl dX12_plan_127 rfl ?_
                      refine x_iconst C (v := 1) dX12_plan_130 (by decide) rfl ?_
                      refine x_aload_n C dX12_plan_131 rfl 0 rfl rfl ?_
                      refine x_get C (ci := 11) (k := 36) 0 k277 rfl in_X12 (by decide) w_1154 rfl dX12_plan_132 rfl ?_
                      refine x_ishl C (v := (nI (p2 om215))) dX12_plan_135 (shp (by omega)) rfl ?_
                      refine x_iconst C (v := 1) dX12_plan_136 (by decide) rfl ?_
                      refine x_isub C (v := (nI ((p2 om215) - 1))) dX12_plan_137 (pk_sub (a := (p2 om215)) (b := 1) (by omega)) rfl ?_
                      refine x_iald C (v := (pb253 (nI ((p2 om215) - 1)).toNatClampNeg)) 24 k257 (vp_in_nI (by omega) (by decide)) rfl dX12_plan_138 rfl ?_
                      refine x_any (fun v278 => ?_)
                      refine x_istore C (lv' := [(4, .int v278), (0, .ref (a 0)), (1, .int (nI j36)), (2, .int (nI j47)), (3, .int (nI j194))]) dX12_plan_139 (by decide) rfl rfl ?_
                      refine x_iload C dX12_plan_141 0 rfl rfl ?_
                      refine x_bipush C (v := 63) dX12_plan_143 (by decide) rfl ?_
                      refine x_iadd C (v := (v278 + (63 : Int32))) dX12_plan_145 rfl rfl ?_
                      refine x_any (fun v279 => ?_)
                      refine x_bipush C (v := 64) dX12_plan_146 (by decide) rfl ?_
                      refine x_idiv C (v := (v279 / (64 : Int32))) dX12_plan_148 (by decide) rfl rfl ?_
                      refine x_any (fun v280 => ?_)
                      refine x_istore C (lv' := [(5, .int v280), (4, .int v278), (0, .ref (a 0)), (1, .int (nI j36)), (2, .int (nI j47)), (3, .int (nI j194))]) dX12_plan_149 (by decide) rfl rfl ?_
                      refine x_iload_n C dX12_plan_151 rfl 5 rfl rfl ?_
                      refine x_if_ne C (tgt := 160) dX12_plan_152 (by decide) rfl (fun c281 => ?_) (fun c281 => ?_)
                      · skip
                        have nf282 : ¬ j194 = 0 := fun q => c281 (congrArg nI q)
                        refine x_iload_n C dX12_plan_160 rfl 5 rfl rfl ?_
                        refine x_iconst C (v := 1) dX12_plan_161 (by decide) rfl ?_
                        refine x_icmp_ne C (tgt := 176) dX12_plan_162 (by decide) rfl (fun c283 => ?_) (fun c283 => ?_)
                        · skip
                          have nf284 : ¬ j194 = 1 := fun q => c283 (congrArg nI q)
                          refine x_aload_n C dX12_plan_176 rfl 2 rfl rfl ?_
                          refine x_iload_n C dX12_plan_177 rfl 5 rfl rfl ?_
                          refine x_bipush C (v := 10) dX12_plan_178 (by decide) rfl ?_
                          refine x_isub C (v := ((nI j194) - (10 : Int32))) dX12_plan_180 rfl rfl ?_
                          refine x_any (fun v285 => ?_)
                          refine x_vi C (As := [.int v285]) (rest := []) (m_planSet E l a cd hG w245 hW246 v285 f62 k249 om215 pm251 ⟨n259, n260, n261, n262, n263, n264, n265, v266, v267, v268, v269, v270, v271, v272, v273, ⟨by omega, by omega, by omega, by omega, by omega, by omega, by omega⟩, ⟨by omega, by omega⟩, zb276, k277⟩ (by omega) g239 gb240 k250 pw252 hb255 k256 pb253 k257 hB258) mf_X12_planSet w_1581 0 k277 rfl rfl rfl (Nat.le_of_ble_eq_true rfl) ⟨(Nat.le_of_ble_eq_true rfl), (Nat.le_of_ble_eq_true rfl)⟩ ⟨(Nat.le_of_ble_eq_true rfl), (Nat.le_of_ble_eq_true rfl)⟩ dX12_plan_181 rfl (fun r287 w288 h286 => ?_)
                          obtain ⟨hW289, kq290⟩ := h286
                          have k291 : w288[1]? = some (iA E (a 1) 382 f62) := keeps_at kq290 k249 (by first | decide | omega | (dsimp only; omega))
                          have k292 : w288[22]? = some (iA E (a 22) 12 (fun j => nI (g239 j))) := keeps_at kq290 k250 (by first | decide | omega | (dsimp only; omega))
                          have k293 : w288[0]? = some (ob (a 0) 11 [.ref (a 1), .ref (a 2), .ref (a 3), .ref (a 4), .int (nI n259), .int (nI n260), .int (nI n261), .int v266, .int v267, .int v268, .int (nI n262), .int (nI n263), .int (nI n264), .int (nI (cd.2.2.2.2.2)), .ref (a 5), .ref (a 6), .ref (a 7), .ref (a 8), .ref (a 9), .ref (a 10), .ref (a 11), .ref (a 12), .ref (a 13), .ref (a 14), .ref (a 15), .ref (a 16), .ref (a 17), .int (nI n265), .ref (a 18), .ref (a 19), .ref (a 20), .ref (a 21), .int v269, .int v270, .int v271, .int v272, .int (nI om215), .int (nI pm251), .ref (a 22), .ref (a 23), .ref (a 24), .ref (a 25), .ref (a 26), .ref (a 27), .ref (a 28), .ref (a 29), .ref (a 30), .int v273]) := keeps_at kq290 k277 (by first | decide | omega | (dsimp only; omega))
                          have k294 : w288[23]? = some (iA E (a 23) 4 (fun j => nI (pw252 j))) := keeps_at kq290 k256 (by first | decide | omega | (dsimp only; omega))
                          have k295 : w288[24]? = some (iA E (a 24) 5120 pb253) := keeps_at kq290 k257 (by first | decide | omega | (dsimp only; omega))
                          exact x_zret C hr hlk rfl dX12_plan_184 hW289
                        · skip
                          have nf296 : j194 = 1 := (nI_eq (by omega) (by omega)).mp c283
                          refine x_bipush C (v := 64) dX12_plan_165 (by decide) rfl ?_
                          refine x_iload C dX12_plan_167 0 rfl rfl ?_
                          refine x_imul C (v := ((64 : Int32) * v280)) dX12_plan_169 rfl rfl ?_
                          refine x_any (fun v297 => ?_)
                          refine x_iload C dX12_plan_170 1 rfl rfl ?_
                          refine x_isub C (v := (v297 - v278)) dX12_plan_172 rfl rfl ?_
                          refine x_any (fun v298 => ?_)
                          refine x_goto C (tgt := 184) dX12_plan_173 (by decide) ?_
                          exact x_zret C hr hlk rfl dX12_plan_184 hW246
                      · skip
                        have nf299 : j194 = 0 := (nI_eq (by omega) (by omega)).mp c281
                        refine x_iload C dX12_plan_155 0 rfl rfl ?_
                        refine x_goto C (tgt := 184) dX12_plan_157 (by decide) ?_
                        exact x_zret C hr hlk rfl dX12_plan_184 hW246
                    · skip
                      have nf300 := nI_nle' (a := 8) (b := i) c206 (by omega) (by omega)
                      refine x_iload_n C dX12_plan_87 rfl 2 rfl rfl ?_
                      refine x_iload C dX12_plan_88 4 rfl rfl ?_
                      refine x_si C (As := [.int (nI j47), .int (nI i)]) (rest := []) (m_has E l a cd hG ws hW ((nI j47)) ((nI i))) mf_X12_has w_1274 rfl rfl (Nat.le_of_ble_eq_true rfl) ⟨(Nat.le_of_ble_eq_true rfl), (Nat.le_of_ble_eq_true rfl)⟩ ⟨(Nat.le_of_ble_eq_true rfl), (Nat.le_of_ble_eq_true rfl)⟩ dX12_plan_90 rfl (fun r302 w303 h301 => ?_)
                      obtain ⟨hW304, zb305, x306⟩ := h301
                      refine x_ws hW304 ?_
                      refine x_if_eq C (tgt := 108) dX12_plan_93 (by decide) rfl (fun c307 => ?_) (fun c307 => ?_)
                      · skip
                        refine x_iinc C (v := (nI (i + 1))) (lv' := [(4, .int (nI (i + 1))), (0, .ref (a 0)), (1, .int (nI j36)), (2, .int (nI j47)), (3, .int (nI j194))]) dX12_plan_108 4 rfl (nI_add i 1) (by decide) rfl rfl ?_
                        refine x_goto C (tgt := 80) dX12_plan_111 (by decide) ?_
                        refine x_lv (lv1 := [(0, .ref (a 0)), (1, .int (nI j36)), (2, .int (nI j47)), (3, .int (nI j194)), (4, .int (nI (i + 1)))]) [1, 2, 3, 4, 0] rfl ?_
                        exact ih80 (i + 1) trivial (by omega) (by omega)
                      · skip
                        refine x_aload_n C dX12_plan_96 rfl 0 rfl rfl ?_
                        refine x_iload C dX12_plan_97 4 rfl rfl ?_
                        refine x_vi C (As := [.int (nI i)]) (rest := []) (m_isDone E l a cd hG ws hW i (by omega)) mf_X12_isDone w_1431 0 k1 rfl rfl rfl (Nat.le_of_ble_eq_true rfl) ⟨(Nat.le_of_ble_eq_true rfl), (Nat.le_of_ble_eq_true rfl)⟩ ⟨(Nat.le_of_ble_eq_true rfl), (Nat.le_of_ble_eq_true rfl)⟩ dX12_plan_99 rfl (fun r309 w310 h308 => ?_)
                        obtain ⟨hW311, zb312⟩ := h308
                        refine x_ws hW311 ?_
                        refine x_if_eq C (tgt := 108) dX12_plan_102 (by decide) rfl (fun c313 => ?_) (fun c313 => ?_)
                        · skip
                          refine x_iinc C (v := (nI (i + 1))) (lv' := [(4, .int (nI (i + 1))), (0, .ref (a 0)), (1, .int (nI j36)), (2, .int (nI j47)), (3, .int (nI j194))]) dX12_plan_108 4 rfl (nI_add i 1) (by decide) rfl rfl ?_
                          refine x_goto C (tgt := 80) dX12_plan_111 (by decide) ?_
                          refine x_lv (lv1 := [(0, .ref (a 0)), (1, .int (nI j36)), (2, .int (nI j47)), (3, .int (nI j194)), (4, .int (nI (i + 1)))]) [1, 2, 3, 4, 0] rfl ?_
                          exact ih80 (i + 1) trivial (by omega) (by omega)
                        · skip
                          refine x_bipush C (v := (-2)) dX12_plan_105 (by decide) rfl ?_
                          exact x_zret C hr hlk rfl dX12_plan_107 hW
                refine x_lv (lv1 := [(0, .ref (a 0)), (1, .int (nI j36)), (2, .int (nI j47)), (3, .int (nI j194)), (4, .int 0)]) [1, 2, 3, 4, 0] rfl ?_
                exact loop80 _ 0 trivial (Nat.lt_succ_self _) (by omega)
              · skip
                refine x_iconst C (v := (-1)) dX12_plan_75 (by decide) rfl ?_
                exact x_zret C hr hlk rfl dX12_plan_76 hW
        · skip
          refine x_iconst C (v := (-1)) dX12_plan_42 (by decide) rfl ?_
          exact x_zret C hr hlk rfl dX12_plan_43 hW

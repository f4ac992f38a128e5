def PO (a : Nat → Nat) (cd : Cd) (kf : Int32) (w : va_W) (om pm : Nat) : Prop := ∃ (n4 n5 n6 n10 n11 n12 n27 : Nat) (v7 v8 v9 v32 v33 v34 v35 : Int32), (n4 ≤ 260 ∧ n5 ≤ 240 ∧ n6 ≤ 240 ∧ n10 ≤ 260 ∧ n11 ≤ 260 ∧ n12 ≤ 16 ∧ n27 ≤ 24) ∧ (om ≤ 12 ∧ pm ≤ 4) ∧ w[0]? = some (ob (a 0) 11 [.ref (a 1), .ref (a 2), .ref (a 3), .ref (a 4), .int (nI n4), .int (nI n5), .int (nI n6), .int v7, .int v8, .int v9, .int (nI n10), .int (nI n11), .int (nI n12), .int (nI cd.2.2.2.2.2), .ref (a 5), .ref (a 6), .ref (a 7), .ref (a 8), .ref (a 9), .ref (a 10), .ref (a 11), .ref (a 12), .ref (a 13), .ref (a 14), .ref (a 15), .ref (a 16), .ref (a 17), .int (nI n27), .ref (a 18), .ref (a 19), .ref (a 20), .ref (a 21), .int v32, .int v33, .int v34, .int v35, .int (nI om), .int (nI pm), .ref (a 22), .ref (a 23), .ref (a 24), .ref (a 25), .ref (a 26), .ref (a 27), .ref (a 28), .ref (a 29), .ref (a 30), .int kf])
def p2 (k : Nat) : Nat := 2 ^ k
theorem p2_0 : p2 0 = 1 := rfl
theorem p2_s (k : Nat) : p2 (k + 1) = 2 * p2 k := by rw [p2, p2, Nat.pow_succ]; omega
theorem p2_pos (k : Nat) : 1 ≤ p2 k := Nat.two_pow_pos k
theorem p2_mono {j k : Nat} (h : j ≤ k) : p2 j ≤ p2 k := Nat.pow_le_pow_right (by omega) h
theorem p2_10 {k : Nat} (h : k ≤ 10) : p2 k ≤ 1024 := p2_mono h
theorem shp_tab : (List.range 11).all (fun n => decide ((1 : Int32) <<< ((nI n) &&& 31) = nI (2 ^ n))) = true := by decide +kernel
theorem shp {n : Nat} (h : n ≤ 10) : (1 : Int32) <<< ((nI n) &&& 31) = nI (p2 n) := of_decide_eq_true (List.all_eq_true.mp shp_tab n (List.mem_range.mpr (by omega)))
theorem orp_tab : (List.range 10).all (fun k => (List.range (2 ^ k)).all (fun s => decide (nI s ||| nI (2 ^ k) = nI (s + 2 ^ k)))) = true := by decide +kernel
theorem orp {k s : Nat} (hk : k ≤ 9) (hs : s < p2 k) : nI s ||| nI (p2 k) = nI (s + p2 k) := of_decide_eq_true (List.all_eq_true.mp (List.all_eq_true.mp orp_tab k (List.mem_range.mpr (by omega))) s (List.mem_range.mpr hs))
theorem and_le {f : Nat} (h : f < 1024) (y : Int32) : ∃ z : Nat, z ≤ f ∧ nI f &&& y = nI z := by
  refine ⟨(BitVec.ofNat 32 f &&& y.toBitVec).toNat, ?_, ?_⟩
  · rw [BitVec.toNat_and]
    have h1 : (BitVec.ofNat 32 f).toNat &&& y.toBitVec.toNat ≤ (BitVec.ofNat 32 f).toNat := Nat.and_le_left
    rw [BitVec.toNat_ofNat] at h1 ⊢
    have h2 := Nat.mod_le f (2 ^ 32)
    omega
  · apply Int32.toBitVec_inj.mp
    show BitVec.ofNat 32 f &&& y.toBitVec = BitVec.ofNat 32 _
    rw [BitVec.ofNat_toNat, BitVec.setWidth_eq]
def la (l s : Nat) : Nat := (nI l &&& (nI s ^^^ (-1 : Int32))).toNatClampNeg
theorem la_eq {l : Nat} (h : l < 1024) (s : Nat) : nI l &&& (nI s ^^^ (-1 : Int32)) = nI (la l s) := by
  obtain ⟨z, hz, e⟩ := and_le h (nI s ^^^ (-1 : Int32))
  rw [la, e, nI_clamp (by omega)]
theorem la_le {l : Nat} (h : l < 1024) (s : Nat) : la l s ≤ l := by
  obtain ⟨z, hz, e⟩ := and_le h (nI s ^^^ (-1 : Int32))
  rw [la, e, nI_clamp (by omega)]; exact hz
def sub (s l : Nat) : Prop := nI s &&& (nI l ^^^ (-1 : Int32)) = 0
theorem xor_self_and (x : Int32) : x &&& (x ^^^ (-1 : Int32)) = 0 := by
  apply Int32.toBitVec_inj.mp
  show x.toBitVec &&& (x.toBitVec ^^^ (-1 : Int32).toBitVec) = (0 : Int32).toBitVec
  have e : (-1 : Int32).toBitVec = BitVec.allOnes 32 := by decide
  rw [e, BitVec.xor_allOnes]
  ext i hi
  simp
theorem sub_rfl (l : Nat) : sub l l := xor_self_and _
theorem sub_zero (l : Nat) : sub 0 l := Int32.zero_and
theorem sub_and {z l : Nat} {y : Int32} (h : y &&& nI l = nI z) : sub z l := by
  rw [sub, ← h, Int32.and_assoc, xor_self_and, Int32.and_zero]
def PT (S wv : Nat → Int32) (n : Nat) : Prop := S 0 = 0 ∧ ∀ k, k < n → ∀ s, s < p2 k → S (s + p2 k) = S s + wv k
theorem PT_uniq {S S' wv : Nat → Int32} : ∀ {n : Nat}, PT S wv n → PT S' wv n → ∀ s, s < p2 n → S s = S' s
  | 0, h, h', s, hs => by
    rw [p2_0] at hs
    have e : s = 0 := by omega
    subst e; rw [h.1, h'.1]
  | n + 1, h, h', s, hs => by
    rw [p2_s] at hs
    have g : PT S wv n := ⟨h.1, fun k hk => h.2 k (by omega)⟩
    have g' : PT S' wv n := ⟨h'.1, fun k hk => h'.2 k (by omega)⟩
    rcases Nat.lt_or_ge s (p2 n) with q | q
    · exact PT_uniq g g' s q
    · have e : s = (s - p2 n) + p2 n := by omega
      rw [e, h.2 n (by omega) _ (by omega), h'.2 n (by omega) _ (by omega), PT_uniq g g' (s - p2 n) (by omega)]
theorem PT_far {S wv : Nat → Int32} {n i : Nat} {v : Int32} (h : PT S wv n) (hi : p2 n ≤ i) : PT (upd S i v) wv n := by
  have h0 := p2_pos n
  refine ⟨by rw [pk_un (by omega)]; exact h.1, fun k hk s hs => ?_⟩
  have h1 := p2_mono (j := k + 1) (k := n) (by omega)
  rw [p2_s] at h1
  rw [pk_un (by omega), pk_un (by omega)]; exact h.2 k hk s hs
theorem PT_succ {S wv : Nat → Int32} {n : Nat} (h : PT S wv n) (h2 : ∀ s, s < p2 n → S (s + p2 n) = S s + wv n) : PT S wv (n + 1) := ⟨h.1, fun k hk => by
  by_cases e : k = n
  · subst e; exact h2
  · exact h.2 k (by omega)⟩
theorem PT_row {S wv : Nat → Int32} {k se : Nat} (h : ∀ s, s < se → S (s + p2 k) = S s + wv k) (hse : se < p2 k) : ∀ s, s < se + 1 → upd S (se + p2 k) (S se + wv k) (s + p2 k) = upd S (se + p2 k) (S se + wv k) s + wv k := by
  intro s hs
  rw [pk_un (j := s) (by omega)]
  by_cases e : s = se
  · subst e; rw [pk_us]
  · rw [pk_un (by omega)]; exact h s (by omega)
/-- what one work's set of eggs brings, with the best of the later works -/
def pB (fn S B : Nat → Int32) (pw : Nat → Nat) (v l s : Nat) : Int32 := ((64 : Int32) * (if fn (346 + pw v) + S s < fn (338 + pw v) then (0 : Int32) else fn (354 + pw v)) - bt (nI s) 12) + B (1024 * (v + 1) + la l s)
theorem pB_S {fn S S' B : Nat → Int32} {pw : Nat → Nat} {v l s : Nat} (h : S s = S' s) : pB fn S B pw v l s = pB fn S' B pw v l s := by rw [pB, pB, h]
theorem pB_B {fn S B B' : Nat → Int32} {pw : Nat → Nat} {v l s : Nat} (h : B (1024 * (v + 1) + la l s) = B' (1024 * (v + 1) + la l s)) : pB fn S B pw v l s = pB fn S B' pw v l s := by rw [pB, pB, h]
def wvs (cd : Cd) (fn : Nat → Int32) (og : Nat → Nat) (wk : Nat) : Nat → Int32 := fun k => wFor cd fn (og k) (nI wk)
/-- a place of the table is reached by one of its sets -/
def rOk (cd : Cd) (fn B : Nat → Int32) (og pw : Nat → Nat) (om v l : Nat) : Prop := ∃ s : Nat, s ≤ l ∧ sub s l ∧ ∀ S, PT S (wvs cd fn og (pw v)) om → B (1024 * v + l) = pB fn S B pw v l s
def bOk (cd : Cd) (fn B : Nat → Int32) (og pw : Nat → Nat) (om lo pm : Nat) : Prop := ∀ v, lo ≤ v → v < pm → ∀ l, l < p2 om → rOk cd fn B og pw om v l
theorem rOk_far {cd : Cd} {fn B : Nat → Int32} {og pw : Nat → Nat} {om v l i : Nat} {x : Int32} (h : rOk cd fn B og pw om v l) (h1 : i ≠ 1024 * v + l) (h2 : i < 1024 * (v + 1)) : rOk cd fn (upd B i x) og pw om v l := by
  obtain ⟨s, hs1, hs2, hs3⟩ := h
  refine ⟨s, hs1, hs2, fun S hS => ?_⟩
  rw [pk_un (by omega), hs3 S hS]
  exact pB_B (by rw [pk_un (by omega)])
theorem bOk_far {cd : Cd} {fn B : Nat → Int32} {og pw : Nat → Nat} {om w pm l : Nat} {x : Int32} (h : bOk cd fn B og pw om (w + 1) pm) (hl : l < 1024) : bOk cd fn (upd B (1024 * w + l) x) og pw om (w + 1) pm := fun v h1 h2 l2 h3 => rOk_far (h v h1 h2 l2 h3) (by omega) (by omega)
theorem row_step {cd : Cd} {fn B S : Nat → Int32} {og pw : Nat → Nat} {om w l : Nat} {x : Int32} (h : ∀ j, j < l → rOk cd fn B og pw om w j) (hl : l < p2 om) (hl2 : l < 1024) (hS : PT S (wvs cd fn og (pw w)) om) (hx : ∃ s : Nat, s ≤ l ∧ sub s l ∧ x = pB fn S B pw w l s) : ∀ j, j < l + 1 → rOk cd fn (upd B (1024 * w + l) x) og pw om w j := by
  intro j hj
  by_cases e : j = l
  · subst e
    obtain ⟨s, h1, h2, h3⟩ := hx
    refine ⟨s, h1, h2, fun S' hS' => ?_⟩
    rw [pk_us, h3, pB_S (PT_uniq hS hS' s (by omega))]
    exact pB_B (by rw [pk_un (by omega)])
  · exact rOk_far (h j (by omega)) (by omega) (by omega)
theorem bOk_row {cd : Cd} {fn B : Nat → Int32} {og pw : Nat → Nat} {om w pm : Nat} (h : bOk cd fn B og pw om (w + 1) pm) (h2 : ∀ j, j < p2 om → rOk cd fn B og pw om w j) : bOk cd fn B og pw om w pm := by
  intro v h3 h4 l hl
  by_cases e : v = w
  · subst e; exact h2 l hl
  · exact h v (by omega) h4 l hl
def btn (w i : Nat) : Nat := ((List.range i).filter (fun k => w.testBit k)).length
theorem btn_tab : (List.range 256).all (fun w => decide (bt (nI w) 12 = nI (btn w 8)) && (List.range 8).all (fun i => decide (((nI w >>> (nI i &&& 31)) &&& 1 = 1 ∧ btn w (i + 1) = btn w i + 1 ∧ btn w (i + 1) ≤ btn w 8) ∨ (¬ (nI w >>> (nI i &&& 31)) &&& 1 = 1 ∧ btn w (i + 1) = btn w i ∧ btn w (i + 1) ≤ btn w 8)))) = true := by decide +kernel
theorem btn_12 {w : Nat} (h : w ≤ 255) : bt (nI w) 12 = nI (btn w 8) := by
  have q := List.all_eq_true.mp btn_tab w (List.mem_range.mpr (by omega))
  exact of_decide_eq_true ((Bool.and_eq_true _ _).mp q).1
theorem btn_i {w i : Nat} (h : w ≤ 255) (hi : i < 8) : (hb (nI w) (nI i) ∧ btn w (i + 1) = btn w i + 1 ∧ btn w (i + 1) ≤ btn w 8) ∨ (¬ hb (nI w) (nI i) ∧ btn w (i + 1) = btn w i ∧ btn w (i + 1) ≤ btn w 8) := by
  have q := List.all_eq_true.mp btn_tab w (List.mem_range.mpr (by omega))
  unfold hb
  exact of_decide_eq_true (List.all_eq_true.mp ((Bool.and_eq_true _ _).mp q).2 i (List.mem_range.mpr hi))
theorem btn_le8 (w : Nat) : btn w 8 ≤ 8 := by
  rw [btn]; exact Nat.le_trans (List.length_filter_le _ _) (by rw [List.length_range]; omega)
theorem dX12_laysSums_0 : decode cX12_laysSums 0 = .ok (.aload_n 0, 1) := by decide +kernel
theorem dX12_laysSums_1 : decode cX12_laysSums 1 = .ok (.getfield 83, 3) := by decide +kernel
theorem dX12_laysSums_4 : decode cX12_laysSums 4 = .ok (.iconst 0, 1) := by decide +kernel
theorem dX12_laysSums_5 : decode cX12_laysSums 5 = .ok (.iconst 0, 1) := by decide +kernel
theorem dX12_laysSums_6 : decode cX12_laysSums 6 = .ok (.iastore, 1) := by decide +kernel
theorem dX12_laysSums_7 : decode cX12_laysSums 7 = .ok (.iconst 0, 1) := by decide +kernel
theorem dX12_laysSums_8 : decode cX12_laysSums 8 = .ok (.istore_n 2, 1) := by decide +kernel
theorem dX12_laysSums_9 : decode cX12_laysSums 9 = .ok (.iload_n 2, 1) := by decide +kernel
theorem dX12_laysSums_10 : decode cX12_laysSums 10 = .ok (.aload_n 0, 1) := by decide +kernel
theorem dX12_laysSums_11 : decode cX12_laysSums 11 = .ok (.getfield 344, 3) := by decide +kernel
theorem dX12_laysSums_14 : decode cX12_laysSums 14 = .ok (.if_icmp .ge 58, 3) := by decide +kernel
theorem dX12_laysSums_17 : decode cX12_laysSums 17 = .ok (.aload_n 0, 1) := by decide +kernel
theorem dX12_laysSums_18 : decode cX12_laysSums 18 = .ok (.aload_n 0, 1) := by decide +kernel
theorem dX12_laysSums_19 : decode cX12_laysSums 19 = .ok (.getfield 74, 3) := by decide +kernel
theorem dX12_laysSums_22 : decode cX12_laysSums 22 = .ok (.iload_n 2, 1) := by decide +kernel
theorem dX12_laysSums_23 : decode cX12_laysSums 23 = .ok (.iaload, 1) := by decide +kernel
theorem dX12_laysSums_24 : decode cX12_laysSums 24 = .ok (.iload_n 1, 1) := by decide +kernel
theorem dX12_laysSums_25 : decode cX12_laysSums 25 = .ok (.invokevirtual 275, 3) := by decide +kernel
theorem dX12_laysSums_28 : decode cX12_laysSums 28 = .ok (.istore_n 3, 1) := by decide +kernel
theorem dX12_laysSums_29 : decode cX12_laysSums 29 = .ok (.iconst 0, 1) := by decide +kernel
theorem dX12_laysSums_30 : decode cX12_laysSums 30 = .ok (.istore 4, 2) := by decide +kernel
theorem dX12_laysSums_32 : decode cX12_laysSums 32 = .ok (.iload 4, 2) := by decide +kernel
theorem dX12_laysSums_34 : decode cX12_laysSums 34 = .ok (.iconst 1, 1) := by decide +kernel
theorem dX12_laysSums_35 : decode cX12_laysSums 35 = .ok (.iload_n 2, 1) := by decide +kernel
theorem dX12_laysSums_36 : decode cX12_laysSums 36 = .ok (.ishl, 1) := by decide +kernel
theorem dX12_laysSums_37 : decode cX12_laysSums 37 = .ok (.if_icmp .ge 29, 3) := by decide +kernel
theorem dX12_laysSums_40 : decode cX12_laysSums 40 = .ok (.aload_n 0, 1) := by decide +kernel
theorem dX12_laysSums_41 : decode cX12_laysSums 41 = .ok (.getfield 83, 3) := by decide +kernel
theorem dX12_laysSums_44 : decode cX12_laysSums 44 = .ok (.iload 4, 2) := by decide +kernel
theorem dX12_laysSums_46 : decode cX12_laysSums 46 = .ok (.iconst 1, 1) := by decide +kernel
theorem dX12_laysSums_47 : decode cX12_laysSums 47 = .ok (.iload_n 2, 1) := by decide +kernel
theorem dX12_laysSums_48 : decode cX12_laysSums 48 = .ok (.ishl, 1) := by decide +kernel
theorem dX12_laysSums_49 : decode cX12_laysSums 49 = .ok (.ior, 1) := by decide +kernel
theorem dX12_laysSums_50 : decode cX12_laysSums 50 = .ok (.aload_n 0, 1) := by decide +kernel
theorem dX12_laysSums_51 : decode cX12_laysSums 51 = .ok (.getfield 83, 3) := by decide +kernel
theorem dX12_laysSums_54 : decode cX12_laysSums 54 = .ok (.iload 4, 2) := by decide +kernel
theorem dX12_laysSums_56 : decode cX12_laysSums 56 = .ok (.iaload, 1) := by decide +kernel
theorem dX12_laysSums_57 : decode cX12_laysSums 57 = .ok (.iload_n 3, 1) := by decide +kernel
theorem dX12_laysSums_58 : decode cX12_laysSums 58 = .ok (.iadd, 1) := by decide +kernel
theorem dX12_laysSums_59 : decode cX12_laysSums 59 = .ok (.iastore, 1) := by decide +kernel
theorem dX12_laysSums_60 : decode cX12_laysSums 60 = .ok (.iinc 4 1, 3) := by decide +kernel
theorem dX12_laysSums_63 : decode cX12_laysSums 63 = .ok (.goto (-31), 3) := by decide +kernel
theorem dX12_laysSums_66 : decode cX12_laysSums 66 = .ok (.iinc 2 1, 3) := by decide +kernel
theorem dX12_laysSums_69 : decode cX12_laysSums 69 = .ok (.goto (-60), 3) := by decide +kernel
theorem dX12_laysSums_72 : decode cX12_laysSums 72 = .ok (.return_, 1) := by decide +kernel
set_option maxRecDepth 20000 in
set_option maxHeartbeats 4000000 in
theorem m_laysSums (E : xE) (l : Launch) (a : Nat → Nat) (cd : Cd) (hG : Good cd) (kf : Int32) (jn js jq : Lb) (ws : va_W) (hW : WX (okM E a cd kf jn js jq) ws) (wk0 : Nat) (fn : Nat → Int32) (hfn : ws[1]? = some (iA E (a 1) 382 fn)) (om pm : Nat) (h0 : PO a cd kf ws om pm) (hom : om ≤ 10) (og : Nat → Nat) (hob : ∀ j, og j ≤ 47) (hog : ws[22]? = some (iA E (a 22) 12 (fun j => nI (og j)))) : xV E l yX12_laysSums cX12_laysSums 5 4 0 0 [.ref (a 0), .int (nI wk0)] ws (fun w => WX (okM E a cd kf jn js jq) w ∧ keeps ws w (fun q => q = 16 ∨ q = 17 ∨ q = 25) ∧ (∃ S : Nat → Int32, w[25]? = some (iA E (a 25) 1024 S) ∧ PT S (wvs cd fn og wk0) om)) := by
  refine xV_start (lv := [(0, .ref (a 0)), (1, .int (nI wk0))]) RX12 (by decide) rfl (Nat.le_of_ble_eq_true rfl) rfl (fun p e s m below meth c A C hr hlk hin => ?_)
  have kp0 : keeps ws ws (fun q => q = 16 ∨ q = 17 ∨ q = 25) := keeps_rf
  obtain ⟨_, kq1, fq, pfq, rfl⟩ := hW 1 _ rfl
  obtain rfl := iA_inj (hfn.symm.trans kq1)
  obtain ⟨n1, n2, n3, n4, n5, n6, n7, v8, v9, v10, v11, v12, v13, v14, bo15, bo16, k17⟩ := h0
  obtain ⟨_, k18, f19, rfl⟩ := hW 25 _ rfl
  refine x_aload_n C dX12_laysSums_0 rfl 0 rfl rfl ?_
  refine x_get C (ci := 11) (k := 41) 0 k17 rfl in_X12 (by decide) w_1159 rfl dX12_laysSums_1 rfl ?_
  refine x_iconst C (v := 0) dX12_laysSums_4 (by decide) rfl ?_
  refine x_iconst C (v := 0) dX12_laysSums_5 (by decide) rfl ?_
  obtain ⟨w20, hw21⟩ : ∃ w : va_W, w = List.set ws 25 (iA E (a 25) 1024 (upd f19 0 (0 : Int32))) := ⟨_, rfl⟩
  refine x_iask C 0 (by decide) (by decide) (by decide) 25 k18 hw21.symm dX12_laysSums_6 rfl ?_
  have hW22 : WX (okM E a cd kf jn js jq) w20 := by rw [hw21]; exact hW.set (k := 25) rfl ⟨_, rfl⟩
  have k23 : w20[1]? = some (iA E (a 1) 382 fn) := by rw [hw21]; exact set_ne hfn (by decide)
  have k24 : w20[0]? = some (ob (a 0) 11 [.ref (a 1), .ref (a 2), .ref (a 3), .ref (a 4), .int (nI n1), .int (nI n2), .int (nI n3), .int v8, .int v9, .int v10, .int (nI n4), .int (nI n5), .int (nI n6), .int (nI (cd.2.2.2.2.2)), .ref (a 5), .ref (a 6), .ref (a 7), .ref (a 8), .ref (a 9), .ref (a 10), .ref (a 11), .ref (a 12), .ref (a 13), .ref (a 14), .ref (a 15), .ref (a 16), .ref (a 17), .int (nI n7), .ref (a 18), .ref (a 19), .ref (a 20), .ref (a 21), .int v11, .int v12, .int v13, .int v14, .int (nI om), .int (nI pm), .ref (a 22), .ref (a 23), .ref (a 24), .ref (a 25), .ref (a 26), .ref (a 27), .ref (a 28), .ref (a 29), .ref (a 30), .int kf]) := by rw [hw21]; exact set_ne k17 (by decide)
  have k25 : w20[22]? = some (iA E (a 22) 12 (fun j => nI (og j))) := by rw [hw21]; exact set_ne hog (by decide)
  have k26 : w20[25]? = some (iA E (a 25) 1024 (upd f19 0 (0 : Int32))) := by rw [hw21]; exact set_eq k18
  have kp27 := keeps_set kp0 hw21 (by first | exact rfl | decide | omega | (dsimp only; omega))
  refine x_iconst C (v := 0) dX12_laysSums_7 (by decide) rfl ?_
  refine x_istore_n C (lv' := [(2, .int 0), (0, .ref (a 0)), (1, .int (nI wk0))]) dX12_laysSums_8 rfl (by decide) rfl rfl ?_
  have loop9 : ∀ (fu9 : Nat) (k : Nat) (wl9 : va_W), WX (okM E a cd kf jn js jq) wl9 → om - k < fu9 → k ≤ om → (∃ S : Nat → Int32, wl9[25]? = some (iA E (a 25) 1024 S) ∧ PT S (wvs cd fn og wk0) k) → keeps ws wl9 (fun q => q = 16 ∨ q = 17 ∨ q = 25) → X E p l e (xRm 4 0 0) s m ([.ref (a 0), .int (nI wk0)] : List Value).toArray below meth c A 5 0 0 (MQ below (va_Qv (fun w => WX (okM E a cd kf jn js jq) w ∧ keeps ws w (fun q => q = 16 ∨ q = 17 ∨ q = 25) ∧ (∃ S : Nat → Int32, w[25]? = some (iA E (a 25) 1024 S) ∧ PT S (wvs cd fn og wk0) om)) (xB E A) A) ([.ref (a 0), .int (nI wk0)] : List Value).toArray s 0 0 A) wl9 9 [(0, .ref (a 0)), (1, .int (nI wk0)), (2, .int (nI k))] [] := by
    intro fu9
    induction fu9 with
    | zero => intro k wl9 _ q; omega
    | succ fu9 ih9 =>
      intro k wl9 hWl9 me9 iv9_0 iv9_1 kq9
      have k28 : wl9[0]? = some (ob (a 0) 11 [.ref (a 1), .ref (a 2), .ref (a 3), .ref (a 4), .int (nI n1), .int (nI n2), .int (nI n3), .int v8, .int v9, .int v10, .int (nI n4), .int (nI n5), .int (nI n6), .int (nI (cd.2.2.2.2.2)), .ref (a 5), .ref (a 6), .ref (a 7), .ref (a 8), .ref (a 9), .ref (a 10), .ref (a 11), .ref (a 12), .ref (a 13), .ref (a 14), .ref (a 15), .ref (a 16), .ref (a 17), .int (nI n7), .ref (a 18), .ref (a 19), .ref (a 20), .ref (a 21), .int v11, .int v12, .int v13, .int v14, .int (nI om), .int (nI pm), .ref (a 22), .ref (a 23), .ref (a 24), .ref (a 25), .ref (a 26), .ref (a 27), .ref (a 28), .ref (a 29), .ref (a 30), .int kf]) := keeps_at kq9 k17 (by first | decide | omega | (dsimp only; omega))
      have k29 : wl9[1]? = some (iA E (a 1) 382 fn) := keeps_at kq9 hfn (by first | decide | omega | (dsimp only; omega))
      have k30 : wl9[22]? = some (iA E (a 22) 12 (fun j => nI (og j))) := keeps_at kq9 hog (by first | decide | omega | (dsimp only; omega))
      obtain ⟨ps31, k32, hPTps31⟩ := iv9_1
      refine x_iload_n C dX12_laysSums_9 rfl 2 rfl rfl ?_
      refine x_aload_n C dX12_laysSums_10 rfl 0 rfl rfl ?_
      refine x_get C (ci := 11) (k := 36) 0 k28 rfl in_X12 (by decide) w_1154 rfl dX12_laysSums_11 rfl ?_
      refine x_icmp_ge C (tgt := 72) dX12_laysSums_14 (by decide) rfl (fun c33 => ?_) (fun c33 => ?_)
      · skip
        have nf34 := nI_le' (a := om) (b := k) c33 (by omega) (by omega)
        exact x_vret C hr hlk dX12_laysSums_72 ⟨hWl9, kq9, ⟨_, k32, (show k = om from by omega) ▸ hPTps31⟩⟩
      · skip
        have nf35 := nI_nle' (a := om) (b := k) c33 (by omega) (by omega)
        have hp2k := p2_10 (k := k + 1) (by omega)
        rw [p2_s] at hp2k
        refine x_aload_n C dX12_laysSums_17 rfl 0 rfl rfl ?_
        refine x_aload_n C dX12_laysSums_18 rfl 0 rfl rfl ?_
        refine x_get C (ci := 11) (k := 38) 0 k28 rfl in_X12 (by decide) w_1156 rfl dX12_laysSums_19 rfl ?_
        refine x_iload_n C dX12_laysSums_22 rfl 2 rfl rfl ?_
        refine x_ialk C (v := nI (og k)) k (nI_clamp (by omega)) (nI_pos (by omega)) (by omega) 22 k30 rfl dX12_laysSums_23 rfl ?_
        have bx36 := hob k
        refine x_iload_n C dX12_laysSums_24 rfl 1 rfl rfl ?_
        refine x_vi C (As := [.int (nI (og k)), .int (nI wk0)]) (rest := []) (m_worthFor E l a cd hG kf jn js jq wl9 hWl9 (og k) ((nI wk0)) (by omega) fn k29) mf_X12_worthFor w_1451 0 k28 rfl rfl rfl (Nat.le_of_ble_eq_true rfl) ⟨(Nat.le_of_ble_eq_true rfl), (Nat.le_of_ble_eq_true rfl)⟩ ⟨(Nat.le_of_ble_eq_true rfl), (Nat.le_of_ble_eq_true rfl)⟩ dX12_laysSums_25 rfl (fun r38 w39 h37 => ?_)
        obtain ⟨hW40, kq41, ⟨m43, bm44, e42⟩, x45⟩ := h37
        refine x_top e42 ?_
        have k46 : w39[0]? = some (ob (a 0) 11 [.ref (a 1), .ref (a 2), .ref (a 3), .ref (a 4), .int (nI n1), .int (nI n2), .int (nI n3), .int v8, .int v9, .int v10, .int (nI n4), .int (nI n5), .int (nI n6), .int (nI (cd.2.2.2.2.2)), .ref (a 5), .ref (a 6), .ref (a 7), .ref (a 8), .ref (a 9), .ref (a 10), .ref (a 11), .ref (a 12), .ref (a 13), .ref (a 14), .ref (a 15), .ref (a 16), .ref (a 17), .int (nI n7), .ref (a 18), .ref (a 19), .ref (a 20), .ref (a 21), .int v11, .int v12, .int v13, .int v14, .int (nI om), .int (nI pm), .ref (a 22), .ref (a 23), .ref (a 24), .ref (a 25), .ref (a 26), .ref (a 27), .ref (a 28), .ref (a 29), .ref (a 30), .int kf]) := keeps_at kq41 k28 (by first | decide | omega | (dsimp only; omega))
        have k47 : w39[1]? = some (iA E (a 1) 382 fn) := keeps_at kq41 k29 (by first | decide | omega | (dsimp only; omega))
        have k48 : w39[22]? = some (iA E (a 22) 12 (fun j => nI (og j))) := keeps_at kq41 k30 (by first | decide | omega | (dsimp only; omega))
        have k49 : w39[25]? = some (iA E (a 25) 1024 ps31) := keeps_at kq41 k32 (by first | decide | omega | (dsimp only; omega))
        have kp50 := keeps_tr kq9 kq41 (fun q hq => by first | omega | (dsimp only at *; omega))
        have hw51 : nI m43 = wvs cd fn og wk0 k := e42.symm.trans x45
        refine x_top hw51 ?_
        refine x_istore_n C (lv' := [(3, .int (wvs cd fn og wk0 k)), (0, .ref (a 0)), (1, .int (nI wk0)), (2, .int (nI k))]) dX12_laysSums_28 rfl (by decide) rfl rfl ?_
        refine x_iconst C (v := 0) dX12_laysSums_29 (by decide) rfl ?_
        refine x_istore C (lv' := [(4, .int 0), (3, .int (wvs cd fn og wk0 k)), (0, .ref (a 0)), (1, .int (nI wk0)), (2, .int (nI k))]) dX12_laysSums_30 (by decide) rfl rfl ?_
        have loop32 : ∀ (fu32 : Nat) (se : Nat) (wl32 : va_W), WX (okM E a cd kf jn js jq) wl32 → p2 k - se < fu32 → se ≤ p2 k → (∃ S : Nat → Int32, wl32[25]? = some (iA E (a 25) 1024 S) ∧ PT S (wvs cd fn og wk0) k ∧ ∀ s, s < se → S (s + p2 k) = S s + wvs cd fn og wk0 k) → keeps ws wl32 (fun q => q = 16 ∨ q = 17 ∨ q = 25) → X E p l e (xRm 4 0 0) s m ([.ref (a 0), .int (nI wk0)] : List Value).toArray below meth c A 5 0 0 (MQ below (va_Qv (fun w => WX (okM E a cd kf jn js jq) w ∧ keeps ws w (fun q => q = 16 ∨ q = 17 ∨ q = 25) ∧ (∃ S : Nat → Int32, w[25]? = some (iA E (a 25) 1024 S) ∧ PT S (wvs cd fn og wk0) om)) (xB E A) A) ([.ref (a 0), .int (nI wk0)] : List Value).toArray s 0 0 A) wl32 32 [(0, .ref (a 0)), (1, .int (nI wk0)), (2, .int (nI k)), (3, .int (wvs cd fn og wk0 k)), (4, .int (nI se))] [] := by
          intro fu32
          induction fu32 with
          | zero => intro se wl32 _ q; omega
          | succ fu32 ih32 =>
            intro se wl32 hWl32 me32 iv32_0 iv32_1 kq32
            have k52 : wl32[0]? = some (ob (a 0) 11 [.ref (a 1), .ref (a 2), .ref (a 3), .ref (a 4), .int (nI n1), .int (nI n2), .int (nI n3), .int v8, .int v9, .int v10, .int (nI n4), .int (nI n5), .int (nI n6), .int (nI (cd.2.2.2.2.2)), .ref (a 5), .ref (a 6), .ref (a 7), .ref (a 8), .ref (a 9), .ref (a 10), .ref (a 11), .ref (a 12), .ref (a 13), .ref (a 14), .ref (a 15), .ref (a 16), .ref (a 17), .int (nI n7), .ref (a 18), .ref (a 19), .ref (a 20), .ref (a 21), .int v11, .int v12, .int v13, .int v14, .int (nI om), .int (nI pm), .ref (a 22), .ref (a 23), .ref (a 24), .ref (a 25), .ref (a 26), .ref (a 27), .ref (a 28), .ref (a 29), .ref (a 30), .int kf]) := keeps_at kq32 k17 (by first | decide | omega | (dsimp only; omega))
            have k53 : wl32[1]? = some (iA E (a 1) 382 fn) := keeps_at kq32 hfn (by first | decide | omega | (dsimp only; omega))
            have k54 : wl32[22]? = some (iA E (a 22) 12 (fun j => nI (og j))) := keeps_at kq32 hog (by first | decide | omega | (dsimp only; omega))
            obtain ⟨ps55, k56, hPTps55, hrowps55⟩ := iv32_1
            refine x_iload C dX12_laysSums_32 4 rfl rfl ?_
            refine x_iconst C (v := 1) dX12_laysSums_34 (by decide) rfl ?_
            refine x_iload_n C dX12_laysSums_35 rfl 2 rfl rfl ?_
            refine x_ishl C (v := (nI (p2 k))) dX12_laysSums_36 (shp (by omega)) rfl ?_
            refine x_icmp_ge C (tgt := 66) dX12_laysSums_37 (by decide) rfl (fun c57 => ?_) (fun c57 => ?_)
            · skip
              have nf58 := nI_le' (a := (p2 k)) (b := se) c57 (by omega) (by omega)
              refine x_iinc C (v := (nI (k + 1))) (lv' := [(2, .int (nI (k + 1))), (0, .ref (a 0)), (1, .int (nI wk0)), (3, .int (wvs cd fn og wk0 k)), (4, .int (nI se))]) dX12_laysSums_66 2 rfl (nI_add k 1) (by decide) rfl rfl ?_
              refine x_goto C (tgt := 9) dX12_laysSums_69 (by decide) ?_
              refine x_lv (lv1 := [(0, .ref (a 0)), (1, .int (nI wk0)), (2, .int (nI (k + 1)))]) [1, 2, 0] rfl ?_
              exact ih9 (k + 1) wl32 hWl32 (by omega) (by omega) ⟨_, k56, PT_succ hPTps55 (fun s9 h9 => hrowps55 s9 (by omega))⟩ kq32
            · skip
              have nf59 := nI_nle' (a := (p2 k)) (b := se) c57 (by omega) (by omega)
              refine x_aload_n C dX12_laysSums_40 rfl 0 rfl rfl ?_
              refine x_get C (ci := 11) (k := 41) 0 k52 rfl in_X12 (by decide) w_1159 rfl dX12_laysSums_41 rfl ?_
              refine x_iload C dX12_laysSums_44 4 rfl rfl ?_
              refine x_iconst C (v := 1) dX12_laysSums_46 (by decide) rfl ?_
              refine x_iload_n C dX12_laysSums_47 rfl 2 rfl rfl ?_
              refine x_ishl C (v := (nI (p2 k))) dX12_laysSums_48 (shp (by omega)) rfl ?_
              refine x_ior C (v := (nI (se + p2 k))) dX12_laysSums_49 (orp (by omega) (by omega)) rfl ?_
              refine x_aload_n C dX12_laysSums_50 rfl 0 rfl rfl ?_
              refine x_get C (ci := 11) (k := 41) 0 k52 rfl in_X12 (by decide) w_1159 rfl dX12_laysSums_51 rfl ?_
              refine x_iload C dX12_laysSums_54 4 rfl rfl ?_
              refine x_ialk C (v := (ps55 se)) se (nI_clamp (by omega)) (nI_pos (by omega)) (by omega) 25 k56 rfl dX12_laysSums_56 rfl ?_
              refine x_iload_n C dX12_laysSums_57 rfl 3 rfl rfl ?_
              refine x_iadd C (v := ((ps55 se) + (wvs cd fn og wk0 k))) dX12_laysSums_58 rfl rfl ?_
              obtain ⟨w60, hw61⟩ : ∃ w : va_W, w = List.set wl32 25 (iA E (a 25) 1024 (upd ps55 (se + p2 k) ((ps55 se) + (wvs cd fn og wk0 k)))) := ⟨_, rfl⟩
              refine x_iask C (se + p2 k) (nI_clamp (by omega)) (nI_pos (by omega)) (by omega) 25 k56 hw61.symm dX12_laysSums_59 rfl ?_
              have hW62 : WX (okM E a cd kf jn js jq) w60 := by rw [hw61]; exact hWl32.set (k := 25) rfl ⟨_, rfl⟩
              have k63 : w60[0]? = some (ob (a 0) 11 [.ref (a 1), .ref (a 2), .ref (a 3), .ref (a 4), .int (nI n1), .int (nI n2), .int (nI n3), .int v8, .int v9, .int v10, .int (nI n4), .int (nI n5), .int (nI n6), .int (nI (cd.2.2.2.2.2)), .ref (a 5), .ref (a 6), .ref (a 7), .ref (a 8), .ref (a 9), .ref (a 10), .ref (a 11), .ref (a 12), .ref (a 13), .ref (a 14), .ref (a 15), .ref (a 16), .ref (a 17), .int (nI n7), .ref (a 18), .ref (a 19), .ref (a 20), .ref (a 21), .int v11, .int v12, .int v13, .int v14, .int (nI om), .int (nI pm), .ref (a 22), .ref (a 23), .ref (a 24), .ref (a 25), .ref (a 26), .ref (a 27), .ref (a 28), .ref (a 29), .ref (a 30), .int kf]) := by rw [hw61]; exact set_ne k52 (by decide)
              have k64 : w60[1]? = some (iA E (a 1) 382 fn) := by rw [hw61]; exact set_ne k53 (by decide)
              have k65 : w60[22]? = some (iA E (a 22) 12 (fun j => nI (og j))) := by rw [hw61]; exact set_ne k54 (by decide)
              have k66 : w60[25]? = some (iA E (a 25) 1024 (upd ps55 (se + p2 k) ((ps55 se) + (wvs cd fn og wk0 k)))) := by rw [hw61]; exact set_eq k56
              have kp67 := keeps_set kq32 hw61 (by first | exact rfl | decide | omega | (dsimp only; omega))
              refine x_iinc C (v := (nI (se + 1))) (lv' := [(4, .int (nI (se + 1))), (0, .ref (a 0)), (1, .int (nI wk0)), (2, .int (nI k)), (3, .int (wvs cd fn og wk0 k))]) dX12_laysSums_60 4 rfl (nI_add se 1) (by decide) rfl rfl ?_
              refine x_goto C (tgt := 32) dX12_laysSums_63 (by decide) ?_
              refine x_lv (lv1 := [(0, .ref (a 0)), (1, .int (nI wk0)), (2, .int (nI k)), (3, .int (wvs cd fn og wk0 k)), (4, .int (nI (se + 1)))]) [1, 2, 3, 4, 0] rfl ?_
              exact ih32 (se + 1) w60 hW62 (by omega) (by omega) ⟨_, k66, PT_far hPTps55 (by omega), PT_row hrowps55 (by omega)⟩ kp67
        refine x_lv (lv1 := [(0, .ref (a 0)), (1, .int (nI wk0)), (2, .int (nI k)), (3, .int (wvs cd fn og wk0 k)), (4, .int 0)]) [2, 3, 4, 1, 0] rfl ?_
        exact loop32 _ 0 w39 hW40 (Nat.lt_succ_self _) (by omega) ⟨_, k49, hPTps31, fun s9 h9 => absurd h9 (by omega)⟩ kp50
  refine x_lv (lv1 := [(0, .ref (a 0)), (1, .int (nI wk0)), (2, .int 0)]) [1, 2, 0] rfl ?_
  exact loop9 _ 0 w20 hW22 (Nat.lt_succ_self _) (by omega) ⟨_, k26, pk_us, fun j hj => absurd hj (by omega)⟩ kp27
theorem dX12_planBy_0 : decode cX12_planBy 0 = .ok (.aload_n 0, 1) := by decide +kernel
theorem dX12_planBy_1 : decode cX12_planBy 1 = .ok (.getfield 77, 3) := by decide +kernel
theorem dX12_planBy_4 : decode cX12_planBy 4 = .ok (.iload_n 1, 1) := by decide +kernel
theorem dX12_planBy_5 : decode cX12_planBy 5 = .ok (.iaload, 1) := by decide +kernel
theorem dX12_planBy_6 : decode cX12_planBy 6 = .ok (.istore 4, 2) := by decide +kernel
theorem dX12_planBy_8 : decode cX12_planBy 8 = .ok (.aload_n 0, 1) := by decide +kernel
theorem dX12_planBy_9 : decode cX12_planBy 9 = .ok (.getfield 7, 3) := by decide +kernel
theorem dX12_planBy_12 : decode cX12_planBy 12 = .ok (.sipush 346, 3) := by decide +kernel
theorem dX12_planBy_15 : decode cX12_planBy 15 = .ok (.iload 4, 2) := by decide +kernel
theorem dX12_planBy_17 : decode cX12_planBy 17 = .ok (.iadd, 1) := by decide +kernel
theorem dX12_planBy_18 : decode cX12_planBy 18 = .ok (.iaload, 1) := by decide +kernel
theorem dX12_planBy_19 : decode cX12_planBy 19 = .ok (.aload_n 0, 1) := by decide +kernel
theorem dX12_planBy_20 : decode cX12_planBy 20 = .ok (.getfield 83, 3) := by decide +kernel
theorem dX12_planBy_23 : decode cX12_planBy 23 = .ok (.iload_n 3, 1) := by decide +kernel
theorem dX12_planBy_24 : decode cX12_planBy 24 = .ok (.iaload, 1) := by decide +kernel
theorem dX12_planBy_25 : decode cX12_planBy 25 = .ok (.iadd, 1) := by decide +kernel
theorem dX12_planBy_26 : decode cX12_planBy 26 = .ok (.aload_n 0, 1) := by decide +kernel
theorem dX12_planBy_27 : decode cX12_planBy 27 = .ok (.getfield 7, 3) := by decide +kernel
theorem dX12_planBy_30 : decode cX12_planBy 30 = .ok (.sipush 338, 3) := by decide +kernel
theorem dX12_planBy_33 : decode cX12_planBy 33 = .ok (.iload 4, 2) := by decide +kernel
theorem dX12_planBy_35 : decode cX12_planBy 35 = .ok (.iadd, 1) := by decide +kernel
theorem dX12_planBy_36 : decode cX12_planBy 36 = .ok (.iaload, 1) := by decide +kernel
theorem dX12_planBy_37 : decode cX12_planBy 37 = .ok (.if_icmp .lt 17, 3) := by decide +kernel
theorem dX12_planBy_40 : decode cX12_planBy 40 = .ok (.aload_n 0, 1) := by decide +kernel
theorem dX12_planBy_41 : decode cX12_planBy 41 = .ok (.getfield 7, 3) := by decide +kernel
theorem dX12_planBy_44 : decode cX12_planBy 44 = .ok (.sipush 354, 3) := by decide +kernel
theorem dX12_planBy_47 : decode cX12_planBy 47 = .ok (.iload 4, 2) := by decide +kernel
theorem dX12_planBy_49 : decode cX12_planBy 49 = .ok (.iadd, 1) := by decide +kernel
theorem dX12_planBy_50 : decode cX12_planBy 50 = .ok (.iaload, 1) := by decide +kernel
theorem dX12_planBy_51 : decode cX12_planBy 51 = .ok (.goto 4, 3) := by decide +kernel
theorem dX12_planBy_54 : decode cX12_planBy 54 = .ok (.iconst 0, 1) := by decide +kernel
theorem dX12_planBy_55 : decode cX12_planBy 55 = .ok (.istore 5, 2) := by decide +kernel
theorem dX12_planBy_57 : decode cX12_planBy 57 = .ok (.bipush 64, 2) := by decide +kernel
theorem dX12_planBy_59 : decode cX12_planBy 59 = .ok (.iload 5, 2) := by decide +kernel
theorem dX12_planBy_61 : decode cX12_planBy 61 = .ok (.imul, 1) := by decide +kernel
theorem dX12_planBy_62 : decode cX12_planBy 62 = .ok (.iload_n 3, 1) := by decide +kernel
theorem dX12_planBy_63 : decode cX12_planBy 63 = .ok (.invokestatic 347, 3) := by decide +kernel
theorem dX12_planBy_66 : decode cX12_planBy 66 = .ok (.isub, 1) := by decide +kernel
theorem dX12_planBy_67 : decode cX12_planBy 67 = .ok (.aload_n 0, 1) := by decide +kernel
theorem dX12_planBy_68 : decode cX12_planBy 68 = .ok (.getfield 80, 3) := by decide +kernel
theorem dX12_planBy_71 : decode cX12_planBy 71 = .ok (.sipush 1024, 3) := by decide +kernel
theorem dX12_planBy_74 : decode cX12_planBy 74 = .ok (.iload_n 1, 1) := by decide +kernel
theorem dX12_planBy_75 : decode cX12_planBy 75 = .ok (.iconst 1, 1) := by decide +kernel
theorem dX12_planBy_76 : decode cX12_planBy 76 = .ok (.iadd, 1) := by decide +kernel
theorem dX12_planBy_77 : decode cX12_planBy 77 = .ok (.imul, 1) := by decide +kernel
theorem dX12_planBy_78 : decode cX12_planBy 78 = .ok (.iload_n 2, 1) := by decide +kernel
theorem dX12_planBy_79 : decode cX12_planBy 79 = .ok (.iload_n 3, 1) := by decide +kernel
theorem dX12_planBy_80 : decode cX12_planBy 80 = .ok (.iconst (-1), 1) := by decide +kernel
theorem dX12_planBy_81 : decode cX12_planBy 81 = .ok (.ixor, 1) := by decide +kernel
theorem dX12_planBy_82 : decode cX12_planBy 82 = .ok (.iand, 1) := by decide +kernel
theorem dX12_planBy_83 : decode cX12_planBy 83 = .ok (.iadd, 1) := by decide +kernel
theorem dX12_planBy_84 : decode cX12_planBy 84 = .ok (.iaload, 1) := by decide +kernel
theorem dX12_planBy_85 : decode cX12_planBy 85 = .ok (.iadd, 1) := by decide +kernel
theorem dX12_planBy_86 : decode cX12_planBy 86 = .ok (.ireturn, 1) := by decide +kernel
set_option maxRecDepth 20000 in
set_option maxHeartbeats 4000000 in
theorem m_planBy (E : xE) (l : Launch) (a : Nat → Nat) (cd : Cd) (hG : Good cd) (kf : Int32) (jn js jq : Lb) (ws : va_W) (hW : WX (okM E a cd kf jn js jq) ws) (w0 : Nat) (l0 : Nat) (s0 : Nat) (hw0 : w0 ≤ 3) (hl0 : l0 < 1024) (hs0 : s0 < 1024) (fn : Nat → Int32) (hfn : ws[1]? = some (iA E (a 1) 382 fn)) (pw : Nat → Nat) (hpb : ∀ j, pw j ≤ 7) (hpw : ws[23]? = some (iA E (a 23) 4 (fun j => nI (pw j)))) (ps : Nat → Int32) (hps : ws[25]? = some (iA E (a 25) 1024 ps)) (pb : Nat → Int32) (hpbst : ws[24]? = some (iA E (a 24) 5120 pb)) : xI E l yX12_planBy cX12_planBy 6 (some .int) 1 [.ref (a 0), .int (nI w0), .int (nI l0), .int (nI s0)] ws (fun r w => w = ws ∧ (r = pB fn ps pb pw w0 l0 s0)) := by
  refine xI_start (lv := [(0, .ref (a 0)), (1, .int (nI w0)), (2, .int (nI l0)), (3, .int (nI s0))]) RX12 (by decide) rfl (Nat.le_of_ble_eq_true rfl) rfl (fun p e s m below meth c A C hr hlk => ?_)
  obtain ⟨_, kq1, fq, pfq, rfl⟩ := hW 1 _ rfl
  obtain rfl := iA_inj (hfn.symm.trans kq1)
  have hla := la_le (l := l0) (by omega) s0
  refine x_aload_n C dX12_planBy_0 rfl 0 rfl rfl ?_
  obtain ⟨_, k1, n2, n4, n6, v8, v9, v10, n11, n13, n15, n17, v19, v20, v21, v22, n23, n25, bn3, bn5, bn7, bn12, bn14, bn16, bn18, bn24, bn26, rfl⟩ := hW 0 _ rfl
  refine x_get C (ci := 11) (k := 39) 0 k1 rfl in_X12 (by decide) w_1157 rfl dX12_planBy_1 rfl ?_
  refine x_iload_n C dX12_planBy_4 rfl 1 rfl rfl ?_
  refine x_ialk C (v := nI (pw w0)) w0 (nI_clamp (by omega)) (nI_pos (by omega)) (by omega) 23 hpw rfl dX12_planBy_5 rfl ?_
  have bx27 := hpb w0
  refine x_istore C (lv' := [(4, .int (nI (pw w0))), (0, .ref (a 0)), (1, .int (nI w0)), (2, .int (nI l0)), (3, .int (nI s0))]) dX12_planBy_6 (by decide) rfl rfl ?_
  refine x_aload_n C dX12_planBy_8 rfl 1 rfl rfl ?_
  refine x_get C (ci := 11) (k := 0) 0 k1 rfl in_X12 (by decide) w_1118 rfl dX12_planBy_9 rfl ?_
  refine x_sipush C (v := 346) dX12_planBy_12 (by decide) rfl ?_
  refine x_iload C dX12_planBy_15 0 rfl rfl ?_
  refine x_iadd C (v := (nI (346 + (pw w0)))) dX12_planBy_17 (nI_add 346 (pw w0)) rfl ?_
  refine x_ialk C (v := (fn (346 + (pw w0)))) (346 + (pw w0)) (nI_clamp (by omega)) (nI_pos (by omega)) (by omega) 1 hfn rfl dX12_planBy_18 rfl ?_
  refine x_aload_n C dX12_planBy_19 rfl 1 rfl rfl ?_
  refine x_get C (ci := 11) (k := 41) 0 k1 rfl in_X12 (by decide) w_1159 rfl dX12_planBy_20 rfl ?_
  refine x_iload_n C dX12_planBy_23 rfl 4 rfl rfl ?_
  refine x_ialk C (v := (ps s0)) s0 (nI_clamp (by omega)) (nI_pos (by omega)) (by omega) 25 hps rfl dX12_planBy_24 rfl ?_
  refine x_iadd C (v := ((fn (346 + (pw w0))) + (ps s0))) dX12_planBy_25 rfl rfl ?_
  refine x_aload_n C dX12_planBy_26 rfl 1 rfl rfl ?_
  refine x_get C (ci := 11) (k := 0) 0 k1 rfl in_X12 (by decide) w_1118 rfl dX12_planBy_27 rfl ?_
  refine x_sipush C (v := 338) dX12_planBy_30 (by decide) rfl ?_
  refine x_iload C dX12_planBy_33 0 rfl rfl ?_
  refine x_iadd C (v := (nI (338 + (pw w0)))) dX12_planBy_35 (nI_add 338 (pw w0)) rfl ?_
  refine x_ialk C (v := (fn (338 + (pw w0)))) (338 + (pw w0)) (nI_clamp (by omega)) (nI_pos (by omega)) (by omega) 1 hfn rfl dX12_planBy_36 rfl ?_
  refine x_icmp_lt C (tgt := 54) dX12_planBy_37 (by decide) rfl (fun c28 => ?_) (fun c28 => ?_)
  · skip
    refine x_iconst C (v := 0) dX12_planBy_54 (by decide) rfl ?_
    refine x_istore C (lv' := [(5, .int 0), (4, .int (nI (pw w0))), (0, .ref (a 0)), (1, .int (nI w0)), (2, .int (nI l0)), (3, .int (nI s0))]) dX12_planBy_55 (by decide) rfl rfl ?_
    refine x_bipush C (v := 64) dX12_planBy_57 (by decide) rfl ?_
    refine x_iload C dX12_planBy_59 0 rfl rfl ?_
    refine x_imul C (v := 0) dX12_planBy_61 (by decide) rfl ?_
    refine x_iload_n C dX12_planBy_62 rfl 5 rfl rfl ?_
    refine x_si C (As := [.int (nI s0)]) (rest := [.int 0]) (m_bits E l a cd hG kf jn js jq ws hW ((nI s0))) mf_X12_bits w_1559 rfl rfl (Nat.le_of_ble_eq_true rfl) ⟨(Nat.le_of_ble_eq_true rfl), (Nat.le_of_ble_eq_true rfl)⟩ ⟨(Nat.le_of_ble_eq_true rfl), (Nat.le_of_ble_eq_true rfl)⟩ dX12_planBy_63 rfl (fun r30 w31 h29 => ?_)
    obtain ⟨hW32, x33⟩ := h29
    refine x_ws hW32 ?_
    refine x_isub C (v := ((0 : Int32) - r30)) dX12_planBy_66 rfl rfl ?_
    refine x_aload_n C dX12_planBy_67 rfl 2 rfl rfl ?_
    refine x_get C (ci := 11) (k := 40) 0 k1 rfl in_X12 (by decide) w_1158 rfl dX12_planBy_68 rfl ?_
    refine x_sipush C (v := 1024) dX12_planBy_71 (by decide) rfl ?_
    refine x_iload_n C dX12_planBy_74 rfl 3 rfl rfl ?_
    refine x_iconst C (v := 1) dX12_planBy_75 (by decide) rfl ?_
    refine x_iadd C (v := (nI (w0 + 1))) dX12_planBy_76 (nI_add w0 1) rfl ?_
    refine x_imul C (v := (nI (1024 * (w0 + 1)))) dX12_planBy_77 (pk_mul 1024 (w0 + 1)) rfl ?_
    refine x_iload_n C dX12_planBy_78 rfl 4 rfl rfl ?_
    refine x_iload_n C dX12_planBy_79 rfl 5 rfl rfl ?_
    refine x_iconst C (v := (-1)) dX12_planBy_80 (by decide) rfl ?_
    refine x_ixor C (v := ((nI s0) ^^^ ((-1) : Int32))) dX12_planBy_81 rfl rfl ?_
    refine x_iand C (v := (nI (la l0 s0))) dX12_planBy_82 (la_eq (by omega) s0) rfl ?_
    refine x_iadd C (v := (nI ((1024 * (w0 + 1)) + (la l0 s0)))) dX12_planBy_83 (nI_add (1024 * (w0 + 1)) (la l0 s0)) rfl ?_
    refine x_ialk C (v := (pb ((1024 * (w0 + 1)) + (la l0 s0)))) ((1024 * (w0 + 1)) + (la l0 s0)) (nI_clamp (by omega)) (nI_pos (by omega)) (by omega) 24 hpbst rfl dX12_planBy_84 rfl ?_
    refine x_iadd C (v := (((0 : Int32) - r30) + (pb ((1024 * (w0 + 1)) + (la l0 s0))))) dX12_planBy_85 rfl rfl ?_
    exact x_zret C hr hlk rfl dX12_planBy_86 ⟨rfl, (by rw [pB, if_pos c28, ← x33]; rfl)⟩
  · skip
    refine x_aload_n C dX12_planBy_40 rfl 1 rfl rfl ?_
    refine x_get C (ci := 11) (k := 0) 0 k1 rfl in_X12 (by decide) w_1118 rfl dX12_planBy_41 rfl ?_
    refine x_sipush C (v := 354) dX12_planBy_44 (by decide) rfl ?_
    refine x_iload C dX12_planBy_47 0 rfl rfl ?_
    refine x_iadd C (v := (nI (354 + (pw w0)))) dX12_planBy_49 (nI_add 354 (pw w0)) rfl ?_
    refine x_ialk C (v := (fn (354 + (pw w0)))) (354 + (pw w0)) (nI_clamp (by omega)) (nI_pos (by omega)) (by omega) 1 hfn rfl dX12_planBy_50 rfl ?_
    refine x_goto C (tgt := 55) dX12_planBy_51 (by decide) ?_
    refine x_istore C (lv' := [(5, .int (fn (354 + (pw w0)))), (4, .int (nI (pw w0))), (0, .ref (a 0)), (1, .int (nI w0)), (2, .int (nI l0)), (3, .int (nI s0))]) dX12_planBy_55 (by decide) rfl rfl ?_
    refine x_bipush C (v := 64) dX12_planBy_57 (by decide) rfl ?_
    refine x_iload C dX12_planBy_59 0 rfl rfl ?_
    refine x_imul C (v := ((64 : Int32) * (fn (354 + (pw w0))))) dX12_planBy_61 rfl rfl ?_
    refine x_iload_n C dX12_planBy_62 rfl 5 rfl rfl ?_
    refine x_si C (As := [.int (nI s0)]) (rest := [.int ((64 : Int32) * (fn (354 + (pw w0))))]) (m_bits E l a cd hG kf jn js jq ws hW ((nI s0))) mf_X12_bits w_1559 rfl rfl (Nat.le_of_ble_eq_true rfl) ⟨(Nat.le_of_ble_eq_true rfl), (Nat.le_of_ble_eq_true rfl)⟩ ⟨(Nat.le_of_ble_eq_true rfl), (Nat.le_of_ble_eq_true rfl)⟩ dX12_planBy_63 rfl (fun r35 w36 h34 => ?_)
    obtain ⟨hW37, x38⟩ := h34
    refine x_ws hW37 ?_
    refine x_isub C (v := (((64 : Int32) * (fn (354 + (pw w0)))) - r35)) dX12_planBy_66 rfl rfl ?_
    refine x_aload_n C dX12_planBy_67 rfl 2 rfl rfl ?_
    refine x_get C (ci := 11) (k := 40) 0 k1 rfl in_X12 (by decide) w_1158 rfl dX12_planBy_68 rfl ?_
    refine x_sipush C (v := 1024) dX12_planBy_71 (by decide) rfl ?_
    refine x_iload_n C dX12_planBy_74 rfl 3 rfl rfl ?_
    refine x_iconst C (v := 1) dX12_planBy_75 (by decide) rfl ?_
    refine x_iadd C (v := (nI (w0 + 1))) dX12_planBy_76 (nI_add w0 1) rfl ?_
    refine x_imul C (v := (nI (1024 * (w0 + 1)))) dX12_planBy_77 (pk_mul 1024 (w0 + 1)) rfl ?_
    refine x_iload_n C dX12_planBy_78 rfl 4 rfl rfl ?_
    refine x_iload_n C dX12_planBy_79 rfl 5 rfl rfl ?_
    refine x_iconst C (v := (-1)) dX12_planBy_80 (by decide) rfl ?_
    refine x_ixor C (v := ((nI s0) ^^^ ((-1) : Int32))) dX12_planBy_81 rfl rfl ?_
    refine x_iand C (v := (nI (la l0 s0))) dX12_planBy_82 (la_eq (by omega) s0) rfl ?_
    refine x_iadd C (v := (nI ((1024 * (w0 + 1)) + (la l0 s0)))) dX12_planBy_83 (nI_add (1024 * (w0 + 1)) (la l0 s0)) rfl ?_
    refine x_ialk C (v := (pb ((1024 * (w0 + 1)) + (la l0 s0)))) ((1024 * (w0 + 1)) + (la l0 s0)) (nI_clamp (by omega)) (nI_pos (by omega)) (by omega) 24 hpbst rfl dX12_planBy_84 rfl ?_
    refine x_iadd C (v := ((((64 : Int32) * (fn (354 + (pw w0)))) - r35) + (pb ((1024 * (w0 + 1)) + (la l0 s0))))) dX12_planBy_85 rfl rfl ?_
    exact x_zret C hr hlk rfl dX12_planBy_86 ⟨rfl, (by rw [pB, if_neg c28, ← x38])⟩
set_option maxRecDepth 20000 in
set_option maxHeartbeats 4000000 in
theorem m_maxX (E : xE) (l : Launch) (a : Nat → Nat) (cd : Cd) (hG : Good cd) (kf : Int32) (jn js jq : Lb) (ws : va_W) (hW : WX (okM E a cd kf jn js jq) ws) (p0 : Int32) (p1 : Int32) : xI E l yX12_max cX12_max 2 (some .int) 0 [.int p0, .int p1] ws (fun r w => w = ws ∧ (r = p0 ∨ r = p1)) := by
  refine xI_start (lv := [(0, .int p0), (1, .int p1)]) RX12 (by decide) rfl (Nat.le_of_ble_eq_true rfl) rfl (fun p e s m below meth c A C hr hlk => ?_)
  refine x_iload_n C dX12_max_0 rfl 0 rfl rfl ?_
  refine x_iload_n C dX12_max_1 rfl 1 rfl rfl ?_
  refine x_icmp_le C (tgt := 9) dX12_max_2 (by decide) rfl (fun c1 => ?_) (fun c1 => ?_)
  · skip
    refine x_iload_n C dX12_max_9 rfl 1 rfl rfl ?_
    exact x_zret C hr hlk rfl dX12_max_10 ⟨rfl, (Or.inr rfl)⟩
  · skip
    refine x_iload_n C dX12_max_5 rfl 0 rfl rfl ?_
    refine x_goto C (tgt := 10) dX12_max_6 (by decide) ?_
    exact x_zret C hr hlk rfl dX12_max_10 ⟨rfl, (Or.inl rfl)⟩
theorem dX12_laysPlan_0 : decode cX12_laysPlan 0 = .ok (.aload_n 0, 1) := by decide +kernel
theorem dX12_laysPlan_1 : decode cX12_laysPlan 1 = .ok (.iconst 0, 1) := by decide +kernel
theorem dX12_laysPlan_2 : decode cX12_laysPlan 2 = .ok (.putfield 350, 3) := by decide +kernel
theorem dX12_laysPlan_5 : decode cX12_laysPlan 5 = .ok (.iconst 0, 1) := by decide +kernel
theorem dX12_laysPlan_6 : decode cX12_laysPlan 6 = .ok (.istore_n 2, 1) := by decide +kernel
theorem dX12_laysPlan_7 : decode cX12_laysPlan 7 = .ok (.iload_n 2, 1) := by decide +kernel
theorem dX12_laysPlan_8 : decode cX12_laysPlan 8 = .ok (.bipush 8, 2) := by decide +kernel
theorem dX12_laysPlan_10 : decode cX12_laysPlan 10 = .ok (.if_icmp .ge 40, 3) := by decide +kernel
theorem dX12_laysPlan_13 : decode cX12_laysPlan 13 = .ok (.iload_n 1, 1) := by decide +kernel
theorem dX12_laysPlan_14 : decode cX12_laysPlan 14 = .ok (.iload_n 2, 1) := by decide +kernel
theorem dX12_laysPlan_15 : decode cX12_laysPlan 15 = .ok (.invokestatic 101, 3) := by decide +kernel
theorem dX12_laysPlan_18 : decode cX12_laysPlan 18 = .ok (.ifCond .ne 6, 3) := by decide +kernel
theorem dX12_laysPlan_21 : decode cX12_laysPlan 21 = .ok (.goto 23, 3) := by decide +kernel
theorem dX12_laysPlan_24 : decode cX12_laysPlan 24 = .ok (.aload_n 0, 1) := by decide +kernel
theorem dX12_laysPlan_25 : decode cX12_laysPlan 25 = .ok (.getfield 77, 3) := by decide +kernel
theorem dX12_laysPlan_28 : decode cX12_laysPlan 28 = .ok (.aload_n 0, 1) := by decide +kernel
theorem dX12_laysPlan_29 : decode cX12_laysPlan 29 = .ok (.getfield 350, 3) := by decide +kernel
theorem dX12_laysPlan_32 : decode cX12_laysPlan 32 = .ok (.iload_n 2, 1) := by decide +kernel
theorem dX12_laysPlan_33 : decode cX12_laysPlan 33 = .ok (.iastore, 1) := by decide +kernel
theorem dX12_laysPlan_34 : decode cX12_laysPlan 34 = .ok (.aload_n 0, 1) := by decide +kernel
theorem dX12_laysPlan_35 : decode cX12_laysPlan 35 = .ok (.aload_n 0, 1) := by decide +kernel
theorem dX12_laysPlan_36 : decode cX12_laysPlan 36 = .ok (.getfield 350, 3) := by decide +kernel
theorem dX12_laysPlan_39 : decode cX12_laysPlan 39 = .ok (.iconst 1, 1) := by decide +kernel
theorem dX12_laysPlan_40 : decode cX12_laysPlan 40 = .ok (.iadd, 1) := by decide +kernel
theorem dX12_laysPlan_41 : decode cX12_laysPlan 41 = .ok (.putfield 350, 3) := by decide +kernel
theorem dX12_laysPlan_44 : decode cX12_laysPlan 44 = .ok (.iinc 2 1, 3) := by decide +kernel
theorem dX12_laysPlan_47 : decode cX12_laysPlan 47 = .ok (.goto (-40), 3) := by decide +kernel
theorem dX12_laysPlan_50 : decode cX12_laysPlan 50 = .ok (.iconst 0, 1) := by decide +kernel
theorem dX12_laysPlan_51 : decode cX12_laysPlan 51 = .ok (.istore_n 2, 1) := by decide +kernel
theorem dX12_laysPlan_52 : decode cX12_laysPlan 52 = .ok (.iload_n 2, 1) := by decide +kernel
theorem dX12_laysPlan_53 : decode cX12_laysPlan 53 = .ok (.iconst 1, 1) := by decide +kernel
theorem dX12_laysPlan_54 : decode cX12_laysPlan 54 = .ok (.aload_n 0, 1) := by decide +kernel
theorem dX12_laysPlan_55 : decode cX12_laysPlan 55 = .ok (.getfield 344, 3) := by decide +kernel
theorem dX12_laysPlan_58 : decode cX12_laysPlan 58 = .ok (.ishl, 1) := by decide +kernel
theorem dX12_laysPlan_59 : decode cX12_laysPlan 59 = .ok (.if_icmp .ge 25, 3) := by decide +kernel
theorem dX12_laysPlan_62 : decode cX12_laysPlan 62 = .ok (.aload_n 0, 1) := by decide +kernel
theorem dX12_laysPlan_63 : decode cX12_laysPlan 63 = .ok (.getfield 80, 3) := by decide +kernel
theorem dX12_laysPlan_66 : decode cX12_laysPlan 66 = .ok (.sipush 1024, 3) := by decide +kernel
theorem dX12_laysPlan_69 : decode cX12_laysPlan 69 = .ok (.aload_n 0, 1) := by decide +kernel
theorem dX12_laysPlan_70 : decode cX12_laysPlan 70 = .ok (.getfield 350, 3) := by decide +kernel
theorem dX12_laysPlan_73 : decode cX12_laysPlan 73 = .ok (.imul, 1) := by decide +kernel
theorem dX12_laysPlan_74 : decode cX12_laysPlan 74 = .ok (.iload_n 2, 1) := by decide +kernel
theorem dX12_laysPlan_75 : decode cX12_laysPlan 75 = .ok (.iadd, 1) := by decide +kernel
theorem dX12_laysPlan_76 : decode cX12_laysPlan 76 = .ok (.iconst 0, 1) := by decide +kernel
theorem dX12_laysPlan_77 : decode cX12_laysPlan 77 = .ok (.iastore, 1) := by decide +kernel
theorem dX12_laysPlan_78 : decode cX12_laysPlan 78 = .ok (.iinc 2 1, 3) := by decide +kernel
theorem dX12_laysPlan_81 : decode cX12_laysPlan 81 = .ok (.goto (-29), 3) := by decide +kernel
theorem dX12_laysPlan_84 : decode cX12_laysPlan 84 = .ok (.aload_n 0, 1) := by decide +kernel
theorem dX12_laysPlan_85 : decode cX12_laysPlan 85 = .ok (.getfield 350, 3) := by decide +kernel
theorem dX12_laysPlan_88 : decode cX12_laysPlan 88 = .ok (.iconst 1, 1) := by decide +kernel
theorem dX12_laysPlan_89 : decode cX12_laysPlan 89 = .ok (.isub, 1) := by decide +kernel
theorem dX12_laysPlan_90 : decode cX12_laysPlan 90 = .ok (.istore_n 2, 1) := by decide +kernel
theorem dX12_laysPlan_91 : decode cX12_laysPlan 91 = .ok (.iload_n 2, 1) := by decide +kernel
theorem dX12_laysPlan_92 : decode cX12_laysPlan 92 = .ok (.ifCond .lt 94, 3) := by decide +kernel
theorem dX12_laysPlan_95 : decode cX12_laysPlan 95 = .ok (.aload_n 0, 1) := by decide +kernel
theorem dX12_laysPlan_96 : decode cX12_laysPlan 96 = .ok (.aload_n 0, 1) := by decide +kernel
theorem dX12_laysPlan_97 : decode cX12_laysPlan 97 = .ok (.getfield 77, 3) := by decide +kernel
theorem dX12_laysPlan_100 : decode cX12_laysPlan 100 = .ok (.iload_n 2, 1) := by decide +kernel
theorem dX12_laysPlan_101 : decode cX12_laysPlan 101 = .ok (.iaload, 1) := by decide +kernel
theorem dX12_laysPlan_102 : decode cX12_laysPlan 102 = .ok (.invokevirtual 353, 3) := by decide +kernel
theorem dX12_laysPlan_105 : decode cX12_laysPlan 105 = .ok (.iconst 0, 1) := by decide +kernel
theorem dX12_laysPlan_106 : decode cX12_laysPlan 106 = .ok (.istore_n 3, 1) := by decide +kernel
theorem dX12_laysPlan_107 : decode cX12_laysPlan 107 = .ok (.iload_n 3, 1) := by decide +kernel
theorem dX12_laysPlan_108 : decode cX12_laysPlan 108 = .ok (.iconst 1, 1) := by decide +kernel
theorem dX12_laysPlan_109 : decode cX12_laysPlan 109 = .ok (.aload_n 0, 1) := by decide +kernel
theorem dX12_laysPlan_110 : decode cX12_laysPlan 110 = .ok (.getfield 344, 3) := by decide +kernel
theorem dX12_laysPlan_113 : decode cX12_laysPlan 113 = .ok (.ishl, 1) := by decide +kernel
theorem dX12_laysPlan_114 : decode cX12_laysPlan 114 = .ok (.if_icmp .ge 66, 3) := by decide +kernel
theorem dX12_laysPlan_117 : decode cX12_laysPlan 117 = .ok (.aload_n 0, 1) := by decide +kernel
theorem dX12_laysPlan_118 : decode cX12_laysPlan 118 = .ok (.iload_n 2, 1) := by decide +kernel
theorem dX12_laysPlan_119 : decode cX12_laysPlan 119 = .ok (.iload_n 3, 1) := by decide +kernel
theorem dX12_laysPlan_120 : decode cX12_laysPlan 120 = .ok (.iconst 0, 1) := by decide +kernel
theorem dX12_laysPlan_121 : decode cX12_laysPlan 121 = .ok (.invokevirtual 356, 3) := by decide +kernel
theorem dX12_laysPlan_124 : decode cX12_laysPlan 124 = .ok (.istore 4, 2) := by decide +kernel
theorem dX12_laysPlan_126 : decode cX12_laysPlan 126 = .ok (.iload_n 3, 1) := by decide +kernel
theorem dX12_laysPlan_127 : decode cX12_laysPlan 127 = .ok (.istore 5, 2) := by decide +kernel
theorem dX12_laysPlan_129 : decode cX12_laysPlan 129 = .ok (.iload 5, 2) := by decide +kernel
theorem dX12_laysPlan_131 : decode cX12_laysPlan 131 = .ok (.ifCond .le 29, 3) := by decide +kernel
theorem dX12_laysPlan_134 : decode cX12_laysPlan 134 = .ok (.iload 4, 2) := by decide +kernel
theorem dX12_laysPlan_136 : decode cX12_laysPlan 136 = .ok (.aload_n 0, 1) := by decide +kernel
theorem dX12_laysPlan_137 : decode cX12_laysPlan 137 = .ok (.iload_n 2, 1) := by decide +kernel
theorem dX12_laysPlan_138 : decode cX12_laysPlan 138 = .ok (.iload_n 3, 1) := by decide +kernel
theorem dX12_laysPlan_139 : decode cX12_laysPlan 139 = .ok (.iload 5, 2) := by decide +kernel
theorem dX12_laysPlan_141 : decode cX12_laysPlan 141 = .ok (.invokevirtual 356, 3) := by decide +kernel
theorem dX12_laysPlan_144 : decode cX12_laysPlan 144 = .ok (.invokestatic 359, 3) := by decide +kernel
theorem dX12_laysPlan_147 : decode cX12_laysPlan 147 = .ok (.istore 4, 2) := by decide +kernel
theorem dX12_laysPlan_149 : decode cX12_laysPlan 149 = .ok (.iload 5, 2) := by decide +kernel
theorem dX12_laysPlan_151 : decode cX12_laysPlan 151 = .ok (.iconst 1, 1) := by decide +kernel
theorem dX12_laysPlan_152 : decode cX12_laysPlan 152 = .ok (.isub, 1) := by decide +kernel
theorem dX12_laysPlan_153 : decode cX12_laysPlan 153 = .ok (.iload_n 3, 1) := by decide +kernel
theorem dX12_laysPlan_154 : decode cX12_laysPlan 154 = .ok (.iand, 1) := by decide +kernel
theorem dX12_laysPlan_155 : decode cX12_laysPlan 155 = .ok (.istore 5, 2) := by decide +kernel
theorem dX12_laysPlan_157 : decode cX12_laysPlan 157 = .ok (.goto (-28), 3) := by decide +kernel
theorem dX12_laysPlan_160 : decode cX12_laysPlan 160 = .ok (.aload_n 0, 1) := by decide +kernel
theorem dX12_laysPlan_161 : decode cX12_laysPlan 161 = .ok (.getfield 80, 3) := by decide +kernel
theorem dX12_laysPlan_164 : decode cX12_laysPlan 164 = .ok (.sipush 1024, 3) := by decide +kernel
theorem dX12_laysPlan_167 : decode cX12_laysPlan 167 = .ok (.iload_n 2, 1) := by decide +kernel
theorem dX12_laysPlan_168 : decode cX12_laysPlan 168 = .ok (.imul, 1) := by decide +kernel
theorem dX12_laysPlan_169 : decode cX12_laysPlan 169 = .ok (.iload_n 3, 1) := by decide +kernel
theorem dX12_laysPlan_170 : decode cX12_laysPlan 170 = .ok (.iadd, 1) := by decide +kernel
theorem dX12_laysPlan_171 : decode cX12_laysPlan 171 = .ok (.iload 4, 2) := by decide +kernel
theorem dX12_laysPlan_173 : decode cX12_laysPlan 173 = .ok (.iastore, 1) := by decide +kernel
theorem dX12_laysPlan_174 : decode cX12_laysPlan 174 = .ok (.iinc 3 1, 3) := by decide +kernel
theorem dX12_laysPlan_177 : decode cX12_laysPlan 177 = .ok (.goto (-70), 3) := by decide +kernel
theorem dX12_laysPlan_180 : decode cX12_laysPlan 180 = .ok (.iinc 2 (-1), 3) := by decide +kernel
theorem dX12_laysPlan_183 : decode cX12_laysPlan 183 = .ok (.goto (-92), 3) := by decide +kernel
theorem dX12_laysPlan_186 : decode cX12_laysPlan 186 = .ok (.return_, 1) := by decide +kernel
set_option maxRecDepth 20000 in
set_option maxHeartbeats 4000000 in
theorem m_laysPlan (E : xE) (l : Launch) (a : Nat → Nat) (cd : Cd) (hG : Good cd) (kf : Int32) (jn js jq : Lb) (ws : va_W) (hW : WX (okM E a cd kf jn js jq) ws) (wk : Nat) (hwk : wk ≤ 255 ∧ btn wk 8 ≤ 4) (fn : Nat → Int32) (hfn : ws[1]? = some (iA E (a 1) 382 fn)) (om pm : Nat) (h0 : PO a cd kf ws om pm) (hom : om ≤ 10) (og : Nat → Nat) (hob : ∀ j, og j ≤ 47) (hog : ws[22]? = some (iA E (a 22) 12 (fun j => nI (og j)))) : xV E l yX12_laysPlan cX12_laysPlan 6 5 0 0 [.ref (a 0), .int (nI wk)] ws (fun w => WX (okM E a cd kf jn js jq) w ∧ keeps ws w (fun q => q = 0 ∨ q = 16 ∨ q = 17 ∨ q = 23 ∨ q = 24 ∨ q = 25) ∧ (∃ (pm : Nat) (pw : Nat → Nat) (B : Nat → Int32), PO a cd kf w om pm ∧ (∀ j, pw j ≤ 7) ∧ w[23]? = some (iA E (a 23) 4 (fun j => nI (pw j))) ∧ w[24]? = some (iA E (a 24) 5120 B) ∧ bOk cd fn B og pw om 0 pm)) := by
  refine xV_start (lv := [(0, .ref (a 0)), (1, .int (nI wk))]) RX12 (by decide) rfl (Nat.le_of_ble_eq_true rfl) rfl (fun p e s m below meth c A C hr hlk hin => ?_)
  have kp0 : keeps ws ws (fun q => q = 0 ∨ q = 16 ∨ q = 17 ∨ q = 23 ∨ q = 24 ∨ q = 25) := keeps_rf
  obtain ⟨_, kq1, fq, pfq, rfl⟩ := hW 1 _ rfl
  obtain rfl := iA_inj (hfn.symm.trans kq1)
  obtain ⟨n1, n2, n3, n4, n5, n6, n7, v8, v9, v10, v11, v12, v13, v14, bo15, bo16, k17⟩ := h0
  have hp2o := p2_10 (k := om) (by omega)
  have hp2p := p2_pos om
  refine x_aload_n C dX12_laysPlan_0 rfl 0 rfl rfl ?_
  refine x_iconst C (v := 0) dX12_laysPlan_1 (by decide) rfl ?_
  obtain ⟨w18, hw19⟩ : ∃ w : va_W, w = List.set ws 0 (ob (a 0) 11 [.ref (a 1), .ref (a 2), .ref (a 3), .ref (a 4), .int (nI n1), .int (nI n2), .int (nI n3), .int v8, .int v9, .int v10, .int (nI n4), .int (nI n5), .int (nI n6), .int (nI (cd.2.2.2.2.2)), .ref (a 5), .ref (a 6), .ref (a 7), .ref (a 8), .ref (a 9), .ref (a 10), .ref (a 11), .ref (a 12), .ref (a 13), .ref (a 14), .ref (a 15), .ref (a 16), .ref (a 17), .int (nI n7), .ref (a 18), .ref (a 19), .ref (a 20), .ref (a 21), .int v11, .int v12, .int v13, .int v14, .int (nI om), .int 0, .ref (a 22), .ref (a 23), .ref (a 24), .ref (a 25), .ref (a 26), .ref (a 27), .ref (a 28), .ref (a 29), .ref (a 30), .int kf]) := ⟨_, rfl⟩
  refine x_put C (ci := 11) (k := 37) (ty := .int) 0 k17 rfl in_X12 tyX12 tyX12_ok nmX12 (by decide) w_1155 rfl rfl rfl rfl (Nat.le_of_ble_eq_true rfl) hw19.symm dX12_laysPlan_2 rfl ?_
  have hW20 : WX (okM E a cd kf jn js jq) w18 := by rw [hw19]; exact hW.set (k := 0) rfl ⟨n1, n2, n3, v8, v9, v10, n4, n5, n6, n7, v11, v12, v13, v14, om, 0, by omega, by omega, by omega, by omega, by omega, by omega, by omega, by omega, by omega, rfl⟩
  have k21 : w18[1]? = some (iA E (a 1) 382 fn) := by rw [hw19]; exact set_ne hfn (by decide)
  have k22 : w18[0]? = some (ob (a 0) 11 [.ref (a 1), .ref (a 2), .ref (a 3), .ref (a 4), .int (nI n1), .int (nI n2), .int (nI n3), .int v8, .int v9, .int v10, .int (nI n4), .int (nI n5), .int (nI n6), .int (nI (cd.2.2.2.2.2)), .ref (a 5), .ref (a 6), .ref (a 7), .ref (a 8), .ref (a 9), .ref (a 10), .ref (a 11), .ref (a 12), .ref (a 13), .ref (a 14), .ref (a 15), .ref (a 16), .ref (a 17), .int (nI n7), .ref (a 18), .ref (a 19), .ref (a 20), .ref (a 21), .int v11, .int v12, .int v13, .int v14, .int (nI om), .int 0, .ref (a 22), .ref (a 23), .ref (a 24), .ref (a 25), .ref (a 26), .ref (a 27), .ref (a 28), .ref (a 29), .ref (a 30), .int kf]) := by rw [hw19]; exact set_eq k17
  have k23 : w18[22]? = some (iA E (a 22) 12 (fun j => nI (og j))) := by rw [hw19]; exact set_ne hog (by decide)
  have kp24 := keeps_set kp0 hw19 (by first | exact rfl | decide | omega | (dsimp only; omega))
  refine x_iconst C (v := 0) dX12_laysPlan_5 (by decide) rfl ?_
  refine x_istore_n C (lv' := [(2, .int 0), (0, .ref (a 0)), (1, .int (nI wk))]) dX12_laysPlan_6 rfl (by decide) rfl rfl ?_
  have loop7 : ∀ (fu7 : Nat) (i : Nat) (wl7 : va_W), WX (okM E a cd kf jn js jq) wl7 → 8 - i < fu7 → i ≤ 8 → PO a cd kf wl7 om (btn wk i) → keeps ws wl7 (fun q => q = 0 ∨ q = 16 ∨ q = 17 ∨ q = 23 ∨ q = 24 ∨ q = 25) → X E p l e (xRm 5 0 0) s m ([.ref (a 0), .int (nI wk)] : List Value).toArray below meth c A 6 0 0 (MQ below (va_Qv (fun w => WX (okM E a cd kf jn js jq) w ∧ keeps ws w (fun q => q = 0 ∨ q = 16 ∨ q = 17 ∨ q = 23 ∨ q = 24 ∨ q = 25) ∧ (∃ (pm : Nat) (pw : Nat → Nat) (B : Nat → Int32), PO a cd kf w om pm ∧ (∀ j, pw j ≤ 7) ∧ w[23]? = some (iA E (a 23) 4 (fun j => nI (pw j))) ∧ w[24]? = some (iA E (a 24) 5120 B) ∧ bOk cd fn B og pw om 0 pm)) (xB E A) A) ([.ref (a 0), .int (nI wk)] : List Value).toArray s 0 0 A) wl7 7 [(0, .ref (a 0)), (1, .int (nI wk)), (2, .int (nI i))] [] := by
    intro fu7
    induction fu7 with
    | zero => intro i wl7 _ q; omega
    | succ fu7 ih7 =>
      intro i wl7 hWl7 me7 iv7_0 iv7_1 kq7
      have k25 : wl7[1]? = some (iA E (a 1) 382 fn) := keeps_at kq7 hfn (by first | decide | omega | (dsimp only; omega))
      have k26 : wl7[22]? = some (iA E (a 22) 12 (fun j => nI (og j))) := keeps_at kq7 hog (by first | decide | omega | (dsimp only; omega))
      obtain ⟨n27, n28, n29, n30, n31, n32, n33, v34, v35, v36, v37, v38, v39, v40, bo41, bo42, k43⟩ := iv7_1
      refine x_iload_n C dX12_laysPlan_7 rfl 2 rfl rfl ?_
      refine x_bipush C (v := 8) dX12_laysPlan_8 (by decide) rfl ?_
      refine x_icmp_ge C (tgt := 50) dX12_laysPlan_10 (by decide) rfl (fun c44 => ?_) (fun c44 => ?_)
      · skip
        have nf45 := nI_le' (a := 8) (b := i) c44 (by omega) (by omega)
        have hi8 : i = 8 := by omega
        subst hi8
        refine x_iconst C (v := 0) dX12_laysPlan_50 (by decide) rfl ?_
        refine x_istore_n C (lv' := [(2, .int 0), (0, .ref (a 0)), (1, .int (nI wk))]) dX12_laysPlan_51 rfl (by decide) rfl rfl ?_
        have loop52 : ∀ (fu52 : Nat) (lq : Nat) (wl52 : va_W), WX (okM E a cd kf jn js jq) wl52 → p2 om - lq < fu52 → lq ≤ p2 om → PO a cd kf wl52 om (btn wk 8) → keeps ws wl52 (fun q => q = 0 ∨ q = 16 ∨ q = 17 ∨ q = 23 ∨ q = 24 ∨ q = 25) → X E p l e (xRm 5 0 0) s m ([.ref (a 0), .int (nI wk)] : List Value).toArray below meth c A 6 0 0 (MQ below (va_Qv (fun w => WX (okM E a cd kf jn js jq) w ∧ keeps ws w (fun q => q = 0 ∨ q = 16 ∨ q = 17 ∨ q = 23 ∨ q = 24 ∨ q = 25) ∧ (∃ (pm : Nat) (pw : Nat → Nat) (B : Nat → Int32), PO a cd kf w om pm ∧ (∀ j, pw j ≤ 7) ∧ w[23]? = some (iA E (a 23) 4 (fun j => nI (pw j))) ∧ w[24]? = some (iA E (a 24) 5120 B) ∧ bOk cd fn B og pw om 0 pm)) (xB E A) A) ([.ref (a 0), .int (nI wk)] : List Value).toArray s 0 0 A) wl52 52 [(0, .ref (a 0)), (1, .int (nI wk)), (2, .int (nI lq))] [] := by
          intro fu52
          induction fu52 with
          | zero => intro lq wl52 _ q; omega
          | succ fu52 ih52 =>
            intro lq wl52 hWl52 me52 iv52_0 iv52_1 kq52
            have k46 : wl52[1]? = some (iA E (a 1) 382 fn) := keeps_at kq52 hfn (by first | decide | omega | (dsimp only; omega))
            have k47 : wl52[22]? = some (iA E (a 22) 12 (fun j => nI (og j))) := keeps_at kq52 hog (by first | decide | omega | (dsimp only; omega))
            obtain ⟨n48, n49, n50, n51, n52, n53, n54, v55, v56, v57, v58, v59, v60, v61, bo62, bo63, k64⟩ := iv52_1
            refine x_iload_n C dX12_laysPlan_52 rfl 2 rfl rfl ?_
            refine x_iconst C (v := 1) dX12_laysPlan_53 (by decide) rfl ?_
            refine x_aload_n C dX12_laysPlan_54 rfl 0 rfl rfl ?_
            refine x_get C (ci := 11) (k := 36) 0 k64 rfl in_X12 (by decide) w_1154 rfl dX12_laysPlan_55 rfl ?_
            refine x_ishl C (v := (nI (p2 om))) dX12_laysPlan_58 (shp (by omega)) rfl ?_
            refine x_icmp_ge C (tgt := 84) dX12_laysPlan_59 (by decide) rfl (fun c65 => ?_) (fun c65 => ?_)
            · skip
              have nf66 := nI_le' (a := (p2 om)) (b := lq) c65 (by omega) (by omega)
              obtain ⟨_, k67, f68, rfl⟩ := hWl52 24 _ rfl
              obtain ⟨_, k69, g70, gb71, rfl⟩ := hWl52 23 _ rfl
              refine x_aload_n C dX12_laysPlan_84 rfl 0 rfl rfl ?_
              refine x_get C (ci := 11) (k := 37) 0 k64 rfl in_X12 (by decide) w_1155 rfl dX12_laysPlan_85 rfl ?_
              refine x_iconst C (v := 1) dX12_laysPlan_88 (by decide) rfl ?_
              by_cases hz72 : (btn wk 8) = 0
              · refine x_isub C (v := -1) dX12_laysPlan_89 (by rw [hz72]; decide) rfl ?_
                refine x_istore_n C (lv' := [(2, .int (-1)), (0, .ref (a 0)), (1, .int (nI wk))]) dX12_laysPlan_90 rfl (by decide) rfl rfl ?_
                refine x_iload_n C dX12_laysPlan_91 rfl 0 rfl rfl ?_
                refine x_if_lt C (tgt := 186) dX12_laysPlan_92 (by decide) rfl (fun _ => ?_) (fun h => absurd h (by decide))
                exact x_vret C hr hlk dX12_laysPlan_186 ⟨hWl52, kq52, ⟨btn wk 8, g70, f68, ⟨n48, n49, n50, n51, n52, n53, n54, v55, v56, v57, v58, v59, v60, v61, ⟨by omega, by omega, by omega, by omega, by omega, by omega, by omega⟩, ⟨by omega, by omega⟩, k64⟩, gb71, k69, k67, (fun v9 h9 h8 => absurd h8 (by omega))⟩⟩
              · refine x_isub C (v := nI (((btn wk 8)) - 1)) dX12_laysPlan_89 (pk_sub (a := ((btn wk 8))) (b := 1) (by omega)) rfl ?_
                refine x_istore_n C (lv' := [(2, .int (nI (((btn wk 8)) - 1))), (0, .ref (a 0)), (1, .int (nI wk))]) dX12_laysPlan_90 rfl (by decide) rfl rfl ?_
                have loop91 : ∀ (fu91 : Nat) (wq : Nat) (wl91 : va_W), WX (okM E a cd kf jn js jq) wl91 → wq < fu91 → wq < btn wk 8 → PO a cd kf wl91 om (btn wk 8) → wl91[23]? = some (iA E (a 23) 4 (fun j => nI (g70 j))) → (∃ B : Nat → Int32, wl91[24]? = some (iA E (a 24) 5120 B) ∧ bOk cd fn B og g70 om (wq + 1) (btn wk 8)) → keeps ws wl91 (fun q => q = 0 ∨ q = 16 ∨ q = 17 ∨ q = 23 ∨ q = 24 ∨ q = 25) → X E p l e (xRm 5 0 0) s m ([.ref (a 0), .int (nI wk)] : List Value).toArray below meth c A 6 0 0 (MQ below (va_Qv (fun w => WX (okM E a cd kf jn js jq) w ∧ keeps ws w (fun q => q = 0 ∨ q = 16 ∨ q = 17 ∨ q = 23 ∨ q = 24 ∨ q = 25) ∧ (∃ (pm : Nat) (pw : Nat → Nat) (B : Nat → Int32), PO a cd kf w om pm ∧ (∀ j, pw j ≤ 7) ∧ w[23]? = some (iA E (a 23) 4 (fun j => nI (pw j))) ∧ w[24]? = some (iA E (a 24) 5120 B) ∧ bOk cd fn B og pw om 0 pm)) (xB E A) A) ([.ref (a 0), .int (nI wk)] : List Value).toArray s 0 0 A) wl91 91 [(0, .ref (a 0)), (1, .int (nI wk)), (2, .int (nI wq))] [] := by
                  intro fu91
                  induction fu91 with
                  | zero => intro wq wl91 _ q; omega
                  | succ fu91 ih91 =>
                    intro wq wl91 hWl91 me91 iv91_0 iv91_1 iv91_2 iv91_3 kq91
                    have k73 : wl91[1]? = some (iA E (a 1) 382 fn) := keeps_at kq91 hfn (by first | decide | omega | (dsimp only; omega))
                    have k74 : wl91[22]? = some (iA E (a 22) 12 (fun j => nI (og j))) := keeps_at kq91 hog (by first | decide | omega | (dsimp only; omega))
                    obtain ⟨n75, n76, n77, n78, n79, n80, n81, v82, v83, v84, v85, v86, v87, v88, bo89, bo90, k91⟩ := iv91_1
                    obtain ⟨pb92, k93, hB94⟩ := iv91_3
                    refine x_iload_n C dX12_laysPlan_91 rfl 2 rfl rfl ?_
                    refine x_if_lt C (tgt := 186) dX12_laysPlan_92 (by decide) rfl (fun c95 => ?_) (fun c95 => ?_)
                    · skip
                      have nf96 := nI_lt' (a := wq) (b := 0) c95 (by omega) (by omega)
                      exact x_vret C hr hlk dX12_laysPlan_186 ⟨hWl91, kq91, ⟨btn wk 8, g70, pb92, ⟨n75, n76, n77, n78, n79, n80, n81, v82, v83, v84, v85, v86, v87, v88, ⟨by omega, by omega, by omega, by omega, by omega, by omega, by omega⟩, ⟨by omega, by omega⟩, k91⟩, gb71, iv91_2, k93, (fun v9 h9 h8 => absurd h8 (by omega))⟩⟩
                    · skip
                      have nf97 := nI_nlt' (a := wq) (b := 0) c95 (by omega) (by omega)
                      refine x_aload_n C dX12_laysPlan_95 rfl 0 rfl rfl ?_
                      refine x_aload_n C dX12_laysPlan_96 rfl 0 rfl rfl ?_
                      refine x_get C (ci := 11) (k := 39) 0 k91 rfl in_X12 (by decide) w_1157 rfl dX12_laysPlan_97 rfl ?_
                      refine x_iload_n C dX12_laysPlan_100 rfl 2 rfl rfl ?_
                      refine x_ialk C (v := nI (g70 wq)) wq (nI_clamp (by omega)) (nI_pos (by omega)) (by omega) 23 iv91_2 rfl dX12_laysPlan_101 rfl ?_
                      have bx98 := gb71 wq
                      refine x_vv C (As := [.int (nI (g70 wq))]) (rest := []) (m_laysSums E l a cd hG kf jn js jq wl91 hWl91 (g70 wq) fn k73 om ((btn wk 8)) ⟨n75, n76, n77, n78, n79, n80, n81, v82, v83, v84, v85, v86, v87, v88, ⟨by omega, by omega, by omega, by omega, by omega, by omega, by omega⟩, ⟨by omega, by omega⟩, k91⟩ (by omega) og hob k74) mf_X12_laysSums w_1570 0 k91 rfl rfl rfl (Nat.le_of_ble_eq_true rfl) ⟨(Nat.le_of_ble_eq_true rfl), (Nat.le_of_ble_eq_true rfl)⟩ ⟨(Nat.le_of_ble_eq_true rfl), (Nat.le_of_ble_eq_true rfl)⟩ dX12_laysPlan_102 rfl (fun w101 h99 => ?_)
                      obtain ⟨hW102, kq103, x104⟩ := h99
                      have k105 : w101[1]? = some (iA E (a 1) 382 fn) := keeps_at kq103 k73 (by first | decide | omega | (dsimp only; omega))
                      have k106 : w101[22]? = some (iA E (a 22) 12 (fun j => nI (og j))) := keeps_at kq103 k74 (by first | decide | omega | (dsimp only; omega))
                      have k107 : w101[0]? = some (ob (a 0) 11 [.ref (a 1), .ref (a 2), .ref (a 3), .ref (a 4), .int (nI n75), .int (nI n76), .int (nI n77), .int v82, .int v83, .int v84, .int (nI n78), .int (nI n79), .int (nI n80), .int (nI (cd.2.2.2.2.2)), .ref (a 5), .ref (a 6), .ref (a 7), .ref (a 8), .ref (a 9), .ref (a 10), .ref (a 11), .ref (a 12), .ref (a 13), .ref (a 14), .ref (a 15), .ref (a 16), .ref (a 17), .int (nI n81), .ref (a 18), .ref (a 19), .ref (a 20), .ref (a 21), .int v85, .int v86, .int v87, .int v88, .int (nI om), .int (nI (btn wk 8)), .ref (a 22), .ref (a 23), .ref (a 24), .ref (a 25), .ref (a 26), .ref (a 27), .ref (a 28), .ref (a 29), .ref (a 30), .int kf]) := keeps_at kq103 k91 (by first | decide | omega | (dsimp only; omega))
                      have k108 : w101[23]? = some (iA E (a 23) 4 (fun j => nI (g70 j))) := keeps_at kq103 iv91_2 (by first | decide | omega | (dsimp only; omega))
                      have k109 : w101[24]? = some (iA E (a 24) 5120 pb92) := keeps_at kq103 k93 (by first | decide | omega | (dsimp only; omega))
                      have kp110 := keeps_tr kq91 kq103 (fun q hq => by first | omega | (dsimp only at *; omega))
                      obtain ⟨ps111, k112, hPTps111⟩ := x104
                      refine x_iconst C (v := 0) dX12_laysPlan_105 (by decide) rfl ?_
                      refine x_istore_n C (lv' := [(3, .int 0), (0, .ref (a 0)), (1, .int (nI wk)), (2, .int (nI wq))]) dX12_laysPlan_106 rfl (by decide) rfl rfl ?_
                      have loop107 : ∀ (fu107 : Nat) (lf : Nat) (wl107 : va_W), WX (okM E a cd kf jn js jq) wl107 → p2 om - lf < fu107 → lf ≤ p2 om → PO a cd kf wl107 om (btn wk 8) → wl107[23]? = some (iA E (a 23) 4 (fun j => nI (g70 j))) → wl107[25]? = some (iA E (a 25) 1024 ps111) → (∃ B : Nat → Int32, wl107[24]? = some (iA E (a 24) 5120 B) ∧ bOk cd fn B og g70 om (wq + 1) (btn wk 8) ∧ ∀ j, j < lf → rOk cd fn B og g70 om wq j) → keeps ws wl107 (fun q => q = 0 ∨ q = 16 ∨ q = 17 ∨ q = 23 ∨ q = 24 ∨ q = 25) → X E p l e (xRm 5 0 0) s m ([.ref (a 0), .int (nI wk)] : List Value).toArray below meth c A 6 0 0 (MQ below (va_Qv (fun w => WX (okM E a cd kf jn js jq) w ∧ keeps ws w (fun q => q = 0 ∨ q = 16 ∨ q = 17 ∨ q = 23 ∨ q = 24 ∨ q = 25) ∧ (∃ (pm : Nat) (pw : Nat → Nat) (B : Nat → Int32), PO a cd kf w om pm ∧ (∀ j, pw j ≤ 7) ∧ w[23]? = some (iA E (a 23) 4 (fun j => nI (pw j))) ∧ w[24]? = some (iA E (a 24) 5120 B) ∧ bOk cd fn B og pw om 0 pm)) (xB E A) A) ([.ref (a 0), .int (nI wk)] : List Value).toArray s 0 0 A) wl107 107 [(0, .ref (a 0)), (1, .int (nI wk)), (2, .int (nI wq)), (3, .int (nI lf))] [] := by
                        intro fu107
                        induction fu107 with
                        | zero => intro lf wl107 _ q; omega
                        | succ fu107 ih107 =>
                          intro lf wl107 hWl107 me107 iv107_0 iv107_1 iv107_2 iv107_3 iv107_4 kq107
                          have k113 : wl107[1]? = some (iA E (a 1) 382 fn) := keeps_at kq107 hfn (by first | decide | omega | (dsimp only; omega))
                          have k114 : wl107[22]? = some (iA E (a 22) 12 (fun j => nI (og j))) := keeps_at kq107 hog (by first | decide | omega | (dsimp only; omega))
                          obtain ⟨n115, n116, n117, n118, n119, n120, n121, v122, v123, v124, v125, v126, v127, v128, bo129, bo130, k131⟩ := iv107_1
                          obtain ⟨pb132, k133, hB134, hR135⟩ := iv107_4
                          refine x_iload_n C dX12_laysPlan_107 rfl 3 rfl rfl ?_
                          refine x_iconst C (v := 1) dX12_laysPlan_108 (by decide) rfl ?_
                          refine x_aload_n C dX12_laysPlan_109 rfl 0 rfl rfl ?_
                          refine x_get C (ci := 11) (k := 36) 0 k131 rfl in_X12 (by decide) w_1154 rfl dX12_laysPlan_110 rfl ?_
                          refine x_ishl C (v := (nI (p2 om))) dX12_laysPlan_113 (shp (by omega)) rfl ?_
                          refine x_icmp_ge C (tgt := 180) dX12_laysPlan_114 (by decide) rfl (fun c136 => ?_) (fun c136 => ?_)
                          · skip
                            have nf137 := nI_le' (a := (p2 om)) (b := lf) c136 (by omega) (by omega)
                            have hrow138 := bOk_row hB134 (fun j9 h9 => hR135 j9 (by omega))
                            by_cases hz139 : wq = 0
                            · refine x_iinc C (v := -1) (lv' := [(2, .int (-1)), (0, .ref (a 0)), (1, .int (nI wk)), (3, .int (nI lf))]) dX12_laysPlan_180 2 rfl (by rw [hz139]; decide) (by decide) rfl rfl ?_
                              refine x_goto C (tgt := 91) dX12_laysPlan_183 (by decide) ?_
                              refine x_iload_n C dX12_laysPlan_91 rfl 0 rfl rfl ?_
                              refine x_if_lt C (tgt := 186) dX12_laysPlan_92 (by decide) rfl (fun _ => ?_) (fun h => absurd h (by decide))
                              exact x_vret C hr hlk dX12_laysPlan_186 ⟨hWl107, kq107, ⟨btn wk 8, g70, pb132, ⟨n115, n116, n117, n118, n119, n120, n121, v122, v123, v124, v125, v126, v127, v128, ⟨by omega, by omega, by omega, by omega, by omega, by omega, by omega⟩, ⟨by omega, by omega⟩, k131⟩, gb71, iv107_2, k133, (fun v9 h9 h8 => hrow138 v9 (by omega) h8)⟩⟩
                            · refine x_iinc C (v := nI (wq - 1)) (lv' := [(2, .int (nI (wq - 1))), (0, .ref (a 0)), (1, .int (nI wk)), (3, .int (nI lf))]) dX12_laysPlan_180 2 rfl (dec_n (by omega)) (by decide) rfl rfl ?_
                              refine x_goto C (tgt := 91) dX12_laysPlan_183 (by decide) ?_
                              refine x_lv (lv1 := [(0, .ref (a 0)), (1, .int (nI wk)), (2, .int (nI (wq - 1)))]) [1, 2, 0] rfl ?_
                              exact ih91 (wq - 1) wl107 hWl107 (by omega) (by omega) ⟨n115, n116, n117, n118, n119, n120, n121, v122, v123, v124, v125, v126, v127, v128, ⟨by omega, by omega, by omega, by omega, by omega, by omega, by omega⟩, ⟨by omega, by omega⟩, k131⟩ iv107_2 ⟨_, k133, (show wq - 1 + 1 = wq from by omega) ▸ hrow138⟩ kq107
                          · skip
                            have nf140 := nI_nle' (a := (p2 om)) (b := lf) c136 (by omega) (by omega)
                            refine x_aload_n C dX12_laysPlan_117 rfl 0 rfl rfl ?_
                            refine x_iload_n C dX12_laysPlan_118 rfl 2 rfl rfl ?_
                            refine x_iload_n C dX12_laysPlan_119 rfl 3 rfl rfl ?_
                            refine x_iconst C (v := 0) dX12_laysPlan_120 (by decide) rfl ?_
                            refine x_vi C (As := [.int (nI wq), .int (nI lf), .int 0]) (rest := []) (m_planBy E l a cd hG kf jn js jq wl107 hWl107 wq lf 0 (by omega) (by omega) (by omega) fn k113 g70 gb71 iv107_2 ps111 iv107_3 pb132 k133) mf_X12_planBy w_1574 0 k131 rfl rfl rfl (Nat.le_of_ble_eq_true rfl) ⟨(Nat.le_of_ble_eq_true rfl), (Nat.le_of_ble_eq_true rfl)⟩ ⟨(Nat.le_of_ble_eq_true rfl), (Nat.le_of_ble_eq_true rfl)⟩ dX12_laysPlan_121 rfl (fun r142 w143 h141 => ?_)
                            obtain ⟨hW144, x145⟩ := h141
                            refine x_ws hW144 ?_
                            refine x_istore C (lv' := [(4, .int r142), (0, .ref (a 0)), (1, .int (nI wk)), (2, .int (nI wq)), (3, .int (nI lf))]) dX12_laysPlan_124 (by decide) rfl rfl ?_
                            refine x_iload_n C dX12_laysPlan_126 rfl 4 rfl rfl ?_
                            refine x_istore C (lv' := [(5, .int (nI lf)), (4, .int r142), (0, .ref (a 0)), (1, .int (nI wk)), (2, .int (nI wq)), (3, .int (nI lf))]) dX12_laysPlan_127 (by decide) rfl rfl ?_
                            have loop129 : ∀ (fu129 : Nat) (z129_4 : Int32) (se : Nat), True → se < fu129 → se ≤ lf → sub se lf → (∃ s : Nat, s ≤ lf ∧ sub s lf ∧ z129_4 = pB fn ps111 pb132 g70 wq lf s) → X E p l e (xRm 5 0 0) s m ([.ref (a 0), .int (nI wk)] : List Value).toArray below meth c A 6 0 0 (MQ below (va_Qv (fun w => WX (okM E a cd kf jn js jq) w ∧ keeps ws w (fun q => q = 0 ∨ q = 16 ∨ q = 17 ∨ q = 23 ∨ q = 24 ∨ q = 25) ∧ (∃ (pm : Nat) (pw : Nat → Nat) (B : Nat → Int32), PO a cd kf w om pm ∧ (∀ j, pw j ≤ 7) ∧ w[23]? = some (iA E (a 23) 4 (fun j => nI (pw j))) ∧ w[24]? = some (iA E (a 24) 5120 B) ∧ bOk cd fn B og pw om 0 pm)) (xB E A) A) ([.ref (a 0), .int (nI wk)] : List Value).toArray s 0 0 A) wl107 129 [(0, .ref (a 0)), (1, .int (nI wk)), (2, .int (nI wq)), (3, .int (nI lf)), (4, .int z129_4), (5, .int (nI se))] [] := by
                              intro fu129
                              induction fu129 with
                              | zero => intro z129_4 se _ q; omega
                              | succ fu129 ih129 =>
                                intro z129_4 se _ me129 iv129_0 iv129_1 iv129_2
                                refine x_iload C dX12_laysPlan_129 5 rfl rfl ?_
                                refine x_if_le C (tgt := 160) dX12_laysPlan_131 (by decide) rfl (fun c146 => ?_) (fun c146 => ?_)
                                · skip
                                  have nf147 := nI_le' (a := se) (b := 0) c146 (by omega) (by omega)
                                  refine x_aload_n C dX12_laysPlan_160 rfl 0 rfl rfl ?_
                                  refine x_get C (ci := 11) (k := 40) 0 k131 rfl in_X12 (by decide) w_1158 rfl dX12_laysPlan_161 rfl ?_
                                  refine x_sipush C (v := 1024) dX12_laysPlan_164 (by decide) rfl ?_
                                  refine x_iload_n C dX12_laysPlan_167 rfl 2 rfl rfl ?_
                                  refine x_imul C (v := (nI (1024 * wq))) dX12_laysPlan_168 (pk_mul 1024 wq) rfl ?_
                                  refine x_iload_n C dX12_laysPlan_169 rfl 3 rfl rfl ?_
                                  refine x_iadd C (v := (nI ((1024 * wq) + lf))) dX12_laysPlan_170 (nI_add (1024 * wq) lf) rfl ?_
                                  refine x_iload C dX12_laysPlan_171 4 rfl rfl ?_
                                  obtain ⟨w148, hw149⟩ : ∃ w : va_W, w = List.set wl107 24 (iA E (a 24) 5120 (upd pb132 ((1024 * wq) + lf) z129_4)) := ⟨_, rfl⟩
                                  refine x_iask C ((1024 * wq) + lf) (nI_clamp (by omega)) (nI_pos (by omega)) (by omega) 24 k133 hw149.symm dX12_laysPlan_173 rfl ?_
                                  have hW150 : WX (okM E a cd kf jn js jq) w148 := by rw [hw149]; exact hWl107.set (k := 24) rfl ⟨_, rfl⟩
                                  have k151 : w148[1]? = some (iA E (a 1) 382 fn) := by rw [hw149]; exact set_ne k113 (by decide)
                                  have k152 : w148[22]? = some (iA E (a 22) 12 (fun j => nI (og j))) := by rw [hw149]; exact set_ne k114 (by decide)
                                  have k153 : w148[0]? = some (ob (a 0) 11 [.ref (a 1), .ref (a 2), .ref (a 3), .ref (a 4), .int (nI n115), .int (nI n116), .int (nI n117), .int v122, .int v123, .int v124, .int (nI n118), .int (nI n119), .int (nI n120), .int (nI (cd.2.2.2.2.2)), .ref (a 5), .ref (a 6), .ref (a 7), .ref (a 8), .ref (a 9), .ref (a 10), .ref (a 11), .ref (a 12), .ref (a 13), .ref (a 14), .ref (a 15), .ref (a 16), .ref (a 17), .int (nI n121), .ref (a 18), .ref (a 19), .ref (a 20), .ref (a 21), .int v125, .int v126, .int v127, .int v128, .int (nI om), .int (nI (btn wk 8)), .ref (a 22), .ref (a 23), .ref (a 24), .ref (a 25), .ref (a 26), .ref (a 27), .ref (a 28), .ref (a 29), .ref (a 30), .int kf]) := by rw [hw149]; exact set_ne k131 (by decide)
                                  have k154 : w148[23]? = some (iA E (a 23) 4 (fun j => nI (g70 j))) := by rw [hw149]; exact set_ne iv107_2 (by decide)
                                  have k155 : w148[25]? = some (iA E (a 25) 1024 ps111) := by rw [hw149]; exact set_ne iv107_3 (by decide)
                                  have k156 : w148[24]? = some (iA E (a 24) 5120 (upd pb132 ((1024 * wq) + lf) z129_4)) := by rw [hw149]; exact set_eq k133
                                  have kp157 := keeps_set kq107 hw149 (by first | exact rfl | decide | omega | (dsimp only; omega))
                                  refine x_iinc C (v := (nI (lf + 1))) (lv' := [(3, .int (nI (lf + 1))), (0, .ref (a 0)), (1, .int (nI wk)), (2, .int (nI wq)), (4, .int z129_4), (5, .int (nI se))]) dX12_laysPlan_174 3 rfl (nI_add lf 1) (by decide) rfl rfl ?_
                                  refine x_goto C (tgt := 107) dX12_laysPlan_177 (by decide) ?_
                                  refine x_lv (lv1 := [(0, .ref (a 0)), (1, .int (nI wk)), (2, .int (nI wq)), (3, .int (nI (lf + 1)))]) [1, 2, 3, 0] rfl ?_
                                  exact ih107 (lf + 1) w148 hW150 (by omega) (by omega) ⟨n115, n116, n117, n118, n119, n120, n121, v122, v123, v124, v125, v126, v127, v128, ⟨by omega, by omega, by omega, by omega, by omega, by omega, by omega⟩, ⟨by omega, by omega⟩, k153⟩ k154 k155 ⟨_, k156, bOk_far hB134 (by omega), row_step hR135 (by omega) (by omega) hPTps111 iv129_2⟩ kp157
                                · skip
                                  have nf158 := nI_nle' (a := se) (b := 0) c146 (by omega) (by omega)
                                  refine x_iload C dX12_laysPlan_134 4 rfl rfl ?_
                                  refine x_aload_n C dX12_laysPlan_136 rfl 0 rfl rfl ?_
                                  refine x_iload_n C dX12_laysPlan_137 rfl 2 rfl rfl ?_
                                  refine x_iload_n C dX12_laysPlan_138 rfl 3 rfl rfl ?_
                                  refine x_iload C dX12_laysPlan_139 5 rfl rfl ?_
                                  refine x_vi C (As := [.int (nI wq), .int (nI lf), .int (nI se)]) (rest := [.int z129_4]) (m_planBy E l a cd hG kf jn js jq wl107 hWl107 wq lf se (by omega) (by omega) (by omega) fn k113 g70 gb71 iv107_2 ps111 iv107_3 pb132 k133) mf_X12_planBy w_1574 0 k131 rfl rfl rfl (Nat.le_of_ble_eq_true rfl) ⟨(Nat.le_of_ble_eq_true rfl), (Nat.le_of_ble_eq_true rfl)⟩ ⟨(Nat.le_of_ble_eq_true rfl), (Nat.le_of_ble_eq_true rfl)⟩ dX12_laysPlan_141 rfl (fun r160 w161 h159 => ?_)
                                  obtain ⟨hW162, x163⟩ := h159
                                  refine x_ws hW162 ?_
                                  refine x_si C (As := [.int z129_4, .int r160]) (rest := []) (m_maxX E l a cd hG kf jn js jq wl107 hWl107 z129_4 r160) mf_X12_max w_1578 rfl rfl (Nat.le_of_ble_eq_true rfl) ⟨(Nat.le_of_ble_eq_true rfl), (Nat.le_of_ble_eq_true rfl)⟩ ⟨(Nat.le_of_ble_eq_true rfl), (Nat.le_of_ble_eq_true rfl)⟩ dX12_laysPlan_144 rfl (fun r165 w166 h164 => ?_)
                                  obtain ⟨hW167, x168⟩ := h164
                                  refine x_ws hW167 ?_
                                  refine x_istore C (lv' := [(4, .int r165), (0, .ref (a 0)), (1, .int (nI wk)), (2, .int (nI wq)), (3, .int (nI lf)), (5, .int (nI se))]) dX12_laysPlan_147 (by decide) rfl rfl ?_
                                  refine x_iload C dX12_laysPlan_149 5 rfl rfl ?_
                                  refine x_iconst C (v := 1) dX12_laysPlan_151 (by decide) rfl ?_
                                  refine x_isub C (v := (nI (se - 1))) dX12_laysPlan_152 (pk_sub (a := se) (b := 1) (by omega)) rfl ?_
                                  refine x_iload_n C dX12_laysPlan_153 rfl 4 rfl rfl ?_
                                  obtain ⟨z169, hz170, ez171⟩ := and_le (f := (se - 1)) (by omega) (nI lf)
                                  refine x_iand C (v := (nI z169)) dX12_laysPlan_154 ez171 rfl ?_
                                  refine x_istore C (lv' := [(5, .int (nI z169)), (4, .int r165), (0, .ref (a 0)), (1, .int (nI wk)), (2, .int (nI wq)), (3, .int (nI lf))]) dX12_laysPlan_155 (by decide) rfl rfl ?_
                                  refine x_goto C (tgt := 129) dX12_laysPlan_157 (by decide) ?_
                                  refine x_lv (lv1 := [(0, .ref (a 0)), (1, .int (nI wk)), (2, .int (nI wq)), (3, .int (nI lf)), (4, .int r165), (5, .int (nI z169))]) [2, 3, 4, 5, 1, 0] rfl ?_
                                  exact ih129 r165 z169 trivial (by omega) (by omega) (sub_and ez171) (Or.elim x168 (fun q => Exists.elim iv129_2 (fun s9 h9 => ⟨s9, h9.1, h9.2.1, q.trans h9.2.2⟩)) (fun q => ⟨se, by omega, iv129_1, q.trans x163⟩))
                            refine x_lv (lv1 := [(0, .ref (a 0)), (1, .int (nI wk)), (2, .int (nI wq)), (3, .int (nI lf)), (4, .int r142), (5, .int (nI lf))]) [2, 3, 4, 5, 1, 0] rfl ?_
                            exact loop129 _ r142 lf trivial (Nat.lt_succ_self _) (by omega) (sub_rfl _) ⟨0, by omega, sub_zero _, x145⟩
                      refine x_lv (lv1 := [(0, .ref (a 0)), (1, .int (nI wk)), (2, .int (nI wq)), (3, .int 0)]) [1, 2, 3, 0] rfl ?_
                      exact loop107 _ 0 w101 hW102 (Nat.lt_succ_self _) (by omega) ⟨n75, n76, n77, n78, n79, n80, n81, v82, v83, v84, v85, v86, v87, v88, ⟨by omega, by omega, by omega, by omega, by omega, by omega, by omega⟩, ⟨by omega, by omega⟩, k107⟩ k108 k112 ⟨_, k109, hB94, fun j9 h9 => absurd h9 (by omega)⟩ kp110
                refine x_lv (lv1 := [(0, .ref (a 0)), (1, .int (nI wk)), (2, .int (nI (((btn wk 8)) - 1)))]) [1, 2, 0] rfl ?_
                exact loop91 _ (((btn wk 8)) - 1) wl52 hWl52 (Nat.lt_succ_self _) (by omega) ⟨n48, n49, n50, n51, n52, n53, n54, v55, v56, v57, v58, v59, v60, v61, ⟨by omega, by omega, by omega, by omega, by omega, by omega, by omega⟩, ⟨by omega, by omega⟩, k64⟩ k69 ⟨_, k67, fun v9 h9 h8 => absurd h8 (by omega)⟩ kq52
            · skip
              have nf172 := nI_nle' (a := (p2 om)) (b := lq) c65 (by omega) (by omega)
              refine x_aload_n C dX12_laysPlan_62 rfl 0 rfl rfl ?_
              refine x_get C (ci := 11) (k := 40) 0 k64 rfl in_X12 (by decide) w_1158 rfl dX12_laysPlan_63 rfl ?_
              refine x_sipush C (v := 1024) dX12_laysPlan_66 (by decide) rfl ?_
              refine x_aload_n C dX12_laysPlan_69 rfl 0 rfl rfl ?_
              refine x_get C (ci := 11) (k := 37) 0 k64 rfl in_X12 (by decide) w_1155 rfl dX12_laysPlan_70 rfl ?_
              refine x_imul C (v := (nI (1024 * ((btn wk 8))))) dX12_laysPlan_73 (pk_mul 1024 ((btn wk 8))) rfl ?_
              refine x_iload_n C dX12_laysPlan_74 rfl 2 rfl rfl ?_
              refine x_iadd C (v := (nI ((1024 * ((btn wk 8))) + lq))) dX12_laysPlan_75 (nI_add (1024 * ((btn wk 8))) lq) rfl ?_
              refine x_iconst C (v := 0) dX12_laysPlan_76 (by decide) rfl ?_
              obtain ⟨_, k173, f174, rfl⟩ := hWl52 24 _ rfl
              obtain ⟨w175, hw176⟩ : ∃ w : va_W, w = List.set wl52 24 (iA E (a 24) 5120 (upd f174 ((1024 * ((btn wk 8))) + lq) (0 : Int32))) := ⟨_, rfl⟩
              refine x_iask C ((1024 * ((btn wk 8))) + lq) (nI_clamp (by omega)) (nI_pos (by omega)) (by omega) 24 k173 hw176.symm dX12_laysPlan_77 rfl ?_
              have hW177 : WX (okM E a cd kf jn js jq) w175 := by rw [hw176]; exact hWl52.set (k := 24) rfl ⟨_, rfl⟩
              have k178 : w175[1]? = some (iA E (a 1) 382 fn) := by rw [hw176]; exact set_ne k46 (by decide)
              have k179 : w175[22]? = some (iA E (a 22) 12 (fun j => nI (og j))) := by rw [hw176]; exact set_ne k47 (by decide)
              have k180 : w175[0]? = some (ob (a 0) 11 [.ref (a 1), .ref (a 2), .ref (a 3), .ref (a 4), .int (nI n48), .int (nI n49), .int (nI n50), .int v55, .int v56, .int v57, .int (nI n51), .int (nI n52), .int (nI n53), .int (nI (cd.2.2.2.2.2)), .ref (a 5), .ref (a 6), .ref (a 7), .ref (a 8), .ref (a 9), .ref (a 10), .ref (a 11), .ref (a 12), .ref (a 13), .ref (a 14), .ref (a 15), .ref (a 16), .ref (a 17), .int (nI n54), .ref (a 18), .ref (a 19), .ref (a 20), .ref (a 21), .int v58, .int v59, .int v60, .int v61, .int (nI om), .int (nI (btn wk 8)), .ref (a 22), .ref (a 23), .ref (a 24), .ref (a 25), .ref (a 26), .ref (a 27), .ref (a 28), .ref (a 29), .ref (a 30), .int kf]) := by rw [hw176]; exact set_ne k64 (by decide)
              have k181 : w175[24]? = some (iA E (a 24) 5120 (upd f174 ((1024 * ((btn wk 8))) + lq) (0 : Int32))) := by rw [hw176]; exact set_eq k173
              have kp182 := keeps_set kq52 hw176 (by first | exact rfl | decide | omega | (dsimp only; omega))
              refine x_iinc C (v := (nI (lq + 1))) (lv' := [(2, .int (nI (lq + 1))), (0, .ref (a 0)), (1, .int (nI wk))]) dX12_laysPlan_78 2 rfl (nI_add lq 1) (by decide) rfl rfl ?_
              refine x_goto C (tgt := 52) dX12_laysPlan_81 (by decide) ?_
              refine x_lv (lv1 := [(0, .ref (a 0)), (1, .int (nI wk)), (2, .int (nI (lq + 1)))]) [1, 2, 0] rfl ?_
              exact ih52 (lq + 1) w175 hW177 (by omega) (by omega) ⟨n48, n49, n50, n51, n52, n53, n54, v55, v56, v57, v58, v59, v60, v61, ⟨by omega, by omega, by omega, by omega, by omega, by omega, by omega⟩, ⟨by omega, by omega⟩, k180⟩ kp182
        refine x_lv (lv1 := [(0, .ref (a 0)), (1, .int (nI wk)), (2, .int 0)]) [1, 2, 0] rfl ?_
        exact loop52 _ 0 wl7 hWl7 (Nat.lt_succ_self _) (by omega) ⟨n27, n28, n29, n30, n31, n32, n33, v34, v35, v36, v37, v38, v39, v40, ⟨by omega, by omega, by omega, by omega, by omega, by omega, by omega⟩, ⟨by omega, by omega⟩, k43⟩ kq7
      · skip
        have nf183 := nI_nle' (a := 8) (b := i) c44 (by omega) (by omega)
        have hbt := btn_i (w := wk) (i := i) (by omega) (by omega)
        refine x_iload_n C dX12_laysPlan_13 rfl 1 rfl rfl ?_
        refine x_iload_n C dX12_laysPlan_14 rfl 2 rfl rfl ?_
        refine x_si C (As := [.int (nI wk), .int (nI i)]) (rest := []) (m_has E l a cd hG kf jn js jq wl7 hWl7 ((nI wk)) ((nI i))) mf_X12_has w_1274 rfl rfl (Nat.le_of_ble_eq_true rfl) ⟨(Nat.le_of_ble_eq_true rfl), (Nat.le_of_ble_eq_true rfl)⟩ ⟨(Nat.le_of_ble_eq_true rfl), (Nat.le_of_ble_eq_true rfl)⟩ dX12_laysPlan_15 rfl (fun r185 w186 h184 => ?_)
        obtain ⟨hW187, zb188, x189⟩ := h184
        refine x_ws hW187 ?_
        refine x_if_ne C (tgt := 24) dX12_laysPlan_18 (by decide) rfl (fun c190 => ?_) (fun c190 => ?_)
        · skip
          have hbi191 : btn wk (i + 1) = btn wk i + 1 ∧ btn wk (i + 1) ≤ btn wk 8 := by rcases hbt with q | q; exact q.2; exact absurd (x189.mp c190) q.1
          refine x_aload_n C dX12_laysPlan_24 rfl 0 rfl rfl ?_
          refine x_get C (ci := 11) (k := 39) 0 k43 rfl in_X12 (by decide) w_1157 rfl dX12_laysPlan_25 rfl ?_
          refine x_aload_n C dX12_laysPlan_28 rfl 0 rfl rfl ?_
          refine x_get C (ci := 11) (k := 37) 0 k43 rfl in_X12 (by decide) w_1155 rfl dX12_laysPlan_29 rfl ?_
          refine x_iload_n C dX12_laysPlan_32 rfl 2 rfl rfl ?_
          obtain ⟨_, k192, g193, gb194, rfl⟩ := hWl7 23 _ rfl
          have gb195 := updn_le (i := ((btn wk i))) (v := i) gb194 (by omega)
          obtain ⟨w196, hw197⟩ : ∃ w : va_W, w = List.set wl7 23 (iA E (a 23) 4 (upd (fun j => nI (g193 j)) ((btn wk i)) (nI i))) := ⟨_, rfl⟩
          refine x_iask C ((btn wk i)) (nI_clamp (by omega)) (nI_pos (by omega)) (by omega) 23 k192 hw197.symm dX12_laysPlan_33 rfl ?_
          have hW198 : WX (okM E a cd kf jn js jq) w196 := by rw [hw197]; exact hWl7.set (k := 23) rfl ⟨_, gb195, iA_n (upd_nI g193 ((btn wk i)) i)⟩
          have k199 : w196[1]? = some (iA E (a 1) 382 fn) := by rw [hw197]; exact set_ne k25 (by decide)
          have k200 : w196[22]? = some (iA E (a 22) 12 (fun j => nI (og j))) := by rw [hw197]; exact set_ne k26 (by decide)
          have k201 : w196[0]? = some (ob (a 0) 11 [.ref (a 1), .ref (a 2), .ref (a 3), .ref (a 4), .int (nI n27), .int (nI n28), .int (nI n29), .int v34, .int v35, .int v36, .int (nI n30), .int (nI n31), .int (nI n32), .int (nI (cd.2.2.2.2.2)), .ref (a 5), .ref (a 6), .ref (a 7), .ref (a 8), .ref (a 9), .ref (a 10), .ref (a 11), .ref (a 12), .ref (a 13), .ref (a 14), .ref (a 15), .ref (a 16), .ref (a 17), .int (nI n33), .ref (a 18), .ref (a 19), .ref (a 20), .ref (a 21), .int v37, .int v38, .int v39, .int v40, .int (nI om), .int (nI (btn wk i)), .ref (a 22), .ref (a 23), .ref (a 24), .ref (a 25), .ref (a 26), .ref (a 27), .ref (a 28), .ref (a 29), .ref (a 30), .int kf]) := by rw [hw197]; exact set_ne k43 (by decide)
          have k202 : w196[23]? = some (iA E (a 23) 4 (upd (fun j => nI (g193 j)) ((btn wk i)) (nI i))) := by rw [hw197]; exact set_eq k192
          have kp203 := keeps_set kq7 hw197 (by first | exact rfl | decide | omega | (dsimp only; omega))
          have k204 : w196[23]? = some (iA E (a 23) 4 (fun j => nI ((updn g193 ((btn wk i)) i) j))) := by rw [← upd_nI]; exact k202
          refine x_aload_n C dX12_laysPlan_34 rfl 0 rfl rfl ?_
          refine x_aload_n C dX12_laysPlan_35 rfl 0 rfl rfl ?_
          refine x_get C (ci := 11) (k := 37) 0 k201 rfl in_X12 (by decide) w_1155 rfl dX12_laysPlan_36 rfl ?_
          refine x_iconst C (v := 1) dX12_laysPlan_39 (by decide) rfl ?_
          refine x_iadd C (v := (nI (((btn wk i)) + 1))) dX12_laysPlan_40 (nI_add ((btn wk i)) 1) rfl ?_
          obtain ⟨w205, hw206⟩ : ∃ w : va_W, w = List.set w196 0 (ob (a 0) 11 [.ref (a 1), .ref (a 2), .ref (a 3), .ref (a 4), .int (nI n27), .int (nI n28), .int (nI n29), .int v34, .int v35, .int v36, .int (nI n30), .int (nI n31), .int (nI n32), .int (nI (cd.2.2.2.2.2)), .ref (a 5), .ref (a 6), .ref (a 7), .ref (a 8), .ref (a 9), .ref (a 10), .ref (a 11), .ref (a 12), .ref (a 13), .ref (a 14), .ref (a 15), .ref (a 16), .ref (a 17), .int (nI n33), .ref (a 18), .ref (a 19), .ref (a 20), .ref (a 21), .int v37, .int v38, .int v39, .int v40, .int (nI om), .int (nI (((btn wk i)) + 1)), .ref (a 22), .ref (a 23), .ref (a 24), .ref (a 25), .ref (a 26), .ref (a 27), .ref (a 28), .ref (a 29), .ref (a 30), .int kf]) := ⟨_, rfl⟩
          refine x_put C (ci := 11) (k := 37) (ty := .int) 0 k201 rfl in_X12 tyX12 tyX12_ok nmX12 (by decide) w_1155 rfl rfl rfl rfl (Nat.le_of_ble_eq_true rfl) hw206.symm dX12_laysPlan_41 rfl ?_
          have hW207 : WX (okM E a cd kf jn js jq) w205 := by rw [hw206]; exact hW198.set (k := 0) rfl ⟨n27, n28, n29, v34, v35, v36, n30, n31, n32, n33, v37, v38, v39, v40, om, (((btn wk i)) + 1), by omega, by omega, by omega, by omega, by omega, by omega, by omega, by omega, by omega, rfl⟩
          have k208 : w205[1]? = some (iA E (a 1) 382 fn) := by rw [hw206]; exact set_ne k199 (by decide)
          have k209 : w205[22]? = some (iA E (a 22) 12 (fun j => nI (og j))) := by rw [hw206]; exact set_ne k200 (by decide)
          have k210 : w205[0]? = some (ob (a 0) 11 [.ref (a 1), .ref (a 2), .ref (a 3), .ref (a 4), .int (nI n27), .int (nI n28), .int (nI n29), .int v34, .int v35, .int v36, .int (nI n30), .int (nI n31), .int (nI n32), .int (nI (cd.2.2.2.2.2)), .ref (a 5), .ref (a 6), .ref (a 7), .ref (a 8), .ref (a 9), .ref (a 10), .ref (a 11), .ref (a 12), .ref (a 13), .ref (a 14), .ref (a 15), .ref (a 16), .ref (a 17), .int (nI n33), .ref (a 18), .ref (a 19), .ref (a 20), .ref (a 21), .int v37, .int v38, .int v39, .int v40, .int (nI om), .int (nI (((btn wk i)) + 1)), .ref (a 22), .ref (a 23), .ref (a 24), .ref (a 25), .ref (a 26), .ref (a 27), .ref (a 28), .ref (a 29), .ref (a 30), .int kf]) := by rw [hw206]; exact set_eq k201
          have k211 : w205[23]? = some (iA E (a 23) 4 (fun j => nI ((updn g193 ((btn wk i)) i) j))) := by rw [hw206]; exact set_ne k204 (by decide)
          have kp212 := keeps_set kp203 hw206 (by first | exact rfl | decide | omega | (dsimp only; omega))
          refine x_iinc C (v := (nI (i + 1))) (lv' := [(2, .int (nI (i + 1))), (0, .ref (a 0)), (1, .int (nI wk))]) dX12_laysPlan_44 2 rfl (nI_add i 1) (by decide) rfl rfl ?_
          refine x_goto C (tgt := 7) dX12_laysPlan_47 (by decide) ?_
          refine x_lv (lv1 := [(0, .ref (a 0)), (1, .int (nI wk)), (2, .int (nI (i + 1)))]) [1, 2, 0] rfl ?_
          exact ih7 (i + 1) w205 hW207 (by omega) (by omega) (by rw [hbi191.1]; exact ⟨n27, n28, n29, n30, n31, n32, n33, v34, v35, v36, v37, v38, v39, v40, ⟨by omega, by omega, by omega, by omega, by omega, by omega, by omega⟩, ⟨by omega, by omega⟩, k210⟩) kp212
        · skip
          have hbi213 : btn wk (i + 1) = btn wk i := by rcases hbt with q | q; exact absurd (x189.mpr q.1) (fun z => z c190); exact q.2.1
          refine x_goto C (tgt := 44) dX12_laysPlan_21 (by decide) ?_
          refine x_iinc C (v := (nI (i + 1))) (lv' := [(2, .int (nI (i + 1))), (0, .ref (a 0)), (1, .int (nI wk))]) dX12_laysPlan_44 2 rfl (nI_add i 1) (by decide) rfl rfl ?_
          refine x_goto C (tgt := 7) dX12_laysPlan_47 (by decide) ?_
          refine x_lv (lv1 := [(0, .ref (a 0)), (1, .int (nI wk)), (2, .int (nI (i + 1)))]) [1, 2, 0] rfl ?_
          exact ih7 (i + 1) wl7 hWl7 (by omega) (by omega) (by rw [hbi213]; exact ⟨n27, n28, n29, n30, n31, n32, n33, v34, v35, v36, v37, v38, v39, v40, ⟨by omega, by omega, by omega, by omega, by omega, by omega, by omega⟩, ⟨by omega, by omega⟩, k43⟩) kq7
  refine x_lv (lv1 := [(0, .ref (a 0)), (1, .int (nI wk)), (2, .int 0)]) [1, 2, 0] rfl ?_
  exact loop7 _ 0 w18 hW20 (Nat.lt_succ_self _) (by omega) (by rw [show btn wk 0 = 0 from rfl]; exact ⟨n1, n2, n3, n4, n5, n6, n7, v8, v9, v10, v11, v12, v13, v14, ⟨by omega, by omega, by omega, by omega, by omega, by omega, by omega⟩, ⟨by omega, by omega⟩, k22⟩) kp24
theorem dX12_planSet_0 : decode cX12_planSet 0 = .ok (.iconst 1, 1) := by decide +kernel
theorem dX12_planSet_1 : decode cX12_planSet 1 = .ok (.aload_n 0, 1) := by decide +kernel
theorem dX12_planSet_2 : decode cX12_planSet 2 = .ok (.getfield 344, 3) := by decide +kernel
theorem dX12_planSet_5 : decode cX12_planSet 5 = .ok (.ishl, 1) := by decide +kernel
theorem dX12_planSet_6 : decode cX12_planSet 6 = .ok (.iconst 1, 1) := by decide +kernel
theorem dX12_planSet_7 : decode cX12_planSet 7 = .ok (.isub, 1) := by decide +kernel
theorem dX12_planSet_8 : decode cX12_planSet 8 = .ok (.istore_n 2, 1) := by decide +kernel
theorem dX12_planSet_9 : decode cX12_planSet 9 = .ok (.iconst 0, 1) := by decide +kernel
theorem dX12_planSet_10 : decode cX12_planSet 10 = .ok (.istore_n 3, 1) := by decide +kernel
theorem dX12_planSet_11 : decode cX12_planSet 11 = .ok (.iconst 0, 1) := by decide +kernel
theorem dX12_planSet_12 : decode cX12_planSet 12 = .ok (.istore 4, 2) := by decide +kernel
theorem dX12_planSet_14 : decode cX12_planSet 14 = .ok (.iload 4, 2) := by decide +kernel
theorem dX12_planSet_16 : decode cX12_planSet 16 = .ok (.aload_n 0, 1) := by decide +kernel
theorem dX12_planSet_17 : decode cX12_planSet 17 = .ok (.getfield 350, 3) := by decide +kernel
theorem dX12_planSet_20 : decode cX12_planSet 20 = .ok (.if_icmp .ge 80, 3) := by decide +kernel
theorem dX12_planSet_23 : decode cX12_planSet 23 = .ok (.aload_n 0, 1) := by decide +kernel
theorem dX12_planSet_24 : decode cX12_planSet 24 = .ok (.aload_n 0, 1) := by decide +kernel
theorem dX12_planSet_25 : decode cX12_planSet 25 = .ok (.getfield 77, 3) := by decide +kernel
theorem dX12_planSet_28 : decode cX12_planSet 28 = .ok (.iload 4, 2) := by decide +kernel
theorem dX12_planSet_30 : decode cX12_planSet 30 = .ok (.iaload, 1) := by decide +kernel
theorem dX12_planSet_31 : decode cX12_planSet 31 = .ok (.invokevirtual 353, 3) := by decide +kernel
theorem dX12_planSet_34 : decode cX12_planSet 34 = .ok (.iconst 0, 1) := by decide +kernel
theorem dX12_planSet_35 : decode cX12_planSet 35 = .ok (.istore_n 3, 1) := by decide +kernel
theorem dX12_planSet_36 : decode cX12_planSet 36 = .ok (.iload_n 3, 1) := by decide +kernel
theorem dX12_planSet_37 : decode cX12_planSet 37 = .ok (.iload_n 2, 1) := by decide +kernel
theorem dX12_planSet_38 : decode cX12_planSet 38 = .ok (.iconst (-1), 1) := by decide +kernel
theorem dX12_planSet_39 : decode cX12_planSet 39 = .ok (.ixor, 1) := by decide +kernel
theorem dX12_planSet_40 : decode cX12_planSet 40 = .ok (.iand, 1) := by decide +kernel
theorem dX12_planSet_41 : decode cX12_planSet 41 = .ok (.ifCond .ne 27, 3) := by decide +kernel
theorem dX12_planSet_44 : decode cX12_planSet 44 = .ok (.aload_n 0, 1) := by decide +kernel
theorem dX12_planSet_45 : decode cX12_planSet 45 = .ok (.iload 4, 2) := by decide +kernel
theorem dX12_planSet_47 : decode cX12_planSet 47 = .ok (.iload_n 2, 1) := by decide +kernel
theorem dX12_planSet_48 : decode cX12_planSet 48 = .ok (.iload_n 3, 1) := by decide +kernel
theorem dX12_planSet_49 : decode cX12_planSet 49 = .ok (.invokevirtual 356, 3) := by decide +kernel
theorem dX12_planSet_52 : decode cX12_planSet 52 = .ok (.aload_n 0, 1) := by decide +kernel
theorem dX12_planSet_53 : decode cX12_planSet 53 = .ok (.getfield 80, 3) := by decide +kernel
theorem dX12_planSet_56 : decode cX12_planSet 56 = .ok (.sipush 1024, 3) := by decide +kernel
theorem dX12_planSet_59 : decode cX12_planSet 59 = .ok (.iload 4, 2) := by decide +kernel
theorem dX12_planSet_61 : decode cX12_planSet 61 = .ok (.imul, 1) := by decide +kernel
theorem dX12_planSet_62 : decode cX12_planSet 62 = .ok (.iload_n 2, 1) := by decide +kernel
theorem dX12_planSet_63 : decode cX12_planSet 63 = .ok (.iadd, 1) := by decide +kernel
theorem dX12_planSet_64 : decode cX12_planSet 64 = .ok (.iaload, 1) := by decide +kernel
theorem dX12_planSet_65 : decode cX12_planSet 65 = .ok (.if_icmp .eq 10, 3) := by decide +kernel
theorem dX12_planSet_68 : decode cX12_planSet 68 = .ok (.iload_n 3, 1) := by decide +kernel
theorem dX12_planSet_69 : decode cX12_planSet 69 = .ok (.iconst 1, 1) := by decide +kernel
theorem dX12_planSet_70 : decode cX12_planSet 70 = .ok (.iadd, 1) := by decide +kernel
theorem dX12_planSet_71 : decode cX12_planSet 71 = .ok (.istore_n 3, 1) := by decide +kernel
theorem dX12_planSet_72 : decode cX12_planSet 72 = .ok (.goto (-36), 3) := by decide +kernel
theorem dX12_planSet_75 : decode cX12_planSet 75 = .ok (.aload_n 0, 1) := by decide +kernel
theorem dX12_planSet_76 : decode cX12_planSet 76 = .ok (.getfield 77, 3) := by decide +kernel
theorem dX12_planSet_79 : decode cX12_planSet 79 = .ok (.iload 4, 2) := by decide +kernel
theorem dX12_planSet_81 : decode cX12_planSet 81 = .ok (.iaload, 1) := by decide +kernel
theorem dX12_planSet_82 : decode cX12_planSet 82 = .ok (.iload_n 1, 1) := by decide +kernel
theorem dX12_planSet_83 : decode cX12_planSet 83 = .ok (.if_icmp .ne 5, 3) := by decide +kernel
theorem dX12_planSet_86 : decode cX12_planSet 86 = .ok (.iload_n 3, 1) := by decide +kernel
theorem dX12_planSet_87 : decode cX12_planSet 87 = .ok (.ireturn, 1) := by decide +kernel
theorem dX12_planSet_88 : decode cX12_planSet 88 = .ok (.iload_n 2, 1) := by decide +kernel
theorem dX12_planSet_89 : decode cX12_planSet 89 = .ok (.iload_n 3, 1) := by decide +kernel
theorem dX12_planSet_90 : decode cX12_planSet 90 = .ok (.iconst (-1), 1) := by decide +kernel
theorem dX12_planSet_91 : decode cX12_planSet 91 = .ok (.ixor, 1) := by decide +kernel
theorem dX12_planSet_92 : decode cX12_planSet 92 = .ok (.iand, 1) := by decide +kernel
theorem dX12_planSet_93 : decode cX12_planSet 93 = .ok (.istore_n 2, 1) := by decide +kernel
theorem dX12_planSet_94 : decode cX12_planSet 94 = .ok (.iinc 4 1, 3) := by decide +kernel
theorem dX12_planSet_97 : decode cX12_planSet 97 = .ok (.goto (-83), 3) := by decide +kernel
theorem dX12_planSet_100 : decode cX12_planSet 100 = .ok (.iload_n 3, 1) := by decide +kernel
theorem dX12_planSet_101 : decode cX12_planSet 101 = .ok (.ireturn, 1) := by decide +kernel
set_option maxRecDepth 20000 in
set_option maxHeartbeats 4000000 in
theorem m_planSet (E : xE) (l : Launch) (a : Nat → Nat) (cd : Cd) (hG : Good cd) (kf : Int32) (jn js jq : Lb) (ws : va_W) (hW : WX (okM E a cd kf jn js jq) ws) (p0 : Int32) (fn : Nat → Int32) (hfn : ws[1]? = some (iA E (a 1) 382 fn)) (om pm : Nat) (h0 : PO a cd kf ws om pm) (hom : om ≤ 10) (og : Nat → Nat) (hob : ∀ j, og j ≤ 47) (hog : ws[22]? = some (iA E (a 22) 12 (fun j => nI (og j)))) (pw : Nat → Nat) (hpb : ∀ j, pw j ≤ 7) (hpw : ws[23]? = some (iA E (a 23) 4 (fun j => nI (pw j)))) (pb : Nat → Int32) (hpbst : ws[24]? = some (iA E (a 24) 5120 pb)) (hbok : bOk cd fn pb og pw om 0 pm) : xI E l yX12_planSet cX12_planSet 5 (some .int) 5 [.ref (a 0), .int p0] ws (fun r w => WX (okM E a cd kf jn js jq) w ∧ keeps ws w (fun q => q = 16 ∨ q = 17 ∨ q = 25)) := by
  refine xI_start (lv := [(0, .ref (a 0)), (1, .int p0)]) RX12 (by decide) rfl (Nat.le_of_ble_eq_true rfl) rfl (fun p e s m below meth c A C hr hlk => ?_)
  have kp0 : keeps ws ws (fun q => q = 16 ∨ q = 17 ∨ q = 25) := keeps_rf
  obtain ⟨_, kq1, fq, pfq, rfl⟩ := hW 1 _ rfl
  obtain rfl := iA_inj (hfn.symm.trans kq1)
  obtain ⟨n1, n2, n3, n4, n5, n6, n7, v8, v9, v10, v11, v12, v13, v14, bo15, bo16, k17⟩ := h0
  have hp2o := p2_10 (k := om) (by omega)
  have hp2p := p2_pos om
  refine x_iconst C (v := 1) dX12_planSet_0 (by decide) rfl ?_
  refine x_aload_n C dX12_planSet_1 rfl 0 rfl rfl ?_
  refine x_get C (ci := 11) (k := 36) 0 k17 rfl in_X12 (by decide) w_1154 rfl dX12_planSet_2 rfl ?_
  refine x_ishl C (v := (nI (p2 om))) dX12_planSet_5 (shp (by omega)) rfl ?_
  refine x_iconst C (v := 1) dX12_planSet_6 (by decide) rfl ?_
  refine x_isub C (v := (nI ((p2 om) - 1))) dX12_planSet_7 (pk_sub (a := (p2 om)) (b := 1) (by omega)) rfl ?_
  refine x_istore_n C (lv' := [(2, .int (nI ((p2 om) - 1))), (0, .ref (a 0)), (1, .int p0)]) dX12_planSet_8 rfl (by decide) rfl rfl ?_
  refine x_iconst C (v := 0) dX12_planSet_9 (by decide) rfl ?_
  refine x_istore_n C (lv' := [(3, .int 0), (2, .int (nI ((p2 om) - 1))), (0, .ref (a 0)), (1, .int p0)]) dX12_planSet_10 rfl (by decide) rfl rfl ?_
  refine x_iconst C (v := 0) dX12_planSet_11 (by decide) rfl ?_
  refine x_istore C (lv' := [(4, .int 0), (3, .int 0), (2, .int (nI ((p2 om) - 1))), (0, .ref (a 0)), (1, .int p0)]) dX12_planSet_12 (by decide) rfl rfl ?_
  have loop14 : ∀ (fu14 : Nat) (lf : Nat) (z14_3 : Int32) (wq : Nat) (wl14 : va_W), WX (okM E a cd kf jn js jq) wl14 → pm - wq < fu14 → lf < p2 om → wq ≤ pm → keeps ws wl14 (fun q => q = 16 ∨ q = 17 ∨ q = 25) → X E p l e (xRm 5 0 0) s m ([.ref (a 0), .int p0] : List Value).toArray below meth c A 5 0 0 (MQ below (va_Qi (fun r w => WX (okM E a cd kf jn js jq) w ∧ keeps ws w (fun q => q = 16 ∨ q = 17 ∨ q = 25)) (xB E A) A) ([.ref (a 0), .int p0] : List Value).toArray s 0 0 A) wl14 14 [(0, .ref (a 0)), (1, .int p0), (2, .int (nI lf)), (3, .int z14_3), (4, .int (nI wq))] [] := by
    intro fu14
    induction fu14 with
    | zero => intro lf z14_3 wq wl14 _ q; omega
    | succ fu14 ih14 =>
      intro lf z14_3 wq wl14 hWl14 me14 iv14_0 iv14_1 kq14
      have k18 : wl14[0]? = some (ob (a 0) 11 [.ref (a 1), .ref (a 2), .ref (a 3), .ref (a 4), .int (nI n1), .int (nI n2), .int (nI n3), .int v8, .int v9, .int v10, .int (nI n4), .int (nI n5), .int (nI n6), .int (nI (cd.2.2.2.2.2)), .ref (a 5), .ref (a 6), .ref (a 7), .ref (a 8), .ref (a 9), .ref (a 10), .ref (a 11), .ref (a 12), .ref (a 13), .ref (a 14), .ref (a 15), .ref (a 16), .ref (a 17), .int (nI n7), .ref (a 18), .ref (a 19), .ref (a 20), .ref (a 21), .int v11, .int v12, .int v13, .int v14, .int (nI om), .int (nI pm), .ref (a 22), .ref (a 23), .ref (a 24), .ref (a 25), .ref (a 26), .ref (a 27), .ref (a 28), .ref (a 29), .ref (a 30), .int kf]) := keeps_at kq14 k17 (by first | decide | omega | (dsimp only; omega))
      have k19 : wl14[1]? = some (iA E (a 1) 382 fn) := keeps_at kq14 hfn (by first | decide | omega | (dsimp only; omega))
      have k20 : wl14[22]? = some (iA E (a 22) 12 (fun j => nI (og j))) := keeps_at kq14 hog (by first | decide | omega | (dsimp only; omega))
      have k21 : wl14[23]? = some (iA E (a 23) 4 (fun j => nI (pw j))) := keeps_at kq14 hpw (by first | decide | omega | (dsimp only; omega))
      have k22 : wl14[24]? = some (iA E (a 24) 5120 pb) := keeps_at kq14 hpbst (by first | decide | omega | (dsimp only; omega))
      refine x_iload C dX12_planSet_14 4 rfl rfl ?_
      refine x_aload_n C dX12_planSet_16 rfl 0 rfl rfl ?_
      refine x_get C (ci := 11) (k := 37) 0 k18 rfl in_X12 (by decide) w_1155 rfl dX12_planSet_17 rfl ?_
      refine x_icmp_ge C (tgt := 100) dX12_planSet_20 (by decide) rfl (fun c23 => ?_) (fun c23 => ?_)
      · skip
        have nf24 := nI_le' (a := pm) (b := wq) c23 (by omega) (by omega)
        refine x_iload_n C dX12_planSet_100 rfl 3 rfl rfl ?_
        exact x_zret C hr hlk rfl dX12_planSet_101 ⟨hWl14, kq14⟩
      · skip
        have nf25 := nI_nle' (a := pm) (b := wq) c23 (by omega) (by omega)
        refine x_aload_n C dX12_planSet_23 rfl 0 rfl rfl ?_
        refine x_aload_n C dX12_planSet_24 rfl 0 rfl rfl ?_
        refine x_get C (ci := 11) (k := 39) 0 k18 rfl in_X12 (by decide) w_1157 rfl dX12_planSet_25 rfl ?_
        refine x_iload C dX12_planSet_28 4 rfl rfl ?_
        refine x_ialk C (v := nI (pw wq)) wq (nI_clamp (by omega)) (nI_pos (by omega)) (by omega) 23 k21 rfl dX12_planSet_30 rfl ?_
        have bx26 := hpb wq
        refine x_vv C (As := [.int (nI (pw wq))]) (rest := []) (m_laysSums E l a cd hG kf jn js jq wl14 hWl14 (pw wq) fn k19 om pm ⟨n1, n2, n3, n4, n5, n6, n7, v8, v9, v10, v11, v12, v13, v14, ⟨by omega, by omega, by omega, by omega, by omega, by omega, by omega⟩, ⟨by omega, by omega⟩, k18⟩ (by omega) og hob k20) mf_X12_laysSums w_1570 0 k18 rfl rfl rfl (Nat.le_of_ble_eq_true rfl) ⟨(Nat.le_of_ble_eq_true rfl), (Nat.le_of_ble_eq_true rfl)⟩ ⟨(Nat.le_of_ble_eq_true rfl), (Nat.le_of_ble_eq_true rfl)⟩ dX12_planSet_31 rfl (fun w29 h27 => ?_)
        obtain ⟨hW30, kq31, x32⟩ := h27
        have k33 : w29[0]? = some (ob (a 0) 11 [.ref (a 1), .ref (a 2), .ref (a 3), .ref (a 4), .int (nI n1), .int (nI n2), .int (nI n3), .int v8, .int v9, .int v10, .int (nI n4), .int (nI n5), .int (nI n6), .int (nI (cd.2.2.2.2.2)), .ref (a 5), .ref (a 6), .ref (a 7), .ref (a 8), .ref (a 9), .ref (a 10), .ref (a 11), .ref (a 12), .ref (a 13), .ref (a 14), .ref (a 15), .ref (a 16), .ref (a 17), .int (nI n7), .ref (a 18), .ref (a 19), .ref (a 20), .ref (a 21), .int v11, .int v12, .int v13, .int v14, .int (nI om), .int (nI pm), .ref (a 22), .ref (a 23), .ref (a 24), .ref (a 25), .ref (a 26), .ref (a 27), .ref (a 28), .ref (a 29), .ref (a 30), .int kf]) := keeps_at kq31 k18 (by first | decide | omega | (dsimp only; omega))
        have k34 : w29[1]? = some (iA E (a 1) 382 fn) := keeps_at kq31 k19 (by first | decide | omega | (dsimp only; omega))
        have k35 : w29[22]? = some (iA E (a 22) 12 (fun j => nI (og j))) := keeps_at kq31 k20 (by first | decide | omega | (dsimp only; omega))
        have k36 : w29[23]? = some (iA E (a 23) 4 (fun j => nI (pw j))) := keeps_at kq31 k21 (by first | decide | omega | (dsimp only; omega))
        have k37 : w29[24]? = some (iA E (a 24) 5120 pb) := keeps_at kq31 k22 (by first | decide | omega | (dsimp only; omega))
        have kp38 := keeps_tr kq14 kq31 (fun q hq => by first | omega | (dsimp only at *; omega))
        obtain ⟨ps39, k40, hPTps39⟩ := x32
        obtain ⟨sx, hsx1, hsx2, hsx3⟩ := hbok wq (by omega) (by omega) lf (by omega)
        have hsx4 := hsx3 ps39 hPTps39
        refine x_iconst C (v := 0) dX12_planSet_34 (by decide) rfl ?_
        refine x_istore_n C (lv' := [(3, .int 0), (0, .ref (a 0)), (1, .int p0), (2, .int (nI lf)), (4, .int (nI wq))]) dX12_planSet_35 rfl (by decide) rfl rfl ?_
        have loop36 : ∀ (fu36 : Nat) (se : Nat), True → sx - se < fu36 → se ≤ sx → X E p l e (xRm 5 0 0) s m ([.ref (a 0), .int p0] : List Value).toArray below meth c A 5 0 0 (MQ below (va_Qi (fun r w => WX (okM E a cd kf jn js jq) w ∧ keeps ws w (fun q => q = 16 ∨ q = 17 ∨ q = 25)) (xB E A) A) ([.ref (a 0), .int p0] : List Value).toArray s 0 0 A) w29 36 [(0, .ref (a 0)), (1, .int p0), (2, .int (nI lf)), (3, .int (nI se)), (4, .int (nI wq))] [] := by
          intro fu36
          induction fu36 with
          | zero => intro se _ q; omega
          | succ fu36 ih36 =>
            intro se _ me36 iv36_0
            refine x_iload_n C dX12_planSet_36 rfl 3 rfl rfl ?_
            refine x_iload_n C dX12_planSet_37 rfl 2 rfl rfl ?_
            refine x_iconst C (v := (-1)) dX12_planSet_38 (by decide) rfl ?_
            refine x_ixor C (v := ((nI lf) ^^^ ((-1) : Int32))) dX12_planSet_39 rfl rfl ?_
            refine x_iand C (v := ((nI se) &&& ((nI lf) ^^^ ((-1) : Int32)))) dX12_planSet_40 rfl rfl ?_
            refine x_if_ne C (tgt := 68) dX12_planSet_41 (by decide) rfl (fun c41 => ?_) (fun c41 => ?_)
            · skip
              have hne42 : se ≠ sx := fun q => c41 (q ▸ hsx2)
              refine x_iload_n C dX12_planSet_68 rfl 3 rfl rfl ?_
              refine x_iconst C (v := 1) dX12_planSet_69 (by decide) rfl ?_
              refine x_iadd C (v := (nI (se + 1))) dX12_planSet_70 (nI_add se 1) rfl ?_
              refine x_istore_n C (lv' := [(3, .int (nI (se + 1))), (0, .ref (a 0)), (1, .int p0), (2, .int (nI lf)), (4, .int (nI wq))]) dX12_planSet_71 rfl (by decide) rfl rfl ?_
              refine x_goto C (tgt := 36) dX12_planSet_72 (by decide) ?_
              refine x_lv (lv1 := [(0, .ref (a 0)), (1, .int p0), (2, .int (nI lf)), (3, .int (nI (se + 1))), (4, .int (nI wq))]) [1, 2, 3, 0, 4] rfl ?_
              exact ih36 (se + 1) trivial (by omega) (by omega)
            · skip
              refine x_aload_n C dX12_planSet_44 rfl 0 rfl rfl ?_
              refine x_iload C dX12_planSet_45 4 rfl rfl ?_
              refine x_iload_n C dX12_planSet_47 rfl 2 rfl rfl ?_
              refine x_iload_n C dX12_planSet_48 rfl 3 rfl rfl ?_
              refine x_vi C (As := [.int (nI wq), .int (nI lf), .int (nI se)]) (rest := []) (m_planBy E l a cd hG kf jn js jq w29 hW30 wq lf se (by omega) (by omega) (by omega) fn k34 pw hpb k36 ps39 k40 pb k37) mf_X12_planBy w_1574 0 k33 rfl rfl rfl (Nat.le_of_ble_eq_true rfl) ⟨(Nat.le_of_ble_eq_true rfl), (Nat.le_of_ble_eq_true rfl)⟩ ⟨(Nat.le_of_ble_eq_true rfl), (Nat.le_of_ble_eq_true rfl)⟩ dX12_planSet_49 rfl (fun r44 w45 h43 => ?_)
              obtain ⟨hW46, x47⟩ := h43
              refine x_ws hW46 ?_
              refine x_aload_n C dX12_planSet_52 rfl 0 rfl rfl ?_
              refine x_get C (ci := 11) (k := 40) 0 k33 rfl in_X12 (by decide) w_1158 rfl dX12_planSet_53 rfl ?_
              refine x_sipush C (v := 1024) dX12_planSet_56 (by decide) rfl ?_
              refine x_iload C dX12_planSet_59 4 rfl rfl ?_
              refine x_imul C (v := (nI (1024 * wq))) dX12_planSet_61 (pk_mul 1024 wq) rfl ?_
              refine x_iload_n C dX12_planSet_62 rfl 2 rfl rfl ?_
              refine x_iadd C (v := (nI ((1024 * wq) + lf))) dX12_planSet_63 (nI_add (1024 * wq) lf) rfl ?_
              refine x_ialk C (v := (pb ((1024 * wq) + lf))) ((1024 * wq) + lf) (nI_clamp (by omega)) (nI_pos (by omega)) (by omega) 24 k37 rfl dX12_planSet_64 rfl ?_
              refine x_icmp_eq C (tgt := 75) dX12_planSet_65 (by decide) rfl (fun c48 => ?_) (fun c48 => ?_)
              · skip
                refine x_aload_n C dX12_planSet_75 rfl 0 rfl rfl ?_
                refine x_get C (ci := 11) (k := 39) 0 k33 rfl in_X12 (by decide) w_1157 rfl dX12_planSet_76 rfl ?_
                refine x_iload C dX12_planSet_79 4 rfl rfl ?_
                refine x_ialk C (v := nI (pw wq)) wq (nI_clamp (by omega)) (nI_pos (by omega)) (by omega) 23 k36 rfl dX12_planSet_81 rfl ?_
                have bx49 := hpb wq
                refine x_iload_n C dX12_planSet_82 rfl 1 rfl rfl ?_
                refine x_icmp_ne C (tgt := 88) dX12_planSet_83 (by decide) rfl (fun c50 => ?_) (fun c50 => ?_)
                · skip
                  refine x_iload_n C dX12_planSet_88 rfl 2 rfl rfl ?_
                  refine x_iload_n C dX12_planSet_89 rfl 3 rfl rfl ?_
                  refine x_iconst C (v := (-1)) dX12_planSet_90 (by decide) rfl ?_
                  refine x_ixor C (v := ((nI se) ^^^ ((-1) : Int32))) dX12_planSet_91 rfl rfl ?_
                  have hla51 := la_le (l := lf) (by omega) se
                  refine x_iand C (v := (nI (la lf se))) dX12_planSet_92 (la_eq (by omega) se) rfl ?_
                  refine x_istore_n C (lv' := [(2, .int (nI (la lf se))), (0, .ref (a 0)), (1, .int p0), (3, .int (nI se)), (4, .int (nI wq))]) dX12_planSet_93 rfl (by decide) rfl rfl ?_
                  refine x_iinc C (v := (nI (wq + 1))) (lv' := [(4, .int (nI (wq + 1))), (2, .int (nI (la lf se))), (0, .ref (a 0)), (1, .int p0), (3, .int (nI se))]) dX12_planSet_94 4 rfl (nI_add wq 1) (by decide) rfl rfl ?_
                  refine x_goto C (tgt := 14) dX12_planSet_97 (by decide) ?_
                  refine x_lv (lv1 := [(0, .ref (a 0)), (1, .int p0), (2, .int (nI (la lf se))), (3, .int (nI se)), (4, .int (nI (wq + 1)))]) [2, 3, 1, 4, 0] rfl ?_
                  exact ih14 (la lf se) ((nI se)) (wq + 1) w29 hW30 (by omega) (by omega) (by omega) kp38
                · skip
                  refine x_iload_n C dX12_planSet_86 rfl 3 rfl rfl ?_
                  exact x_zret C hr hlk rfl dX12_planSet_87 ⟨hW30, kp38⟩
              · skip
                have hne52 : se ≠ sx := fun q => c48 (x47.trans (q ▸ hsx4.symm))
                refine x_iload_n C dX12_planSet_68 rfl 3 rfl rfl ?_
                refine x_iconst C (v := 1) dX12_planSet_69 (by decide) rfl ?_
                refine x_iadd C (v := (nI (se + 1))) dX12_planSet_70 (nI_add se 1) rfl ?_
                refine x_istore_n C (lv' := [(3, .int (nI (se + 1))), (0, .ref (a 0)), (1, .int p0), (2, .int (nI lf)), (4, .int (nI wq))]) dX12_planSet_71 rfl (by decide) rfl rfl ?_
                refine x_goto C (tgt := 36) dX12_planSet_72 (by decide) ?_
                refine x_lv (lv1 := [(0, .ref (a 0)), (1, .int p0), (2, .int (nI lf)), (3, .int (nI (se + 1))), (4, .int (nI wq))]) [1, 2, 3, 0, 4] rfl ?_
                exact ih36 (se + 1) trivial (by omega) (by omega)
        refine x_lv (lv1 := [(0, .ref (a 0)), (1, .int p0), (2, .int (nI lf)), (3, .int 0), (4, .int (nI wq))]) [1, 2, 3, 0, 4] rfl ?_
        exact loop36 _ 0 trivial (Nat.lt_succ_self _) (by omega)
  refine x_lv (lv1 := [(0, .ref (a 0)), (1, .int p0), (2, .int (nI ((p2 om) - 1))), (3, .int 0), (4, .int 0)]) [3, 4, 2, 1, 0] rfl ?_
  exact loop14 _ ((p2 om) - 1) (0 : Int32) 0 ws hW (Nat.lt_succ_self _) (by omega) (by omega) kp0
set_option maxRecDepth 20000 in
set_option maxHeartbeats 4000000 in
theorem m_laysOwnP (E : xE) (l : Launch) (a : Nat → Nat) (cd : Cd) (hG : Good cd) (kf : Int32) (jn js jq : Lb) (ws : va_W) (hW : WX (okM E a cd kf jn js jq) ws) (p0 : Int32) (m0 : Nat) (hm0 : m0 ≤ 12) : xV E l yX12_laysOwn cX12_laysOwn 4 2 0 0 [.ref (a 0), .int p0, .int (nI m0)] ws (fun w => WX (okM E a cd kf jn js jq) w ∧ keeps ws w (fun q => q = 0 ∨ q = 22) ∧ (∃ om pm : Nat, om ≤ m0 ∧ PO a cd kf w om pm)) := by
  refine xV_start (lv := [(0, .ref (a 0)), (1, .int p0), (2, .int (nI m0))]) RX12 (by decide) rfl (Nat.le_of_ble_eq_true rfl) rfl (fun p e s m below meth c A C hr hlk hin => ?_)
  have kp0 : keeps ws ws (fun q => q = 0 ∨ q = 22) := keeps_rf
  obtain ⟨_, k1, n2, n4, n6, v8, v9, v10, n11, n13, n15, n17, v19, v20, v21, v22, n23, n25, bn3, bn5, bn7, bn12, bn14, bn16, bn18, bn24, bn26, rfl⟩ := hW 0 _ rfl
  refine x_aload_n C dX12_laysOwn_0 rfl 0 rfl rfl ?_
  refine x_iconst C (v := 0) dX12_laysOwn_1 (by decide) rfl ?_
  obtain ⟨w27, hw28⟩ : ∃ w : va_W, w = List.set ws 0 (ob (a 0) 11 [.ref (a 1), .ref (a 2), .ref (a 3), .ref (a 4), .int (nI n2), .int (nI n4), .int (nI n6), .int v8, .int v9, .int v10, .int (nI n11), .int (nI n13), .int (nI n15), .int (nI (cd.2.2.2.2.2)), .ref (a 5), .ref (a 6), .ref (a 7), .ref (a 8), .ref (a 9), .ref (a 10), .ref (a 11), .ref (a 12), .ref (a 13), .ref (a 14), .ref (a 15), .ref (a 16), .ref (a 17), .int (nI n17), .ref (a 18), .ref (a 19), .ref (a 20), .ref (a 21), .int v19, .int v20, .int v21, .int v22, .int 0, .int (nI n25), .ref (a 22), .ref (a 23), .ref (a 24), .ref (a 25), .ref (a 26), .ref (a 27), .ref (a 28), .ref (a 29), .ref (a 30), .int kf]) := ⟨_, rfl⟩
  refine x_put C (ci := 11) (k := 36) (ty := .int) 0 k1 rfl in_X12 tyX12 tyX12_ok nmX12 (by decide) w_1154 rfl rfl rfl rfl (Nat.le_of_ble_eq_true rfl) hw28.symm dX12_laysOwn_2 rfl ?_
  have hW29 : WX (okM E a cd kf jn js jq) w27 := by rw [hw28]; exact hW.set (k := 0) rfl ⟨n2, n4, n6, v8, v9, v10, n11, n13, n15, n17, v19, v20, v21, v22, 0, n25, by omega, by omega, by omega, by omega, by omega, by omega, by omega, by omega, by omega, rfl⟩
  have k30 : w27[0]? = some (ob (a 0) 11 [.ref (a 1), .ref (a 2), .ref (a 3), .ref (a 4), .int (nI n2), .int (nI n4), .int (nI n6), .int v8, .int v9, .int v10, .int (nI n11), .int (nI n13), .int (nI n15), .int (nI (cd.2.2.2.2.2)), .ref (a 5), .ref (a 6), .ref (a 7), .ref (a 8), .ref (a 9), .ref (a 10), .ref (a 11), .ref (a 12), .ref (a 13), .ref (a 14), .ref (a 15), .ref (a 16), .ref (a 17), .int (nI n17), .ref (a 18), .ref (a 19), .ref (a 20), .ref (a 21), .int v19, .int v20, .int v21, .int v22, .int 0, .int (nI n25), .ref (a 22), .ref (a 23), .ref (a 24), .ref (a 25), .ref (a 26), .ref (a 27), .ref (a 28), .ref (a 29), .ref (a 30), .int kf]) := by rw [hw28]; exact set_eq k1
  have kp31 := keeps_set kp0 hw28 (by first | exact rfl | decide | omega | (dsimp only; omega))
  refine x_iconst C (v := 0) dX12_laysOwn_5 (by decide) rfl ?_
  refine x_istore_n C (lv' := [(3, .int 0), (0, .ref (a 0)), (1, .int p0), (2, .int (nI m0))]) dX12_laysOwn_6 rfl (by decide) rfl rfl ?_
  have loop7 : ∀ (fu7 : Nat) (i : Nat) (wl7 : va_W), WX (okM E a cd kf jn js jq) wl7 → 48 - i < fu7 → i ≤ 48 → (∃ om pm : Nat, om ≤ m0 ∧ PO a cd kf wl7 om pm) → keeps ws wl7 (fun q => q = 0 ∨ q = 22) → X E p l e (xRm 2 0 0) s m ([.ref (a 0), .int p0, .int (nI m0)] : List Value).toArray below meth c A 4 0 0 (MQ below (va_Qv (fun w => WX (okM E a cd kf jn js jq) w ∧ keeps ws w (fun q => q = 0 ∨ q = 22) ∧ (∃ om pm : Nat, om ≤ m0 ∧ PO a cd kf w om pm)) (xB E A) A) ([.ref (a 0), .int p0, .int (nI m0)] : List Value).toArray s 0 0 A) wl7 7 [(0, .ref (a 0)), (1, .int p0), (2, .int (nI m0)), (3, .int (nI i))] [] := by
    intro fu7
    induction fu7 with
    | zero => intro i wl7 _ q; omega
    | succ fu7 ih7 =>
      intro i wl7 hWl7 me7 iv7_0 iv7_1 kq7
      obtain ⟨om32, pm33, ho35, h34⟩ := iv7_1
      obtain ⟨n36, n37, n38, n39, n40, n41, n42, v43, v44, v45, v46, v47, v48, v49, bo50, bo51, k52⟩ := h34
      refine x_iload_n C dX12_laysOwn_7 rfl 3 rfl rfl ?_
      refine x_aload_n C dX12_laysOwn_8 rfl 0 rfl rfl ?_
      refine x_get C (ci := 11) (k := 0) 0 k52 rfl in_X12 (by decide) w_1118 rfl dX12_laysOwn_9 rfl ?_
      refine x_sipush C (v := 381) dX12_laysOwn_12 (by decide) rfl ?_
      obtain ⟨_, k53, f54, pf55, rfl⟩ := hWl7 1 _ rfl
      obtain ⟨n56, hn57, en58⟩ := NB_many pf55
      refine x_ialk C (v := nI n56) 381 (by decide) (by decide) (by decide) 1 k53 en58 dX12_laysOwn_15 rfl ?_
      refine x_icmp_ge C (tgt := 78) dX12_laysOwn_16 (by decide) rfl (fun c59 => ?_) (fun c59 => ?_)
      · skip
        have nf60 := nI_le' (a := n56) (b := i) c59 (by omega) (by omega)
        exact x_vret C hr hlk dX12_laysOwn_78 ⟨hWl7, kq7, ⟨om32, pm33, by omega, ⟨n36, n37, n38, n39, n40, n41, n42, v43, v44, v45, v46, v47, v48, v49, ⟨by omega, by omega, by omega, by omega, by omega, by omega, by omega⟩, ⟨by omega, by omega⟩, k52⟩⟩⟩
      · skip
        have nf61 := nI_nle' (a := n56) (b := i) c59 (by omega) (by omega)
        refine x_aload_n C dX12_laysOwn_19 rfl 0 rfl rfl ?_
        refine x_get C (ci := 11) (k := 36) 0 k52 rfl in_X12 (by decide) w_1154 rfl dX12_laysOwn_20 rfl ?_
        refine x_iload_n C dX12_laysOwn_23 rfl 2 rfl rfl ?_
        refine x_icmp_ge C (tgt := 78) dX12_laysOwn_24 (by decide) rfl (fun c62 => ?_) (fun c62 => ?_)
        · skip
          have nf63 := nI_le' (a := m0) (b := om32) c62 (by omega) (by omega)
          exact x_vret C hr hlk dX12_laysOwn_78 ⟨hWl7, kq7, ⟨om32, pm33, by omega, ⟨n36, n37, n38, n39, n40, n41, n42, v43, v44, v45, v46, v47, v48, v49, ⟨by omega, by omega, by omega, by omega, by omega, by omega, by omega⟩, ⟨by omega, by omega⟩, k52⟩⟩⟩
        · skip
          have nf64 := nI_nle' (a := m0) (b := om32) c62 (by omega) (by omega)
          refine x_aload_n C dX12_laysOwn_27 rfl 0 rfl rfl ?_
          refine x_iload_n C dX12_laysOwn_28 rfl 3 rfl rfl ?_
          refine x_vi C (As := [.int (nI i)]) (rest := []) (m_isWhole E l a cd hG kf jn js jq wl7 hWl7 ((nI i))) mf_X12_isWhole w_1435 0 k52 rfl rfl rfl (Nat.le_of_ble_eq_true rfl) ⟨(Nat.le_of_ble_eq_true rfl), (Nat.le_of_ble_eq_true rfl)⟩ ⟨(Nat.le_of_ble_eq_true rfl), (Nat.le_of_ble_eq_true rfl)⟩ dX12_laysOwn_29 rfl (fun r66 w67 h65 => ?_)
          obtain ⟨hW68, zb69, x70⟩ := h65
          refine x_ws hW68 ?_
          refine x_if_eq C (tgt := 72) dX12_laysOwn_32 (by decide) rfl (fun c71 => ?_) (fun c71 => ?_)
          · skip
            refine x_iinc C (v := (nI (i + 1))) (lv' := [(3, .int (nI (i + 1))), (0, .ref (a 0)), (1, .int p0), (2, .int (nI m0))]) dX12_laysOwn_72 3 rfl (nI_add i 1) (by decide) rfl rfl ?_
            refine x_goto C (tgt := 7) dX12_laysOwn_75 (by decide) ?_
            refine x_lv (lv1 := [(0, .ref (a 0)), (1, .int p0), (2, .int (nI m0)), (3, .int (nI (i + 1)))]) [1, 2, 3, 0] rfl ?_
            exact ih7 (i + 1) wl7 hWl7 (by omega) (by omega) ⟨om32, pm33, by omega, ⟨n36, n37, n38, n39, n40, n41, n42, v43, v44, v45, v46, v47, v48, v49, ⟨by omega, by omega, by omega, by omega, by omega, by omega, by omega⟩, ⟨by omega, by omega⟩, k52⟩⟩ kq7
          · skip
            have wi72 := wth_le (a := 0) (b := 47) (j := i) (x70 c71) (by omega) (by decide) (by decide)
            refine x_aload_n C dX12_laysOwn_35 rfl 0 rfl rfl ?_
            refine x_get C (ci := 11) (k := 0) 0 k52 rfl in_X12 (by decide) w_1118 rfl dX12_laysOwn_36 rfl ?_
            refine x_sipush C (v := 144) dX12_laysOwn_39 (by decide) rfl ?_
            refine x_iload_n C dX12_laysOwn_42 rfl 3 rfl rfl ?_
            refine x_iadd C (v := (nI (144 + i))) dX12_laysOwn_43 (nI_add 144 i) rfl ?_
            obtain ⟨n73, hn74, en75⟩ := NB_own (j := i) pf55 (by omega)
            refine x_ialk C (v := nI n73) (144 + i) (nI_clamp (by omega)) (nI_pos (by omega)) (by omega) 1 k53 en75 dX12_laysOwn_44 rfl ?_
            refine x_iload_n C dX12_laysOwn_45 rfl 1 rfl rfl ?_
            refine x_icmp_eq C (tgt := 52) dX12_laysOwn_46 (by decide) rfl (fun c76 => ?_) (fun c76 => ?_)
            · skip
              refine x_aload_n C dX12_laysOwn_52 rfl 0 rfl rfl ?_
              refine x_get C (ci := 11) (k := 38) 0 k52 rfl in_X12 (by decide) w_1156 rfl dX12_laysOwn_53 rfl ?_
              refine x_aload_n C dX12_laysOwn_56 rfl 0 rfl rfl ?_
              refine x_get C (ci := 11) (k := 36) 0 k52 rfl in_X12 (by decide) w_1154 rfl dX12_laysOwn_57 rfl ?_
              refine x_iload_n C dX12_laysOwn_60 rfl 3 rfl rfl ?_
              obtain ⟨_, k77, g78, gb79, rfl⟩ := hWl7 22 _ rfl
              have gb80 := updn_le (i := om32) (v := i) gb79 (by omega)
              obtain ⟨w81, hw82⟩ : ∃ w : va_W, w = List.set wl7 22 (iA E (a 22) 12 (upd (fun j => nI (g78 j)) om32 (nI i))) := ⟨_, rfl⟩
              refine x_iask C om32 (nI_clamp (by omega)) (nI_pos (by omega)) (by omega) 22 k77 hw82.symm dX12_laysOwn_61 rfl ?_
              have hW83 : WX (okM E a cd kf jn js jq) w81 := by rw [hw82]; exact hWl7.set (k := 22) rfl ⟨_, gb80, iA_n (upd_nI g78 om32 i)⟩
              have k84 : w81[0]? = some (ob (a 0) 11 [.ref (a 1), .ref (a 2), .ref (a 3), .ref (a 4), .int (nI n36), .int (nI n37), .int (nI n38), .int v43, .int v44, .int v45, .int (nI n39), .int (nI n40), .int (nI n41), .int (nI (cd.2.2.2.2.2)), .ref (a 5), .ref (a 6), .ref (a 7), .ref (a 8), .ref (a 9), .ref (a 10), .ref (a 11), .ref (a 12), .ref (a 13), .ref (a 14), .ref (a 15), .ref (a 16), .ref (a 17), .int (nI n42), .ref (a 18), .ref (a 19), .ref (a 20), .ref (a 21), .int v46, .int v47, .int v48, .int v49, .int (nI om32), .int (nI pm33), .ref (a 22), .ref (a 23), .ref (a 24), .ref (a 25), .ref (a 26), .ref (a 27), .ref (a 28), .ref (a 29), .ref (a 30), .int kf]) := by rw [hw82]; exact set_ne k52 (by decide)
              have k85 : w81[1]? = some (iA E (a 1) 382 f54) := by rw [hw82]; exact set_ne k53 (by decide)
              have k86 : w81[22]? = some (iA E (a 22) 12 (upd (fun j => nI (g78 j)) om32 (nI i))) := by rw [hw82]; exact set_eq k77
              have kp87 := keeps_set kq7 hw82 (by first | exact rfl | decide | omega | (dsimp only; omega))
              have k88 : w81[22]? = some (iA E (a 22) 12 (fun j => nI ((updn g78 om32 i) j))) := by rw [← upd_nI]; exact k86
              refine x_aload_n C dX12_laysOwn_62 rfl 0 rfl rfl ?_
              refine x_aload_n C dX12_laysOwn_63 rfl 0 rfl rfl ?_
              refine x_get C (ci := 11) (k := 36) 0 k84 rfl in_X12 (by decide) w_1154 rfl dX12_laysOwn_64 rfl ?_
              refine x_iconst C (v := 1) dX12_laysOwn_67 (by decide) rfl ?_
              refine x_iadd C (v := (nI (om32 + 1))) dX12_laysOwn_68 (nI_add om32 1) rfl ?_
              obtain ⟨w89, hw90⟩ : ∃ w : va_W, w = List.set w81 0 (ob (a 0) 11 [.ref (a 1), .ref (a 2), .ref (a 3), .ref (a 4), .int (nI n36), .int (nI n37), .int (nI n38), .int v43, .int v44, .int v45, .int (nI n39), .int (nI n40), .int (nI n41), .int (nI (cd.2.2.2.2.2)), .ref (a 5), .ref (a 6), .ref (a 7), .ref (a 8), .ref (a 9), .ref (a 10), .ref (a 11), .ref (a 12), .ref (a 13), .ref (a 14), .ref (a 15), .ref (a 16), .ref (a 17), .int (nI n42), .ref (a 18), .ref (a 19), .ref (a 20), .ref (a 21), .int v46, .int v47, .int v48, .int v49, .int (nI (om32 + 1)), .int (nI pm33), .ref (a 22), .ref (a 23), .ref (a 24), .ref (a 25), .ref (a 26), .ref (a 27), .ref (a 28), .ref (a 29), .ref (a 30), .int kf]) := ⟨_, rfl⟩
              refine x_put C (ci := 11) (k := 36) (ty := .int) 0 k84 rfl in_X12 tyX12 tyX12_ok nmX12 (by decide) w_1154 rfl rfl rfl rfl (Nat.le_of_ble_eq_true rfl) hw90.symm dX12_laysOwn_69 rfl ?_
              have hW91 : WX (okM E a cd kf jn js jq) w89 := by rw [hw90]; exact hW83.set (k := 0) rfl ⟨n36, n37, n38, v43, v44, v45, n39, n40, n41, n42, v46, v47, v48, v49, (om32 + 1), pm33, by omega, by omega, by omega, by omega, by omega, by omega, by omega, by omega, by omega, rfl⟩
              have k92 : w89[0]? = some (ob (a 0) 11 [.ref (a 1), .ref (a 2), .ref (a 3), .ref (a 4), .int (nI n36), .int (nI n37), .int (nI n38), .int v43, .int v44, .int v45, .int (nI n39), .int (nI n40), .int (nI n41), .int (nI (cd.2.2.2.2.2)), .ref (a 5), .ref (a 6), .ref (a 7), .ref (a 8), .ref (a 9), .ref (a 10), .ref (a 11), .ref (a 12), .ref (a 13), .ref (a 14), .ref (a 15), .ref (a 16), .ref (a 17), .int (nI n42), .ref (a 18), .ref (a 19), .ref (a 20), .ref (a 21), .int v46, .int v47, .int v48, .int v49, .int (nI (om32 + 1)), .int (nI pm33), .ref (a 22), .ref (a 23), .ref (a 24), .ref (a 25), .ref (a 26), .ref (a 27), .ref (a 28), .ref (a 29), .ref (a 30), .int kf]) := by rw [hw90]; exact set_eq k84
              have k93 : w89[1]? = some (iA E (a 1) 382 f54) := by rw [hw90]; exact set_ne k85 (by decide)
              have k94 : w89[22]? = some (iA E (a 22) 12 (fun j => nI ((updn g78 om32 i) j))) := by rw [hw90]; exact set_ne k88 (by decide)
              have kp95 := keeps_set kp87 hw90 (by first | exact rfl | decide | omega | (dsimp only; omega))
              refine x_iinc C (v := (nI (i + 1))) (lv' := [(3, .int (nI (i + 1))), (0, .ref (a 0)), (1, .int p0), (2, .int (nI m0))]) dX12_laysOwn_72 3 rfl (nI_add i 1) (by decide) rfl rfl ?_
              refine x_goto C (tgt := 7) dX12_laysOwn_75 (by decide) ?_
              refine x_lv (lv1 := [(0, .ref (a 0)), (1, .int p0), (2, .int (nI m0)), (3, .int (nI (i + 1)))]) [1, 2, 3, 0] rfl ?_
              exact ih7 (i + 1) w89 hW91 (by omega) (by omega) ⟨(om32 + 1), pm33, by omega, ⟨n36, n37, n38, n39, n40, n41, n42, v43, v44, v45, v46, v47, v48, v49, ⟨by omega, by omega, by omega, by omega, by omega, by omega, by omega⟩, ⟨by omega, by omega⟩, k92⟩⟩ kp95
            · skip
              refine x_goto C (tgt := 72) dX12_laysOwn_49 (by decide) ?_
              refine x_iinc C (v := (nI (i + 1))) (lv' := [(3, .int (nI (i + 1))), (0, .ref (a 0)), (1, .int p0), (2, .int (nI m0))]) dX12_laysOwn_72 3 rfl (nI_add i 1) (by decide) rfl rfl ?_
              refine x_goto C (tgt := 7) dX12_laysOwn_75 (by decide) ?_
              refine x_lv (lv1 := [(0, .ref (a 0)), (1, .int p0), (2, .int (nI m0)), (3, .int (nI (i + 1)))]) [1, 2, 3, 0] rfl ?_
              exact ih7 (i + 1) wl7 hWl7 (by omega) (by omega) ⟨om32, pm33, by omega, ⟨n36, n37, n38, n39, n40, n41, n42, v43, v44, v45, v46, v47, v48, v49, ⟨by omega, by omega, by omega, by omega, by omega, by omega, by omega⟩, ⟨by omega, by omega⟩, k52⟩⟩ kq7
  refine x_lv (lv1 := [(0, .ref (a 0)), (1, .int p0), (2, .int (nI m0)), (3, .int 0)]) [1, 2, 3, 0] rfl ?_
  exact loop7 _ 0 w27 hW29 (Nat.lt_succ_self _) (by omega) ⟨0, n25, by omega, ⟨n2, n4, n6, n11, n13, n15, n17, v8, v9, v10, v19, v20, v21, v22, ⟨by omega, by omega, by omega, by omega, by omega, by omega, by omega⟩, ⟨by omega, by omega⟩, k30⟩⟩ kp31
theorem dX12_plan_0 : decode cX12_plan 0 = .ok (.aload_n 0, 1) := by decide +kernel
theorem dX12_plan_1 : decode cX12_plan 1 = .ok (.iload_n 1, 1) := by decide +kernel
theorem dX12_plan_2 : decode cX12_plan 2 = .ok (.invokevirtual 113, 3) := by decide +kernel
theorem dX12_plan_5 : decode cX12_plan 5 = .ok (.ifCond .eq 37, 3) := by decide +kernel
theorem dX12_plan_8 : decode cX12_plan 8 = .ok (.iload_n 2, 1) := by decide +kernel
theorem dX12_plan_9 : decode cX12_plan 9 = .ok (.iconst 1, 1) := by decide +kernel
theorem dX12_plan_10 : decode cX12_plan 10 = .ok (.sipush 255, 3) := by decide +kernel
theorem dX12_plan_13 : decode cX12_plan 13 = .ok (.invokestatic 109, 3) := by decide +kernel
theorem dX12_plan_16 : decode cX12_plan 16 = .ok (.ifCond .eq 26, 3) := by decide +kernel
theorem dX12_plan_19 : decode cX12_plan 19 = .ok (.iload_n 2, 1) := by decide +kernel
theorem dX12_plan_20 : decode cX12_plan 20 = .ok (.invokestatic 347, 3) := by decide +kernel
theorem dX12_plan_23 : decode cX12_plan 23 = .ok (.iconst 4, 1) := by decide +kernel
theorem dX12_plan_24 : decode cX12_plan 24 = .ok (.if_icmp .gt 18, 3) := by decide +kernel
theorem dX12_plan_27 : decode cX12_plan 27 = .ok (.iload_n 2, 1) := by decide +kernel
theorem dX12_plan_28 : decode cX12_plan 28 = .ok (.aload_n 0, 1) := by decide +kernel
theorem dX12_plan_29 : decode cX12_plan 29 = .ok (.getfield 7, 3) := by decide +kernel
theorem dX12_plan_32 : decode cX12_plan 32 = .ok (.sipush 378, 3) := by decide +kernel
theorem dX12_plan_35 : decode cX12_plan 35 = .ok (.iaload, 1) := by decide +kernel
theorem dX12_plan_36 : decode cX12_plan 36 = .ok (.iconst (-1), 1) := by decide +kernel
theorem dX12_plan_37 : decode cX12_plan 37 = .ok (.ixor, 1) := by decide +kernel
theorem dX12_plan_38 : decode cX12_plan 38 = .ok (.iand, 1) := by decide +kernel
theorem dX12_plan_39 : decode cX12_plan 39 = .ok (.ifCond .eq 5, 3) := by decide +kernel
theorem dX12_plan_42 : decode cX12_plan 42 = .ok (.iconst (-1), 1) := by decide +kernel
theorem dX12_plan_43 : decode cX12_plan 43 = .ok (.ireturn, 1) := by decide +kernel
theorem dX12_plan_44 : decode cX12_plan 44 = .ok (.iload_n 3, 1) := by decide +kernel
theorem dX12_plan_45 : decode cX12_plan 45 = .ok (.iconst 0, 1) := by decide +kernel
theorem dX12_plan_46 : decode cX12_plan 46 = .ok (.iconst 1, 1) := by decide +kernel
theorem dX12_plan_47 : decode cX12_plan 47 = .ok (.invokestatic 109, 3) := by decide +kernel
theorem dX12_plan_50 : decode cX12_plan 50 = .ok (.ifCond .ne 27, 3) := by decide +kernel
theorem dX12_plan_53 : decode cX12_plan 53 = .ok (.iload_n 3, 1) := by decide +kernel
theorem dX12_plan_54 : decode cX12_plan 54 = .ok (.bipush 10, 2) := by decide +kernel
theorem dX12_plan_56 : decode cX12_plan 56 = .ok (.bipush 17, 2) := by decide +kernel
theorem dX12_plan_58 : decode cX12_plan 58 = .ok (.invokestatic 109, 3) := by decide +kernel
theorem dX12_plan_61 : decode cX12_plan 61 = .ok (.ifCond .eq 14, 3) := by decide +kernel
theorem dX12_plan_64 : decode cX12_plan 64 = .ok (.iload_n 2, 1) := by decide +kernel
theorem dX12_plan_65 : decode cX12_plan 65 = .ok (.iload_n 3, 1) := by decide +kernel
theorem dX12_plan_66 : decode cX12_plan 66 = .ok (.bipush 10, 2) := by decide +kernel
theorem dX12_plan_68 : decode cX12_plan 68 = .ok (.isub, 1) := by decide +kernel
theorem dX12_plan_69 : decode cX12_plan 69 = .ok (.invokestatic 101, 3) := by decide +kernel
theorem dX12_plan_72 : decode cX12_plan 72 = .ok (.ifCond .ne 5, 3) := by decide +kernel
theorem dX12_plan_75 : decode cX12_plan 75 = .ok (.iconst (-1), 1) := by decide +kernel
theorem dX12_plan_76 : decode cX12_plan 76 = .ok (.ireturn, 1) := by decide +kernel
theorem dX12_plan_77 : decode cX12_plan 77 = .ok (.iconst 0, 1) := by decide +kernel
theorem dX12_plan_78 : decode cX12_plan 78 = .ok (.istore 4, 2) := by decide +kernel
theorem dX12_plan_80 : decode cX12_plan 80 = .ok (.iload 4, 2) := by decide +kernel
theorem dX12_plan_82 : decode cX12_plan 82 = .ok (.bipush 8, 2) := by decide +kernel
theorem dX12_plan_84 : decode cX12_plan 84 = .ok (.if_icmp .ge 30, 3) := by decide +kernel
theorem dX12_plan_87 : decode cX12_plan 87 = .ok (.iload_n 2, 1) := by decide +kernel
theorem dX12_plan_88 : decode cX12_plan 88 = .ok (.iload 4, 2) := by decide +kernel
theorem dX12_plan_90 : decode cX12_plan 90 = .ok (.invokestatic 101, 3) := by decide +kernel
theorem dX12_plan_93 : decode cX12_plan 93 = .ok (.ifCond .eq 15, 3) := by decide +kernel
theorem dX12_plan_96 : decode cX12_plan 96 = .ok (.aload_n 0, 1) := by decide +kernel
theorem dX12_plan_97 : decode cX12_plan 97 = .ok (.iload 4, 2) := by decide +kernel
theorem dX12_plan_99 : decode cX12_plan 99 = .ok (.invokevirtual 265, 3) := by decide +kernel
theorem dX12_plan_102 : decode cX12_plan 102 = .ok (.ifCond .eq 6, 3) := by decide +kernel
theorem dX12_plan_105 : decode cX12_plan 105 = .ok (.bipush (-2), 2) := by decide +kernel
theorem dX12_plan_107 : decode cX12_plan 107 = .ok (.ireturn, 1) := by decide +kernel
theorem dX12_plan_108 : decode cX12_plan 108 = .ok (.iinc 4 1, 3) := by decide +kernel
theorem dX12_plan_111 : decode cX12_plan 111 = .ok (.goto (-31), 3) := by decide +kernel
theorem dX12_plan_114 : decode cX12_plan 114 = .ok (.aload_n 0, 1) := by decide +kernel
theorem dX12_plan_115 : decode cX12_plan 115 = .ok (.iload_n 1, 1) := by decide +kernel
theorem dX12_plan_116 : decode cX12_plan 116 = .ok (.bipush 10, 2) := by decide +kernel
theorem dX12_plan_118 : decode cX12_plan 118 = .ok (.invokevirtual 362, 3) := by decide +kernel
theorem dX12_plan_121 : decode cX12_plan 121 = .ok (.aload_n 0, 1) := by decide +kernel
theorem dX12_plan_122 : decode cX12_plan 122 = .ok (.iload_n 2, 1) := by decide +kernel
theorem dX12_plan_123 : decode cX12_plan 123 = .ok (.invokevirtual 365, 3) := by decide +kernel
theorem dX12_plan_126 : decode cX12_plan 126 = .ok (.aload_n 0, 1) := by decide +kernel
theorem dX12_plan_127 : decode cX12_plan 127 = .ok (.getfield 80, 3) := by decide +kernel
theorem dX12_plan_130 : decode cX12_plan 130 = .ok (.iconst 1, 1) := by decide +kernel
theorem dX12_plan_131 : decode cX12_plan 131 = .ok (.aload_n 0, 1) := by decide +kernel
theorem dX12_plan_132 : decode cX12_plan 132 = .ok (.getfield 344, 3) := by decide +kernel
theorem dX12_plan_135 : decode cX12_plan 135 = .ok (.ishl, 1) := by decide +kernel
theorem dX12_plan_136 : decode cX12_plan 136 = .ok (.iconst 1, 1) := by decide +kernel
theorem dX12_plan_137 : decode cX12_plan 137 = .ok (.isub, 1) := by decide +kernel
theorem dX12_plan_138 : decode cX12_plan 138 = .ok (.iaload, 1) := by decide +kernel
theorem dX12_plan_139 : decode cX12_plan 139 = .ok (.istore 4, 2) := by decide +kernel
theorem dX12_plan_141 : decode cX12_plan 141 = .ok (.iload 4, 2) := by decide +kernel
theorem dX12_plan_143 : decode cX12_plan 143 = .ok (.bipush 63, 2) := by decide +kernel
theorem dX12_plan_145 : decode cX12_plan 145 = .ok (.iadd, 1) := by decide +kernel
theorem dX12_plan_146 : decode cX12_plan 146 = .ok (.bipush 64, 2) := by decide +kernel
theorem dX12_plan_148 : decode cX12_plan 148 = .ok (.idiv, 1) := by decide +kernel
theorem dX12_plan_149 : decode cX12_plan 149 = .ok (.istore 5, 2) := by decide +kernel
theorem dX12_plan_151 : decode cX12_plan 151 = .ok (.iload_n 3, 1) := by decide +kernel
theorem dX12_plan_152 : decode cX12_plan 152 = .ok (.ifCond .ne 8, 3) := by decide +kernel
theorem dX12_plan_155 : decode cX12_plan 155 = .ok (.iload 5, 2) := by decide +kernel
theorem dX12_plan_157 : decode cX12_plan 157 = .ok (.goto 27, 3) := by decide +kernel
theorem dX12_plan_160 : decode cX12_plan 160 = .ok (.iload_n 3, 1) := by decide +kernel
theorem dX12_plan_161 : decode cX12_plan 161 = .ok (.iconst 1, 1) := by decide +kernel
theorem dX12_plan_162 : decode cX12_plan 162 = .ok (.if_icmp .ne 14, 3) := by decide +kernel
theorem dX12_plan_165 : decode cX12_plan 165 = .ok (.bipush 64, 2) := by decide +kernel
theorem dX12_plan_167 : decode cX12_plan 167 = .ok (.iload 5, 2) := by decide +kernel
theorem dX12_plan_169 : decode cX12_plan 169 = .ok (.imul, 1) := by decide +kernel
theorem dX12_plan_170 : decode cX12_plan 170 = .ok (.iload 4, 2) := by decide +kernel
theorem dX12_plan_172 : decode cX12_plan 172 = .ok (.isub, 1) := by decide +kernel
theorem dX12_plan_173 : decode cX12_plan 173 = .ok (.goto 11, 3) := by decide +kernel
theorem dX12_plan_176 : decode cX12_plan 176 = .ok (.aload_n 0, 1) := by decide +kernel
theorem dX12_plan_177 : decode cX12_plan 177 = .ok (.iload_n 3, 1) := by decide +kernel
theorem dX12_plan_178 : decode cX12_plan 178 = .ok (.bipush 10, 2) := by decide +kernel
theorem dX12_plan_180 : decode cX12_plan 180 = .ok (.isub, 1) := by decide +kernel
theorem dX12_plan_181 : decode cX12_plan 181 = .ok (.invokevirtual 368, 3) := by decide +kernel
theorem dX12_plan_184 : decode cX12_plan 184 = .ok (.ireturn, 1) := by decide +kernel
set_option maxRecDepth 20000 in
set_option maxHeartbeats 4000000 in
theorem m_plan (E : xE) (l : Launch) (a : Nat → Nat) (cd : Cd) (hG : Good cd) (kf : Int32) (jn js jq : Lb) (ws : va_W) (hW : WX (okM E a cd kf jn js jq) ws) (p0 : Int32) (p1 : Int32) (p2 : Int32) : xI E l yX12_plan cX12_plan 6 (some .int) 8 [.ref (a 0), .int p0, .int p1, .int p2] ws (fun r w => WX (okM E a cd kf jn js jq) w) := by
  refine xI_start (lv := [(0, .ref (a 0)), (1, .int p0), (2, .int p1), (3, .int p2)]) RX12 (by decide) rfl (Nat.le_of_ble_eq_true rfl) rfl (fun p e s m below meth c A C hr hlk => ?_)
  refine x_aload_n C dX12_plan_0 rfl 0 rfl rfl ?_
  refine x_iload_n C dX12_plan_1 rfl 1 rfl rfl ?_
  obtain ⟨_, k1, n2, n4, n6, v8, v9, v10, n11, n13, n15, n17, v19, v20, v21, v22, n23, n25, bn3, bn5, bn7, bn12, bn14, bn16, bn18, bn24, bn26, rfl⟩ := hW 0 _ rfl
  refine x_vi C (As := [.int p0]) (rest := []) (m_isPerson E l a cd hG kf jn js jq ws hW p0) mf_X12_isPerson w_1270 0 k1 rfl rfl rfl (Nat.le_of_ble_eq_true rfl) ⟨(Nat.le_of_ble_eq_true rfl), (Nat.le_of_ble_eq_true rfl)⟩ ⟨(Nat.le_of_ble_eq_true rfl), (Nat.le_of_ble_eq_true rfl)⟩ dX12_plan_2 rfl (fun r28 w29 h27 => ?_)
  obtain ⟨hW30, zb31, x32⟩ := h27
  refine x_ws hW30 ?_
  refine x_if_eq C (tgt := 42) dX12_plan_5 (by decide) rfl (fun c33 => ?_) (fun c33 => ?_)
  · skip
    refine x_iconst C (v := (-1)) dX12_plan_42 (by decide) rfl ?_
    exact x_zret C hr hlk rfl dX12_plan_43 hW
  · skip
    obtain ⟨j34, hl35, hh36, ej37⟩ := w_nat (a := 0) (b := 7) (by decide) (by decide) (x32 c33)
    subst ej37
    refine x_iload_n C dX12_plan_8 rfl 2 rfl rfl ?_
    refine x_iconst C (v := 1) dX12_plan_9 (by decide) rfl ?_
    refine x_sipush C (v := 255) dX12_plan_10 (by decide) rfl ?_
    refine x_si C (As := [.int p1, .int 1, .int 255]) (rest := []) (m_in E l a cd hG kf jn js jq ws hW p1 (1 : Int32) (255 : Int32)) mf_X12_in w_1267 rfl rfl (Nat.le_of_ble_eq_true rfl) ⟨(Nat.le_of_ble_eq_true rfl), (Nat.le_of_ble_eq_true rfl)⟩ ⟨(Nat.le_of_ble_eq_true rfl), (Nat.le_of_ble_eq_true rfl)⟩ dX12_plan_13 rfl (fun r39 w40 h38 => ?_)
    obtain ⟨hW41, zb42, x43⟩ := h38
    refine x_ws hW41 ?_
    refine x_if_eq C (tgt := 42) dX12_plan_16 (by decide) rfl (fun c44 => ?_) (fun c44 => ?_)
    · skip
      refine x_iconst C (v := (-1)) dX12_plan_42 (by decide) rfl ?_
      exact x_zret C hr hlk rfl dX12_plan_43 hW
    · skip
      obtain ⟨j45, hl46, hh47, ej48⟩ := w_nat (a := 1) (b := 255) (by decide) (by decide) (x43 c44)
      subst ej48
      refine x_iload_n C dX12_plan_19 rfl 2 rfl rfl ?_
      refine x_si C (As := [.int (nI j45)]) (rest := []) (m_bits E l a cd hG kf jn js jq ws hW ((nI j45))) mf_X12_bits w_1559 rfl rfl (Nat.le_of_ble_eq_true rfl) ⟨(Nat.le_of_ble_eq_true rfl), (Nat.le_of_ble_eq_true rfl)⟩ ⟨(Nat.le_of_ble_eq_true rfl), (Nat.le_of_ble_eq_true rfl)⟩ dX12_plan_20 rfl (fun r50 w51 h49 => ?_)
      obtain ⟨hW52, x53⟩ := h49
      refine x_ws hW52 ?_
      have hbt54 := btn_12 (w := j45) (by omega)
      have h855 := btn_le8 j45
      refine x_top (x53.trans hbt54) ?_
      refine x_iconst C (v := 4) dX12_plan_23 (by decide) rfl ?_
      refine x_icmp_gt C (tgt := 42) dX12_plan_24 (by decide) rfl (fun c56 => ?_) (fun c56 => ?_)
      · skip
        have nf57 := nI_lt' (a := 4) (b := (btn j45 8)) c56 (by omega) (by omega)
        refine x_iconst C (v := (-1)) dX12_plan_42 (by decide) rfl ?_
        exact x_zret C hr hlk rfl dX12_plan_43 hW
      · skip
        have nf58 := nI_nlt' (a := 4) (b := (btn j45 8)) c56 (by omega) (by omega)
        refine x_iload_n C dX12_plan_27 rfl 2 rfl rfl ?_
        refine x_aload_n C dX12_plan_28 rfl 0 rfl rfl ?_
        refine x_get C (ci := 11) (k := 0) 0 k1 rfl in_X12 (by decide) w_1118 rfl dX12_plan_29 rfl ?_
        refine x_sipush C (v := 378) dX12_plan_32 (by decide) rfl ?_
        obtain ⟨_, k59, f60, pf61, rfl⟩ := hW 1 _ rfl
        refine x_iald C (v := (f60 (378 : Int32).toNatClampNeg)) 1 k59 (vp_k (j := 378) (by decide) (by decide) (by decide)) rfl dX12_plan_35 rfl ?_
        refine x_any (fun v62 => ?_)
        refine x_iconst C (v := (-1)) dX12_plan_36 (by decide) rfl ?_
        refine x_ixor C (v := (v62 ^^^ ((-1) : Int32))) dX12_plan_37 rfl rfl ?_
        refine x_any (fun v63 => ?_)
        refine x_iand C (v := ((nI j45) &&& v63)) dX12_plan_38 rfl rfl ?_
        refine x_any (fun v64 => ?_)
        refine x_if_eq C (tgt := 44) dX12_plan_39 (by decide) rfl (fun c65 => ?_) (fun c65 => ?_)
        · skip
          refine x_iload_n C dX12_plan_44 rfl 3 rfl rfl ?_
          refine x_iconst C (v := 0) dX12_plan_45 (by decide) rfl ?_
          refine x_iconst C (v := 1) dX12_plan_46 (by decide) rfl ?_
          refine x_si C (As := [.int p2, .int 0, .int 1]) (rest := []) (m_in E l a cd hG kf jn js jq ws hW p2 (0 : Int32) (1 : Int32)) mf_X12_in w_1267 rfl rfl (Nat.le_of_ble_eq_true rfl) ⟨(Nat.le_of_ble_eq_true rfl), (Nat.le_of_ble_eq_true rfl)⟩ ⟨(Nat.le_of_ble_eq_true rfl), (Nat.le_of_ble_eq_true rfl)⟩ dX12_plan_47 rfl (fun r67 w68 h66 => ?_)
          obtain ⟨hW69, zb70, x71⟩ := h66
          refine x_ws hW69 ?_
          refine x_if_ne C (tgt := 77) dX12_plan_50 (by decide) rfl (fun c72 => ?_) (fun c72 => ?_)
          · skip
            obtain ⟨j73, hl74, hh75, ej76⟩ := w_nat (a := 0) (b := 1) (by decide) (by decide) (x71 c72)
            subst ej76
            refine x_iconst C (v := 0) dX12_plan_77 (by decide) rfl ?_
            refine x_istore C (lv' := [(4, .int 0), (0, .ref (a 0)), (1, .int (nI j34)), (2, .int (nI j45)), (3, .int (nI j73))]) dX12_plan_78 (by decide) rfl rfl ?_
            have loop80 : ∀ (fu80 : Nat) (i : Nat), True → 8 - i < fu80 → i ≤ 8 → X E p l e (xRm 8 0 0) s m ([.ref (a 0), .int (nI j34), .int (nI j45), .int (nI j73)] : List Value).toArray below meth c A 6 0 0 (MQ below (va_Qi (fun r w => WX (okM E a cd kf jn js jq) w) (xB E A) A) ([.ref (a 0), .int (nI j34), .int (nI j45), .int (nI j73)] : List Value).toArray s 0 0 A) ws 80 [(0, .ref (a 0)), (1, .int (nI j34)), (2, .int (nI j45)), (3, .int (nI j73)), (4, .int (nI i))] [] := by
              intro fu80
              induction fu80 with
              | zero => intro i _ q; omega
              | succ fu80 ih80 =>
                intro i _ me80 iv80_0
                refine x_iload C dX12_plan_80 4 rfl rfl ?_
                refine x_bipush C (v := 8) dX12_plan_82 (by decide) rfl ?_
                refine x_icmp_ge C (tgt := 114) dX12_plan_84 (by decide) rfl (fun c77 => ?_) (fun c77 => ?_)
                · skip
                  have nf78 := nI_le' (a := 8) (b := i) c77 (by omega) (by omega)
                  refine x_aload_n C dX12_plan_114 rfl 0 rfl rfl ?_
                  refine x_iload_n C dX12_plan_115 rfl 1 rfl rfl ?_
                  refine x_bipush C (v := 10) dX12_plan_116 (by decide) rfl ?_
                  refine x_vv C (As := [.int (nI j34), .int 10]) (rest := []) (m_laysOwnP E l a cd hG kf jn js jq ws hW ((nI j34)) 10 (by omega)) mf_X12_laysOwn w_1562 0 k1 rfl rfl rfl (Nat.le_of_ble_eq_true rfl) ⟨(Nat.le_of_ble_eq_true rfl), (Nat.le_of_ble_eq_true rfl)⟩ ⟨(Nat.le_of_ble_eq_true rfl), (Nat.le_of_ble_eq_true rfl)⟩ dX12_plan_118 rfl (fun w81 h79 => ?_)
                  obtain ⟨hW82, kq83, x84⟩ := h79
                  have k85 : w81[1]? = some (iA E (a 1) 382 f60) := keeps_at kq83 k59 (by first | decide | omega | (dsimp only; omega))
                  obtain ⟨om86, pm87, ho89, h88⟩ := x84
                  obtain ⟨n90, n91, n92, n93, n94, n95, n96, v97, v98, v99, v100, v101, v102, v103, bo104, bo105, k106⟩ := h88
                  obtain ⟨_, k107, g108, gb109, rfl⟩ := hW82 22 _ rfl
                  have hp110 := p2_10 (k := om86) (by omega)
                  have hp111 := p2_pos om86
                  refine x_aload_n C dX12_plan_121 rfl 0 rfl rfl ?_
                  refine x_iload_n C dX12_plan_122 rfl 2 rfl rfl ?_
                  refine x_vv C (As := [.int (nI j45)]) (rest := []) (m_laysPlan E l a cd hG kf jn js jq w81 hW82 j45 ⟨by omega, by omega⟩ f60 k85 om86 pm87 ⟨n90, n91, n92, n93, n94, n95, n96, v97, v98, v99, v100, v101, v102, v103, ⟨by omega, by omega, by omega, by omega, by omega, by omega, by omega⟩, ⟨by omega, by omega⟩, k106⟩ (by omega) g108 gb109 k107) mf_X12_laysPlan w_1566 0 k106 rfl rfl rfl (Nat.le_of_ble_eq_true rfl) ⟨(Nat.le_of_ble_eq_true rfl), (Nat.le_of_ble_eq_true rfl)⟩ ⟨(Nat.le_of_ble_eq_true rfl), (Nat.le_of_ble_eq_true rfl)⟩ dX12_plan_123 rfl (fun w114 h112 => ?_)
                  obtain ⟨hW115, kq116, x117⟩ := h112
                  have k118 : w114[1]? = some (iA E (a 1) 382 f60) := keeps_at kq116 k85 (by first | decide | omega | (dsimp only; omega))
                  have k119 : w114[22]? = some (iA E (a 22) 12 (fun j => nI (g108 j))) := keeps_at kq116 k107 (by first | decide | omega | (dsimp only; omega))
                  obtain ⟨pm120, pw121, pb122, h123, hb124, k125, k126, hB127⟩ := x117
                  obtain ⟨n128, n129, n130, n131, n132, n133, n134, v135, v136, v137, v138, v139, v140, v141, bo142, bo143, k144⟩ := h123
                  refine x_aload_n C dX12_plan_126 rfl 0 rfl rfl ?_
                  refine x_get C (ci := 11) (k := 40) 0 k144 rfl in_X12 (by decide) w_1158 rfl dX12_plan_127 rfl ?_
                  refine x_iconst C (v := 1) dX12_plan_130 (by decide) rfl ?_
                  refine x_aload_n C dX12_plan_131 rfl 0 rfl rfl ?_
                  refine x_get C (ci := 11) (k := 36) 0 k144 rfl in_X12 (by decide) w_1154 rfl dX12_plan_132 rfl ?_
                  refine x_ishl C (v := (nI (p2 om86))) dX12_plan_135 (shp (by omega)) rfl ?_
                  refine x_iconst C (v := 1) dX12_plan_136 (by decide) rfl ?_
                  refine x_isub C (v := (nI ((p2 om86) - 1))) dX12_plan_137 (pk_sub (a := (p2 om86)) (b := 1) (by omega)) rfl ?_
                  refine x_iald C (v := (pb122 (nI ((p2 om86) - 1)).toNatClampNeg)) 24 k126 (vp_in_nI (by omega) (by decide)) rfl dX12_plan_138 rfl ?_
                  refine x_any (fun v145 => ?_)
                  refine x_istore C (lv' := [(4, .int v145), (0, .ref (a 0)), (1, .int (nI j34)), (2, .int (nI j45)), (3, .int (nI j73))]) dX12_plan_139 (by decide) rfl rfl ?_
                  refine x_iload C dX12_plan_141 0 rfl rfl ?_
                  refine x_bipush C (v := 63) dX12_plan_143 (by decide) rfl ?_
                  refine x_iadd C (v := (v145 + (63 : Int32))) dX12_plan_145 rfl rfl ?_
                  refine x_any (fun v146 => ?_)
                  refine x_bipush C (v := 64) dX12_plan_146 (by decide) rfl ?_
                  refine x_idiv C (v := (v146 / (64 : Int32))) dX12_plan_148 (by decide) rfl rfl ?_
                  refine x_any (fun v147 => ?_)
                  refine x_istore C (lv' := [(5, .int v147), (4, .int v145), (0, .ref (a 0)), (1, .int (nI j34)), (2, .int (nI j45)), (3, .int (nI j73))]) dX12_plan_149 (by decide) rfl rfl ?_
                  refine x_iload_n C dX12_plan_151 rfl 5 rfl rfl ?_
                  refine x_if_ne C (tgt := 160) dX12_plan_152 (by decide) rfl (fun c148 => ?_) (fun c148 => ?_)
                  · skip
                    have nf149 : ¬ j73 = 0 := fun q => c148 (congrArg nI q)
                    refine x_iload_n C dX12_plan_160 rfl 5 rfl rfl ?_
                    refine x_iconst C (v := 1) dX12_plan_161 (by decide) rfl ?_
                    refine x_icmp_ne C (tgt := 176) dX12_plan_162 (by decide) rfl (fun c150 => ?_) (fun c150 => ?_)
                    · skip
                      have nf151 : ¬ j73 = 1 := fun q => c150 (congrArg nI q)
                      refine x_aload_n C dX12_plan_176 rfl 2 rfl rfl ?_
                      refine x_iload_n C dX12_plan_177 rfl 5 rfl rfl ?_
                      refine x_bipush C (v := 10) dX12_plan_178 (by decide) rfl ?_
                      refine x_isub C (v := ((nI j73) - (10 : Int32))) dX12_plan_180 rfl rfl ?_
                      refine x_any (fun v152 => ?_)
                      refine x_vi C (As := [.int v152]) (rest := []) (m_planSet E l a cd hG kf jn js jq w114 hW115 v152 f60 k118 om86 pm120 ⟨n128, n129, n130, n131, n132, n133, n134, v135, v136, v137, v138, v139, v140, v141, ⟨by omega, by omega, by omega, by omega, by omega, by omega, by omega⟩, ⟨by omega, by omega⟩, k144⟩ (by omega) g108 gb109 k119 pw121 hb124 k125 pb122 k126 hB127) mf_X12_planSet w_1581 0 k144 rfl rfl rfl (Nat.le_of_ble_eq_true rfl) ⟨(Nat.le_of_ble_eq_true rfl), (Nat.le_of_ble_eq_true rfl)⟩ ⟨(Nat.le_of_ble_eq_true rfl), (Nat.le_of_ble_eq_true rfl)⟩ dX12_plan_181 rfl (fun r154 w155 h153 => ?_)
                      obtain ⟨hW156, kq157⟩ := h153
                      have k158 : w155[1]? = some (iA E (a 1) 382 f60) := keeps_at kq157 k118 (by first | decide | omega | (dsimp only; omega))
                      have k159 : w155[22]? = some (iA E (a 22) 12 (fun j => nI (g108 j))) := keeps_at kq157 k119 (by first | decide | omega | (dsimp only; omega))
                      have k160 : w155[0]? = some (ob (a 0) 11 [.ref (a 1), .ref (a 2), .ref (a 3), .ref (a 4), .int (nI n128), .int (nI n129), .int (nI n130), .int v135, .int v136, .int v137, .int (nI n131), .int (nI n132), .int (nI n133), .int (nI (cd.2.2.2.2.2)), .ref (a 5), .ref (a 6), .ref (a 7), .ref (a 8), .ref (a 9), .ref (a 10), .ref (a 11), .ref (a 12), .ref (a 13), .ref (a 14), .ref (a 15), .ref (a 16), .ref (a 17), .int (nI n134), .ref (a 18), .ref (a 19), .ref (a 20), .ref (a 21), .int v138, .int v139, .int v140, .int v141, .int (nI om86), .int (nI pm120), .ref (a 22), .ref (a 23), .ref (a 24), .ref (a 25), .ref (a 26), .ref (a 27), .ref (a 28), .ref (a 29), .ref (a 30), .int kf]) := keeps_at kq157 k144 (by first | decide | omega | (dsimp only; omega))
                      have k161 : w155[23]? = some (iA E (a 23) 4 (fun j => nI (pw121 j))) := keeps_at kq157 k125 (by first | decide | omega | (dsimp only; omega))
                      have k162 : w155[24]? = some (iA E (a 24) 5120 pb122) := keeps_at kq157 k126 (by first | decide | omega | (dsimp only; omega))
                      exact x_zret C hr hlk rfl dX12_plan_184 hW156
                    · skip
                      have nf163 : j73 = 1 := (nI_eq (by omega) (by omega)).mp c150
                      refine x_bipush C (v := 64) dX12_plan_165 (by decide) rfl ?_
                      refine x_iload C dX12_plan_167 0 rfl rfl ?_
                      refine x_imul C (v := ((64 : Int32) * v147)) dX12_plan_169 rfl rfl ?_
                      refine x_any (fun v164 => ?_)
                      refine x_iload C dX12_plan_170 1 rfl rfl ?_
                      refine x_isub C (v := (v164 - v145)) dX12_plan_172 rfl rfl ?_
                      refine x_any (fun v165 => ?_)
                      refine x_goto C (tgt := 184) dX12_plan_173 (by decide) ?_
                      exact x_zret C hr hlk rfl dX12_plan_184 hW115
                  · skip
                    have nf166 : j73 = 0 := (nI_eq (by omega) (by omega)).mp c148
                    refine x_iload C dX12_plan_155 0 rfl rfl ?_
                    refine x_goto C (tgt := 184) dX12_plan_157 (by decide) ?_
                    exact x_zret C hr hlk rfl dX12_plan_184 hW115
                · skip
                  have nf167 := nI_nle' (a := 8) (b := i) c77 (by omega) (by omega)
                  refine x_iload_n C dX12_plan_87 rfl 2 rfl rfl ?_
                  refine x_iload C dX12_plan_88 4 rfl rfl ?_
                  refine x_si C (As := [.int (nI j45), .int (nI i)]) (rest := []) (m_has E l a cd hG kf jn js jq ws hW ((nI j45)) ((nI i))) mf_X12_has w_1274 rfl rfl (Nat.le_of_ble_eq_true rfl) ⟨(Nat.le_of_ble_eq_true rfl), (Nat.le_of_ble_eq_true rfl)⟩ ⟨(Nat.le_of_ble_eq_true rfl), (Nat.le_of_ble_eq_true rfl)⟩ dX12_plan_90 rfl (fun r169 w170 h168 => ?_)
                  obtain ⟨hW171, zb172, x173⟩ := h168
                  refine x_ws hW171 ?_
                  refine x_if_eq C (tgt := 108) dX12_plan_93 (by decide) rfl (fun c174 => ?_) (fun c174 => ?_)
                  · skip
                    refine x_iinc C (v := (nI (i + 1))) (lv' := [(4, .int (nI (i + 1))), (0, .ref (a 0)), (1, .int (nI j34)), (2, .int (nI j45)), (3, .int (nI j73))]) dX12_plan_108 4 rfl (nI_add i 1) (by decide) rfl rfl ?_
                    refine x_goto C (tgt := 80) dX12_plan_111 (by decide) ?_
                    refine x_lv (lv1 := [(0, .ref (a 0)), (1, .int (nI j34)), (2, .int (nI j45)), (3, .int (nI j73)), (4, .int (nI (i + 1)))]) [1, 2, 3, 4, 0] rfl ?_
                    exact ih80 (i + 1) trivial (by omega) (by omega)
                  · skip
                    refine x_aload_n C dX12_plan_96 rfl 0 rfl rfl ?_
                    refine x_iload C dX12_plan_97 4 rfl rfl ?_
                    refine x_vi C (As := [.int (nI i)]) (rest := []) (m_isDone E l a cd hG kf jn js jq ws hW i (by omega)) mf_X12_isDone w_1431 0 k1 rfl rfl rfl (Nat.le_of_ble_eq_true rfl) ⟨(Nat.le_of_ble_eq_true rfl), (Nat.le_of_ble_eq_true rfl)⟩ ⟨(Nat.le_of_ble_eq_true rfl), (Nat.le_of_ble_eq_true rfl)⟩ dX12_plan_99 rfl (fun r176 w177 h175 => ?_)
                    obtain ⟨hW178, zb179⟩ := h175
                    refine x_ws hW178 ?_
                    refine x_if_eq C (tgt := 108) dX12_plan_102 (by decide) rfl (fun c180 => ?_) (fun c180 => ?_)
                    · skip
                      refine x_iinc C (v := (nI (i + 1))) (lv' := [(4, .int (nI (i + 1))), (0, .ref (a 0)), (1, .int (nI j34)), (2, .int (nI j45)), (3, .int (nI j73))]) dX12_plan_108 4 rfl (nI_add i 1) (by decide) rfl rfl ?_
                      refine x_goto C (tgt := 80) dX12_plan_111 (by decide) ?_
                      refine x_lv (lv1 := [(0, .ref (a 0)), (1, .int (nI j34)), (2, .int (nI j45)), (3, .int (nI j73)), (4, .int (nI (i + 1)))]) [1, 2, 3, 4, 0] rfl ?_
                      exact ih80 (i + 1) trivial (by omega) (by omega)
                    · skip
                      refine x_bipush C (v := (-2)) dX12_plan_105 (by decide) rfl ?_
                      exact x_zret C hr hlk rfl dX12_plan_107 hW
            refine x_lv (lv1 := [(0, .ref (a 0)), (1, .int (nI j34)), (2, .int (nI j45)), (3, .int (nI j73)), (4, .int 0)]) [1, 2, 3, 4, 0] rfl ?_
            exact loop80 _ 0 trivial (Nat.lt_succ_self _) (by omega)
          · skip
            refine x_iload_n C dX12_plan_53 rfl 3 rfl rfl ?_
            refine x_bipush C (v := 10) dX12_plan_54 (by decide) rfl ?_
            refine x_bipush C (v := 17) dX12_plan_56 (by decide) rfl ?_
            refine x_si C (As := [.int p2, .int 10, .int 17]) (rest := []) (m_in E l a cd hG kf jn js jq ws hW p2 (10 : Int32) (17 : Int32)) mf_X12_in w_1267 rfl rfl (Nat.le_of_ble_eq_true rfl) ⟨(Nat.le_of_ble_eq_true rfl), (Nat.le_of_ble_eq_true rfl)⟩ ⟨(Nat.le_of_ble_eq_true rfl), (Nat.le_of_ble_eq_true rfl)⟩ dX12_plan_58 rfl (fun r182 w183 h181 => ?_)
            obtain ⟨hW184, zb185, x186⟩ := h181
            refine x_ws hW184 ?_
            refine x_if_eq C (tgt := 75) dX12_plan_61 (by decide) rfl (fun c187 => ?_) (fun c187 => ?_)
            · skip
              refine x_iconst C (v := (-1)) dX12_plan_75 (by decide) rfl ?_
              exact x_zret C hr hlk rfl dX12_plan_76 hW
            · skip
              obtain ⟨j188, hl189, hh190, ej191⟩ := w_nat (a := 10) (b := 17) (by decide) (by decide) (x186 c187)
              subst ej191
              refine x_iload_n C dX12_plan_64 rfl 2 rfl rfl ?_
              refine x_iload_n C dX12_plan_65 rfl 3 rfl rfl ?_
              refine x_bipush C (v := 10) dX12_plan_66 (by decide) rfl ?_
              refine x_isub C (v := ((nI j188) - (10 : Int32))) dX12_plan_68 rfl rfl ?_
              refine x_any (fun v192 => ?_)
              refine x_si C (As := [.int (nI j45), .int v192]) (rest := []) (m_has E l a cd hG kf jn js jq ws hW ((nI j45)) v192) mf_X12_has w_1274 rfl rfl (Nat.le_of_ble_eq_true rfl) ⟨(Nat.le_of_ble_eq_true rfl), (Nat.le_of_ble_eq_true rfl)⟩ ⟨(Nat.le_of_ble_eq_true rfl), (Nat.le_of_ble_eq_true rfl)⟩ dX12_plan_69 rfl (fun r194 w195 h193 => ?_)
              obtain ⟨hW196, zb197, x198⟩ := h193
              refine x_ws hW196 ?_
              refine x_if_ne C (tgt := 77) dX12_plan_72 (by decide) rfl (fun c199 => ?_) (fun c199 => ?_)
              · skip
                refine x_iconst C (v := 0) dX12_plan_77 (by decide) rfl ?_
                refine x_istore C (lv' := [(4, .int 0), (0, .ref (a 0)), (1, .int (nI j34)), (2, .int (nI j45)), (3, .int (nI j188))]) dX12_plan_78 (by decide) rfl rfl ?_
                have loop80 : ∀ (fu80 : Nat) (i : Nat), True → 8 - i < fu80 → i ≤ 8 → X E p l e (xRm 8 0 0) s m ([.ref (a 0), .int (nI j34), .int (nI j45), .int (nI j188)] : List Value).toArray below meth c A 6 0 0 (MQ below (va_Qi (fun r w => WX (okM E a cd kf jn js jq) w) (xB E A) A) ([.ref (a 0), .int (nI j34), .int (nI j45), .int (nI j188)] : List Value).toArray s 0 0 A) ws 80 [(0, .ref (a 0)), (1, .int (nI j34)), (2, .int (nI j45)), (3, .int (nI j188)), (4, .int (nI i))] [] := by
                  intro fu80
                  induction fu80 with
                  | zero => intro i _ q; omega
                  | succ fu80 ih80 =>
                    intro i _ me80 iv80_0
                    refine x_iload C dX12_plan_80 4 rfl rfl ?_
                    refine x_bipush C (v := 8) dX12_plan_82 (by decide) rfl ?_
                    refine x_icmp_ge C (tgt := 114) dX12_plan_84 (by decide) rfl (fun c200 => ?_) (fun c200 => ?_)
                    · skip
                      have nf201 := nI_le' (a := 8) (b := i) c200 (by omega) (by omega)
                      refine x_aload_n C dX12_plan_114 rfl 0 rfl rfl ?_
                      refine x_iload_n C dX12_plan_115 rfl 1 rfl rfl ?_
                      refine x_bipush C (v := 10) dX12_plan_116 (by decide) rfl ?_
                      refine x_vv C (As := [.int (nI j34), .int 10]) (rest := []) (m_laysOwnP E l a cd hG kf jn js jq ws hW ((nI j34)) 10 (by omega)) mf_X12_laysOwn w_1562 0 k1 rfl rfl rfl (Nat.le_of_ble_eq_true rfl) ⟨(Nat.le_of_ble_eq_true rfl), (Nat.le_of_ble_eq_true rfl)⟩ ⟨(Nat.le_of_ble_eq_true rfl), (Nat.le_of_ble_eq_true rfl)⟩ dX12_plan_118 rfl (fun w204 h202 => ?_)
                      obtain ⟨hW205, kq206, x207⟩ := h202
                      have k208 : w204[1]? = some (iA E (a 1) 382 f60) := keeps_at kq206 k59 (by first | decide | omega | (dsimp only; omega))
                      obtain ⟨om209, pm210, ho212, h211⟩ := x207
                      obtain ⟨n213, n214, n215, n216, n217, n218, n219, v220, v221, v222, v223, v224, v225, v226, bo227, bo228, k229⟩ := h211
                      obtain ⟨_, k230, g231, gb232, rfl⟩ := hW205 22 _ rfl
                      have hp233 := p2_10 (k := om209) (by omega)
                      have hp234 := p2_pos om209
                      refine x_aload_n C dX12_plan_121 rfl 0 rfl rfl ?_
                      refine x_iload_n C dX12_plan_122 rfl 2 rfl rfl ?_
                      refine x_vv C (As := [.int (nI j45)]) (rest := []) (m_laysPlan E l a cd hG kf jn js jq w204 hW205 j45 ⟨by omega, by omega⟩ f60 k208 om209 pm210 ⟨n213, n214, n215, n216, n217, n218, n219, v220, v221, v222, v223, v224, v225, v226, ⟨by omega, by omega, by omega, by omega, by omega, by omega, by omega⟩, ⟨by omega, by omega⟩, k229⟩ (by omega) g231 gb232 k230) mf_X12_laysPlan w_1566 0 k229 rfl rfl rfl (Nat.le_of_ble_eq_true rfl) ⟨(Nat.le_of_ble_eq_true rfl), (Nat.le_of_ble_eq_true rfl)⟩ ⟨(Nat.le_of_ble_eq_true rfl), (Nat.le_of_ble_eq_true rfl)⟩ dX12_plan_123 rfl (fun w237 h235 => ?_)
                      obtain ⟨hW238, kq239, x240⟩ := h235
                      have k241 : w237[1]? = some (iA E (a 1) 382 f60) := keeps_at kq239 k208 (by first | decide | omega | (dsimp only; omega))
                      have k242 : w237[22]? = some (iA E (a 22) 12 (fun j => nI (g231 j))) := keeps_at kq239 k230 (by first | decide | omega | (dsimp only; omega))
                      obtain ⟨pm243, pw244, pb245, h246, hb247, k248, k249, hB250⟩ := x240
                      obtain ⟨n251, n252, n253, n254, n255, n256, n257, v258, v259, v260, v261, v262, v263, v264, bo265, bo266, k267⟩ := h246
                      refine x_aload_n C dX12_plan_126 rfl 0 rfl rfl ?_
                      refine x_get C (ci := 11) (k := 40) 0 k267 rfl in_X12 (by decide) w_1158 rfl dX12_plan_127 rfl ?_
                      refine x_iconst C (v := 1) dX12_plan_130 (by decide) rfl ?_
                      refine x_aload_n C dX12_plan_131 rfl 0 rfl rfl ?_
                      refine x_get C (ci := 11) (k := 36) 0 k267 rfl in_X12 (by decide) w_1154 rfl dX12_plan_132 rfl ?_
                      refine x_ishl C (v := (nI (p2 om209))) dX12_plan_135 (shp (by omega)) rfl ?_
                      refine x_iconst C (v := 1) dX12_plan_136 (by decide) rfl ?_
                      refine x_isub C (v := (nI ((p2 om209) - 1))) dX12_plan_137 (pk_sub (a := (p2 om209)) (b := 1) (by omega)) rfl ?_
                      refine x_iald C (v := (pb245 (nI ((p2 om209) - 1)).toNatClampNeg)) 24 k249 (vp_in_nI (by omega) (by decide)) rfl dX12_plan_138 rfl ?_
                      refine x_any (fun v268 => ?_)
                      refine x_istore C (lv' := [(4, .int v268), (0, .ref (a 0)), (1, .int (nI j34)), (2, .int (nI j45)), (3, .int (nI j188))]) dX12_plan_139 (by decide) rfl rfl ?_
                      refine x_iload C dX12_plan_141 0 rfl rfl ?_
                      refine x_bipush C (v := 63) dX12_plan_143 (by decide) rfl ?_
                      refine x_iadd C (v := (v268 + (63 : Int32))) dX12_plan_145 rfl rfl ?_
                      refine x_any (fun v269 => ?_)
                      refine x_bipush C (v := 64) dX12_plan_146 (by decide) rfl ?_
                      refine x_idiv C (v := (v269 / (64 : Int32))) dX12_plan_148 (by decide) rfl rfl ?_
                      refine x_any (fun v270 => ?_)
                      refine x_istore C (lv' := [(5, .int v270), (4, .int v268), (0, .ref (a 0)), (1, .int (nI j34)), (2, .int (nI j45)), (3, .int (nI j188))]) dX12_plan_149 (by decide) rfl rfl ?_
                      refine x_iload_n C dX12_plan_151 rfl 5 rfl rfl ?_
                      refine x_if_ne C (tgt := 160) dX12_plan_152 (by decide) rfl (fun c271 => ?_) (fun c271 => ?_)
                      · skip
                        have nf272 : ¬ j188 = 0 := fun q => c271 (congrArg nI q)
                        refine x_iload_n C dX12_plan_160 rfl 5 rfl rfl ?_
                        refine x_iconst C (v := 1) dX12_plan_161 (by decide) rfl ?_
                        refine x_icmp_ne C (tgt := 176) dX12_plan_162 (by decide) rfl (fun c273 => ?_) (fun c273 => ?_)
                        · skip
                          have nf274 : ¬ j188 = 1 := fun q => c273 (congrArg nI q)
                          refine x_aload_n C dX12_plan_176 rfl 2 rfl rfl ?_
                          refine x_iload_n C dX12_plan_177 rfl 5 rfl rfl ?_
                          refine x_bipush C (v := 10) dX12_plan_178 (by decide) rfl ?_
                          refine x_isub C (v := ((nI j188) - (10 : Int32))) dX12_plan_180 rfl rfl ?_
                          refine x_any (fun v275 => ?_)
                          refine x_vi C (As := [.int v275]) (rest := []) (m_planSet E l a cd hG kf jn js jq w237 hW238 v275 f60 k241 om209 pm243 ⟨n251, n252, n253, n254, n255, n256, n257, v258, v259, v260, v261, v262, v263, v264, ⟨by omega, by omega, by omega, by omega, by omega, by omega, by omega⟩, ⟨by omega, by omega⟩, k267⟩ (by omega) g231 gb232 k242 pw244 hb247 k248 pb245 k249 hB250) mf_X12_planSet w_1581 0 k267 rfl rfl rfl (Nat.le_of_ble_eq_true rfl) ⟨(Nat.le_of_ble_eq_true rfl), (Nat.le_of_ble_eq_true rfl)⟩ ⟨(Nat.le_of_ble_eq_true rfl), (Nat.le_of_ble_eq_true rfl)⟩ dX12_plan_181 rfl (fun r277 w278 h276 => ?_)
                          obtain ⟨hW279, kq280⟩ := h276
                          have k281 : w278[1]? = some (iA E (a 1) 382 f60) := keeps_at kq280 k241 (by first | decide | omega | (dsimp only; omega))
                          have k282 : w278[22]? = some (iA E (a 22) 12 (fun j => nI (g231 j))) := keeps_at kq280 k242 (by first | decide | omega | (dsimp only; omega))
                          have k283 : w278[0]? = some (ob (a 0) 11 [.ref (a 1), .ref (a 2), .ref (a 3), .ref (a 4), .int (nI n251), .int (nI n252), .int (nI n253), .int v258, .int v259, .int v260, .int (nI n254), .int (nI n255), .int (nI n256), .int (nI (cd.2.2.2.2.2)), .ref (a 5), .ref (a 6), .ref (a 7), .ref (a 8), .ref (a 9), .ref (a 10), .ref (a 11), .ref (a 12), .ref (a 13), .ref (a 14), .ref (a 15), .ref (a 16), .ref (a 17), .int (nI n257), .ref (a 18), .ref (a 19), .ref (a 20), .ref (a 21), .int v261, .int v262, .int v263, .int v264, .int (nI om209), .int (nI pm243), .ref (a 22), .ref (a 23), .ref (a 24), .ref (a 25), .ref (a 26), .ref (a 27), .ref (a 28), .ref (a 29), .ref (a 30), .int kf]) := keeps_at kq280 k267 (by first | decide | omega | (dsimp only; omega))
                          have k284 : w278[23]? = some (iA E (a 23) 4 (fun j => nI (pw244 j))) := keeps_at kq280 k248 (by first | decide | omega | (dsimp only; omega))
                          have k285 : w278[24]? = some (iA E (a 24) 5120 pb245) := keeps_at kq280 k249 (by first | decide | omega | (dsimp only; omega))
                          exact x_zret C hr hlk rfl dX12_plan_184 hW279
                        · skip
                          have nf286 : j188 = 1 := (nI_eq (by omega) (by omega)).mp c273
                          refine x_bipush C (v := 64) dX12_plan_165 (by decide) rfl ?_
                          refine x_iload C dX12_plan_167 0 rfl rfl ?_
                          refine x_imul C (v := ((64 : Int32) * v270)) dX12_plan_169 rfl rfl ?_
                          refine x_any (fun v287 => ?_)
                          refine x_iload C dX12_plan_170 1 rfl rfl ?_
                          refine x_isub C (v := (v287 - v268)) dX12_plan_172 rfl rfl ?_
                          refine x_any (fun v288 => ?_)
                          refine x_goto C (tgt := 184) dX12_plan_173 (by decide) ?_
                          exact x_zret C hr hlk rfl dX12_plan_184 hW238
                      · skip
                        have nf289 : j188 = 0 := (nI_eq (by omega) (by omega)).mp c271
                        refine x_iload C dX12_plan_155 0 rfl rfl ?_
                        refine x_goto C (tgt := 184) dX12_plan_157 (by decide) ?_
                        exact x_zret C hr hlk rfl dX12_plan_184 hW238
                    · skip
                      have nf290 := nI_nle' (a := 8) (b := i) c200 (by omega) (by omega)
                      refine x_iload_n C dX12_plan_87 rfl 2 rfl rfl ?_
                      refine x_iload C dX12_plan_88 4 rfl rfl ?_
                      refine x_si C (As := [.int (nI j45), .int (nI i)]) (rest := []) (m_has E l a cd hG kf jn js jq ws hW ((nI j45)) ((nI i))) mf_X12_has w_1274 rfl rfl (Nat.le_of_ble_eq_true rfl) ⟨(Nat.le_of_ble_eq_true rfl), (Nat.le_of_ble_eq_true rfl)⟩ ⟨(Nat.le_of_ble_eq_true rfl), (Nat.le_of_ble_eq_true rfl)⟩ dX12_plan_90 rfl (fun r292 w293 h291 => ?_)
                      obtain ⟨hW294, zb295, x296⟩ := h291
                      refine x_ws hW294 ?_
                      refine x_if_eq C (tgt := 108) dX12_plan_93 (by decide) rfl (fun c297 => ?_) (fun c297 => ?_)
                      · skip
                        refine x_iinc C (v := (nI (i + 1))) (lv' := [(4, .int (nI (i + 1))), (0, .ref (a 0)), (1, .int (nI j34)), (2, .int (nI j45)), (3, .int (nI j188))]) dX12_plan_108 4 rfl (nI_add i 1) (by decide) rfl rfl ?_
                        refine x_goto C (tgt := 80) dX12_plan_111 (by decide) ?_
                        refine x_lv (lv1 := [(0, .ref (a 0)), (1, .int (nI j34)), (2, .int (nI j45)), (3, .int (nI j188)), (4, .int (nI (i + 1)))]) [1, 2, 3, 4, 0] rfl ?_
                        exact ih80 (i + 1) trivial (by omega) (by omega)
                      · skip
                        refine x_aload_n C dX12_plan_96 rfl 0 rfl rfl ?_
                        refine x_iload C dX12_plan_97 4 rfl rfl ?_
                        refine x_vi C (As := [.int (nI i)]) (rest := []) (m_isDone E l a cd hG kf jn js jq ws hW i (by omega)) mf_X12_isDone w_1431 0 k1 rfl rfl rfl (Nat.le_of_ble_eq_true rfl) ⟨(Nat.le_of_ble_eq_true rfl), (Nat.le_of_ble_eq_true rfl)⟩ ⟨(Nat.le_of_ble_eq_true rfl), (Nat.le_of_ble_eq_true rfl)⟩ dX12_plan_99 rfl (fun r299 w300 h298 => ?_)
                        obtain ⟨hW301, zb302⟩ := h298
                        refine x_ws hW301 ?_
                        refine x_if_eq C (tgt := 108) dX12_plan_102 (by decide) rfl (fun c303 => ?_) (fun c303 => ?_)
                        · skip
                          refine x_iinc C (v := (nI (i + 1))) (lv' := [(4, .int (nI (i + 1))), (0, .ref (a 0)), (1, .int (nI j34)), (2, .int (nI j45)), (3, .int (nI j188))]) dX12_plan_108 4 rfl (nI_add i 1) (by decide) rfl rfl ?_
                          refine x_goto C (tgt := 80) dX12_plan_111 (by decide) ?_
                          refine x_lv (lv1 := [(0, .ref (a 0)), (1, .int (nI j34)), (2, .int (nI j45)), (3, .int (nI j188)), (4, .int (nI (i + 1)))]) [1, 2, 3, 4, 0] rfl ?_
                          exact ih80 (i + 1) trivial (by omega) (by omega)
                        · skip
                          refine x_bipush C (v := (-2)) dX12_plan_105 (by decide) rfl ?_
                          exact x_zret C hr hlk rfl dX12_plan_107 hW
                refine x_lv (lv1 := [(0, .ref (a 0)), (1, .int (nI j34)), (2, .int (nI j45)), (3, .int (nI j188)), (4, .int 0)]) [1, 2, 3, 4, 0] rfl ?_
                exact loop80 _ 0 trivial (Nat.lt_succ_self _) (by omega)
              · skip
                refine x_iconst C (v := (-1)) dX12_plan_75 (by decide) rfl ?_
                exact x_zret C hr hlk rfl dX12_plan_76 hW
        · skip
          refine x_iconst C (v := (-1)) dX12_plan_42 (by decide) rfl ?_
          exact x_zret C hr hlk rfl dX12_plan_43 hW

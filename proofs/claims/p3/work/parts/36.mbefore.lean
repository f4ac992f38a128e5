def lD (f : Nat → Int32) (m : Nat) : Prop := ∀ j : Nat, j < m → ∃ d : Nat, d ≤ 39 ∧ f j = nI d
def ldK (E : xE) (a : Nat → Nat) (w : va_W) (m : Nat) : Prop := ∃ f : Nat → Int32, w[26]? = some (iA E (a 26) 48 f) ∧ lD f m
theorem lD_z {f : Nat → Int32} : lD f 0 := fun _ h => absurd h (by omega)
theorem lD_keep {f : Nat → Int32} {m : Nat} {v : Int32} (h : lD f m) : lD (upd f m v) m := fun j hj => by
  rw [pk_un (by omega)]; exact h j hj
theorem lD_step {f : Nat → Int32} {m d : Nat} (h : lD f m) (hd : d ≤ 39) : lD (upd f m (nI d)) (m + 1) := fun j hj => by
  by_cases e : j = m
  · subst e; rw [pk_us]; exact ⟨d, hd, rfl⟩
  · rw [pk_un e]; exact h j (by omega)
def cnl (f : Nat → Int32) : Nat → Nat
  | 0 => 0
  | m + 1 => cnl f m + (if f m = -1 then 0 else 1)
theorem cnl_none {f : Nat → Int32} : ∀ {m : Nat}, (∀ j, j < m → f j = -1) → cnl f m = 0
  | 0, _ => rfl
  | m + 1, h => by rw [cnl, cnl_none (fun j hj => h j (by omega)), if_pos (h m (by omega))]
theorem cnl_all {f : Nat → Int32} : ∀ {m : Nat}, (∀ j, j < m → ¬ f j = -1) → cnl f m = m
  | 0, _ => rfl
  | m + 1, h => by rw [cnl, cnl_all (fun j hj => h j (by omega)), if_neg (h m (by omega))]
theorem cnl_off {f : Nat → Int32} {k : Nat} {v : Int32} : ∀ {m : Nat}, m ≤ k → cnl (upd f k v) m = cnl f m
  | 0, _ => rfl
  | m + 1, h => by rw [cnl, cnl, cnl_off (by omega), pk_un (by omega)]
theorem cnl_upd {f : Nat → Int32} {k : Nat} : ∀ {m : Nat}, k < m → ¬ f k = -1 → cnl (upd f k (-1)) m + 1 = cnl f m
  | 0, h, _ => absurd h (by omega)
  | m + 1, h, hn => by
    by_cases e : m = k
    · subst e
      rw [cnl, cnl, cnl_off (Nat.le_refl _), pk_us, if_pos rfl, if_neg hn]
    · have := cnl_upd (m := m) (by omega) hn
      rw [cnl, cnl, pk_un e]; omega
theorem nI_nm1 {d : Nat} (h : d < 2 ^ 31) : ¬ nI d = -1 := fun q => by
  have e := congrArg Int32.toInt q
  rw [nI_toInt h] at e
  have e1 : (-1 : Int32).toInt = -1 := by decide
  omega
theorem lD_cnl {f : Nat → Int32} {m : Nat} (h : lD f m) : cnl f m = m := cnl_all (fun j hj q => by
  obtain ⟨d, hd, e⟩ := h j hj
  exact nI_nm1 (by omega) (e.symm.trans q))
/-- the last days of eggs, those taken are -1, and so many are left -/
def lcK (E : xE) (a : Nat → Nat) (w : va_W) (m t : Nat) : Prop := ∃ f : Nat → Int32, w[26]? = some (iA E (a 26) 48 f) ∧ (∀ j : Nat, j < m → f j = -1 ∨ ∃ d : Nat, d ≤ 39 ∧ f j = nI d) ∧ cnl f m + t = m
theorem lc_of {E : xE} {a : Nat → Nat} {w : va_W} {m : Nat} {f : Nat → Int32} (h1 : w[26]? = some (iA E (a 26) 48 f)) (h2 : lD f m) : lcK E a w m 0 := ⟨f, h1, fun j hj => Or.inr (h2 j hj), by rw [lD_cnl h2]; rfl⟩
theorem lc_step {f : Nat → Int32} {m b : Nat} (h : ∀ j : Nat, j < m → f j = -1 ∨ ∃ d : Nat, d ≤ 39 ∧ f j = nI d) : ∀ j : Nat, j < m → upd f b (-1) j = -1 ∨ ∃ d : Nat, d ≤ 39 ∧ upd f b (-1) j = nI d := by
  intro j hj
  by_cases e : j = b
  · subst e; exact Or.inl pk_us
  · rw [pk_un e]; exact h j hj
def hvP (fl : Nat → Int32) (z : Int32) (k : Nat) : Prop := (z = -1 ∧ ∀ j : Nat, j < k → fl j = -1) ∨ ∃ b : Nat, b < k ∧ z = nI b ∧ ¬ fl b = -1
theorem hvP_skip {fl : Nat → Int32} {z : Int32} {k : Nat} (h : hvP fl z k) (e : fl k = -1) : hvP fl z (k + 1) := by
  rcases h with ⟨h1, h2⟩ | ⟨b, h1, h2, h3⟩
  · refine Or.inl ⟨h1, fun j hj => ?_⟩
    by_cases q : j = k
    · subst q; exact e
    · exact h2 j (by omega)
  · exact Or.inr ⟨b, by omega, h2, h3⟩
theorem lo_ld {n b d : Nat} {r : Int32} (hr : r = if nI n < nI b - nI d then nI n else nI b - nI d) (hn : n ≤ 40) (hb : b ≤ 1000000000) (hd : d ≤ 9999) : -20000 ≤ (r - 1).toInt ∧ (r - 1).toInt ≤ 39 := by
  have e1 : (1 : Int32).toInt = 1 := by decide
  have ex : (nI b - nI d).toInt = (b : Int) - d := by
    rw [Int32.toInt_sub, nI_toInt (by omega), nI_toInt (by omega), Int.bmod_def]; omega
  have e2 : -9999 ≤ r.toInt ∧ r.toInt ≤ 40 := by
    by_cases h : nI n < nI b - nI d
    · rw [if_pos h] at hr
      rw [hr, nI_toInt (by omega)]; omega
    · rw [if_neg h] at hr
      rw [Int32.lt_iff_toInt_lt, ex, nI_toInt (by omega)] at h
      rw [hr, ex]; omega
  rw [Int32.toInt_sub, e1, bmod_lo (x := r.toInt - 1) (by omega) (by omega)]; omega
theorem ld_nat {j : Nat} (h : -20000 ≤ (nI j).toInt ∧ (nI j).toInt ≤ 39) (hj : j < 2 ^ 31) : j ≤ 39 := by
  rw [nI_toInt hj] at h; omega
set_option maxRecDepth 20000 in
set_option maxHeartbeats 4000000 in
theorem m_minX (E : xE) (l : Launch) (a : Nat → Nat) (cd : Cd) (hG : Good cd) (kf : Int32) (jn js jq : Lb) (ws : va_W) (hW : WX (okM E a cd kf jn js jq) ws) (p0 : Int32) (p1 : Int32) : xI E l yX12_min cX12_min 2 (some .int) 0 [.int p0, .int p1] ws (fun r w => w = ws ∧ (r = if p0 < p1 then p0 else p1)) := by
  refine xI_start (lv := [(0, .int p0), (1, .int p1)]) RX12 (by decide) rfl (Nat.le_of_ble_eq_true rfl) rfl (fun p e s m below meth c A C hr hlk => ?_)
  refine x_iload_n C dX12_min_0 rfl 0 rfl rfl ?_
  refine x_iload_n C dX12_min_1 rfl 1 rfl rfl ?_
  refine x_icmp_ge C (tgt := 9) dX12_min_2 (by decide) rfl (fun c1 => ?_) (fun c1 => ?_)
  · skip
    refine x_iload_n C dX12_min_9 rfl 1 rfl rfl ?_
    exact x_zret C hr hlk rfl dX12_min_10 ⟨rfl, (if_neg (Int32.not_lt.mpr c1)).symm⟩
  · skip
    refine x_iload_n C dX12_min_5 rfl 0 rfl rfl ?_
    refine x_goto C (tgt := 10) dX12_min_6 (by decide) ?_
    exact x_zret C hr hlk rfl dX12_min_10 ⟨rfl, (if_pos (Int32.not_le.mp c1)).symm⟩
theorem dX12_heaviest_0 : decode cX12_heaviest 0 = .ok (.iconst (-1), 1) := by decide +kernel
theorem dX12_heaviest_1 : decode cX12_heaviest 1 = .ok (.istore_n 3, 1) := by decide +kernel
theorem dX12_heaviest_2 : decode cX12_heaviest 2 = .ok (.iconst 0, 1) := by decide +kernel
theorem dX12_heaviest_3 : decode cX12_heaviest 3 = .ok (.istore 4, 2) := by decide +kernel
theorem dX12_heaviest_5 : decode cX12_heaviest 5 = .ok (.iload 4, 2) := by decide +kernel
theorem dX12_heaviest_7 : decode cX12_heaviest 7 = .ok (.iload_n 1, 1) := by decide +kernel
theorem dX12_heaviest_8 : decode cX12_heaviest 8 = .ok (.if_icmp .ge 58, 3) := by decide +kernel
theorem dX12_heaviest_11 : decode cX12_heaviest 11 = .ok (.aload_n 0, 1) := by decide +kernel
theorem dX12_heaviest_12 : decode cX12_heaviest 12 = .ok (.getfield 86, 3) := by decide +kernel
theorem dX12_heaviest_15 : decode cX12_heaviest 15 = .ok (.iload 4, 2) := by decide +kernel
theorem dX12_heaviest_17 : decode cX12_heaviest 17 = .ok (.iaload, 1) := by decide +kernel
theorem dX12_heaviest_18 : decode cX12_heaviest 18 = .ok (.iconst (-1), 1) := by decide +kernel
theorem dX12_heaviest_19 : decode cX12_heaviest 19 = .ok (.if_icmp .eq 41, 3) := by decide +kernel
theorem dX12_heaviest_22 : decode cX12_heaviest 22 = .ok (.iload_n 3, 1) := by decide +kernel
theorem dX12_heaviest_23 : decode cX12_heaviest 23 = .ok (.iconst (-1), 1) := by decide +kernel
theorem dX12_heaviest_24 : decode cX12_heaviest 24 = .ok (.if_icmp .eq 33, 3) := by decide +kernel
theorem dX12_heaviest_27 : decode cX12_heaviest 27 = .ok (.aload_n 0, 1) := by decide +kernel
theorem dX12_heaviest_28 : decode cX12_heaviest 28 = .ok (.getfield 7, 3) := by decide +kernel
theorem dX12_heaviest_31 : decode cX12_heaviest 31 = .ok (.iconst 0, 1) := by decide +kernel
theorem dX12_heaviest_32 : decode cX12_heaviest 32 = .ok (.aload_n 0, 1) := by decide +kernel
theorem dX12_heaviest_33 : decode cX12_heaviest 33 = .ok (.getfield 89, 3) := by decide +kernel
theorem dX12_heaviest_36 : decode cX12_heaviest 36 = .ok (.iload 4, 2) := by decide +kernel
theorem dX12_heaviest_38 : decode cX12_heaviest 38 = .ok (.iaload, 1) := by decide +kernel
theorem dX12_heaviest_39 : decode cX12_heaviest 39 = .ok (.iadd, 1) := by decide +kernel
theorem dX12_heaviest_40 : decode cX12_heaviest 40 = .ok (.iaload, 1) := by decide +kernel
theorem dX12_heaviest_41 : decode cX12_heaviest 41 = .ok (.aload_n 0, 1) := by decide +kernel
theorem dX12_heaviest_42 : decode cX12_heaviest 42 = .ok (.getfield 7, 3) := by decide +kernel
theorem dX12_heaviest_45 : decode cX12_heaviest 45 = .ok (.iconst 0, 1) := by decide +kernel
theorem dX12_heaviest_46 : decode cX12_heaviest 46 = .ok (.aload_n 0, 1) := by decide +kernel
theorem dX12_heaviest_47 : decode cX12_heaviest 47 = .ok (.getfield 89, 3) := by decide +kernel
theorem dX12_heaviest_50 : decode cX12_heaviest 50 = .ok (.iload_n 3, 1) := by decide +kernel
theorem dX12_heaviest_51 : decode cX12_heaviest 51 = .ok (.iaload, 1) := by decide +kernel
theorem dX12_heaviest_52 : decode cX12_heaviest 52 = .ok (.iadd, 1) := by decide +kernel
theorem dX12_heaviest_53 : decode cX12_heaviest 53 = .ok (.iaload, 1) := by decide +kernel
theorem dX12_heaviest_54 : decode cX12_heaviest 54 = .ok (.if_icmp .le 6, 3) := by decide +kernel
theorem dX12_heaviest_57 : decode cX12_heaviest 57 = .ok (.iload 4, 2) := by decide +kernel
theorem dX12_heaviest_59 : decode cX12_heaviest 59 = .ok (.istore_n 3, 1) := by decide +kernel
theorem dX12_heaviest_60 : decode cX12_heaviest 60 = .ok (.iinc 4 1, 3) := by decide +kernel
theorem dX12_heaviest_63 : decode cX12_heaviest 63 = .ok (.goto (-58), 3) := by decide +kernel
theorem dX12_heaviest_66 : decode cX12_heaviest 66 = .ok (.iload_n 2, 1) := by decide +kernel
theorem dX12_heaviest_67 : decode cX12_heaviest 67 = .ok (.iload_n 1, 1) := by decide +kernel
theorem dX12_heaviest_68 : decode cX12_heaviest 68 = .ok (.if_icmp .ge 7, 3) := by decide +kernel
theorem dX12_heaviest_71 : decode cX12_heaviest 71 = .ok (.iload_n 3, 1) := by decide +kernel
theorem dX12_heaviest_72 : decode cX12_heaviest 72 = .ok (.goto 4, 3) := by decide +kernel
theorem dX12_heaviest_76 : decode cX12_heaviest 76 = .ok (.ireturn, 1) := by decide +kernel
set_option maxRecDepth 20000 in
set_option maxHeartbeats 4000000 in
theorem m_heaviest (E : xE) (l : Launch) (a : Nat → Nat) (cd : Cd) (hG : Good cd) (kf : Int32) (jn js jq : Lb) (ws : va_W) (hW : WX (okM E a cd kf jn js jq) ws) (n0 : Nat) (t0 : Nat) (hn0 : n0 ≤ 48) (ht0 : t0 < n0) (fl : Nat → Int32) (hfl : ws[26]? = some (iA E (a 26) 48 fl)) : xI E l yX12_heaviest cX12_heaviest 5 (some .int) 0 [.ref (a 0), .int (nI n0), .int (nI t0)] ws (fun r w => w = ws ∧ (hvP fl r n0)) := by
  refine xI_start (lv := [(0, .ref (a 0)), (1, .int (nI n0)), (2, .int (nI t0))]) RX12 (by decide) rfl (Nat.le_of_ble_eq_true rfl) rfl (fun p e s m below meth c A C hr hlk => ?_)
  refine x_iconst C (v := (-1)) dX12_heaviest_0 (by decide) rfl ?_
  refine x_istore_n C (lv' := [(3, .int (-1)), (0, .ref (a 0)), (1, .int (nI n0)), (2, .int (nI t0))]) dX12_heaviest_1 rfl (by decide) rfl rfl ?_
  refine x_iconst C (v := 0) dX12_heaviest_2 (by decide) rfl ?_
  refine x_istore C (lv' := [(4, .int 0), (3, .int (-1)), (0, .ref (a 0)), (1, .int (nI n0)), (2, .int (nI t0))]) dX12_heaviest_3 (by decide) rfl rfl ?_
  have loop5 : ∀ (fu5 : Nat) (z5_3 : Int32) (k : Nat), True → n0 - k < fu5 → k ≤ n0 → hvP fl z5_3 k → X E p l e (xRm 0 0 0) s m ([.ref (a 0), .int (nI n0), .int (nI t0)] : List Value).toArray below meth c A 5 0 0 (MQ below (va_Qi (fun r w => w = ws ∧ (hvP fl r n0)) (xB E A) A) ([.ref (a 0), .int (nI n0), .int (nI t0)] : List Value).toArray s 0 0 A) ws 5 [(0, .ref (a 0)), (1, .int (nI n0)), (2, .int (nI t0)), (3, .int z5_3), (4, .int (nI k))] [] := by
    intro fu5
    induction fu5 with
    | zero => intro z5_3 k _ q; omega
    | succ fu5 ih5 =>
      intro z5_3 k _ me5 iv5_0 iv5_1
      refine x_iload C dX12_heaviest_5 4 rfl rfl ?_
      refine x_iload_n C dX12_heaviest_7 rfl 1 rfl rfl ?_
      refine x_icmp_ge C (tgt := 66) dX12_heaviest_8 (by decide) rfl (fun c1 => ?_) (fun c1 => ?_)
      · skip
        have nf2 := nI_le' (a := n0) (b := k) c1 (by omega) (by omega)
        refine x_iload_n C dX12_heaviest_66 rfl 2 rfl rfl ?_
        refine x_iload_n C dX12_heaviest_67 rfl 1 rfl rfl ?_
        refine x_icmp_ge C (tgt := 75) dX12_heaviest_68 (by decide) rfl (fun h => absurd (nI_le' (a := n0) (b := t0) h (by omega) (by omega)) (by omega)) (fun _ => ?_)
        refine x_iload_n C dX12_heaviest_71 rfl 3 rfl rfl ?_
        refine x_goto C (tgt := 76) dX12_heaviest_72 (by decide) ?_
        exact x_zret C hr hlk rfl dX12_heaviest_76 ⟨rfl, (show hvP fl z5_3 n0 from (show k = n0 from by omega) ▸ iv5_1)⟩
      · skip
        have nf3 := nI_nle' (a := n0) (b := k) c1 (by omega) (by omega)
        refine x_aload_n C dX12_heaviest_11 rfl 0 rfl rfl ?_
        obtain ⟨_, k4, n5, n7, n9, v11, v12, v13, n14, n16, n18, n20, v22, v23, v24, v25, n26, n28, bn6, bn8, bn10, bn15, bn17, bn19, bn21, bn27, bn29, rfl⟩ := hW 0 _ rfl
        refine x_get C (ci := 11) (k := 42) 0 k4 rfl in_X12 (by decide) w_1160 rfl dX12_heaviest_12 rfl ?_
        refine x_iload C dX12_heaviest_15 4 rfl rfl ?_
        refine x_ialk C (v := (fl k)) k (nI_clamp (by omega)) (nI_pos (by omega)) (by omega) 26 hfl rfl dX12_heaviest_17 rfl ?_
        refine x_iconst C (v := (-1)) dX12_heaviest_18 (by decide) rfl ?_
        refine x_icmp_eq C (tgt := 60) dX12_heaviest_19 (by decide) rfl (fun c30 => ?_) (fun c30 => ?_)
        · skip
          refine x_iinc C (v := (nI (k + 1))) (lv' := [(4, .int (nI (k + 1))), (0, .ref (a 0)), (1, .int (nI n0)), (2, .int (nI t0)), (3, .int z5_3)]) dX12_heaviest_60 4 rfl (nI_add k 1) (by decide) rfl rfl ?_
          refine x_goto C (tgt := 5) dX12_heaviest_63 (by decide) ?_
          refine x_lv (lv1 := [(0, .ref (a 0)), (1, .int (nI n0)), (2, .int (nI t0)), (3, .int z5_3), (4, .int (nI (k + 1)))]) [1, 2, 3, 4, 0] rfl ?_
          exact ih5 z5_3 (k + 1) trivial (by omega) (by omega) (hvP_skip iv5_1 c30)
        · skip
          refine x_iload_n C dX12_heaviest_22 rfl 3 rfl rfl ?_
          refine x_iconst C (v := (-1)) dX12_heaviest_23 (by decide) rfl ?_
          refine x_icmp_eq C (tgt := 57) dX12_heaviest_24 (by decide) rfl (fun c31 => ?_) (fun c31 => ?_)
          · skip
            refine x_iload C dX12_heaviest_57 4 rfl rfl ?_
            refine x_istore_n C (lv' := [(3, .int (nI k)), (0, .ref (a 0)), (1, .int (nI n0)), (2, .int (nI t0)), (4, .int (nI k))]) dX12_heaviest_59 rfl (by decide) rfl rfl ?_
            refine x_iinc C (v := (nI (k + 1))) (lv' := [(4, .int (nI (k + 1))), (3, .int (nI k)), (0, .ref (a 0)), (1, .int (nI n0)), (2, .int (nI t0))]) dX12_heaviest_60 4 rfl (nI_add k 1) (by decide) rfl rfl ?_
            refine x_goto C (tgt := 5) dX12_heaviest_63 (by decide) ?_
            refine x_lv (lv1 := [(0, .ref (a 0)), (1, .int (nI n0)), (2, .int (nI t0)), (3, .int (nI k)), (4, .int (nI (k + 1)))]) [2, 3, 4, 1, 0] rfl ?_
            exact ih5 ((nI k)) (k + 1) trivial (by omega) (by omega) (Or.inr ⟨k, by omega, rfl, c30⟩)
          · skip
            refine x_aload_n C dX12_heaviest_27 rfl 0 rfl rfl ?_
            refine x_get C (ci := 11) (k := 0) 0 k4 rfl in_X12 (by decide) w_1118 rfl dX12_heaviest_28 rfl ?_
            refine x_iconst C (v := 0) dX12_heaviest_31 (by decide) rfl ?_
            refine x_aload_n C dX12_heaviest_32 rfl 0 rfl rfl ?_
            refine x_get C (ci := 11) (k := 43) 0 k4 rfl in_X12 (by decide) w_1161 rfl dX12_heaviest_33 rfl ?_
            refine x_iload C dX12_heaviest_36 4 rfl rfl ?_
            obtain ⟨_, k32, g33, gb34, rfl⟩ := hW 27 _ rfl
            refine x_ialk C (v := nI (g33 k)) k (nI_clamp (by omega)) (nI_pos (by omega)) (by omega) 27 k32 rfl dX12_heaviest_38 rfl ?_
            have bx35 := gb34 k
            refine x_iadd C (v := (nI (0 + (g33 k)))) dX12_heaviest_39 (nI_add 0 (g33 k)) rfl ?_
            obtain ⟨_, k36, f37, pf38, rfl⟩ := hW 1 _ rfl
            refine x_iald C (v := (f37 (nI (0 + (g33 k))).toNatClampNeg)) 1 k36 (vp_in_nI (by omega) (by decide)) rfl dX12_heaviest_40 rfl ?_
            refine x_any (fun v39 => ?_)
            refine x_aload_n C dX12_heaviest_41 rfl 0 rfl rfl ?_
            refine x_get C (ci := 11) (k := 0) 0 k4 rfl in_X12 (by decide) w_1118 rfl dX12_heaviest_42 rfl ?_
            refine x_iconst C (v := 0) dX12_heaviest_45 (by decide) rfl ?_
            refine x_aload_n C dX12_heaviest_46 rfl 0 rfl rfl ?_
            refine x_get C (ci := 11) (k := 43) 0 k4 rfl in_X12 (by decide) w_1161 rfl dX12_heaviest_47 rfl ?_
            refine x_iload_n C dX12_heaviest_50 rfl 3 rfl rfl ?_
            obtain ⟨b40, hb41, eb42, hn43⟩ := Or.resolve_left iv5_1 (fun q => c31 q.1)
            refine x_top eb42 ?_
            refine x_ialk C (v := nI (g33 b40)) b40 (nI_clamp (by omega)) (nI_pos (by omega)) (by omega) 27 k32 rfl dX12_heaviest_51 rfl ?_
            have bx44 := gb34 b40
            refine x_iadd C (v := (nI (0 + (g33 b40)))) dX12_heaviest_52 (nI_add 0 (g33 b40)) rfl ?_
            refine x_iald C (v := (f37 (nI (0 + (g33 b40))).toNatClampNeg)) 1 k36 (vp_in_nI (by omega) (by decide)) rfl dX12_heaviest_53 rfl ?_
            refine x_any (fun v45 => ?_)
            refine x_icmp_le C (tgt := 60) dX12_heaviest_54 (by decide) rfl (fun c46 => ?_) (fun c46 => ?_)
            · skip
              refine x_iinc C (v := (nI (k + 1))) (lv' := [(4, .int (nI (k + 1))), (0, .ref (a 0)), (1, .int (nI n0)), (2, .int (nI t0)), (3, .int z5_3)]) dX12_heaviest_60 4 rfl (nI_add k 1) (by decide) rfl rfl ?_
              refine x_goto C (tgt := 5) dX12_heaviest_63 (by decide) ?_
              refine x_lv (lv1 := [(0, .ref (a 0)), (1, .int (nI n0)), (2, .int (nI t0)), (3, .int z5_3), (4, .int (nI (k + 1)))]) [1, 2, 3, 4, 0] rfl ?_
              exact ih5 z5_3 (k + 1) trivial (by omega) (by omega) (Or.inr ⟨b40, by omega, eb42, hn43⟩)
            · skip
              refine x_iload C dX12_heaviest_57 4 rfl rfl ?_
              refine x_istore_n C (lv' := [(3, .int (nI k)), (0, .ref (a 0)), (1, .int (nI n0)), (2, .int (nI t0)), (4, .int (nI k))]) dX12_heaviest_59 rfl (by decide) rfl rfl ?_
              refine x_iinc C (v := (nI (k + 1))) (lv' := [(4, .int (nI (k + 1))), (3, .int (nI k)), (0, .ref (a 0)), (1, .int (nI n0)), (2, .int (nI t0))]) dX12_heaviest_60 4 rfl (nI_add k 1) (by decide) rfl rfl ?_
              refine x_goto C (tgt := 5) dX12_heaviest_63 (by decide) ?_
              refine x_lv (lv1 := [(0, .ref (a 0)), (1, .int (nI n0)), (2, .int (nI t0)), (3, .int (nI k)), (4, .int (nI (k + 1)))]) [2, 3, 4, 1, 0] rfl ?_
              exact ih5 ((nI k)) (k + 1) trivial (by omega) (by omega) (Or.inr ⟨k, by omega, rfl, c30⟩)
  refine x_lv (lv1 := [(0, .ref (a 0)), (1, .int (nI n0)), (2, .int (nI t0)), (3, .int (-1)), (4, .int 0)]) [2, 3, 4, 1, 0] rfl ?_
  exact loop5 _ ((-1) : Int32) 0 trivial (Nat.lt_succ_self _) (by omega) (Or.inl ⟨rfl, fun j hj => absurd hj (by omega)⟩)
theorem dX12_before_0 : decode cX12_before 0 = .ok (.aload_n 0, 1) := by decide +kernel
theorem dX12_before_1 : decode cX12_before 1 = .ok (.iload_n 1, 1) := by decide +kernel
theorem dX12_before_2 : decode cX12_before 2 = .ok (.invokevirtual 113, 3) := by decide +kernel
theorem dX12_before_5 : decode cX12_before 5 = .ok (.ifCond .eq 23, 3) := by decide +kernel
theorem dX12_before_8 : decode cX12_before 8 = .ok (.iload_n 2, 1) := by decide +kernel
theorem dX12_before_9 : decode cX12_before 9 = .ok (.iconst 1, 1) := by decide +kernel
theorem dX12_before_10 : decode cX12_before 10 = .ok (.bipush 8, 2) := by decide +kernel
theorem dX12_before_12 : decode cX12_before 12 = .ok (.invokestatic 109, 3) := by decide +kernel
theorem dX12_before_15 : decode cX12_before 15 = .ok (.ifCond .eq 13, 3) := by decide +kernel
theorem dX12_before_18 : decode cX12_before 18 = .ok (.iload_n 3, 1) := by decide +kernel
theorem dX12_before_19 : decode cX12_before 19 = .ok (.iconst 1, 1) := by decide +kernel
theorem dX12_before_20 : decode cX12_before 20 = .ok (.bipush 40, 2) := by decide +kernel
theorem dX12_before_22 : decode cX12_before 22 = .ok (.invokestatic 109, 3) := by decide +kernel
theorem dX12_before_25 : decode cX12_before 25 = .ok (.ifCond .ne 5, 3) := by decide +kernel
theorem dX12_before_28 : decode cX12_before 28 = .ok (.iconst (-1), 1) := by decide +kernel
theorem dX12_before_29 : decode cX12_before 29 = .ok (.ireturn, 1) := by decide +kernel
theorem dX12_before_30 : decode cX12_before 30 = .ok (.iconst 0, 1) := by decide +kernel
theorem dX12_before_31 : decode cX12_before 31 = .ok (.istore 4, 2) := by decide +kernel
theorem dX12_before_33 : decode cX12_before 33 = .ok (.iconst 0, 1) := by decide +kernel
theorem dX12_before_34 : decode cX12_before 34 = .ok (.istore 5, 2) := by decide +kernel
theorem dX12_before_36 : decode cX12_before 36 = .ok (.iload 5, 2) := by decide +kernel
theorem dX12_before_38 : decode cX12_before 38 = .ok (.aload_n 0, 1) := by decide +kernel
theorem dX12_before_39 : decode cX12_before 39 = .ok (.getfield 7, 3) := by decide +kernel
theorem dX12_before_42 : decode cX12_before 42 = .ok (.sipush 381, 3) := by decide +kernel
theorem dX12_before_45 : decode cX12_before 45 = .ok (.iaload, 1) := by decide +kernel
theorem dX12_before_46 : decode cX12_before 46 = .ok (.if_icmp .ge 89, 3) := by decide +kernel
theorem dX12_before_49 : decode cX12_before 49 = .ok (.aload_n 0, 1) := by decide +kernel
theorem dX12_before_50 : decode cX12_before 50 = .ok (.iload 5, 2) := by decide +kernel
theorem dX12_before_52 : decode cX12_before 52 = .ok (.invokevirtual 268, 3) := by decide +kernel
theorem dX12_before_55 : decode cX12_before 55 = .ok (.ifCond .eq 74, 3) := by decide +kernel
theorem dX12_before_58 : decode cX12_before 58 = .ok (.aload_n 0, 1) := by decide +kernel
theorem dX12_before_59 : decode cX12_before 59 = .ok (.getfield 7, 3) := by decide +kernel
theorem dX12_before_62 : decode cX12_before 62 = .ok (.sipush 144, 3) := by decide +kernel
theorem dX12_before_65 : decode cX12_before 65 = .ok (.iload 5, 2) := by decide +kernel
theorem dX12_before_67 : decode cX12_before 67 = .ok (.iadd, 1) := by decide +kernel
theorem dX12_before_68 : decode cX12_before 68 = .ok (.iaload, 1) := by decide +kernel
theorem dX12_before_69 : decode cX12_before 69 = .ok (.iload_n 1, 1) := by decide +kernel
theorem dX12_before_70 : decode cX12_before 70 = .ok (.if_icmp .eq 6, 3) := by decide +kernel
theorem dX12_before_73 : decode cX12_before 73 = .ok (.goto 56, 3) := by decide +kernel
theorem dX12_before_76 : decode cX12_before 76 = .ok (.aload_n 0, 1) := by decide +kernel
theorem dX12_before_77 : decode cX12_before 77 = .ok (.getfield 89, 3) := by decide +kernel
theorem dX12_before_80 : decode cX12_before 80 = .ok (.iload 4, 2) := by decide +kernel
theorem dX12_before_82 : decode cX12_before 82 = .ok (.iload 5, 2) := by decide +kernel
theorem dX12_before_84 : decode cX12_before 84 = .ok (.iastore, 1) := by decide +kernel
theorem dX12_before_85 : decode cX12_before 85 = .ok (.aload_n 0, 1) := by decide +kernel
theorem dX12_before_86 : decode cX12_before 86 = .ok (.getfield 86, 3) := by decide +kernel
theorem dX12_before_89 : decode cX12_before 89 = .ok (.iload 4, 2) := by decide +kernel
theorem dX12_before_91 : decode cX12_before 91 = .ok (.iload_n 3, 1) := by decide +kernel
theorem dX12_before_92 : decode cX12_before 92 = .ok (.aload_n 0, 1) := by decide +kernel
theorem dX12_before_93 : decode cX12_before 93 = .ok (.iload 5, 2) := by decide +kernel
theorem dX12_before_95 : decode cX12_before 95 = .ok (.invokevirtual 334, 3) := by decide +kernel
theorem dX12_before_98 : decode cX12_before 98 = .ok (.aload_n 0, 1) := by decide +kernel
theorem dX12_before_99 : decode cX12_before 99 = .ok (.getfield 7, 3) := by decide +kernel
theorem dX12_before_102 : decode cX12_before 102 = .ok (.sipush 379, 3) := by decide +kernel
theorem dX12_before_105 : decode cX12_before 105 = .ok (.iaload, 1) := by decide +kernel
theorem dX12_before_106 : decode cX12_before 106 = .ok (.isub, 1) := by decide +kernel
theorem dX12_before_107 : decode cX12_before 107 = .ok (.invokestatic 272, 3) := by decide +kernel
theorem dX12_before_110 : decode cX12_before 110 = .ok (.iconst 1, 1) := by decide +kernel
theorem dX12_before_111 : decode cX12_before 111 = .ok (.isub, 1) := by decide +kernel
theorem dX12_before_112 : decode cX12_before 112 = .ok (.iastore, 1) := by decide +kernel
theorem dX12_before_113 : decode cX12_before 113 = .ok (.aload_n 0, 1) := by decide +kernel
theorem dX12_before_114 : decode cX12_before 114 = .ok (.getfield 86, 3) := by decide +kernel
theorem dX12_before_117 : decode cX12_before 117 = .ok (.iload 4, 2) := by decide +kernel
theorem dX12_before_119 : decode cX12_before 119 = .ok (.iaload, 1) := by decide +kernel
theorem dX12_before_120 : decode cX12_before 120 = .ok (.ifCond .lt 9, 3) := by decide +kernel
theorem dX12_before_123 : decode cX12_before 123 = .ok (.iload 4, 2) := by decide +kernel
theorem dX12_before_125 : decode cX12_before 125 = .ok (.iconst 1, 1) := by decide +kernel
theorem dX12_before_126 : decode cX12_before 126 = .ok (.iadd, 1) := by decide +kernel
theorem dX12_before_127 : decode cX12_before 127 = .ok (.istore 4, 2) := by decide +kernel
theorem dX12_before_129 : decode cX12_before 129 = .ok (.iinc 5 1, 3) := by decide +kernel
theorem dX12_before_132 : decode cX12_before 132 = .ok (.goto (-96), 3) := by decide +kernel
theorem dX12_before_135 : decode cX12_before 135 = .ok (.iconst 0, 1) := by decide +kernel
theorem dX12_before_136 : decode cX12_before 136 = .ok (.istore 5, 2) := by decide +kernel
theorem dX12_before_138 : decode cX12_before 138 = .ok (.iload 5, 2) := by decide +kernel
theorem dX12_before_140 : decode cX12_before 140 = .ok (.iload_n 3, 1) := by decide +kernel
theorem dX12_before_141 : decode cX12_before 141 = .ok (.if_icmp .ge 17, 3) := by decide +kernel
theorem dX12_before_144 : decode cX12_before 144 = .ok (.aload_n 0, 1) := by decide +kernel
theorem dX12_before_145 : decode cX12_before 145 = .ok (.getfield 92, 3) := by decide +kernel
theorem dX12_before_148 : decode cX12_before 148 = .ok (.iload 5, 2) := by decide +kernel
theorem dX12_before_150 : decode cX12_before 150 = .ok (.iconst 0, 1) := by decide +kernel
theorem dX12_before_151 : decode cX12_before 151 = .ok (.iastore, 1) := by decide +kernel
theorem dX12_before_152 : decode cX12_before 152 = .ok (.iinc 5 1, 3) := by decide +kernel
theorem dX12_before_155 : decode cX12_before 155 = .ok (.goto (-17), 3) := by decide +kernel
theorem dX12_before_158 : decode cX12_before 158 = .ok (.iconst 0, 1) := by decide +kernel
theorem dX12_before_159 : decode cX12_before 159 = .ok (.istore 5, 2) := by decide +kernel
theorem dX12_before_161 : decode cX12_before 161 = .ok (.iconst 0, 1) := by decide +kernel
theorem dX12_before_162 : decode cX12_before 162 = .ok (.istore 6, 2) := by decide +kernel
theorem dX12_before_164 : decode cX12_before 164 = .ok (.iload 6, 2) := by decide +kernel
theorem dX12_before_166 : decode cX12_before 166 = .ok (.iload 4, 2) := by decide +kernel
theorem dX12_before_168 : decode cX12_before 168 = .ok (.if_icmp .ge 104, 3) := by decide +kernel
theorem dX12_before_171 : decode cX12_before 171 = .ok (.aload_n 0, 1) := by decide +kernel
theorem dX12_before_172 : decode cX12_before 172 = .ok (.iload 4, 2) := by decide +kernel
theorem dX12_before_174 : decode cX12_before 174 = .ok (.iload 6, 2) := by decide +kernel
theorem dX12_before_176 : decode cX12_before 176 = .ok (.invokevirtual 371, 3) := by decide +kernel
theorem dX12_before_179 : decode cX12_before 179 = .ok (.istore 7, 2) := by decide +kernel
theorem dX12_before_181 : decode cX12_before 181 = .ok (.aload_n 0, 1) := by decide +kernel
theorem dX12_before_182 : decode cX12_before 182 = .ok (.getfield 86, 3) := by decide +kernel
theorem dX12_before_185 : decode cX12_before 185 = .ok (.iload 7, 2) := by decide +kernel
theorem dX12_before_187 : decode cX12_before 187 = .ok (.iaload, 1) := by decide +kernel
theorem dX12_before_188 : decode cX12_before 188 = .ok (.istore 8, 2) := by decide +kernel
theorem dX12_before_190 : decode cX12_before 190 = .ok (.aload_n 0, 1) := by decide +kernel
theorem dX12_before_191 : decode cX12_before 191 = .ok (.getfield 86, 3) := by decide +kernel
theorem dX12_before_194 : decode cX12_before 194 = .ok (.iload 7, 2) := by decide +kernel
theorem dX12_before_196 : decode cX12_before 196 = .ok (.iconst (-1), 1) := by decide +kernel
theorem dX12_before_197 : decode cX12_before 197 = .ok (.iastore, 1) := by decide +kernel
theorem dX12_before_198 : decode cX12_before 198 = .ok (.iload 8, 2) := by decide +kernel
theorem dX12_before_200 : decode cX12_before 200 = .ok (.ifCond .lt 23, 3) := by decide +kernel
theorem dX12_before_203 : decode cX12_before 203 = .ok (.aload_n 0, 1) := by decide +kernel
theorem dX12_before_204 : decode cX12_before 204 = .ok (.getfield 92, 3) := by decide +kernel
theorem dX12_before_207 : decode cX12_before 207 = .ok (.iload 8, 2) := by decide +kernel
theorem dX12_before_209 : decode cX12_before 209 = .ok (.iaload, 1) := by decide +kernel
theorem dX12_before_210 : decode cX12_before 210 = .ok (.iload_n 2, 1) := by decide +kernel
theorem dX12_before_211 : decode cX12_before 211 = .ok (.if_icmp .ne 12, 3) := by decide +kernel
theorem dX12_before_214 : decode cX12_before 214 = .ok (.iload 8, 2) := by decide +kernel
theorem dX12_before_216 : decode cX12_before 216 = .ok (.iconst 1, 1) := by decide +kernel
theorem dX12_before_217 : decode cX12_before 217 = .ok (.isub, 1) := by decide +kernel
theorem dX12_before_218 : decode cX12_before 218 = .ok (.istore 8, 2) := by decide +kernel
theorem dX12_before_220 : decode cX12_before 220 = .ok (.goto (-22), 3) := by decide +kernel
theorem dX12_before_223 : decode cX12_before 223 = .ok (.iload 8, 2) := by decide +kernel
theorem dX12_before_225 : decode cX12_before 225 = .ok (.ifCond .ge 6, 3) := by decide +kernel
theorem dX12_before_228 : decode cX12_before 228 = .ok (.goto 38, 3) := by decide +kernel
theorem dX12_before_231 : decode cX12_before 231 = .ok (.aload_n 0, 1) := by decide +kernel
theorem dX12_before_232 : decode cX12_before 232 = .ok (.getfield 92, 3) := by decide +kernel
theorem dX12_before_235 : decode cX12_before 235 = .ok (.iload 8, 2) := by decide +kernel
theorem dX12_before_237 : decode cX12_before 237 = .ok (.aload_n 0, 1) := by decide +kernel
theorem dX12_before_238 : decode cX12_before 238 = .ok (.getfield 92, 3) := by decide +kernel
theorem dX12_before_241 : decode cX12_before 241 = .ok (.iload 8, 2) := by decide +kernel
theorem dX12_before_243 : decode cX12_before 243 = .ok (.iaload, 1) := by decide +kernel
theorem dX12_before_244 : decode cX12_before 244 = .ok (.iconst 1, 1) := by decide +kernel
theorem dX12_before_245 : decode cX12_before 245 = .ok (.iadd, 1) := by decide +kernel
theorem dX12_before_246 : decode cX12_before 246 = .ok (.iastore, 1) := by decide +kernel
theorem dX12_before_247 : decode cX12_before 247 = .ok (.iload 5, 2) := by decide +kernel
theorem dX12_before_249 : decode cX12_before 249 = .ok (.aload_n 0, 1) := by decide +kernel
theorem dX12_before_250 : decode cX12_before 250 = .ok (.getfield 7, 3) := by decide +kernel
theorem dX12_before_253 : decode cX12_before 253 = .ok (.iconst 0, 1) := by decide +kernel
theorem dX12_before_254 : decode cX12_before 254 = .ok (.aload_n 0, 1) := by decide +kernel
theorem dX12_before_255 : decode cX12_before 255 = .ok (.getfield 89, 3) := by decide +kernel
theorem dX12_before_258 : decode cX12_before 258 = .ok (.iload 7, 2) := by decide +kernel
theorem dX12_before_260 : decode cX12_before 260 = .ok (.iaload, 1) := by decide +kernel
theorem dX12_before_261 : decode cX12_before 261 = .ok (.iadd, 1) := by decide +kernel
theorem dX12_before_262 : decode cX12_before 262 = .ok (.iaload, 1) := by decide +kernel
theorem dX12_before_263 : decode cX12_before 263 = .ok (.iadd, 1) := by decide +kernel
theorem dX12_before_264 : decode cX12_before 264 = .ok (.istore 5, 2) := by decide +kernel
theorem dX12_before_266 : decode cX12_before 266 = .ok (.iinc 6 1, 3) := by decide +kernel
theorem dX12_before_269 : decode cX12_before 269 = .ok (.goto (-105), 3) := by decide +kernel
theorem dX12_before_272 : decode cX12_before 272 = .ok (.iload 5, 2) := by decide +kernel
theorem dX12_before_274 : decode cX12_before 274 = .ok (.ireturn, 1) := by decide +kernel
set_option maxRecDepth 20000 in
set_option maxHeartbeats 4000000 in
theorem m_before (E : xE) (l : Launch) (a : Nat → Nat) (cd : Cd) (hG : Good cd) (kf : Int32) (jn js jq : Lb) (ws : va_W) (hW : WX (okM E a cd kf jn js jq) ws) (p0 : Int32) (p1 : Int32) (p2 : Int32) : xI E l yX12_before cX12_before 9 (some .int) 8 [.ref (a 0), .int p0, .int p1, .int p2] ws (fun r w => WX (okM E a cd kf jn js jq) w) := by
  refine xI_start (lv := [(0, .ref (a 0)), (1, .int p0), (2, .int p1), (3, .int p2)]) RX12 (by decide) rfl (Nat.le_of_ble_eq_true rfl) rfl (fun p e s m below meth c A C hr hlk => ?_)
  refine x_aload_n C dX12_before_0 rfl 0 rfl rfl ?_
  refine x_iload_n C dX12_before_1 rfl 1 rfl rfl ?_
  obtain ⟨_, k1, n2, n4, n6, v8, v9, v10, n11, n13, n15, n17, v19, v20, v21, v22, n23, n25, bn3, bn5, bn7, bn12, bn14, bn16, bn18, bn24, bn26, rfl⟩ := hW 0 _ rfl
  refine x_vi C (As := [.int p0]) (rest := []) (m_isPerson E l a cd hG kf jn js jq ws hW p0) mf_X12_isPerson w_1270 0 k1 rfl rfl rfl (Nat.le_of_ble_eq_true rfl) ⟨(Nat.le_of_ble_eq_true rfl), (Nat.le_of_ble_eq_true rfl)⟩ ⟨(Nat.le_of_ble_eq_true rfl), (Nat.le_of_ble_eq_true rfl)⟩ dX12_before_2 rfl (fun r28 w29 h27 => ?_)
  obtain ⟨hW30, zb31, x32⟩ := h27
  refine x_ws hW30 ?_
  refine x_if_eq C (tgt := 28) dX12_before_5 (by decide) rfl (fun c33 => ?_) (fun c33 => ?_)
  · skip
    refine x_iconst C (v := (-1)) dX12_before_28 (by decide) rfl ?_
    exact x_zret C hr hlk rfl dX12_before_29 hW
  · skip
    obtain ⟨j34, hl35, hh36, ej37⟩ := w_nat (a := 0) (b := 7) (by decide) (by decide) (x32 c33)
    subst ej37
    refine x_iload_n C dX12_before_8 rfl 2 rfl rfl ?_
    refine x_iconst C (v := 1) dX12_before_9 (by decide) rfl ?_
    refine x_bipush C (v := 8) dX12_before_10 (by decide) rfl ?_
    refine x_si C (As := [.int p1, .int 1, .int 8]) (rest := []) (m_in E l a cd hG kf jn js jq ws hW p1 (1 : Int32) (8 : Int32)) mf_X12_in w_1267 rfl rfl (Nat.le_of_ble_eq_true rfl) ⟨(Nat.le_of_ble_eq_true rfl), (Nat.le_of_ble_eq_true rfl)⟩ ⟨(Nat.le_of_ble_eq_true rfl), (Nat.le_of_ble_eq_true rfl)⟩ dX12_before_12 rfl (fun r39 w40 h38 => ?_)
    obtain ⟨hW41, zb42, x43⟩ := h38
    refine x_ws hW41 ?_
    refine x_if_eq C (tgt := 28) dX12_before_15 (by decide) rfl (fun c44 => ?_) (fun c44 => ?_)
    · skip
      refine x_iconst C (v := (-1)) dX12_before_28 (by decide) rfl ?_
      exact x_zret C hr hlk rfl dX12_before_29 hW
    · skip
      obtain ⟨j45, hl46, hh47, ej48⟩ := w_nat (a := 1) (b := 8) (by decide) (by decide) (x43 c44)
      subst ej48
      refine x_iload_n C dX12_before_18 rfl 3 rfl rfl ?_
      refine x_iconst C (v := 1) dX12_before_19 (by decide) rfl ?_
      refine x_bipush C (v := 40) dX12_before_20 (by decide) rfl ?_
      refine x_si C (As := [.int p2, .int 1, .int 40]) (rest := []) (m_in E l a cd hG kf jn js jq ws hW p2 (1 : Int32) (40 : Int32)) mf_X12_in w_1267 rfl rfl (Nat.le_of_ble_eq_true rfl) ⟨(Nat.le_of_ble_eq_true rfl), (Nat.le_of_ble_eq_true rfl)⟩ ⟨(Nat.le_of_ble_eq_true rfl), (Nat.le_of_ble_eq_true rfl)⟩ dX12_before_22 rfl (fun r50 w51 h49 => ?_)
      obtain ⟨hW52, zb53, x54⟩ := h49
      refine x_ws hW52 ?_
      refine x_if_ne C (tgt := 30) dX12_before_25 (by decide) rfl (fun c55 => ?_) (fun c55 => ?_)
      · skip
        obtain ⟨j56, hl57, hh58, ej59⟩ := w_nat (a := 1) (b := 40) (by decide) (by decide) (x54 c55)
        subst ej59
        obtain ⟨_, k60, f61, rfl⟩ := hW 26 _ rfl
        refine x_iconst C (v := 0) dX12_before_30 (by decide) rfl ?_
        refine x_istore C (lv' := [(4, .int 0), (0, .ref (a 0)), (1, .int (nI j34)), (2, .int (nI j45)), (3, .int (nI j56))]) dX12_before_31 (by decide) rfl rfl ?_
        refine x_iconst C (v := 0) dX12_before_33 (by decide) rfl ?_
        refine x_istore C (lv' := [(5, .int 0), (4, .int 0), (0, .ref (a 0)), (1, .int (nI j34)), (2, .int (nI j45)), (3, .int (nI j56))]) dX12_before_34 (by decide) rfl rfl ?_
        have loop36 : ∀ (fu36 : Nat) (mc : Nat) (i : Nat) (wl36 : va_W), WX (okM E a cd kf jn js jq) wl36 → 48 - i < fu36 → mc ≤ i ∧ i ≤ 48 → ldK E a wl36 mc → X E p l e (xRm 8 0 0) s m ([.ref (a 0), .int (nI j34), .int (nI j45), .int (nI j56)] : List Value).toArray below meth c A 9 0 0 (MQ below (va_Qi (fun r w => WX (okM E a cd kf jn js jq) w) (xB E A) A) ([.ref (a 0), .int (nI j34), .int (nI j45), .int (nI j56)] : List Value).toArray s 0 0 A) wl36 36 [(0, .ref (a 0)), (1, .int (nI j34)), (2, .int (nI j45)), (3, .int (nI j56)), (4, .int (nI mc)), (5, .int (nI i))] [] := by
          intro fu36
          induction fu36 with
          | zero => intro mc i wl36 _ q; omega
          | succ fu36 ih36 =>
            intro mc i wl36 hWl36 me36 iv36_0 iv36_1
            obtain ⟨fl62, kl63, hl64⟩ := iv36_1
            refine x_iload C dX12_before_36 5 rfl rfl ?_
            refine x_aload_n C dX12_before_38 rfl 0 rfl rfl ?_
            obtain ⟨_, k65, n66, n68, n70, v72, v73, v74, n75, n77, n79, n81, v83, v84, v85, v86, n87, n89, bn67, bn69, bn71, bn76, bn78, bn80, bn82, bn88, bn90, rfl⟩ := hWl36 0 _ rfl
            refine x_get C (ci := 11) (k := 0) 0 k65 rfl in_X12 (by decide) w_1118 rfl dX12_before_39 rfl ?_
            refine x_sipush C (v := 381) dX12_before_42 (by decide) rfl ?_
            obtain ⟨_, k91, f92, pf93, rfl⟩ := hWl36 1 _ rfl
            obtain ⟨n94, hn95, en96⟩ := NB_many pf93
            refine x_ialk C (v := nI n94) 381 (by decide) (by decide) (by decide) 1 k91 en96 dX12_before_45 rfl ?_
            refine x_icmp_ge C (tgt := 135) dX12_before_46 (by decide) rfl (fun c97 => ?_) (fun c97 => ?_)
            · skip
              have nf98 := nI_le' (a := n94) (b := i) c97 (by omega) (by omega)
              refine x_iconst C (v := 0) dX12_before_135 (by decide) rfl ?_
              refine x_istore C (lv' := [(5, .int 0), (0, .ref (a 0)), (1, .int (nI j34)), (2, .int (nI j45)), (3, .int (nI j56)), (4, .int (nI mc))]) dX12_before_136 (by decide) rfl rfl ?_
              have loop138 : ∀ (fu138 : Nat) (dq : Nat) (wl138 : va_W), WX (okM E a cd kf jn js jq) wl138 → 40 - dq < fu138 → dq ≤ 40 → ldK E a wl138 mc → X E p l e (xRm 8 0 0) s m ([.ref (a 0), .int (nI j34), .int (nI j45), .int (nI j56)] : List Value).toArray below meth c A 9 0 0 (MQ below (va_Qi (fun r w => WX (okM E a cd kf jn js jq) w) (xB E A) A) ([.ref (a 0), .int (nI j34), .int (nI j45), .int (nI j56)] : List Value).toArray s 0 0 A) wl138 138 [(0, .ref (a 0)), (1, .int (nI j34)), (2, .int (nI j45)), (3, .int (nI j56)), (4, .int (nI mc)), (5, .int (nI dq))] [] := by
                intro fu138
                induction fu138 with
                | zero => intro dq wl138 _ q; omega
                | succ fu138 ih138 =>
                  intro dq wl138 hWl138 me138 iv138_0 iv138_1
                  obtain ⟨fl99, kl100, hl101⟩ := iv138_1
                  refine x_iload C dX12_before_138 5 rfl rfl ?_
                  refine x_iload_n C dX12_before_140 rfl 3 rfl rfl ?_
                  refine x_icmp_ge C (tgt := 158) dX12_before_141 (by decide) rfl (fun c102 => ?_) (fun c102 => ?_)
                  · skip
                    have nf103 := nI_le' (a := j56) (b := dq) c102 (by omega) (by omega)
                    refine x_iconst C (v := 0) dX12_before_158 (by decide) rfl ?_
                    refine x_istore C (lv' := [(5, .int 0), (0, .ref (a 0)), (1, .int (nI j34)), (2, .int (nI j45)), (3, .int (nI j56)), (4, .int (nI mc))]) dX12_before_159 (by decide) rfl rfl ?_
                    refine x_iconst C (v := 0) dX12_before_161 (by decide) rfl ?_
                    refine x_istore C (lv' := [(6, .int 0), (5, .int 0), (0, .ref (a 0)), (1, .int (nI j34)), (2, .int (nI j45)), (3, .int (nI j56)), (4, .int (nI mc))]) dX12_before_162 (by decide) rfl rfl ?_
                    have loop164 : ∀ (fu164 : Nat) (z164_5 : Int32) (tk : Nat) (wl164 : va_W), WX (okM E a cd kf jn js jq) wl164 → mc - tk < fu164 → tk ≤ mc → lcK E a wl164 mc tk → X E p l e (xRm 8 0 0) s m ([.ref (a 0), .int (nI j34), .int (nI j45), .int (nI j56)] : List Value).toArray below meth c A 9 0 0 (MQ below (va_Qi (fun r w => WX (okM E a cd kf jn js jq) w) (xB E A) A) ([.ref (a 0), .int (nI j34), .int (nI j45), .int (nI j56)] : List Value).toArray s 0 0 A) wl164 164 [(0, .ref (a 0)), (1, .int (nI j34)), (2, .int (nI j45)), (3, .int (nI j56)), (4, .int (nI mc)), (5, .int z164_5), (6, .int (nI tk))] [] := by
                      intro fu164
                      induction fu164 with
                      | zero => intro z164_5 tk wl164 _ q; omega
                      | succ fu164 ih164 =>
                        intro z164_5 tk wl164 hWl164 me164 iv164_0 iv164_1
                        obtain ⟨fl104, kl105, hA106, hc107⟩ := iv164_1
                        refine x_iload C dX12_before_164 6 rfl rfl ?_
                        refine x_iload C dX12_before_166 4 rfl rfl ?_
                        refine x_icmp_ge C (tgt := 272) dX12_before_168 (by decide) rfl (fun c108 => ?_) (fun c108 => ?_)
                        · skip
                          have nf109 := nI_le' (a := mc) (b := tk) c108 (by omega) (by omega)
                          refine x_iload C dX12_before_272 5 rfl rfl ?_
                          exact x_zret C hr hlk rfl dX12_before_274 hWl164
                        · skip
                          have nf110 := nI_nle' (a := mc) (b := tk) c108 (by omega) (by omega)
                          refine x_aload_n C dX12_before_171 rfl 0 rfl rfl ?_
                          refine x_iload C dX12_before_172 4 rfl rfl ?_
                          refine x_iload C dX12_before_174 6 rfl rfl ?_
                          obtain ⟨_, k111, n112, n114, n116, v118, v119, v120, n121, n123, n125, n127, v129, v130, v131, v132, n133, n135, bn113, bn115, bn117, bn122, bn124, bn126, bn128, bn134, bn136, rfl⟩ := hWl164 0 _ rfl
                          refine x_vi C (As := [.int (nI mc), .int (nI tk)]) (rest := []) (m_heaviest E l a cd hG kf jn js jq wl164 hWl164 mc tk (by omega) (by omega) fl104 kl105) mf_X12_heaviest w_1589 0 k111 rfl rfl rfl (Nat.le_of_ble_eq_true rfl) ⟨(Nat.le_of_ble_eq_true rfl), (Nat.le_of_ble_eq_true rfl)⟩ ⟨(Nat.le_of_ble_eq_true rfl), (Nat.le_of_ble_eq_true rfl)⟩ dX12_before_176 rfl (fun r138 w139 h137 => ?_)
                          obtain ⟨hW140, x141⟩ := h137
                          refine x_ws hW140 ?_
                          rcases x141 with ⟨hm142, ha143⟩ | ⟨b144, hb145, eb146, hn147⟩
                          · exact absurd (cnl_none ha143) (by omega)
                          refine x_top eb146 ?_
                          refine x_istore C (lv' := [(7, .int (nI b144)), (0, .ref (a 0)), (1, .int (nI j34)), (2, .int (nI j45)), (3, .int (nI j56)), (4, .int (nI mc)), (5, .int z164_5), (6, .int (nI tk))]) dX12_before_179 (by decide) rfl rfl ?_
                          refine x_aload_n C dX12_before_181 rfl 1 rfl rfl ?_
                          refine x_get C (ci := 11) (k := 42) 0 k111 rfl in_X12 (by decide) w_1160 rfl dX12_before_182 rfl ?_
                          refine x_iload C dX12_before_185 0 rfl rfl ?_
                          refine x_ialk C (v := (fl104 b144)) b144 (nI_clamp (by omega)) (nI_pos (by omega)) (by omega) 26 kl105 rfl dX12_before_187 rfl ?_
                          obtain ⟨d148, hd149, ed150⟩ := (hA106 b144 hb145).resolve_left hn147
                          refine x_top ed150 ?_
                          refine x_istore C (lv' := [(8, .int (nI d148)), (7, .int (nI b144)), (0, .ref (a 0)), (1, .int (nI j34)), (2, .int (nI j45)), (3, .int (nI j56)), (4, .int (nI mc)), (5, .int z164_5), (6, .int (nI tk))]) dX12_before_188 (by decide) rfl rfl ?_
                          refine x_aload_n C dX12_before_190 rfl 2 rfl rfl ?_
                          refine x_get C (ci := 11) (k := 42) 0 k111 rfl in_X12 (by decide) w_1160 rfl dX12_before_191 rfl ?_
                          refine x_iload C dX12_before_194 1 rfl rfl ?_
                          refine x_iconst C (v := (-1)) dX12_before_196 (by decide) rfl ?_
                          obtain ⟨w151, hw152⟩ : ∃ w : va_W, w = List.set wl164 26 (iA E (a 26) 48 (upd fl104 b144 ((-1) : Int32))) := ⟨_, rfl⟩
                          refine x_iask C b144 (nI_clamp (by omega)) (nI_pos (by omega)) (by omega) 26 kl105 hw152.symm dX12_before_197 rfl ?_
                          have hW153 : WX (okM E a cd kf jn js jq) w151 := by rw [hw152]; exact hWl164.set (k := 26) rfl ⟨_, rfl⟩
                          have k154 : w151[26]? = some (iA E (a 26) 48 (upd fl104 b144 ((-1) : Int32))) := by rw [hw152]; exact set_eq kl105
                          have k155 : w151[0]? = some (ob (a 0) 11 [.ref (a 1), .ref (a 2), .ref (a 3), .ref (a 4), .int (nI n112), .int (nI n114), .int (nI n116), .int v118, .int v119, .int v120, .int (nI n121), .int (nI n123), .int (nI n125), .int (nI (cd.2.2.2.2.2)), .ref (a 5), .ref (a 6), .ref (a 7), .ref (a 8), .ref (a 9), .ref (a 10), .ref (a 11), .ref (a 12), .ref (a 13), .ref (a 14), .ref (a 15), .ref (a 16), .ref (a 17), .int (nI n127), .ref (a 18), .ref (a 19), .ref (a 20), .ref (a 21), .int v129, .int v130, .int v131, .int v132, .int (nI n133), .int (nI n135), .ref (a 22), .ref (a 23), .ref (a 24), .ref (a 25), .ref (a 26), .ref (a 27), .ref (a 28), .ref (a 29), .ref (a 30), .int kf]) := by rw [hw152]; exact set_ne k111 (by decide)
                          have loop198 : ∀ (fu198 : Nat) (dy : Nat), True → dy < fu198 → dy ≤ 39 → X E p l e (xRm 8 0 0) s m ([.ref (a 0), .int (nI j34), .int (nI j45), .int (nI j56)] : List Value).toArray below meth c A 9 0 0 (MQ below (va_Qi (fun r w => WX (okM E a cd kf jn js jq) w) (xB E A) A) ([.ref (a 0), .int (nI j34), .int (nI j45), .int (nI j56)] : List Value).toArray s 0 0 A) w151 198 [(0, .ref (a 0)), (1, .int (nI j34)), (2, .int (nI j45)), (3, .int (nI j56)), (4, .int (nI mc)), (5, .int z164_5), (6, .int (nI tk)), (7, .int (nI b144)), (8, .int (nI dy))] [] := by
                            intro fu198
                            induction fu198 with
                            | zero => intro dy _ q; omega
                            | succ fu198 ih198 =>
                              intro dy _ me198 iv198_0
                              refine x_iload C dX12_before_198 8 rfl rfl ?_
                              refine x_if_lt C (tgt := 223) dX12_before_200 (by decide) rfl (fun c156 => ?_) (fun c156 => ?_)
                              · skip
                                have nf157 := nI_lt' (a := dy) (b := 0) c156 (by omega) (by omega)
                                refine x_iload C dX12_before_223 8 rfl rfl ?_
                                refine x_if_ge C (tgt := 231) dX12_before_225 (by decide) rfl (fun c158 => ?_) (fun c158 => ?_)
                                · skip
                                  have nf159 := nI_le' (a := 0) (b := dy) c158 (by omega) (by omega)
                                  refine x_aload_n C dX12_before_231 rfl 0 rfl rfl ?_
                                  refine x_get C (ci := 11) (k := 44) 0 k155 rfl in_X12 (by decide) w_1162 rfl dX12_before_232 rfl ?_
                                  refine x_iload C dX12_before_235 8 rfl rfl ?_
                                  refine x_aload_n C dX12_before_237 rfl 0 rfl rfl ?_
                                  refine x_get C (ci := 11) (k := 44) 0 k155 rfl in_X12 (by decide) w_1162 rfl dX12_before_238 rfl ?_
                                  refine x_iload C dX12_before_241 8 rfl rfl ?_
                                  obtain ⟨_, k160, f161, rfl⟩ := hW153 28 _ rfl
                                  refine x_iald C (v := (f161 (nI dy).toNatClampNeg)) 28 k160 (vp_in_nI (by omega) (by decide)) rfl dX12_before_243 rfl ?_
                                  refine x_any (fun v162 => ?_)
                                  refine x_iconst C (v := 1) dX12_before_244 (by decide) rfl ?_
                                  refine x_iadd C (v := (v162 + (1 : Int32))) dX12_before_245 rfl rfl ?_
                                  refine x_any (fun v163 => ?_)
                                  obtain ⟨w164, hw165⟩ : ∃ w : va_W, w = List.set w151 28 (iA E (a 28) 40 (upd f161 dy v163)) := ⟨_, rfl⟩
                                  refine x_iask C dy (nI_clamp (by omega)) (nI_pos (by omega)) (by omega) 28 k160 hw165.symm dX12_before_246 rfl ?_
                                  have hW166 : WX (okM E a cd kf jn js jq) w164 := by rw [hw165]; exact hW153.set (k := 28) rfl ⟨_, rfl⟩
                                  have k167 : w164[26]? = some (iA E (a 26) 48 (upd fl104 b144 ((-1) : Int32))) := by rw [hw165]; exact set_ne k154 (by decide)
                                  have k168 : w164[0]? = some (ob (a 0) 11 [.ref (a 1), .ref (a 2), .ref (a 3), .ref (a 4), .int (nI n112), .int (nI n114), .int (nI n116), .int v118, .int v119, .int v120, .int (nI n121), .int (nI n123), .int (nI n125), .int (nI (cd.2.2.2.2.2)), .ref (a 5), .ref (a 6), .ref (a 7), .ref (a 8), .ref (a 9), .ref (a 10), .ref (a 11), .ref (a 12), .ref (a 13), .ref (a 14), .ref (a 15), .ref (a 16), .ref (a 17), .int (nI n127), .ref (a 18), .ref (a 19), .ref (a 20), .ref (a 21), .int v129, .int v130, .int v131, .int v132, .int (nI n133), .int (nI n135), .ref (a 22), .ref (a 23), .ref (a 24), .ref (a 25), .ref (a 26), .ref (a 27), .ref (a 28), .ref (a 29), .ref (a 30), .int kf]) := by rw [hw165]; exact set_ne k155 (by decide)
                                  have k169 : w164[28]? = some (iA E (a 28) 40 (upd f161 dy v163)) := by rw [hw165]; exact set_eq k160
                                  refine x_iload C dX12_before_247 5 rfl rfl ?_
                                  refine x_aload_n C dX12_before_249 rfl 0 rfl rfl ?_
                                  refine x_get C (ci := 11) (k := 0) 0 k168 rfl in_X12 (by decide) w_1118 rfl dX12_before_250 rfl ?_
                                  refine x_iconst C (v := 0) dX12_before_253 (by decide) rfl ?_
                                  refine x_aload_n C dX12_before_254 rfl 0 rfl rfl ?_
                                  refine x_get C (ci := 11) (k := 43) 0 k168 rfl in_X12 (by decide) w_1161 rfl dX12_before_255 rfl ?_
                                  refine x_iload C dX12_before_258 7 rfl rfl ?_
                                  obtain ⟨_, k170, g171, gb172, rfl⟩ := hW166 27 _ rfl
                                  refine x_ialk C (v := nI (g171 b144)) b144 (nI_clamp (by omega)) (nI_pos (by omega)) (by omega) 27 k170 rfl dX12_before_260 rfl ?_
                                  have bx173 := gb172 b144
                                  refine x_iadd C (v := (nI (0 + (g171 b144)))) dX12_before_261 (nI_add 0 (g171 b144)) rfl ?_
                                  obtain ⟨_, k174, f175, pf176, rfl⟩ := hW166 1 _ rfl
                                  refine x_iald C (v := (f175 (nI (0 + (g171 b144))).toNatClampNeg)) 1 k174 (vp_in_nI (by omega) (by decide)) rfl dX12_before_262 rfl ?_
                                  refine x_any (fun v177 => ?_)
                                  refine x_iadd C (v := (z164_5 + v177)) dX12_before_263 rfl rfl ?_
                                  refine x_any (fun v178 => ?_)
                                  refine x_istore C (lv' := [(5, .int v178), (0, .ref (a 0)), (1, .int (nI j34)), (2, .int (nI j45)), (3, .int (nI j56)), (4, .int (nI mc)), (6, .int (nI tk)), (7, .int (nI b144)), (8, .int (nI dy))]) dX12_before_264 (by decide) rfl rfl ?_
                                  refine x_iinc C (v := (nI (tk + 1))) (lv' := [(6, .int (nI (tk + 1))), (5, .int v178), (0, .ref (a 0)), (1, .int (nI j34)), (2, .int (nI j45)), (3, .int (nI j56)), (4, .int (nI mc)), (7, .int (nI b144)), (8, .int (nI dy))]) dX12_before_266 6 rfl (nI_add tk 1) (by decide) rfl rfl ?_
                                  refine x_goto C (tgt := 164) dX12_before_269 (by decide) ?_
                                  refine x_lv (lv1 := [(0, .ref (a 0)), (1, .int (nI j34)), (2, .int (nI j45)), (3, .int (nI j56)), (4, .int (nI mc)), (5, .int v178), (6, .int (nI (tk + 1)))]) [2, 3, 4, 5, 6, 1, 0] rfl ?_
                                  exact ih164 v178 (tk + 1) w164 hW166 (by omega) (by omega) ⟨_, k167, lc_step hA106, by have q9 := cnl_upd (m := mc) hb145 hn147; omega⟩
                                · skip
                                  have nf179 := nI_nle' (a := 0) (b := dy) c158 (by omega) (by omega)
                                  refine x_goto C (tgt := 266) dX12_before_228 (by decide) ?_
                                  refine x_iinc C (v := (nI (tk + 1))) (lv' := [(6, .int (nI (tk + 1))), (0, .ref (a 0)), (1, .int (nI j34)), (2, .int (nI j45)), (3, .int (nI j56)), (4, .int (nI mc)), (5, .int z164_5), (7, .int (nI b144)), (8, .int (nI dy))]) dX12_before_266 6 rfl (nI_add tk 1) (by decide) rfl rfl ?_
                                  refine x_goto C (tgt := 164) dX12_before_269 (by decide) ?_
                                  refine x_lv (lv1 := [(0, .ref (a 0)), (1, .int (nI j34)), (2, .int (nI j45)), (3, .int (nI j56)), (4, .int (nI mc)), (5, .int z164_5), (6, .int (nI (tk + 1)))]) [1, 2, 3, 4, 5, 6, 0] rfl ?_
                                  exact ih164 z164_5 (tk + 1) w151 hW153 (by omega) (by omega) ⟨_, k154, lc_step hA106, by have q9 := cnl_upd (m := mc) hb145 hn147; omega⟩
                              · skip
                                have nf180 := nI_nlt' (a := dy) (b := 0) c156 (by omega) (by omega)
                                refine x_aload_n C dX12_before_203 rfl 0 rfl rfl ?_
                                refine x_get C (ci := 11) (k := 44) 0 k155 rfl in_X12 (by decide) w_1162 rfl dX12_before_204 rfl ?_
                                refine x_iload C dX12_before_207 8 rfl rfl ?_
                                obtain ⟨_, k181, f182, rfl⟩ := hW153 28 _ rfl
                                refine x_iald C (v := (f182 (nI dy).toNatClampNeg)) 28 k181 (vp_in_nI (by omega) (by decide)) rfl dX12_before_209 rfl ?_
                                refine x_any (fun v183 => ?_)
                                refine x_iload_n C dX12_before_210 rfl 2 rfl rfl ?_
                                refine x_icmp_ne C (tgt := 223) dX12_before_211 (by decide) rfl (fun c184 => ?_) (fun c184 => ?_)
                                · skip
                                  refine x_iload C dX12_before_223 8 rfl rfl ?_
                                  refine x_if_ge C (tgt := 231) dX12_before_225 (by decide) rfl (fun c185 => ?_) (fun c185 => ?_)
                                  · skip
                                    have nf186 := nI_le' (a := 0) (b := dy) c185 (by omega) (by omega)
                                    refine x_aload_n C dX12_before_231 rfl 0 rfl rfl ?_
                                    refine x_get C (ci := 11) (k := 44) 0 k155 rfl in_X12 (by decide) w_1162 rfl dX12_before_232 rfl ?_
                                    refine x_iload C dX12_before_235 8 rfl rfl ?_
                                    refine x_aload_n C dX12_before_237 rfl 0 rfl rfl ?_
                                    refine x_get C (ci := 11) (k := 44) 0 k155 rfl in_X12 (by decide) w_1162 rfl dX12_before_238 rfl ?_
                                    refine x_iload C dX12_before_241 8 rfl rfl ?_
                                    refine x_iald C (v := (f182 (nI dy).toNatClampNeg)) 28 k181 (vp_in_nI (by omega) (by decide)) rfl dX12_before_243 rfl ?_
                                    refine x_any (fun v187 => ?_)
                                    refine x_iconst C (v := 1) dX12_before_244 (by decide) rfl ?_
                                    refine x_iadd C (v := (v187 + (1 : Int32))) dX12_before_245 rfl rfl ?_
                                    refine x_any (fun v188 => ?_)
                                    obtain ⟨w189, hw190⟩ : ∃ w : va_W, w = List.set w151 28 (iA E (a 28) 40 (upd f182 dy v188)) := ⟨_, rfl⟩
                                    refine x_iask C dy (nI_clamp (by omega)) (nI_pos (by omega)) (by omega) 28 k181 hw190.symm dX12_before_246 rfl ?_
                                    have hW191 : WX (okM E a cd kf jn js jq) w189 := by rw [hw190]; exact hW153.set (k := 28) rfl ⟨_, rfl⟩
                                    have k192 : w189[26]? = some (iA E (a 26) 48 (upd fl104 b144 ((-1) : Int32))) := by rw [hw190]; exact set_ne k154 (by decide)
                                    have k193 : w189[0]? = some (ob (a 0) 11 [.ref (a 1), .ref (a 2), .ref (a 3), .ref (a 4), .int (nI n112), .int (nI n114), .int (nI n116), .int v118, .int v119, .int v120, .int (nI n121), .int (nI n123), .int (nI n125), .int (nI (cd.2.2.2.2.2)), .ref (a 5), .ref (a 6), .ref (a 7), .ref (a 8), .ref (a 9), .ref (a 10), .ref (a 11), .ref (a 12), .ref (a 13), .ref (a 14), .ref (a 15), .ref (a 16), .ref (a 17), .int (nI n127), .ref (a 18), .ref (a 19), .ref (a 20), .ref (a 21), .int v129, .int v130, .int v131, .int v132, .int (nI n133), .int (nI n135), .ref (a 22), .ref (a 23), .ref (a 24), .ref (a 25), .ref (a 26), .ref (a 27), .ref (a 28), .ref (a 29), .ref (a 30), .int kf]) := by rw [hw190]; exact set_ne k155 (by decide)
                                    have k194 : w189[28]? = some (iA E (a 28) 40 (upd f182 dy v188)) := by rw [hw190]; exact set_eq k181
                                    refine x_iload C dX12_before_247 5 rfl rfl ?_
                                    refine x_aload_n C dX12_before_249 rfl 0 rfl rfl ?_
                                    refine x_get C (ci := 11) (k := 0) 0 k193 rfl in_X12 (by decide) w_1118 rfl dX12_before_250 rfl ?_
                                    refine x_iconst C (v := 0) dX12_before_253 (by decide) rfl ?_
                                    refine x_aload_n C dX12_before_254 rfl 0 rfl rfl ?_
                                    refine x_get C (ci := 11) (k := 43) 0 k193 rfl in_X12 (by decide) w_1161 rfl dX12_before_255 rfl ?_
                                    refine x_iload C dX12_before_258 7 rfl rfl ?_
                                    obtain ⟨_, k195, g196, gb197, rfl⟩ := hW191 27 _ rfl
                                    refine x_ialk C (v := nI (g196 b144)) b144 (nI_clamp (by omega)) (nI_pos (by omega)) (by omega) 27 k195 rfl dX12_before_260 rfl ?_
                                    have bx198 := gb197 b144
                                    refine x_iadd C (v := (nI (0 + (g196 b144)))) dX12_before_261 (nI_add 0 (g196 b144)) rfl ?_
                                    obtain ⟨_, k199, f200, pf201, rfl⟩ := hW191 1 _ rfl
                                    refine x_iald C (v := (f200 (nI (0 + (g196 b144))).toNatClampNeg)) 1 k199 (vp_in_nI (by omega) (by decide)) rfl dX12_before_262 rfl ?_
                                    refine x_any (fun v202 => ?_)
                                    refine x_iadd C (v := (z164_5 + v202)) dX12_before_263 rfl rfl ?_
                                    refine x_any (fun v203 => ?_)
                                    refine x_istore C (lv' := [(5, .int v203), (0, .ref (a 0)), (1, .int (nI j34)), (2, .int (nI j45)), (3, .int (nI j56)), (4, .int (nI mc)), (6, .int (nI tk)), (7, .int (nI b144)), (8, .int (nI dy))]) dX12_before_264 (by decide) rfl rfl ?_
                                    refine x_iinc C (v := (nI (tk + 1))) (lv' := [(6, .int (nI (tk + 1))), (5, .int v203), (0, .ref (a 0)), (1, .int (nI j34)), (2, .int (nI j45)), (3, .int (nI j56)), (4, .int (nI mc)), (7, .int (nI b144)), (8, .int (nI dy))]) dX12_before_266 6 rfl (nI_add tk 1) (by decide) rfl rfl ?_
                                    refine x_goto C (tgt := 164) dX12_before_269 (by decide) ?_
                                    refine x_lv (lv1 := [(0, .ref (a 0)), (1, .int (nI j34)), (2, .int (nI j45)), (3, .int (nI j56)), (4, .int (nI mc)), (5, .int v203), (6, .int (nI (tk + 1)))]) [2, 3, 4, 5, 6, 1, 0] rfl ?_
                                    exact ih164 v203 (tk + 1) w189 hW191 (by omega) (by omega) ⟨_, k192, lc_step hA106, by have q9 := cnl_upd (m := mc) hb145 hn147; omega⟩
                                  · skip
                                    have nf204 := nI_nle' (a := 0) (b := dy) c185 (by omega) (by omega)
                                    refine x_goto C (tgt := 266) dX12_before_228 (by decide) ?_
                                    refine x_iinc C (v := (nI (tk + 1))) (lv' := [(6, .int (nI (tk + 1))), (0, .ref (a 0)), (1, .int (nI j34)), (2, .int (nI j45)), (3, .int (nI j56)), (4, .int (nI mc)), (5, .int z164_5), (7, .int (nI b144)), (8, .int (nI dy))]) dX12_before_266 6 rfl (nI_add tk 1) (by decide) rfl rfl ?_
                                    refine x_goto C (tgt := 164) dX12_before_269 (by decide) ?_
                                    refine x_lv (lv1 := [(0, .ref (a 0)), (1, .int (nI j34)), (2, .int (nI j45)), (3, .int (nI j56)), (4, .int (nI mc)), (5, .int z164_5), (6, .int (nI (tk + 1)))]) [1, 2, 3, 4, 5, 6, 0] rfl ?_
                                    exact ih164 z164_5 (tk + 1) w151 hW153 (by omega) (by omega) ⟨_, k154, lc_step hA106, by have q9 := cnl_upd (m := mc) hb145 hn147; omega⟩
                                · skip
                                  refine x_iload C dX12_before_214 8 rfl rfl ?_
                                  refine x_iconst C (v := 1) dX12_before_216 (by decide) rfl ?_
                                  by_cases hz205 : dy = 0
                                  · refine x_isub C (v := -1) dX12_before_217 (by rw [hz205]; decide) rfl ?_
                                    refine x_istore C (lv' := [(8, .int (-1)), (0, .ref (a 0)), (1, .int (nI j34)), (2, .int (nI j45)), (3, .int (nI j56)), (4, .int (nI mc)), (5, .int z164_5), (6, .int (nI tk)), (7, .int (nI b144))]) dX12_before_218 (by decide) rfl rfl ?_
                                    refine x_goto C (tgt := 198) dX12_before_220 (by decide) ?_
                                    refine x_iload C dX12_before_198 0 rfl rfl ?_
                                    refine x_if_lt C (tgt := 223) dX12_before_200 (by decide) rfl (fun _ => ?_) (fun h => absurd h (by decide))
                                    refine x_iload C dX12_before_223 0 rfl rfl ?_
                                    refine x_if_ge C (tgt := 231) dX12_before_225 (by decide) rfl (fun h => absurd h (by decide)) (fun _ => ?_)
                                    refine x_goto C (tgt := 266) dX12_before_228 (by decide) ?_
                                    refine x_iinc C (v := (nI (tk + 1))) (lv' := [(6, .int (nI (tk + 1))), (8, .int (-1)), (0, .ref (a 0)), (1, .int (nI j34)), (2, .int (nI j45)), (3, .int (nI j56)), (4, .int (nI mc)), (5, .int z164_5), (7, .int (nI b144))]) dX12_before_266 7 rfl (nI_add tk 1) (by decide) rfl rfl ?_
                                    refine x_goto C (tgt := 164) dX12_before_269 (by decide) ?_
                                    refine x_lv (lv1 := [(0, .ref (a 0)), (1, .int (nI j34)), (2, .int (nI j45)), (3, .int (nI j56)), (4, .int (nI mc)), (5, .int z164_5), (6, .int (nI (tk + 1)))]) [2, 3, 4, 5, 6, 7, 0] rfl ?_
                                    exact ih164 z164_5 (tk + 1) w151 hW153 (by omega) (by omega) ⟨_, k154, lc_step hA106, by have q9 := cnl_upd (m := mc) hb145 hn147; omega⟩
                                  · refine x_isub C (v := nI (dy - 1)) dX12_before_217 (pk_sub (a := dy) (b := 1) (by omega)) rfl ?_
                                    refine x_istore C (lv' := [(8, .int (nI (dy - 1))), (0, .ref (a 0)), (1, .int (nI j34)), (2, .int (nI j45)), (3, .int (nI j56)), (4, .int (nI mc)), (5, .int z164_5), (6, .int (nI tk)), (7, .int (nI b144))]) dX12_before_218 (by decide) rfl rfl ?_
                                    refine x_goto C (tgt := 198) dX12_before_220 (by decide) ?_
                                    refine x_lv (lv1 := [(0, .ref (a 0)), (1, .int (nI j34)), (2, .int (nI j45)), (3, .int (nI j56)), (4, .int (nI mc)), (5, .int z164_5), (6, .int (nI tk)), (7, .int (nI b144)), (8, .int (nI (dy - 1)))]) [1, 2, 3, 4, 5, 6, 7, 8, 0] rfl ?_
                                    exact ih198 (dy - 1) trivial (by omega) (by omega)
                          refine x_lv (lv1 := [(0, .ref (a 0)), (1, .int (nI j34)), (2, .int (nI j45)), (3, .int (nI j56)), (4, .int (nI mc)), (5, .int z164_5), (6, .int (nI tk)), (7, .int (nI b144)), (8, .int (nI d148))]) [2, 3, 4, 5, 6, 7, 8, 1, 0] rfl ?_
                          exact loop198 _ d148 trivial (Nat.lt_succ_self _) (by omega)
                    refine x_lv (lv1 := [(0, .ref (a 0)), (1, .int (nI j34)), (2, .int (nI j45)), (3, .int (nI j56)), (4, .int (nI mc)), (5, .int 0), (6, .int 0)]) [2, 3, 4, 5, 6, 1, 0] rfl ?_
                    exact loop164 _ (0 : Int32) 0 wl138 hWl138 (Nat.lt_succ_self _) (by omega) (lc_of kl100 hl101)
                  · skip
                    have nf206 := nI_nle' (a := j56) (b := dq) c102 (by omega) (by omega)
                    refine x_aload_n C dX12_before_144 rfl 0 rfl rfl ?_
                    obtain ⟨_, k207, n208, n210, n212, v214, v215, v216, n217, n219, n221, n223, v225, v226, v227, v228, n229, n231, bn209, bn211, bn213, bn218, bn220, bn222, bn224, bn230, bn232, rfl⟩ := hWl138 0 _ rfl
                    refine x_get C (ci := 11) (k := 44) 0 k207 rfl in_X12 (by decide) w_1162 rfl dX12_before_145 rfl ?_
                    refine x_iload C dX12_before_148 5 rfl rfl ?_
                    refine x_iconst C (v := 0) dX12_before_150 (by decide) rfl ?_
                    obtain ⟨_, k233, f234, rfl⟩ := hWl138 28 _ rfl
                    obtain ⟨w235, hw236⟩ : ∃ w : va_W, w = List.set wl138 28 (iA E (a 28) 40 (upd f234 dq (0 : Int32))) := ⟨_, rfl⟩
                    refine x_iask C dq (nI_clamp (by omega)) (nI_pos (by omega)) (by omega) 28 k233 hw236.symm dX12_before_151 rfl ?_
                    have hW237 : WX (okM E a cd kf jn js jq) w235 := by rw [hw236]; exact hWl138.set (k := 28) rfl ⟨_, rfl⟩
                    have k238 : w235[26]? = some (iA E (a 26) 48 fl99) := by rw [hw236]; exact set_ne kl100 (by decide)
                    have k239 : w235[0]? = some (ob (a 0) 11 [.ref (a 1), .ref (a 2), .ref (a 3), .ref (a 4), .int (nI n208), .int (nI n210), .int (nI n212), .int v214, .int v215, .int v216, .int (nI n217), .int (nI n219), .int (nI n221), .int (nI (cd.2.2.2.2.2)), .ref (a 5), .ref (a 6), .ref (a 7), .ref (a 8), .ref (a 9), .ref (a 10), .ref (a 11), .ref (a 12), .ref (a 13), .ref (a 14), .ref (a 15), .ref (a 16), .ref (a 17), .int (nI n223), .ref (a 18), .ref (a 19), .ref (a 20), .ref (a 21), .int v225, .int v226, .int v227, .int v228, .int (nI n229), .int (nI n231), .ref (a 22), .ref (a 23), .ref (a 24), .ref (a 25), .ref (a 26), .ref (a 27), .ref (a 28), .ref (a 29), .ref (a 30), .int kf]) := by rw [hw236]; exact set_ne k207 (by decide)
                    have k240 : w235[28]? = some (iA E (a 28) 40 (upd f234 dq (0 : Int32))) := by rw [hw236]; exact set_eq k233
                    refine x_iinc C (v := (nI (dq + 1))) (lv' := [(5, .int (nI (dq + 1))), (0, .ref (a 0)), (1, .int (nI j34)), (2, .int (nI j45)), (3, .int (nI j56)), (4, .int (nI mc))]) dX12_before_152 5 rfl (nI_add dq 1) (by decide) rfl rfl ?_
                    refine x_goto C (tgt := 138) dX12_before_155 (by decide) ?_
                    refine x_lv (lv1 := [(0, .ref (a 0)), (1, .int (nI j34)), (2, .int (nI j45)), (3, .int (nI j56)), (4, .int (nI mc)), (5, .int (nI (dq + 1)))]) [1, 2, 3, 4, 5, 0] rfl ?_
                    exact ih138 (dq + 1) w235 hW237 (by omega) (by omega) ⟨_, k238, hl101⟩
              refine x_lv (lv1 := [(0, .ref (a 0)), (1, .int (nI j34)), (2, .int (nI j45)), (3, .int (nI j56)), (4, .int (nI mc)), (5, .int 0)]) [1, 2, 3, 4, 5, 0] rfl ?_
              exact loop138 _ 0 wl36 hWl36 (Nat.lt_succ_self _) (by omega) ⟨_, kl63, hl64⟩
            · skip
              have nf241 := nI_nle' (a := n94) (b := i) c97 (by omega) (by omega)
              refine x_aload_n C dX12_before_49 rfl 0 rfl rfl ?_
              refine x_iload C dX12_before_50 5 rfl rfl ?_
              refine x_vi C (As := [.int (nI i)]) (rest := []) (m_isWhole E l a cd hG kf jn js jq wl36 hWl36 ((nI i))) mf_X12_isWhole w_1435 0 k65 rfl rfl rfl (Nat.le_of_ble_eq_true rfl) ⟨(Nat.le_of_ble_eq_true rfl), (Nat.le_of_ble_eq_true rfl)⟩ ⟨(Nat.le_of_ble_eq_true rfl), (Nat.le_of_ble_eq_true rfl)⟩ dX12_before_52 rfl (fun r243 w244 h242 => ?_)
              obtain ⟨hW245, zb246, x247⟩ := h242
              refine x_ws hW245 ?_
              refine x_if_eq C (tgt := 129) dX12_before_55 (by decide) rfl (fun c248 => ?_) (fun c248 => ?_)
              · skip
                refine x_iinc C (v := (nI (i + 1))) (lv' := [(5, .int (nI (i + 1))), (0, .ref (a 0)), (1, .int (nI j34)), (2, .int (nI j45)), (3, .int (nI j56)), (4, .int (nI mc))]) dX12_before_129 5 rfl (nI_add i 1) (by decide) rfl rfl ?_
                refine x_goto C (tgt := 36) dX12_before_132 (by decide) ?_
                refine x_lv (lv1 := [(0, .ref (a 0)), (1, .int (nI j34)), (2, .int (nI j45)), (3, .int (nI j56)), (4, .int (nI mc)), (5, .int (nI (i + 1)))]) [1, 2, 3, 4, 5, 0] rfl ?_
                exact ih36 mc (i + 1) wl36 hWl36 (by omega) (by omega) ⟨_, kl63, hl64⟩
              · skip
                have wi249 := wth_le (a := 0) (b := 47) (j := i) (x247 c248) (by omega) (by decide) (by decide)
                refine x_aload_n C dX12_before_58 rfl 0 rfl rfl ?_
                refine x_get C (ci := 11) (k := 0) 0 k65 rfl in_X12 (by decide) w_1118 rfl dX12_before_59 rfl ?_
                refine x_sipush C (v := 144) dX12_before_62 (by decide) rfl ?_
                refine x_iload C dX12_before_65 5 rfl rfl ?_
                refine x_iadd C (v := (nI (144 + i))) dX12_before_67 (nI_add 144 i) rfl ?_
                obtain ⟨n250, hn251, en252⟩ := NB_own (j := i) pf93 (by omega)
                refine x_ialk C (v := nI n250) (144 + i) (nI_clamp (by omega)) (nI_pos (by omega)) (by omega) 1 k91 en252 dX12_before_68 rfl ?_
                refine x_iload_n C dX12_before_69 rfl 1 rfl rfl ?_
                refine x_icmp_eq C (tgt := 76) dX12_before_70 (by decide) rfl (fun c253 => ?_) (fun c253 => ?_)
                · skip
                  have nf254 : n250 = j34 := (nI_eq (by omega) (by omega)).mp c253
                  refine x_aload_n C dX12_before_76 rfl 0 rfl rfl ?_
                  refine x_get C (ci := 11) (k := 43) 0 k65 rfl in_X12 (by decide) w_1161 rfl dX12_before_77 rfl ?_
                  refine x_iload C dX12_before_80 4 rfl rfl ?_
                  refine x_iload C dX12_before_82 5 rfl rfl ?_
                  obtain ⟨_, k255, g256, gb257, rfl⟩ := hWl36 27 _ rfl
                  have gb258 := updn_le (i := mc) (v := i) gb257 (by omega)
                  obtain ⟨w259, hw260⟩ : ∃ w : va_W, w = List.set wl36 27 (iA E (a 27) 48 (upd (fun j => nI (g256 j)) mc (nI i))) := ⟨_, rfl⟩
                  refine x_iask C mc (nI_clamp (by omega)) (nI_pos (by omega)) (by omega) 27 k255 hw260.symm dX12_before_84 rfl ?_
                  have hW261 : WX (okM E a cd kf jn js jq) w259 := by rw [hw260]; exact hWl36.set (k := 27) rfl ⟨_, gb258, iA_n (upd_nI g256 mc i)⟩
                  have k262 : w259[26]? = some (iA E (a 26) 48 fl62) := by rw [hw260]; exact set_ne kl63 (by decide)
                  have k263 : w259[0]? = some (ob (a 0) 11 [.ref (a 1), .ref (a 2), .ref (a 3), .ref (a 4), .int (nI n66), .int (nI n68), .int (nI n70), .int v72, .int v73, .int v74, .int (nI n75), .int (nI n77), .int (nI n79), .int (nI (cd.2.2.2.2.2)), .ref (a 5), .ref (a 6), .ref (a 7), .ref (a 8), .ref (a 9), .ref (a 10), .ref (a 11), .ref (a 12), .ref (a 13), .ref (a 14), .ref (a 15), .ref (a 16), .ref (a 17), .int (nI n81), .ref (a 18), .ref (a 19), .ref (a 20), .ref (a 21), .int v83, .int v84, .int v85, .int v86, .int (nI n87), .int (nI n89), .ref (a 22), .ref (a 23), .ref (a 24), .ref (a 25), .ref (a 26), .ref (a 27), .ref (a 28), .ref (a 29), .ref (a 30), .int kf]) := by rw [hw260]; exact set_ne k65 (by decide)
                  have k264 : w259[1]? = some (iA E (a 1) 382 f92) := by rw [hw260]; exact set_ne k91 (by decide)
                  have k265 : w259[27]? = some (iA E (a 27) 48 (upd (fun j => nI (g256 j)) mc (nI i))) := by rw [hw260]; exact set_eq k255
                  have k266 : w259[27]? = some (iA E (a 27) 48 (fun j => nI ((updn g256 mc i) j))) := by rw [← upd_nI]; exact k265
                  refine x_aload_n C dX12_before_85 rfl 0 rfl rfl ?_
                  refine x_get C (ci := 11) (k := 42) 0 k263 rfl in_X12 (by decide) w_1160 rfl dX12_before_86 rfl ?_
                  refine x_iload C dX12_before_89 4 rfl rfl ?_
                  refine x_iload_n C dX12_before_91 rfl 3 rfl rfl ?_
                  refine x_aload_n C dX12_before_92 rfl 0 rfl rfl ?_
                  refine x_iload C dX12_before_93 5 rfl rfl ?_
                  refine x_vi C (As := [.int (nI i)]) (rest := [.int (nI j56), .int (nI mc), .ref (a 26)]) (m_badOn E l a cd hG kf jn js jq w259 hW261 i (by omega)) mf_X12_badOn w_1534 0 k263 rfl rfl rfl (Nat.le_of_ble_eq_true rfl) ⟨(Nat.le_of_ble_eq_true rfl), (Nat.le_of_ble_eq_true rfl)⟩ ⟨(Nat.le_of_ble_eq_true rfl), (Nat.le_of_ble_eq_true rfl)⟩ dX12_before_95 rfl (fun r268 w269 h267 => ?_)
                  obtain ⟨hW270, kq271, x272⟩ := h267
                  have k273 : w269[26]? = some (iA E (a 26) 48 fl62) := keeps_at kq271 k262 (by first | decide | omega | (dsimp only; omega))
                  have k274 : w269[0]? = some (ob (a 0) 11 [.ref (a 1), .ref (a 2), .ref (a 3), .ref (a 4), .int (nI n66), .int (nI n68), .int (nI n70), .int v72, .int v73, .int v74, .int (nI n75), .int (nI n77), .int (nI n79), .int (nI (cd.2.2.2.2.2)), .ref (a 5), .ref (a 6), .ref (a 7), .ref (a 8), .ref (a 9), .ref (a 10), .ref (a 11), .ref (a 12), .ref (a 13), .ref (a 14), .ref (a 15), .ref (a 16), .ref (a 17), .int (nI n81), .ref (a 18), .ref (a 19), .ref (a 20), .ref (a 21), .int v83, .int v84, .int v85, .int v86, .int (nI n87), .int (nI n89), .ref (a 22), .ref (a 23), .ref (a 24), .ref (a 25), .ref (a 26), .ref (a 27), .ref (a 28), .ref (a 29), .ref (a 30), .int kf]) := keeps_at kq271 k263 (by first | decide | omega | (dsimp only; omega))
                  have k275 : w269[1]? = some (iA E (a 1) 382 f92) := keeps_at kq271 k264 (by first | decide | omega | (dsimp only; omega))
                  have k276 : w269[27]? = some (iA E (a 27) 48 (fun j => nI ((updn g256 mc i) j))) := keeps_at kq271 k266 (by first | decide | omega | (dsimp only; omega))
                  rcases x272 with e277 | ⟨n278, hn279, en280⟩
                  · refine x_top (v := nI 1000000000) (e277.trans (by decide)) ?_
                    refine x_aload_n C dX12_before_98 rfl 0 rfl rfl ?_
                    refine x_get C (ci := 11) (k := 0) 0 k274 rfl in_X12 (by decide) w_1118 rfl dX12_before_99 rfl ?_
                    refine x_sipush C (v := 379) dX12_before_102 (by decide) rfl ?_
                    obtain ⟨n281, hn282, en283⟩ := NB_day pf93
                    refine x_ialk C (v := nI n281) 379 (by decide) (by decide) (by decide) 1 k275 en283 dX12_before_105 rfl ?_
                    refine x_isub C (v := ((nI 1000000000) - (nI n281))) dX12_before_106 rfl rfl ?_
                    refine x_si C (As := [.int (nI j56), .int ((nI 1000000000) - (nI n281))]) (rest := [.int (nI mc), .ref (a 26)]) (m_minX E l a cd hG kf jn js jq w269 hW270 ((nI j56)) (((nI 1000000000) - (nI n281)))) mf_X12_min w_1479 rfl rfl (Nat.le_of_ble_eq_true rfl) ⟨(Nat.le_of_ble_eq_true rfl), (Nat.le_of_ble_eq_true rfl)⟩ ⟨(Nat.le_of_ble_eq_true rfl), (Nat.le_of_ble_eq_true rfl)⟩ dX12_before_107 rfl (fun r285 w286 h284 => ?_)
                    obtain ⟨hW287, x288⟩ := h284
                    refine x_ws hW287 ?_
                    refine x_iconst C (v := 1) dX12_before_110 (by decide) rfl ?_
                    refine x_isub C (v := (r285 - (1 : Int32))) dX12_before_111 rfl rfl ?_
                    obtain ⟨v289, hv290, ev291⟩ : ∃ v : Int32, (-20000 ≤ v.toInt ∧ v.toInt ≤ 39) ∧ (r285 - (1 : Int32)) = v := ⟨_, lo_ld x288 (by omega) (by omega) (by omega), rfl⟩
                    refine x_top ev291 ?_
                    obtain ⟨w292, hw293⟩ : ∃ w : va_W, w = List.set w269 26 (iA E (a 26) 48 (upd fl62 mc v289)) := ⟨_, rfl⟩
                    refine x_iask C mc (nI_clamp (by omega)) (nI_pos (by omega)) (by omega) 26 k273 hw293.symm dX12_before_112 rfl ?_
                    have hW294 : WX (okM E a cd kf jn js jq) w292 := by rw [hw293]; exact hW270.set (k := 26) rfl ⟨_, rfl⟩
                    have k295 : w292[26]? = some (iA E (a 26) 48 (upd fl62 mc v289)) := by rw [hw293]; exact set_eq k273
                    have k296 : w292[0]? = some (ob (a 0) 11 [.ref (a 1), .ref (a 2), .ref (a 3), .ref (a 4), .int (nI n66), .int (nI n68), .int (nI n70), .int v72, .int v73, .int v74, .int (nI n75), .int (nI n77), .int (nI n79), .int (nI (cd.2.2.2.2.2)), .ref (a 5), .ref (a 6), .ref (a 7), .ref (a 8), .ref (a 9), .ref (a 10), .ref (a 11), .ref (a 12), .ref (a 13), .ref (a 14), .ref (a 15), .ref (a 16), .ref (a 17), .int (nI n81), .ref (a 18), .ref (a 19), .ref (a 20), .ref (a 21), .int v83, .int v84, .int v85, .int v86, .int (nI n87), .int (nI n89), .ref (a 22), .ref (a 23), .ref (a 24), .ref (a 25), .ref (a 26), .ref (a 27), .ref (a 28), .ref (a 29), .ref (a 30), .int kf]) := by rw [hw293]; exact set_ne k274 (by decide)
                    have k297 : w292[1]? = some (iA E (a 1) 382 f92) := by rw [hw293]; exact set_ne k275 (by decide)
                    have k298 : w292[27]? = some (iA E (a 27) 48 (fun j => nI ((updn g256 mc i) j))) := by rw [hw293]; exact set_ne k276 (by decide)
                    refine x_aload_n C dX12_before_113 rfl 0 rfl rfl ?_
                    refine x_get C (ci := 11) (k := 42) 0 k296 rfl in_X12 (by decide) w_1160 rfl dX12_before_114 rfl ?_
                    refine x_iload C dX12_before_117 4 rfl rfl ?_
                    refine x_ialk C (v := ((upd fl62 mc v289) mc)) mc (nI_clamp (by omega)) (nI_pos (by omega)) (by omega) 26 k295 rfl dX12_before_119 rfl ?_
                    refine x_top pk_us ?_
                    refine x_if_lt C (tgt := 129) dX12_before_120 (by decide) rfl (fun c299 => ?_) (fun c299 => ?_)
                    · skip
                      refine x_iinc C (v := (nI (i + 1))) (lv' := [(5, .int (nI (i + 1))), (0, .ref (a 0)), (1, .int (nI j34)), (2, .int (nI j45)), (3, .int (nI j56)), (4, .int (nI mc))]) dX12_before_129 5 rfl (nI_add i 1) (by decide) rfl rfl ?_
                      refine x_goto C (tgt := 36) dX12_before_132 (by decide) ?_
                      refine x_lv (lv1 := [(0, .ref (a 0)), (1, .int (nI j34)), (2, .int (nI j45)), (3, .int (nI j56)), (4, .int (nI mc)), (5, .int (nI (i + 1)))]) [1, 2, 3, 4, 5, 0] rfl ?_
                      exact ih36 mc (i + 1) w292 hW294 (by omega) (by omega) ⟨_, k295, lD_keep hl64⟩
                    · skip
                      obtain ⟨j300, hj301, ej302⟩ := nI_of c299
                      subst ej302
                      refine x_iload C dX12_before_123 4 rfl rfl ?_
                      refine x_iconst C (v := 1) dX12_before_125 (by decide) rfl ?_
                      refine x_iadd C (v := (nI (mc + 1))) dX12_before_126 (nI_add mc 1) rfl ?_
                      refine x_istore C (lv' := [(4, .int (nI (mc + 1))), (0, .ref (a 0)), (1, .int (nI j34)), (2, .int (nI j45)), (3, .int (nI j56)), (5, .int (nI i))]) dX12_before_127 (by decide) rfl rfl ?_
                      refine x_iinc C (v := (nI (i + 1))) (lv' := [(5, .int (nI (i + 1))), (4, .int (nI (mc + 1))), (0, .ref (a 0)), (1, .int (nI j34)), (2, .int (nI j45)), (3, .int (nI j56))]) dX12_before_129 5 rfl (nI_add i 1) (by decide) rfl rfl ?_
                      refine x_goto C (tgt := 36) dX12_before_132 (by decide) ?_
                      refine x_lv (lv1 := [(0, .ref (a 0)), (1, .int (nI j34)), (2, .int (nI j45)), (3, .int (nI j56)), (4, .int (nI (mc + 1))), (5, .int (nI (i + 1)))]) [2, 3, 4, 5, 1, 0] rfl ?_
                      exact ih36 (mc + 1) (i + 1) w292 hW294 (by omega) (by omega) ⟨_, k295, lD_step hl64 (ld_nat hv290 (by omega))⟩
                  · refine x_top en280 ?_
                    refine x_aload_n C dX12_before_98 rfl 0 rfl rfl ?_
                    refine x_get C (ci := 11) (k := 0) 0 k274 rfl in_X12 (by decide) w_1118 rfl dX12_before_99 rfl ?_
                    refine x_sipush C (v := 379) dX12_before_102 (by decide) rfl ?_
                    obtain ⟨n303, hn304, en305⟩ := NB_day pf93
                    refine x_ialk C (v := nI n303) 379 (by decide) (by decide) (by decide) 1 k275 en305 dX12_before_105 rfl ?_
                    refine x_isub C (v := ((nI n278) - (nI n303))) dX12_before_106 rfl rfl ?_
                    refine x_si C (As := [.int (nI j56), .int ((nI n278) - (nI n303))]) (rest := [.int (nI mc), .ref (a 26)]) (m_minX E l a cd hG kf jn js jq w269 hW270 ((nI j56)) (((nI n278) - (nI n303)))) mf_X12_min w_1479 rfl rfl (Nat.le_of_ble_eq_true rfl) ⟨(Nat.le_of_ble_eq_true rfl), (Nat.le_of_ble_eq_true rfl)⟩ ⟨(Nat.le_of_ble_eq_true rfl), (Nat.le_of_ble_eq_true rfl)⟩ dX12_before_107 rfl (fun r307 w308 h306 => ?_)
                    obtain ⟨hW309, x310⟩ := h306
                    refine x_ws hW309 ?_
                    refine x_iconst C (v := 1) dX12_before_110 (by decide) rfl ?_
                    refine x_isub C (v := (r307 - (1 : Int32))) dX12_before_111 rfl rfl ?_
                    obtain ⟨v311, hv312, ev313⟩ : ∃ v : Int32, (-20000 ≤ v.toInt ∧ v.toInt ≤ 39) ∧ (r307 - (1 : Int32)) = v := ⟨_, lo_ld x310 (by omega) (by omega) (by omega), rfl⟩
                    refine x_top ev313 ?_
                    obtain ⟨w314, hw315⟩ : ∃ w : va_W, w = List.set w269 26 (iA E (a 26) 48 (upd fl62 mc v311)) := ⟨_, rfl⟩
                    refine x_iask C mc (nI_clamp (by omega)) (nI_pos (by omega)) (by omega) 26 k273 hw315.symm dX12_before_112 rfl ?_
                    have hW316 : WX (okM E a cd kf jn js jq) w314 := by rw [hw315]; exact hW270.set (k := 26) rfl ⟨_, rfl⟩
                    have k317 : w314[26]? = some (iA E (a 26) 48 (upd fl62 mc v311)) := by rw [hw315]; exact set_eq k273
                    have k318 : w314[0]? = some (ob (a 0) 11 [.ref (a 1), .ref (a 2), .ref (a 3), .ref (a 4), .int (nI n66), .int (nI n68), .int (nI n70), .int v72, .int v73, .int v74, .int (nI n75), .int (nI n77), .int (nI n79), .int (nI (cd.2.2.2.2.2)), .ref (a 5), .ref (a 6), .ref (a 7), .ref (a 8), .ref (a 9), .ref (a 10), .ref (a 11), .ref (a 12), .ref (a 13), .ref (a 14), .ref (a 15), .ref (a 16), .ref (a 17), .int (nI n81), .ref (a 18), .ref (a 19), .ref (a 20), .ref (a 21), .int v83, .int v84, .int v85, .int v86, .int (nI n87), .int (nI n89), .ref (a 22), .ref (a 23), .ref (a 24), .ref (a 25), .ref (a 26), .ref (a 27), .ref (a 28), .ref (a 29), .ref (a 30), .int kf]) := by rw [hw315]; exact set_ne k274 (by decide)
                    have k319 : w314[1]? = some (iA E (a 1) 382 f92) := by rw [hw315]; exact set_ne k275 (by decide)
                    have k320 : w314[27]? = some (iA E (a 27) 48 (fun j => nI ((updn g256 mc i) j))) := by rw [hw315]; exact set_ne k276 (by decide)
                    refine x_aload_n C dX12_before_113 rfl 0 rfl rfl ?_
                    refine x_get C (ci := 11) (k := 42) 0 k318 rfl in_X12 (by decide) w_1160 rfl dX12_before_114 rfl ?_
                    refine x_iload C dX12_before_117 4 rfl rfl ?_
                    refine x_ialk C (v := ((upd fl62 mc v311) mc)) mc (nI_clamp (by omega)) (nI_pos (by omega)) (by omega) 26 k317 rfl dX12_before_119 rfl ?_
                    refine x_top pk_us ?_
                    refine x_if_lt C (tgt := 129) dX12_before_120 (by decide) rfl (fun c321 => ?_) (fun c321 => ?_)
                    · skip
                      refine x_iinc C (v := (nI (i + 1))) (lv' := [(5, .int (nI (i + 1))), (0, .ref (a 0)), (1, .int (nI j34)), (2, .int (nI j45)), (3, .int (nI j56)), (4, .int (nI mc))]) dX12_before_129 5 rfl (nI_add i 1) (by decide) rfl rfl ?_
                      refine x_goto C (tgt := 36) dX12_before_132 (by decide) ?_
                      refine x_lv (lv1 := [(0, .ref (a 0)), (1, .int (nI j34)), (2, .int (nI j45)), (3, .int (nI j56)), (4, .int (nI mc)), (5, .int (nI (i + 1)))]) [1, 2, 3, 4, 5, 0] rfl ?_
                      exact ih36 mc (i + 1) w314 hW316 (by omega) (by omega) ⟨_, k317, lD_keep hl64⟩
                    · skip
                      obtain ⟨j322, hj323, ej324⟩ := nI_of c321
                      subst ej324
                      refine x_iload C dX12_before_123 4 rfl rfl ?_
                      refine x_iconst C (v := 1) dX12_before_125 (by decide) rfl ?_
                      refine x_iadd C (v := (nI (mc + 1))) dX12_before_126 (nI_add mc 1) rfl ?_
                      refine x_istore C (lv' := [(4, .int (nI (mc + 1))), (0, .ref (a 0)), (1, .int (nI j34)), (2, .int (nI j45)), (3, .int (nI j56)), (5, .int (nI i))]) dX12_before_127 (by decide) rfl rfl ?_
                      refine x_iinc C (v := (nI (i + 1))) (lv' := [(5, .int (nI (i + 1))), (4, .int (nI (mc + 1))), (0, .ref (a 0)), (1, .int (nI j34)), (2, .int (nI j45)), (3, .int (nI j56))]) dX12_before_129 5 rfl (nI_add i 1) (by decide) rfl rfl ?_
                      refine x_goto C (tgt := 36) dX12_before_132 (by decide) ?_
                      refine x_lv (lv1 := [(0, .ref (a 0)), (1, .int (nI j34)), (2, .int (nI j45)), (3, .int (nI j56)), (4, .int (nI (mc + 1))), (5, .int (nI (i + 1)))]) [2, 3, 4, 5, 1, 0] rfl ?_
                      exact ih36 (mc + 1) (i + 1) w314 hW316 (by omega) (by omega) ⟨_, k317, lD_step hl64 (ld_nat hv312 (by omega))⟩
                · skip
                  have nf325 : ¬ n250 = j34 := fun q => c253 (congrArg nI q)
                  refine x_goto C (tgt := 129) dX12_before_73 (by decide) ?_
                  refine x_iinc C (v := (nI (i + 1))) (lv' := [(5, .int (nI (i + 1))), (0, .ref (a 0)), (1, .int (nI j34)), (2, .int (nI j45)), (3, .int (nI j56)), (4, .int (nI mc))]) dX12_before_129 5 rfl (nI_add i 1) (by decide) rfl rfl ?_
                  refine x_goto C (tgt := 36) dX12_before_132 (by decide) ?_
                  refine x_lv (lv1 := [(0, .ref (a 0)), (1, .int (nI j34)), (2, .int (nI j45)), (3, .int (nI j56)), (4, .int (nI mc)), (5, .int (nI (i + 1)))]) [1, 2, 3, 4, 5, 0] rfl ?_
                  exact ih36 mc (i + 1) wl36 hWl36 (by omega) (by omega) ⟨_, kl63, hl64⟩
        refine x_lv (lv1 := [(0, .ref (a 0)), (1, .int (nI j34)), (2, .int (nI j45)), (3, .int (nI j56)), (4, .int 0), (5, .int 0)]) [2, 3, 4, 5, 1, 0] rfl ?_
        exact loop36 _ 0 0 ws hW (Nat.lt_succ_self _) (by omega) ⟨_, k60, lD_z⟩
      · skip
        refine x_iconst C (v := (-1)) dX12_before_28 (by decide) rfl ?_
        exact x_zret C hr hlk rfl dX12_before_29 hW

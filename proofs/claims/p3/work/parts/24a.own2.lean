section XAB
variable {E : xE} {p : Program} {l : Launch} {e : Env} {R : Room} {s : State} {m : MethodId} {args : Array Value} {below : List Frame} {meth : Method} {c : Code} {A : Nat → Prop} {cc : ByteArray} {nL : Nat} {own : String} {cells slots : Nat} {Q : State → Prop} {ws : va_W} {pc pc' : Nat} {lv : List (Nat × Value)} {st : List Value}
theorem x_mabs (C : xC E p s m args c A cc nL own) {idx : Nat} {x v : Int32} (hl : Cond.methodLink own idx Lib.Math.abs.name ∈ gT) (hst : Cond.static Lib.Math.abs.name ∈ gT) (hini : Cond.initialized "java/lang/Math" ∈ gT) (hco : Cond.code Lib.Math.abs.name Lib.Math.abs.code 1 (some .int) ∈ gT) (hfr : 1 ≤ R.frames) (hlo : (st.map fun v => v.category).sum + 13 ≤ R.locals) (hc : cells ≤ R.cells) (hs : slots ≤ R.slots) (hv : (if 0 ≤ x then x else 0 - x) = v) (hd : decode cc pc = .ok (.invokestatic idx, 3)) (hp : pc + 3 = pc') (kk : X E p l e R s m args below meth c A nL cells slots Q ws pc' lv (.int v :: st)) : X E p l e R s m args below meth c A nL cells slots Q ws pc lv (.int x :: st) := by
  subst hp; subst hv
  exact fun H locs ls hP hD hS hl' => va_mabs C.1 C.2.1 (by rw [C.2.2.1]; exact hl'.1.symm) C.2.2.2.1 (C.2.2.2.2.1 _ hl) (C.2.2.2.2.1 _ hst) (C.2.2.2.2.1 _ hini) (C.2.2.2.2.1 _ hco) hfr hlo hc hs hd (kk H locs ls hP hD hS hl')
end XAB
def HB (E : xE) : Prop := ∀ j : Nat, j ≤ 5 → ∃ n : Nat, n ≤ 999 ∧ E.2.2.2.2.1 j = nI n
theorem clampB (n : Nat) (hn : n ≤ 999) (v : Int32) : ∃ z : Nat, z ≤ 999 ∧ (if (0 : Int32) < (if v < nI n then v else nI n) then (if v < nI n then v else nI n) else (0 : Int32)) = nI z := by
  by_cases h : v < nI n
  · rw [if_pos h]
    by_cases h2 : (0 : Int32) < v
    · rw [if_pos h2]
      obtain ⟨j, hj, e⟩ := nI_of (Int32.not_lt.mpr (Int32.le_of_lt h2))
      subst e
      have := nI_lt' h (by omega) (by omega)
      exact ⟨j, by omega, rfl⟩
    · rw [if_neg h2]; exact ⟨0, by omega, rfl⟩
  · rw [if_neg h]
    by_cases h2 : (0 : Int32) < nI n
    · rw [if_pos h2]; exact ⟨n, hn, rfl⟩
    · rw [if_neg h2]; exact ⟨0, by omega, rfl⟩
def hK (E : xE) (a : Nat → Nat) (w : va_W) (n : Nat) : Prop := ∃ f : Nat → Int32, w[105]? = some (iA E (a 105) 48 f) ∧ ∀ j : Nat, j < n → ∃ i : Nat, i ≤ 47 ∧ f j = nI i
theorem hK_z {E : xE} {a : Nat → Nat} {w : va_W} {f : Nat → Int32} (h : w[105]? = some (iA E (a 105) 48 f)) : hK E a w 0 := ⟨f, h, fun j hj => absurd hj (by omega)⟩
theorem hK_set {E : xE} {a : Nat → Nat} {w : va_W} {f : Nat → Int32} {n i : Nat} (h2 : ∀ j : Nat, j < n → ∃ i : Nat, i ≤ 47 ∧ f j = nI i) (h : w[105]? = some (iA E (a 105) 48 (upd f (nI n).toNatClampNeg (nI i)))) (hn : n < 2 ^ 31) (hi : i ≤ 47) : hK E a w (n + 1) := by
  refine ⟨_, h, fun j hj => ?_⟩
  rw [nI_clamp hn]
  by_cases e : j = n
  · subst e
    exact ⟨i, hi, by rw [pk_us]⟩
  · rw [pk_un e]; exact h2 j (by omega)
def lK (E : xE) (a : Nat → Nat) (w : va_W) (n : Nat) : Prop := ∃ f : Nat → Int32, w[106]? = some (iA E (a 106) 48 f) ∧ ∀ j : Nat, j < n → -20000 ≤ (f j).toInt
theorem lK_z {E : xE} {a : Nat → Nat} {w : va_W} {f : Nat → Int32} (h : w[106]? = some (iA E (a 106) 48 f)) : lK E a w 0 := ⟨f, h, fun j hj => absurd hj (by omega)⟩
theorem lK_set {E : xE} {a : Nat → Nat} {w : va_W} {f : Nat → Int32} {n : Nat} {v : Int32} (h2 : ∀ j : Nat, j < n → -20000 ≤ (f j).toInt) (h : w[106]? = some (iA E (a 106) 48 (upd f (nI n).toNatClampNeg v))) (hn : n < 2 ^ 31) (hv : -20000 ≤ v.toInt) : lK E a w (n + 1) := by
  refine ⟨_, h, fun j hj => ?_⟩
  rw [nI_clamp hn]
  by_cases e : j = n
  · subst e
    rw [pk_us]; exact hv
  · rw [pk_un e]; exact h2 j (by omega)
theorem lo_n {n : Nat} (h : n < 2 ^ 31) : -20000 ≤ (nI n).toInt := by rw [nI_toInt h]; omega
theorem bmod_lo {x : Int} (h : -40000 ≤ x) (h2 : x ≤ 40000) : x.bmod (2 ^ 32) = x := by
  rw [Int.bmod_def]; omega
theorem lo_min {n b d : Nat} (hn : n ≤ 40) (hb : b ≤ 12000) (hd : d ≤ 9999) : -20000 ≤ (if (nI b - nI d) < nI n then (nI b - nI d) else nI n).toInt := by
  split
  · rw [Int32.toInt_sub, nI_toInt (by omega), nI_toInt (by omega), bmod_lo (x := (b : Int) - (d : Int)) (by omega) (by omega)]; omega
  · exact lo_n (by omega)
theorem lo_dec {p : Int32} (h : -20000 ≤ p.toInt) (h2 : p < 1) : p - 1 < 0 := by
  rw [Int32.lt_iff_toInt_lt] at h2 ⊢
  have e1 : (1 : Int32).toInt = 1 := by decide
  have e0 : (0 : Int32).toInt = 0 := by decide
  rw [e1] at h2
  rw [Int32.toInt_sub, e1, e0, bmod_lo (x := p.toInt - 1) (by omega) (by omega)]; omega
theorem nz {j : Nat} (h : 1 ≤ j) (h2 : j < 2 ^ 31) : ¬ nI j = 0 := fun q => by
  have := (nI_eq (b := 0) h2 (by omega)).mp q
  omega
theorem bc5_tab : (List.range 32).all (fun i => (List.range 6).any (fun k => decide (bc (nI i) = nI k))) = true := by decide +kernel
theorem bc_five {i : Nat} (h : i < 32) : ∃ k : Nat, k ≤ 5 ∧ bc (nI i) = nI k := by
  have q := List.all_eq_true.mp bc5_tab i (List.mem_range.mpr h)
  obtain ⟨k, hk, e⟩ := List.any_eq_true.mp q
  have hk2 := List.mem_range.mp hk
  exact ⟨k, by omega, of_decide_eq_true e⟩
theorem sh5_tab : (List.range 6).all (fun n => decide ((1 : Int32) <<< ((nI n) &&& 31) = nI (2 ^ n)) && (decide (1 ≤ 2 ^ n) && decide (2 ^ n ≤ 32))) = true := by decide +kernel
theorem sh_five {n : Nat} (h : n ≤ 5) : ∃ z : Nat, (1 ≤ z ∧ z ≤ 32) ∧ (1 : Int32) <<< ((nI n) &&& 31) = nI z := by
  have q := List.all_eq_true.mp sh5_tab n (List.mem_range.mpr (by omega))
  obtain ⟨q1, q2⟩ := (Bool.and_eq_true _ _).mp q
  obtain ⟨q2, q3⟩ := (Bool.and_eq_true _ _).mp q2
  exact ⟨2 ^ n, ⟨of_decide_eq_true q2, of_decide_eq_true q3⟩, of_decide_eq_true q1⟩
set_option maxRecDepth 20000 in
set_option maxHeartbeats 4000000 in
theorem c_askB (E : xE) (l : Launch) (a : Nat → Nat) (ws : va_W) (hW : WX (okX E a) ws) (wh : Nat) (hB : HB E) (hwh : wh ≤ 5) : xI E l yX3_ask cX3_ask 3 (some .int) 2 [.ref (a 71), .int (nI wh)] ws (fun r w => WX (okX E a) w ∧ keeps ws w (fun q => 71 ≤ q ∧ q < 79) ∧ (∃ rn : Nat, rn ≤ 999 ∧ r = nI rn)) := by
  refine xI_start (lv := [(0, .ref (a 71)), (1, .int (nI wh))]) RX3 (by decide) rfl (Nat.le_of_ble_eq_true rfl) rfl (fun p e s m below meth c A C hr hlk => ?_)
  have kp0 : keeps ws ws (fun q => 71 ≤ q ∧ q < 79) := keeps_rf
  refine x_iconst C (v := 0) dX3_ask_0 (by decide) rfl ?_
  refine x_istore_n C (lv' := [(2, .int 0), (0, .ref (a 71)), (1, .int (nI wh))]) dX3_ask_1 rfl (by decide) rfl rfl ?_
  have loop2 : ∀ (fu2 : Nat) (k : Nat) (wl2 : va_W), WX (okX E a) wl2 → 16 - k < fu2 → k ≤ 16 → keeps ws wl2 (fun q => 71 ≤ q ∧ q < 79) → X E p l e (xRm 2 0 0) s m ([.ref (a 71), .int (nI wh)] : List Value).toArray below meth c A 3 0 0 (MQ below (va_Qi (fun r w => WX (okX E a) w ∧ keeps ws w (fun q => 71 ≤ q ∧ q < 79) ∧ (∃ rn : Nat, rn ≤ 999 ∧ r = nI rn)) (xB E A) A) ([.ref (a 71), .int (nI wh)] : List Value).toArray s 0 0 A) wl2 2 [(0, .ref (a 71)), (1, .int (nI wh)), (2, .int (nI k))] [] := by
    intro fu2
    induction fu2 with
    | zero => intro k wl2 _ q; omega
    | succ fu2 ih2 =>
      intro k wl2 hWl2 me2 iv2_0 kq2
      refine x_iload_n C dX3_ask_2 rfl 2 rfl rfl ?_
      refine x_aload_n C dX3_ask_3 rfl 0 rfl rfl ?_
      obtain ⟨_, k1, v2, n3, n5, bn4, bn6, rfl⟩ := hWl2 71 _ rfl
      refine x_get C (ci := 3) (k := 0) 71 k1 rfl in_X3 (by decide) w_250 rfl dX3_ask_4 rfl ?_
      refine x_icmp_ge C (tgt := 80) dX3_ask_7 (by decide) rfl (fun c7 => ?_) (fun c7 => ?_)
      · skip
        refine x_iconst C (v := 0) dX3_ask_80 (by decide) rfl ?_
        exact x_zret C hr hlk rfl dX3_ask_81 ⟨hWl2, kq2, ⟨0, by omega, rfl⟩⟩
      · skip
        refine x_iload_n C dX3_ask_10 rfl 2 rfl rfl ?_
        refine x_bipush C (v := 16) dX3_ask_11 (by decide) rfl ?_
        refine x_icmp_ge C (tgt := 80) dX3_ask_13 (by decide) rfl (fun c8 => ?_) (fun c8 => ?_)
        · skip
          have nf9 := nI_le' (a := 16) (b := k) c8 (by omega) (by omega)
          refine x_iconst C (v := 0) dX3_ask_80 (by decide) rfl ?_
          exact x_zret C hr hlk rfl dX3_ask_81 ⟨hWl2, kq2, ⟨0, by omega, rfl⟩⟩
        · skip
          have nf10 := nI_nle' (a := 16) (b := k) c8 (by omega) (by omega)
          refine x_aload_n C dX3_ask_16 rfl 0 rfl rfl ?_
          refine x_get C (ci := 3) (k := 1) 71 k1 rfl in_X3 (by decide) w_253 rfl dX3_ask_17 rfl ?_
          refine x_iload_n C dX3_ask_20 rfl 2 rfl rfl ?_
          obtain ⟨_, k11, f12, rfl⟩ := hWl2 72 _ rfl
          refine x_iald C (v := (f12 (nI k).toNatClampNeg)) 72 k11 (vp_in_nI (by omega) (by decide)) rfl dX3_ask_21 rfl ?_
          refine x_any (fun v13 => ?_)
          refine x_iload_n C dX3_ask_22 rfl 1 rfl rfl ?_
          refine x_icmp_ne C (tgt := 74) dX3_ask_23 (by decide) rfl (fun c14 => ?_) (fun c14 => ?_)
          · skip
            refine x_iinc C (v := (nI (k + 1))) (lv' := [(2, .int (nI (k + 1))), (0, .ref (a 71)), (1, .int (nI wh))]) dX3_ask_74 2 rfl (nI_add k 1) (by decide) rfl rfl ?_
            refine x_goto C (tgt := 2) dX3_ask_77 (by decide) ?_
            refine x_lv (lv1 := [(0, .ref (a 71)), (1, .int (nI wh)), (2, .int (nI (k + 1)))]) [1, 2, 0] rfl ?_
            exact ih2 (k + 1) wl2 hWl2 (by omega) (by omega) kq2
          · skip
            refine x_aload_n C dX3_ask_26 rfl 0 rfl rfl ?_
            refine x_aload_n C dX3_ask_27 rfl 0 rfl rfl ?_
            refine x_get C (ci := 3) (k := 3) 71 k1 rfl in_X3 (by decide) w_257 rfl dX3_ask_28 rfl ?_
            refine x_iload_n C dX3_ask_31 rfl 2 rfl rfl ?_
            obtain ⟨_, k15, f16, rfl⟩ := hWl2 74 _ rfl
            refine x_iald C (v := (f16 (nI k).toNatClampNeg)) 74 k15 (vp_in_nI (by omega) (by decide)) rfl dX3_ask_32 rfl ?_
            refine x_any (fun v17 => ?_)
            refine x_aload_n C dX3_ask_33 rfl 0 rfl rfl ?_
            refine x_get C (ci := 3) (k := 4) 71 k1 rfl in_X3 (by decide) w_259 rfl dX3_ask_34 rfl ?_
            refine x_iload_n C dX3_ask_37 rfl 2 rfl rfl ?_
            obtain ⟨_, k18, f19, rfl⟩ := hWl2 75 _ rfl
            refine x_iald C (v := (f19 (nI k).toNatClampNeg)) 75 k18 (vp_in_nI (by omega) (by decide)) rfl dX3_ask_38 rfl ?_
            refine x_any (fun v20 => ?_)
            refine x_vi C (As := [.int v17, .int v20]) (rest := []) (c_run E l a wl2 hWl2 v17 v20) mf_X3_run w_743 71 k1 rfl rfl rfl (Nat.le_of_ble_eq_true rfl) ⟨(Nat.le_of_ble_eq_true rfl), (Nat.le_of_ble_eq_true rfl)⟩ ⟨(Nat.le_of_ble_eq_true rfl), (Nat.le_of_ble_eq_true rfl)⟩ dX3_ask_39 rfl (fun r22 w23 h21 => ?_)
            obtain ⟨hW24, kq25⟩ := h21
            have kp26 := keeps_tr kq2 kq25 (fun q hq => by first | omega | (dsimp only at *; omega))
            refine x_if_eq C (tgt := 74) dX3_ask_42 (by decide) rfl (fun c27 => ?_) (fun c27 => ?_)
            · skip
              refine x_iinc C (v := (nI (k + 1))) (lv' := [(2, .int (nI (k + 1))), (0, .ref (a 71)), (1, .int (nI wh))]) dX3_ask_74 2 rfl (nI_add k 1) (by decide) rfl rfl ?_
              refine x_goto C (tgt := 2) dX3_ask_77 (by decide) ?_
              refine x_lv (lv1 := [(0, .ref (a 71)), (1, .int (nI wh)), (2, .int (nI (k + 1)))]) [1, 2, 0] rfl ?_
              exact ih2 (k + 1) w23 hW24 (by omega) (by omega) kp26
            · skip
              refine x_iconst C (v := 0) dX3_ask_45 (by decide) rfl ?_
              obtain ⟨z1, z2, z3, -⟩ := C.2.2.2.2.2.2.2
              refine x_getsN C (host := "EggTown") z1 (List.mem_of_getElem? (i := 758) (by decide +kernel)) (fun _ h9 => h9) dX3_ask_46 rfl ?_
              refine x_iload_n C dX3_ask_49 rfl 1 rfl rfl ?_
              refine x_tld C z2 wh (nI_clamp (by omega)) (nI_pos (by omega)) (by omega) dX3_ask_50 rfl ?_
              obtain ⟨n28, hn29, en30⟩ := hB wh (by omega)
              refine x_top en30 ?_
              refine x_aload_n C dX3_ask_51 rfl 0 rfl rfl ?_
              refine x_aload_n C dX3_ask_52 rfl 0 rfl rfl ?_
              obtain ⟨_, k31, v32, n33, n35, bn34, bn36, rfl⟩ := hW24 71 _ rfl
              refine x_get C (ci := 3) (k := 2) 71 k31 rfl in_X3 (by decide) w_255 rfl dX3_ask_53 rfl ?_
              refine x_iload_n C dX3_ask_56 rfl 2 rfl rfl ?_
              obtain ⟨_, k37, f38, rfl⟩ := hW24 73 _ rfl
              refine x_iald C (v := (f38 (nI k).toNatClampNeg)) 73 k37 (vp_in_nI (by omega) (by decide)) rfl dX3_ask_57 rfl ?_
              refine x_any (fun v39 => ?_)
              refine x_aload_n C dX3_ask_58 rfl 0 rfl rfl ?_
              refine x_get C (ci := 3) (k := 3) 71 k31 rfl in_X3 (by decide) w_257 rfl dX3_ask_59 rfl ?_
              refine x_iload_n C dX3_ask_62 rfl 2 rfl rfl ?_
              obtain ⟨_, k40, f41, rfl⟩ := hW24 74 _ rfl
              refine x_iald C (v := (f41 (nI k).toNatClampNeg)) 74 k40 (vp_in_nI (by omega) (by decide)) rfl dX3_ask_63 rfl ?_
              refine x_any (fun v42 => ?_)
              refine x_vi C (As := [.int v39, .int v42]) (rest := [.int (nI n28), .int 0]) (c_run E l a w23 hW24 v39 v42) mf_X3_run w_743 71 k31 rfl rfl rfl (Nat.le_of_ble_eq_true rfl) ⟨(Nat.le_of_ble_eq_true rfl), (Nat.le_of_ble_eq_true rfl)⟩ ⟨(Nat.le_of_ble_eq_true rfl), (Nat.le_of_ble_eq_true rfl)⟩ dX3_ask_64 rfl (fun r44 w45 h43 => ?_)
              obtain ⟨hW46, kq47⟩ := h43
              have kp48 := keeps_tr kp26 kq47 (fun q hq => by first | omega | (dsimp only at *; omega))
              refine x_mmin C (v := (if r44 < (nI n28) then r44 else (nI n28))) w_760 w_561 w_16 w_562 (Nat.le_of_ble_eq_true rfl) (Nat.le_of_ble_eq_true rfl) (Nat.le_of_ble_eq_true rfl) (Nat.le_of_ble_eq_true rfl) rfl dX3_ask_67 rfl ?_
              refine x_mmax C (v := (if (0 : Int32) < (if r44 < (nI n28) then r44 else (nI n28)) then (if r44 < (nI n28) then r44 else (nI n28)) else (0 : Int32))) w_761 w_558 w_16 w_559 (Nat.le_of_ble_eq_true rfl) (Nat.le_of_ble_eq_true rfl) (Nat.le_of_ble_eq_true rfl) (Nat.le_of_ble_eq_true rfl) rfl dX3_ask_70 rfl ?_
              obtain ⟨z49, hz50, ez51⟩ := clampB n28 hn29 r44
              refine x_top ez51 ?_
              exact x_zret C hr hlk rfl dX3_ask_73 ⟨hW46, kp48, ⟨z49, by omega, rfl⟩⟩
  refine x_lv (lv1 := [(0, .ref (a 71)), (1, .int (nI wh)), (2, .int 0)]) [1, 2, 0] rfl ?_
  exact loop2 _ 0 ws hW (Nat.lt_succ_self _) (by omega) kp0
set_option maxRecDepth 20000 in
set_option maxHeartbeats 4000000 in
theorem c_ofEggB (E : xE) (l : Launch) (a : Nat → Nat) (ws : va_W) (hW : WX (okX E a) ws) (t : Nat) (ht : tb t) (wh : Nat) (i0 : Nat) (wk : Int32) (hB : HB E) (hwh : wh ≤ 5) (hi0 : i0 ≤ 47) : xI E l yX3_ofEgg cX3_ofEgg 5 (some .int) 3 [.ref (a 71), .int (nI wh), .ref (a t), .int (nI i0), .int wk] ws (fun r w => WX (okX E a) w ∧ keeps ws w (fun q => 71 ≤ q ∧ q < 79) ∧ (∃ rn : Nat, rn ≤ 999 ∧ r = nI rn)) := by
  refine xI_start (lv := [(0, .ref (a 71)), (1, .int (nI wh)), (2, .ref (a t)), (3, .int (nI i0)), (4, .int wk)]) RX3 (by decide) rfl (Nat.le_of_ble_eq_true rfl) rfl (fun p e s m below meth c A C hr hlk => ?_)
  have htb := tb_lo ht
  have kp0 : keeps ws ws (fun q => 71 ≤ q ∧ q < 79) := keeps_rf
  refine x_aload_n C dX3_ofEgg_0 rfl 0 rfl rfl ?_
  refine x_aload_n C dX3_ofEgg_1 rfl 2 rfl rfl ?_
  refine x_aload_n C dX3_ofEgg_2 rfl 2 rfl rfl ?_
  obtain ⟨_, k1, n2, v4, v5, v6, v7, v8, bn3, rfl⟩ := hW (t + 0) _ (okX_t ht (j := 0) rfl)
  refine x_get C (ci := 8) (k := 4) t k1 rfl in_X9 (by decide) w_208 rfl dX3_ofEgg_3 rfl ?_
  obtain ⟨_, k9, n10, bn11, rfl⟩ := hW (t + 9) _ (okX_t ht (j := 9) rfl)
  refine x_get C (ci := 1) (k := 3) (t + 9) k9 rfl in_X1 (by decide) w_132 rfl dX3_ofEgg_6 rfl ?_
  refine x_iload_n C dX3_ofEgg_9 rfl 3 rfl rfl ?_
  obtain ⟨_, k12, f13, rfl⟩ := hW (t + 12) _ (okX_t ht (j := 12) rfl)
  refine x_iald C (v := (f13 (nI i0).toNatClampNeg)) (t + 12) k12 (vp_in_nI (by omega) (by decide)) rfl dX3_ofEgg_10 rfl ?_
  refine x_any (fun v14 => ?_)
  obtain ⟨_, k15, v16, n17, n19, bn18, bn20, rfl⟩ := hW 71 _ rfl
  refine x_vv C (As := [.ref (a t), .int v14]) (rest := []) (c_start E l a ws hW t ht v14) mf_X3_start w_735 71 k15 rfl rfl rfl (Nat.le_of_ble_eq_true rfl) ⟨(Nat.le_of_ble_eq_true rfl), (Nat.le_of_ble_eq_true rfl)⟩ ⟨(Nat.le_of_ble_eq_true rfl), (Nat.le_of_ble_eq_true rfl)⟩ dX3_ofEgg_11 rfl (fun w23 h21 => ?_)
  obtain ⟨hW24, kq25⟩ := h21
  have k26 : w23[t]? = some (ob (a t) 8 [.int (nI n2), .int v4, .ref (a (t + 1)), .ref (a (t + 4)), .ref (a (t + 9)), .ref (a (t + 16)), .int v5, .int v6, .int v7, .int v8]) := keeps_at kq25 k1 (by first | decide | omega | (dsimp only; omega))
  have k27 : w23[t + 9]? = some (ob (a (t + 9)) 1 [.int (nI n10), .ref (a (t + 10)), .ref (a (t + 11)), .ref (a (t + 12)), .ref (a (t + 13)), .ref (a (t + 14)), .ref (a (t + 15))]) := keeps_at kq25 k9 (by first | decide | omega | (dsimp only; omega))
  have k28 : w23[t + 12]? = some (iA E (a (t + 12)) 48 f13) := keeps_at kq25 k12 (by first | decide | omega | (dsimp only; omega))
  have kp29 := keeps_tr kp0 kq25 (fun q hq => by first | omega | (dsimp only at *; omega))
  refine x_aload_n C dX3_ofEgg_14 rfl 0 rfl rfl ?_
  obtain ⟨_, k30, v31, n32, n34, bn33, bn35, rfl⟩ := hW24 71 _ rfl
  refine x_get C (ci := 3) (k := 7) 71 k30 rfl in_X3 (by decide) w_264 rfl dX3_ofEgg_15 rfl ?_
  refine x_iconst C (v := 5) dX3_ofEgg_18 (by decide) rfl ?_
  refine x_aload_n C dX3_ofEgg_19 rfl 2 rfl rfl ?_
  refine x_get C (ci := 8) (k := 4) t k26 rfl in_X9 (by decide) w_208 rfl dX3_ofEgg_20 rfl ?_
  refine x_get C (ci := 1) (k := 1) (t + 9) k27 rfl in_X1 (by decide) w_124 rfl dX3_ofEgg_23 rfl ?_
  refine x_iload_n C dX3_ofEgg_26 rfl 3 rfl rfl ?_
  obtain ⟨_, k36, f37, rfl⟩ := hW24 (t + 10) _ (okX_t ht (j := 10) rfl)
  refine x_iald C (v := (f37 (nI i0).toNatClampNeg)) (t + 10) k36 (vp_in_nI (by omega) (by decide)) rfl dX3_ofEgg_27 rfl ?_
  refine x_any (fun v38 => ?_)
  obtain ⟨_, k39, f40, rfl⟩ := hW24 77 _ rfl
  obtain ⟨w41, hw42⟩ : ∃ w : va_W, w = List.set w23 77 (iA E (a 77) 11 (upd f40 (5 : Int32).toNatClampNeg v38)) := ⟨_, rfl⟩
  refine x_iast C 77 k39 (vp_k (j := 5) (by decide) (by decide) (by decide)) hw42.symm dX3_ofEgg_28 rfl ?_
  have hW43 : WX (okX E a) w41 := by rw [hw42]; exact hW24.set (k := 77) rfl ⟨_, rfl⟩
  have k44 : w41[t]? = some (ob (a t) 8 [.int (nI n2), .int v4, .ref (a (t + 1)), .ref (a (t + 4)), .ref (a (t + 9)), .ref (a (t + 16)), .int v5, .int v6, .int v7, .int v8]) := by rw [hw42]; exact set_ne k26 (by omega)
  have k45 : w41[t + 9]? = some (ob (a (t + 9)) 1 [.int (nI n10), .ref (a (t + 10)), .ref (a (t + 11)), .ref (a (t + 12)), .ref (a (t + 13)), .ref (a (t + 14)), .ref (a (t + 15))]) := by rw [hw42]; exact set_ne k27 (by omega)
  have k46 : w41[t + 12]? = some (iA E (a (t + 12)) 48 f13) := by rw [hw42]; exact set_ne k28 (by omega)
  have k47 : w41[71]? = some (ob (a 71) 3 [.int v31, .ref (a 72), .ref (a 73), .ref (a 74), .ref (a 75), .int (nI n32), .ref (a 76), .ref (a 77), .ref (a 78), .int (nI n34)]) := by rw [hw42]; exact set_ne k30 (by decide)
  have k48 : w41[t + 10]? = some (iA E (a (t + 10)) 48 f37) := by rw [hw42]; exact set_ne k36 (by omega)
  have k49 : w41[77]? = some (iA E (a 77) 11 (upd f40 (5 : Int32).toNatClampNeg v38)) := by rw [hw42]; exact set_eq k39
  have kp50 := keeps_set kp29 hw42 (by first | exact rfl | decide | omega | (dsimp only; omega))
  refine x_aload_n C dX3_ofEgg_29 rfl 0 rfl rfl ?_
  refine x_get C (ci := 3) (k := 7) 71 k47 rfl in_X3 (by decide) w_264 rfl dX3_ofEgg_30 rfl ?_
  refine x_bipush C (v := 6) dX3_ofEgg_33 (by decide) rfl ?_
  refine x_aload_n C dX3_ofEgg_35 rfl 2 rfl rfl ?_
  refine x_get C (ci := 8) (k := 0) t k44 rfl in_X9 (by decide) w_196 rfl dX3_ofEgg_36 rfl ?_
  refine x_aload_n C dX3_ofEgg_39 rfl 2 rfl rfl ?_
  refine x_get C (ci := 8) (k := 4) t k44 rfl in_X9 (by decide) w_208 rfl dX3_ofEgg_40 rfl ?_
  refine x_get C (ci := 1) (k := 2) (t + 9) k45 rfl in_X1 (by decide) w_128 rfl dX3_ofEgg_43 rfl ?_
  refine x_iload_n C dX3_ofEgg_46 rfl 3 rfl rfl ?_
  obtain ⟨_, k51, g52, gb53, rfl⟩ := hW43 (t + 11) _ (okX_t ht (j := 11) rfl)
  refine x_ialk C (v := nI (g52 i0)) i0 (nI_clamp (by omega)) (nI_pos (by omega)) (by omega) (t + 11) k51 rfl dX3_ofEgg_47 rfl ?_
  have bx54 := gb53 i0
  refine x_isub C (v := ((nI n2) - (nI (g52 i0)))) dX3_ofEgg_48 rfl rfl ?_
  refine x_any (fun v55 => ?_)
  obtain ⟨w56, hw57⟩ : ∃ w : va_W, w = List.set w41 77 (iA E (a 77) 11 (upd (upd f40 (5 : Int32).toNatClampNeg v38) (6 : Int32).toNatClampNeg v55)) := ⟨_, rfl⟩
  refine x_iast C 77 k49 (vp_k (j := 6) (by decide) (by decide) (by decide)) hw57.symm dX3_ofEgg_49 rfl ?_
  have hW58 : WX (okX E a) w56 := by rw [hw57]; exact hW43.set (k := 77) rfl ⟨_, rfl⟩
  have k59 : w56[t]? = some (ob (a t) 8 [.int (nI n2), .int v4, .ref (a (t + 1)), .ref (a (t + 4)), .ref (a (t + 9)), .ref (a (t + 16)), .int v5, .int v6, .int v7, .int v8]) := by rw [hw57]; exact set_ne k44 (by omega)
  have k60 : w56[t + 9]? = some (ob (a (t + 9)) 1 [.int (nI n10), .ref (a (t + 10)), .ref (a (t + 11)), .ref (a (t + 12)), .ref (a (t + 13)), .ref (a (t + 14)), .ref (a (t + 15))]) := by rw [hw57]; exact set_ne k45 (by omega)
  have k61 : w56[t + 12]? = some (iA E (a (t + 12)) 48 f13) := by rw [hw57]; exact set_ne k46 (by omega)
  have k62 : w56[71]? = some (ob (a 71) 3 [.int v31, .ref (a 72), .ref (a 73), .ref (a 74), .ref (a 75), .int (nI n32), .ref (a 76), .ref (a 77), .ref (a 78), .int (nI n34)]) := by rw [hw57]; exact set_ne k47 (by decide)
  have k63 : w56[t + 10]? = some (iA E (a (t + 10)) 48 f37) := by rw [hw57]; exact set_ne k48 (by omega)
  have k64 : w56[77]? = some (iA E (a 77) 11 (upd (upd f40 (5 : Int32).toNatClampNeg v38) (6 : Int32).toNatClampNeg v55)) := by rw [hw57]; exact set_eq k49
  have k65 : w56[t + 11]? = some (iA E (a (t + 11)) 48 (fun j => nI (g52 j))) := by rw [hw57]; exact set_ne k51 (by omega)
  have kp66 := keeps_set kp50 hw57 (by first | exact rfl | decide | omega | (dsimp only; omega))
  refine x_aload_n C dX3_ofEgg_50 rfl 0 rfl rfl ?_
  refine x_get C (ci := 3) (k := 7) 71 k62 rfl in_X3 (by decide) w_264 rfl dX3_ofEgg_51 rfl ?_
  refine x_bipush C (v := 7) dX3_ofEgg_54 (by decide) rfl ?_
  refine x_aload_n C dX3_ofEgg_56 rfl 2 rfl rfl ?_
  refine x_get C (ci := 8) (k := 4) t k59 rfl in_X9 (by decide) w_208 rfl dX3_ofEgg_57 rfl ?_
  refine x_get C (ci := 1) (k := 5) (t + 9) k60 rfl in_X1 (by decide) w_140 rfl dX3_ofEgg_60 rfl ?_
  refine x_iload_n C dX3_ofEgg_63 rfl 3 rfl rfl ?_
  obtain ⟨_, k67, f68, rfl⟩ := hW58 (t + 14) _ (okX_t ht (j := 14) rfl)
  refine x_iald C (v := (f68 (nI i0).toNatClampNeg)) (t + 14) k67 (vp_in_nI (by omega) (by decide)) rfl dX3_ofEgg_64 rfl ?_
  refine x_any (fun v69 => ?_)
  obtain ⟨w70, hw71⟩ : ∃ w : va_W, w = List.set w56 77 (iA E (a 77) 11 (upd (upd (upd f40 (5 : Int32).toNatClampNeg v38) (6 : Int32).toNatClampNeg v55) (7 : Int32).toNatClampNeg v69)) := ⟨_, rfl⟩
  refine x_iast C 77 k64 (vp_k (j := 7) (by decide) (by decide) (by decide)) hw71.symm dX3_ofEgg_65 rfl ?_
  have hW72 : WX (okX E a) w70 := by rw [hw71]; exact hW58.set (k := 77) rfl ⟨_, rfl⟩
  have k73 : w70[t]? = some (ob (a t) 8 [.int (nI n2), .int v4, .ref (a (t + 1)), .ref (a (t + 4)), .ref (a (t + 9)), .ref (a (t + 16)), .int v5, .int v6, .int v7, .int v8]) := by rw [hw71]; exact set_ne k59 (by omega)
  have k74 : w70[t + 9]? = some (ob (a (t + 9)) 1 [.int (nI n10), .ref (a (t + 10)), .ref (a (t + 11)), .ref (a (t + 12)), .ref (a (t + 13)), .ref (a (t + 14)), .ref (a (t + 15))]) := by rw [hw71]; exact set_ne k60 (by omega)
  have k75 : w70[t + 12]? = some (iA E (a (t + 12)) 48 f13) := by rw [hw71]; exact set_ne k61 (by omega)
  have k76 : w70[71]? = some (ob (a 71) 3 [.int v31, .ref (a 72), .ref (a 73), .ref (a 74), .ref (a 75), .int (nI n32), .ref (a 76), .ref (a 77), .ref (a 78), .int (nI n34)]) := by rw [hw71]; exact set_ne k62 (by decide)
  have k77 : w70[t + 10]? = some (iA E (a (t + 10)) 48 f37) := by rw [hw71]; exact set_ne k63 (by omega)
  have k78 : w70[77]? = some (iA E (a 77) 11 (upd (upd (upd f40 (5 : Int32).toNatClampNeg v38) (6 : Int32).toNatClampNeg v55) (7 : Int32).toNatClampNeg v69)) := by rw [hw71]; exact set_eq k64
  have k79 : w70[t + 11]? = some (iA E (a (t + 11)) 48 (fun j => nI (g52 j))) := by rw [hw71]; exact set_ne k65 (by omega)
  have k80 : w70[t + 14]? = some (iA E (a (t + 14)) 48 f68) := by rw [hw71]; exact set_ne k67 (by omega)
  have kp81 := keeps_set kp66 hw71 (by first | exact rfl | decide | omega | (dsimp only; omega))
  refine x_aload_n C dX3_ofEgg_66 rfl 0 rfl rfl ?_
  refine x_get C (ci := 3) (k := 7) 71 k76 rfl in_X3 (by decide) w_264 rfl dX3_ofEgg_67 rfl ?_
  refine x_bipush C (v := 8) dX3_ofEgg_70 (by decide) rfl ?_
  refine x_aload_n C dX3_ofEgg_72 rfl 2 rfl rfl ?_
  refine x_get C (ci := 8) (k := 4) t k73 rfl in_X9 (by decide) w_208 rfl dX3_ofEgg_73 rfl ?_
  refine x_get C (ci := 1) (k := 4) (t + 9) k74 rfl in_X1 (by decide) w_135 rfl dX3_ofEgg_76 rfl ?_
  refine x_iload_n C dX3_ofEgg_79 rfl 3 rfl rfl ?_
  obtain ⟨_, k82, g83, gb84, rfl⟩ := hW72 (t + 13) _ (okX_t ht (j := 13) rfl)
  refine x_ialk C (v := nI (g83 i0)) i0 (nI_clamp (by omega)) (nI_pos (by omega)) (by omega) (t + 13) k82 rfl dX3_ofEgg_80 rfl ?_
  have bx85 := gb84 i0
  obtain ⟨w86, hw87⟩ : ∃ w : va_W, w = List.set w70 77 (iA E (a 77) 11 (upd (upd (upd (upd f40 (5 : Int32).toNatClampNeg v38) (6 : Int32).toNatClampNeg v55) (7 : Int32).toNatClampNeg v69) (8 : Int32).toNatClampNeg (nI (g83 i0)))) := ⟨_, rfl⟩
  refine x_iast C 77 k78 (vp_k (j := 8) (by decide) (by decide) (by decide)) hw87.symm dX3_ofEgg_81 rfl ?_
  have hW88 : WX (okX E a) w86 := by rw [hw87]; exact hW72.set (k := 77) rfl ⟨_, rfl⟩
  have k89 : w86[t]? = some (ob (a t) 8 [.int (nI n2), .int v4, .ref (a (t + 1)), .ref (a (t + 4)), .ref (a (t + 9)), .ref (a (t + 16)), .int v5, .int v6, .int v7, .int v8]) := by rw [hw87]; exact set_ne k73 (by omega)
  have k90 : w86[t + 9]? = some (ob (a (t + 9)) 1 [.int (nI n10), .ref (a (t + 10)), .ref (a (t + 11)), .ref (a (t + 12)), .ref (a (t + 13)), .ref (a (t + 14)), .ref (a (t + 15))]) := by rw [hw87]; exact set_ne k74 (by omega)
  have k91 : w86[t + 12]? = some (iA E (a (t + 12)) 48 f13) := by rw [hw87]; exact set_ne k75 (by omega)
  have k92 : w86[71]? = some (ob (a 71) 3 [.int v31, .ref (a 72), .ref (a 73), .ref (a 74), .ref (a 75), .int (nI n32), .ref (a 76), .ref (a 77), .ref (a 78), .int (nI n34)]) := by rw [hw87]; exact set_ne k76 (by decide)
  have k93 : w86[t + 10]? = some (iA E (a (t + 10)) 48 f37) := by rw [hw87]; exact set_ne k77 (by omega)
  have k94 : w86[77]? = some (iA E (a 77) 11 (upd (upd (upd (upd f40 (5 : Int32).toNatClampNeg v38) (6 : Int32).toNatClampNeg v55) (7 : Int32).toNatClampNeg v69) (8 : Int32).toNatClampNeg (nI (g83 i0)))) := by rw [hw87]; exact set_eq k78
  have k95 : w86[t + 11]? = some (iA E (a (t + 11)) 48 (fun j => nI (g52 j))) := by rw [hw87]; exact set_ne k79 (by omega)
  have k96 : w86[t + 14]? = some (iA E (a (t + 14)) 48 f68) := by rw [hw87]; exact set_ne k80 (by omega)
  have k97 : w86[t + 13]? = some (iA E (a (t + 13)) 48 (fun j => nI (g83 j))) := by rw [hw87]; exact set_ne k82 (by omega)
  have kp98 := keeps_set kp81 hw87 (by first | exact rfl | decide | omega | (dsimp only; omega))
  refine x_aload_n C dX3_ofEgg_82 rfl 0 rfl rfl ?_
  refine x_get C (ci := 3) (k := 7) 71 k92 rfl in_X3 (by decide) w_264 rfl dX3_ofEgg_83 rfl ?_
  refine x_bipush C (v := 9) dX3_ofEgg_86 (by decide) rfl ?_
  refine x_iload C dX3_ofEgg_88 4 rfl rfl ?_
  obtain ⟨w99, hw100⟩ : ∃ w : va_W, w = List.set w86 77 (iA E (a 77) 11 (upd (upd (upd (upd (upd f40 (5 : Int32).toNatClampNeg v38) (6 : Int32).toNatClampNeg v55) (7 : Int32).toNatClampNeg v69) (8 : Int32).toNatClampNeg (nI (g83 i0))) (9 : Int32).toNatClampNeg wk)) := ⟨_, rfl⟩
  refine x_iast C 77 k94 (vp_k (j := 9) (by decide) (by decide) (by decide)) hw100.symm dX3_ofEgg_90 rfl ?_
  have hW101 : WX (okX E a) w99 := by rw [hw100]; exact hW88.set (k := 77) rfl ⟨_, rfl⟩
  have k102 : w99[t]? = some (ob (a t) 8 [.int (nI n2), .int v4, .ref (a (t + 1)), .ref (a (t + 4)), .ref (a (t + 9)), .ref (a (t + 16)), .int v5, .int v6, .int v7, .int v8]) := by rw [hw100]; exact set_ne k89 (by omega)
  have k103 : w99[t + 9]? = some (ob (a (t + 9)) 1 [.int (nI n10), .ref (a (t + 10)), .ref (a (t + 11)), .ref (a (t + 12)), .ref (a (t + 13)), .ref (a (t + 14)), .ref (a (t + 15))]) := by rw [hw100]; exact set_ne k90 (by omega)
  have k104 : w99[t + 12]? = some (iA E (a (t + 12)) 48 f13) := by rw [hw100]; exact set_ne k91 (by omega)
  have k105 : w99[71]? = some (ob (a 71) 3 [.int v31, .ref (a 72), .ref (a 73), .ref (a 74), .ref (a 75), .int (nI n32), .ref (a 76), .ref (a 77), .ref (a 78), .int (nI n34)]) := by rw [hw100]; exact set_ne k92 (by decide)
  have k106 : w99[t + 10]? = some (iA E (a (t + 10)) 48 f37) := by rw [hw100]; exact set_ne k93 (by omega)
  have k107 : w99[77]? = some (iA E (a 77) 11 (upd (upd (upd (upd (upd f40 (5 : Int32).toNatClampNeg v38) (6 : Int32).toNatClampNeg v55) (7 : Int32).toNatClampNeg v69) (8 : Int32).toNatClampNeg (nI (g83 i0))) (9 : Int32).toNatClampNeg wk)) := by rw [hw100]; exact set_eq k94
  have k108 : w99[t + 11]? = some (iA E (a (t + 11)) 48 (fun j => nI (g52 j))) := by rw [hw100]; exact set_ne k95 (by omega)
  have k109 : w99[t + 14]? = some (iA E (a (t + 14)) 48 f68) := by rw [hw100]; exact set_ne k96 (by omega)
  have k110 : w99[t + 13]? = some (iA E (a (t + 13)) 48 (fun j => nI (g83 j))) := by rw [hw100]; exact set_ne k97 (by omega)
  have kp111 := keeps_set kp98 hw100 (by first | exact rfl | decide | omega | (dsimp only; omega))
  refine x_aload_n C dX3_ofEgg_91 rfl 0 rfl rfl ?_
  refine x_iload_n C dX3_ofEgg_92 rfl 1 rfl rfl ?_
  refine x_vi C (As := [.int (nI wh)]) (rest := []) (c_askB E l a w99 hW101 wh hB (by omega)) mf_X3_ask w_739 71 k105 rfl rfl rfl (Nat.le_of_ble_eq_true rfl) ⟨(Nat.le_of_ble_eq_true rfl), (Nat.le_of_ble_eq_true rfl)⟩ ⟨(Nat.le_of_ble_eq_true rfl), (Nat.le_of_ble_eq_true rfl)⟩ dX3_ofEgg_93 rfl (fun r113 w114 h112 => ?_)
  obtain ⟨hW115, kq116, ⟨m118, bm119, e117⟩⟩ := h112
  refine x_top e117 ?_
  have k120 : w114[t]? = some (ob (a t) 8 [.int (nI n2), .int v4, .ref (a (t + 1)), .ref (a (t + 4)), .ref (a (t + 9)), .ref (a (t + 16)), .int v5, .int v6, .int v7, .int v8]) := keeps_at kq116 k102 (by first | decide | omega | (dsimp only; omega))
  have k121 : w114[t + 9]? = some (ob (a (t + 9)) 1 [.int (nI n10), .ref (a (t + 10)), .ref (a (t + 11)), .ref (a (t + 12)), .ref (a (t + 13)), .ref (a (t + 14)), .ref (a (t + 15))]) := keeps_at kq116 k103 (by first | decide | omega | (dsimp only; omega))
  have k122 : w114[t + 12]? = some (iA E (a (t + 12)) 48 f13) := keeps_at kq116 k104 (by first | decide | omega | (dsimp only; omega))
  have k123 : w114[t + 10]? = some (iA E (a (t + 10)) 48 f37) := keeps_at kq116 k106 (by first | decide | omega | (dsimp only; omega))
  have k124 : w114[t + 11]? = some (iA E (a (t + 11)) 48 (fun j => nI (g52 j))) := keeps_at kq116 k108 (by first | decide | omega | (dsimp only; omega))
  have k125 : w114[t + 14]? = some (iA E (a (t + 14)) 48 f68) := keeps_at kq116 k109 (by first | decide | omega | (dsimp only; omega))
  have k126 : w114[t + 13]? = some (iA E (a (t + 13)) 48 (fun j => nI (g83 j))) := keeps_at kq116 k110 (by first | decide | omega | (dsimp only; omega))
  have kp127 := keeps_tr kp111 kq116 (fun q hq => by first | omega | (dsimp only at *; omega))
  exact x_zret C hr hlk rfl dX3_ofEgg_96 ⟨hW115, kp127, ⟨m118, by omega, rfl⟩⟩
theorem dX11_firstBadDay_0 : decode cX11_firstBadDay 0 = .ok (.aload_n 0, 1) := by decide +kernel
theorem dX11_firstBadDay_1 : decode cX11_firstBadDay 1 = .ok (.getfield 39, 3) := by decide +kernel
theorem dX11_firstBadDay_4 : decode cX11_firstBadDay 4 = .ok (.iconst 2, 1) := by decide +kernel
theorem dX11_firstBadDay_5 : decode cX11_firstBadDay 5 = .ok (.aload_n 0, 1) := by decide +kernel
theorem dX11_firstBadDay_6 : decode cX11_firstBadDay 6 = .ok (.getfield 22, 3) := by decide +kernel
theorem dX11_firstBadDay_9 : decode cX11_firstBadDay 9 = .ok (.iload_n 1, 1) := by decide +kernel
theorem dX11_firstBadDay_10 : decode cX11_firstBadDay 10 = .ok (.iconst 0, 1) := by decide +kernel
theorem dX11_firstBadDay_11 : decode cX11_firstBadDay 11 = .ok (.invokevirtual 231, 3) := by decide +kernel
theorem dX11_firstBadDay_14 : decode cX11_firstBadDay 14 = .ok (.istore_n 2, 1) := by decide +kernel
theorem dX11_firstBadDay_15 : decode cX11_firstBadDay 15 = .ok (.iload_n 2, 1) := by decide +kernel
theorem dX11_firstBadDay_16 : decode cX11_firstBadDay 16 = .ok (.ifCond .le 20, 3) := by decide +kernel
theorem dX11_firstBadDay_19 : decode cX11_firstBadDay 19 = .ok (.aload_n 0, 1) := by decide +kernel
theorem dX11_firstBadDay_20 : decode cX11_firstBadDay 20 = .ok (.getfield 22, 3) := by decide +kernel
theorem dX11_firstBadDay_23 : decode cX11_firstBadDay 23 = .ok (.getfield 132, 3) := by decide +kernel
theorem dX11_firstBadDay_26 : decode cX11_firstBadDay 26 = .ok (.getfield 213, 3) := by decide +kernel
theorem dX11_firstBadDay_29 : decode cX11_firstBadDay 29 = .ok (.iload_n 1, 1) := by decide +kernel
theorem dX11_firstBadDay_30 : decode cX11_firstBadDay 30 = .ok (.iaload, 1) := by decide +kernel
theorem dX11_firstBadDay_31 : decode cX11_firstBadDay 31 = .ok (.iload_n 2, 1) := by decide +kernel
theorem dX11_firstBadDay_32 : decode cX11_firstBadDay 32 = .ok (.iadd, 1) := by decide +kernel
theorem dX11_firstBadDay_33 : decode cX11_firstBadDay 33 = .ok (.goto 5, 3) := by decide +kernel
theorem dX11_firstBadDay_36 : decode cX11_firstBadDay 36 = .ok (.bipush (-2), 2) := by decide +kernel
theorem dX11_firstBadDay_38 : decode cX11_firstBadDay 38 = .ok (.ireturn, 1) := by decide +kernel
set_option maxRecDepth 20000 in
set_option maxHeartbeats 4000000 in
theorem c_firstBadDay (E : xE) (l : Launch) (a : Nat → Nat) (ws : va_W) (hW : WX (okX E a) ws) (e0 : Nat) (hB : HB E) (he0 : e0 ≤ 47) : xI E l yX11_firstBadDay cX11_firstBadDay 3 (some .int) 4 [.ref (a 0), .int (nI e0)] ws (fun r w => WX (okX E a) w ∧ keeps ws w (fun q => 71 ≤ q ∧ q < 79) ∧ (r = -2 ∨ ∃ n : Nat, n ≤ 12000 ∧ r = nI n)) := by
  refine xI_start (lv := [(0, .ref (a 0)), (1, .int (nI e0))]) RX11 (by decide) rfl (Nat.le_of_ble_eq_true rfl) rfl (fun p e s m below meth c A C hr hlk => ?_)
  have kp0 : keeps ws ws (fun q => 71 ≤ q ∧ q < 79) := keeps_rf
  refine x_aload_n C dX11_firstBadDay_0 rfl 0 rfl rfl ?_
  obtain ⟨_, k1, v2, rfl⟩ := hW 0 _ rfl
  refine x_get C (ci := 10) (k := 6) 0 k1 rfl in_X11 (by decide) w_391 rfl dX11_firstBadDay_1 rfl ?_
  refine x_iconst C (v := 2) dX11_firstBadDay_4 (by decide) rfl ?_
  refine x_aload_n C dX11_firstBadDay_5 rfl 0 rfl rfl ?_
  refine x_get C (ci := 10) (k := 2) 0 k1 rfl in_X11 (by decide) w_387 rfl dX11_firstBadDay_6 rfl ?_
  refine x_iload_n C dX11_firstBadDay_9 rfl 1 rfl rfl ?_
  refine x_iconst C (v := 0) dX11_firstBadDay_10 (by decide) rfl ?_
  obtain ⟨_, k3, v4, n5, n7, bn6, bn8, rfl⟩ := hW 71 _ rfl
  refine x_vi C (As := [.int 2, .ref (a 5), .int (nI e0), .int 0]) (rest := []) (c_ofEggB E l a ws hW 5 (Or.inl rfl) 2 e0 (0 : Int32) hB (by omega) (by omega)) mf_X3_ofEgg w_866 71 k3 rfl rfl rfl (Nat.le_of_ble_eq_true rfl) ⟨(Nat.le_of_ble_eq_true rfl), (Nat.le_of_ble_eq_true rfl)⟩ ⟨(Nat.le_of_ble_eq_true rfl), (Nat.le_of_ble_eq_true rfl)⟩ dX11_firstBadDay_11 rfl (fun r10 w11 h9 => ?_)
  obtain ⟨hW12, kq13, ⟨m15, bm16, e14⟩⟩ := h9
  refine x_top e14 ?_
  have k17 : w11[0]? = some (ob (a 0) 10 [.ref (a 1), .ref (a 3), .ref (a 5), .ref (a 27), .ref (a 49), .int v2, .ref (a 71), .ref (a 79), .ref (a 87), .ref (a 92), .ref (a 103), .ref (a 105), .ref (a 106), .ref (a 107), .ref (a 108), .ref (a 109), .ref (a 110), .ref (a 111), .ref (a 112)]) := keeps_at kq13 k1 (by first | decide | omega | (dsimp only; omega))
  have kp18 := keeps_tr kp0 kq13 (fun q hq => by first | omega | (dsimp only at *; omega))
  refine x_istore_n C (lv' := [(2, .int (nI m15)), (0, .ref (a 0)), (1, .int (nI e0))]) dX11_firstBadDay_14 rfl (by decide) rfl rfl ?_
  refine x_iload_n C dX11_firstBadDay_15 rfl 0 rfl rfl ?_
  refine x_if_le C (tgt := 36) dX11_firstBadDay_16 (by decide) rfl (fun c19 => ?_) (fun c19 => ?_)
  · skip
    have nf20 := nI_le' (a := m15) (b := 0) c19 (by omega) (by omega)
    refine x_bipush C (v := (-2)) dX11_firstBadDay_36 (by decide) rfl ?_
    exact x_zret C hr hlk rfl dX11_firstBadDay_38 ⟨hW12, kp18, (Or.inl rfl)⟩
  · skip
    have nf21 := nI_nle' (a := m15) (b := 0) c19 (by omega) (by omega)
    refine x_aload_n C dX11_firstBadDay_19 rfl 1 rfl rfl ?_
    refine x_get C (ci := 10) (k := 2) 0 k17 rfl in_X11 (by decide) w_387 rfl dX11_firstBadDay_20 rfl ?_
    obtain ⟨_, k22, n23, v25, v26, v27, v28, v29, bn24, rfl⟩ := hW12 5 _ rfl
    refine x_get C (ci := 8) (k := 4) 5 k22 rfl in_X9 (by decide) w_209 rfl dX11_firstBadDay_23 rfl ?_
    obtain ⟨_, k30, n31, bn32, rfl⟩ := hW12 14 _ rfl
    refine x_get C (ci := 1) (k := 2) 14 k30 rfl in_X1 (by decide) w_130 rfl dX11_firstBadDay_26 rfl ?_
    refine x_iload_n C dX11_firstBadDay_29 rfl 2 rfl rfl ?_
    obtain ⟨_, k33, g34, gb35, rfl⟩ := hW12 16 _ rfl
    refine x_ialk C (v := nI (g34 e0)) e0 (nI_clamp (by omega)) (nI_pos (by omega)) (by omega) 16 k33 rfl dX11_firstBadDay_30 rfl ?_
    have bx36 := gb35 e0
    refine x_iload_n C dX11_firstBadDay_31 rfl 0 rfl rfl ?_
    refine x_iadd C (v := (nI ((g34 e0) + m15))) dX11_firstBadDay_32 (nI_add (g34 e0) m15) rfl ?_
    refine x_goto C (tgt := 38) dX11_firstBadDay_33 (by decide) ?_
    exact x_zret C hr hlk rfl dX11_firstBadDay_38 ⟨hW12, kp18, (Or.inr ⟨_, by omega, rfl⟩)⟩
theorem dX11_egg_0 : decode cX11_egg 0 = .ok (.aload_n 0, 1) := by decide +kernel
theorem dX11_egg_1 : decode cX11_egg 1 = .ok (.getfield 22, 3) := by decide +kernel
theorem dX11_egg_4 : decode cX11_egg 4 = .ok (.getfield 132, 3) := by decide +kernel
theorem dX11_egg_7 : decode cX11_egg 7 = .ok (.iload_n 1, 1) := by decide +kernel
theorem dX11_egg_8 : decode cX11_egg 8 = .ok (.invokevirtual 207, 3) := by decide +kernel
theorem dX11_egg_11 : decode cX11_egg 11 = .ok (.ifCond .ne 5, 3) := by decide +kernel
theorem dX11_egg_14 : decode cX11_egg 14 = .ok (.iconst (-1), 1) := by decide +kernel
theorem dX11_egg_15 : decode cX11_egg 15 = .ok (.ireturn, 1) := by decide +kernel
theorem dX11_egg_16 : decode cX11_egg 16 = .ok (.iload_n 2, 1) := by decide +kernel
theorem dX11_egg_17 : decode cX11_egg 17 = .ok (.tableswitch 127 0 6 #[43, 56, 69, 82, 95, 108, 121], 43) := by decide +kernel
theorem dX11_egg_60 : decode cX11_egg 60 = .ok (.aload_n 0, 1) := by decide +kernel
theorem dX11_egg_61 : decode cX11_egg 61 = .ok (.getfield 22, 3) := by decide +kernel
theorem dX11_egg_64 : decode cX11_egg 64 = .ok (.getfield 132, 3) := by decide +kernel
theorem dX11_egg_67 : decode cX11_egg 67 = .ok (.getfield 210, 3) := by decide +kernel
theorem dX11_egg_70 : decode cX11_egg 70 = .ok (.iload_n 1, 1) := by decide +kernel
theorem dX11_egg_71 : decode cX11_egg 71 = .ok (.iaload, 1) := by decide +kernel
theorem dX11_egg_72 : decode cX11_egg 72 = .ok (.ireturn, 1) := by decide +kernel
theorem dX11_egg_73 : decode cX11_egg 73 = .ok (.aload_n 0, 1) := by decide +kernel
theorem dX11_egg_74 : decode cX11_egg 74 = .ok (.getfield 22, 3) := by decide +kernel
theorem dX11_egg_77 : decode cX11_egg 77 = .ok (.getfield 132, 3) := by decide +kernel
theorem dX11_egg_80 : decode cX11_egg 80 = .ok (.getfield 213, 3) := by decide +kernel
theorem dX11_egg_83 : decode cX11_egg 83 = .ok (.iload_n 1, 1) := by decide +kernel
theorem dX11_egg_84 : decode cX11_egg 84 = .ok (.iaload, 1) := by decide +kernel
theorem dX11_egg_85 : decode cX11_egg 85 = .ok (.ireturn, 1) := by decide +kernel
theorem dX11_egg_86 : decode cX11_egg 86 = .ok (.aload_n 0, 1) := by decide +kernel
theorem dX11_egg_87 : decode cX11_egg 87 = .ok (.getfield 22, 3) := by decide +kernel
theorem dX11_egg_90 : decode cX11_egg 90 = .ok (.getfield 132, 3) := by decide +kernel
theorem dX11_egg_93 : decode cX11_egg 93 = .ok (.getfield 216, 3) := by decide +kernel
theorem dX11_egg_96 : decode cX11_egg 96 = .ok (.iload_n 1, 1) := by decide +kernel
theorem dX11_egg_97 : decode cX11_egg 97 = .ok (.iaload, 1) := by decide +kernel
theorem dX11_egg_98 : decode cX11_egg 98 = .ok (.ireturn, 1) := by decide +kernel
theorem dX11_egg_99 : decode cX11_egg 99 = .ok (.aload_n 0, 1) := by decide +kernel
theorem dX11_egg_100 : decode cX11_egg 100 = .ok (.getfield 22, 3) := by decide +kernel
theorem dX11_egg_103 : decode cX11_egg 103 = .ok (.getfield 132, 3) := by decide +kernel
theorem dX11_egg_106 : decode cX11_egg 106 = .ok (.getfield 219, 3) := by decide +kernel
theorem dX11_egg_109 : decode cX11_egg 109 = .ok (.iload_n 1, 1) := by decide +kernel
theorem dX11_egg_110 : decode cX11_egg 110 = .ok (.iaload, 1) := by decide +kernel
theorem dX11_egg_111 : decode cX11_egg 111 = .ok (.ireturn, 1) := by decide +kernel
theorem dX11_egg_112 : decode cX11_egg 112 = .ok (.aload_n 0, 1) := by decide +kernel
theorem dX11_egg_113 : decode cX11_egg 113 = .ok (.getfield 22, 3) := by decide +kernel
theorem dX11_egg_116 : decode cX11_egg 116 = .ok (.getfield 132, 3) := by decide +kernel
theorem dX11_egg_119 : decode cX11_egg 119 = .ok (.getfield 222, 3) := by decide +kernel
theorem dX11_egg_122 : decode cX11_egg 122 = .ok (.iload_n 1, 1) := by decide +kernel
theorem dX11_egg_123 : decode cX11_egg 123 = .ok (.iaload, 1) := by decide +kernel
theorem dX11_egg_124 : decode cX11_egg 124 = .ok (.ireturn, 1) := by decide +kernel
theorem dX11_egg_125 : decode cX11_egg 125 = .ok (.aload_n 0, 1) := by decide +kernel
theorem dX11_egg_126 : decode cX11_egg 126 = .ok (.getfield 22, 3) := by decide +kernel
theorem dX11_egg_129 : decode cX11_egg 129 = .ok (.getfield 132, 3) := by decide +kernel
theorem dX11_egg_132 : decode cX11_egg 132 = .ok (.getfield 225, 3) := by decide +kernel
theorem dX11_egg_135 : decode cX11_egg 135 = .ok (.iload_n 1, 1) := by decide +kernel
theorem dX11_egg_136 : decode cX11_egg 136 = .ok (.iaload, 1) := by decide +kernel
theorem dX11_egg_137 : decode cX11_egg 137 = .ok (.ireturn, 1) := by decide +kernel
theorem dX11_egg_138 : decode cX11_egg 138 = .ok (.aload_n 0, 1) := by decide +kernel
theorem dX11_egg_139 : decode cX11_egg 139 = .ok (.iload_n 1, 1) := by decide +kernel
theorem dX11_egg_140 : decode cX11_egg 140 = .ok (.invokevirtual 228, 3) := by decide +kernel
theorem dX11_egg_143 : decode cX11_egg 143 = .ok (.ireturn, 1) := by decide +kernel
theorem dX11_egg_144 : decode cX11_egg 144 = .ok (.iconst (-1), 1) := by decide +kernel
theorem dX11_egg_145 : decode cX11_egg 145 = .ok (.ireturn, 1) := by decide +kernel
set_option maxRecDepth 20000 in
set_option maxHeartbeats 4000000 in
theorem c_egg (E : xE) (l : Launch) (a : Nat → Nat) (ws : va_W) (hW : WX (okX E a) ws) (p0 : Int32) (p1 : Int32) (hB : HB E) : xI E l yX11_egg cX11_egg 3 (some .int) 8 [.ref (a 0), .int p0, .int p1] ws (fun r w => WX (okX E a) w ∧ keeps ws w (fun q => ¬ (q = 0 ∨ q = 6 ∨ q = 9 ∨ q = 28 ∨ q = 31))) := by
  refine xI_start (lv := [(0, .ref (a 0)), (1, .int p0), (2, .int p1)]) RX11 (by decide) rfl (Nat.le_of_ble_eq_true rfl) rfl (fun p e s m below meth c A C hr hlk => ?_)
  have kp0 : keeps ws ws (fun q => ¬ (q = 0 ∨ q = 6 ∨ q = 9 ∨ q = 28 ∨ q = 31)) := keeps_rf
  refine x_aload_n C dX11_egg_0 rfl 0 rfl rfl ?_
  obtain ⟨_, k1, v2, rfl⟩ := hW 0 _ rfl
  refine x_get C (ci := 10) (k := 2) 0 k1 rfl in_X11 (by decide) w_387 rfl dX11_egg_1 rfl ?_
  obtain ⟨_, k3, n4, v6, v7, v8, v9, v10, bn5, rfl⟩ := hW 5 _ rfl
  refine x_get C (ci := 8) (k := 4) 5 k3 rfl in_X9 (by decide) w_209 rfl dX11_egg_4 rfl ?_
  refine x_iload_n C dX11_egg_7 rfl 1 rfl rfl ?_
  obtain ⟨_, k11, n12, bn13, rfl⟩ := hW 14 _ rfl
  refine x_vi C (As := [.int p0]) (rest := []) (c_Eggs_isLaid E l a ws hW 5 (Or.inl rfl) p0) mf_X1_isLaid w_861 14 k11 rfl rfl rfl (Nat.le_of_ble_eq_true rfl) ⟨(Nat.le_of_ble_eq_true rfl), (Nat.le_of_ble_eq_true rfl)⟩ ⟨(Nat.le_of_ble_eq_true rfl), (Nat.le_of_ble_eq_true rfl)⟩ dX11_egg_8 rfl (fun r15 w16 h14 => ?_)
  obtain ⟨hW17, zb18, x19⟩ := h14
  refine x_ws hW17 ?_
  refine x_if_ne C (tgt := 16) dX11_egg_11 (by decide) rfl (fun c20 => ?_) (fun c20 => ?_)
  · skip
    obtain ⟨j21, hl22, hh23, ej24⟩ := w_nat (a := 0) (b := 47) (by decide) (by decide) (x19 c20)
    subst ej24
    refine x_iload_n C dX11_egg_16 rfl 2 rfl rfl ?_
    by_cases s25 : (p1).toInt < 0
    · refine x_tabOut C (tgt := 144) dX11_egg_17 (Or.inl s25) (by decide) ?_
      refine x_iconst C (v := (-1)) dX11_egg_144 (by decide) rfl ?_
      exact x_zret C hr hlk rfl dX11_egg_145 ⟨hW, kp0⟩
    by_cases s26 : 6 < (p1).toInt
    · refine x_tabOut C (tgt := 144) dX11_egg_17 (Or.inr s26) (by decide) ?_
      refine x_iconst C (v := (-1)) dX11_egg_144 (by decide) rfl ?_
      exact x_zret C hr hlk rfl dX11_egg_145 ⟨hW, kp0⟩
    by_cases s27 : p1 = 0
    · refine x_tabIn C (tgt := 60) dX11_egg_17 (by rw [s27]; decide) (by rw [s27]; decide) (by rw [s27]; rfl) (by decide) ?_
      refine x_aload_n C dX11_egg_60 rfl 0 rfl rfl ?_
      refine x_get C (ci := 10) (k := 2) 0 k1 rfl in_X11 (by decide) w_387 rfl dX11_egg_61 rfl ?_
      refine x_get C (ci := 8) (k := 4) 5 k3 rfl in_X9 (by decide) w_209 rfl dX11_egg_64 rfl ?_
      refine x_get C (ci := 1) (k := 1) 14 k11 rfl in_X1 (by decide) w_126 rfl dX11_egg_67 rfl ?_
      refine x_iload_n C dX11_egg_70 rfl 1 rfl rfl ?_
      obtain ⟨_, k28, f29, rfl⟩ := hW 15 _ rfl
      refine x_iald C (v := (f29 (nI j21).toNatClampNeg)) 15 k28 (vp_in_nI (by omega) (by decide)) rfl dX11_egg_71 rfl ?_
      refine x_any (fun v30 => ?_)
      exact x_zret C hr hlk rfl dX11_egg_72 ⟨hW, kp0⟩
    have zs27 := sw_ne (by decide : (0 : Int32).toInt = 0) s27
    by_cases s31 : p1 = 1
    · refine x_tabIn C (tgt := 73) dX11_egg_17 (by rw [s31]; decide) (by rw [s31]; decide) (by rw [s31]; rfl) (by decide) ?_
      refine x_aload_n C dX11_egg_73 rfl 0 rfl rfl ?_
      refine x_get C (ci := 10) (k := 2) 0 k1 rfl in_X11 (by decide) w_387 rfl dX11_egg_74 rfl ?_
      refine x_get C (ci := 8) (k := 4) 5 k3 rfl in_X9 (by decide) w_209 rfl dX11_egg_77 rfl ?_
      refine x_get C (ci := 1) (k := 2) 14 k11 rfl in_X1 (by decide) w_130 rfl dX11_egg_80 rfl ?_
      refine x_iload_n C dX11_egg_83 rfl 1 rfl rfl ?_
      obtain ⟨_, k32, g33, gb34, rfl⟩ := hW 16 _ rfl
      refine x_ialk C (v := nI (g33 j21)) j21 (nI_clamp (by omega)) (nI_pos (by omega)) (by omega) 16 k32 rfl dX11_egg_84 rfl ?_
      have bx35 := gb34 j21
      exact x_zret C hr hlk rfl dX11_egg_85 ⟨hW, kp0⟩
    have zs31 := sw_ne (by decide : (1 : Int32).toInt = 1) s31
    by_cases s36 : p1 = 2
    · refine x_tabIn C (tgt := 86) dX11_egg_17 (by rw [s36]; decide) (by rw [s36]; decide) (by rw [s36]; rfl) (by decide) ?_
      refine x_aload_n C dX11_egg_86 rfl 0 rfl rfl ?_
      refine x_get C (ci := 10) (k := 2) 0 k1 rfl in_X11 (by decide) w_387 rfl dX11_egg_87 rfl ?_
      refine x_get C (ci := 8) (k := 4) 5 k3 rfl in_X9 (by decide) w_209 rfl dX11_egg_90 rfl ?_
      refine x_get C (ci := 1) (k := 3) 14 k11 rfl in_X1 (by decide) w_133 rfl dX11_egg_93 rfl ?_
      refine x_iload_n C dX11_egg_96 rfl 1 rfl rfl ?_
      obtain ⟨_, k37, f38, rfl⟩ := hW 17 _ rfl
      refine x_iald C (v := (f38 (nI j21).toNatClampNeg)) 17 k37 (vp_in_nI (by omega) (by decide)) rfl dX11_egg_97 rfl ?_
      refine x_any (fun v39 => ?_)
      exact x_zret C hr hlk rfl dX11_egg_98 ⟨hW, kp0⟩
    have zs36 := sw_ne (by decide : (2 : Int32).toInt = 2) s36
    by_cases s40 : p1 = 3
    · refine x_tabIn C (tgt := 99) dX11_egg_17 (by rw [s40]; decide) (by rw [s40]; decide) (by rw [s40]; rfl) (by decide) ?_
      refine x_aload_n C dX11_egg_99 rfl 0 rfl rfl ?_
      refine x_get C (ci := 10) (k := 2) 0 k1 rfl in_X11 (by decide) w_387 rfl dX11_egg_100 rfl ?_
      refine x_get C (ci := 8) (k := 4) 5 k3 rfl in_X9 (by decide) w_209 rfl dX11_egg_103 rfl ?_
      refine x_get C (ci := 1) (k := 4) 14 k11 rfl in_X1 (by decide) w_138 rfl dX11_egg_106 rfl ?_
      refine x_iload_n C dX11_egg_109 rfl 1 rfl rfl ?_
      obtain ⟨_, k41, g42, gb43, rfl⟩ := hW 18 _ rfl
      refine x_ialk C (v := nI (g42 j21)) j21 (nI_clamp (by omega)) (nI_pos (by omega)) (by omega) 18 k41 rfl dX11_egg_110 rfl ?_
      have bx44 := gb43 j21
      exact x_zret C hr hlk rfl dX11_egg_111 ⟨hW, kp0⟩
    have zs40 := sw_ne (by decide : (3 : Int32).toInt = 3) s40
    by_cases s45 : p1 = 4
    · refine x_tabIn C (tgt := 112) dX11_egg_17 (by rw [s45]; decide) (by rw [s45]; decide) (by rw [s45]; rfl) (by decide) ?_
      refine x_aload_n C dX11_egg_112 rfl 0 rfl rfl ?_
      refine x_get C (ci := 10) (k := 2) 0 k1 rfl in_X11 (by decide) w_387 rfl dX11_egg_113 rfl ?_
      refine x_get C (ci := 8) (k := 4) 5 k3 rfl in_X9 (by decide) w_209 rfl dX11_egg_116 rfl ?_
      refine x_get C (ci := 1) (k := 5) 14 k11 rfl in_X1 (by decide) w_143 rfl dX11_egg_119 rfl ?_
      refine x_iload_n C dX11_egg_122 rfl 1 rfl rfl ?_
      obtain ⟨_, k46, f47, rfl⟩ := hW 19 _ rfl
      refine x_iald C (v := (f47 (nI j21).toNatClampNeg)) 19 k46 (vp_in_nI (by omega) (by decide)) rfl dX11_egg_123 rfl ?_
      refine x_any (fun v48 => ?_)
      exact x_zret C hr hlk rfl dX11_egg_124 ⟨hW, kp0⟩
    have zs45 := sw_ne (by decide : (4 : Int32).toInt = 4) s45
    by_cases s49 : p1 = 5
    · refine x_tabIn C (tgt := 125) dX11_egg_17 (by rw [s49]; decide) (by rw [s49]; decide) (by rw [s49]; rfl) (by decide) ?_
      refine x_aload_n C dX11_egg_125 rfl 0 rfl rfl ?_
      refine x_get C (ci := 10) (k := 2) 0 k1 rfl in_X11 (by decide) w_387 rfl dX11_egg_126 rfl ?_
      refine x_get C (ci := 8) (k := 4) 5 k3 rfl in_X9 (by decide) w_209 rfl dX11_egg_129 rfl ?_
      refine x_get C (ci := 1) (k := 6) 14 k11 rfl in_X1 (by decide) w_146 rfl dX11_egg_132 rfl ?_
      refine x_iload_n C dX11_egg_135 rfl 1 rfl rfl ?_
      obtain ⟨_, k50, f51, rfl⟩ := hW 20 _ rfl
      refine x_iald C (v := (f51 (nI j21).toNatClampNeg)) 20 k50 (vp_in_nI (by omega) (by decide)) rfl dX11_egg_136 rfl ?_
      refine x_any (fun v52 => ?_)
      exact x_zret C hr hlk rfl dX11_egg_137 ⟨hW, kp0⟩
    have zs49 := sw_ne (by decide : (5 : Int32).toInt = 5) s49
    have s53 : p1 = 6 := sw_last (n := 6) (by decide) s25 s26 (by omega)
    refine x_tabIn C (tgt := 138) dX11_egg_17 (by rw [s53]; decide) (by rw [s53]; decide) (by rw [s53]; rfl) (by decide) ?_
    refine x_aload_n C dX11_egg_138 rfl 0 rfl rfl ?_
    refine x_iload_n C dX11_egg_139 rfl 1 rfl rfl ?_
    refine x_vi C (As := [.int (nI j21)]) (rest := []) (c_firstBadDay E l a ws hW j21 hB (by omega)) mf_X11_firstBadDay w_862 0 k1 rfl rfl rfl (Nat.le_of_ble_eq_true rfl) ⟨(Nat.le_of_ble_eq_true rfl), (Nat.le_of_ble_eq_true rfl)⟩ ⟨(Nat.le_of_ble_eq_true rfl), (Nat.le_of_ble_eq_true rfl)⟩ dX11_egg_140 rfl (fun r55 w56 h54 => ?_)
    obtain ⟨hW57, kq58, x59⟩ := h54
    have k60 : w56[0]? = some (ob (a 0) 10 [.ref (a 1), .ref (a 3), .ref (a 5), .ref (a 27), .ref (a 49), .int v2, .ref (a 71), .ref (a 79), .ref (a 87), .ref (a 92), .ref (a 103), .ref (a 105), .ref (a 106), .ref (a 107), .ref (a 108), .ref (a 109), .ref (a 110), .ref (a 111), .ref (a 112)]) := keeps_at kq58 k1 (by first | decide | omega | (dsimp only; omega))
    have k61 : w56[5]? = some (ob (a 5) 8 [.int (nI n4), .int v6, .ref (a 6), .ref (a 9), .ref (a 14), .ref (a 21), .int v7, .int v8, .int v9, .int v10]) := keeps_at kq58 k3 (by first | decide | omega | (dsimp only; omega))
    have k62 : w56[14]? = some (ob (a 14) 1 [.int (nI n12), .ref (a 15), .ref (a 16), .ref (a 17), .ref (a 18), .ref (a 19), .ref (a 20)]) := keeps_at kq58 k11 (by first | decide | omega | (dsimp only; omega))
    have kp63 := keeps_tr kp0 kq58 (fun q hq => by first | omega | (dsimp only at *; omega))
    exact x_zret C hr hlk rfl dX11_egg_143 ⟨hW57, kp63⟩
  · skip
    refine x_iconst C (v := (-1)) dX11_egg_14 (by decide) rfl ?_
    exact x_zret C hr hlk rfl dX11_egg_15 ⟨hW, kp0⟩
theorem dX11_count_0 : decode cX11_count 0 = .ok (.iload_n 1, 1) := by decide +kernel
theorem dX11_count_1 : decode cX11_count 1 = .ok (.bipush 20, 2) := by decide +kernel
theorem dX11_count_3 : decode cX11_count 3 = .ok (.bipush 27, 2) := by decide +kernel
theorem dX11_count_5 : decode cX11_count 5 = .ok (.invokestatic 102, 3) := by decide +kernel
theorem dX11_count_8 : decode cX11_count 8 = .ok (.ifCond .eq 40, 3) := by decide +kernel
theorem dX11_count_11 : decode cX11_count 11 = .ok (.aload_n 0, 1) := by decide +kernel
theorem dX11_count_12 : decode cX11_count 12 = .ok (.getfield 22, 3) := by decide +kernel
theorem dX11_count_15 : decode cX11_count 15 = .ok (.getfield 109, 3) := by decide +kernel
theorem dX11_count_18 : decode cX11_count 18 = .ok (.iload_n 1, 1) := by decide +kernel
theorem dX11_count_19 : decode cX11_count 19 = .ok (.bipush 20, 2) := by decide +kernel
theorem dX11_count_21 : decode cX11_count 21 = .ok (.isub, 1) := by decide +kernel
theorem dX11_count_22 : decode cX11_count 22 = .ok (.invokevirtual 118, 3) := by decide +kernel
theorem dX11_count_25 : decode cX11_count 25 = .ok (.ifCond .eq 21, 3) := by decide +kernel
theorem dX11_count_28 : decode cX11_count 28 = .ok (.aload_n 0, 1) := by decide +kernel
theorem dX11_count_29 : decode cX11_count 29 = .ok (.getfield 22, 3) := by decide +kernel
theorem dX11_count_32 : decode cX11_count 32 = .ok (.getfield 109, 3) := by decide +kernel
theorem dX11_count_35 : decode cX11_count 35 = .ok (.getfield 403, 3) := by decide +kernel
theorem dX11_count_38 : decode cX11_count 38 = .ok (.iload_n 1, 1) := by decide +kernel
theorem dX11_count_39 : decode cX11_count 39 = .ok (.bipush 20, 2) := by decide +kernel
theorem dX11_count_41 : decode cX11_count 41 = .ok (.isub, 1) := by decide +kernel
theorem dX11_count_42 : decode cX11_count 42 = .ok (.iaload, 1) := by decide +kernel
theorem dX11_count_43 : decode cX11_count 43 = .ok (.goto 4, 3) := by decide +kernel
theorem dX11_count_46 : decode cX11_count 46 = .ok (.iconst (-1), 1) := by decide +kernel
theorem dX11_count_47 : decode cX11_count 47 = .ok (.ireturn, 1) := by decide +kernel
theorem dX11_count_48 : decode cX11_count 48 = .ok (.iload_n 1, 1) := by decide +kernel
theorem dX11_count_49 : decode cX11_count 49 = .ok (.bipush 30, 2) := by decide +kernel
theorem dX11_count_51 : decode cX11_count 51 = .ok (.bipush 37, 2) := by decide +kernel
theorem dX11_count_53 : decode cX11_count 53 = .ok (.invokestatic 102, 3) := by decide +kernel
theorem dX11_count_56 : decode cX11_count 56 = .ok (.ifCond .eq 40, 3) := by decide +kernel
theorem dX11_count_59 : decode cX11_count 59 = .ok (.aload_n 0, 1) := by decide +kernel
theorem dX11_count_60 : decode cX11_count 60 = .ok (.getfield 22, 3) := by decide +kernel
theorem dX11_count_63 : decode cX11_count 63 = .ok (.getfield 109, 3) := by decide +kernel
theorem dX11_count_66 : decode cX11_count 66 = .ok (.iload_n 1, 1) := by decide +kernel
theorem dX11_count_67 : decode cX11_count 67 = .ok (.bipush 30, 2) := by decide +kernel
theorem dX11_count_69 : decode cX11_count 69 = .ok (.isub, 1) := by decide +kernel
theorem dX11_count_70 : decode cX11_count 70 = .ok (.invokevirtual 118, 3) := by decide +kernel
theorem dX11_count_73 : decode cX11_count 73 = .ok (.ifCond .eq 21, 3) := by decide +kernel
theorem dX11_count_76 : decode cX11_count 76 = .ok (.aload_n 0, 1) := by decide +kernel
theorem dX11_count_77 : decode cX11_count 77 = .ok (.getfield 22, 3) := by decide +kernel
theorem dX11_count_80 : decode cX11_count 80 = .ok (.getfield 109, 3) := by decide +kernel
theorem dX11_count_83 : decode cX11_count 83 = .ok (.getfield 406, 3) := by decide +kernel
theorem dX11_count_86 : decode cX11_count 86 = .ok (.iload_n 1, 1) := by decide +kernel
theorem dX11_count_87 : decode cX11_count 87 = .ok (.bipush 30, 2) := by decide +kernel
theorem dX11_count_89 : decode cX11_count 89 = .ok (.isub, 1) := by decide +kernel
theorem dX11_count_90 : decode cX11_count 90 = .ok (.iaload, 1) := by decide +kernel
theorem dX11_count_91 : decode cX11_count 91 = .ok (.goto 4, 3) := by decide +kernel
theorem dX11_count_94 : decode cX11_count 94 = .ok (.iconst (-1), 1) := by decide +kernel
theorem dX11_count_95 : decode cX11_count 95 = .ok (.ireturn, 1) := by decide +kernel
theorem dX11_count_96 : decode cX11_count 96 = .ok (.iload_n 1, 1) := by decide +kernel
theorem dX11_count_97 : decode cX11_count 97 = .ok (.tableswitch 171 0 10 #[59, 67, 78, 90, 102, 114, 122, 130, 138, 149, 160], 59) := by decide +kernel
theorem dX11_count_156 : decode cX11_count 156 = .ok (.aload_n 0, 1) := by decide +kernel
theorem dX11_count_157 : decode cX11_count 157 = .ok (.getfield 22, 3) := by decide +kernel
theorem dX11_count_160 : decode cX11_count 160 = .ok (.getfield 273, 3) := by decide +kernel
theorem dX11_count_163 : decode cX11_count 163 = .ok (.ireturn, 1) := by decide +kernel
theorem dX11_count_164 : decode cX11_count 164 = .ok (.aload_n 0, 1) := by decide +kernel
theorem dX11_count_165 : decode cX11_count 165 = .ok (.getfield 22, 3) := by decide +kernel
theorem dX11_count_168 : decode cX11_count 168 = .ok (.getfield 132, 3) := by decide +kernel
theorem dX11_count_171 : decode cX11_count 171 = .ok (.getfield 383, 3) := by decide +kernel
theorem dX11_count_174 : decode cX11_count 174 = .ok (.ireturn, 1) := by decide +kernel
theorem dX11_count_175 : decode cX11_count 175 = .ok (.aload_n 0, 1) := by decide +kernel
theorem dX11_count_176 : decode cX11_count 176 = .ok (.getfield 22, 3) := by decide +kernel
theorem dX11_count_179 : decode cX11_count 179 = .ok (.getfield 132, 3) := by decide +kernel
theorem dX11_count_182 : decode cX11_count 182 = .ok (.iconst 0, 1) := by decide +kernel
theorem dX11_count_183 : decode cX11_count 183 = .ok (.invokevirtual 203, 3) := by decide +kernel
theorem dX11_count_186 : decode cX11_count 186 = .ok (.ireturn, 1) := by decide +kernel
theorem dX11_count_187 : decode cX11_count 187 = .ok (.aload_n 0, 1) := by decide +kernel
theorem dX11_count_188 : decode cX11_count 188 = .ok (.getfield 22, 3) := by decide +kernel
theorem dX11_count_191 : decode cX11_count 191 = .ok (.getfield 132, 3) := by decide +kernel
theorem dX11_count_194 : decode cX11_count 194 = .ok (.iconst 1, 1) := by decide +kernel
theorem dX11_count_195 : decode cX11_count 195 = .ok (.invokevirtual 203, 3) := by decide +kernel
theorem dX11_count_198 : decode cX11_count 198 = .ok (.ireturn, 1) := by decide +kernel
theorem dX11_count_199 : decode cX11_count 199 = .ok (.aload_n 0, 1) := by decide +kernel
theorem dX11_count_200 : decode cX11_count 200 = .ok (.getfield 22, 3) := by decide +kernel
theorem dX11_count_203 : decode cX11_count 203 = .ok (.getfield 132, 3) := by decide +kernel
theorem dX11_count_206 : decode cX11_count 206 = .ok (.iconst 2, 1) := by decide +kernel
theorem dX11_count_207 : decode cX11_count 207 = .ok (.invokevirtual 203, 3) := by decide +kernel
theorem dX11_count_210 : decode cX11_count 210 = .ok (.ireturn, 1) := by decide +kernel
theorem dX11_count_211 : decode cX11_count 211 = .ok (.aload_n 0, 1) := by decide +kernel
theorem dX11_count_212 : decode cX11_count 212 = .ok (.getfield 39, 3) := by decide +kernel
theorem dX11_count_215 : decode cX11_count 215 = .ok (.getfield 165, 3) := by decide +kernel
theorem dX11_count_218 : decode cX11_count 218 = .ok (.ireturn, 1) := by decide +kernel
theorem dX11_count_219 : decode cX11_count 219 = .ok (.aload_n 0, 1) := by decide +kernel
theorem dX11_count_220 : decode cX11_count 220 = .ok (.getfield 10, 3) := by decide +kernel
theorem dX11_count_223 : decode cX11_count 223 = .ok (.getfield 142, 3) := by decide +kernel
theorem dX11_count_226 : decode cX11_count 226 = .ok (.ireturn, 1) := by decide +kernel
theorem dX11_count_227 : decode cX11_count 227 = .ok (.aload_n 0, 1) := by decide +kernel
theorem dX11_count_228 : decode cX11_count 228 = .ok (.getfield 22, 3) := by decide +kernel
theorem dX11_count_231 : decode cX11_count 231 = .ok (.getfield 394, 3) := by decide +kernel
theorem dX11_count_234 : decode cX11_count 234 = .ok (.ireturn, 1) := by decide +kernel
theorem dX11_count_235 : decode cX11_count 235 = .ok (.aload_n 0, 1) := by decide +kernel
theorem dX11_count_236 : decode cX11_count 236 = .ok (.getfield 22, 3) := by decide +kernel
theorem dX11_count_239 : decode cX11_count 239 = .ok (.getfield 92, 3) := by decide +kernel
theorem dX11_count_242 : decode cX11_count 242 = .ok (.getfield 407, 3) := by decide +kernel
theorem dX11_count_245 : decode cX11_count 245 = .ok (.ireturn, 1) := by decide +kernel
theorem dX11_count_246 : decode cX11_count 246 = .ok (.aload_n 0, 1) := by decide +kernel
theorem dX11_count_247 : decode cX11_count 247 = .ok (.getfield 22, 3) := by decide +kernel
theorem dX11_count_250 : decode cX11_count 250 = .ok (.getfield 109, 3) := by decide +kernel
theorem dX11_count_253 : decode cX11_count 253 = .ok (.getfield 119, 3) := by decide +kernel
theorem dX11_count_256 : decode cX11_count 256 = .ok (.ireturn, 1) := by decide +kernel
theorem dX11_count_257 : decode cX11_count 257 = .ok (.aload_n 0, 1) := by decide +kernel
theorem dX11_count_258 : decode cX11_count 258 = .ok (.getfield 22, 3) := by decide +kernel
theorem dX11_count_261 : decode cX11_count 261 = .ok (.getfield 123, 3) := by decide +kernel
theorem dX11_count_264 : decode cX11_count 264 = .ok (.getfield 280, 3) := by decide +kernel
theorem dX11_count_267 : decode cX11_count 267 = .ok (.ireturn, 1) := by decide +kernel
theorem dX11_count_268 : decode cX11_count 268 = .ok (.iconst (-1), 1) := by decide +kernel
theorem dX11_count_269 : decode cX11_count 269 = .ok (.ireturn, 1) := by decide +kernel
set_option maxRecDepth 20000 in
set_option maxHeartbeats 4000000 in
theorem c_count (E : xE) (l : Launch) (a : Nat → Nat) (ws : va_W) (hW : WX (okX E a) ws) (p0 : Int32) : xI E l yX11_count cX11_count 2 (some .int) 8 [.ref (a 0), .int p0] ws (fun r w => WX (okX E a) w ∧ keeps ws w (fun q => ¬ (q = 0 ∨ q = 6 ∨ q = 9 ∨ q = 28 ∨ q = 31))) := by
  refine xI_start (lv := [(0, .ref (a 0)), (1, .int p0)]) RX11 (by decide) rfl (Nat.le_of_ble_eq_true rfl) rfl (fun p e s m below meth c A C hr hlk => ?_)
  have kp0 : keeps ws ws (fun q => ¬ (q = 0 ∨ q = 6 ∨ q = 9 ∨ q = 28 ∨ q = 31)) := keeps_rf
  refine x_iload_n C dX11_count_0 rfl 1 rfl rfl ?_
  refine x_bipush C (v := 20) dX11_count_1 (by decide) rfl ?_
  refine x_bipush C (v := 27) dX11_count_3 (by decide) rfl ?_
  refine x_si C (As := [.int p0, .int 20, .int 27]) (rest := []) (c_isWithin E l a ws hW p0 (20 : Int32) (27 : Int32)) mf_X11_isWithin w_462 rfl rfl (Nat.le_of_ble_eq_true rfl) ⟨(Nat.le_of_ble_eq_true rfl), (Nat.le_of_ble_eq_true rfl)⟩ ⟨(Nat.le_of_ble_eq_true rfl), (Nat.le_of_ble_eq_true rfl)⟩ dX11_count_5 rfl (fun r2 w3 h1 => ?_)
  obtain ⟨hW4, zb5, x6⟩ := h1
  refine x_ws hW4 ?_
  refine x_if_eq C (tgt := 48) dX11_count_8 (by decide) rfl (fun c7 => ?_) (fun c7 => ?_)
  · skip
    refine x_iload_n C dX11_count_48 rfl 1 rfl rfl ?_
    refine x_bipush C (v := 30) dX11_count_49 (by decide) rfl ?_
    refine x_bipush C (v := 37) dX11_count_51 (by decide) rfl ?_
    refine x_si C (As := [.int p0, .int 30, .int 37]) (rest := []) (c_isWithin E l a ws hW p0 (30 : Int32) (37 : Int32)) mf_X11_isWithin w_462 rfl rfl (Nat.le_of_ble_eq_true rfl) ⟨(Nat.le_of_ble_eq_true rfl), (Nat.le_of_ble_eq_true rfl)⟩ ⟨(Nat.le_of_ble_eq_true rfl), (Nat.le_of_ble_eq_true rfl)⟩ dX11_count_53 rfl (fun r9 w10 h8 => ?_)
    obtain ⟨hW11, zb12, x13⟩ := h8
    refine x_ws hW11 ?_
    refine x_if_eq C (tgt := 96) dX11_count_56 (by decide) rfl (fun c14 => ?_) (fun c14 => ?_)
    · skip
      refine x_iload_n C dX11_count_96 rfl 1 rfl rfl ?_
      by_cases s15 : (p0).toInt < 0
      · refine x_tabOut C (tgt := 268) dX11_count_97 (Or.inl s15) (by decide) ?_
        refine x_iconst C (v := (-1)) dX11_count_268 (by decide) rfl ?_
        exact x_zret C hr hlk rfl dX11_count_269 ⟨hW, kp0⟩
      by_cases s16 : 10 < (p0).toInt
      · refine x_tabOut C (tgt := 268) dX11_count_97 (Or.inr s16) (by decide) ?_
        refine x_iconst C (v := (-1)) dX11_count_268 (by decide) rfl ?_
        exact x_zret C hr hlk rfl dX11_count_269 ⟨hW, kp0⟩
      by_cases s17 : p0 = 0
      · refine x_tabIn C (tgt := 156) dX11_count_97 (by rw [s17]; decide) (by rw [s17]; decide) (by rw [s17]; rfl) (by decide) ?_
        refine x_aload_n C dX11_count_156 rfl 0 rfl rfl ?_
        obtain ⟨_, k18, v19, rfl⟩ := hW 0 _ rfl
        refine x_get C (ci := 10) (k := 2) 0 k18 rfl in_X11 (by decide) w_387 rfl dX11_count_157 rfl ?_
        obtain ⟨_, k20, n21, v23, v24, v25, v26, v27, bn22, rfl⟩ := hW 5 _ rfl
        refine x_get C (ci := 8) (k := 0) 5 k20 rfl in_X9 (by decide) w_197 rfl dX11_count_160 rfl ?_
        exact x_zret C hr hlk rfl dX11_count_163 ⟨hW, kp0⟩
      have zs17 := sw_ne (by decide : (0 : Int32).toInt = 0) s17
      by_cases s28 : p0 = 1
      · refine x_tabIn C (tgt := 164) dX11_count_97 (by rw [s28]; decide) (by rw [s28]; decide) (by rw [s28]; rfl) (by decide) ?_
        refine x_aload_n C dX11_count_164 rfl 0 rfl rfl ?_
        obtain ⟨_, k29, v30, rfl⟩ := hW 0 _ rfl
        refine x_get C (ci := 10) (k := 2) 0 k29 rfl in_X11 (by decide) w_387 rfl dX11_count_165 rfl ?_
        obtain ⟨_, k31, n32, v34, v35, v36, v37, v38, bn33, rfl⟩ := hW 5 _ rfl
        refine x_get C (ci := 8) (k := 4) 5 k31 rfl in_X9 (by decide) w_209 rfl dX11_count_168 rfl ?_
        obtain ⟨_, k39, n40, bn41, rfl⟩ := hW 14 _ rfl
        refine x_get C (ci := 1) (k := 0) 14 k39 rfl in_X1 (by decide) w_122 rfl dX11_count_171 rfl ?_
        exact x_zret C hr hlk rfl dX11_count_174 ⟨hW, kp0⟩
      have zs28 := sw_ne (by decide : (1 : Int32).toInt = 1) s28
      by_cases s42 : p0 = 2
      · refine x_tabIn C (tgt := 175) dX11_count_97 (by rw [s42]; decide) (by rw [s42]; decide) (by rw [s42]; rfl) (by decide) ?_
        refine x_aload_n C dX11_count_175 rfl 0 rfl rfl ?_
        obtain ⟨_, k43, v44, rfl⟩ := hW 0 _ rfl
        refine x_get C (ci := 10) (k := 2) 0 k43 rfl in_X11 (by decide) w_387 rfl dX11_count_176 rfl ?_
        obtain ⟨_, k45, n46, v48, v49, v50, v51, v52, bn47, rfl⟩ := hW 5 _ rfl
        refine x_get C (ci := 8) (k := 4) 5 k45 rfl in_X9 (by decide) w_209 rfl dX11_count_179 rfl ?_
        refine x_iconst C (v := 0) dX11_count_182 (by decide) rfl ?_
        obtain ⟨_, k53, n54, bn55, rfl⟩ := hW 14 _ rfl
        refine x_vi C (As := [.int 0]) (rest := []) (c_Eggs_howMany E l a ws hW 5 (Or.inl rfl) (0 : Int32)) mf_X1_howMany w_853 14 k53 rfl rfl rfl (Nat.le_of_ble_eq_true rfl) ⟨(Nat.le_of_ble_eq_true rfl), (Nat.le_of_ble_eq_true rfl)⟩ ⟨(Nat.le_of_ble_eq_true rfl), (Nat.le_of_ble_eq_true rfl)⟩ dX11_count_183 rfl (fun r57 w58 h56 => ?_)
        have hW59 := h56
        refine x_ws hW59 ?_
        exact x_zret C hr hlk rfl dX11_count_186 ⟨hW, kp0⟩
      have zs42 := sw_ne (by decide : (2 : Int32).toInt = 2) s42
      by_cases s60 : p0 = 3
      · refine x_tabIn C (tgt := 187) dX11_count_97 (by rw [s60]; decide) (by rw [s60]; decide) (by rw [s60]; rfl) (by decide) ?_
        refine x_aload_n C dX11_count_187 rfl 0 rfl rfl ?_
        obtain ⟨_, k61, v62, rfl⟩ := hW 0 _ rfl
        refine x_get C (ci := 10) (k := 2) 0 k61 rfl in_X11 (by decide) w_387 rfl dX11_count_188 rfl ?_
        obtain ⟨_, k63, n64, v66, v67, v68, v69, v70, bn65, rfl⟩ := hW 5 _ rfl
        refine x_get C (ci := 8) (k := 4) 5 k63 rfl in_X9 (by decide) w_209 rfl dX11_count_191 rfl ?_
        refine x_iconst C (v := 1) dX11_count_194 (by decide) rfl ?_
        obtain ⟨_, k71, n72, bn73, rfl⟩ := hW 14 _ rfl
        refine x_vi C (As := [.int 1]) (rest := []) (c_Eggs_howMany E l a ws hW 5 (Or.inl rfl) (1 : Int32)) mf_X1_howMany w_853 14 k71 rfl rfl rfl (Nat.le_of_ble_eq_true rfl) ⟨(Nat.le_of_ble_eq_true rfl), (Nat.le_of_ble_eq_true rfl)⟩ ⟨(Nat.le_of_ble_eq_true rfl), (Nat.le_of_ble_eq_true rfl)⟩ dX11_count_195 rfl (fun r75 w76 h74 => ?_)
        have hW77 := h74
        refine x_ws hW77 ?_
        exact x_zret C hr hlk rfl dX11_count_198 ⟨hW, kp0⟩
      have zs60 := sw_ne (by decide : (3 : Int32).toInt = 3) s60
      by_cases s78 : p0 = 4
      · refine x_tabIn C (tgt := 199) dX11_count_97 (by rw [s78]; decide) (by rw [s78]; decide) (by rw [s78]; rfl) (by decide) ?_
        refine x_aload_n C dX11_count_199 rfl 0 rfl rfl ?_
        obtain ⟨_, k79, v80, rfl⟩ := hW 0 _ rfl
        refine x_get C (ci := 10) (k := 2) 0 k79 rfl in_X11 (by decide) w_387 rfl dX11_count_200 rfl ?_
        obtain ⟨_, k81, n82, v84, v85, v86, v87, v88, bn83, rfl⟩ := hW 5 _ rfl
        refine x_get C (ci := 8) (k := 4) 5 k81 rfl in_X9 (by decide) w_209 rfl dX11_count_203 rfl ?_
        refine x_iconst C (v := 2) dX11_count_206 (by decide) rfl ?_
        obtain ⟨_, k89, n90, bn91, rfl⟩ := hW 14 _ rfl
        refine x_vi C (As := [.int 2]) (rest := []) (c_Eggs_howMany E l a ws hW 5 (Or.inl rfl) (2 : Int32)) mf_X1_howMany w_853 14 k89 rfl rfl rfl (Nat.le_of_ble_eq_true rfl) ⟨(Nat.le_of_ble_eq_true rfl), (Nat.le_of_ble_eq_true rfl)⟩ ⟨(Nat.le_of_ble_eq_true rfl), (Nat.le_of_ble_eq_true rfl)⟩ dX11_count_207 rfl (fun r93 w94 h92 => ?_)
        have hW95 := h92
        refine x_ws hW95 ?_
        exact x_zret C hr hlk rfl dX11_count_210 ⟨hW, kp0⟩
      have zs78 := sw_ne (by decide : (4 : Int32).toInt = 4) s78
      by_cases s96 : p0 = 5
      · refine x_tabIn C (tgt := 211) dX11_count_97 (by rw [s96]; decide) (by rw [s96]; decide) (by rw [s96]; rfl) (by decide) ?_
        refine x_aload_n C dX11_count_211 rfl 0 rfl rfl ?_
        obtain ⟨_, k97, v98, rfl⟩ := hW 0 _ rfl
        refine x_get C (ci := 10) (k := 6) 0 k97 rfl in_X11 (by decide) w_391 rfl dX11_count_212 rfl ?_
        obtain ⟨_, k99, v100, n101, n103, bn102, bn104, rfl⟩ := hW 71 _ rfl
        refine x_get C (ci := 3) (k := 0) 71 k99 rfl in_X3 (by decide) w_252 rfl dX11_count_215 rfl ?_
        exact x_zret C hr hlk rfl dX11_count_218 ⟨hW, kp0⟩
      have zs96 := sw_ne (by decide : (5 : Int32).toInt = 5) s96
      by_cases s105 : p0 = 6
      · refine x_tabIn C (tgt := 219) dX11_count_97 (by rw [s105]; decide) (by rw [s105]; decide) (by rw [s105]; rfl) (by decide) ?_
        refine x_aload_n C dX11_count_219 rfl 0 rfl rfl ?_
        obtain ⟨_, k106, v107, rfl⟩ := hW 0 _ rfl
        refine x_get C (ci := 10) (k := 0) 0 k106 rfl in_X11 (by decide) w_385 rfl dX11_count_220 rfl ?_
        obtain ⟨_, k108, n109, v111, v112, v113, bn110, rfl⟩ := hW 1 _ rfl
        refine x_get C (ci := 7) (k := 1) 1 k108 rfl in_X8 (by decide) w_38 rfl dX11_count_223 rfl ?_
        exact x_zret C hr hlk rfl dX11_count_226 ⟨hW, kp0⟩
      have zs105 := sw_ne (by decide : (6 : Int32).toInt = 6) s105
      by_cases s114 : p0 = 7
      · refine x_tabIn C (tgt := 227) dX11_count_97 (by rw [s114]; decide) (by rw [s114]; decide) (by rw [s114]; rfl) (by decide) ?_
        refine x_aload_n C dX11_count_227 rfl 0 rfl rfl ?_
        obtain ⟨_, k115, v116, rfl⟩ := hW 0 _ rfl
        refine x_get C (ci := 10) (k := 2) 0 k115 rfl in_X11 (by decide) w_387 rfl dX11_count_228 rfl ?_
        obtain ⟨_, k117, n118, v120, v121, v122, v123, v124, bn119, rfl⟩ := hW 5 _ rfl
        refine x_get C (ci := 8) (k := 1) 5 k117 rfl in_X9 (by decide) w_199 rfl dX11_count_231 rfl ?_
        exact x_zret C hr hlk rfl dX11_count_234 ⟨hW, kp0⟩
      have zs114 := sw_ne (by decide : (7 : Int32).toInt = 7) s114
      by_cases s125 : p0 = 8
      · refine x_tabIn C (tgt := 235) dX11_count_97 (by rw [s125]; decide) (by rw [s125]; decide) (by rw [s125]; rfl) (by decide) ?_
        refine x_aload_n C dX11_count_235 rfl 0 rfl rfl ?_
        obtain ⟨_, k126, v127, rfl⟩ := hW 0 _ rfl
        refine x_get C (ci := 10) (k := 2) 0 k126 rfl in_X11 (by decide) w_387 rfl dX11_count_236 rfl ?_
        obtain ⟨_, k128, n129, v131, v132, v133, v134, v135, bn130, rfl⟩ := hW 5 _ rfl
        refine x_get C (ci := 8) (k := 3) 5 k128 rfl in_X9 (by decide) w_204 rfl dX11_count_239 rfl ?_
        obtain ⟨_, k136, v137, rfl⟩ := hW 9 _ rfl
        refine x_get C (ci := 4) (k := 0) 9 k136 rfl in_X5 (by decide) w_91 rfl dX11_count_242 rfl ?_
        exact x_zret C hr hlk rfl dX11_count_245 ⟨hW, kp0⟩
      have zs125 := sw_ne (by decide : (8 : Int32).toInt = 8) s125
      by_cases s138 : p0 = 9
      · refine x_tabIn C (tgt := 246) dX11_count_97 (by rw [s138]; decide) (by rw [s138]; decide) (by rw [s138]; rfl) (by decide) ?_
        refine x_aload_n C dX11_count_246 rfl 0 rfl rfl ?_
        obtain ⟨_, k139, v140, rfl⟩ := hW 0 _ rfl
        refine x_get C (ci := 10) (k := 2) 0 k139 rfl in_X11 (by decide) w_387 rfl dX11_count_247 rfl ?_
        obtain ⟨_, k141, n142, v144, v145, v146, v147, v148, bn143, rfl⟩ := hW 5 _ rfl
        refine x_get C (ci := 8) (k := 2) 5 k141 rfl in_X9 (by decide) w_201 rfl dX11_count_250 rfl ?_
        obtain ⟨_, k149, v150, rfl⟩ := hW 6 _ rfl
        refine x_get C (ci := 2) (k := 0) 6 k149 rfl in_X2 (by decide) w_69 rfl dX11_count_253 rfl ?_
        exact x_zret C hr hlk rfl dX11_count_256 ⟨hW, kp0⟩
      have zs138 := sw_ne (by decide : (9 : Int32).toInt = 9) s138
      have s151 : p0 = 10 := sw_last (n := 10) (by decide) s15 s16 (by omega)
      refine x_tabIn C (tgt := 257) dX11_count_97 (by rw [s151]; decide) (by rw [s151]; decide) (by rw [s151]; rfl) (by decide) ?_
      refine x_aload_n C dX11_count_257 rfl 0 rfl rfl ?_
      obtain ⟨_, k152, v153, rfl⟩ := hW 0 _ rfl
      refine x_get C (ci := 10) (k := 2) 0 k152 rfl in_X11 (by decide) w_387 rfl dX11_count_258 rfl ?_
      obtain ⟨_, k154, n155, v157, v158, v159, v160, v161, bn156, rfl⟩ := hW 5 _ rfl
      refine x_get C (ci := 8) (k := 5) 5 k154 rfl in_X9 (by decide) w_213 rfl dX11_count_261 rfl ?_
      obtain ⟨_, k162, v163, rfl⟩ := hW 21 _ rfl
      refine x_get C (ci := 9) (k := 0) 21 k162 rfl in_X10 (by decide) w_169 rfl dX11_count_264 rfl ?_
      exact x_zret C hr hlk rfl dX11_count_267 ⟨hW, kp0⟩
    · skip
      obtain ⟨j164, hl165, hh166, ej167⟩ := w_nat (a := 30) (b := 37) (by decide) (by decide) (x13 c14)
      subst ej167
      refine x_aload_n C dX11_count_59 rfl 0 rfl rfl ?_
      obtain ⟨_, k168, v169, rfl⟩ := hW 0 _ rfl
      refine x_get C (ci := 10) (k := 2) 0 k168 rfl in_X11 (by decide) w_387 rfl dX11_count_60 rfl ?_
      obtain ⟨_, k170, n171, v173, v174, v175, v176, v177, bn172, rfl⟩ := hW 5 _ rfl
      refine x_get C (ci := 8) (k := 2) 5 k170 rfl in_X9 (by decide) w_201 rfl dX11_count_63 rfl ?_
      refine x_iload_n C dX11_count_66 rfl 1 rfl rfl ?_
      refine x_bipush C (v := 30) dX11_count_67 (by decide) rfl ?_
      refine x_isub C (v := (nI (j164 - 30))) dX11_count_69 (pk_sub (a := j164) (b := 30) (by omega)) rfl ?_
      obtain ⟨_, k178, v179, rfl⟩ := hW 6 _ rfl
      refine x_vi C (As := [.int (nI (j164 - 30))]) (rest := []) (c_Hens_isTold E l a ws hW 5 (Or.inl rfl) ((nI (j164 - 30)))) mf_X2_isTold w_474 6 k178 rfl rfl rfl (Nat.le_of_ble_eq_true rfl) ⟨(Nat.le_of_ble_eq_true rfl), (Nat.le_of_ble_eq_true rfl)⟩ ⟨(Nat.le_of_ble_eq_true rfl), (Nat.le_of_ble_eq_true rfl)⟩ dX11_count_70 rfl (fun r181 w182 h180 => ?_)
      obtain ⟨hW183, zb184, x185⟩ := h180
      refine x_ws hW183 ?_
      refine x_if_eq C (tgt := 94) dX11_count_73 (by decide) rfl (fun c186 => ?_) (fun c186 => ?_)
      · skip
        refine x_iconst C (v := (-1)) dX11_count_94 (by decide) rfl ?_
        exact x_zret C hr hlk rfl dX11_count_95 ⟨hW, kp0⟩
      · skip
        have wi187 := wth_le (a := 0) (b := 7) (j := (j164 - 30)) (x185 c186) (by omega) (by decide) (by decide)
        refine x_aload_n C dX11_count_76 rfl 0 rfl rfl ?_
        refine x_get C (ci := 10) (k := 2) 0 k168 rfl in_X11 (by decide) w_387 rfl dX11_count_77 rfl ?_
        refine x_get C (ci := 8) (k := 2) 5 k170 rfl in_X9 (by decide) w_201 rfl dX11_count_80 rfl ?_
        refine x_get C (ci := 2) (k := 2) 6 k178 rfl in_X2 (by decide) w_76 rfl dX11_count_83 rfl ?_
        refine x_iload_n C dX11_count_86 rfl 1 rfl rfl ?_
        refine x_bipush C (v := 30) dX11_count_87 (by decide) rfl ?_
        refine x_isub C (v := (nI (j164 - 30))) dX11_count_89 (pk_sub (a := j164) (b := 30) (by omega)) rfl ?_
        obtain ⟨_, k188, g189, gb190, rfl⟩ := hW 8 _ rfl
        refine x_ialk C (v := nI (g189 (j164 - 30))) (j164 - 30) (nI_clamp (by omega)) (nI_pos (by omega)) (by omega) 8 k188 rfl dX11_count_90 rfl ?_
        have bx191 := gb190 (j164 - 30)
        refine x_goto C (tgt := 95) dX11_count_91 (by decide) ?_
        exact x_zret C hr hlk rfl dX11_count_95 ⟨hW, kp0⟩
  · skip
    obtain ⟨j192, hl193, hh194, ej195⟩ := w_nat (a := 20) (b := 27) (by decide) (by decide) (x6 c7)
    subst ej195
    refine x_aload_n C dX11_count_11 rfl 0 rfl rfl ?_
    obtain ⟨_, k196, v197, rfl⟩ := hW 0 _ rfl
    refine x_get C (ci := 10) (k := 2) 0 k196 rfl in_X11 (by decide) w_387 rfl dX11_count_12 rfl ?_
    obtain ⟨_, k198, n199, v201, v202, v203, v204, v205, bn200, rfl⟩ := hW 5 _ rfl
    refine x_get C (ci := 8) (k := 2) 5 k198 rfl in_X9 (by decide) w_201 rfl dX11_count_15 rfl ?_
    refine x_iload_n C dX11_count_18 rfl 1 rfl rfl ?_
    refine x_bipush C (v := 20) dX11_count_19 (by decide) rfl ?_
    refine x_isub C (v := (nI (j192 - 20))) dX11_count_21 (pk_sub (a := j192) (b := 20) (by omega)) rfl ?_
    obtain ⟨_, k206, v207, rfl⟩ := hW 6 _ rfl
    refine x_vi C (As := [.int (nI (j192 - 20))]) (rest := []) (c_Hens_isTold E l a ws hW 5 (Or.inl rfl) ((nI (j192 - 20)))) mf_X2_isTold w_474 6 k206 rfl rfl rfl (Nat.le_of_ble_eq_true rfl) ⟨(Nat.le_of_ble_eq_true rfl), (Nat.le_of_ble_eq_true rfl)⟩ ⟨(Nat.le_of_ble_eq_true rfl), (Nat.le_of_ble_eq_true rfl)⟩ dX11_count_22 rfl (fun r209 w210 h208 => ?_)
    obtain ⟨hW211, zb212, x213⟩ := h208
    refine x_ws hW211 ?_
    refine x_if_eq C (tgt := 46) dX11_count_25 (by decide) rfl (fun c214 => ?_) (fun c214 => ?_)
    · skip
      refine x_iconst C (v := (-1)) dX11_count_46 (by decide) rfl ?_
      exact x_zret C hr hlk rfl dX11_count_47 ⟨hW, kp0⟩
    · skip
      have wi215 := wth_le (a := 0) (b := 7) (j := (j192 - 20)) (x213 c214) (by omega) (by decide) (by decide)
      refine x_aload_n C dX11_count_28 rfl 0 rfl rfl ?_
      refine x_get C (ci := 10) (k := 2) 0 k196 rfl in_X11 (by decide) w_387 rfl dX11_count_29 rfl ?_
      refine x_get C (ci := 8) (k := 2) 5 k198 rfl in_X9 (by decide) w_201 rfl dX11_count_32 rfl ?_
      refine x_get C (ci := 2) (k := 1) 6 k206 rfl in_X2 (by decide) w_72 rfl dX11_count_35 rfl ?_
      refine x_iload_n C dX11_count_38 rfl 1 rfl rfl ?_
      refine x_bipush C (v := 20) dX11_count_39 (by decide) rfl ?_
      refine x_isub C (v := (nI (j192 - 20))) dX11_count_41 (pk_sub (a := j192) (b := 20) (by omega)) rfl ?_
      obtain ⟨_, k216, f217, rfl⟩ := hW 7 _ rfl
      refine x_iald C (v := (f217 (nI (j192 - 20)).toNatClampNeg)) 7 k216 (vp_in_nI (by omega) (by decide)) rfl dX11_count_42 rfl ?_
      refine x_any (fun v218 => ?_)
      refine x_goto C (tgt := 47) dX11_count_43 (by decide) ?_
      exact x_zret C hr hlk rfl dX11_count_47 ⟨hW, kp0⟩
theorem dX11_isNearer_0 : decode cX11_isNearer 0 = .ok (.iload_n 0, 1) := by decide +kernel
theorem dX11_isNearer_1 : decode cX11_isNearer 1 = .ok (.iload_n 1, 1) := by decide +kernel
theorem dX11_isNearer_2 : decode cX11_isNearer 2 = .ok (.iadd, 1) := by decide +kernel
theorem dX11_isNearer_3 : decode cX11_isNearer 3 = .ok (.invokestatic 390, 3) := by decide +kernel
theorem dX11_isNearer_6 : decode cX11_isNearer 6 = .ok (.iload_n 0, 1) := by decide +kernel
theorem dX11_isNearer_7 : decode cX11_isNearer 7 = .ok (.invokestatic 390, 3) := by decide +kernel
theorem dX11_isNearer_10 : decode cX11_isNearer 10 = .ok (.if_icmp .ge 7, 3) := by decide +kernel
theorem dX11_isNearer_13 : decode cX11_isNearer 13 = .ok (.iconst 1, 1) := by decide +kernel
theorem dX11_isNearer_14 : decode cX11_isNearer 14 = .ok (.goto 4, 3) := by decide +kernel
theorem dX11_isNearer_17 : decode cX11_isNearer 17 = .ok (.iconst 0, 1) := by decide +kernel
theorem dX11_isNearer_18 : decode cX11_isNearer 18 = .ok (.ireturn, 1) := by decide +kernel
set_option maxRecDepth 20000 in
set_option maxHeartbeats 4000000 in
theorem c_isNearer (E : xE) (l : Launch) (a : Nat → Nat) (ws : va_W) (hW : WX (okX E a) ws) (p0 : Int32) (p1 : Int32) : xI E l yX11_isNearer cX11_isNearer 2 (some .boolean) 1 [.int p0, .int p1] ws (fun r w => w = ws ∧ zb r) := by
  refine xI_start (lv := [(0, .int p0), (1, .int p1)]) RX11 (by decide) rfl (Nat.le_of_ble_eq_true rfl) rfl (fun p e s m below meth c A C hr hlk => ?_)
  refine x_iload_n C dX11_isNearer_0 rfl 0 rfl rfl ?_
  refine x_iload_n C dX11_isNearer_1 rfl 1 rfl rfl ?_
  refine x_iadd C (v := (p0 + p1)) dX11_isNearer_2 rfl rfl ?_
  refine x_any (fun v1 => ?_)
  refine x_mabs C (v := (if 0 ≤ v1 then v1 else 0 - v1)) w_1078 w_1079 w_16 w_1080 (Nat.le_of_ble_eq_true rfl) (Nat.le_of_ble_eq_true rfl) (Nat.le_of_ble_eq_true rfl) (Nat.le_of_ble_eq_true rfl) rfl dX11_isNearer_3 rfl ?_
  refine x_any (fun v2 => ?_)
  refine x_iload_n C dX11_isNearer_6 rfl 0 rfl rfl ?_
  refine x_mabs C (v := (if 0 ≤ p0 then p0 else 0 - p0)) w_1078 w_1079 w_16 w_1080 (Nat.le_of_ble_eq_true rfl) (Nat.le_of_ble_eq_true rfl) (Nat.le_of_ble_eq_true rfl) (Nat.le_of_ble_eq_true rfl) rfl dX11_isNearer_7 rfl ?_
  refine x_any (fun v3 => ?_)
  refine x_icmp_ge C (tgt := 17) dX11_isNearer_10 (by decide) rfl (fun c4 => ?_) (fun c4 => ?_)
  · skip
    refine x_iconst C (v := 0) dX11_isNearer_17 (by decide) rfl ?_
    exact x_zret C hr hlk rfl dX11_isNearer_18 ⟨rfl, (Or.inl rfl)⟩
  · skip
    refine x_iconst C (v := 1) dX11_isNearer_13 (by decide) rfl ?_
    refine x_goto C (tgt := 18) dX11_isNearer_14 (by decide) ?_
    exact x_zret C hr hlk rfl dX11_isNearer_18 ⟨rfl, (Or.inr rfl)⟩
theorem dX11_acts_0 : decode cX11_acts 0 = .ok (.aload_n 0, 1) := by decide +kernel
theorem dX11_acts_1 : decode cX11_acts 1 = .ok (.getfield 10, 3) := by decide +kernel
theorem dX11_acts_4 : decode cX11_acts 4 = .ok (.iload_n 1, 1) := by decide +kernel
theorem dX11_acts_5 : decode cX11_acts 5 = .ok (.iconst 1, 1) := by decide +kernel
theorem dX11_acts_6 : decode cX11_acts 6 = .ok (.sipush 140, 3) := by decide +kernel
theorem dX11_acts_9 : decode cX11_acts 9 = .ok (.iconst 1, 1) := by decide +kernel
theorem dX11_acts_10 : decode cX11_acts 10 = .ok (.invokevirtual 149, 3) := by decide +kernel
theorem dX11_acts_13 : decode cX11_acts 13 = .ok (.ifCond .ne 5, 3) := by decide +kernel
theorem dX11_acts_16 : decode cX11_acts 16 = .ok (.iconst (-1), 1) := by decide +kernel
theorem dX11_acts_17 : decode cX11_acts 17 = .ok (.ireturn, 1) := by decide +kernel
theorem dX11_acts_18 : decode cX11_acts 18 = .ok (.aload_n 0, 1) := by decide +kernel
theorem dX11_acts_19 : decode cX11_acts 19 = .ok (.iload_n 1, 1) := by decide +kernel
theorem dX11_acts_20 : decode cX11_acts 20 = .ok (.invokevirtual 168, 3) := by decide +kernel
theorem dX11_acts_23 : decode cX11_acts 23 = .ok (.ifCond .ne 11, 3) := by decide +kernel
theorem dX11_acts_26 : decode cX11_acts 26 = .ok (.aload_n 0, 1) := by decide +kernel
theorem dX11_acts_27 : decode cX11_acts 27 = .ok (.getfield 10, 3) := by decide +kernel
theorem dX11_acts_30 : decode cX11_acts 30 = .ok (.invokevirtual 162, 3) := by decide +kernel
theorem dX11_acts_33 : decode cX11_acts 33 = .ok (.ireturn, 1) := by decide +kernel
theorem dX11_acts_34 : decode cX11_acts 34 = .ok (.iconst 0, 1) := by decide +kernel
theorem dX11_acts_35 : decode cX11_acts 35 = .ok (.istore_n 2, 1) := by decide +kernel
theorem dX11_acts_36 : decode cX11_acts 36 = .ok (.iconst 0, 1) := by decide +kernel
theorem dX11_acts_37 : decode cX11_acts 37 = .ok (.istore_n 3, 1) := by decide +kernel
theorem dX11_acts_38 : decode cX11_acts 38 = .ok (.iload_n 3, 1) := by decide +kernel
theorem dX11_acts_39 : decode cX11_acts 39 = .ok (.aload_n 0, 1) := by decide +kernel
theorem dX11_acts_40 : decode cX11_acts 40 = .ok (.getfield 49, 3) := by decide +kernel
theorem dX11_acts_43 : decode cX11_acts 43 = .ok (.getfield 171, 3) := by decide +kernel
theorem dX11_acts_46 : decode cX11_acts 46 = .ok (.if_icmp .ge 43, 3) := by decide +kernel
theorem dX11_acts_49 : decode cX11_acts 49 = .ok (.aload_n 0, 1) := by decide +kernel
theorem dX11_acts_50 : decode cX11_acts 50 = .ok (.getfield 49, 3) := by decide +kernel
theorem dX11_acts_53 : decode cX11_acts 53 = .ok (.iload_n 3, 1) := by decide +kernel
theorem dX11_acts_54 : decode cX11_acts 54 = .ok (.aload_n 0, 1) := by decide +kernel
theorem dX11_acts_55 : decode cX11_acts 55 = .ok (.getfield 22, 3) := by decide +kernel
theorem dX11_acts_58 : decode cX11_acts 58 = .ok (.invokevirtual 172, 3) := by decide +kernel
theorem dX11_acts_61 : decode cX11_acts 61 = .ok (.ifCond .eq 22, 3) := by decide +kernel
theorem dX11_acts_64 : decode cX11_acts 64 = .ok (.aload_n 0, 1) := by decide +kernel
theorem dX11_acts_65 : decode cX11_acts 65 = .ok (.getfield 49, 3) := by decide +kernel
theorem dX11_acts_68 : decode cX11_acts 68 = .ok (.iload_n 3, 1) := by decide +kernel
theorem dX11_acts_69 : decode cX11_acts 69 = .ok (.aload_n 0, 1) := by decide +kernel
theorem dX11_acts_70 : decode cX11_acts 70 = .ok (.getfield 22, 3) := by decide +kernel
theorem dX11_acts_73 : decode cX11_acts 73 = .ok (.aload_n 0, 1) := by decide +kernel
theorem dX11_acts_74 : decode cX11_acts 74 = .ok (.getfield 39, 3) := by decide +kernel
theorem dX11_acts_77 : decode cX11_acts 77 = .ok (.invokevirtual 176, 3) := by decide +kernel
theorem dX11_acts_80 : decode cX11_acts 80 = .ok (.iinc 2 1, 3) := by decide +kernel
theorem dX11_acts_83 : decode cX11_acts 83 = .ok (.iinc 3 1, 3) := by decide +kernel
theorem dX11_acts_86 : decode cX11_acts 86 = .ok (.goto (-48), 3) := by decide +kernel
theorem dX11_acts_89 : decode cX11_acts 89 = .ok (.iload_n 2, 1) := by decide +kernel
theorem dX11_acts_90 : decode cX11_acts 90 = .ok (.ireturn, 1) := by decide +kernel
set_option maxRecDepth 20000 in
set_option maxHeartbeats 4000000 in
theorem c_acts (E : xE) (l : Launch) (a : Nat → Nat) (ws : va_W) (hW : WX (okX E a) ws) (p0 : Int32) : xI E l yX11_acts cX11_acts 4 (some .int) 14 [.ref (a 0), .int p0] ws (fun r w => WX (okX E a) w ∧ keeps ws w (fun q => ¬ (q = 0 ∨ q = 6 ∨ q = 9 ∨ q = 28 ∨ q = 31))) := by
  refine xI_start (lv := [(0, .ref (a 0)), (1, .int p0)]) RX11 (by decide) rfl (Nat.le_of_ble_eq_true rfl) rfl (fun p e s m below meth c A C hr hlk => ?_)
  have kp0 : keeps ws ws (fun q => ¬ (q = 0 ∨ q = 6 ∨ q = 9 ∨ q = 28 ∨ q = 31)) := keeps_rf
  refine x_aload_n C dX11_acts_0 rfl 0 rfl rfl ?_
  obtain ⟨_, k1, v2, rfl⟩ := hW 0 _ rfl
  refine x_get C (ci := 10) (k := 0) 0 k1 rfl in_X11 (by decide) w_385 rfl dX11_acts_1 rfl ?_
  refine x_iload_n C dX11_acts_4 rfl 1 rfl rfl ?_
  refine x_iconst C (v := 1) dX11_acts_5 (by decide) rfl ?_
  refine x_sipush C (v := 140) dX11_acts_6 (by decide) rfl ?_
  refine x_iconst C (v := 1) dX11_acts_9 (by decide) rfl ?_
  obtain ⟨_, k3, n4, v6, v7, v8, bn5, rfl⟩ := hW 1 _ rfl
  refine x_vi C (As := [.int p0, .int 1, .int 140, .int 1]) (rest := []) (c_holds E l a ws hW p0 (1 : Int32) (140 : Int32) (1 : Int32)) mf_X8_holds w_507 1 k3 rfl rfl rfl (Nat.le_of_ble_eq_true rfl) ⟨(Nat.le_of_ble_eq_true rfl), (Nat.le_of_ble_eq_true rfl)⟩ ⟨(Nat.le_of_ble_eq_true rfl), (Nat.le_of_ble_eq_true rfl)⟩ dX11_acts_10 rfl (fun r10 w11 h9 => ?_)
  obtain ⟨hW12, zb13, x14⟩ := h9
  refine x_ws hW12 ?_
  refine x_if_ne C (tgt := 18) dX11_acts_13 (by decide) rfl (fun c15 => ?_) (fun c15 => ?_)
  · skip
    obtain ⟨j16, hl17, hh18, ej19⟩ := w_nat (a := 1) (b := 140) (by decide) (by decide) (x14 c15)
    subst ej19
    refine x_aload_n C dX11_acts_18 rfl 0 rfl rfl ?_
    refine x_iload_n C dX11_acts_19 rfl 1 rfl rfl ?_
    refine x_vi C (As := [.int (nI j16)]) (rest := []) (c_readActs E l a ws hW ((nI j16))) mf_X11_readActs w_664 0 k1 rfl rfl rfl (Nat.le_of_ble_eq_true rfl) ⟨(Nat.le_of_ble_eq_true rfl), (Nat.le_of_ble_eq_true rfl)⟩ ⟨(Nat.le_of_ble_eq_true rfl), (Nat.le_of_ble_eq_true rfl)⟩ dX11_acts_20 rfl (fun r21 w22 h20 => ?_)
    obtain ⟨hW23, kq24, zb25⟩ := h20
    have k26 : w22[0]? = some (ob (a 0) 10 [.ref (a 1), .ref (a 3), .ref (a 5), .ref (a 27), .ref (a 49), .int v2, .ref (a 71), .ref (a 79), .ref (a 87), .ref (a 92), .ref (a 103), .ref (a 105), .ref (a 106), .ref (a 107), .ref (a 108), .ref (a 109), .ref (a 110), .ref (a 111), .ref (a 112)]) := keeps_at kq24 k1 (by first | decide | omega | (dsimp only; omega))
    have kp27 := keeps_tr kp0 kq24 (fun q hq => by first | omega | (dsimp only at *; omega))
    refine x_if_ne C (tgt := 34) dX11_acts_23 (by decide) rfl (fun c28 => ?_) (fun c28 => ?_)
    · skip
      refine x_iconst C (v := 0) dX11_acts_34 (by decide) rfl ?_
      refine x_istore_n C (lv' := [(2, .int 0), (0, .ref (a 0)), (1, .int (nI j16))]) dX11_acts_35 rfl (by decide) rfl rfl ?_
      refine x_iconst C (v := 0) dX11_acts_36 (by decide) rfl ?_
      refine x_istore_n C (lv' := [(3, .int 0), (2, .int 0), (0, .ref (a 0)), (1, .int (nI j16))]) dX11_acts_37 rfl (by decide) rfl rfl ?_
      have loop38 : ∀ (fu38 : Nat) (z38_2 : Int32) (k : Nat) (wl38 : va_W), WX (okX E a) wl38 → 24 - k < fu38 → k ≤ 24 → keeps ws wl38 (fun q => ¬ (q = 0 ∨ q = 6 ∨ q = 9 ∨ q = 28 ∨ q = 31)) → X E p l e (xRm 14 0 0) s m ([.ref (a 0), .int (nI j16)] : List Value).toArray below meth c A 4 0 0 (MQ below (va_Qi (fun r w => WX (okX E a) w ∧ keeps ws w (fun q => ¬ (q = 0 ∨ q = 6 ∨ q = 9 ∨ q = 28 ∨ q = 31))) (xB E A) A) ([.ref (a 0), .int (nI j16)] : List Value).toArray s 0 0 A) wl38 38 [(0, .ref (a 0)), (1, .int (nI j16)), (2, .int z38_2), (3, .int (nI k))] [] := by
        intro fu38
        induction fu38 with
        | zero => intro z38_2 k wl38 _ q; omega
        | succ fu38 ih38 =>
          intro z38_2 k wl38 hWl38 me38 iv38_0 kq38
          refine x_iload_n C dX11_acts_38 rfl 3 rfl rfl ?_
          refine x_aload_n C dX11_acts_39 rfl 0 rfl rfl ?_
          obtain ⟨_, k29, v30, rfl⟩ := hWl38 0 _ rfl
          refine x_get C (ci := 10) (k := 8) 0 k29 rfl in_X11 (by decide) w_393 rfl dX11_acts_40 rfl ?_
          obtain ⟨_, k31, n32, n34, bn33, bn35, rfl⟩ := hWl38 87 _ rfl
          refine x_get C (ci := 0) (k := 0) 87 k31 rfl in_X0 (by decide) w_295 rfl dX11_acts_43 rfl ?_
          refine x_icmp_ge C (tgt := 89) dX11_acts_46 (by decide) rfl (fun c36 => ?_) (fun c36 => ?_)
          · skip
            have nf37 := nI_le' (a := n32) (b := k) c36 (by omega) (by omega)
            refine x_iload_n C dX11_acts_89 rfl 2 rfl rfl ?_
            exact x_zret C hr hlk rfl dX11_acts_90 ⟨hWl38, kq38⟩
          · skip
            have nf38 := nI_nle' (a := n32) (b := k) c36 (by omega) (by omega)
            refine x_aload_n C dX11_acts_49 rfl 0 rfl rfl ?_
            refine x_get C (ci := 10) (k := 8) 0 k29 rfl in_X11 (by decide) w_393 rfl dX11_acts_50 rfl ?_
            refine x_iload_n C dX11_acts_53 rfl 3 rfl rfl ?_
            refine x_aload_n C dX11_acts_54 rfl 0 rfl rfl ?_
            refine x_get C (ci := 10) (k := 2) 0 k29 rfl in_X11 (by decide) w_387 rfl dX11_acts_55 rfl ?_
            refine x_vi C (As := [.int (nI k), .ref (a 5)]) (rest := []) (c_canBe E l a wl38 hWl38 5 (Or.inl rfl) k (by omega)) mf_X0_canBe w_696 87 k31 rfl rfl rfl (Nat.le_of_ble_eq_true rfl) ⟨(Nat.le_of_ble_eq_true rfl), (Nat.le_of_ble_eq_true rfl)⟩ ⟨(Nat.le_of_ble_eq_true rfl), (Nat.le_of_ble_eq_true rfl)⟩ dX11_acts_58 rfl (fun r40 w41 h39 => ?_)
            obtain ⟨hW42, zb43, x44⟩ := h39
            refine x_ws hW42 ?_
            refine x_if_eq C (tgt := 83) dX11_acts_61 (by decide) rfl (fun c45 => ?_) (fun c45 => ?_)
            · skip
              refine x_iinc C (v := (nI (k + 1))) (lv' := [(3, .int (nI (k + 1))), (0, .ref (a 0)), (1, .int (nI j16)), (2, .int z38_2)]) dX11_acts_83 3 rfl (nI_add k 1) (by decide) rfl rfl ?_
              refine x_goto C (tgt := 38) dX11_acts_86 (by decide) ?_
              refine x_lv (lv1 := [(0, .ref (a 0)), (1, .int (nI j16)), (2, .int z38_2), (3, .int (nI (k + 1)))]) [1, 2, 3, 0] rfl ?_
              exact ih38 z38_2 (k + 1) wl38 hWl38 (by omega) (by omega) kq38
            · skip
              have tg46 := x44 c45
              refine x_aload_n C dX11_acts_64 rfl 0 rfl rfl ?_
              refine x_get C (ci := 10) (k := 8) 0 k29 rfl in_X11 (by decide) w_393 rfl dX11_acts_65 rfl ?_
              refine x_iload_n C dX11_acts_68 rfl 3 rfl rfl ?_
              refine x_aload_n C dX11_acts_69 rfl 0 rfl rfl ?_
              refine x_get C (ci := 10) (k := 2) 0 k29 rfl in_X11 (by decide) w_387 rfl dX11_acts_70 rfl ?_
              refine x_aload_n C dX11_acts_73 rfl 0 rfl rfl ?_
              refine x_get C (ci := 10) (k := 6) 0 k29 rfl in_X11 (by decide) w_391 rfl dX11_acts_74 rfl ?_
              refine x_vv C (As := [.int (nI k), .ref (a 5), .ref (a 71)]) (rest := []) (c_carryOut E l a wl38 hWl38 5 (Or.inl rfl) k (by omega) tg46) mf_X0_carryOut w_719 87 k31 rfl rfl rfl (Nat.le_of_ble_eq_true rfl) ⟨(Nat.le_of_ble_eq_true rfl), (Nat.le_of_ble_eq_true rfl)⟩ ⟨(Nat.le_of_ble_eq_true rfl), (Nat.le_of_ble_eq_true rfl)⟩ dX11_acts_77 rfl (fun w49 h47 => ?_)
              obtain ⟨hW50, kq51⟩ := h47
              have k52 : w49[0]? = some (ob (a 0) 10 [.ref (a 1), .ref (a 3), .ref (a 5), .ref (a 27), .ref (a 49), .int v30, .ref (a 71), .ref (a 79), .ref (a 87), .ref (a 92), .ref (a 103), .ref (a 105), .ref (a 106), .ref (a 107), .ref (a 108), .ref (a 109), .ref (a 110), .ref (a 111), .ref (a 112)]) := keeps_at kq51 k29 (by first | decide | omega | (dsimp only; omega))
              have k53 : w49[87]? = some (ob (a 87) 0 [.int (nI n32), .ref (a 88), .ref (a 89), .ref (a 90), .ref (a 91), .int (nI n34)]) := keeps_at kq51 k31 (by first | decide | omega | (dsimp only; omega))
              have kp54 := keeps_tr kq38 kq51 (fun q hq => by first | omega | (dsimp only at *; omega))
              refine x_iinc C (v := (z38_2 + 1)) (lv' := [(2, .int (z38_2 + 1)), (0, .ref (a 0)), (1, .int (nI j16)), (3, .int (nI k))]) dX11_acts_80 2 rfl rfl (by decide) rfl rfl ?_
              refine x_iinc C (v := (nI (k + 1))) (lv' := [(3, .int (nI (k + 1))), (2, .int (z38_2 + 1)), (0, .ref (a 0)), (1, .int (nI j16))]) dX11_acts_83 3 rfl (nI_add k 1) (by decide) rfl rfl ?_
              refine x_goto C (tgt := 38) dX11_acts_86 (by decide) ?_
              refine x_lv (lv1 := [(0, .ref (a 0)), (1, .int (nI j16)), (2, .int (z38_2 + 1)), (3, .int (nI (k + 1)))]) [2, 3, 1, 0] rfl ?_
              exact ih38 ((z38_2 + 1)) (k + 1) w49 hW50 (by omega) (by omega) kp54
      refine x_lv (lv1 := [(0, .ref (a 0)), (1, .int (nI j16)), (2, .int 0), (3, .int 0)]) [2, 3, 1, 0] rfl ?_
      exact loop38 _ (0 : Int32) 0 w22 hW23 (Nat.lt_succ_self _) (by omega) kp27
    · skip
      refine x_aload_n C dX11_acts_26 rfl 0 rfl rfl ?_
      refine x_get C (ci := 10) (k := 0) 0 k26 rfl in_X11 (by decide) w_385 rfl dX11_acts_27 rfl ?_
      obtain ⟨_, k55, n56, v58, v59, v60, bn57, rfl⟩ := hW23 1 _ rfl
      refine x_vi C (As := []) (rest := []) (c_faultAnswer E l a w22 hW23) mf_X8_faultAnswer w_655 1 k55 rfl rfl rfl (Nat.le_of_ble_eq_true rfl) ⟨(Nat.le_of_ble_eq_true rfl), (Nat.le_of_ble_eq_true rfl)⟩ ⟨(Nat.le_of_ble_eq_true rfl), (Nat.le_of_ble_eq_true rfl)⟩ dX11_acts_30 rfl (fun r62 w63 h61 => ?_)
      have hW64 := h61
      refine x_ws hW64 ?_
      exact x_zret C hr hlk rfl dX11_acts_33 ⟨hW23, kp27⟩
  · skip
    refine x_iconst C (v := (-1)) dX11_acts_16 (by decide) rfl ?_
    exact x_zret C hr hlk rfl dX11_acts_17 ⟨hW, kp0⟩
theorem dX11_judged_0 : decode cX11_judged 0 = .ok (.aload_n 0, 1) := by decide +kernel
theorem dX11_judged_1 : decode cX11_judged 1 = .ok (.getfield 10, 3) := by decide +kernel
theorem dX11_judged_4 : decode cX11_judged 4 = .ok (.iload_n 1, 1) := by decide +kernel
theorem dX11_judged_5 : decode cX11_judged 5 = .ok (.iconst 1, 1) := by decide +kernel
theorem dX11_judged_6 : decode cX11_judged 6 = .ok (.sipush 140, 3) := by decide +kernel
theorem dX11_judged_9 : decode cX11_judged 9 = .ok (.iconst 1, 1) := by decide +kernel
theorem dX11_judged_10 : decode cX11_judged 10 = .ok (.invokevirtual 149, 3) := by decide +kernel
theorem dX11_judged_13 : decode cX11_judged 13 = .ok (.ifCond .ne 5, 3) := by decide +kernel
theorem dX11_judged_16 : decode cX11_judged 16 = .ok (.iconst (-1), 1) := by decide +kernel
theorem dX11_judged_17 : decode cX11_judged 17 = .ok (.ireturn, 1) := by decide +kernel
theorem dX11_judged_18 : decode cX11_judged 18 = .ok (.aload_n 0, 1) := by decide +kernel
theorem dX11_judged_19 : decode cX11_judged 19 = .ok (.iload_n 1, 1) := by decide +kernel
theorem dX11_judged_20 : decode cX11_judged 20 = .ok (.invokevirtual 168, 3) := by decide +kernel
theorem dX11_judged_23 : decode cX11_judged 23 = .ok (.ifCond .ne 11, 3) := by decide +kernel
theorem dX11_judged_26 : decode cX11_judged 26 = .ok (.aload_n 0, 1) := by decide +kernel
theorem dX11_judged_27 : decode cX11_judged 27 = .ok (.getfield 10, 3) := by decide +kernel
theorem dX11_judged_30 : decode cX11_judged 30 = .ok (.invokevirtual 162, 3) := by decide +kernel
theorem dX11_judged_33 : decode cX11_judged 33 = .ok (.ireturn, 1) := by decide +kernel
theorem dX11_judged_34 : decode cX11_judged 34 = .ok (.aload_n 0, 1) := by decide +kernel
theorem dX11_judged_35 : decode cX11_judged 35 = .ok (.getfield 29, 3) := by decide +kernel
theorem dX11_judged_38 : decode cX11_judged 38 = .ok (.aload_n 0, 1) := by decide +kernel
theorem dX11_judged_39 : decode cX11_judged 39 = .ok (.getfield 22, 3) := by decide +kernel
theorem dX11_judged_42 : decode cX11_judged 42 = .ok (.invokevirtual 180, 3) := by decide +kernel
theorem dX11_judged_45 : decode cX11_judged 45 = .ok (.iconst 0, 1) := by decide +kernel
theorem dX11_judged_46 : decode cX11_judged 46 = .ok (.istore_n 2, 1) := by decide +kernel
theorem dX11_judged_47 : decode cX11_judged 47 = .ok (.iload_n 2, 1) := by decide +kernel
theorem dX11_judged_48 : decode cX11_judged 48 = .ok (.aload_n 0, 1) := by decide +kernel
theorem dX11_judged_49 : decode cX11_judged 49 = .ok (.getfield 49, 3) := by decide +kernel
theorem dX11_judged_52 : decode cX11_judged 52 = .ok (.getfield 171, 3) := by decide +kernel
theorem dX11_judged_55 : decode cX11_judged 55 = .ok (.if_icmp .ge 42, 3) := by decide +kernel
theorem dX11_judged_58 : decode cX11_judged 58 = .ok (.aload_n 0, 1) := by decide +kernel
theorem dX11_judged_59 : decode cX11_judged 59 = .ok (.getfield 49, 3) := by decide +kernel
theorem dX11_judged_62 : decode cX11_judged 62 = .ok (.iload_n 2, 1) := by decide +kernel
theorem dX11_judged_63 : decode cX11_judged 63 = .ok (.aload_n 0, 1) := by decide +kernel
theorem dX11_judged_64 : decode cX11_judged 64 = .ok (.getfield 29, 3) := by decide +kernel
theorem dX11_judged_67 : decode cX11_judged 67 = .ok (.invokevirtual 172, 3) := by decide +kernel
theorem dX11_judged_70 : decode cX11_judged 70 = .ok (.ifCond .ne 5, 3) := by decide +kernel
theorem dX11_judged_73 : decode cX11_judged 73 = .ok (.iload_n 2, 1) := by decide +kernel
theorem dX11_judged_74 : decode cX11_judged 74 = .ok (.ireturn, 1) := by decide +kernel
theorem dX11_judged_75 : decode cX11_judged 75 = .ok (.aload_n 0, 1) := by decide +kernel
theorem dX11_judged_76 : decode cX11_judged 76 = .ok (.getfield 49, 3) := by decide +kernel
theorem dX11_judged_79 : decode cX11_judged 79 = .ok (.iload_n 2, 1) := by decide +kernel
theorem dX11_judged_80 : decode cX11_judged 80 = .ok (.aload_n 0, 1) := by decide +kernel
theorem dX11_judged_81 : decode cX11_judged 81 = .ok (.getfield 29, 3) := by decide +kernel
theorem dX11_judged_84 : decode cX11_judged 84 = .ok (.aload_n 0, 1) := by decide +kernel
theorem dX11_judged_85 : decode cX11_judged 85 = .ok (.getfield 39, 3) := by decide +kernel
theorem dX11_judged_88 : decode cX11_judged 88 = .ok (.invokevirtual 176, 3) := by decide +kernel
theorem dX11_judged_91 : decode cX11_judged 91 = .ok (.iinc 2 1, 3) := by decide +kernel
theorem dX11_judged_94 : decode cX11_judged 94 = .ok (.goto (-47), 3) := by decide +kernel
theorem dX11_judged_97 : decode cX11_judged 97 = .ok (.aload_n 0, 1) := by decide +kernel
theorem dX11_judged_98 : decode cX11_judged 98 = .ok (.getfield 49, 3) := by decide +kernel
theorem dX11_judged_101 : decode cX11_judged 101 = .ok (.getfield 171, 3) := by decide +kernel
theorem dX11_judged_104 : decode cX11_judged 104 = .ok (.ireturn, 1) := by decide +kernel
set_option maxRecDepth 20000 in
set_option maxHeartbeats 4000000 in
theorem c_judged (E : xE) (l : Launch) (a : Nat → Nat) (ws : va_W) (hW : WX (okX E a) ws) (p0 : Int32) : xI E l yX11_judged cX11_judged 3 (some .int) 14 [.ref (a 0), .int p0] ws (fun r w => WX (okX E a) w ∧ keeps ws w (fun q => ¬ (q = 0 ∨ q = 6 ∨ q = 9 ∨ q = 28 ∨ q = 31))) := by
  refine xI_start (lv := [(0, .ref (a 0)), (1, .int p0)]) RX11 (by decide) rfl (Nat.le_of_ble_eq_true rfl) rfl (fun p e s m below meth c A C hr hlk => ?_)
  have kp0 : keeps ws ws (fun q => ¬ (q = 0 ∨ q = 6 ∨ q = 9 ∨ q = 28 ∨ q = 31)) := keeps_rf
  refine x_aload_n C dX11_judged_0 rfl 0 rfl rfl ?_
  obtain ⟨_, k1, v2, rfl⟩ := hW 0 _ rfl
  refine x_get C (ci := 10) (k := 0) 0 k1 rfl in_X11 (by decide) w_385 rfl dX11_judged_1 rfl ?_
  refine x_iload_n C dX11_judged_4 rfl 1 rfl rfl ?_
  refine x_iconst C (v := 1) dX11_judged_5 (by decide) rfl ?_
  refine x_sipush C (v := 140) dX11_judged_6 (by decide) rfl ?_
  refine x_iconst C (v := 1) dX11_judged_9 (by decide) rfl ?_
  obtain ⟨_, k3, n4, v6, v7, v8, bn5, rfl⟩ := hW 1 _ rfl
  refine x_vi C (As := [.int p0, .int 1, .int 140, .int 1]) (rest := []) (c_holds E l a ws hW p0 (1 : Int32) (140 : Int32) (1 : Int32)) mf_X8_holds w_507 1 k3 rfl rfl rfl (Nat.le_of_ble_eq_true rfl) ⟨(Nat.le_of_ble_eq_true rfl), (Nat.le_of_ble_eq_true rfl)⟩ ⟨(Nat.le_of_ble_eq_true rfl), (Nat.le_of_ble_eq_true rfl)⟩ dX11_judged_10 rfl (fun r10 w11 h9 => ?_)
  obtain ⟨hW12, zb13, x14⟩ := h9
  refine x_ws hW12 ?_
  refine x_if_ne C (tgt := 18) dX11_judged_13 (by decide) rfl (fun c15 => ?_) (fun c15 => ?_)
  · skip
    obtain ⟨j16, hl17, hh18, ej19⟩ := w_nat (a := 1) (b := 140) (by decide) (by decide) (x14 c15)
    subst ej19
    refine x_aload_n C dX11_judged_18 rfl 0 rfl rfl ?_
    refine x_iload_n C dX11_judged_19 rfl 1 rfl rfl ?_
    refine x_vi C (As := [.int (nI j16)]) (rest := []) (c_readActs E l a ws hW ((nI j16))) mf_X11_readActs w_664 0 k1 rfl rfl rfl (Nat.le_of_ble_eq_true rfl) ⟨(Nat.le_of_ble_eq_true rfl), (Nat.le_of_ble_eq_true rfl)⟩ ⟨(Nat.le_of_ble_eq_true rfl), (Nat.le_of_ble_eq_true rfl)⟩ dX11_judged_20 rfl (fun r21 w22 h20 => ?_)
    obtain ⟨hW23, kq24, zb25⟩ := h20
    have k26 : w22[0]? = some (ob (a 0) 10 [.ref (a 1), .ref (a 3), .ref (a 5), .ref (a 27), .ref (a 49), .int v2, .ref (a 71), .ref (a 79), .ref (a 87), .ref (a 92), .ref (a 103), .ref (a 105), .ref (a 106), .ref (a 107), .ref (a 108), .ref (a 109), .ref (a 110), .ref (a 111), .ref (a 112)]) := keeps_at kq24 k1 (by first | decide | omega | (dsimp only; omega))
    have kp27 := keeps_tr kp0 kq24 (fun q hq => by first | omega | (dsimp only at *; omega))
    refine x_if_ne C (tgt := 34) dX11_judged_23 (by decide) rfl (fun c28 => ?_) (fun c28 => ?_)
    · skip
      refine x_aload_n C dX11_judged_34 rfl 0 rfl rfl ?_
      refine x_get C (ci := 10) (k := 4) 0 k26 rfl in_X11 (by decide) w_389 rfl dX11_judged_35 rfl ?_
      refine x_aload_n C dX11_judged_38 rfl 0 rfl rfl ?_
      refine x_get C (ci := 10) (k := 2) 0 k26 rfl in_X11 (by decide) w_387 rfl dX11_judged_39 rfl ?_
      obtain ⟨_, k29, n30, v32, v33, v34, v35, v36, bn31, rfl⟩ := hW23 49 _ rfl
      refine x_vv C (As := [.ref (a 5)]) (rest := []) (c_Town_copy E l a w22 hW23 49 (Or.inr (Or.inr rfl)) 5 (Or.inl rfl) (by decide)) mf_X9_copyFrom w_788 49 k29 rfl rfl rfl (Nat.le_of_ble_eq_true rfl) ⟨(Nat.le_of_ble_eq_true rfl), (Nat.le_of_ble_eq_true rfl)⟩ ⟨(Nat.le_of_ble_eq_true rfl), (Nat.le_of_ble_eq_true rfl)⟩ dX11_judged_42 rfl (fun w39 h37 => ?_)
      obtain ⟨hW40, kq41⟩ := h37
      have k42 : w39[0]? = some (ob (a 0) 10 [.ref (a 1), .ref (a 3), .ref (a 5), .ref (a 27), .ref (a 49), .int v2, .ref (a 71), .ref (a 79), .ref (a 87), .ref (a 92), .ref (a 103), .ref (a 105), .ref (a 106), .ref (a 107), .ref (a 108), .ref (a 109), .ref (a 110), .ref (a 111), .ref (a 112)]) := keeps_at kq41 k26 (by first | decide | omega | (dsimp only; omega))
      have kp43 := keeps_tr kp27 kq41 (fun q hq => by first | omega | (dsimp only at *; omega))
      refine x_iconst C (v := 0) dX11_judged_45 (by decide) rfl ?_
      refine x_istore_n C (lv' := [(2, .int 0), (0, .ref (a 0)), (1, .int (nI j16))]) dX11_judged_46 rfl (by decide) rfl rfl ?_
      have loop47 : ∀ (fu47 : Nat) (k : Nat) (wl47 : va_W), WX (okX E a) wl47 → 24 - k < fu47 → k ≤ 24 → keeps ws wl47 (fun q => ¬ (q = 0 ∨ q = 6 ∨ q = 9 ∨ q = 28 ∨ q = 31)) → X E p l e (xRm 14 0 0) s m ([.ref (a 0), .int (nI j16)] : List Value).toArray below meth c A 3 0 0 (MQ below (va_Qi (fun r w => WX (okX E a) w ∧ keeps ws w (fun q => ¬ (q = 0 ∨ q = 6 ∨ q = 9 ∨ q = 28 ∨ q = 31))) (xB E A) A) ([.ref (a 0), .int (nI j16)] : List Value).toArray s 0 0 A) wl47 47 [(0, .ref (a 0)), (1, .int (nI j16)), (2, .int (nI k))] [] := by
        intro fu47
        induction fu47 with
        | zero => intro k wl47 _ q; omega
        | succ fu47 ih47 =>
          intro k wl47 hWl47 me47 iv47_0 kq47
          refine x_iload_n C dX11_judged_47 rfl 2 rfl rfl ?_
          refine x_aload_n C dX11_judged_48 rfl 0 rfl rfl ?_
          obtain ⟨_, k44, v45, rfl⟩ := hWl47 0 _ rfl
          refine x_get C (ci := 10) (k := 8) 0 k44 rfl in_X11 (by decide) w_393 rfl dX11_judged_49 rfl ?_
          obtain ⟨_, k46, n47, n49, bn48, bn50, rfl⟩ := hWl47 87 _ rfl
          refine x_get C (ci := 0) (k := 0) 87 k46 rfl in_X0 (by decide) w_295 rfl dX11_judged_52 rfl ?_
          refine x_icmp_ge C (tgt := 97) dX11_judged_55 (by decide) rfl (fun c51 => ?_) (fun c51 => ?_)
          · skip
            have nf52 := nI_le' (a := n47) (b := k) c51 (by omega) (by omega)
            refine x_aload_n C dX11_judged_97 rfl 0 rfl rfl ?_
            refine x_get C (ci := 10) (k := 8) 0 k44 rfl in_X11 (by decide) w_393 rfl dX11_judged_98 rfl ?_
            refine x_get C (ci := 0) (k := 0) 87 k46 rfl in_X0 (by decide) w_295 rfl dX11_judged_101 rfl ?_
            exact x_zret C hr hlk rfl dX11_judged_104 ⟨hWl47, kq47⟩
          · skip
            have nf53 := nI_nle' (a := n47) (b := k) c51 (by omega) (by omega)
            refine x_aload_n C dX11_judged_58 rfl 0 rfl rfl ?_
            refine x_get C (ci := 10) (k := 8) 0 k44 rfl in_X11 (by decide) w_393 rfl dX11_judged_59 rfl ?_
            refine x_iload_n C dX11_judged_62 rfl 2 rfl rfl ?_
            refine x_aload_n C dX11_judged_63 rfl 0 rfl rfl ?_
            refine x_get C (ci := 10) (k := 4) 0 k44 rfl in_X11 (by decide) w_389 rfl dX11_judged_64 rfl ?_
            refine x_vi C (As := [.int (nI k), .ref (a 49)]) (rest := []) (c_canBe E l a wl47 hWl47 49 (Or.inr (Or.inr rfl)) k (by omega)) mf_X0_canBe w_696 87 k46 rfl rfl rfl (Nat.le_of_ble_eq_true rfl) ⟨(Nat.le_of_ble_eq_true rfl), (Nat.le_of_ble_eq_true rfl)⟩ ⟨(Nat.le_of_ble_eq_true rfl), (Nat.le_of_ble_eq_true rfl)⟩ dX11_judged_67 rfl (fun r55 w56 h54 => ?_)
            obtain ⟨hW57, zb58, x59⟩ := h54
            refine x_ws hW57 ?_
            refine x_if_ne C (tgt := 75) dX11_judged_70 (by decide) rfl (fun c60 => ?_) (fun c60 => ?_)
            · skip
              have tg61 := x59 c60
              refine x_aload_n C dX11_judged_75 rfl 0 rfl rfl ?_
              refine x_get C (ci := 10) (k := 8) 0 k44 rfl in_X11 (by decide) w_393 rfl dX11_judged_76 rfl ?_
              refine x_iload_n C dX11_judged_79 rfl 2 rfl rfl ?_
              refine x_aload_n C dX11_judged_80 rfl 0 rfl rfl ?_
              refine x_get C (ci := 10) (k := 4) 0 k44 rfl in_X11 (by decide) w_389 rfl dX11_judged_81 rfl ?_
              refine x_aload_n C dX11_judged_84 rfl 0 rfl rfl ?_
              refine x_get C (ci := 10) (k := 6) 0 k44 rfl in_X11 (by decide) w_391 rfl dX11_judged_85 rfl ?_
              refine x_vv C (As := [.int (nI k), .ref (a 49), .ref (a 71)]) (rest := []) (c_carryOut E l a wl47 hWl47 49 (Or.inr (Or.inr rfl)) k (by omega) tg61) mf_X0_carryOut w_719 87 k46 rfl rfl rfl (Nat.le_of_ble_eq_true rfl) ⟨(Nat.le_of_ble_eq_true rfl), (Nat.le_of_ble_eq_true rfl)⟩ ⟨(Nat.le_of_ble_eq_true rfl), (Nat.le_of_ble_eq_true rfl)⟩ dX11_judged_88 rfl (fun w64 h62 => ?_)
              obtain ⟨hW65, kq66⟩ := h62
              have k67 : w64[0]? = some (ob (a 0) 10 [.ref (a 1), .ref (a 3), .ref (a 5), .ref (a 27), .ref (a 49), .int v45, .ref (a 71), .ref (a 79), .ref (a 87), .ref (a 92), .ref (a 103), .ref (a 105), .ref (a 106), .ref (a 107), .ref (a 108), .ref (a 109), .ref (a 110), .ref (a 111), .ref (a 112)]) := keeps_at kq66 k44 (by first | decide | omega | (dsimp only; omega))
              have k68 : w64[87]? = some (ob (a 87) 0 [.int (nI n47), .ref (a 88), .ref (a 89), .ref (a 90), .ref (a 91), .int (nI n49)]) := keeps_at kq66 k46 (by first | decide | omega | (dsimp only; omega))
              have kp69 := keeps_tr kq47 kq66 (fun q hq => by first | omega | (dsimp only at *; omega))
              refine x_iinc C (v := (nI (k + 1))) (lv' := [(2, .int (nI (k + 1))), (0, .ref (a 0)), (1, .int (nI j16))]) dX11_judged_91 2 rfl (nI_add k 1) (by decide) rfl rfl ?_
              refine x_goto C (tgt := 47) dX11_judged_94 (by decide) ?_
              refine x_lv (lv1 := [(0, .ref (a 0)), (1, .int (nI j16)), (2, .int (nI (k + 1)))]) [1, 2, 0] rfl ?_
              exact ih47 (k + 1) w64 hW65 (by omega) (by omega) kp69
            · skip
              refine x_iload_n C dX11_judged_73 rfl 2 rfl rfl ?_
              exact x_zret C hr hlk rfl dX11_judged_74 ⟨hWl47, kq47⟩
      refine x_lv (lv1 := [(0, .ref (a 0)), (1, .int (nI j16)), (2, .int 0)]) [1, 2, 0] rfl ?_
      exact loop47 _ 0 w39 hW40 (Nat.lt_succ_self _) (by omega) kp43
    · skip
      refine x_aload_n C dX11_judged_26 rfl 0 rfl rfl ?_
      refine x_get C (ci := 10) (k := 0) 0 k26 rfl in_X11 (by decide) w_385 rfl dX11_judged_27 rfl ?_
      obtain ⟨_, k70, n71, v73, v74, v75, bn72, rfl⟩ := hW23 1 _ rfl
      refine x_vi C (As := []) (rest := []) (c_faultAnswer E l a w22 hW23) mf_X8_faultAnswer w_655 1 k70 rfl rfl rfl (Nat.le_of_ble_eq_true rfl) ⟨(Nat.le_of_ble_eq_true rfl), (Nat.le_of_ble_eq_true rfl)⟩ ⟨(Nat.le_of_ble_eq_true rfl), (Nat.le_of_ble_eq_true rfl)⟩ dX11_judged_30 rfl (fun r77 w78 h76 => ?_)
      have hW79 := h76
      refine x_ws hW79 ?_
      exact x_zret C hr hlk rfl dX11_judged_33 ⟨hW23, kp27⟩
  · skip
    refine x_iconst C (v := (-1)) dX11_judged_16 (by decide) rfl ?_
    exact x_zret C hr hlk rfl dX11_judged_17 ⟨hW, kp0⟩

set_option maxRecDepth 20000 in
set_option maxHeartbeats 4000000 in
theorem law_six {E : xE} {p : Program} {l : Launch} {e : Env} {s : State} {m : MethodId} {below : List Frame} {meth : Method} {c : Code} {b : Nat} {xs : Nat → Int32} {x mm : Nat} {wx wm : va_W} (hS : LC E p s m meth c b 6 xs) (hx : FX E x wx) (hm : FM E mm wm) : LX E p l e s m below meth c b (wm ++ wx) 27 [(3, .int 0), (2, .ref mm), (1, .ref x), (0, .ref b)] [] := by
  have C := hS.1
  refine x_aload_n C dL_law_27 rfl 3 rfl rfl ?_
  refine x_iload_n C dL_law_28 rfl 0 rfl rfl ?_
  refine x_sld C hS.2.1 hS.2.2.1 hS.2.2.2.1 0 (by decide) (by decide) (by decide) dL_law_29 rfl ?_
  refine x_bipush C (v := 31) dL_law_30 (by decide) rfl ?_
  refine x_iand C (v := ((xs 0) &&& (31 : Int32))) dL_law_32 rfl rfl ?_
  obtain ⟨j, hj, ej⟩ := pk_andE (xs 0) (m := 31) 5 (by decide)
  refine x_top ej ?_
  by_cases h30 : 30 ≤ j
  · refine x_tabOut C (tgt := 1148) dL_law_33 (Or.inr (by rw [nI_toInt (by omega)]; omega)) (by decide) ?_
    exact law_back hS _
  by_cases e0 : j = 0
  · subst e0
    exact x_tabIn C (off := 135) (tgt := 168) dL_law_33 (by decide) (by decide) (by decide) (by decide) (law_case_0 hS hx hm)
  by_cases e1 : j = 1
  · subst e1
    exact x_tabIn C (off := 158) (tgt := 191) dL_law_33 (by decide) (by decide) (by decide) (by decide) (law_case_1 hS hx hm)
  by_cases e2 : j = 2
  · subst e2
    exact x_tabIn C (off := 201) (tgt := 234) dL_law_33 (by decide) (by decide) (by decide) (by decide) (law_case_2 hS hx hm)
  by_cases e3 : j = 3
  · subst e3
    exact x_tabIn C (off := 224) (tgt := 257) dL_law_33 (by decide) (by decide) (by decide) (by decide) (law_case_3 hS hx hm)
  by_cases e4 : j = 4
  · subst e4
    exact x_tabIn C (off := 277) (tgt := 310) dL_law_33 (by decide) (by decide) (by decide) (by decide) (law_case_4 hS hx hm)
  by_cases e5 : j = 5
  · subst e5
    exact x_tabIn C (off := 290) (tgt := 323) dL_law_33 (by decide) (by decide) (by decide) (by decide) (law_case_5 hS hx hm)
  by_cases e6 : j = 6
  · subst e6
    exact x_tabIn C (off := 353) (tgt := 386) dL_law_33 (by decide) (by decide) (by decide) (by decide) (law_case_6 hS hx hm)
  by_cases e7 : j = 7
  · subst e7
    exact x_tabIn C (off := 376) (tgt := 409) dL_law_33 (by decide) (by decide) (by decide) (by decide) (law_case_7 hS hx hm)
  by_cases e8 : j = 8
  · subst e8
    exact x_tabIn C (off := 399) (tgt := 432) dL_law_33 (by decide) (by decide) (by decide) (by decide) (law_case_8 hS hx hm)
  by_cases e9 : j = 9
  · subst e9
    exact x_tabIn C (off := 422) (tgt := 455) dL_law_33 (by decide) (by decide) (by decide) (by decide) (law_case_9 hS hx hm)
  by_cases e10 : j = 10
  · subst e10
    exact x_tabIn C (off := 445) (tgt := 478) dL_law_33 (by decide) (by decide) (by decide) (by decide) (law_case_10 hS hx hm)
  by_cases e11 : j = 11
  · subst e11
    exact x_tabIn C (off := 478) (tgt := 511) dL_law_33 (by decide) (by decide) (by decide) (by decide) (law_case_11 hS hx hm)
  by_cases e12 : j = 12
  · subst e12
    exact x_tabIn C (off := 511) (tgt := 544) dL_law_33 (by decide) (by decide) (by decide) (by decide) (law_case_12 hS hx hm)
  by_cases e13 : j = 13
  · subst e13
    exact x_tabIn C (off := 544) (tgt := 577) dL_law_33 (by decide) (by decide) (by decide) (by decide) (law_case_13 hS hx hm)
  by_cases e14 : j = 14
  · subst e14
    exact x_tabIn C (off := 577) (tgt := 610) dL_law_33 (by decide) (by decide) (by decide) (by decide) (law_case_14 hS hx hm)
  by_cases e15 : j = 15
  · subst e15
    exact x_tabIn C (off := 620) (tgt := 653) dL_law_33 (by decide) (by decide) (by decide) (by decide) (law_case_15 hS hx hm)
  by_cases e16 : j = 16
  · subst e16
    exact x_tabIn C (off := 663) (tgt := 696) dL_law_33 (by decide) (by decide) (by decide) (by decide) (law_case_16 hS hx hm)
  by_cases e17 : j = 17
  · subst e17
    exact x_tabIn C (off := 706) (tgt := 739) dL_law_33 (by decide) (by decide) (by decide) (by decide) (law_case_17 hS hx hm)
  by_cases e18 : j = 18
  · subst e18
    exact x_tabIn C (off := 749) (tgt := 782) dL_law_33 (by decide) (by decide) (by decide) (by decide) (law_case_18 hS hx hm)
  by_cases e19 : j = 19
  · subst e19
    exact x_tabIn C (off := 782) (tgt := 815) dL_law_33 (by decide) (by decide) (by decide) (by decide) (law_case_19 hS hx hm)
  by_cases e20 : j = 20
  · subst e20
    exact x_tabIn C (off := 825) (tgt := 858) dL_law_33 (by decide) (by decide) (by decide) (by decide) (law_case_20 hS hx hm)
  by_cases e21 : j = 21
  · subst e21
    exact x_tabIn C (off := 848) (tgt := 881) dL_law_33 (by decide) (by decide) (by decide) (by decide) (law_case_21 hS hx hm)
  by_cases e22 : j = 22
  · subst e22
    exact x_tabIn C (off := 891) (tgt := 924) dL_law_33 (by decide) (by decide) (by decide) (by decide) (law_case_22 hS hx hm)
  by_cases e23 : j = 23
  · subst e23
    exact x_tabIn C (off := 924) (tgt := 957) dL_law_33 (by decide) (by decide) (by decide) (by decide) (law_case_23 hS hx hm)
  by_cases e24 : j = 24
  · subst e24
    exact x_tabIn C (off := 957) (tgt := 990) dL_law_33 (by decide) (by decide) (by decide) (by decide) (law_case_24 hS hx hm)
  by_cases e25 : j = 25
  · subst e25
    exact x_tabIn C (off := 1020) (tgt := 1053) dL_law_33 (by decide) (by decide) (by decide) (by decide) (law_case_25 hS hx hm)
  by_cases e26 : j = 26
  · subst e26
    exact x_tabIn C (off := 1043) (tgt := 1076) dL_law_33 (by decide) (by decide) (by decide) (by decide) (law_case_26 hS hx hm)
  by_cases e27 : j = 27
  · subst e27
    exact x_tabIn C (off := 1056) (tgt := 1089) dL_law_33 (by decide) (by decide) (by decide) (by decide) (law_case_27 hS hx hm)
  by_cases e28 : j = 28
  · subst e28
    exact x_tabIn C (off := 1069) (tgt := 1102) dL_law_33 (by decide) (by decide) (by decide) (by decide) (law_case_28 hS hx hm)
  have e29 : j = 29 := by omega
  subst e29
  exact x_tabIn C (off := 1092) (tgt := 1125) dL_law_33 (by decide) (by decide) (by decide) (by decide) (law_case_29 hS hx hm)
theorem dL_law_0 : decode cL_law 0 = .ok (.new 7, 3) := by decide +kernel
theorem dL_law_3 : decode cL_law 3 = .ok (.dup, 1) := by decide +kernel
theorem dL_law_4 : decode cL_law 4 = .ok (.invokespecial 9, 3) := by decide +kernel
theorem dL_law_7 : decode cL_law 7 = .ok (.astore_n 1, 1) := by decide +kernel
theorem dL_law_8 : decode cL_law 8 = .ok (.new 10, 3) := by decide +kernel
theorem dL_law_11 : decode cL_law 11 = .ok (.dup, 1) := by decide +kernel
theorem dL_law_12 : decode cL_law 12 = .ok (.invokespecial 12, 3) := by decide +kernel
theorem dL_law_15 : decode cL_law 15 = .ok (.astore_n 2, 1) := by decide +kernel
theorem dL_law_16 : decode cL_law 16 = .ok (.iconst 0, 1) := by decide +kernel
theorem dL_law_17 : decode cL_law 17 = .ok (.istore_n 3, 1) := by decide +kernel
set_option maxRecDepth 20000 in
set_option maxHeartbeats 4000000 in
theorem law_run {E : xE} {p : Program} {l : Launch} {e : Env} {s : State} {m : MethodId} {below : List Frame} {meth : Method} {c : Code} {b : Nat} {xs : Nat → Int32} {L : Nat} (hL : L ≤ 6) (hS : LC E p s m meth c b L xs) : X E p l e room_1 s m #[Value.ref b] below meth c (fun q => s.heap.size ≤ q) 4 0 0 (lw_Z below #[Value.ref b] s) [] 0 [(0, .ref b)] [] := by
  have C := hS.1
  refine x_new C (ci := 10) (fs := [.null, .null, .null, .null, .null, .int 0, .null, .null, .null, .null, .null, .null, .null, .null, .null, .null, .null, .null, .null]) rfl in_X11 tyX11 tyX11_ok w_22 w_23 w_1 (dv_X11) (Nat.le_of_ble_eq_true rfl) (Nat.le_of_ble_eq_true rfl) dL_law_0 rfl (fun x => ?_)
  refine x_dup C dL_law_3 rfl rfl ?_
  refine x_ni C (As := []) (rest := [.ref x]) (W0 := []) (wc := [ob x 10 [.null, .null, .null, .null, .null, .int 0, .null, .null, .null, .null, .null, .null, .null, .null, .null, .null, .null, .null, .null]]) (i_EggTown E l x) mf_X11_init w_24 rfl rfl rfl (Nat.le_of_ble_eq_true rfl) ⟨(Nat.le_of_ble_eq_true rfl), (Nat.le_of_ble_eq_true rfl)⟩ ⟨(Nat.le_of_ble_eq_true rfl), (Nat.le_of_ble_eq_true rfl)⟩ dL_law_4 rfl (fun wx hx => ?_)
  refine x_wide (k := 113) (n := 4087) (Nat.le_refl _) (Nat.le_refl _) ?_
  refine x_astore_n C (lv' := [(1, .ref x), (0, .ref b)]) dL_law_7 rfl (by decide) rfl rfl ?_
  refine x_new C (ci := 11) (fs := [.null, .null, .null, .null, .int 0, .int 0, .int 0, .int 0, .int 0, .int 0, .int 0, .int 0, .int 0, .int 0, .null, .null, .null, .null, .null, .null, .null, .null, .null, .null, .null, .null, .null, .int 0, .null, .null, .null, .null, .int 0, .int 0, .int 0, .int 0, .int 0, .int 0, .null, .null, .null, .null, .null, .null, .null, .null, .null, .int 0]) rfl in_X12 tyX12 tyX12_ok w_1112 w_1113 w_12 (dv_X12) (Nat.le_of_ble_eq_true rfl) (Nat.le_of_ble_eq_true rfl) dL_law_8 rfl (fun mm => ?_)
  refine x_dup C dL_law_11 rfl rfl ?_
  refine x_ni C (As := []) (rest := [.ref mm]) (W0 := wx) (wc := [ob mm 11 [.null, .null, .null, .null, .int 0, .int 0, .int 0, .int 0, .int 0, .int 0, .int 0, .int 0, .int 0, .int 0, .null, .null, .null, .null, .null, .null, .null, .null, .null, .null, .null, .null, .null, .int 0, .null, .null, .null, .null, .int 0, .int 0, .int 0, .int 0, .int 0, .int 0, .null, .null, .null, .null, .null, .null, .null, .null, .null, .int 0]]) (i_Model E l mm) mf_X12_init w_1114 rfl rfl rfl (Nat.le_of_ble_eq_true rfl) ⟨(Nat.le_of_ble_eq_true rfl), (Nat.le_of_ble_eq_true rfl)⟩ ⟨(Nat.le_of_ble_eq_true rfl), (Nat.le_of_ble_eq_true rfl)⟩ dL_law_12 rfl (fun wm hm => ?_)
  refine x_wide (k := 144) (n := 13559) (Nat.le_refl _) (Nat.le_refl _) ?_
  refine x_swap ?_
  refine x_astore_n C (lv' := [(2, .ref mm), (1, .ref x), (0, .ref b)]) dL_law_15 rfl (by decide) rfl rfl ?_
  refine x_iconst C (v := 0) dL_law_16 (by decide) rfl ?_
  refine x_istore_n C (lv' := [(3, .int 0), (2, .ref mm), (1, .ref x), (0, .ref b)]) dL_law_17 rfl (by decide) rfl rfl ?_
  refine x_iload_n C dL_law_18 rfl 0 rfl rfl ?_
  refine x_aload_n C dL_law_19 rfl 3 rfl rfl ?_
  refine x_slen C hS.2.1 hS.2.2.1 hS.2.2.2.1 (v := nI L) rfl dL_law_20 rfl ?_
  refine x_bipush C (v := 6) dL_law_21 (by decide) rfl ?_
  refine x_isub C (v := (nI L - 6)) dL_law_23 rfl rfl ?_
  refine x_icmp_gt C (tgt := 1154) dL_law_24 (by decide) rfl (fun cg => ?_) (fun cg => ?_)
  · refine x_iconst C (v := 1) dL_law_1154 (by decide) rfl ?_
    exact x_lret C hS.2.2.2.2.1 hS.2.2.2.2.2 (by decide) (by decide) dL_law_1155
  · have h6 : L = 6 := (by decide +kernel : ∀ j : Nat, j ≤ 6 → ¬ nI j - 6 < 0 → j = 6) L hL cg
    subst h6
    exact law_six hS hx hm

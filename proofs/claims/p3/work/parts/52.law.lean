theorem dL_law_0 : decode cL_law 0 = .ok (.new 7, 3) := by decide +kernel
theorem dL_law_3 : decode cL_law 3 = .ok (.dup, 1) := by decide +kernel
theorem dL_law_4 : decode cL_law 4 = .ok (.invokespecial 9, 3) := by decide +kernel
theorem dL_law_7 : decode cL_law 7 = .ok (.astore_n 1, 1) := by decide +kernel
theorem dL_law_8 : decode cL_law 8 = .ok (.new 10, 3) := by decide +kernel
theorem dL_law_11 : decode cL_law 11 = .ok (.dup, 1) := by decide +kernel
theorem dL_law_12 : decode cL_law 12 = .ok (.invokespecial 12, 3) := by decide +kernel
theorem dL_law_15 : decode cL_law 15 = .ok (.astore_n 2, 1) := by decide +kernel
theorem dL_law_16 : decode cL_law 16 = .ok (.iconst 0, 1) := by decide +kernel
theorem dL_law_17 : decode cL_law 17 = .ok (.istore_n 3, 1) := by decide +kernel
set_option maxRecDepth 20000 in
set_option maxHeartbeats 4000000 in
theorem law_run {E : xE} {p : Program} {l : Launch} {e : Env} {s : State} {m : MethodId} {below : List Frame} {meth : Method} {c : Code} {b L : Nat} {xs : Nat → Int32} (hL : L ≤ 3072) (hB : HB E) (hS : LC E p s m meth c b L xs) : X E p l e room_1 s m #[Value.ref b] below meth c (fun q => s.heap.size ≤ q) 4 0 0 (lw_Z below #[Value.ref b] s) [] 0 [(0, .ref b)] [] := by
  have C := hS.1
  refine x_new C (ci := 10) (fs := [.null, .null, .null, .null, .null, .int 0, .null, .null, .null, .null, .null, .null, .null, .null, .null, .null, .null, .null, .null]) rfl in_X11 tyX11 tyX11_ok w_22 w_23 w_1 (dv_X11) (Nat.le_of_ble_eq_true rfl) (Nat.le_of_ble_eq_true rfl) dL_law_0 rfl (fun x => ?_)
  refine x_dup C dL_law_3 rfl rfl ?_
  refine x_ni C (As := []) (rest := [.ref x]) (W0 := []) (wc := [ob x 10 [.null, .null, .null, .null, .null, .int 0, .null, .null, .null, .null, .null, .null, .null, .null, .null, .null, .null, .null, .null]]) (i_X11 E l x) mf_X11_init w_24 rfl rfl rfl (Nat.le_of_ble_eq_true rfl) ⟨(Nat.le_of_ble_eq_true rfl), (Nat.le_of_ble_eq_true rfl)⟩ ⟨(Nat.le_of_ble_eq_true rfl), (Nat.le_of_ble_eq_true rfl)⟩ dL_law_4 rfl (fun wx hx => ?_)
  refine x_wide (k := 113) (n := 4087) (Nat.le_refl _) (Nat.le_refl _) ?_
  refine x_astore_n C (lv' := [(1, .ref x), (0, .ref b)]) dL_law_7 rfl (by decide) rfl rfl ?_
  refine x_new C (ci := 11) (fs := [.null, .null, .null, .null, .int 0, .int 0, .int 0, .int 0, .int 0, .int 0, .int 0, .int 0, .int 0, .int 0, .null, .null, .null, .null, .null, .null, .null, .null, .null, .null, .null, .null, .null, .int 0, .null, .null, .null, .null, .int 0, .int 0, .int 0, .int 0, .int 0, .int 0, .null, .null, .null, .null, .null, .null, .null, .null, .null, .int 0]) rfl in_X12 tyX12 tyX12_ok w_1112 w_1113 w_12 (dv_X12) (Nat.le_of_ble_eq_true rfl) (Nat.le_of_ble_eq_true rfl) dL_law_8 rfl (fun mm => ?_)
  refine x_dup C dL_law_11 rfl rfl ?_
  refine x_ni C (As := []) (rest := [.ref mm]) (W0 := wx) (wc := [ob mm 11 [.null, .null, .null, .null, .int 0, .int 0, .int 0, .int 0, .int 0, .int 0, .int 0, .int 0, .int 0, .int 0, .null, .null, .null, .null, .null, .null, .null, .null, .null, .null, .null, .null, .null, .int 0, .null, .null, .null, .null, .int 0, .int 0, .int 0, .int 0, .int 0, .int 0, .null, .null, .null, .null, .null, .null, .null, .null, .null, .int 0]]) (i_X12 E l mm) mf_X12_init w_1114 rfl rfl rfl (Nat.le_of_ble_eq_true rfl) ⟨(Nat.le_of_ble_eq_true rfl), (Nat.le_of_ble_eq_true rfl)⟩ ⟨(Nat.le_of_ble_eq_true rfl), (Nat.le_of_ble_eq_true rfl)⟩ dL_law_12 rfl (fun wm hm => ?_)
  refine x_wide (k := 144) (n := 13559) (Nat.le_refl _) (Nat.le_refl _) ?_
  refine x_swap ?_
  refine x_astore_n C (lv' := [(2, .ref mm), (1, .ref x), (0, .ref b)]) dL_law_15 rfl (by decide) rfl rfl ?_
  refine x_iconst C (v := nI 0) dL_law_16 (by decide) rfl ?_
  refine x_istore_n C (lv' := [(3, .int (nI 0)), (2, .ref mm), (1, .ref x), (0, .ref b)]) dL_law_17 rfl (by decide) rfl rfl ?_
  exact law_loop hS hB hL 3080 0 0 0 0 0 0 wx wm (by omega) (by omega) hx hm
def lbF : Nat → Int32 := fun j => ([240, 10, 99, 60, 999, 240] : List Int32).getD j 0
theorem lb_ok : ∀ j : Nat, j ≤ 5 → ∃ n : Nat, n ≤ 999 ∧ lbF j = nI n
  | 0, _ => ⟨240, by omega, by decide⟩
  | 1, _ => ⟨10, by omega, by decide⟩
  | 2, _ => ⟨99, by omega, by decide⟩
  | 3, _ => ⟨60, by omega, by decide⟩
  | 4, _ => ⟨999, by omega, by decide⟩
  | 5, _ => ⟨240, by omega, by decide⟩
  | n + 6, h => absurd h (by omega)
def tmS : Nat → Term := fun i => match i with | 0 => Term.string "EggTown$LawReader" 37 | _ => Term.string "EggTown$LawReader" 89
set_option maxRecDepth 20000 in
set_option maxHeartbeats 4000000 in
theorem z_start {s : State} {b : Nat} {G : va_G} {cI cB : ClassId} (hts : ∀ w ∈ lw_tbl, w.before #[Value.ref b] s = true) (hgv : (Jvm.Cond.and given_1 narrow_1).before #[Value.ref b] s = true) : ∃ (LB : Nat) (adK adV : Nat → Nat), xZ (G, cI, cB, LB, lbF, adK, adV) (fun q => s.heap.size ≤ q) s s.heap := by
  have hs := flat_of_before _ hgv
  have hA : ∀ a : Nat, a < s.heap.size → ¬ (fun q => s.heap.size ≤ q) a := fun a h q => absurd h (Nat.not_lt.mpr q)
  obtain ⟨LB, hLB, hT⟩ := va_Tof (tm := .static "EggTown" "LAW_BOUNDS" "[I") (ty := .int) (N := 6) (f := fun j => .int (lbF j)) (args := #[Value.ref b]) (A := fun q => s.heap.size ≤ q) (by omega) (hs _ (by decide +kernel)) (va_eqt (hs _ (by decide +kernel))) (fun j hj => by
    match j, hj with
    | 0, _ => exact va_eqt (hs _ (by decide +kernel))
    | 1, _ => exact va_eqt (hs _ (by decide +kernel))
    | 2, _ => exact va_eqt (hs _ (by decide +kernel))
    | 3, _ => exact va_eqt (hs _ (by decide +kernel))
    | 4, _ => exact va_eqt (hs _ (by decide +kernel))
    | 5, _ => exact va_eqt (hs _ (by decide +kernel))
    | n + 6, h => omega) hA
  obtain ⟨adK, adV, hSS, hev⟩ := vk_Sof (args := #[Value.ref b]) (s := s) (N := 2) (tm := tmS) (len := [6, 11]) (byt := [[108, 102, 98, 104, 112, 116], [100, 119, 121, 107, 114, 109, 97, 99, 111, 105, 110]]) (A := fun q => s.heap.size ≤ q) (fun i hi => by
    match i, hi with
    | 0, _ => decide
    | 1, _ => decide
    | n + 2, h => omega) (fun i hi => by
    match i, hi with
    | 0, _ => exact hs _ (by decide +kernel)
    | 1, _ => exact hs _ (by decide +kernel)
    | n + 2, h => omega) (fun i hi => by
    match i, hi with
    | 0, _ => exact hs _ (by decide +kernel)
    | 1, _ => exact hs _ (by decide +kernel)
    | n + 2, h => omega) (fun i hi => by
    match i, hi with
    | 0, _ => exact hs _ (by decide +kernel)
    | 1, _ => exact hs _ (by decide +kernel)
    | n + 2, h => omega) (fun i hi => by
    match i, hi with
    | 0, _ => exact hs _ (by decide +kernel)
    | 1, _ => exact hs _ (by decide +kernel)
    | n + 2, h => omega) (fun i hi j hj => by
    match i, hi, j, hj with
    | 0, _, 0, _ => exact hs _ (by decide +kernel)
    | 0, _, 1, _ => exact hs _ (by decide +kernel)
    | 0, _, 2, _ => exact hs _ (by decide +kernel)
    | 0, _, 3, _ => exact hs _ (by decide +kernel)
    | 0, _, 4, _ => exact hs _ (by decide +kernel)
    | 0, _, 5, _ => exact hs _ (by decide +kernel)
    | 0, _, n + 6, h => exact absurd h (by show ¬ n + 6 < 6; omega)
    | 1, _, 0, _ => exact hs _ (by decide +kernel)
    | 1, _, 1, _ => exact hs _ (by decide +kernel)
    | 1, _, 2, _ => exact hs _ (by decide +kernel)
    | 1, _, 3, _ => exact hs _ (by decide +kernel)
    | 1, _, 4, _ => exact hs _ (by decide +kernel)
    | 1, _, 5, _ => exact hs _ (by decide +kernel)
    | 1, _, 6, _ => exact hs _ (by decide +kernel)
    | 1, _, 7, _ => exact hs _ (by decide +kernel)
    | 1, _, 8, _ => exact hs _ (by decide +kernel)
    | 1, _, 9, _ => exact hs _ (by decide +kernel)
    | 1, _, 10, _ => exact hs _ (by decide +kernel)
    | 1, _, n + 11, h => exact absurd h (by show ¬ n + 11 < 11; omega)
    | n + 2, h, _, _ => omega) (fun i j hi hj hij => by
    match i, hi, j, hj with
    | 0, _, 0, _ => exact absurd rfl hij
    | 0, _, 1, _ => exact Or.inl (hs _ (by decide +kernel))
    | 1, _, 0, _ => exact Or.inr (hs _ (by decide +kernel))
    | 1, _, 1, _ => exact absurd rfl hij
    | n + 2, h, _, _ => omega
    | 0, _, n + 2, h => omega
    | 1, _, n + 2, h => omega) hA
  exact ⟨LB, adK, adV, va_Zof (hts _ (List.mem_append_right _ (List.mem_of_getElem? (i := 759) (by decide +kernel)))) (hts _ (List.mem_append_right _ (List.mem_of_getElem? (i := 1) (by decide +kernel)))) hLB hA, hT, hT.out, va_Zof (hts _ (List.mem_append_right _ (List.mem_of_getElem? (i := 542) (by decide +kernel)))) (hts _ (List.mem_append_right _ (List.mem_of_getElem? (i := 14) (by decide +kernel)))) (va_eqi (hs _ (by decide +kernel))) hA, hSS, vk_R.of (hts _ (List.mem_append_right _ (List.mem_of_getElem? (i := 521) (by decide +kernel)))) (hev 0 (by omega)), vk_R.of (hts _ (List.mem_append_right _ (List.mem_of_getElem? (i := 641) (by decide +kernel)))) (hev 1 (by omega))⟩

def clip (g : Nat → Int32) : Nat → Int32 := fun j => if j < 11 then g j else 0
theorem clip_at {g : Nat → Int32} {j : Nat} (h : j ≤ 10) : clip g j = g j := by rw [clip, if_pos (by omega)]
theorem clip_eq {g g' : Nat → Int32} (h : ∀ j, j < 11 → g j = g' j) : clip g = clip g' := by
  funext j
  by_cases q : j < 11
  · rw [clip, clip, if_pos q, if_pos q, h j q]
  · rw [clip, clip, if_neg q, if_neg q]
theorem clip_get {g g' : Nat → Int32} (h : clip g = clip g') {j : Nat} (hj : j < 11) : g j = g' j := by
  rw [← clip_at (g := g) (by omega), h, clip_at (by omega)]
theorem clip_upd {g g' : Nat → Int32} {k : Nat} {v : Int32} (h : clip g = clip g') : clip (upd g k v) = clip (upd g' k v) := by
  refine clip_eq (fun j hj => ?_)
  by_cases e : j = k
  · subst e; rw [pk_us, pk_us]
  · rw [pk_un e, pk_un e]; exact clip_get h hj
def rk (op : Nat) (x y : Int32) : Int32 := if op = 2 then x + y else if op = 3 then x - y else if op = 4 then x * y else if op = 5 then x / y else if op = 6 then x - x / y * y else if op = 7 then (if x < y then 1 else 0) else if op = 8 then (if y < x then 1 else 0) else (if x = y then 1 else 0)
/-- what a piece of code comes to: c the code, fc the facts, L the values that wait, the last one first -/
def cE (c fc : Nat → Int32) (to : Nat) : Nat → Nat → List Int32 → Int32
  | 0, _, _ => 0
  | F + 1, k, L =>
    if to ≤ k then L.headD 0
    else if (c k).toNatClampNeg / 1048576 = 0 then cE c fc to F (k + 1) (nI ((c k).toNatClampNeg % 1048576) :: L)
    else if (c k).toNatClampNeg / 1048576 = 1 then cE c fc to F (k + 1) (fc ((c k).toNatClampNeg % 1048576) :: L)
    else match L with
      | [] => 0
      | x :: L1 =>
        if (c k).toNatClampNeg / 1048576 = 10 then cE c fc to F (k + 1) ((1 - x) :: L1)
        else if (c k).toNatClampNeg / 1048576 = 11 then (if x = 0 then cE c fc to F ((c k).toNatClampNeg % 1048576) (x :: L1) else cE c fc to F (k + 1) L1)
        else if (c k).toNatClampNeg / 1048576 = 12 then (if x = 1 then cE c fc to F ((c k).toNatClampNeg % 1048576) (x :: L1) else cE c fc to F (k + 1) L1)
        else match L1 with
          | [] => 0
          | y :: L2 => if ((c k).toNatClampNeg / 1048576 = 5 ∨ (c k).toNatClampNeg / 1048576 = 6) ∧ x = 0 then 0 else cE c fc to F (k + 1) (rk ((c k).toNatClampNeg / 1048576) y x :: L2)
theorem cAt_op {c : Nat → Int32} {k op v : Nat} (h : cAt c k op v) : (c k).toNatClampNeg / 1048576 = op := by
  obtain ⟨h1, h2, h3⟩ := h
  rw [h3, nI_clamp (by omega)]; omega
theorem cAt_v {c : Nat → Int32} {k op v : Nat} (h : cAt c k op v) : (c k).toNatClampNeg % 1048576 = v := by
  obtain ⟨h1, h2, h3⟩ := h
  rw [h3, nI_clamp (by omega)]; omega
section CE
variable {c fc : Nat → Int32} {to F k v : Nat} {L : List Int32} {x y : Int32}
theorem cE_end (h : to ≤ k) : cE c fc to (F + 1) k (x :: L) = x := by
  rw [cE.eq_def]; simp only []; rw [if_pos h]; rfl
theorem cE_num (hk : k < to) (h : cAt c k 0 v) : cE c fc to (F + 1) k L = cE c fc to F (k + 1) (nI v :: L) := by
  rw [cE.eq_def]; simp only []; rw [if_neg (by omega), cAt_op h, if_pos rfl, cAt_v h]
theorem cE_let (hk : k < to) (h : cAt c k 1 v) : cE c fc to (F + 1) k L = cE c fc to F (k + 1) (fc v :: L) := by
  rw [cE.eq_def]; simp only []; rw [if_neg (by omega), cAt_op h, if_neg (by decide), if_pos rfl, cAt_v h]
theorem cE_not (hk : k < to) (h : cAt c k 10 v) : cE c fc to (F + 1) k (x :: L) = cE c fc to F (k + 1) ((1 - x) :: L) := by
  rw [cE.eq_def]; simp only []; rw [if_neg (by omega), cAt_op h, if_neg (by decide), if_neg (by decide), if_pos rfl]
theorem cE_ifnot (hk : k < to) (h : cAt c k 11 v) : cE c fc to (F + 1) k (x :: L) = if x = 0 then cE c fc to F v (x :: L) else cE c fc to F (k + 1) L := by
  rw [cE.eq_def]; simp only []; rw [if_neg (by omega), cAt_op h, if_neg (by decide), if_neg (by decide), if_neg (by decide), if_pos rfl, cAt_v h]
theorem cE_if (hk : k < to) (h : cAt c k 12 v) : cE c fc to (F + 1) k (x :: L) = if x = 1 then cE c fc to F v (x :: L) else cE c fc to F (k + 1) L := by
  rw [cE.eq_def]; simp only []; rw [if_neg (by omega), cAt_op h, if_neg (by decide), if_neg (by decide), if_neg (by decide), if_neg (by decide), if_pos rfl, cAt_v h]
theorem cE_two {op : Nat} (hk : k < to) (h : cAt c k op v) (h2 : 2 ≤ op) (h9 : op ≤ 9) : cE c fc to (F + 1) k (x :: y :: L) = if (op = 5 ∨ op = 6) ∧ x = 0 then 0 else cE c fc to F (k + 1) (rk op y x :: L) := by
  rw [cE.eq_def]; simp only []; rw [if_neg (by omega), cAt_op h, if_neg (by omega), if_neg (by omega), if_neg (by omega), if_neg (by omega), if_neg (by omega)]
end CE
def sR (st : Nat → Int32) : List Int32 → Nat → Prop
  | [], n => n = 0
  | x :: L, n => 1 ≤ n ∧ st (n - 1) = x ∧ sR st L (n - 1)
theorem sR_far {st : Nat → Int32} {k : Nat} {v : Int32} : ∀ {L : List Int32} {n : Nat}, sR st L n → n ≤ k → sR (upd st k v) L n
  | [], _, h, _ => h
  | _ :: _, _, h, hn => ⟨h.1, by have := h.1; rw [pk_un (by omega)]; exact h.2.1, sR_far h.2.2 (by omega)⟩
theorem sR_push {st : Nat → Int32} {L : List Int32} {n : Nat} {v : Int32} (h : sR st L n) : sR (upd st n v) (v :: L) (n + 1) :=
  ⟨by omega, by rw [Nat.add_sub_cancel, pk_us], by rw [Nat.add_sub_cancel]; exact sR_far h (Nat.le_refl _)⟩
theorem sR_put {st : Nat → Int32} {L : List Int32} {n : Nat} {v : Int32} (h : sR st L (n - 1)) (h1 : 1 ≤ n) : sR (upd st (n - 1) v) (v :: L) n :=
  ⟨h1, by rw [pk_us], sR_far h (Nat.le_refl _)⟩
theorem sR_pop {st : Nat → Int32} {L : List Int32} {n : Nat} (h : sR st L n) (h1 : 1 ≤ n) : ∃ (x : Int32) (L1 : List Int32), L = x :: L1 ∧ st (n - 1) = x ∧ sR st L1 (n - 1) := by
  cases L with
  | nil => exact absurd (show n = 0 from h) (by omega)
  | cons x L1 => exact ⟨x, L1, rfl, h.2.1, h.2.2⟩
theorem sR_nil {st : Nat → Int32} {L : List Int32} {n : Nat} (h : sR st L n) (h0 : n = 0) : L = [] := by
  cases L with
  | nil => rfl
  | cons x L1 => exact absurd h.1 (by omega)
theorem nI_div {x d : Nat} (hx : x < 2 ^ 31) (hd : d < 2 ^ 31) : nI x / nI d = nI (x / d) := by
  apply Int32.toInt_inj.mp
  have h1 : x / d ≤ x := Nat.div_le_self _ _
  rw [Int32.toInt_div, nI_toInt hx, nI_toInt hd, nI_toInt (by omega)]
  have h2 : (Int.ofNat x).tdiv (Int.ofNat d) = Int.ofNat (x / d) := rfl
  show ((x : Int).tdiv (d : Int)).bmod (2 ^ 32) = ((x / d : Nat) : Int)
  rw [show (x : Int).tdiv (d : Int) = ((x / d : Nat) : Int) from h2]
  clear h2
  generalize x / d = z at *
  rw [Int.bmod_def]; omega
theorem divU {op v : Nat} (hop : op ≤ 12) (hv : v < 1048576) : nI (1048576 * op + v) / 1048576 = nI op := by
  have := nI_div (x := 1048576 * op + v) (d := 1048576) (by omega) (by omega)
  rw [show (1048576 * op + v) / 1048576 = op by omega] at this
  exact this
theorem remU {op v : Nat} (hop : op ≤ 12) (hv : v < 1048576) : nI (1048576 * op + v) - nI (1048576 * op + v) / 1048576 * 1048576 = nI v := by
  rw [divU hop hv]
  have e : nI op * 1048576 = nI (op * 1048576) := pk_mul op 1048576
  rw [e, pk_sub (by omega)]
  congr 1; omega
theorem div260 {x : Nat} (h : x < 260) : nI x / 260 = 0 := by
  have := nI_div (x := x) (d := 260) (by omega) (by omega)
  rw [Nat.div_eq_of_lt h] at this
  exact this
theorem nI0 (v : Nat) : (0 : Int32) + nI v = nI v := Int32.zero_add _
theorem cSeg_lt {c : Nat → Int32} {fr to : Nat} (h : cSeg c fr to) : fr < to ∧ to ≤ 260 := by
  obtain ⟨h1, h2, ht, h3, h4, -⟩ := h
  refine ⟨?_, h2⟩
  rcases Nat.lt_or_ge fr to with q | q
  · exact q
  · have : fr = to := by omega
    subst this
    omega
def bL (cd : Cd) (fc : Nat → Int32) (le hi : Int32) : Nat → Nat → Int32
  | 0, _ => 0
  | F + 1, q => if cd.2.2.2.2.2 ≤ q then 0 else if cd.2.1 q = le ∧ cE cd.1 fc (cd.2.2.2.2.1 q).toNatClampNeg 300 (cd.2.2.2.1 q).toNatClampNeg [] = 1
      then (if cE cd.1 fc (cd.2.2.2.1 q).toNatClampNeg 300 (cd.2.2.1 q).toNatClampNeg [] < 0 then 0 else if hi < cE cd.1 fc (cd.2.2.2.1 q).toNatClampNeg 300 (cd.2.2.1 q).toNatClampNeg [] then hi else cE cd.1 fc (cd.2.2.2.1 q).toNatClampNeg 300 (cd.2.2.1 q).toNatClampNeg [])
      else bL cd fc le hi F (q + 1)
section BL
variable {cd : Cd} {fc : Nat → Int32} {le hi : Int32} {F q : Nat}
theorem bL_end (h : cd.2.2.2.2.2 ≤ q) : bL cd fc le hi (F + 1) q = 0 := by
  rw [bL, if_pos h]
theorem bL_skip (h : q < cd.2.2.2.2.2) (h2 : ¬ cd.2.1 q = le) : bL cd fc le hi (F + 1) q = bL cd fc le hi F (q + 1) := by
  rw [bL, if_neg (by omega), if_neg (fun z => h2 z.1)]
theorem bL_skip2 {half to : Nat} (h : q < cd.2.2.2.2.2) (e2 : cd.2.2.2.1 q = nI half) (e3 : cd.2.2.2.2.1 q = nI to) (hh : half < 2 ^ 31) (ht : to < 2 ^ 31) (h2 : ¬ cE cd.1 fc to 300 half [] = 1) : bL cd fc le hi (F + 1) q = bL cd fc le hi F (q + 1) := by
  rw [bL, if_neg (by omega), if_neg]
  intro z
  rw [e2, e3, nI_clamp hh, nI_clamp ht] at z
  exact h2 z.2
theorem bL_take {fr half to : Nat} {x : Int32} (h : q < cd.2.2.2.2.2) (hl : cd.2.1 q = le) (e1 : cd.2.2.1 q = nI fr) (e2 : cd.2.2.2.1 q = nI half) (e3 : cd.2.2.2.2.1 q = nI to) (hf : fr < 2 ^ 31) (hh : half < 2 ^ 31) (ht : to < 2 ^ 31) (h2 : cE cd.1 fc to 300 half [] = 1) (h3 : x = cE cd.1 fc half 300 fr []) : bL cd fc le hi (F + 1) q = if x < 0 then 0 else if hi < x then hi else x := by
  rw [bL, if_neg (by omega), if_pos]
  · rw [e2, e1, nI_clamp hh, nI_clamp hf, ← h3]
  · rw [e2, e3, nI_clamp hh, nI_clamp ht]
    exact ⟨hl, h2⟩
end BL
theorem dX12_reckon_0 : decode cX12_reckon 0 = .ok (.iload_n 0, 1) := by decide +kernel
theorem dX12_reckon_1 : decode cX12_reckon 1 = .ok (.tableswitch 85 2 8 #[43, 47, 51, 55, 59, 63, 74], 43) := by decide +kernel
theorem dX12_reckon_44 : decode cX12_reckon 44 = .ok (.iload_n 1, 1) := by decide +kernel
theorem dX12_reckon_45 : decode cX12_reckon 45 = .ok (.iload_n 2, 1) := by decide +kernel
theorem dX12_reckon_46 : decode cX12_reckon 46 = .ok (.iadd, 1) := by decide +kernel
theorem dX12_reckon_47 : decode cX12_reckon 47 = .ok (.ireturn, 1) := by decide +kernel
set_option maxRecDepth 20000 in
set_option maxHeartbeats 4000000 in
theorem m_reckon2 (E : xE) (l : Launch) (a : Nat → Nat) (cd : Cd) (hG : Good cd) (kf : Int32) (jn js jq : Lb) (ws : va_W) (hW : WX (okM E a cd kf jn js jq) ws) (x0 : Int32) (y0 : Int32) : xI E l yX12_reckon cX12_reckon 3 (some .int) 0 [.int 2, .int x0, .int y0] ws (fun r w => w = ws ∧ (r = rk 2 x0 y0)) := by
  refine xI_start (lv := [(0, .int 2), (1, .int x0), (2, .int y0)]) RX12 (by decide) rfl (Nat.le_of_ble_eq_true rfl) rfl (fun p e s m below meth c A C hr hlk => ?_)
  refine x_iload_n C dX12_reckon_0 rfl 0 rfl rfl ?_
  refine x_tabIn C (tgt := 44) dX12_reckon_1 (by decide) (by decide) rfl (by decide) ?_
  refine x_iload_n C dX12_reckon_44 rfl 1 rfl rfl ?_
  refine x_iload_n C dX12_reckon_45 rfl 2 rfl rfl ?_
  refine x_iadd C (v := (x0 + y0)) dX12_reckon_46 rfl rfl ?_
  exact x_zret C hr hlk rfl dX12_reckon_47 ⟨rfl, rfl⟩
theorem dX12_reckon_48 : decode cX12_reckon 48 = .ok (.iload_n 1, 1) := by decide +kernel
theorem dX12_reckon_49 : decode cX12_reckon 49 = .ok (.iload_n 2, 1) := by decide +kernel
theorem dX12_reckon_50 : decode cX12_reckon 50 = .ok (.isub, 1) := by decide +kernel
theorem dX12_reckon_51 : decode cX12_reckon 51 = .ok (.ireturn, 1) := by decide +kernel
set_option maxRecDepth 20000 in
set_option maxHeartbeats 4000000 in
theorem m_reckon3 (E : xE) (l : Launch) (a : Nat → Nat) (cd : Cd) (hG : Good cd) (kf : Int32) (jn js jq : Lb) (ws : va_W) (hW : WX (okM E a cd kf jn js jq) ws) (x0 : Int32) (y0 : Int32) : xI E l yX12_reckon cX12_reckon 3 (some .int) 0 [.int 3, .int x0, .int y0] ws (fun r w => w = ws ∧ (r = rk 3 x0 y0)) := by
  refine xI_start (lv := [(0, .int 3), (1, .int x0), (2, .int y0)]) RX12 (by decide) rfl (Nat.le_of_ble_eq_true rfl) rfl (fun p e s m below meth c A C hr hlk => ?_)
  refine x_iload_n C dX12_reckon_0 rfl 0 rfl rfl ?_
  refine x_tabIn C (tgt := 48) dX12_reckon_1 (by decide) (by decide) rfl (by decide) ?_
  refine x_iload_n C dX12_reckon_48 rfl 1 rfl rfl ?_
  refine x_iload_n C dX12_reckon_49 rfl 2 rfl rfl ?_
  refine x_isub C (v := (x0 - y0)) dX12_reckon_50 rfl rfl ?_
  exact x_zret C hr hlk rfl dX12_reckon_51 ⟨rfl, rfl⟩
theorem dX12_reckon_52 : decode cX12_reckon 52 = .ok (.iload_n 1, 1) := by decide +kernel
theorem dX12_reckon_53 : decode cX12_reckon 53 = .ok (.iload_n 2, 1) := by decide +kernel
theorem dX12_reckon_54 : decode cX12_reckon 54 = .ok (.imul, 1) := by decide +kernel
theorem dX12_reckon_55 : decode cX12_reckon 55 = .ok (.ireturn, 1) := by decide +kernel
set_option maxRecDepth 20000 in
set_option maxHeartbeats 4000000 in
theorem m_reckon4 (E : xE) (l : Launch) (a : Nat → Nat) (cd : Cd) (hG : Good cd) (kf : Int32) (jn js jq : Lb) (ws : va_W) (hW : WX (okM E a cd kf jn js jq) ws) (x0 : Int32) (y0 : Int32) : xI E l yX12_reckon cX12_reckon 3 (some .int) 0 [.int 4, .int x0, .int y0] ws (fun r w => w = ws ∧ (r = rk 4 x0 y0)) := by
  refine xI_start (lv := [(0, .int 4), (1, .int x0), (2, .int y0)]) RX12 (by decide) rfl (Nat.le_of_ble_eq_true rfl) rfl (fun p e s m below meth c A C hr hlk => ?_)
  refine x_iload_n C dX12_reckon_0 rfl 0 rfl rfl ?_
  refine x_tabIn C (tgt := 52) dX12_reckon_1 (by decide) (by decide) rfl (by decide) ?_
  refine x_iload_n C dX12_reckon_52 rfl 1 rfl rfl ?_
  refine x_iload_n C dX12_reckon_53 rfl 2 rfl rfl ?_
  refine x_imul C (v := (x0 * y0)) dX12_reckon_54 rfl rfl ?_
  exact x_zret C hr hlk rfl dX12_reckon_55 ⟨rfl, rfl⟩
theorem dX12_reckon_56 : decode cX12_reckon 56 = .ok (.iload_n 1, 1) := by decide +kernel
theorem dX12_reckon_57 : decode cX12_reckon 57 = .ok (.iload_n 2, 1) := by decide +kernel
theorem dX12_reckon_58 : decode cX12_reckon 58 = .ok (.idiv, 1) := by decide +kernel
theorem dX12_reckon_59 : decode cX12_reckon 59 = .ok (.ireturn, 1) := by decide +kernel
set_option maxRecDepth 20000 in
set_option maxHeartbeats 4000000 in
theorem m_reckon5 (E : xE) (l : Launch) (a : Nat → Nat) (cd : Cd) (hG : Good cd) (kf : Int32) (jn js jq : Lb) (ws : va_W) (hW : WX (okM E a cd kf jn js jq) ws) (x0 : Int32) (y0 : Int32) (hy0 : ¬ y0 = 0) : xI E l yX12_reckon cX12_reckon 3 (some .int) 0 [.int 5, .int x0, .int y0] ws (fun r w => w = ws ∧ (r = rk 5 x0 y0)) := by
  refine xI_start (lv := [(0, .int 5), (1, .int x0), (2, .int y0)]) RX12 (by decide) rfl (Nat.le_of_ble_eq_true rfl) rfl (fun p e s m below meth c A C hr hlk => ?_)
  refine x_iload_n C dX12_reckon_0 rfl 0 rfl rfl ?_
  refine x_tabIn C (tgt := 56) dX12_reckon_1 (by decide) (by decide) rfl (by decide) ?_
  refine x_iload_n C dX12_reckon_56 rfl 1 rfl rfl ?_
  refine x_iload_n C dX12_reckon_57 rfl 2 rfl rfl ?_
  refine x_idiv C (v := (x0 / y0)) dX12_reckon_58 hy0 rfl rfl ?_
  exact x_zret C hr hlk rfl dX12_reckon_59 ⟨rfl, rfl⟩
theorem dX12_reckon_60 : decode cX12_reckon 60 = .ok (.iload_n 1, 1) := by decide +kernel
theorem dX12_reckon_61 : decode cX12_reckon 61 = .ok (.iload_n 2, 1) := by decide +kernel
theorem dX12_reckon_62 : decode cX12_reckon 62 = .ok (.irem, 1) := by decide +kernel
theorem dX12_reckon_63 : decode cX12_reckon 63 = .ok (.ireturn, 1) := by decide +kernel
set_option maxRecDepth 20000 in
set_option maxHeartbeats 4000000 in
theorem m_reckon6 (E : xE) (l : Launch) (a : Nat → Nat) (cd : Cd) (hG : Good cd) (kf : Int32) (jn js jq : Lb) (ws : va_W) (hW : WX (okM E a cd kf jn js jq) ws) (x0 : Int32) (y0 : Int32) (hy0 : ¬ y0 = 0) : xI E l yX12_reckon cX12_reckon 3 (some .int) 0 [.int 6, .int x0, .int y0] ws (fun r w => w = ws ∧ (r = rk 6 x0 y0)) := by
  refine xI_start (lv := [(0, .int 6), (1, .int x0), (2, .int y0)]) RX12 (by decide) rfl (Nat.le_of_ble_eq_true rfl) rfl (fun p e s m below meth c A C hr hlk => ?_)
  refine x_iload_n C dX12_reckon_0 rfl 0 rfl rfl ?_
  refine x_tabIn C (tgt := 60) dX12_reckon_1 (by decide) (by decide) rfl (by decide) ?_
  refine x_iload_n C dX12_reckon_60 rfl 1 rfl rfl ?_
  refine x_iload_n C dX12_reckon_61 rfl 2 rfl rfl ?_
  refine x_irem C (v := (x0 - x0 / y0 * y0)) dX12_reckon_62 hy0 rfl rfl ?_
  exact x_zret C hr hlk rfl dX12_reckon_63 ⟨rfl, rfl⟩
theorem dX12_reckon_64 : decode cX12_reckon 64 = .ok (.iload_n 1, 1) := by decide +kernel
theorem dX12_reckon_65 : decode cX12_reckon 65 = .ok (.iload_n 2, 1) := by decide +kernel
theorem dX12_reckon_66 : decode cX12_reckon 66 = .ok (.if_icmp .ge 7, 3) := by decide +kernel
theorem dX12_reckon_69 : decode cX12_reckon 69 = .ok (.iconst 1, 1) := by decide +kernel
theorem dX12_reckon_70 : decode cX12_reckon 70 = .ok (.goto 4, 3) := by decide +kernel
theorem dX12_reckon_73 : decode cX12_reckon 73 = .ok (.iconst 0, 1) := by decide +kernel
theorem dX12_reckon_74 : decode cX12_reckon 74 = .ok (.ireturn, 1) := by decide +kernel
set_option maxRecDepth 20000 in
set_option maxHeartbeats 4000000 in
theorem m_reckon7 (E : xE) (l : Launch) (a : Nat → Nat) (cd : Cd) (hG : Good cd) (kf : Int32) (jn js jq : Lb) (ws : va_W) (hW : WX (okM E a cd kf jn js jq) ws) (x0 : Int32) (y0 : Int32) : xI E l yX12_reckon cX12_reckon 3 (some .int) 0 [.int 7, .int x0, .int y0] ws (fun r w => w = ws ∧ (r = rk 7 x0 y0)) := by
  refine xI_start (lv := [(0, .int 7), (1, .int x0), (2, .int y0)]) RX12 (by decide) rfl (Nat.le_of_ble_eq_true rfl) rfl (fun p e s m below meth c A C hr hlk => ?_)
  refine x_iload_n C dX12_reckon_0 rfl 0 rfl rfl ?_
  refine x_tabIn C (tgt := 64) dX12_reckon_1 (by decide) (by decide) rfl (by decide) ?_
  refine x_iload_n C dX12_reckon_64 rfl 1 rfl rfl ?_
  refine x_iload_n C dX12_reckon_65 rfl 2 rfl rfl ?_
  refine x_icmp_ge C (tgt := 73) dX12_reckon_66 (by decide) rfl (fun c1 => ?_) (fun c1 => ?_)
  · skip
    refine x_iconst C (v := 0) dX12_reckon_73 (by decide) rfl ?_
    exact x_zret C hr hlk rfl dX12_reckon_74 ⟨rfl, (if_neg (Int32.not_lt.mpr c1)).symm⟩
  · skip
    refine x_iconst C (v := 1) dX12_reckon_69 (by decide) rfl ?_
    refine x_goto C (tgt := 74) dX12_reckon_70 (by decide) ?_
    exact x_zret C hr hlk rfl dX12_reckon_74 ⟨rfl, (if_pos (Int32.not_le.mp c1)).symm⟩
theorem dX12_reckon_75 : decode cX12_reckon 75 = .ok (.iload_n 1, 1) := by decide +kernel
theorem dX12_reckon_76 : decode cX12_reckon 76 = .ok (.iload_n 2, 1) := by decide +kernel
theorem dX12_reckon_77 : decode cX12_reckon 77 = .ok (.if_icmp .le 7, 3) := by decide +kernel
theorem dX12_reckon_80 : decode cX12_reckon 80 = .ok (.iconst 1, 1) := by decide +kernel
theorem dX12_reckon_81 : decode cX12_reckon 81 = .ok (.goto 4, 3) := by decide +kernel
theorem dX12_reckon_84 : decode cX12_reckon 84 = .ok (.iconst 0, 1) := by decide +kernel
theorem dX12_reckon_85 : decode cX12_reckon 85 = .ok (.ireturn, 1) := by decide +kernel
set_option maxRecDepth 20000 in
set_option maxHeartbeats 4000000 in
theorem m_reckon8 (E : xE) (l : Launch) (a : Nat → Nat) (cd : Cd) (hG : Good cd) (kf : Int32) (jn js jq : Lb) (ws : va_W) (hW : WX (okM E a cd kf jn js jq) ws) (x0 : Int32) (y0 : Int32) : xI E l yX12_reckon cX12_reckon 3 (some .int) 0 [.int 8, .int x0, .int y0] ws (fun r w => w = ws ∧ (r = rk 8 x0 y0)) := by
  refine xI_start (lv := [(0, .int 8), (1, .int x0), (2, .int y0)]) RX12 (by decide) rfl (Nat.le_of_ble_eq_true rfl) rfl (fun p e s m below meth c A C hr hlk => ?_)
  refine x_iload_n C dX12_reckon_0 rfl 0 rfl rfl ?_
  refine x_tabIn C (tgt := 75) dX12_reckon_1 (by decide) (by decide) rfl (by decide) ?_
  refine x_iload_n C dX12_reckon_75 rfl 1 rfl rfl ?_
  refine x_iload_n C dX12_reckon_76 rfl 2 rfl rfl ?_
  refine x_icmp_le C (tgt := 84) dX12_reckon_77 (by decide) rfl (fun c1 => ?_) (fun c1 => ?_)
  · skip
    refine x_iconst C (v := 0) dX12_reckon_84 (by decide) rfl ?_
    exact x_zret C hr hlk rfl dX12_reckon_85 ⟨rfl, (if_neg (Int32.not_lt.mpr c1)).symm⟩
  · skip
    refine x_iconst C (v := 1) dX12_reckon_80 (by decide) rfl ?_
    refine x_goto C (tgt := 85) dX12_reckon_81 (by decide) ?_
    exact x_zret C hr hlk rfl dX12_reckon_85 ⟨rfl, (if_pos (Int32.not_le.mp c1)).symm⟩
theorem dX12_reckon_86 : decode cX12_reckon 86 = .ok (.iload_n 1, 1) := by decide +kernel
theorem dX12_reckon_87 : decode cX12_reckon 87 = .ok (.iload_n 2, 1) := by decide +kernel
theorem dX12_reckon_88 : decode cX12_reckon 88 = .ok (.if_icmp .ne 7, 3) := by decide +kernel
theorem dX12_reckon_91 : decode cX12_reckon 91 = .ok (.iconst 1, 1) := by decide +kernel
theorem dX12_reckon_92 : decode cX12_reckon 92 = .ok (.goto 4, 3) := by decide +kernel
theorem dX12_reckon_95 : decode cX12_reckon 95 = .ok (.iconst 0, 1) := by decide +kernel
theorem dX12_reckon_96 : decode cX12_reckon 96 = .ok (.ireturn, 1) := by decide +kernel
set_option maxRecDepth 20000 in
set_option maxHeartbeats 4000000 in
theorem m_reckon9 (E : xE) (l : Launch) (a : Nat → Nat) (cd : Cd) (hG : Good cd) (kf : Int32) (jn js jq : Lb) (ws : va_W) (hW : WX (okM E a cd kf jn js jq) ws) (x0 : Int32) (y0 : Int32) : xI E l yX12_reckon cX12_reckon 3 (some .int) 0 [.int 9, .int x0, .int y0] ws (fun r w => w = ws ∧ (r = rk 9 x0 y0)) := by
  refine xI_start (lv := [(0, .int 9), (1, .int x0), (2, .int y0)]) RX12 (by decide) rfl (Nat.le_of_ble_eq_true rfl) rfl (fun p e s m below meth c A C hr hlk => ?_)
  refine x_iload_n C dX12_reckon_0 rfl 0 rfl rfl ?_
  refine x_tabOut C (tgt := 86) dX12_reckon_1 (by decide) (by decide) ?_
  refine x_iload_n C dX12_reckon_86 rfl 1 rfl rfl ?_
  refine x_iload_n C dX12_reckon_87 rfl 2 rfl rfl ?_
  refine x_icmp_ne C (tgt := 95) dX12_reckon_88 (by decide) rfl (fun c1 => ?_) (fun c1 => ?_)
  · skip
    refine x_iconst C (v := 0) dX12_reckon_95 (by decide) rfl ?_
    exact x_zret C hr hlk rfl dX12_reckon_96 ⟨rfl, (if_neg c1).symm⟩
  · skip
    refine x_iconst C (v := 1) dX12_reckon_91 (by decide) rfl ?_
    refine x_goto C (tgt := 96) dX12_reckon_92 (by decide) ?_
    exact x_zret C hr hlk rfl dX12_reckon_96 ⟨rfl, (if_pos c1).symm⟩
theorem dX12_comesTo_0 : decode cX12_comesTo 0 = .ok (.iconst 0, 1) := by decide +kernel
theorem dX12_comesTo_1 : decode cX12_comesTo 1 = .ok (.istore_n 3, 1) := by decide +kernel
theorem dX12_comesTo_2 : decode cX12_comesTo 2 = .ok (.sipush 260, 3) := by decide +kernel
theorem dX12_comesTo_5 : decode cX12_comesTo 5 = .ok (.iload_n 1, 1) := by decide +kernel
theorem dX12_comesTo_6 : decode cX12_comesTo 6 = .ok (.sipush 260, 3) := by decide +kernel
theorem dX12_comesTo_9 : decode cX12_comesTo 9 = .ok (.idiv, 1) := by decide +kernel
theorem dX12_comesTo_10 : decode cX12_comesTo 10 = .ok (.imul, 1) := by decide +kernel
theorem dX12_comesTo_11 : decode cX12_comesTo 11 = .ok (.istore 4, 2) := by decide +kernel
theorem dX12_comesTo_13 : decode cX12_comesTo 13 = .ok (.iload_n 1, 1) := by decide +kernel
theorem dX12_comesTo_14 : decode cX12_comesTo 14 = .ok (.istore 5, 2) := by decide +kernel
theorem dX12_comesTo_16 : decode cX12_comesTo 16 = .ok (.iload 5, 2) := by decide +kernel
theorem dX12_comesTo_18 : decode cX12_comesTo 18 = .ok (.iload_n 2, 1) := by decide +kernel
theorem dX12_comesTo_19 : decode cX12_comesTo 19 = .ok (.if_icmp .ge 214, 3) := by decide +kernel
theorem dX12_comesTo_22 : decode cX12_comesTo 22 = .ok (.aload_n 0, 1) := by decide +kernel
theorem dX12_comesTo_23 : decode cX12_comesTo 23 = .ok (.getfield 41, 3) := by decide +kernel
theorem dX12_comesTo_26 : decode cX12_comesTo 26 = .ok (.iload 5, 2) := by decide +kernel
theorem dX12_comesTo_28 : decode cX12_comesTo 28 = .ok (.iaload, 1) := by decide +kernel
theorem dX12_comesTo_29 : decode cX12_comesTo 29 = .ok (.ldc 157, 2) := by decide +kernel
theorem dX12_comesTo_31 : decode cX12_comesTo 31 = .ok (.idiv, 1) := by decide +kernel
theorem dX12_comesTo_32 : decode cX12_comesTo 32 = .ok (.istore 6, 2) := by decide +kernel
theorem dX12_comesTo_34 : decode cX12_comesTo 34 = .ok (.aload_n 0, 1) := by decide +kernel
theorem dX12_comesTo_35 : decode cX12_comesTo 35 = .ok (.getfield 41, 3) := by decide +kernel
theorem dX12_comesTo_38 : decode cX12_comesTo 38 = .ok (.iload 5, 2) := by decide +kernel
theorem dX12_comesTo_40 : decode cX12_comesTo 40 = .ok (.iaload, 1) := by decide +kernel
theorem dX12_comesTo_41 : decode cX12_comesTo 41 = .ok (.ldc 157, 2) := by decide +kernel
theorem dX12_comesTo_43 : decode cX12_comesTo 43 = .ok (.irem, 1) := by decide +kernel
theorem dX12_comesTo_44 : decode cX12_comesTo 44 = .ok (.istore 7, 2) := by decide +kernel
theorem dX12_comesTo_46 : decode cX12_comesTo 46 = .ok (.iload 5, 2) := by decide +kernel
theorem dX12_comesTo_48 : decode cX12_comesTo 48 = .ok (.iconst 1, 1) := by decide +kernel
theorem dX12_comesTo_49 : decode cX12_comesTo 49 = .ok (.iadd, 1) := by decide +kernel
theorem dX12_comesTo_50 : decode cX12_comesTo 50 = .ok (.istore 5, 2) := by decide +kernel
theorem dX12_comesTo_52 : decode cX12_comesTo 52 = .ok (.iload 6, 2) := by decide +kernel
theorem dX12_comesTo_54 : decode cX12_comesTo 54 = .ok (.ifCond .eq 9, 3) := by decide +kernel
theorem dX12_comesTo_57 : decode cX12_comesTo 57 = .ok (.iload 6, 2) := by decide +kernel
theorem dX12_comesTo_59 : decode cX12_comesTo 59 = .ok (.iconst 1, 1) := by decide +kernel
theorem dX12_comesTo_60 : decode cX12_comesTo 60 = .ok (.if_icmp .ne 33, 3) := by decide +kernel
theorem dX12_comesTo_63 : decode cX12_comesTo 63 = .ok (.aload_n 0, 1) := by decide +kernel
theorem dX12_comesTo_64 : decode cX12_comesTo 64 = .ok (.getfield 56, 3) := by decide +kernel
theorem dX12_comesTo_67 : decode cX12_comesTo 67 = .ok (.iload_n 3, 1) := by decide +kernel
theorem dX12_comesTo_68 : decode cX12_comesTo 68 = .ok (.iload 6, 2) := by decide +kernel
theorem dX12_comesTo_70 : decode cX12_comesTo 70 = .ok (.ifCond .ne 8, 3) := by decide +kernel
theorem dX12_comesTo_73 : decode cX12_comesTo 73 = .ok (.iload 7, 2) := by decide +kernel
theorem dX12_comesTo_75 : decode cX12_comesTo 75 = .ok (.goto 10, 3) := by decide +kernel
theorem dX12_comesTo_78 : decode cX12_comesTo 78 = .ok (.aload_n 0, 1) := by decide +kernel
theorem dX12_comesTo_79 : decode cX12_comesTo 79 = .ok (.getfield 59, 3) := by decide +kernel
theorem dX12_comesTo_82 : decode cX12_comesTo 82 = .ok (.iload 7, 2) := by decide +kernel
theorem dX12_comesTo_84 : decode cX12_comesTo 84 = .ok (.iaload, 1) := by decide +kernel
theorem dX12_comesTo_85 : decode cX12_comesTo 85 = .ok (.iastore, 1) := by decide +kernel
theorem dX12_comesTo_86 : decode cX12_comesTo 86 = .ok (.iload_n 3, 1) := by decide +kernel
theorem dX12_comesTo_87 : decode cX12_comesTo 87 = .ok (.iconst 1, 1) := by decide +kernel
theorem dX12_comesTo_88 : decode cX12_comesTo 88 = .ok (.iadd, 1) := by decide +kernel
theorem dX12_comesTo_89 : decode cX12_comesTo 89 = .ok (.istore_n 3, 1) := by decide +kernel
theorem dX12_comesTo_90 : decode cX12_comesTo 90 = .ok (.goto 140, 3) := by decide +kernel
theorem dX12_comesTo_93 : decode cX12_comesTo 93 = .ok (.iload 6, 2) := by decide +kernel
theorem dX12_comesTo_95 : decode cX12_comesTo 95 = .ok (.bipush 10, 2) := by decide +kernel
theorem dX12_comesTo_97 : decode cX12_comesTo 97 = .ok (.if_icmp .ne 24, 3) := by decide +kernel
theorem dX12_comesTo_100 : decode cX12_comesTo 100 = .ok (.aload_n 0, 1) := by decide +kernel
theorem dX12_comesTo_101 : decode cX12_comesTo 101 = .ok (.getfield 56, 3) := by decide +kernel
theorem dX12_comesTo_104 : decode cX12_comesTo 104 = .ok (.iload_n 3, 1) := by decide +kernel
theorem dX12_comesTo_105 : decode cX12_comesTo 105 = .ok (.iconst 1, 1) := by decide +kernel
theorem dX12_comesTo_106 : decode cX12_comesTo 106 = .ok (.isub, 1) := by decide +kernel
theorem dX12_comesTo_107 : decode cX12_comesTo 107 = .ok (.iconst 1, 1) := by decide +kernel
theorem dX12_comesTo_108 : decode cX12_comesTo 108 = .ok (.aload_n 0, 1) := by decide +kernel
theorem dX12_comesTo_109 : decode cX12_comesTo 109 = .ok (.getfield 56, 3) := by decide +kernel
theorem dX12_comesTo_112 : decode cX12_comesTo 112 = .ok (.iload_n 3, 1) := by decide +kernel
theorem dX12_comesTo_113 : decode cX12_comesTo 113 = .ok (.iconst 1, 1) := by decide +kernel
theorem dX12_comesTo_114 : decode cX12_comesTo 114 = .ok (.isub, 1) := by decide +kernel
theorem dX12_comesTo_115 : decode cX12_comesTo 115 = .ok (.iaload, 1) := by decide +kernel
theorem dX12_comesTo_116 : decode cX12_comesTo 116 = .ok (.isub, 1) := by decide +kernel
theorem dX12_comesTo_117 : decode cX12_comesTo 117 = .ok (.iastore, 1) := by decide +kernel
theorem dX12_comesTo_118 : decode cX12_comesTo 118 = .ok (.goto 112, 3) := by decide +kernel
theorem dX12_comesTo_121 : decode cX12_comesTo 121 = .ok (.iload 6, 2) := by decide +kernel
theorem dX12_comesTo_123 : decode cX12_comesTo 123 = .ok (.bipush 11, 2) := by decide +kernel
theorem dX12_comesTo_125 : decode cX12_comesTo 125 = .ok (.if_icmp .eq 10, 3) := by decide +kernel
theorem dX12_comesTo_128 : decode cX12_comesTo 128 = .ok (.iload 6, 2) := by decide +kernel
theorem dX12_comesTo_130 : decode cX12_comesTo 130 = .ok (.bipush 12, 2) := by decide +kernel
theorem dX12_comesTo_132 : decode cX12_comesTo 132 = .ok (.if_icmp .ne 43, 3) := by decide +kernel
theorem dX12_comesTo_135 : decode cX12_comesTo 135 = .ok (.aload_n 0, 1) := by decide +kernel
theorem dX12_comesTo_136 : decode cX12_comesTo 136 = .ok (.getfield 56, 3) := by decide +kernel
theorem dX12_comesTo_139 : decode cX12_comesTo 139 = .ok (.iload_n 3, 1) := by decide +kernel
theorem dX12_comesTo_140 : decode cX12_comesTo 140 = .ok (.iconst 1, 1) := by decide +kernel
theorem dX12_comesTo_141 : decode cX12_comesTo 141 = .ok (.isub, 1) := by decide +kernel
theorem dX12_comesTo_142 : decode cX12_comesTo 142 = .ok (.iaload, 1) := by decide +kernel
theorem dX12_comesTo_143 : decode cX12_comesTo 143 = .ok (.iload 6, 2) := by decide +kernel
theorem dX12_comesTo_145 : decode cX12_comesTo 145 = .ok (.bipush 12, 2) := by decide +kernel
theorem dX12_comesTo_147 : decode cX12_comesTo 147 = .ok (.if_icmp .ne 7, 3) := by decide +kernel
theorem dX12_comesTo_150 : decode cX12_comesTo 150 = .ok (.iconst 1, 1) := by decide +kernel
theorem dX12_comesTo_151 : decode cX12_comesTo 151 = .ok (.goto 4, 3) := by decide +kernel
theorem dX12_comesTo_154 : decode cX12_comesTo 154 = .ok (.iconst 0, 1) := by decide +kernel
theorem dX12_comesTo_155 : decode cX12_comesTo 155 = .ok (.if_icmp .ne 13, 3) := by decide +kernel
theorem dX12_comesTo_158 : decode cX12_comesTo 158 = .ok (.iload 4, 2) := by decide +kernel
theorem dX12_comesTo_160 : decode cX12_comesTo 160 = .ok (.iload 7, 2) := by decide +kernel
theorem dX12_comesTo_162 : decode cX12_comesTo 162 = .ok (.iadd, 1) := by decide +kernel
theorem dX12_comesTo_163 : decode cX12_comesTo 163 = .ok (.istore 5, 2) := by decide +kernel
theorem dX12_comesTo_165 : decode cX12_comesTo 165 = .ok (.goto 65, 3) := by decide +kernel
theorem dX12_comesTo_168 : decode cX12_comesTo 168 = .ok (.iload_n 3, 1) := by decide +kernel
theorem dX12_comesTo_169 : decode cX12_comesTo 169 = .ok (.iconst 1, 1) := by decide +kernel
theorem dX12_comesTo_170 : decode cX12_comesTo 170 = .ok (.isub, 1) := by decide +kernel
theorem dX12_comesTo_171 : decode cX12_comesTo 171 = .ok (.istore_n 3, 1) := by decide +kernel
theorem dX12_comesTo_172 : decode cX12_comesTo 172 = .ok (.goto 58, 3) := by decide +kernel
theorem dX12_comesTo_175 : decode cX12_comesTo 175 = .ok (.iload_n 3, 1) := by decide +kernel
theorem dX12_comesTo_176 : decode cX12_comesTo 176 = .ok (.iconst 1, 1) := by decide +kernel
theorem dX12_comesTo_177 : decode cX12_comesTo 177 = .ok (.isub, 1) := by decide +kernel
theorem dX12_comesTo_178 : decode cX12_comesTo 178 = .ok (.istore_n 3, 1) := by decide +kernel
theorem dX12_comesTo_179 : decode cX12_comesTo 179 = .ok (.iload 6, 2) := by decide +kernel
theorem dX12_comesTo_181 : decode cX12_comesTo 181 = .ok (.iconst 5, 1) := by decide +kernel
theorem dX12_comesTo_182 : decode cX12_comesTo 182 = .ok (.if_icmp .eq 10, 3) := by decide +kernel
theorem dX12_comesTo_185 : decode cX12_comesTo 185 = .ok (.iload 6, 2) := by decide +kernel
theorem dX12_comesTo_187 : decode cX12_comesTo 187 = .ok (.bipush 6, 2) := by decide +kernel
theorem dX12_comesTo_189 : decode cX12_comesTo 189 = .ok (.if_icmp .ne 14, 3) := by decide +kernel
theorem dX12_comesTo_192 : decode cX12_comesTo 192 = .ok (.aload_n 0, 1) := by decide +kernel
theorem dX12_comesTo_193 : decode cX12_comesTo 193 = .ok (.getfield 56, 3) := by decide +kernel
theorem dX12_comesTo_196 : decode cX12_comesTo 196 = .ok (.iload_n 3, 1) := by decide +kernel
theorem dX12_comesTo_197 : decode cX12_comesTo 197 = .ok (.iaload, 1) := by decide +kernel
theorem dX12_comesTo_198 : decode cX12_comesTo 198 = .ok (.ifCond .ne 5, 3) := by decide +kernel
theorem dX12_comesTo_201 : decode cX12_comesTo 201 = .ok (.iconst 0, 1) := by decide +kernel
theorem dX12_comesTo_202 : decode cX12_comesTo 202 = .ok (.ireturn, 1) := by decide +kernel
theorem dX12_comesTo_203 : decode cX12_comesTo 203 = .ok (.aload_n 0, 1) := by decide +kernel
theorem dX12_comesTo_204 : decode cX12_comesTo 204 = .ok (.getfield 56, 3) := by decide +kernel
theorem dX12_comesTo_207 : decode cX12_comesTo 207 = .ok (.iload_n 3, 1) := by decide +kernel
theorem dX12_comesTo_208 : decode cX12_comesTo 208 = .ok (.iconst 1, 1) := by decide +kernel
theorem dX12_comesTo_209 : decode cX12_comesTo 209 = .ok (.isub, 1) := by decide +kernel
theorem dX12_comesTo_210 : decode cX12_comesTo 210 = .ok (.iload 6, 2) := by decide +kernel
theorem dX12_comesTo_212 : decode cX12_comesTo 212 = .ok (.aload_n 0, 1) := by decide +kernel
theorem dX12_comesTo_213 : decode cX12_comesTo 213 = .ok (.getfield 56, 3) := by decide +kernel
theorem dX12_comesTo_216 : decode cX12_comesTo 216 = .ok (.iload_n 3, 1) := by decide +kernel
theorem dX12_comesTo_217 : decode cX12_comesTo 217 = .ok (.iconst 1, 1) := by decide +kernel
theorem dX12_comesTo_218 : decode cX12_comesTo 218 = .ok (.isub, 1) := by decide +kernel
theorem dX12_comesTo_219 : decode cX12_comesTo 219 = .ok (.iaload, 1) := by decide +kernel
theorem dX12_comesTo_220 : decode cX12_comesTo 220 = .ok (.aload_n 0, 1) := by decide +kernel
theorem dX12_comesTo_221 : decode cX12_comesTo 221 = .ok (.getfield 56, 3) := by decide +kernel
theorem dX12_comesTo_224 : decode cX12_comesTo 224 = .ok (.iload_n 3, 1) := by decide +kernel
theorem dX12_comesTo_225 : decode cX12_comesTo 225 = .ok (.iaload, 1) := by decide +kernel
theorem dX12_comesTo_226 : decode cX12_comesTo 226 = .ok (.invokestatic 226, 3) := by decide +kernel
theorem dX12_comesTo_229 : decode cX12_comesTo 229 = .ok (.iastore, 1) := by decide +kernel
theorem dX12_comesTo_230 : decode cX12_comesTo 230 = .ok (.goto (-214), 3) := by decide +kernel
theorem dX12_comesTo_233 : decode cX12_comesTo 233 = .ok (.aload_n 0, 1) := by decide +kernel
theorem dX12_comesTo_234 : decode cX12_comesTo 234 = .ok (.getfield 56, 3) := by decide +kernel
theorem dX12_comesTo_237 : decode cX12_comesTo 237 = .ok (.iconst 0, 1) := by decide +kernel
theorem dX12_comesTo_238 : decode cX12_comesTo 238 = .ok (.iaload, 1) := by decide +kernel
theorem dX12_comesTo_239 : decode cX12_comesTo 239 = .ok (.ireturn, 1) := by decide +kernel
set_option maxRecDepth 20000 in
set_option maxHeartbeats 4000000 in
theorem m_comesTo (E : xE) (l : Launch) (a : Nat → Nat) (cd : Cd) (hG : Good cd) (kf : Int32) (jn js jq : Lb) (ws : va_W) (hW : WX (okM E a cd kf jn js jq) ws) (fr : Nat) (to : Nat) (hs : cSeg cd.1 fr to) (fc : Nat → Int32) (hfc : ws[17]? = some (iA E (a 17) 11 fc)) : xI E l yX12_comesTo cX12_comesTo 8 (some .int) 1 [.ref (a 0), .int (nI fr), .int (nI to)] ws (fun r w => WX (okM E a cd kf jn js jq) w ∧ keeps ws w (fun q => q = 16) ∧ (r = cE cd.1 (clip fc) to 300 fr [])) := by
  refine xI_start (lv := [(0, .ref (a 0)), (1, .int (nI fr)), (2, .int (nI to))]) RX12 (by decide) rfl (Nat.le_of_ble_eq_true rfl) rfl (fun p e s m below meth c A C hr hlk => ?_)
  have kp0 : keeps ws ws (fun q => q = 16) := keeps_rf
  obtain ⟨hlt, hto⟩ := cSeg_lt hs
  obtain ⟨-, -, ht, h0, h1, hm, hk⟩ := hs
  obtain ⟨_, k1, f2, rfl⟩ := hW 16 _ rfl
  refine x_iconst C (v := 0) dX12_comesTo_0 (by decide) rfl ?_
  refine x_istore_n C (lv' := [(3, .int 0), (0, .ref (a 0)), (1, .int (nI fr)), (2, .int (nI to))]) dX12_comesTo_1 rfl (by decide) rfl rfl ?_
  refine x_sipush C (v := 260) dX12_comesTo_2 (by decide) rfl ?_
  refine x_iload_n C dX12_comesTo_5 rfl 2 rfl rfl ?_
  refine x_sipush C (v := 260) dX12_comesTo_6 (by decide) rfl ?_
  refine x_idiv C (v := 0) dX12_comesTo_9 (by decide) (div260 (by omega)) rfl ?_
  refine x_imul C (v := 0) dX12_comesTo_10 (by decide) rfl ?_
  refine x_istore C (lv' := [(4, .int 0), (3, .int 0), (0, .ref (a 0)), (1, .int (nI fr)), (2, .int (nI to))]) dX12_comesTo_11 (by decide) rfl rfl ?_
  refine x_iload_n C dX12_comesTo_13 rfl 3 rfl rfl ?_
  refine x_istore C (lv' := [(5, .int (nI fr)), (4, .int 0), (3, .int 0), (0, .ref (a 0)), (1, .int (nI fr)), (2, .int (nI to))]) dX12_comesTo_14 (by decide) rfl rfl ?_
  have loop16 : ∀ (fu16 : Nat) (n : Nat) (k : Nat) (wl16 : va_W), WX (okM E a cd kf jn js jq) wl16 → to - k < fu16 → fr ≤ k ∧ k ≤ to → wl16[17]? = some (iA E (a 17) 11 fc) → (∃ (st : Nat → Int32) (L : List Int32) (F : Nat), wl16[16]? = some (iA E (a 16) 260 st) ∧ sR st L n ∧ n = ht k ∧ to - k < F ∧ cE cd.1 (clip fc) to F k L = cE cd.1 (clip fc) to 300 fr []) → keeps ws wl16 (fun q => q = 16) → X E p l e (xRm 1 0 0) s m ([.ref (a 0), .int (nI fr), .int (nI to)] : List Value).toArray below meth c A 8 0 0 (MQ below (va_Qi (fun r w => WX (okM E a cd kf jn js jq) w ∧ keeps ws w (fun q => q = 16) ∧ (r = cE cd.1 (clip fc) to 300 fr [])) (xB E A) A) ([.ref (a 0), .int (nI fr), .int (nI to)] : List Value).toArray s 0 0 A) wl16 16 [(0, .ref (a 0)), (1, .int (nI fr)), (2, .int (nI to)), (3, .int (nI n)), (4, .int 0), (5, .int (nI k))] [] := by
    intro fu16
    induction fu16 with
    | zero => intro n k wl16 _ q; omega
    | succ fu16 ih16 =>
      intro n k wl16 hWl16 me16 iv16_0 iv16_1 iv16_2 kq16
      obtain ⟨st, L, F, k16, hR, hn, hF, hV⟩ := iv16_2
      refine x_iload C dX12_comesTo_16 5 rfl rfl ?_
      refine x_iload_n C dX12_comesTo_18 rfl 2 rfl rfl ?_
      refine x_icmp_ge C (tgt := 233) dX12_comesTo_19 (by decide) rfl (fun c3 => ?_) (fun c3 => ?_)
      · skip
        have nf4 := nI_le' (a := to) (b := k) c3 (by omega) (by omega)
        have hkt : k = to := by omega
        subst hkt
        obtain ⟨F, rfl⟩ : ∃ F0, F = F0 + 1 := ⟨F - 1, by omega⟩
        have hn1 : n = 1 := by omega
        obtain ⟨x, L1, rfl, hx, hR1⟩ := sR_pop hR (by omega)
        have hfin : st 0 = cE cd.1 (clip fc) k 300 fr [] := by rw [← hV, cE_end (Nat.le_refl _), ← hx, hn1]
        refine x_aload_n C dX12_comesTo_233 rfl 0 rfl rfl ?_
        obtain ⟨_, k5, n6, n8, n10, v12, v13, v14, n15, n17, n19, n21, v23, v24, v25, v26, n27, n29, bn7, bn9, bn11, bn16, bn18, bn20, bn22, bn28, bn30, rfl⟩ := hWl16 0 _ rfl
        refine x_get C (ci := 11) (k := 25) 0 k5 rfl in_X12 (by decide) w_1143 rfl dX12_comesTo_234 rfl ?_
        refine x_iconst C (v := 0) dX12_comesTo_237 (by decide) rfl ?_
        refine x_ialk C (v := (st 0)) 0 (by decide) (by decide) (by decide) 16 k16 rfl dX12_comesTo_238 rfl ?_
        exact x_zret C hr hlk rfl dX12_comesTo_239 ⟨hWl16, kq16, hfin⟩
      · skip
        have nf31 := nI_nle' (a := to) (b := k) c3 (by omega) (by omega)
        have hmk := hm k
        obtain ⟨op, vv, hat, hcs⟩ := hk k (by omega) (by omega)
        obtain ⟨F, rfl⟩ : ∃ F0, F = F0 + 1 := ⟨F - 1, by omega⟩
        rcases hcs with ⟨rfl, ha⟩ | ⟨rfl, hb1, ha⟩ | ⟨rfl, hb1, ha⟩ | ⟨rfl | rfl, hb1, ha, hj1, hj2, hj3⟩ | ⟨h2o, h9o, hb1, ha⟩
        · obtain ⟨hop, hvv, hc⟩ := id hat
          refine x_aload_n C dX12_comesTo_22 rfl 0 rfl rfl ?_
          obtain ⟨_, k32, n33, n35, n37, v39, v40, v41, n42, n44, n46, n48, v50, v51, v52, v53, n54, n56, bn34, bn36, bn38, bn43, bn45, bn47, bn49, bn55, bn57, rfl⟩ := hWl16 0 _ rfl
          refine x_get C (ci := 11) (k := 20) 0 k32 rfl in_X12 (by decide) w_1138 rfl dX12_comesTo_23 rfl ?_
          refine x_iload C dX12_comesTo_26 5 rfl rfl ?_
          obtain ⟨_, k58, rfl⟩ := hWl16 11 _ rfl
          refine x_ialk C (v := (cd.1 k)) k (nI_clamp (by omega)) (nI_pos (by omega)) (by omega) 11 k58 rfl dX12_comesTo_28 rfl ?_
          refine x_top hc ?_
          refine x_ldc C w_1340 dX12_comesTo_29 rfl ?_
          refine x_idiv C (v := 0) dX12_comesTo_31 (by decide) (divU (op := 0) (by omega) hvv) rfl ?_
          refine x_istore C (lv' := [(6, .int 0), (0, .ref (a 0)), (1, .int (nI fr)), (2, .int (nI to)), (3, .int (nI n)), (4, .int 0), (5, .int (nI k))]) dX12_comesTo_32 (by decide) rfl rfl ?_
          refine x_aload_n C dX12_comesTo_34 rfl 1 rfl rfl ?_
          refine x_get C (ci := 11) (k := 20) 0 k32 rfl in_X12 (by decide) w_1138 rfl dX12_comesTo_35 rfl ?_
          refine x_iload C dX12_comesTo_38 6 rfl rfl ?_
          refine x_ialk C (v := (cd.1 k)) k (nI_clamp (by omega)) (nI_pos (by omega)) (by omega) 11 k58 rfl dX12_comesTo_40 rfl ?_
          refine x_top hc ?_
          refine x_ldc C w_1340 dX12_comesTo_41 rfl ?_
          refine x_irem C (v := (nI vv)) dX12_comesTo_43 (by decide) (remU (op := 0) (by omega) hvv) rfl ?_
          refine x_istore C (lv' := [(7, .int (nI vv)), (6, .int 0), (0, .ref (a 0)), (1, .int (nI fr)), (2, .int (nI to)), (3, .int (nI n)), (4, .int 0), (5, .int (nI k))]) dX12_comesTo_44 (by decide) rfl rfl ?_
          refine x_iload C dX12_comesTo_46 7 rfl rfl ?_
          refine x_iconst C (v := 1) dX12_comesTo_48 (by decide) rfl ?_
          refine x_iadd C (v := (nI (k + 1))) dX12_comesTo_49 (nI_add k 1) rfl ?_
          refine x_istore C (lv' := [(5, .int (nI (k + 1))), (7, .int (nI vv)), (6, .int 0), (0, .ref (a 0)), (1, .int (nI fr)), (2, .int (nI to)), (3, .int (nI n)), (4, .int 0)]) dX12_comesTo_50 (by decide) rfl rfl ?_
          refine x_iload C dX12_comesTo_52 2 rfl rfl ?_
          refine x_if_eq C (tgt := 63) dX12_comesTo_54 (by decide) rfl (fun _ => ?_) (fun h => absurd h (by decide))
          refine x_aload_n C dX12_comesTo_63 rfl 3 rfl rfl ?_
          refine x_get C (ci := 11) (k := 25) 0 k32 rfl in_X12 (by decide) w_1143 rfl dX12_comesTo_64 rfl ?_
          refine x_iload_n C dX12_comesTo_67 rfl 6 rfl rfl ?_
          refine x_iload C dX12_comesTo_68 2 rfl rfl ?_
          refine x_if_ne C (tgt := 78) dX12_comesTo_70 (by decide) rfl (fun h => absurd h (by decide)) (fun _ => ?_)
          refine x_iload C dX12_comesTo_73 1 rfl rfl ?_
          refine x_goto C (tgt := 85) dX12_comesTo_75 (by decide) ?_
          obtain ⟨w59, hw60⟩ : ∃ w : va_W, w = List.set wl16 16 (iA E (a 16) 260 (upd st n (nI vv))) := ⟨_, rfl⟩
          refine x_iask C n (nI_clamp (by omega)) (nI_pos (by omega)) (by omega) 16 k16 hw60.symm dX12_comesTo_85 rfl ?_
          have hW61 : WX (okM E a cd kf jn js jq) w59 := by rw [hw60]; exact hWl16.set (k := 16) rfl ⟨_, rfl⟩
          have k62 : w59[16]? = some (iA E (a 16) 260 (upd st n (nI vv))) := by rw [hw60]; exact set_eq k16
          have k63 : w59[17]? = some (iA E (a 17) 11 fc) := by rw [hw60]; exact set_ne iv16_1 (by decide)
          have k64 : w59[0]? = some (ob (a 0) 11 [.ref (a 1), .ref (a 2), .ref (a 3), .ref (a 4), .int (nI n33), .int (nI n35), .int (nI n37), .int v39, .int v40, .int v41, .int (nI n42), .int (nI n44), .int (nI n46), .int (nI (cd.2.2.2.2.2)), .ref (a 5), .ref (a 6), .ref (a 7), .ref (a 8), .ref (a 9), .ref (a 10), .ref (a 11), .ref (a 12), .ref (a 13), .ref (a 14), .ref (a 15), .ref (a 16), .ref (a 17), .int (nI n48), .ref (a 18), .ref (a 19), .ref (a 20), .ref (a 21), .int v50, .int v51, .int v52, .int v53, .int (nI n54), .int (nI n56), .ref (a 22), .ref (a 23), .ref (a 24), .ref (a 25), .ref (a 26), .ref (a 27), .ref (a 28), .ref (a 29), .ref (a 30), .int kf]) := by rw [hw60]; exact set_ne k32 (by decide)
          have k65 : w59[11]? = some (iA E (a 11) 260 cd.1) := by rw [hw60]; exact set_ne k58 (by decide)
          have kp66 := keeps_set kq16 hw60 (by first | exact rfl | decide | omega | (dsimp only; omega))
          refine x_iload_n C dX12_comesTo_86 rfl 6 rfl rfl ?_
          refine x_iconst C (v := 1) dX12_comesTo_87 (by decide) rfl ?_
          refine x_iadd C (v := (nI (n + 1))) dX12_comesTo_88 (nI_add n 1) rfl ?_
          refine x_istore_n C (lv' := [(3, .int (nI (n + 1))), (5, .int (nI (k + 1))), (7, .int (nI vv)), (6, .int 0), (0, .ref (a 0)), (1, .int (nI fr)), (2, .int (nI to)), (4, .int 0)]) dX12_comesTo_89 rfl (by decide) rfl rfl ?_
          refine x_goto C (tgt := 230) dX12_comesTo_90 (by decide) ?_
          refine x_goto C (tgt := 16) dX12_comesTo_230 (by decide) ?_
          refine x_lv (lv1 := [(0, .ref (a 0)), (1, .int (nI fr)), (2, .int (nI to)), (3, .int (nI (n + 1))), (4, .int 0), (5, .int (nI (k + 1)))]) [4, 5, 6, 0, 7, 1] rfl ?_
          exact ih16 (n + 1) (k + 1) w59 hW61 (by omega) (by omega) k63 ⟨_, _, F, k62, sR_push hR, by omega, by omega, (cE_num (by omega) hat).symm.trans hV⟩ kp66
        · obtain ⟨hop, hvv, hc⟩ := id hat
          refine x_aload_n C dX12_comesTo_22 rfl 0 rfl rfl ?_
          obtain ⟨_, k67, n68, n70, n72, v74, v75, v76, n77, n79, n81, n83, v85, v86, v87, v88, n89, n91, bn69, bn71, bn73, bn78, bn80, bn82, bn84, bn90, bn92, rfl⟩ := hWl16 0 _ rfl
          refine x_get C (ci := 11) (k := 20) 0 k67 rfl in_X12 (by decide) w_1138 rfl dX12_comesTo_23 rfl ?_
          refine x_iload C dX12_comesTo_26 5 rfl rfl ?_
          obtain ⟨_, k93, rfl⟩ := hWl16 11 _ rfl
          refine x_ialk C (v := (cd.1 k)) k (nI_clamp (by omega)) (nI_pos (by omega)) (by omega) 11 k93 rfl dX12_comesTo_28 rfl ?_
          refine x_top hc ?_
          refine x_ldc C w_1340 dX12_comesTo_29 rfl ?_
          refine x_idiv C (v := 1) dX12_comesTo_31 (by decide) (divU (op := 1) (by omega) hvv) rfl ?_
          refine x_istore C (lv' := [(6, .int 1), (0, .ref (a 0)), (1, .int (nI fr)), (2, .int (nI to)), (3, .int (nI n)), (4, .int 0), (5, .int (nI k))]) dX12_comesTo_32 (by decide) rfl rfl ?_
          refine x_aload_n C dX12_comesTo_34 rfl 1 rfl rfl ?_
          refine x_get C (ci := 11) (k := 20) 0 k67 rfl in_X12 (by decide) w_1138 rfl dX12_comesTo_35 rfl ?_
          refine x_iload C dX12_comesTo_38 6 rfl rfl ?_
          refine x_ialk C (v := (cd.1 k)) k (nI_clamp (by omega)) (nI_pos (by omega)) (by omega) 11 k93 rfl dX12_comesTo_40 rfl ?_
          refine x_top hc ?_
          refine x_ldc C w_1340 dX12_comesTo_41 rfl ?_
          refine x_irem C (v := (nI vv)) dX12_comesTo_43 (by decide) (remU (op := 1) (by omega) hvv) rfl ?_
          refine x_istore C (lv' := [(7, .int (nI vv)), (6, .int 1), (0, .ref (a 0)), (1, .int (nI fr)), (2, .int (nI to)), (3, .int (nI n)), (4, .int 0), (5, .int (nI k))]) dX12_comesTo_44 (by decide) rfl rfl ?_
          refine x_iload C dX12_comesTo_46 7 rfl rfl ?_
          refine x_iconst C (v := 1) dX12_comesTo_48 (by decide) rfl ?_
          refine x_iadd C (v := (nI (k + 1))) dX12_comesTo_49 (nI_add k 1) rfl ?_
          refine x_istore C (lv' := [(5, .int (nI (k + 1))), (7, .int (nI vv)), (6, .int 1), (0, .ref (a 0)), (1, .int (nI fr)), (2, .int (nI to)), (3, .int (nI n)), (4, .int 0)]) dX12_comesTo_50 (by decide) rfl rfl ?_
          refine x_iload C dX12_comesTo_52 2 rfl rfl ?_
          refine x_if_eq C (tgt := 63) dX12_comesTo_54 (by decide) rfl (fun h => absurd h (by decide)) (fun _ => ?_)
          refine x_iload C dX12_comesTo_57 2 rfl rfl ?_
          refine x_iconst C (v := 1) dX12_comesTo_59 (by decide) rfl ?_
          refine x_icmp_ne C (tgt := 93) dX12_comesTo_60 (by decide) rfl (fun h => absurd h (by decide)) (fun _ => ?_)
          refine x_aload_n C dX12_comesTo_63 rfl 3 rfl rfl ?_
          refine x_get C (ci := 11) (k := 25) 0 k67 rfl in_X12 (by decide) w_1143 rfl dX12_comesTo_64 rfl ?_
          refine x_iload_n C dX12_comesTo_67 rfl 6 rfl rfl ?_
          refine x_iload C dX12_comesTo_68 2 rfl rfl ?_
          refine x_if_ne C (tgt := 78) dX12_comesTo_70 (by decide) rfl (fun _ => ?_) (fun h => absurd h (by decide))
          refine x_aload_n C dX12_comesTo_78 rfl 3 rfl rfl ?_
          refine x_get C (ci := 11) (k := 26) 0 k67 rfl in_X12 (by decide) w_1144 rfl dX12_comesTo_79 rfl ?_
          refine x_iload C dX12_comesTo_82 1 rfl rfl ?_
          refine x_ialk C (v := (fc vv)) vv (nI_clamp (by omega)) (nI_pos (by omega)) (by omega) 17 iv16_1 rfl dX12_comesTo_84 rfl ?_
          obtain ⟨w94, hw95⟩ : ∃ w : va_W, w = List.set wl16 16 (iA E (a 16) 260 (upd st n (fc vv))) := ⟨_, rfl⟩
          refine x_iask C n (nI_clamp (by omega)) (nI_pos (by omega)) (by omega) 16 k16 hw95.symm dX12_comesTo_85 rfl ?_
          have hW96 : WX (okM E a cd kf jn js jq) w94 := by rw [hw95]; exact hWl16.set (k := 16) rfl ⟨_, rfl⟩
          have k97 : w94[16]? = some (iA E (a 16) 260 (upd st n (fc vv))) := by rw [hw95]; exact set_eq k16
          have k98 : w94[17]? = some (iA E (a 17) 11 fc) := by rw [hw95]; exact set_ne iv16_1 (by decide)
          have k99 : w94[0]? = some (ob (a 0) 11 [.ref (a 1), .ref (a 2), .ref (a 3), .ref (a 4), .int (nI n68), .int (nI n70), .int (nI n72), .int v74, .int v75, .int v76, .int (nI n77), .int (nI n79), .int (nI n81), .int (nI (cd.2.2.2.2.2)), .ref (a 5), .ref (a 6), .ref (a 7), .ref (a 8), .ref (a 9), .ref (a 10), .ref (a 11), .ref (a 12), .ref (a 13), .ref (a 14), .ref (a 15), .ref (a 16), .ref (a 17), .int (nI n83), .ref (a 18), .ref (a 19), .ref (a 20), .ref (a 21), .int v85, .int v86, .int v87, .int v88, .int (nI n89), .int (nI n91), .ref (a 22), .ref (a 23), .ref (a 24), .ref (a 25), .ref (a 26), .ref (a 27), .ref (a 28), .ref (a 29), .ref (a 30), .int kf]) := by rw [hw95]; exact set_ne k67 (by decide)
          have k100 : w94[11]? = some (iA E (a 11) 260 cd.1) := by rw [hw95]; exact set_ne k93 (by decide)
          have kp101 := keeps_set kq16 hw95 (by first | exact rfl | decide | omega | (dsimp only; omega))
          refine x_iload_n C dX12_comesTo_86 rfl 6 rfl rfl ?_
          refine x_iconst C (v := 1) dX12_comesTo_87 (by decide) rfl ?_
          refine x_iadd C (v := (nI (n + 1))) dX12_comesTo_88 (nI_add n 1) rfl ?_
          refine x_istore_n C (lv' := [(3, .int (nI (n + 1))), (5, .int (nI (k + 1))), (7, .int (nI vv)), (6, .int 1), (0, .ref (a 0)), (1, .int (nI fr)), (2, .int (nI to)), (4, .int 0)]) dX12_comesTo_89 rfl (by decide) rfl rfl ?_
          refine x_goto C (tgt := 230) dX12_comesTo_90 (by decide) ?_
          refine x_goto C (tgt := 16) dX12_comesTo_230 (by decide) ?_
          refine x_lv (lv1 := [(0, .ref (a 0)), (1, .int (nI fr)), (2, .int (nI to)), (3, .int (nI (n + 1))), (4, .int 0), (5, .int (nI (k + 1)))]) [4, 5, 6, 0, 7, 1] rfl ?_
          exact ih16 (n + 1) (k + 1) w94 hW96 (by omega) (by omega) k98 ⟨_, _, F, k97, sR_push hR, by omega, by omega, (congrArg (fun z => cE cd.1 (clip fc) to F (k + 1) (z :: L)) (clip_at hb1).symm).trans ((cE_let (by omega) hat).symm.trans hV)⟩ kp101
        · obtain ⟨hop, hvv, hc⟩ := id hat
          obtain ⟨x, L1, rfl, hx, hR1⟩ := sR_pop hR (by omega)
          refine x_aload_n C dX12_comesTo_22 rfl 0 rfl rfl ?_
          obtain ⟨_, k102, n103, n105, n107, v109, v110, v111, n112, n114, n116, n118, v120, v121, v122, v123, n124, n126, bn104, bn106, bn108, bn113, bn115, bn117, bn119, bn125, bn127, rfl⟩ := hWl16 0 _ rfl
          refine x_get C (ci := 11) (k := 20) 0 k102 rfl in_X12 (by decide) w_1138 rfl dX12_comesTo_23 rfl ?_
          refine x_iload C dX12_comesTo_26 5 rfl rfl ?_
          obtain ⟨_, k128, rfl⟩ := hWl16 11 _ rfl
          refine x_ialk C (v := (cd.1 k)) k (nI_clamp (by omega)) (nI_pos (by omega)) (by omega) 11 k128 rfl dX12_comesTo_28 rfl ?_
          refine x_top hc ?_
          refine x_ldc C w_1340 dX12_comesTo_29 rfl ?_
          refine x_idiv C (v := 10) dX12_comesTo_31 (by decide) (divU (op := 10) (by omega) hvv) rfl ?_
          refine x_istore C (lv' := [(6, .int 10), (0, .ref (a 0)), (1, .int (nI fr)), (2, .int (nI to)), (3, .int (nI n)), (4, .int 0), (5, .int (nI k))]) dX12_comesTo_32 (by decide) rfl rfl ?_
          refine x_aload_n C dX12_comesTo_34 rfl 1 rfl rfl ?_
          refine x_get C (ci := 11) (k := 20) 0 k102 rfl in_X12 (by decide) w_1138 rfl dX12_comesTo_35 rfl ?_
          refine x_iload C dX12_comesTo_38 6 rfl rfl ?_
          refine x_ialk C (v := (cd.1 k)) k (nI_clamp (by omega)) (nI_pos (by omega)) (by omega) 11 k128 rfl dX12_comesTo_40 rfl ?_
          refine x_top hc ?_
          refine x_ldc C w_1340 dX12_comesTo_41 rfl ?_
          refine x_irem C (v := (nI vv)) dX12_comesTo_43 (by decide) (remU (op := 10) (by omega) hvv) rfl ?_
          refine x_istore C (lv' := [(7, .int (nI vv)), (6, .int 10), (0, .ref (a 0)), (1, .int (nI fr)), (2, .int (nI to)), (3, .int (nI n)), (4, .int 0), (5, .int (nI k))]) dX12_comesTo_44 (by decide) rfl rfl ?_
          refine x_iload C dX12_comesTo_46 7 rfl rfl ?_
          refine x_iconst C (v := 1) dX12_comesTo_48 (by decide) rfl ?_
          refine x_iadd C (v := (nI (k + 1))) dX12_comesTo_49 (nI_add k 1) rfl ?_
          refine x_istore C (lv' := [(5, .int (nI (k + 1))), (7, .int (nI vv)), (6, .int 10), (0, .ref (a 0)), (1, .int (nI fr)), (2, .int (nI to)), (3, .int (nI n)), (4, .int 0)]) dX12_comesTo_50 (by decide) rfl rfl ?_
          refine x_iload C dX12_comesTo_52 2 rfl rfl ?_
          refine x_if_eq C (tgt := 63) dX12_comesTo_54 (by decide) rfl (fun h => absurd h (by decide)) (fun _ => ?_)
          refine x_iload C dX12_comesTo_57 2 rfl rfl ?_
          refine x_iconst C (v := 1) dX12_comesTo_59 (by decide) rfl ?_
          refine x_icmp_ne C (tgt := 93) dX12_comesTo_60 (by decide) rfl (fun _ => ?_) (fun h => absurd h (by decide))
          refine x_iload C dX12_comesTo_93 2 rfl rfl ?_
          refine x_bipush C (v := 10) dX12_comesTo_95 (by decide) rfl ?_
          refine x_icmp_ne C (tgt := 121) dX12_comesTo_97 (by decide) rfl (fun h => absurd h (by decide)) (fun _ => ?_)
          refine x_aload_n C dX12_comesTo_100 rfl 3 rfl rfl ?_
          refine x_get C (ci := 11) (k := 25) 0 k102 rfl in_X12 (by decide) w_1143 rfl dX12_comesTo_101 rfl ?_
          refine x_iload_n C dX12_comesTo_104 rfl 6 rfl rfl ?_
          refine x_iconst C (v := 1) dX12_comesTo_105 (by decide) rfl ?_
          refine x_isub C (v := (nI (n - 1))) dX12_comesTo_106 (pk_sub (a := n) (b := 1) (by omega)) rfl ?_
          refine x_iconst C (v := 1) dX12_comesTo_107 (by decide) rfl ?_
          refine x_aload_n C dX12_comesTo_108 rfl 3 rfl rfl ?_
          refine x_get C (ci := 11) (k := 25) 0 k102 rfl in_X12 (by decide) w_1143 rfl dX12_comesTo_109 rfl ?_
          refine x_iload_n C dX12_comesTo_112 rfl 6 rfl rfl ?_
          refine x_iconst C (v := 1) dX12_comesTo_113 (by decide) rfl ?_
          refine x_isub C (v := (nI (n - 1))) dX12_comesTo_114 (pk_sub (a := n) (b := 1) (by omega)) rfl ?_
          refine x_ialk C (v := (st (n - 1))) (n - 1) (nI_clamp (by omega)) (nI_pos (by omega)) (by omega) 16 k16 rfl dX12_comesTo_115 rfl ?_
          refine x_top hx ?_
          refine x_isub C (v := ((1 : Int32) - x)) dX12_comesTo_116 rfl rfl ?_
          obtain ⟨w129, hw130⟩ : ∃ w : va_W, w = List.set wl16 16 (iA E (a 16) 260 (upd st (n - 1) ((1 : Int32) - x))) := ⟨_, rfl⟩
          refine x_iask C (n - 1) (nI_clamp (by omega)) (nI_pos (by omega)) (by omega) 16 k16 hw130.symm dX12_comesTo_117 rfl ?_
          have hW131 : WX (okM E a cd kf jn js jq) w129 := by rw [hw130]; exact hWl16.set (k := 16) rfl ⟨_, rfl⟩
          have k132 : w129[16]? = some (iA E (a 16) 260 (upd st (n - 1) ((1 : Int32) - x))) := by rw [hw130]; exact set_eq k16
          have k133 : w129[17]? = some (iA E (a 17) 11 fc) := by rw [hw130]; exact set_ne iv16_1 (by decide)
          have k134 : w129[0]? = some (ob (a 0) 11 [.ref (a 1), .ref (a 2), .ref (a 3), .ref (a 4), .int (nI n103), .int (nI n105), .int (nI n107), .int v109, .int v110, .int v111, .int (nI n112), .int (nI n114), .int (nI n116), .int (nI (cd.2.2.2.2.2)), .ref (a 5), .ref (a 6), .ref (a 7), .ref (a 8), .ref (a 9), .ref (a 10), .ref (a 11), .ref (a 12), .ref (a 13), .ref (a 14), .ref (a 15), .ref (a 16), .ref (a 17), .int (nI n118), .ref (a 18), .ref (a 19), .ref (a 20), .ref (a 21), .int v120, .int v121, .int v122, .int v123, .int (nI n124), .int (nI n126), .ref (a 22), .ref (a 23), .ref (a 24), .ref (a 25), .ref (a 26), .ref (a 27), .ref (a 28), .ref (a 29), .ref (a 30), .int kf]) := by rw [hw130]; exact set_ne k102 (by decide)
          have k135 : w129[11]? = some (iA E (a 11) 260 cd.1) := by rw [hw130]; exact set_ne k128 (by decide)
          have kp136 := keeps_set kq16 hw130 (by first | exact rfl | decide | omega | (dsimp only; omega))
          refine x_goto C (tgt := 230) dX12_comesTo_118 (by decide) ?_
          refine x_goto C (tgt := 16) dX12_comesTo_230 (by decide) ?_
          refine x_lv (lv1 := [(0, .ref (a 0)), (1, .int (nI fr)), (2, .int (nI to)), (3, .int (nI n)), (4, .int 0), (5, .int (nI (k + 1)))]) [3, 4, 5, 6, 7, 0] rfl ?_
          exact ih16 n (k + 1) w129 hW131 (by omega) (by omega) k133 ⟨_, _, F, k132, sR_put hR1 (by omega), by omega, by omega, (cE_not (by omega) hat).symm.trans hV⟩ kp136
        · obtain ⟨hop, hvv, hc⟩ := id hat
          obtain ⟨x, L1, rfl, hx, hR1⟩ := sR_pop hR (by omega)
          refine x_aload_n C dX12_comesTo_22 rfl 0 rfl rfl ?_
          obtain ⟨_, k137, n138, n140, n142, v144, v145, v146, n147, n149, n151, n153, v155, v156, v157, v158, n159, n161, bn139, bn141, bn143, bn148, bn150, bn152, bn154, bn160, bn162, rfl⟩ := hWl16 0 _ rfl
          refine x_get C (ci := 11) (k := 20) 0 k137 rfl in_X12 (by decide) w_1138 rfl dX12_comesTo_23 rfl ?_
          refine x_iload C dX12_comesTo_26 5 rfl rfl ?_
          obtain ⟨_, k163, rfl⟩ := hWl16 11 _ rfl
          refine x_ialk C (v := (cd.1 k)) k (nI_clamp (by omega)) (nI_pos (by omega)) (by omega) 11 k163 rfl dX12_comesTo_28 rfl ?_
          refine x_top hc ?_
          refine x_ldc C w_1340 dX12_comesTo_29 rfl ?_
          refine x_idiv C (v := 11) dX12_comesTo_31 (by decide) (divU (op := 11) (by omega) hvv) rfl ?_
          refine x_istore C (lv' := [(6, .int 11), (0, .ref (a 0)), (1, .int (nI fr)), (2, .int (nI to)), (3, .int (nI n)), (4, .int 0), (5, .int (nI k))]) dX12_comesTo_32 (by decide) rfl rfl ?_
          refine x_aload_n C dX12_comesTo_34 rfl 1 rfl rfl ?_
          refine x_get C (ci := 11) (k := 20) 0 k137 rfl in_X12 (by decide) w_1138 rfl dX12_comesTo_35 rfl ?_
          refine x_iload C dX12_comesTo_38 6 rfl rfl ?_
          refine x_ialk C (v := (cd.1 k)) k (nI_clamp (by omega)) (nI_pos (by omega)) (by omega) 11 k163 rfl dX12_comesTo_40 rfl ?_
          refine x_top hc ?_
          refine x_ldc C w_1340 dX12_comesTo_41 rfl ?_
          refine x_irem C (v := (nI vv)) dX12_comesTo_43 (by decide) (remU (op := 11) (by omega) hvv) rfl ?_
          refine x_istore C (lv' := [(7, .int (nI vv)), (6, .int 11), (0, .ref (a 0)), (1, .int (nI fr)), (2, .int (nI to)), (3, .int (nI n)), (4, .int 0), (5, .int (nI k))]) dX12_comesTo_44 (by decide) rfl rfl ?_
          refine x_iload C dX12_comesTo_46 7 rfl rfl ?_
          refine x_iconst C (v := 1) dX12_comesTo_48 (by decide) rfl ?_
          refine x_iadd C (v := (nI (k + 1))) dX12_comesTo_49 (nI_add k 1) rfl ?_
          refine x_istore C (lv' := [(5, .int (nI (k + 1))), (7, .int (nI vv)), (6, .int 11), (0, .ref (a 0)), (1, .int (nI fr)), (2, .int (nI to)), (3, .int (nI n)), (4, .int 0)]) dX12_comesTo_50 (by decide) rfl rfl ?_
          refine x_iload C dX12_comesTo_52 2 rfl rfl ?_
          refine x_if_eq C (tgt := 63) dX12_comesTo_54 (by decide) rfl (fun h => absurd h (by decide)) (fun _ => ?_)
          refine x_iload C dX12_comesTo_57 2 rfl rfl ?_
          refine x_iconst C (v := 1) dX12_comesTo_59 (by decide) rfl ?_
          refine x_icmp_ne C (tgt := 93) dX12_comesTo_60 (by decide) rfl (fun _ => ?_) (fun h => absurd h (by decide))
          refine x_iload C dX12_comesTo_93 2 rfl rfl ?_
          refine x_bipush C (v := 10) dX12_comesTo_95 (by decide) rfl ?_
          refine x_icmp_ne C (tgt := 121) dX12_comesTo_97 (by decide) rfl (fun _ => ?_) (fun h => absurd h (by decide))
          refine x_iload C dX12_comesTo_121 2 rfl rfl ?_
          refine x_bipush C (v := 11) dX12_comesTo_123 (by decide) rfl ?_
          refine x_icmp_eq C (tgt := 135) dX12_comesTo_125 (by decide) rfl (fun _ => ?_) (fun h => absurd h (by decide))
          refine x_aload_n C dX12_comesTo_135 rfl 3 rfl rfl ?_
          refine x_get C (ci := 11) (k := 25) 0 k137 rfl in_X12 (by decide) w_1143 rfl dX12_comesTo_136 rfl ?_
          refine x_iload_n C dX12_comesTo_139 rfl 6 rfl rfl ?_
          refine x_iconst C (v := 1) dX12_comesTo_140 (by decide) rfl ?_
          refine x_isub C (v := (nI (n - 1))) dX12_comesTo_141 (pk_sub (a := n) (b := 1) (by omega)) rfl ?_
          refine x_ialk C (v := (st (n - 1))) (n - 1) (nI_clamp (by omega)) (nI_pos (by omega)) (by omega) 16 k16 rfl dX12_comesTo_142 rfl ?_
          refine x_top hx ?_
          refine x_iload C dX12_comesTo_143 2 rfl rfl ?_
          refine x_bipush C (v := 12) dX12_comesTo_145 (by decide) rfl ?_
          refine x_icmp_ne C (tgt := 154) dX12_comesTo_147 (by decide) rfl (fun _ => ?_) (fun h => absurd h (by decide))
          refine x_iconst C (v := 0) dX12_comesTo_154 (by decide) rfl ?_
          refine x_icmp_ne C (tgt := 168) dX12_comesTo_155 (by decide) rfl (fun c164 => ?_) (fun c164 => ?_)
          · skip
            refine x_iload_n C dX12_comesTo_168 rfl 6 rfl rfl ?_
            refine x_iconst C (v := 1) dX12_comesTo_169 (by decide) rfl ?_
            refine x_isub C (v := (nI (n - 1))) dX12_comesTo_170 (pk_sub (a := n) (b := 1) (by omega)) rfl ?_
            refine x_istore_n C (lv' := [(3, .int (nI (n - 1))), (5, .int (nI (k + 1))), (7, .int (nI vv)), (6, .int 11), (0, .ref (a 0)), (1, .int (nI fr)), (2, .int (nI to)), (4, .int 0)]) dX12_comesTo_171 rfl (by decide) rfl rfl ?_
            refine x_goto C (tgt := 230) dX12_comesTo_172 (by decide) ?_
            refine x_goto C (tgt := 16) dX12_comesTo_230 (by decide) ?_
            refine x_lv (lv1 := [(0, .ref (a 0)), (1, .int (nI fr)), (2, .int (nI to)), (3, .int (nI (n - 1))), (4, .int 0), (5, .int (nI (k + 1)))]) [4, 5, 6, 0, 7, 1] rfl ?_
            exact ih16 (n - 1) (k + 1) wl16 hWl16 (by omega) (by omega) iv16_1 ⟨_, _, F, k16, hR1, by omega, by omega, (if_neg c164).symm.trans ((cE_ifnot (by omega) hat).symm.trans hV)⟩ kq16
          · skip
            refine x_iload C dX12_comesTo_158 7 rfl rfl ?_
            refine x_iload C dX12_comesTo_160 1 rfl rfl ?_
            refine x_iadd C (v := (nI vv)) dX12_comesTo_162 (nI0 vv) rfl ?_
            refine x_istore C (lv' := [(5, .int (nI vv)), (7, .int (nI vv)), (6, .int 11), (0, .ref (a 0)), (1, .int (nI fr)), (2, .int (nI to)), (3, .int (nI n)), (4, .int 0)]) dX12_comesTo_163 (by decide) rfl rfl ?_
            refine x_goto C (tgt := 230) dX12_comesTo_165 (by decide) ?_
            refine x_goto C (tgt := 16) dX12_comesTo_230 (by decide) ?_
            refine x_lv (lv1 := [(0, .ref (a 0)), (1, .int (nI fr)), (2, .int (nI to)), (3, .int (nI n)), (4, .int 0), (5, .int (nI vv))]) [3, 4, 5, 6, 7, 0] rfl ?_
            exact ih16 n vv wl16 hWl16 (by omega) (by omega) iv16_1 ⟨_, _, F, k16, hR, by omega, by omega, (if_pos c164).symm.trans ((cE_ifnot (by omega) hat).symm.trans hV)⟩ kq16
        · obtain ⟨hop, hvv, hc⟩ := id hat
          obtain ⟨x, L1, rfl, hx, hR1⟩ := sR_pop hR (by omega)
          refine x_aload_n C dX12_comesTo_22 rfl 0 rfl rfl ?_
          obtain ⟨_, k165, n166, n168, n170, v172, v173, v174, n175, n177, n179, n181, v183, v184, v185, v186, n187, n189, bn167, bn169, bn171, bn176, bn178, bn180, bn182, bn188, bn190, rfl⟩ := hWl16 0 _ rfl
          refine x_get C (ci := 11) (k := 20) 0 k165 rfl in_X12 (by decide) w_1138 rfl dX12_comesTo_23 rfl ?_
          refine x_iload C dX12_comesTo_26 5 rfl rfl ?_
          obtain ⟨_, k191, rfl⟩ := hWl16 11 _ rfl
          refine x_ialk C (v := (cd.1 k)) k (nI_clamp (by omega)) (nI_pos (by omega)) (by omega) 11 k191 rfl dX12_comesTo_28 rfl ?_
          refine x_top hc ?_
          refine x_ldc C w_1340 dX12_comesTo_29 rfl ?_
          refine x_idiv C (v := 12) dX12_comesTo_31 (by decide) (divU (op := 12) (by omega) hvv) rfl ?_
          refine x_istore C (lv' := [(6, .int 12), (0, .ref (a 0)), (1, .int (nI fr)), (2, .int (nI to)), (3, .int (nI n)), (4, .int 0), (5, .int (nI k))]) dX12_comesTo_32 (by decide) rfl rfl ?_
          refine x_aload_n C dX12_comesTo_34 rfl 1 rfl rfl ?_
          refine x_get C (ci := 11) (k := 20) 0 k165 rfl in_X12 (by decide) w_1138 rfl dX12_comesTo_35 rfl ?_
          refine x_iload C dX12_comesTo_38 6 rfl rfl ?_
          refine x_ialk C (v := (cd.1 k)) k (nI_clamp (by omega)) (nI_pos (by omega)) (by omega) 11 k191 rfl dX12_comesTo_40 rfl ?_
          refine x_top hc ?_
          refine x_ldc C w_1340 dX12_comesTo_41 rfl ?_
          refine x_irem C (v := (nI vv)) dX12_comesTo_43 (by decide) (remU (op := 12) (by omega) hvv) rfl ?_
          refine x_istore C (lv' := [(7, .int (nI vv)), (6, .int 12), (0, .ref (a 0)), (1, .int (nI fr)), (2, .int (nI to)), (3, .int (nI n)), (4, .int 0), (5, .int (nI k))]) dX12_comesTo_44 (by decide) rfl rfl ?_
          refine x_iload C dX12_comesTo_46 7 rfl rfl ?_
          refine x_iconst C (v := 1) dX12_comesTo_48 (by decide) rfl ?_
          refine x_iadd C (v := (nI (k + 1))) dX12_comesTo_49 (nI_add k 1) rfl ?_
          refine x_istore C (lv' := [(5, .int (nI (k + 1))), (7, .int (nI vv)), (6, .int 12), (0, .ref (a 0)), (1, .int (nI fr)), (2, .int (nI to)), (3, .int (nI n)), (4, .int 0)]) dX12_comesTo_50 (by decide) rfl rfl ?_
          refine x_iload C dX12_comesTo_52 2 rfl rfl ?_
          refine x_if_eq C (tgt := 63) dX12_comesTo_54 (by decide) rfl (fun h => absurd h (by decide)) (fun _ => ?_)
          refine x_iload C dX12_comesTo_57 2 rfl rfl ?_
          refine x_iconst C (v := 1) dX12_comesTo_59 (by decide) rfl ?_
          refine x_icmp_ne C (tgt := 93) dX12_comesTo_60 (by decide) rfl (fun _ => ?_) (fun h => absurd h (by decide))
          refine x_iload C dX12_comesTo_93 2 rfl rfl ?_
          refine x_bipush C (v := 10) dX12_comesTo_95 (by decide) rfl ?_
          refine x_icmp_ne C (tgt := 121) dX12_comesTo_97 (by decide) rfl (fun _ => ?_) (fun h => absurd h (by decide))
          refine x_iload C dX12_comesTo_121 2 rfl rfl ?_
          refine x_bipush C (v := 11) dX12_comesTo_123 (by decide) rfl ?_
          refine x_icmp_eq C (tgt := 135) dX12_comesTo_125 (by decide) rfl (fun h => absurd h (by decide)) (fun _ => ?_)
          refine x_iload C dX12_comesTo_128 2 rfl rfl ?_
          refine x_bipush C (v := 12) dX12_comesTo_130 (by decide) rfl ?_
          refine x_icmp_ne C (tgt := 175) dX12_comesTo_132 (by decide) rfl (fun h => absurd h (by decide)) (fun _ => ?_)
          refine x_aload_n C dX12_comesTo_135 rfl 3 rfl rfl ?_
          refine x_get C (ci := 11) (k := 25) 0 k165 rfl in_X12 (by decide) w_1143 rfl dX12_comesTo_136 rfl ?_
          refine x_iload_n C dX12_comesTo_139 rfl 6 rfl rfl ?_
          refine x_iconst C (v := 1) dX12_comesTo_140 (by decide) rfl ?_
          refine x_isub C (v := (nI (n - 1))) dX12_comesTo_141 (pk_sub (a := n) (b := 1) (by omega)) rfl ?_
          refine x_ialk C (v := (st (n - 1))) (n - 1) (nI_clamp (by omega)) (nI_pos (by omega)) (by omega) 16 k16 rfl dX12_comesTo_142 rfl ?_
          refine x_top hx ?_
          refine x_iload C dX12_comesTo_143 2 rfl rfl ?_
          refine x_bipush C (v := 12) dX12_comesTo_145 (by decide) rfl ?_
          refine x_icmp_ne C (tgt := 154) dX12_comesTo_147 (by decide) rfl (fun h => absurd h (by decide)) (fun _ => ?_)
          refine x_iconst C (v := 1) dX12_comesTo_150 (by decide) rfl ?_
          refine x_goto C (tgt := 155) dX12_comesTo_151 (by decide) ?_
          refine x_icmp_ne C (tgt := 168) dX12_comesTo_155 (by decide) rfl (fun c192 => ?_) (fun c192 => ?_)
          · skip
            refine x_iload_n C dX12_comesTo_168 rfl 6 rfl rfl ?_
            refine x_iconst C (v := 1) dX12_comesTo_169 (by decide) rfl ?_
            refine x_isub C (v := (nI (n - 1))) dX12_comesTo_170 (pk_sub (a := n) (b := 1) (by omega)) rfl ?_
            refine x_istore_n C (lv' := [(3, .int (nI (n - 1))), (5, .int (nI (k + 1))), (7, .int (nI vv)), (6, .int 12), (0, .ref (a 0)), (1, .int (nI fr)), (2, .int (nI to)), (4, .int 0)]) dX12_comesTo_171 rfl (by decide) rfl rfl ?_
            refine x_goto C (tgt := 230) dX12_comesTo_172 (by decide) ?_
            refine x_goto C (tgt := 16) dX12_comesTo_230 (by decide) ?_
            refine x_lv (lv1 := [(0, .ref (a 0)), (1, .int (nI fr)), (2, .int (nI to)), (3, .int (nI (n - 1))), (4, .int 0), (5, .int (nI (k + 1)))]) [4, 5, 6, 0, 7, 1] rfl ?_
            exact ih16 (n - 1) (k + 1) wl16 hWl16 (by omega) (by omega) iv16_1 ⟨_, _, F, k16, hR1, by omega, by omega, (if_neg c192).symm.trans ((cE_if (by omega) hat).symm.trans hV)⟩ kq16
          · skip
            refine x_iload C dX12_comesTo_158 7 rfl rfl ?_
            refine x_iload C dX12_comesTo_160 1 rfl rfl ?_
            refine x_iadd C (v := (nI vv)) dX12_comesTo_162 (nI0 vv) rfl ?_
            refine x_istore C (lv' := [(5, .int (nI vv)), (7, .int (nI vv)), (6, .int 12), (0, .ref (a 0)), (1, .int (nI fr)), (2, .int (nI to)), (3, .int (nI n)), (4, .int 0)]) dX12_comesTo_163 (by decide) rfl rfl ?_
            refine x_goto C (tgt := 230) dX12_comesTo_165 (by decide) ?_
            refine x_goto C (tgt := 16) dX12_comesTo_230 (by decide) ?_
            refine x_lv (lv1 := [(0, .ref (a 0)), (1, .int (nI fr)), (2, .int (nI to)), (3, .int (nI n)), (4, .int 0), (5, .int (nI vv))]) [3, 4, 5, 6, 7, 0] rfl ?_
            exact ih16 n vv wl16 hWl16 (by omega) (by omega) iv16_1 ⟨_, _, F, k16, hR, by omega, by omega, (if_pos c192).symm.trans ((cE_if (by omega) hat).symm.trans hV)⟩ kq16
        obtain ⟨x, L1, rfl, hx, hR1⟩ := sR_pop hR (by omega)
        obtain ⟨y, L2, rfl, hy, hR2⟩ := sR_pop hR1 (by omega)
        have h29 : op = 2 ∨ op = 3 ∨ op = 4 ∨ op = 5 ∨ op = 6 ∨ op = 7 ∨ op = 8 ∨ op = 9 := by omega
        rcases h29 with rfl | rfl | rfl | rfl | rfl | rfl | rfl | rfl
        · obtain ⟨hop, hvv, hc⟩ := id hat
          refine x_aload_n C dX12_comesTo_22 rfl 0 rfl rfl ?_
          obtain ⟨_, k193, n194, n196, n198, v200, v201, v202, n203, n205, n207, n209, v211, v212, v213, v214, n215, n217, bn195, bn197, bn199, bn204, bn206, bn208, bn210, bn216, bn218, rfl⟩ := hWl16 0 _ rfl
          refine x_get C (ci := 11) (k := 20) 0 k193 rfl in_X12 (by decide) w_1138 rfl dX12_comesTo_23 rfl ?_
          refine x_iload C dX12_comesTo_26 5 rfl rfl ?_
          obtain ⟨_, k219, rfl⟩ := hWl16 11 _ rfl
          refine x_ialk C (v := (cd.1 k)) k (nI_clamp (by omega)) (nI_pos (by omega)) (by omega) 11 k219 rfl dX12_comesTo_28 rfl ?_
          refine x_top hc ?_
          refine x_ldc C w_1340 dX12_comesTo_29 rfl ?_
          refine x_idiv C (v := 2) dX12_comesTo_31 (by decide) (divU (op := 2) (by omega) hvv) rfl ?_
          refine x_istore C (lv' := [(6, .int 2), (0, .ref (a 0)), (1, .int (nI fr)), (2, .int (nI to)), (3, .int (nI n)), (4, .int 0), (5, .int (nI k))]) dX12_comesTo_32 (by decide) rfl rfl ?_
          refine x_aload_n C dX12_comesTo_34 rfl 1 rfl rfl ?_
          refine x_get C (ci := 11) (k := 20) 0 k193 rfl in_X12 (by decide) w_1138 rfl dX12_comesTo_35 rfl ?_
          refine x_iload C dX12_comesTo_38 6 rfl rfl ?_
          refine x_ialk C (v := (cd.1 k)) k (nI_clamp (by omega)) (nI_pos (by omega)) (by omega) 11 k219 rfl dX12_comesTo_40 rfl ?_
          refine x_top hc ?_
          refine x_ldc C w_1340 dX12_comesTo_41 rfl ?_
          refine x_irem C (v := (nI vv)) dX12_comesTo_43 (by decide) (remU (op := 2) (by omega) hvv) rfl ?_
          refine x_istore C (lv' := [(7, .int (nI vv)), (6, .int 2), (0, .ref (a 0)), (1, .int (nI fr)), (2, .int (nI to)), (3, .int (nI n)), (4, .int 0), (5, .int (nI k))]) dX12_comesTo_44 (by decide) rfl rfl ?_
          refine x_iload C dX12_comesTo_46 7 rfl rfl ?_
          refine x_iconst C (v := 1) dX12_comesTo_48 (by decide) rfl ?_
          refine x_iadd C (v := (nI (k + 1))) dX12_comesTo_49 (nI_add k 1) rfl ?_
          refine x_istore C (lv' := [(5, .int (nI (k + 1))), (7, .int (nI vv)), (6, .int 2), (0, .ref (a 0)), (1, .int (nI fr)), (2, .int (nI to)), (3, .int (nI n)), (4, .int 0)]) dX12_comesTo_50 (by decide) rfl rfl ?_
          refine x_iload C dX12_comesTo_52 2 rfl rfl ?_
          refine x_if_eq C (tgt := 63) dX12_comesTo_54 (by decide) rfl (fun h => absurd h (by decide)) (fun _ => ?_)
          refine x_iload C dX12_comesTo_57 2 rfl rfl ?_
          refine x_iconst C (v := 1) dX12_comesTo_59 (by decide) rfl ?_
          refine x_icmp_ne C (tgt := 93) dX12_comesTo_60 (by decide) rfl (fun _ => ?_) (fun h => absurd h (by decide))
          refine x_iload C dX12_comesTo_93 2 rfl rfl ?_
          refine x_bipush C (v := 10) dX12_comesTo_95 (by decide) rfl ?_
          refine x_icmp_ne C (tgt := 121) dX12_comesTo_97 (by decide) rfl (fun _ => ?_) (fun h => absurd h (by decide))
          refine x_iload C dX12_comesTo_121 2 rfl rfl ?_
          refine x_bipush C (v := 11) dX12_comesTo_123 (by decide) rfl ?_
          refine x_icmp_eq C (tgt := 135) dX12_comesTo_125 (by decide) rfl (fun h => absurd h (by decide)) (fun _ => ?_)
          refine x_iload C dX12_comesTo_128 2 rfl rfl ?_
          refine x_bipush C (v := 12) dX12_comesTo_130 (by decide) rfl ?_
          refine x_icmp_ne C (tgt := 175) dX12_comesTo_132 (by decide) rfl (fun _ => ?_) (fun h => absurd h (by decide))
          refine x_iload_n C dX12_comesTo_175 rfl 6 rfl rfl ?_
          refine x_iconst C (v := 1) dX12_comesTo_176 (by decide) rfl ?_
          refine x_isub C (v := (nI (n - 1))) dX12_comesTo_177 (pk_sub (a := n) (b := 1) (by omega)) rfl ?_
          refine x_istore_n C (lv' := [(3, .int (nI (n - 1))), (5, .int (nI (k + 1))), (7, .int (nI vv)), (6, .int 2), (0, .ref (a 0)), (1, .int (nI fr)), (2, .int (nI to)), (4, .int 0)]) dX12_comesTo_178 rfl (by decide) rfl rfl ?_
          refine x_iload C dX12_comesTo_179 3 rfl rfl ?_
          refine x_iconst C (v := 5) dX12_comesTo_181 (by decide) rfl ?_
          refine x_icmp_eq C (tgt := 192) dX12_comesTo_182 (by decide) rfl (fun h => absurd h (by decide)) (fun _ => ?_)
          refine x_iload C dX12_comesTo_185 3 rfl rfl ?_
          refine x_bipush C (v := 6) dX12_comesTo_187 (by decide) rfl ?_
          refine x_icmp_ne C (tgt := 203) dX12_comesTo_189 (by decide) rfl (fun _ => ?_) (fun h => absurd h (by decide))
          refine x_aload_n C dX12_comesTo_203 rfl 4 rfl rfl ?_
          refine x_get C (ci := 11) (k := 25) 0 k193 rfl in_X12 (by decide) w_1143 rfl dX12_comesTo_204 rfl ?_
          refine x_iload_n C dX12_comesTo_207 rfl 0 rfl rfl ?_
          refine x_iconst C (v := 1) dX12_comesTo_208 (by decide) rfl ?_
          refine x_isub C (v := (nI ((n - 1) - 1))) dX12_comesTo_209 (pk_sub (a := (n - 1)) (b := 1) (by omega)) rfl ?_
          refine x_iload C dX12_comesTo_210 3 rfl rfl ?_
          refine x_aload_n C dX12_comesTo_212 rfl 4 rfl rfl ?_
          refine x_get C (ci := 11) (k := 25) 0 k193 rfl in_X12 (by decide) w_1143 rfl dX12_comesTo_213 rfl ?_
          refine x_iload_n C dX12_comesTo_216 rfl 0 rfl rfl ?_
          refine x_iconst C (v := 1) dX12_comesTo_217 (by decide) rfl ?_
          refine x_isub C (v := (nI ((n - 1) - 1))) dX12_comesTo_218 (pk_sub (a := (n - 1)) (b := 1) (by omega)) rfl ?_
          refine x_ialk C (v := (st ((n - 1) - 1))) ((n - 1) - 1) (nI_clamp (by omega)) (nI_pos (by omega)) (by omega) 16 k16 rfl dX12_comesTo_219 rfl ?_
          refine x_top hy ?_
          refine x_aload_n C dX12_comesTo_220 rfl 4 rfl rfl ?_
          refine x_get C (ci := 11) (k := 25) 0 k193 rfl in_X12 (by decide) w_1143 rfl dX12_comesTo_221 rfl ?_
          refine x_iload_n C dX12_comesTo_224 rfl 0 rfl rfl ?_
          refine x_ialk C (v := (st (n - 1))) (n - 1) (nI_clamp (by omega)) (nI_pos (by omega)) (by omega) 16 k16 rfl dX12_comesTo_225 rfl ?_
          refine x_top hx ?_
          refine x_si C (As := [.int 2, .int y, .int x]) (rest := [.int (nI ((n - 1) - 1)), .ref (a 16)]) (m_reckon2 E l a cd hG kf jn js jq wl16 hWl16 y x) mf_X12_reckon w_1471 rfl rfl (Nat.le_of_ble_eq_true rfl) ⟨(Nat.le_of_ble_eq_true rfl), (Nat.le_of_ble_eq_true rfl)⟩ ⟨(Nat.le_of_ble_eq_true rfl), (Nat.le_of_ble_eq_true rfl)⟩ dX12_comesTo_226 rfl (fun r221 w222 h220 => ?_)
          obtain ⟨hW223, x224⟩ := h220
          refine x_ws hW223 ?_
          obtain ⟨w225, hw226⟩ : ∃ w : va_W, w = List.set wl16 16 (iA E (a 16) 260 (upd st ((n - 1) - 1) r221)) := ⟨_, rfl⟩
          refine x_iask C ((n - 1) - 1) (nI_clamp (by omega)) (nI_pos (by omega)) (by omega) 16 k16 hw226.symm dX12_comesTo_229 rfl ?_
          have hW227 : WX (okM E a cd kf jn js jq) w225 := by rw [hw226]; exact hWl16.set (k := 16) rfl ⟨_, rfl⟩
          have k228 : w225[16]? = some (iA E (a 16) 260 (upd st ((n - 1) - 1) r221)) := by rw [hw226]; exact set_eq k16
          have k229 : w225[17]? = some (iA E (a 17) 11 fc) := by rw [hw226]; exact set_ne iv16_1 (by decide)
          have k230 : w225[0]? = some (ob (a 0) 11 [.ref (a 1), .ref (a 2), .ref (a 3), .ref (a 4), .int (nI n194), .int (nI n196), .int (nI n198), .int v200, .int v201, .int v202, .int (nI n203), .int (nI n205), .int (nI n207), .int (nI (cd.2.2.2.2.2)), .ref (a 5), .ref (a 6), .ref (a 7), .ref (a 8), .ref (a 9), .ref (a 10), .ref (a 11), .ref (a 12), .ref (a 13), .ref (a 14), .ref (a 15), .ref (a 16), .ref (a 17), .int (nI n209), .ref (a 18), .ref (a 19), .ref (a 20), .ref (a 21), .int v211, .int v212, .int v213, .int v214, .int (nI n215), .int (nI n217), .ref (a 22), .ref (a 23), .ref (a 24), .ref (a 25), .ref (a 26), .ref (a 27), .ref (a 28), .ref (a 29), .ref (a 30), .int kf]) := by rw [hw226]; exact set_ne k193 (by decide)
          have k231 : w225[11]? = some (iA E (a 11) 260 cd.1) := by rw [hw226]; exact set_ne k219 (by decide)
          have kp232 := keeps_set kq16 hw226 (by first | exact rfl | decide | omega | (dsimp only; omega))
          refine x_goto C (tgt := 16) dX12_comesTo_230 (by decide) ?_
          refine x_lv (lv1 := [(0, .ref (a 0)), (1, .int (nI fr)), (2, .int (nI to)), (3, .int (nI (n - 1))), (4, .int 0), (5, .int (nI (k + 1)))]) [4, 5, 6, 0, 7, 1] rfl ?_
          exact ih16 (n - 1) (k + 1) w225 hW227 (by omega) (by omega) k229 ⟨_, _, F, k228, sR_put hR2 (by omega), by omega, by omega, by rw [x224]; exact (if_neg (fun z => absurd z.1 (by decide))).symm.trans ((cE_two (by omega) hat (by decide) (by decide)).symm.trans hV)⟩ kp232
        · obtain ⟨hop, hvv, hc⟩ := id hat
          refine x_aload_n C dX12_comesTo_22 rfl 0 rfl rfl ?_
          obtain ⟨_, k233, n234, n236, n238, v240, v241, v242, n243, n245, n247, n249, v251, v252, v253, v254, n255, n257, bn235, bn237, bn239, bn244, bn246, bn248, bn250, bn256, bn258, rfl⟩ := hWl16 0 _ rfl
          refine x_get C (ci := 11) (k := 20) 0 k233 rfl in_X12 (by decide) w_1138 rfl dX12_comesTo_23 rfl ?_
          refine x_iload C dX12_comesTo_26 5 rfl rfl ?_
          obtain ⟨_, k259, rfl⟩ := hWl16 11 _ rfl
          refine x_ialk C (v := (cd.1 k)) k (nI_clamp (by omega)) (nI_pos (by omega)) (by omega) 11 k259 rfl dX12_comesTo_28 rfl ?_
          refine x_top hc ?_
          refine x_ldc C w_1340 dX12_comesTo_29 rfl ?_
          refine x_idiv C (v := 3) dX12_comesTo_31 (by decide) (divU (op := 3) (by omega) hvv) rfl ?_
          refine x_istore C (lv' := [(6, .int 3), (0, .ref (a 0)), (1, .int (nI fr)), (2, .int (nI to)), (3, .int (nI n)), (4, .int 0), (5, .int (nI k))]) dX12_comesTo_32 (by decide) rfl rfl ?_
          refine x_aload_n C dX12_comesTo_34 rfl 1 rfl rfl ?_
          refine x_get C (ci := 11) (k := 20) 0 k233 rfl in_X12 (by decide) w_1138 rfl dX12_comesTo_35 rfl ?_
          refine x_iload C dX12_comesTo_38 6 rfl rfl ?_
          refine x_ialk C (v := (cd.1 k)) k (nI_clamp (by omega)) (nI_pos (by omega)) (by omega) 11 k259 rfl dX12_comesTo_40 rfl ?_
          refine x_top hc ?_
          refine x_ldc C w_1340 dX12_comesTo_41 rfl ?_
          refine x_irem C (v := (nI vv)) dX12_comesTo_43 (by decide) (remU (op := 3) (by omega) hvv) rfl ?_
          refine x_istore C (lv' := [(7, .int (nI vv)), (6, .int 3), (0, .ref (a 0)), (1, .int (nI fr)), (2, .int (nI to)), (3, .int (nI n)), (4, .int 0), (5, .int (nI k))]) dX12_comesTo_44 (by decide) rfl rfl ?_
          refine x_iload C dX12_comesTo_46 7 rfl rfl ?_
          refine x_iconst C (v := 1) dX12_comesTo_48 (by decide) rfl ?_
          refine x_iadd C (v := (nI (k + 1))) dX12_comesTo_49 (nI_add k 1) rfl ?_
          refine x_istore C (lv' := [(5, .int (nI (k + 1))), (7, .int (nI vv)), (6, .int 3), (0, .ref (a 0)), (1, .int (nI fr)), (2, .int (nI to)), (3, .int (nI n)), (4, .int 0)]) dX12_comesTo_50 (by decide) rfl rfl ?_
          refine x_iload C dX12_comesTo_52 2 rfl rfl ?_
          refine x_if_eq C (tgt := 63) dX12_comesTo_54 (by decide) rfl (fun h => absurd h (by decide)) (fun _ => ?_)
          refine x_iload C dX12_comesTo_57 2 rfl rfl ?_
          refine x_iconst C (v := 1) dX12_comesTo_59 (by decide) rfl ?_
          refine x_icmp_ne C (tgt := 93) dX12_comesTo_60 (by decide) rfl (fun _ => ?_) (fun h => absurd h (by decide))
          refine x_iload C dX12_comesTo_93 2 rfl rfl ?_
          refine x_bipush C (v := 10) dX12_comesTo_95 (by decide) rfl ?_
          refine x_icmp_ne C (tgt := 121) dX12_comesTo_97 (by decide) rfl (fun _ => ?_) (fun h => absurd h (by decide))
          refine x_iload C dX12_comesTo_121 2 rfl rfl ?_
          refine x_bipush C (v := 11) dX12_comesTo_123 (by decide) rfl ?_
          refine x_icmp_eq C (tgt := 135) dX12_comesTo_125 (by decide) rfl (fun h => absurd h (by decide)) (fun _ => ?_)
          refine x_iload C dX12_comesTo_128 2 rfl rfl ?_
          refine x_bipush C (v := 12) dX12_comesTo_130 (by decide) rfl ?_
          refine x_icmp_ne C (tgt := 175) dX12_comesTo_132 (by decide) rfl (fun _ => ?_) (fun h => absurd h (by decide))
          refine x_iload_n C dX12_comesTo_175 rfl 6 rfl rfl ?_
          refine x_iconst C (v := 1) dX12_comesTo_176 (by decide) rfl ?_
          refine x_isub C (v := (nI (n - 1))) dX12_comesTo_177 (pk_sub (a := n) (b := 1) (by omega)) rfl ?_
          refine x_istore_n C (lv' := [(3, .int (nI (n - 1))), (5, .int (nI (k + 1))), (7, .int (nI vv)), (6, .int 3), (0, .ref (a 0)), (1, .int (nI fr)), (2, .int (nI to)), (4, .int 0)]) dX12_comesTo_178 rfl (by decide) rfl rfl ?_
          refine x_iload C dX12_comesTo_179 3 rfl rfl ?_
          refine x_iconst C (v := 5) dX12_comesTo_181 (by decide) rfl ?_
          refine x_icmp_eq C (tgt := 192) dX12_comesTo_182 (by decide) rfl (fun h => absurd h (by decide)) (fun _ => ?_)
          refine x_iload C dX12_comesTo_185 3 rfl rfl ?_
          refine x_bipush C (v := 6) dX12_comesTo_187 (by decide) rfl ?_
          refine x_icmp_ne C (tgt := 203) dX12_comesTo_189 (by decide) rfl (fun _ => ?_) (fun h => absurd h (by decide))
          refine x_aload_n C dX12_comesTo_203 rfl 4 rfl rfl ?_
          refine x_get C (ci := 11) (k := 25) 0 k233 rfl in_X12 (by decide) w_1143 rfl dX12_comesTo_204 rfl ?_
          refine x_iload_n C dX12_comesTo_207 rfl 0 rfl rfl ?_
          refine x_iconst C (v := 1) dX12_comesTo_208 (by decide) rfl ?_
          refine x_isub C (v := (nI ((n - 1) - 1))) dX12_comesTo_209 (pk_sub (a := (n - 1)) (b := 1) (by omega)) rfl ?_
          refine x_iload C dX12_comesTo_210 3 rfl rfl ?_
          refine x_aload_n C dX12_comesTo_212 rfl 4 rfl rfl ?_
          refine x_get C (ci := 11) (k := 25) 0 k233 rfl in_X12 (by decide) w_1143 rfl dX12_comesTo_213 rfl ?_
          refine x_iload_n C dX12_comesTo_216 rfl 0 rfl rfl ?_
          refine x_iconst C (v := 1) dX12_comesTo_217 (by decide) rfl ?_
          refine x_isub C (v := (nI ((n - 1) - 1))) dX12_comesTo_218 (pk_sub (a := (n - 1)) (b := 1) (by omega)) rfl ?_
          refine x_ialk C (v := (st ((n - 1) - 1))) ((n - 1) - 1) (nI_clamp (by omega)) (nI_pos (by omega)) (by omega) 16 k16 rfl dX12_comesTo_219 rfl ?_
          refine x_top hy ?_
          refine x_aload_n C dX12_comesTo_220 rfl 4 rfl rfl ?_
          refine x_get C (ci := 11) (k := 25) 0 k233 rfl in_X12 (by decide) w_1143 rfl dX12_comesTo_221 rfl ?_
          refine x_iload_n C dX12_comesTo_224 rfl 0 rfl rfl ?_
          refine x_ialk C (v := (st (n - 1))) (n - 1) (nI_clamp (by omega)) (nI_pos (by omega)) (by omega) 16 k16 rfl dX12_comesTo_225 rfl ?_
          refine x_top hx ?_
          refine x_si C (As := [.int 3, .int y, .int x]) (rest := [.int (nI ((n - 1) - 1)), .ref (a 16)]) (m_reckon3 E l a cd hG kf jn js jq wl16 hWl16 y x) mf_X12_reckon w_1471 rfl rfl (Nat.le_of_ble_eq_true rfl) ⟨(Nat.le_of_ble_eq_true rfl), (Nat.le_of_ble_eq_true rfl)⟩ ⟨(Nat.le_of_ble_eq_true rfl), (Nat.le_of_ble_eq_true rfl)⟩ dX12_comesTo_226 rfl (fun r261 w262 h260 => ?_)
          obtain ⟨hW263, x264⟩ := h260
          refine x_ws hW263 ?_
          obtain ⟨w265, hw266⟩ : ∃ w : va_W, w = List.set wl16 16 (iA E (a 16) 260 (upd st ((n - 1) - 1) r261)) := ⟨_, rfl⟩
          refine x_iask C ((n - 1) - 1) (nI_clamp (by omega)) (nI_pos (by omega)) (by omega) 16 k16 hw266.symm dX12_comesTo_229 rfl ?_
          have hW267 : WX (okM E a cd kf jn js jq) w265 := by rw [hw266]; exact hWl16.set (k := 16) rfl ⟨_, rfl⟩
          have k268 : w265[16]? = some (iA E (a 16) 260 (upd st ((n - 1) - 1) r261)) := by rw [hw266]; exact set_eq k16
          have k269 : w265[17]? = some (iA E (a 17) 11 fc) := by rw [hw266]; exact set_ne iv16_1 (by decide)
          have k270 : w265[0]? = some (ob (a 0) 11 [.ref (a 1), .ref (a 2), .ref (a 3), .ref (a 4), .int (nI n234), .int (nI n236), .int (nI n238), .int v240, .int v241, .int v242, .int (nI n243), .int (nI n245), .int (nI n247), .int (nI (cd.2.2.2.2.2)), .ref (a 5), .ref (a 6), .ref (a 7), .ref (a 8), .ref (a 9), .ref (a 10), .ref (a 11), .ref (a 12), .ref (a 13), .ref (a 14), .ref (a 15), .ref (a 16), .ref (a 17), .int (nI n249), .ref (a 18), .ref (a 19), .ref (a 20), .ref (a 21), .int v251, .int v252, .int v253, .int v254, .int (nI n255), .int (nI n257), .ref (a 22), .ref (a 23), .ref (a 24), .ref (a 25), .ref (a 26), .ref (a 27), .ref (a 28), .ref (a 29), .ref (a 30), .int kf]) := by rw [hw266]; exact set_ne k233 (by decide)
          have k271 : w265[11]? = some (iA E (a 11) 260 cd.1) := by rw [hw266]; exact set_ne k259 (by decide)
          have kp272 := keeps_set kq16 hw266 (by first | exact rfl | decide | omega | (dsimp only; omega))
          refine x_goto C (tgt := 16) dX12_comesTo_230 (by decide) ?_
          refine x_lv (lv1 := [(0, .ref (a 0)), (1, .int (nI fr)), (2, .int (nI to)), (3, .int (nI (n - 1))), (4, .int 0), (5, .int (nI (k + 1)))]) [4, 5, 6, 0, 7, 1] rfl ?_
          exact ih16 (n - 1) (k + 1) w265 hW267 (by omega) (by omega) k269 ⟨_, _, F, k268, sR_put hR2 (by omega), by omega, by omega, by rw [x264]; exact (if_neg (fun z => absurd z.1 (by decide))).symm.trans ((cE_two (by omega) hat (by decide) (by decide)).symm.trans hV)⟩ kp272
        · obtain ⟨hop, hvv, hc⟩ := id hat
          refine x_aload_n C dX12_comesTo_22 rfl 0 rfl rfl ?_
          obtain ⟨_, k273, n274, n276, n278, v280, v281, v282, n283, n285, n287, n289, v291, v292, v293, v294, n295, n297, bn275, bn277, bn279, bn284, bn286, bn288, bn290, bn296, bn298, rfl⟩ := hWl16 0 _ rfl
          refine x_get C (ci := 11) (k := 20) 0 k273 rfl in_X12 (by decide) w_1138 rfl dX12_comesTo_23 rfl ?_
          refine x_iload C dX12_comesTo_26 5 rfl rfl ?_
          obtain ⟨_, k299, rfl⟩ := hWl16 11 _ rfl
          refine x_ialk C (v := (cd.1 k)) k (nI_clamp (by omega)) (nI_pos (by omega)) (by omega) 11 k299 rfl dX12_comesTo_28 rfl ?_
          refine x_top hc ?_
          refine x_ldc C w_1340 dX12_comesTo_29 rfl ?_
          refine x_idiv C (v := 4) dX12_comesTo_31 (by decide) (divU (op := 4) (by omega) hvv) rfl ?_
          refine x_istore C (lv' := [(6, .int 4), (0, .ref (a 0)), (1, .int (nI fr)), (2, .int (nI to)), (3, .int (nI n)), (4, .int 0), (5, .int (nI k))]) dX12_comesTo_32 (by decide) rfl rfl ?_
          refine x_aload_n C dX12_comesTo_34 rfl 1 rfl rfl ?_
          refine x_get C (ci := 11) (k := 20) 0 k273 rfl in_X12 (by decide) w_1138 rfl dX12_comesTo_35 rfl ?_
          refine x_iload C dX12_comesTo_38 6 rfl rfl ?_
          refine x_ialk C (v := (cd.1 k)) k (nI_clamp (by omega)) (nI_pos (by omega)) (by omega) 11 k299 rfl dX12_comesTo_40 rfl ?_
          refine x_top hc ?_
          refine x_ldc C w_1340 dX12_comesTo_41 rfl ?_
          refine x_irem C (v := (nI vv)) dX12_comesTo_43 (by decide) (remU (op := 4) (by omega) hvv) rfl ?_
          refine x_istore C (lv' := [(7, .int (nI vv)), (6, .int 4), (0, .ref (a 0)), (1, .int (nI fr)), (2, .int (nI to)), (3, .int (nI n)), (4, .int 0), (5, .int (nI k))]) dX12_comesTo_44 (by decide) rfl rfl ?_
          refine x_iload C dX12_comesTo_46 7 rfl rfl ?_
          refine x_iconst C (v := 1) dX12_comesTo_48 (by decide) rfl ?_
          refine x_iadd C (v := (nI (k + 1))) dX12_comesTo_49 (nI_add k 1) rfl ?_
          refine x_istore C (lv' := [(5, .int (nI (k + 1))), (7, .int (nI vv)), (6, .int 4), (0, .ref (a 0)), (1, .int (nI fr)), (2, .int (nI to)), (3, .int (nI n)), (4, .int 0)]) dX12_comesTo_50 (by decide) rfl rfl ?_
          refine x_iload C dX12_comesTo_52 2 rfl rfl ?_
          refine x_if_eq C (tgt := 63) dX12_comesTo_54 (by decide) rfl (fun h => absurd h (by decide)) (fun _ => ?_)
          refine x_iload C dX12_comesTo_57 2 rfl rfl ?_
          refine x_iconst C (v := 1) dX12_comesTo_59 (by decide) rfl ?_
          refine x_icmp_ne C (tgt := 93) dX12_comesTo_60 (by decide) rfl (fun _ => ?_) (fun h => absurd h (by decide))
          refine x_iload C dX12_comesTo_93 2 rfl rfl ?_
          refine x_bipush C (v := 10) dX12_comesTo_95 (by decide) rfl ?_
          refine x_icmp_ne C (tgt := 121) dX12_comesTo_97 (by decide) rfl (fun _ => ?_) (fun h => absurd h (by decide))
          refine x_iload C dX12_comesTo_121 2 rfl rfl ?_
          refine x_bipush C (v := 11) dX12_comesTo_123 (by decide) rfl ?_
          refine x_icmp_eq C (tgt := 135) dX12_comesTo_125 (by decide) rfl (fun h => absurd h (by decide)) (fun _ => ?_)
          refine x_iload C dX12_comesTo_128 2 rfl rfl ?_
          refine x_bipush C (v := 12) dX12_comesTo_130 (by decide) rfl ?_
          refine x_icmp_ne C (tgt := 175) dX12_comesTo_132 (by decide) rfl (fun _ => ?_) (fun h => absurd h (by decide))
          refine x_iload_n C dX12_comesTo_175 rfl 6 rfl rfl ?_
          refine x_iconst C (v := 1) dX12_comesTo_176 (by decide) rfl ?_
          refine x_isub C (v := (nI (n - 1))) dX12_comesTo_177 (pk_sub (a := n) (b := 1) (by omega)) rfl ?_
          refine x_istore_n C (lv' := [(3, .int (nI (n - 1))), (5, .int (nI (k + 1))), (7, .int (nI vv)), (6, .int 4), (0, .ref (a 0)), (1, .int (nI fr)), (2, .int (nI to)), (4, .int 0)]) dX12_comesTo_178 rfl (by decide) rfl rfl ?_
          refine x_iload C dX12_comesTo_179 3 rfl rfl ?_
          refine x_iconst C (v := 5) dX12_comesTo_181 (by decide) rfl ?_
          refine x_icmp_eq C (tgt := 192) dX12_comesTo_182 (by decide) rfl (fun h => absurd h (by decide)) (fun _ => ?_)
          refine x_iload C dX12_comesTo_185 3 rfl rfl ?_
          refine x_bipush C (v := 6) dX12_comesTo_187 (by decide) rfl ?_
          refine x_icmp_ne C (tgt := 203) dX12_comesTo_189 (by decide) rfl (fun _ => ?_) (fun h => absurd h (by decide))
          refine x_aload_n C dX12_comesTo_203 rfl 4 rfl rfl ?_
          refine x_get C (ci := 11) (k := 25) 0 k273 rfl in_X12 (by decide) w_1143 rfl dX12_comesTo_204 rfl ?_
          refine x_iload_n C dX12_comesTo_207 rfl 0 rfl rfl ?_
          refine x_iconst C (v := 1) dX12_comesTo_208 (by decide) rfl ?_
          refine x_isub C (v := (nI ((n - 1) - 1))) dX12_comesTo_209 (pk_sub (a := (n - 1)) (b := 1) (by omega)) rfl ?_
          refine x_iload C dX12_comesTo_210 3 rfl rfl ?_
          refine x_aload_n C dX12_comesTo_212 rfl 4 rfl rfl ?_
          refine x_get C (ci := 11) (k := 25) 0 k273 rfl in_X12 (by decide) w_1143 rfl dX12_comesTo_213 rfl ?_
          refine x_iload_n C dX12_comesTo_216 rfl 0 rfl rfl ?_
          refine x_iconst C (v := 1) dX12_comesTo_217 (by decide) rfl ?_
          refine x_isub C (v := (nI ((n - 1) - 1))) dX12_comesTo_218 (pk_sub (a := (n - 1)) (b := 1) (by omega)) rfl ?_
          refine x_ialk C (v := (st ((n - 1) - 1))) ((n - 1) - 1) (nI_clamp (by omega)) (nI_pos (by omega)) (by omega) 16 k16 rfl dX12_comesTo_219 rfl ?_
          refine x_top hy ?_
          refine x_aload_n C dX12_comesTo_220 rfl 4 rfl rfl ?_
          refine x_get C (ci := 11) (k := 25) 0 k273 rfl in_X12 (by decide) w_1143 rfl dX12_comesTo_221 rfl ?_
          refine x_iload_n C dX12_comesTo_224 rfl 0 rfl rfl ?_
          refine x_ialk C (v := (st (n - 1))) (n - 1) (nI_clamp (by omega)) (nI_pos (by omega)) (by omega) 16 k16 rfl dX12_comesTo_225 rfl ?_
          refine x_top hx ?_
          refine x_si C (As := [.int 4, .int y, .int x]) (rest := [.int (nI ((n - 1) - 1)), .ref (a 16)]) (m_reckon4 E l a cd hG kf jn js jq wl16 hWl16 y x) mf_X12_reckon w_1471 rfl rfl (Nat.le_of_ble_eq_true rfl) ⟨(Nat.le_of_ble_eq_true rfl), (Nat.le_of_ble_eq_true rfl)⟩ ⟨(Nat.le_of_ble_eq_true rfl), (Nat.le_of_ble_eq_true rfl)⟩ dX12_comesTo_226 rfl (fun r301 w302 h300 => ?_)
          obtain ⟨hW303, x304⟩ := h300
          refine x_ws hW303 ?_
          obtain ⟨w305, hw306⟩ : ∃ w : va_W, w = List.set wl16 16 (iA E (a 16) 260 (upd st ((n - 1) - 1) r301)) := ⟨_, rfl⟩
          refine x_iask C ((n - 1) - 1) (nI_clamp (by omega)) (nI_pos (by omega)) (by omega) 16 k16 hw306.symm dX12_comesTo_229 rfl ?_
          have hW307 : WX (okM E a cd kf jn js jq) w305 := by rw [hw306]; exact hWl16.set (k := 16) rfl ⟨_, rfl⟩
          have k308 : w305[16]? = some (iA E (a 16) 260 (upd st ((n - 1) - 1) r301)) := by rw [hw306]; exact set_eq k16
          have k309 : w305[17]? = some (iA E (a 17) 11 fc) := by rw [hw306]; exact set_ne iv16_1 (by decide)
          have k310 : w305[0]? = some (ob (a 0) 11 [.ref (a 1), .ref (a 2), .ref (a 3), .ref (a 4), .int (nI n274), .int (nI n276), .int (nI n278), .int v280, .int v281, .int v282, .int (nI n283), .int (nI n285), .int (nI n287), .int (nI (cd.2.2.2.2.2)), .ref (a 5), .ref (a 6), .ref (a 7), .ref (a 8), .ref (a 9), .ref (a 10), .ref (a 11), .ref (a 12), .ref (a 13), .ref (a 14), .ref (a 15), .ref (a 16), .ref (a 17), .int (nI n289), .ref (a 18), .ref (a 19), .ref (a 20), .ref (a 21), .int v291, .int v292, .int v293, .int v294, .int (nI n295), .int (nI n297), .ref (a 22), .ref (a 23), .ref (a 24), .ref (a 25), .ref (a 26), .ref (a 27), .ref (a 28), .ref (a 29), .ref (a 30), .int kf]) := by rw [hw306]; exact set_ne k273 (by decide)
          have k311 : w305[11]? = some (iA E (a 11) 260 cd.1) := by rw [hw306]; exact set_ne k299 (by decide)
          have kp312 := keeps_set kq16 hw306 (by first | exact rfl | decide | omega | (dsimp only; omega))
          refine x_goto C (tgt := 16) dX12_comesTo_230 (by decide) ?_
          refine x_lv (lv1 := [(0, .ref (a 0)), (1, .int (nI fr)), (2, .int (nI to)), (3, .int (nI (n - 1))), (4, .int 0), (5, .int (nI (k + 1)))]) [4, 5, 6, 0, 7, 1] rfl ?_
          exact ih16 (n - 1) (k + 1) w305 hW307 (by omega) (by omega) k309 ⟨_, _, F, k308, sR_put hR2 (by omega), by omega, by omega, by rw [x304]; exact (if_neg (fun z => absurd z.1 (by decide))).symm.trans ((cE_two (by omega) hat (by decide) (by decide)).symm.trans hV)⟩ kp312
        · obtain ⟨hop, hvv, hc⟩ := id hat
          refine x_aload_n C dX12_comesTo_22 rfl 0 rfl rfl ?_
          obtain ⟨_, k313, n314, n316, n318, v320, v321, v322, n323, n325, n327, n329, v331, v332, v333, v334, n335, n337, bn315, bn317, bn319, bn324, bn326, bn328, bn330, bn336, bn338, rfl⟩ := hWl16 0 _ rfl
          refine x_get C (ci := 11) (k := 20) 0 k313 rfl in_X12 (by decide) w_1138 rfl dX12_comesTo_23 rfl ?_
          refine x_iload C dX12_comesTo_26 5 rfl rfl ?_
          obtain ⟨_, k339, rfl⟩ := hWl16 11 _ rfl
          refine x_ialk C (v := (cd.1 k)) k (nI_clamp (by omega)) (nI_pos (by omega)) (by omega) 11 k339 rfl dX12_comesTo_28 rfl ?_
          refine x_top hc ?_
          refine x_ldc C w_1340 dX12_comesTo_29 rfl ?_
          refine x_idiv C (v := 5) dX12_comesTo_31 (by decide) (divU (op := 5) (by omega) hvv) rfl ?_
          refine x_istore C (lv' := [(6, .int 5), (0, .ref (a 0)), (1, .int (nI fr)), (2, .int (nI to)), (3, .int (nI n)), (4, .int 0), (5, .int (nI k))]) dX12_comesTo_32 (by decide) rfl rfl ?_
          refine x_aload_n C dX12_comesTo_34 rfl 1 rfl rfl ?_
          refine x_get C (ci := 11) (k := 20) 0 k313 rfl in_X12 (by decide) w_1138 rfl dX12_comesTo_35 rfl ?_
          refine x_iload C dX12_comesTo_38 6 rfl rfl ?_
          refine x_ialk C (v := (cd.1 k)) k (nI_clamp (by omega)) (nI_pos (by omega)) (by omega) 11 k339 rfl dX12_comesTo_40 rfl ?_
          refine x_top hc ?_
          refine x_ldc C w_1340 dX12_comesTo_41 rfl ?_
          refine x_irem C (v := (nI vv)) dX12_comesTo_43 (by decide) (remU (op := 5) (by omega) hvv) rfl ?_
          refine x_istore C (lv' := [(7, .int (nI vv)), (6, .int 5), (0, .ref (a 0)), (1, .int (nI fr)), (2, .int (nI to)), (3, .int (nI n)), (4, .int 0), (5, .int (nI k))]) dX12_comesTo_44 (by decide) rfl rfl ?_
          refine x_iload C dX12_comesTo_46 7 rfl rfl ?_
          refine x_iconst C (v := 1) dX12_comesTo_48 (by decide) rfl ?_
          refine x_iadd C (v := (nI (k + 1))) dX12_comesTo_49 (nI_add k 1) rfl ?_
          refine x_istore C (lv' := [(5, .int (nI (k + 1))), (7, .int (nI vv)), (6, .int 5), (0, .ref (a 0)), (1, .int (nI fr)), (2, .int (nI to)), (3, .int (nI n)), (4, .int 0)]) dX12_comesTo_50 (by decide) rfl rfl ?_
          refine x_iload C dX12_comesTo_52 2 rfl rfl ?_
          refine x_if_eq C (tgt := 63) dX12_comesTo_54 (by decide) rfl (fun h => absurd h (by decide)) (fun _ => ?_)
          refine x_iload C dX12_comesTo_57 2 rfl rfl ?_
          refine x_iconst C (v := 1) dX12_comesTo_59 (by decide) rfl ?_
          refine x_icmp_ne C (tgt := 93) dX12_comesTo_60 (by decide) rfl (fun _ => ?_) (fun h => absurd h (by decide))
          refine x_iload C dX12_comesTo_93 2 rfl rfl ?_
          refine x_bipush C (v := 10) dX12_comesTo_95 (by decide) rfl ?_
          refine x_icmp_ne C (tgt := 121) dX12_comesTo_97 (by decide) rfl (fun _ => ?_) (fun h => absurd h (by decide))
          refine x_iload C dX12_comesTo_121 2 rfl rfl ?_
          refine x_bipush C (v := 11) dX12_comesTo_123 (by decide) rfl ?_
          refine x_icmp_eq C (tgt := 135) dX12_comesTo_125 (by decide) rfl (fun h => absurd h (by decide)) (fun _ => ?_)
          refine x_iload C dX12_comesTo_128 2 rfl rfl ?_
          refine x_bipush C (v := 12) dX12_comesTo_130 (by decide) rfl ?_
          refine x_icmp_ne C (tgt := 175) dX12_comesTo_132 (by decide) rfl (fun _ => ?_) (fun h => absurd h (by decide))
          refine x_iload_n C dX12_comesTo_175 rfl 6 rfl rfl ?_
          refine x_iconst C (v := 1) dX12_comesTo_176 (by decide) rfl ?_
          refine x_isub C (v := (nI (n - 1))) dX12_comesTo_177 (pk_sub (a := n) (b := 1) (by omega)) rfl ?_
          refine x_istore_n C (lv' := [(3, .int (nI (n - 1))), (5, .int (nI (k + 1))), (7, .int (nI vv)), (6, .int 5), (0, .ref (a 0)), (1, .int (nI fr)), (2, .int (nI to)), (4, .int 0)]) dX12_comesTo_178 rfl (by decide) rfl rfl ?_
          refine x_iload C dX12_comesTo_179 3 rfl rfl ?_
          refine x_iconst C (v := 5) dX12_comesTo_181 (by decide) rfl ?_
          refine x_icmp_eq C (tgt := 192) dX12_comesTo_182 (by decide) rfl (fun _ => ?_) (fun h => absurd h (by decide))
          refine x_aload_n C dX12_comesTo_192 rfl 4 rfl rfl ?_
          refine x_get C (ci := 11) (k := 25) 0 k313 rfl in_X12 (by decide) w_1143 rfl dX12_comesTo_193 rfl ?_
          refine x_iload_n C dX12_comesTo_196 rfl 0 rfl rfl ?_
          refine x_ialk C (v := (st (n - 1))) (n - 1) (nI_clamp (by omega)) (nI_pos (by omega)) (by omega) 16 k16 rfl dX12_comesTo_197 rfl ?_
          refine x_top hx ?_
          refine x_if_ne C (tgt := 203) dX12_comesTo_198 (by decide) rfl (fun c340 => ?_) (fun c340 => ?_)
          · skip
            refine x_aload_n C dX12_comesTo_203 rfl 4 rfl rfl ?_
            refine x_get C (ci := 11) (k := 25) 0 k313 rfl in_X12 (by decide) w_1143 rfl dX12_comesTo_204 rfl ?_
            refine x_iload_n C dX12_comesTo_207 rfl 0 rfl rfl ?_
            refine x_iconst C (v := 1) dX12_comesTo_208 (by decide) rfl ?_
            refine x_isub C (v := (nI ((n - 1) - 1))) dX12_comesTo_209 (pk_sub (a := (n - 1)) (b := 1) (by omega)) rfl ?_
            refine x_iload C dX12_comesTo_210 3 rfl rfl ?_
            refine x_aload_n C dX12_comesTo_212 rfl 4 rfl rfl ?_
            refine x_get C (ci := 11) (k := 25) 0 k313 rfl in_X12 (by decide) w_1143 rfl dX12_comesTo_213 rfl ?_
            refine x_iload_n C dX12_comesTo_216 rfl 0 rfl rfl ?_
            refine x_iconst C (v := 1) dX12_comesTo_217 (by decide) rfl ?_
            refine x_isub C (v := (nI ((n - 1) - 1))) dX12_comesTo_218 (pk_sub (a := (n - 1)) (b := 1) (by omega)) rfl ?_
            refine x_ialk C (v := (st ((n - 1) - 1))) ((n - 1) - 1) (nI_clamp (by omega)) (nI_pos (by omega)) (by omega) 16 k16 rfl dX12_comesTo_219 rfl ?_
            refine x_top hy ?_
            refine x_aload_n C dX12_comesTo_220 rfl 4 rfl rfl ?_
            refine x_get C (ci := 11) (k := 25) 0 k313 rfl in_X12 (by decide) w_1143 rfl dX12_comesTo_221 rfl ?_
            refine x_iload_n C dX12_comesTo_224 rfl 0 rfl rfl ?_
            refine x_ialk C (v := (st (n - 1))) (n - 1) (nI_clamp (by omega)) (nI_pos (by omega)) (by omega) 16 k16 rfl dX12_comesTo_225 rfl ?_
            refine x_top hx ?_
            refine x_si C (As := [.int 5, .int y, .int x]) (rest := [.int (nI ((n - 1) - 1)), .ref (a 16)]) (m_reckon5 E l a cd hG kf jn js jq wl16 hWl16 y x c340) mf_X12_reckon w_1471 rfl rfl (Nat.le_of_ble_eq_true rfl) ⟨(Nat.le_of_ble_eq_true rfl), (Nat.le_of_ble_eq_true rfl)⟩ ⟨(Nat.le_of_ble_eq_true rfl), (Nat.le_of_ble_eq_true rfl)⟩ dX12_comesTo_226 rfl (fun r342 w343 h341 => ?_)
            obtain ⟨hW344, x345⟩ := h341
            refine x_ws hW344 ?_
            obtain ⟨w346, hw347⟩ : ∃ w : va_W, w = List.set wl16 16 (iA E (a 16) 260 (upd st ((n - 1) - 1) r342)) := ⟨_, rfl⟩
            refine x_iask C ((n - 1) - 1) (nI_clamp (by omega)) (nI_pos (by omega)) (by omega) 16 k16 hw347.symm dX12_comesTo_229 rfl ?_
            have hW348 : WX (okM E a cd kf jn js jq) w346 := by rw [hw347]; exact hWl16.set (k := 16) rfl ⟨_, rfl⟩
            have k349 : w346[16]? = some (iA E (a 16) 260 (upd st ((n - 1) - 1) r342)) := by rw [hw347]; exact set_eq k16
            have k350 : w346[17]? = some (iA E (a 17) 11 fc) := by rw [hw347]; exact set_ne iv16_1 (by decide)
            have k351 : w346[0]? = some (ob (a 0) 11 [.ref (a 1), .ref (a 2), .ref (a 3), .ref (a 4), .int (nI n314), .int (nI n316), .int (nI n318), .int v320, .int v321, .int v322, .int (nI n323), .int (nI n325), .int (nI n327), .int (nI (cd.2.2.2.2.2)), .ref (a 5), .ref (a 6), .ref (a 7), .ref (a 8), .ref (a 9), .ref (a 10), .ref (a 11), .ref (a 12), .ref (a 13), .ref (a 14), .ref (a 15), .ref (a 16), .ref (a 17), .int (nI n329), .ref (a 18), .ref (a 19), .ref (a 20), .ref (a 21), .int v331, .int v332, .int v333, .int v334, .int (nI n335), .int (nI n337), .ref (a 22), .ref (a 23), .ref (a 24), .ref (a 25), .ref (a 26), .ref (a 27), .ref (a 28), .ref (a 29), .ref (a 30), .int kf]) := by rw [hw347]; exact set_ne k313 (by decide)
            have k352 : w346[11]? = some (iA E (a 11) 260 cd.1) := by rw [hw347]; exact set_ne k339 (by decide)
            have kp353 := keeps_set kq16 hw347 (by first | exact rfl | decide | omega | (dsimp only; omega))
            refine x_goto C (tgt := 16) dX12_comesTo_230 (by decide) ?_
            refine x_lv (lv1 := [(0, .ref (a 0)), (1, .int (nI fr)), (2, .int (nI to)), (3, .int (nI (n - 1))), (4, .int 0), (5, .int (nI (k + 1)))]) [4, 5, 6, 0, 7, 1] rfl ?_
            exact ih16 (n - 1) (k + 1) w346 hW348 (by omega) (by omega) k350 ⟨_, _, F, k349, sR_put hR2 (by omega), by omega, by omega, by rw [x345]; exact (if_neg (fun z => c340 z.2)).symm.trans ((cE_two (by omega) hat (by decide) (by decide)).symm.trans hV)⟩ kp353
          · skip
            refine x_iconst C (v := 0) dX12_comesTo_201 (by decide) rfl ?_
            exact x_zret C hr hlk rfl dX12_comesTo_202 ⟨hWl16, kq16, ((if_pos ⟨Or.inl rfl, c340⟩).symm.trans ((cE_two (by omega) hat (by decide) (by decide)).symm.trans hV))⟩
        · obtain ⟨hop, hvv, hc⟩ := id hat
          refine x_aload_n C dX12_comesTo_22 rfl 0 rfl rfl ?_
          obtain ⟨_, k354, n355, n357, n359, v361, v362, v363, n364, n366, n368, n370, v372, v373, v374, v375, n376, n378, bn356, bn358, bn360, bn365, bn367, bn369, bn371, bn377, bn379, rfl⟩ := hWl16 0 _ rfl
          refine x_get C (ci := 11) (k := 20) 0 k354 rfl in_X12 (by decide) w_1138 rfl dX12_comesTo_23 rfl ?_
          refine x_iload C dX12_comesTo_26 5 rfl rfl ?_
          obtain ⟨_, k380, rfl⟩ := hWl16 11 _ rfl
          refine x_ialk C (v := (cd.1 k)) k (nI_clamp (by omega)) (nI_pos (by omega)) (by omega) 11 k380 rfl dX12_comesTo_28 rfl ?_
          refine x_top hc ?_
          refine x_ldc C w_1340 dX12_comesTo_29 rfl ?_
          refine x_idiv C (v := 6) dX12_comesTo_31 (by decide) (divU (op := 6) (by omega) hvv) rfl ?_
          refine x_istore C (lv' := [(6, .int 6), (0, .ref (a 0)), (1, .int (nI fr)), (2, .int (nI to)), (3, .int (nI n)), (4, .int 0), (5, .int (nI k))]) dX12_comesTo_32 (by decide) rfl rfl ?_
          refine x_aload_n C dX12_comesTo_34 rfl 1 rfl rfl ?_
          refine x_get C (ci := 11) (k := 20) 0 k354 rfl in_X12 (by decide) w_1138 rfl dX12_comesTo_35 rfl ?_
          refine x_iload C dX12_comesTo_38 6 rfl rfl ?_
          refine x_ialk C (v := (cd.1 k)) k (nI_clamp (by omega)) (nI_pos (by omega)) (by omega) 11 k380 rfl dX12_comesTo_40 rfl ?_
          refine x_top hc ?_
          refine x_ldc C w_1340 dX12_comesTo_41 rfl ?_
          refine x_irem C (v := (nI vv)) dX12_comesTo_43 (by decide) (remU (op := 6) (by omega) hvv) rfl ?_
          refine x_istore C (lv' := [(7, .int (nI vv)), (6, .int 6), (0, .ref (a 0)), (1, .int (nI fr)), (2, .int (nI to)), (3, .int (nI n)), (4, .int 0), (5, .int (nI k))]) dX12_comesTo_44 (by decide) rfl rfl ?_
          refine x_iload C dX12_comesTo_46 7 rfl rfl ?_
          refine x_iconst C (v := 1) dX12_comesTo_48 (by decide) rfl ?_
          refine x_iadd C (v := (nI (k + 1))) dX12_comesTo_49 (nI_add k 1) rfl ?_
          refine x_istore C (lv' := [(5, .int (nI (k + 1))), (7, .int (nI vv)), (6, .int 6), (0, .ref (a 0)), (1, .int (nI fr)), (2, .int (nI to)), (3, .int (nI n)), (4, .int 0)]) dX12_comesTo_50 (by decide) rfl rfl ?_
          refine x_iload C dX12_comesTo_52 2 rfl rfl ?_
          refine x_if_eq C (tgt := 63) dX12_comesTo_54 (by decide) rfl (fun h => absurd h (by decide)) (fun _ => ?_)
          refine x_iload C dX12_comesTo_57 2 rfl rfl ?_
          refine x_iconst C (v := 1) dX12_comesTo_59 (by decide) rfl ?_
          refine x_icmp_ne C (tgt := 93) dX12_comesTo_60 (by decide) rfl (fun _ => ?_) (fun h => absurd h (by decide))
          refine x_iload C dX12_comesTo_93 2 rfl rfl ?_
          refine x_bipush C (v := 10) dX12_comesTo_95 (by decide) rfl ?_
          refine x_icmp_ne C (tgt := 121) dX12_comesTo_97 (by decide) rfl (fun _ => ?_) (fun h => absurd h (by decide))
          refine x_iload C dX12_comesTo_121 2 rfl rfl ?_
          refine x_bipush C (v := 11) dX12_comesTo_123 (by decide) rfl ?_
          refine x_icmp_eq C (tgt := 135) dX12_comesTo_125 (by decide) rfl (fun h => absurd h (by decide)) (fun _ => ?_)
          refine x_iload C dX12_comesTo_128 2 rfl rfl ?_
          refine x_bipush C (v := 12) dX12_comesTo_130 (by decide) rfl ?_
          refine x_icmp_ne C (tgt := 175) dX12_comesTo_132 (by decide) rfl (fun _ => ?_) (fun h => absurd h (by decide))
          refine x_iload_n C dX12_comesTo_175 rfl 6 rfl rfl ?_
          refine x_iconst C (v := 1) dX12_comesTo_176 (by decide) rfl ?_
          refine x_isub C (v := (nI (n - 1))) dX12_comesTo_177 (pk_sub (a := n) (b := 1) (by omega)) rfl ?_
          refine x_istore_n C (lv' := [(3, .int (nI (n - 1))), (5, .int (nI (k + 1))), (7, .int (nI vv)), (6, .int 6), (0, .ref (a 0)), (1, .int (nI fr)), (2, .int (nI to)), (4, .int 0)]) dX12_comesTo_178 rfl (by decide) rfl rfl ?_
          refine x_iload C dX12_comesTo_179 3 rfl rfl ?_
          refine x_iconst C (v := 5) dX12_comesTo_181 (by decide) rfl ?_
          refine x_icmp_eq C (tgt := 192) dX12_comesTo_182 (by decide) rfl (fun h => absurd h (by decide)) (fun _ => ?_)
          refine x_iload C dX12_comesTo_185 3 rfl rfl ?_
          refine x_bipush C (v := 6) dX12_comesTo_187 (by decide) rfl ?_
          refine x_icmp_ne C (tgt := 203) dX12_comesTo_189 (by decide) rfl (fun h => absurd h (by decide)) (fun _ => ?_)
          refine x_aload_n C dX12_comesTo_192 rfl 4 rfl rfl ?_
          refine x_get C (ci := 11) (k := 25) 0 k354 rfl in_X12 (by decide) w_1143 rfl dX12_comesTo_193 rfl ?_
          refine x_iload_n C dX12_comesTo_196 rfl 0 rfl rfl ?_
          refine x_ialk C (v := (st (n - 1))) (n - 1) (nI_clamp (by omega)) (nI_pos (by omega)) (by omega) 16 k16 rfl dX12_comesTo_197 rfl ?_
          refine x_top hx ?_
          refine x_if_ne C (tgt := 203) dX12_comesTo_198 (by decide) rfl (fun c381 => ?_) (fun c381 => ?_)
          · skip
            refine x_aload_n C dX12_comesTo_203 rfl 4 rfl rfl ?_
            refine x_get C (ci := 11) (k := 25) 0 k354 rfl in_X12 (by decide) w_1143 rfl dX12_comesTo_204 rfl ?_
            refine x_iload_n C dX12_comesTo_207 rfl 0 rfl rfl ?_
            refine x_iconst C (v := 1) dX12_comesTo_208 (by decide) rfl ?_
            refine x_isub C (v := (nI ((n - 1) - 1))) dX12_comesTo_209 (pk_sub (a := (n - 1)) (b := 1) (by omega)) rfl ?_
            refine x_iload C dX12_comesTo_210 3 rfl rfl ?_
            refine x_aload_n C dX12_comesTo_212 rfl 4 rfl rfl ?_
            refine x_get C (ci := 11) (k := 25) 0 k354 rfl in_X12 (by decide) w_1143 rfl dX12_comesTo_213 rfl ?_
            refine x_iload_n C dX12_comesTo_216 rfl 0 rfl rfl ?_
            refine x_iconst C (v := 1) dX12_comesTo_217 (by decide) rfl ?_
            refine x_isub C (v := (nI ((n - 1) - 1))) dX12_comesTo_218 (pk_sub (a := (n - 1)) (b := 1) (by omega)) rfl ?_
            refine x_ialk C (v := (st ((n - 1) - 1))) ((n - 1) - 1) (nI_clamp (by omega)) (nI_pos (by omega)) (by omega) 16 k16 rfl dX12_comesTo_219 rfl ?_
            refine x_top hy ?_
            refine x_aload_n C dX12_comesTo_220 rfl 4 rfl rfl ?_
            refine x_get C (ci := 11) (k := 25) 0 k354 rfl in_X12 (by decide) w_1143 rfl dX12_comesTo_221 rfl ?_
            refine x_iload_n C dX12_comesTo_224 rfl 0 rfl rfl ?_
            refine x_ialk C (v := (st (n - 1))) (n - 1) (nI_clamp (by omega)) (nI_pos (by omega)) (by omega) 16 k16 rfl dX12_comesTo_225 rfl ?_
            refine x_top hx ?_
            refine x_si C (As := [.int 6, .int y, .int x]) (rest := [.int (nI ((n - 1) - 1)), .ref (a 16)]) (m_reckon6 E l a cd hG kf jn js jq wl16 hWl16 y x c381) mf_X12_reckon w_1471 rfl rfl (Nat.le_of_ble_eq_true rfl) ⟨(Nat.le_of_ble_eq_true rfl), (Nat.le_of_ble_eq_true rfl)⟩ ⟨(Nat.le_of_ble_eq_true rfl), (Nat.le_of_ble_eq_true rfl)⟩ dX12_comesTo_226 rfl (fun r383 w384 h382 => ?_)
            obtain ⟨hW385, x386⟩ := h382
            refine x_ws hW385 ?_
            obtain ⟨w387, hw388⟩ : ∃ w : va_W, w = List.set wl16 16 (iA E (a 16) 260 (upd st ((n - 1) - 1) r383)) := ⟨_, rfl⟩
            refine x_iask C ((n - 1) - 1) (nI_clamp (by omega)) (nI_pos (by omega)) (by omega) 16 k16 hw388.symm dX12_comesTo_229 rfl ?_
            have hW389 : WX (okM E a cd kf jn js jq) w387 := by rw [hw388]; exact hWl16.set (k := 16) rfl ⟨_, rfl⟩
            have k390 : w387[16]? = some (iA E (a 16) 260 (upd st ((n - 1) - 1) r383)) := by rw [hw388]; exact set_eq k16
            have k391 : w387[17]? = some (iA E (a 17) 11 fc) := by rw [hw388]; exact set_ne iv16_1 (by decide)
            have k392 : w387[0]? = some (ob (a 0) 11 [.ref (a 1), .ref (a 2), .ref (a 3), .ref (a 4), .int (nI n355), .int (nI n357), .int (nI n359), .int v361, .int v362, .int v363, .int (nI n364), .int (nI n366), .int (nI n368), .int (nI (cd.2.2.2.2.2)), .ref (a 5), .ref (a 6), .ref (a 7), .ref (a 8), .ref (a 9), .ref (a 10), .ref (a 11), .ref (a 12), .ref (a 13), .ref (a 14), .ref (a 15), .ref (a 16), .ref (a 17), .int (nI n370), .ref (a 18), .ref (a 19), .ref (a 20), .ref (a 21), .int v372, .int v373, .int v374, .int v375, .int (nI n376), .int (nI n378), .ref (a 22), .ref (a 23), .ref (a 24), .ref (a 25), .ref (a 26), .ref (a 27), .ref (a 28), .ref (a 29), .ref (a 30), .int kf]) := by rw [hw388]; exact set_ne k354 (by decide)
            have k393 : w387[11]? = some (iA E (a 11) 260 cd.1) := by rw [hw388]; exact set_ne k380 (by decide)
            have kp394 := keeps_set kq16 hw388 (by first | exact rfl | decide | omega | (dsimp only; omega))
            refine x_goto C (tgt := 16) dX12_comesTo_230 (by decide) ?_
            refine x_lv (lv1 := [(0, .ref (a 0)), (1, .int (nI fr)), (2, .int (nI to)), (3, .int (nI (n - 1))), (4, .int 0), (5, .int (nI (k + 1)))]) [4, 5, 6, 0, 7, 1] rfl ?_
            exact ih16 (n - 1) (k + 1) w387 hW389 (by omega) (by omega) k391 ⟨_, _, F, k390, sR_put hR2 (by omega), by omega, by omega, by rw [x386]; exact (if_neg (fun z => c381 z.2)).symm.trans ((cE_two (by omega) hat (by decide) (by decide)).symm.trans hV)⟩ kp394
          · skip
            refine x_iconst C (v := 0) dX12_comesTo_201 (by decide) rfl ?_
            exact x_zret C hr hlk rfl dX12_comesTo_202 ⟨hWl16, kq16, ((if_pos ⟨Or.inr rfl, c381⟩).symm.trans ((cE_two (by omega) hat (by decide) (by decide)).symm.trans hV))⟩
        · obtain ⟨hop, hvv, hc⟩ := id hat
          refine x_aload_n C dX12_comesTo_22 rfl 0 rfl rfl ?_
          obtain ⟨_, k395, n396, n398, n400, v402, v403, v404, n405, n407, n409, n411, v413, v414, v415, v416, n417, n419, bn397, bn399, bn401, bn406, bn408, bn410, bn412, bn418, bn420, rfl⟩ := hWl16 0 _ rfl
          refine x_get C (ci := 11) (k := 20) 0 k395 rfl in_X12 (by decide) w_1138 rfl dX12_comesTo_23 rfl ?_
          refine x_iload C dX12_comesTo_26 5 rfl rfl ?_
          obtain ⟨_, k421, rfl⟩ := hWl16 11 _ rfl
          refine x_ialk C (v := (cd.1 k)) k (nI_clamp (by omega)) (nI_pos (by omega)) (by omega) 11 k421 rfl dX12_comesTo_28 rfl ?_
          refine x_top hc ?_
          refine x_ldc C w_1340 dX12_comesTo_29 rfl ?_
          refine x_idiv C (v := 7) dX12_comesTo_31 (by decide) (divU (op := 7) (by omega) hvv) rfl ?_
          refine x_istore C (lv' := [(6, .int 7), (0, .ref (a 0)), (1, .int (nI fr)), (2, .int (nI to)), (3, .int (nI n)), (4, .int 0), (5, .int (nI k))]) dX12_comesTo_32 (by decide) rfl rfl ?_
          refine x_aload_n C dX12_comesTo_34 rfl 1 rfl rfl ?_
          refine x_get C (ci := 11) (k := 20) 0 k395 rfl in_X12 (by decide) w_1138 rfl dX12_comesTo_35 rfl ?_
          refine x_iload C dX12_comesTo_38 6 rfl rfl ?_
          refine x_ialk C (v := (cd.1 k)) k (nI_clamp (by omega)) (nI_pos (by omega)) (by omega) 11 k421 rfl dX12_comesTo_40 rfl ?_
          refine x_top hc ?_
          refine x_ldc C w_1340 dX12_comesTo_41 rfl ?_
          refine x_irem C (v := (nI vv)) dX12_comesTo_43 (by decide) (remU (op := 7) (by omega) hvv) rfl ?_
          refine x_istore C (lv' := [(7, .int (nI vv)), (6, .int 7), (0, .ref (a 0)), (1, .int (nI fr)), (2, .int (nI to)), (3, .int (nI n)), (4, .int 0), (5, .int (nI k))]) dX12_comesTo_44 (by decide) rfl rfl ?_
          refine x_iload C dX12_comesTo_46 7 rfl rfl ?_
          refine x_iconst C (v := 1) dX12_comesTo_48 (by decide) rfl ?_
          refine x_iadd C (v := (nI (k + 1))) dX12_comesTo_49 (nI_add k 1) rfl ?_
          refine x_istore C (lv' := [(5, .int (nI (k + 1))), (7, .int (nI vv)), (6, .int 7), (0, .ref (a 0)), (1, .int (nI fr)), (2, .int (nI to)), (3, .int (nI n)), (4, .int 0)]) dX12_comesTo_50 (by decide) rfl rfl ?_
          refine x_iload C dX12_comesTo_52 2 rfl rfl ?_
          refine x_if_eq C (tgt := 63) dX12_comesTo_54 (by decide) rfl (fun h => absurd h (by decide)) (fun _ => ?_)
          refine x_iload C dX12_comesTo_57 2 rfl rfl ?_
          refine x_iconst C (v := 1) dX12_comesTo_59 (by decide) rfl ?_
          refine x_icmp_ne C (tgt := 93) dX12_comesTo_60 (by decide) rfl (fun _ => ?_) (fun h => absurd h (by decide))
          refine x_iload C dX12_comesTo_93 2 rfl rfl ?_
          refine x_bipush C (v := 10) dX12_comesTo_95 (by decide) rfl ?_
          refine x_icmp_ne C (tgt := 121) dX12_comesTo_97 (by decide) rfl (fun _ => ?_) (fun h => absurd h (by decide))
          refine x_iload C dX12_comesTo_121 2 rfl rfl ?_
          refine x_bipush C (v := 11) dX12_comesTo_123 (by decide) rfl ?_
          refine x_icmp_eq C (tgt := 135) dX12_comesTo_125 (by decide) rfl (fun h => absurd h (by decide)) (fun _ => ?_)
          refine x_iload C dX12_comesTo_128 2 rfl rfl ?_
          refine x_bipush C (v := 12) dX12_comesTo_130 (by decide) rfl ?_
          refine x_icmp_ne C (tgt := 175) dX12_comesTo_132 (by decide) rfl (fun _ => ?_) (fun h => absurd h (by decide))
          refine x_iload_n C dX12_comesTo_175 rfl 6 rfl rfl ?_
          refine x_iconst C (v := 1) dX12_comesTo_176 (by decide) rfl ?_
          refine x_isub C (v := (nI (n - 1))) dX12_comesTo_177 (pk_sub (a := n) (b := 1) (by omega)) rfl ?_
          refine x_istore_n C (lv' := [(3, .int (nI (n - 1))), (5, .int (nI (k + 1))), (7, .int (nI vv)), (6, .int 7), (0, .ref (a 0)), (1, .int (nI fr)), (2, .int (nI to)), (4, .int 0)]) dX12_comesTo_178 rfl (by decide) rfl rfl ?_
          refine x_iload C dX12_comesTo_179 3 rfl rfl ?_
          refine x_iconst C (v := 5) dX12_comesTo_181 (by decide) rfl ?_
          refine x_icmp_eq C (tgt := 192) dX12_comesTo_182 (by decide) rfl (fun h => absurd h (by decide)) (fun _ => ?_)
          refine x_iload C dX12_comesTo_185 3 rfl rfl ?_
          refine x_bipush C (v := 6) dX12_comesTo_187 (by decide) rfl ?_
          refine x_icmp_ne C (tgt := 203) dX12_comesTo_189 (by decide) rfl (fun _ => ?_) (fun h => absurd h (by decide))
          refine x_aload_n C dX12_comesTo_203 rfl 4 rfl rfl ?_
          refine x_get C (ci := 11) (k := 25) 0 k395 rfl in_X12 (by decide) w_1143 rfl dX12_comesTo_204 rfl ?_
          refine x_iload_n C dX12_comesTo_207 rfl 0 rfl rfl ?_
          refine x_iconst C (v := 1) dX12_comesTo_208 (by decide) rfl ?_
          refine x_isub C (v := (nI ((n - 1) - 1))) dX12_comesTo_209 (pk_sub (a := (n - 1)) (b := 1) (by omega)) rfl ?_
          refine x_iload C dX12_comesTo_210 3 rfl rfl ?_
          refine x_aload_n C dX12_comesTo_212 rfl 4 rfl rfl ?_
          refine x_get C (ci := 11) (k := 25) 0 k395 rfl in_X12 (by decide) w_1143 rfl dX12_comesTo_213 rfl ?_
          refine x_iload_n C dX12_comesTo_216 rfl 0 rfl rfl ?_
          refine x_iconst C (v := 1) dX12_comesTo_217 (by decide) rfl ?_
          refine x_isub C (v := (nI ((n - 1) - 1))) dX12_comesTo_218 (pk_sub (a := (n - 1)) (b := 1) (by omega)) rfl ?_
          refine x_ialk C (v := (st ((n - 1) - 1))) ((n - 1) - 1) (nI_clamp (by omega)) (nI_pos (by omega)) (by omega) 16 k16 rfl dX12_comesTo_219 rfl ?_
          refine x_top hy ?_
          refine x_aload_n C dX12_comesTo_220 rfl 4 rfl rfl ?_
          refine x_get C (ci := 11) (k := 25) 0 k395 rfl in_X12 (by decide) w_1143 rfl dX12_comesTo_221 rfl ?_
          refine x_iload_n C dX12_comesTo_224 rfl 0 rfl rfl ?_
          refine x_ialk C (v := (st (n - 1))) (n - 1) (nI_clamp (by omega)) (nI_pos (by omega)) (by omega) 16 k16 rfl dX12_comesTo_225 rfl ?_
          refine x_top hx ?_
          refine x_si C (As := [.int 7, .int y, .int x]) (rest := [.int (nI ((n - 1) - 1)), .ref (a 16)]) (m_reckon7 E l a cd hG kf jn js jq wl16 hWl16 y x) mf_X12_reckon w_1471 rfl rfl (Nat.le_of_ble_eq_true rfl) ⟨(Nat.le_of_ble_eq_true rfl), (Nat.le_of_ble_eq_true rfl)⟩ ⟨(Nat.le_of_ble_eq_true rfl), (Nat.le_of_ble_eq_true rfl)⟩ dX12_comesTo_226 rfl (fun r423 w424 h422 => ?_)
          obtain ⟨hW425, x426⟩ := h422
          refine x_ws hW425 ?_
          obtain ⟨w427, hw428⟩ : ∃ w : va_W, w = List.set wl16 16 (iA E (a 16) 260 (upd st ((n - 1) - 1) r423)) := ⟨_, rfl⟩
          refine x_iask C ((n - 1) - 1) (nI_clamp (by omega)) (nI_pos (by omega)) (by omega) 16 k16 hw428.symm dX12_comesTo_229 rfl ?_
          have hW429 : WX (okM E a cd kf jn js jq) w427 := by rw [hw428]; exact hWl16.set (k := 16) rfl ⟨_, rfl⟩
          have k430 : w427[16]? = some (iA E (a 16) 260 (upd st ((n - 1) - 1) r423)) := by rw [hw428]; exact set_eq k16
          have k431 : w427[17]? = some (iA E (a 17) 11 fc) := by rw [hw428]; exact set_ne iv16_1 (by decide)
          have k432 : w427[0]? = some (ob (a 0) 11 [.ref (a 1), .ref (a 2), .ref (a 3), .ref (a 4), .int (nI n396), .int (nI n398), .int (nI n400), .int v402, .int v403, .int v404, .int (nI n405), .int (nI n407), .int (nI n409), .int (nI (cd.2.2.2.2.2)), .ref (a 5), .ref (a 6), .ref (a 7), .ref (a 8), .ref (a 9), .ref (a 10), .ref (a 11), .ref (a 12), .ref (a 13), .ref (a 14), .ref (a 15), .ref (a 16), .ref (a 17), .int (nI n411), .ref (a 18), .ref (a 19), .ref (a 20), .ref (a 21), .int v413, .int v414, .int v415, .int v416, .int (nI n417), .int (nI n419), .ref (a 22), .ref (a 23), .ref (a 24), .ref (a 25), .ref (a 26), .ref (a 27), .ref (a 28), .ref (a 29), .ref (a 30), .int kf]) := by rw [hw428]; exact set_ne k395 (by decide)
          have k433 : w427[11]? = some (iA E (a 11) 260 cd.1) := by rw [hw428]; exact set_ne k421 (by decide)
          have kp434 := keeps_set kq16 hw428 (by first | exact rfl | decide | omega | (dsimp only; omega))
          refine x_goto C (tgt := 16) dX12_comesTo_230 (by decide) ?_
          refine x_lv (lv1 := [(0, .ref (a 0)), (1, .int (nI fr)), (2, .int (nI to)), (3, .int (nI (n - 1))), (4, .int 0), (5, .int (nI (k + 1)))]) [4, 5, 6, 0, 7, 1] rfl ?_
          exact ih16 (n - 1) (k + 1) w427 hW429 (by omega) (by omega) k431 ⟨_, _, F, k430, sR_put hR2 (by omega), by omega, by omega, by rw [x426]; exact (if_neg (fun z => absurd z.1 (by decide))).symm.trans ((cE_two (by omega) hat (by decide) (by decide)).symm.trans hV)⟩ kp434
        · obtain ⟨hop, hvv, hc⟩ := id hat
          refine x_aload_n C dX12_comesTo_22 rfl 0 rfl rfl ?_
          obtain ⟨_, k435, n436, n438, n440, v442, v443, v444, n445, n447, n449, n451, v453, v454, v455, v456, n457, n459, bn437, bn439, bn441, bn446, bn448, bn450, bn452, bn458, bn460, rfl⟩ := hWl16 0 _ rfl
          refine x_get C (ci := 11) (k := 20) 0 k435 rfl in_X12 (by decide) w_1138 rfl dX12_comesTo_23 rfl ?_
          refine x_iload C dX12_comesTo_26 5 rfl rfl ?_
          obtain ⟨_, k461, rfl⟩ := hWl16 11 _ rfl
          refine x_ialk C (v := (cd.1 k)) k (nI_clamp (by omega)) (nI_pos (by omega)) (by omega) 11 k461 rfl dX12_comesTo_28 rfl ?_
          refine x_top hc ?_
          refine x_ldc C w_1340 dX12_comesTo_29 rfl ?_
          refine x_idiv C (v := 8) dX12_comesTo_31 (by decide) (divU (op := 8) (by omega) hvv) rfl ?_
          refine x_istore C (lv' := [(6, .int 8), (0, .ref (a 0)), (1, .int (nI fr)), (2, .int (nI to)), (3, .int (nI n)), (4, .int 0), (5, .int (nI k))]) dX12_comesTo_32 (by decide) rfl rfl ?_
          refine x_aload_n C dX12_comesTo_34 rfl 1 rfl rfl ?_
          refine x_get C (ci := 11) (k := 20) 0 k435 rfl in_X12 (by decide) w_1138 rfl dX12_comesTo_35 rfl ?_
          refine x_iload C dX12_comesTo_38 6 rfl rfl ?_
          refine x_ialk C (v := (cd.1 k)) k (nI_clamp (by omega)) (nI_pos (by omega)) (by omega) 11 k461 rfl dX12_comesTo_40 rfl ?_
          refine x_top hc ?_
          refine x_ldc C w_1340 dX12_comesTo_41 rfl ?_
          refine x_irem C (v := (nI vv)) dX12_comesTo_43 (by decide) (remU (op := 8) (by omega) hvv) rfl ?_
          refine x_istore C (lv' := [(7, .int (nI vv)), (6, .int 8), (0, .ref (a 0)), (1, .int (nI fr)), (2, .int (nI to)), (3, .int (nI n)), (4, .int 0), (5, .int (nI k))]) dX12_comesTo_44 (by decide) rfl rfl ?_
          refine x_iload C dX12_comesTo_46 7 rfl rfl ?_
          refine x_iconst C (v := 1) dX12_comesTo_48 (by decide) rfl ?_
          refine x_iadd C (v := (nI (k + 1))) dX12_comesTo_49 (nI_add k 1) rfl ?_
          refine x_istore C (lv' := [(5, .int (nI (k + 1))), (7, .int (nI vv)), (6, .int 8), (0, .ref (a 0)), (1, .int (nI fr)), (2, .int (nI to)), (3, .int (nI n)), (4, .int 0)]) dX12_comesTo_50 (by decide) rfl rfl ?_
          refine x_iload C dX12_comesTo_52 2 rfl rfl ?_
          refine x_if_eq C (tgt := 63) dX12_comesTo_54 (by decide) rfl (fun h => absurd h (by decide)) (fun _ => ?_)
          refine x_iload C dX12_comesTo_57 2 rfl rfl ?_
          refine x_iconst C (v := 1) dX12_comesTo_59 (by decide) rfl ?_
          refine x_icmp_ne C (tgt := 93) dX12_comesTo_60 (by decide) rfl (fun _ => ?_) (fun h => absurd h (by decide))
          refine x_iload C dX12_comesTo_93 2 rfl rfl ?_
          refine x_bipush C (v := 10) dX12_comesTo_95 (by decide) rfl ?_
          refine x_icmp_ne C (tgt := 121) dX12_comesTo_97 (by decide) rfl (fun _ => ?_) (fun h => absurd h (by decide))
          refine x_iload C dX12_comesTo_121 2 rfl rfl ?_
          refine x_bipush C (v := 11) dX12_comesTo_123 (by decide) rfl ?_
          refine x_icmp_eq C (tgt := 135) dX12_comesTo_125 (by decide) rfl (fun h => absurd h (by decide)) (fun _ => ?_)
          refine x_iload C dX12_comesTo_128 2 rfl rfl ?_
          refine x_bipush C (v := 12) dX12_comesTo_130 (by decide) rfl ?_
          refine x_icmp_ne C (tgt := 175) dX12_comesTo_132 (by decide) rfl (fun _ => ?_) (fun h => absurd h (by decide))
          refine x_iload_n C dX12_comesTo_175 rfl 6 rfl rfl ?_
          refine x_iconst C (v := 1) dX12_comesTo_176 (by decide) rfl ?_
          refine x_isub C (v := (nI (n - 1))) dX12_comesTo_177 (pk_sub (a := n) (b := 1) (by omega)) rfl ?_
          refine x_istore_n C (lv' := [(3, .int (nI (n - 1))), (5, .int (nI (k + 1))), (7, .int (nI vv)), (6, .int 8), (0, .ref (a 0)), (1, .int (nI fr)), (2, .int (nI to)), (4, .int 0)]) dX12_comesTo_178 rfl (by decide) rfl rfl ?_
          refine x_iload C dX12_comesTo_179 3 rfl rfl ?_
          refine x_iconst C (v := 5) dX12_comesTo_181 (by decide) rfl ?_
          refine x_icmp_eq C (tgt := 192) dX12_comesTo_182 (by decide) rfl (fun h => absurd h (by decide)) (fun _ => ?_)
          refine x_iload C dX12_comesTo_185 3 rfl rfl ?_
          refine x_bipush C (v := 6) dX12_comesTo_187 (by decide) rfl ?_
          refine x_icmp_ne C (tgt := 203) dX12_comesTo_189 (by decide) rfl (fun _ => ?_) (fun h => absurd h (by decide))
          refine x_aload_n C dX12_comesTo_203 rfl 4 rfl rfl ?_
          refine x_get C (ci := 11) (k := 25) 0 k435 rfl in_X12 (by decide) w_1143 rfl dX12_comesTo_204 rfl ?_
          refine x_iload_n C dX12_comesTo_207 rfl 0 rfl rfl ?_
          refine x_iconst C (v := 1) dX12_comesTo_208 (by decide) rfl ?_
          refine x_isub C (v := (nI ((n - 1) - 1))) dX12_comesTo_209 (pk_sub (a := (n - 1)) (b := 1) (by omega)) rfl ?_
          refine x_iload C dX12_comesTo_210 3 rfl rfl ?_
          refine x_aload_n C dX12_comesTo_212 rfl 4 rfl rfl ?_
          refine x_get C (ci := 11) (k := 25) 0 k435 rfl in_X12 (by decide) w_1143 rfl dX12_comesTo_213 rfl ?_
          refine x_iload_n C dX12_comesTo_216 rfl 0 rfl rfl ?_
          refine x_iconst C (v := 1) dX12_comesTo_217 (by decide) rfl ?_
          refine x_isub C (v := (nI ((n - 1) - 1))) dX12_comesTo_218 (pk_sub (a := (n - 1)) (b := 1) (by omega)) rfl ?_
          refine x_ialk C (v := (st ((n - 1) - 1))) ((n - 1) - 1) (nI_clamp (by omega)) (nI_pos (by omega)) (by omega) 16 k16 rfl dX12_comesTo_219 rfl ?_
          refine x_top hy ?_
          refine x_aload_n C dX12_comesTo_220 rfl 4 rfl rfl ?_
          refine x_get C (ci := 11) (k := 25) 0 k435 rfl in_X12 (by decide) w_1143 rfl dX12_comesTo_221 rfl ?_
          refine x_iload_n C dX12_comesTo_224 rfl 0 rfl rfl ?_
          refine x_ialk C (v := (st (n - 1))) (n - 1) (nI_clamp (by omega)) (nI_pos (by omega)) (by omega) 16 k16 rfl dX12_comesTo_225 rfl ?_
          refine x_top hx ?_
          refine x_si C (As := [.int 8, .int y, .int x]) (rest := [.int (nI ((n - 1) - 1)), .ref (a 16)]) (m_reckon8 E l a cd hG kf jn js jq wl16 hWl16 y x) mf_X12_reckon w_1471 rfl rfl (Nat.le_of_ble_eq_true rfl) ⟨(Nat.le_of_ble_eq_true rfl), (Nat.le_of_ble_eq_true rfl)⟩ ⟨(Nat.le_of_ble_eq_true rfl), (Nat.le_of_ble_eq_true rfl)⟩ dX12_comesTo_226 rfl (fun r463 w464 h462 => ?_)
          obtain ⟨hW465, x466⟩ := h462
          refine x_ws hW465 ?_
          obtain ⟨w467, hw468⟩ : ∃ w : va_W, w = List.set wl16 16 (iA E (a 16) 260 (upd st ((n - 1) - 1) r463)) := ⟨_, rfl⟩
          refine x_iask C ((n - 1) - 1) (nI_clamp (by omega)) (nI_pos (by omega)) (by omega) 16 k16 hw468.symm dX12_comesTo_229 rfl ?_
          have hW469 : WX (okM E a cd kf jn js jq) w467 := by rw [hw468]; exact hWl16.set (k := 16) rfl ⟨_, rfl⟩
          have k470 : w467[16]? = some (iA E (a 16) 260 (upd st ((n - 1) - 1) r463)) := by rw [hw468]; exact set_eq k16
          have k471 : w467[17]? = some (iA E (a 17) 11 fc) := by rw [hw468]; exact set_ne iv16_1 (by decide)
          have k472 : w467[0]? = some (ob (a 0) 11 [.ref (a 1), .ref (a 2), .ref (a 3), .ref (a 4), .int (nI n436), .int (nI n438), .int (nI n440), .int v442, .int v443, .int v444, .int (nI n445), .int (nI n447), .int (nI n449), .int (nI (cd.2.2.2.2.2)), .ref (a 5), .ref (a 6), .ref (a 7), .ref (a 8), .ref (a 9), .ref (a 10), .ref (a 11), .ref (a 12), .ref (a 13), .ref (a 14), .ref (a 15), .ref (a 16), .ref (a 17), .int (nI n451), .ref (a 18), .ref (a 19), .ref (a 20), .ref (a 21), .int v453, .int v454, .int v455, .int v456, .int (nI n457), .int (nI n459), .ref (a 22), .ref (a 23), .ref (a 24), .ref (a 25), .ref (a 26), .ref (a 27), .ref (a 28), .ref (a 29), .ref (a 30), .int kf]) := by rw [hw468]; exact set_ne k435 (by decide)
          have k473 : w467[11]? = some (iA E (a 11) 260 cd.1) := by rw [hw468]; exact set_ne k461 (by decide)
          have kp474 := keeps_set kq16 hw468 (by first | exact rfl | decide | omega | (dsimp only; omega))
          refine x_goto C (tgt := 16) dX12_comesTo_230 (by decide) ?_
          refine x_lv (lv1 := [(0, .ref (a 0)), (1, .int (nI fr)), (2, .int (nI to)), (3, .int (nI (n - 1))), (4, .int 0), (5, .int (nI (k + 1)))]) [4, 5, 6, 0, 7, 1] rfl ?_
          exact ih16 (n - 1) (k + 1) w467 hW469 (by omega) (by omega) k471 ⟨_, _, F, k470, sR_put hR2 (by omega), by omega, by omega, by rw [x466]; exact (if_neg (fun z => absurd z.1 (by decide))).symm.trans ((cE_two (by omega) hat (by decide) (by decide)).symm.trans hV)⟩ kp474
        · obtain ⟨hop, hvv, hc⟩ := id hat
          refine x_aload_n C dX12_comesTo_22 rfl 0 rfl rfl ?_
          obtain ⟨_, k475, n476, n478, n480, v482, v483, v484, n485, n487, n489, n491, v493, v494, v495, v496, n497, n499, bn477, bn479, bn481, bn486, bn488, bn490, bn492, bn498, bn500, rfl⟩ := hWl16 0 _ rfl
          refine x_get C (ci := 11) (k := 20) 0 k475 rfl in_X12 (by decide) w_1138 rfl dX12_comesTo_23 rfl ?_
          refine x_iload C dX12_comesTo_26 5 rfl rfl ?_
          obtain ⟨_, k501, rfl⟩ := hWl16 11 _ rfl
          refine x_ialk C (v := (cd.1 k)) k (nI_clamp (by omega)) (nI_pos (by omega)) (by omega) 11 k501 rfl dX12_comesTo_28 rfl ?_
          refine x_top hc ?_
          refine x_ldc C w_1340 dX12_comesTo_29 rfl ?_
          refine x_idiv C (v := 9) dX12_comesTo_31 (by decide) (divU (op := 9) (by omega) hvv) rfl ?_
          refine x_istore C (lv' := [(6, .int 9), (0, .ref (a 0)), (1, .int (nI fr)), (2, .int (nI to)), (3, .int (nI n)), (4, .int 0), (5, .int (nI k))]) dX12_comesTo_32 (by decide) rfl rfl ?_
          refine x_aload_n C dX12_comesTo_34 rfl 1 rfl rfl ?_
          refine x_get C (ci := 11) (k := 20) 0 k475 rfl in_X12 (by decide) w_1138 rfl dX12_comesTo_35 rfl ?_
          refine x_iload C dX12_comesTo_38 6 rfl rfl ?_
          refine x_ialk C (v := (cd.1 k)) k (nI_clamp (by omega)) (nI_pos (by omega)) (by omega) 11 k501 rfl dX12_comesTo_40 rfl ?_
          refine x_top hc ?_
          refine x_ldc C w_1340 dX12_comesTo_41 rfl ?_
          refine x_irem C (v := (nI vv)) dX12_comesTo_43 (by decide) (remU (op := 9) (by omega) hvv) rfl ?_
          refine x_istore C (lv' := [(7, .int (nI vv)), (6, .int 9), (0, .ref (a 0)), (1, .int (nI fr)), (2, .int (nI to)), (3, .int (nI n)), (4, .int 0), (5, .int (nI k))]) dX12_comesTo_44 (by decide) rfl rfl ?_
          refine x_iload C dX12_comesTo_46 7 rfl rfl ?_
          refine x_iconst C (v := 1) dX12_comesTo_48 (by decide) rfl ?_
          refine x_iadd C (v := (nI (k + 1))) dX12_comesTo_49 (nI_add k 1) rfl ?_
          refine x_istore C (lv' := [(5, .int (nI (k + 1))), (7, .int (nI vv)), (6, .int 9), (0, .ref (a 0)), (1, .int (nI fr)), (2, .int (nI to)), (3, .int (nI n)), (4, .int 0)]) dX12_comesTo_50 (by decide) rfl rfl ?_
          refine x_iload C dX12_comesTo_52 2 rfl rfl ?_
          refine x_if_eq C (tgt := 63) dX12_comesTo_54 (by decide) rfl (fun h => absurd h (by decide)) (fun _ => ?_)
          refine x_iload C dX12_comesTo_57 2 rfl rfl ?_
          refine x_iconst C (v := 1) dX12_comesTo_59 (by decide) rfl ?_
          refine x_icmp_ne C (tgt := 93) dX12_comesTo_60 (by decide) rfl (fun _ => ?_) (fun h => absurd h (by decide))
          refine x_iload C dX12_comesTo_93 2 rfl rfl ?_
          refine x_bipush C (v := 10) dX12_comesTo_95 (by decide) rfl ?_
          refine x_icmp_ne C (tgt := 121) dX12_comesTo_97 (by decide) rfl (fun _ => ?_) (fun h => absurd h (by decide))
          refine x_iload C dX12_comesTo_121 2 rfl rfl ?_
          refine x_bipush C (v := 11) dX12_comesTo_123 (by decide) rfl ?_
          refine x_icmp_eq C (tgt := 135) dX12_comesTo_125 (by decide) rfl (fun h => absurd h (by decide)) (fun _ => ?_)
          refine x_iload C dX12_comesTo_128 2 rfl rfl ?_
          refine x_bipush C (v := 12) dX12_comesTo_130 (by decide) rfl ?_
          refine x_icmp_ne C (tgt := 175) dX12_comesTo_132 (by decide) rfl (fun _ => ?_) (fun h => absurd h (by decide))
          refine x_iload_n C dX12_comesTo_175 rfl 6 rfl rfl ?_
          refine x_iconst C (v := 1) dX12_comesTo_176 (by decide) rfl ?_
          refine x_isub C (v := (nI (n - 1))) dX12_comesTo_177 (pk_sub (a := n) (b := 1) (by omega)) rfl ?_
          refine x_istore_n C (lv' := [(3, .int (nI (n - 1))), (5, .int (nI (k + 1))), (7, .int (nI vv)), (6, .int 9), (0, .ref (a 0)), (1, .int (nI fr)), (2, .int (nI to)), (4, .int 0)]) dX12_comesTo_178 rfl (by decide) rfl rfl ?_
          refine x_iload C dX12_comesTo_179 3 rfl rfl ?_
          refine x_iconst C (v := 5) dX12_comesTo_181 (by decide) rfl ?_
          refine x_icmp_eq C (tgt := 192) dX12_comesTo_182 (by decide) rfl (fun h => absurd h (by decide)) (fun _ => ?_)
          refine x_iload C dX12_comesTo_185 3 rfl rfl ?_
          refine x_bipush C (v := 6) dX12_comesTo_187 (by decide) rfl ?_
          refine x_icmp_ne C (tgt := 203) dX12_comesTo_189 (by decide) rfl (fun _ => ?_) (fun h => absurd h (by decide))
          refine x_aload_n C dX12_comesTo_203 rfl 4 rfl rfl ?_
          refine x_get C (ci := 11) (k := 25) 0 k475 rfl in_X12 (by decide) w_1143 rfl dX12_comesTo_204 rfl ?_
          refine x_iload_n C dX12_comesTo_207 rfl 0 rfl rfl ?_
          refine x_iconst C (v := 1) dX12_comesTo_208 (by decide) rfl ?_
          refine x_isub C (v := (nI ((n - 1) - 1))) dX12_comesTo_209 (pk_sub (a := (n - 1)) (b := 1) (by omega)) rfl ?_
          refine x_iload C dX12_comesTo_210 3 rfl rfl ?_
          refine x_aload_n C dX12_comesTo_212 rfl 4 rfl rfl ?_
          refine x_get C (ci := 11) (k := 25) 0 k475 rfl in_X12 (by decide) w_1143 rfl dX12_comesTo_213 rfl ?_
          refine x_iload_n C dX12_comesTo_216 rfl 0 rfl rfl ?_
          refine x_iconst C (v := 1) dX12_comesTo_217 (by decide) rfl ?_
          refine x_isub C (v := (nI ((n - 1) - 1))) dX12_comesTo_218 (pk_sub (a := (n - 1)) (b := 1) (by omega)) rfl ?_
          refine x_ialk C (v := (st ((n - 1) - 1))) ((n - 1) - 1) (nI_clamp (by omega)) (nI_pos (by omega)) (by omega) 16 k16 rfl dX12_comesTo_219 rfl ?_
          refine x_top hy ?_
          refine x_aload_n C dX12_comesTo_220 rfl 4 rfl rfl ?_
          refine x_get C (ci := 11) (k := 25) 0 k475 rfl in_X12 (by decide) w_1143 rfl dX12_comesTo_221 rfl ?_
          refine x_iload_n C dX12_comesTo_224 rfl 0 rfl rfl ?_
          refine x_ialk C (v := (st (n - 1))) (n - 1) (nI_clamp (by omega)) (nI_pos (by omega)) (by omega) 16 k16 rfl dX12_comesTo_225 rfl ?_
          refine x_top hx ?_
          refine x_si C (As := [.int 9, .int y, .int x]) (rest := [.int (nI ((n - 1) - 1)), .ref (a 16)]) (m_reckon9 E l a cd hG kf jn js jq wl16 hWl16 y x) mf_X12_reckon w_1471 rfl rfl (Nat.le_of_ble_eq_true rfl) ⟨(Nat.le_of_ble_eq_true rfl), (Nat.le_of_ble_eq_true rfl)⟩ ⟨(Nat.le_of_ble_eq_true rfl), (Nat.le_of_ble_eq_true rfl)⟩ dX12_comesTo_226 rfl (fun r503 w504 h502 => ?_)
          obtain ⟨hW505, x506⟩ := h502
          refine x_ws hW505 ?_
          obtain ⟨w507, hw508⟩ : ∃ w : va_W, w = List.set wl16 16 (iA E (a 16) 260 (upd st ((n - 1) - 1) r503)) := ⟨_, rfl⟩
          refine x_iask C ((n - 1) - 1) (nI_clamp (by omega)) (nI_pos (by omega)) (by omega) 16 k16 hw508.symm dX12_comesTo_229 rfl ?_
          have hW509 : WX (okM E a cd kf jn js jq) w507 := by rw [hw508]; exact hWl16.set (k := 16) rfl ⟨_, rfl⟩
          have k510 : w507[16]? = some (iA E (a 16) 260 (upd st ((n - 1) - 1) r503)) := by rw [hw508]; exact set_eq k16
          have k511 : w507[17]? = some (iA E (a 17) 11 fc) := by rw [hw508]; exact set_ne iv16_1 (by decide)
          have k512 : w507[0]? = some (ob (a 0) 11 [.ref (a 1), .ref (a 2), .ref (a 3), .ref (a 4), .int (nI n476), .int (nI n478), .int (nI n480), .int v482, .int v483, .int v484, .int (nI n485), .int (nI n487), .int (nI n489), .int (nI (cd.2.2.2.2.2)), .ref (a 5), .ref (a 6), .ref (a 7), .ref (a 8), .ref (a 9), .ref (a 10), .ref (a 11), .ref (a 12), .ref (a 13), .ref (a 14), .ref (a 15), .ref (a 16), .ref (a 17), .int (nI n491), .ref (a 18), .ref (a 19), .ref (a 20), .ref (a 21), .int v493, .int v494, .int v495, .int v496, .int (nI n497), .int (nI n499), .ref (a 22), .ref (a 23), .ref (a 24), .ref (a 25), .ref (a 26), .ref (a 27), .ref (a 28), .ref (a 29), .ref (a 30), .int kf]) := by rw [hw508]; exact set_ne k475 (by decide)
          have k513 : w507[11]? = some (iA E (a 11) 260 cd.1) := by rw [hw508]; exact set_ne k501 (by decide)
          have kp514 := keeps_set kq16 hw508 (by first | exact rfl | decide | omega | (dsimp only; omega))
          refine x_goto C (tgt := 16) dX12_comesTo_230 (by decide) ?_
          refine x_lv (lv1 := [(0, .ref (a 0)), (1, .int (nI fr)), (2, .int (nI to)), (3, .int (nI (n - 1))), (4, .int 0), (5, .int (nI (k + 1)))]) [4, 5, 6, 0, 7, 1] rfl ?_
          exact ih16 (n - 1) (k + 1) w507 hW509 (by omega) (by omega) k511 ⟨_, _, F, k510, sR_put hR2 (by omega), by omega, by omega, by rw [x506]; exact (if_neg (fun z => absurd z.1 (by decide))).symm.trans ((cE_two (by omega) hat (by decide) (by decide)).symm.trans hV)⟩ kp514
  refine x_lv (lv1 := [(0, .ref (a 0)), (1, .int (nI fr)), (2, .int (nI to)), (3, .int 0), (4, .int 0), (5, .int (nI fr))]) [3, 4, 5, 2, 1, 0] rfl ?_
  exact loop16 _ 0 fr ws hW (Nat.lt_succ_self _) (by omega) hfc ⟨_, [], 300, k1, rfl, h0.symm, by omega, rfl⟩ kp0
theorem dX12_byLaw_0 : decode cX12_byLaw 0 = .ok (.iconst 0, 1) := by decide +kernel
theorem dX12_byLaw_1 : decode cX12_byLaw 1 = .ok (.istore_n 3, 1) := by decide +kernel
theorem dX12_byLaw_2 : decode cX12_byLaw 2 = .ok (.iload_n 3, 1) := by decide +kernel
theorem dX12_byLaw_3 : decode cX12_byLaw 3 = .ok (.aload_n 0, 1) := by decide +kernel
theorem dX12_byLaw_4 : decode cX12_byLaw 4 = .ok (.getfield 223, 3) := by decide +kernel
theorem dX12_byLaw_7 : decode cX12_byLaw 7 = .ok (.if_icmp .ge 82, 3) := by decide +kernel
theorem dX12_byLaw_10 : decode cX12_byLaw 10 = .ok (.aload_n 0, 1) := by decide +kernel
theorem dX12_byLaw_11 : decode cX12_byLaw 11 = .ok (.getfield 44, 3) := by decide +kernel
theorem dX12_byLaw_14 : decode cX12_byLaw 14 = .ok (.iload_n 3, 1) := by decide +kernel
theorem dX12_byLaw_15 : decode cX12_byLaw 15 = .ok (.iaload, 1) := by decide +kernel
theorem dX12_byLaw_16 : decode cX12_byLaw 16 = .ok (.iload_n 1, 1) := by decide +kernel
theorem dX12_byLaw_17 : decode cX12_byLaw 17 = .ok (.if_icmp .ne 66, 3) := by decide +kernel
theorem dX12_byLaw_20 : decode cX12_byLaw 20 = .ok (.aload_n 0, 1) := by decide +kernel
theorem dX12_byLaw_21 : decode cX12_byLaw 21 = .ok (.aload_n 0, 1) := by decide +kernel
theorem dX12_byLaw_22 : decode cX12_byLaw 22 = .ok (.getfield 50, 3) := by decide +kernel
theorem dX12_byLaw_25 : decode cX12_byLaw 25 = .ok (.iload_n 3, 1) := by decide +kernel
theorem dX12_byLaw_26 : decode cX12_byLaw 26 = .ok (.iaload, 1) := by decide +kernel
theorem dX12_byLaw_27 : decode cX12_byLaw 27 = .ok (.aload_n 0, 1) := by decide +kernel
theorem dX12_byLaw_28 : decode cX12_byLaw 28 = .ok (.getfield 53, 3) := by decide +kernel
theorem dX12_byLaw_31 : decode cX12_byLaw 31 = .ok (.iload_n 3, 1) := by decide +kernel
theorem dX12_byLaw_32 : decode cX12_byLaw 32 = .ok (.iaload, 1) := by decide +kernel
theorem dX12_byLaw_33 : decode cX12_byLaw 33 = .ok (.invokevirtual 230, 3) := by decide +kernel
theorem dX12_byLaw_36 : decode cX12_byLaw 36 = .ok (.iconst 1, 1) := by decide +kernel
theorem dX12_byLaw_37 : decode cX12_byLaw 37 = .ok (.if_icmp .eq 6, 3) := by decide +kernel
theorem dX12_byLaw_40 : decode cX12_byLaw 40 = .ok (.goto 43, 3) := by decide +kernel
theorem dX12_byLaw_43 : decode cX12_byLaw 43 = .ok (.aload_n 0, 1) := by decide +kernel
theorem dX12_byLaw_44 : decode cX12_byLaw 44 = .ok (.aload_n 0, 1) := by decide +kernel
theorem dX12_byLaw_45 : decode cX12_byLaw 45 = .ok (.getfield 47, 3) := by decide +kernel
theorem dX12_byLaw_48 : decode cX12_byLaw 48 = .ok (.iload_n 3, 1) := by decide +kernel
theorem dX12_byLaw_49 : decode cX12_byLaw 49 = .ok (.iaload, 1) := by decide +kernel
theorem dX12_byLaw_50 : decode cX12_byLaw 50 = .ok (.aload_n 0, 1) := by decide +kernel
theorem dX12_byLaw_51 : decode cX12_byLaw 51 = .ok (.getfield 50, 3) := by decide +kernel
theorem dX12_byLaw_54 : decode cX12_byLaw 54 = .ok (.iload_n 3, 1) := by decide +kernel
theorem dX12_byLaw_55 : decode cX12_byLaw 55 = .ok (.iaload, 1) := by decide +kernel
theorem dX12_byLaw_56 : decode cX12_byLaw 56 = .ok (.invokevirtual 230, 3) := by decide +kernel
theorem dX12_byLaw_59 : decode cX12_byLaw 59 = .ok (.istore 4, 2) := by decide +kernel
theorem dX12_byLaw_61 : decode cX12_byLaw 61 = .ok (.iload 4, 2) := by decide +kernel
theorem dX12_byLaw_63 : decode cX12_byLaw 63 = .ok (.ifCond .ge 7, 3) := by decide +kernel
theorem dX12_byLaw_66 : decode cX12_byLaw 66 = .ok (.iconst 0, 1) := by decide +kernel
theorem dX12_byLaw_67 : decode cX12_byLaw 67 = .ok (.goto 15, 3) := by decide +kernel
theorem dX12_byLaw_70 : decode cX12_byLaw 70 = .ok (.iload 4, 2) := by decide +kernel
theorem dX12_byLaw_72 : decode cX12_byLaw 72 = .ok (.iload_n 2, 1) := by decide +kernel
theorem dX12_byLaw_73 : decode cX12_byLaw 73 = .ok (.if_icmp .le 7, 3) := by decide +kernel
theorem dX12_byLaw_76 : decode cX12_byLaw 76 = .ok (.iload_n 2, 1) := by decide +kernel
theorem dX12_byLaw_77 : decode cX12_byLaw 77 = .ok (.goto 5, 3) := by decide +kernel
theorem dX12_byLaw_80 : decode cX12_byLaw 80 = .ok (.iload 4, 2) := by decide +kernel
theorem dX12_byLaw_82 : decode cX12_byLaw 82 = .ok (.ireturn, 1) := by decide +kernel
theorem dX12_byLaw_83 : decode cX12_byLaw 83 = .ok (.iinc 3 1, 3) := by decide +kernel
theorem dX12_byLaw_86 : decode cX12_byLaw 86 = .ok (.goto (-84), 3) := by decide +kernel
theorem dX12_byLaw_89 : decode cX12_byLaw 89 = .ok (.iconst 0, 1) := by decide +kernel
theorem dX12_byLaw_90 : decode cX12_byLaw 90 = .ok (.ireturn, 1) := by decide +kernel
set_option maxRecDepth 20000 in
set_option maxHeartbeats 4000000 in
theorem m_byLaw (E : xE) (l : Launch) (a : Nat → Nat) (cd : Cd) (hG : Good cd) (kf : Int32) (jn js jq : Lb) (ws : va_W) (hW : WX (okM E a cd kf jn js jq) ws) (p0 : Int32) (hi0 : Nat) (hhi : hi0 ≤ 999) (fc : Nat → Int32) (hfc : ws[17]? = some (iA E (a 17) 11 fc)) : xI E l yX12_byLaw cX12_byLaw 5 (some .int) 2 [.ref (a 0), .int p0, .int (nI hi0)] ws (fun r w => WX (okM E a cd kf jn js jq) w ∧ keeps ws w (fun q => q = 16) ∧ (∃ rn : Nat, rn ≤ hi0 ∧ r = nI rn) ∧ (r = bL cd (clip fc) p0 (nI hi0) 17 0)) := by
  refine xI_start (lv := [(0, .ref (a 0)), (1, .int p0), (2, .int (nI hi0))]) RX12 (by decide) rfl (Nat.le_of_ble_eq_true rfl) rfl (fun p e s m below meth c A C hr hlk => ?_)
  have kp0 : keeps ws ws (fun q => q = 16) := keeps_rf
  have hc16 := hG.1
  refine x_iconst C (v := 0) dX12_byLaw_0 (by decide) rfl ?_
  refine x_istore_n C (lv' := [(3, .int 0), (0, .ref (a 0)), (1, .int p0), (2, .int (nI hi0))]) dX12_byLaw_1 rfl (by decide) rfl rfl ?_
  have loop2 : ∀ (fu2 : Nat) (q : Nat) (wl2 : va_W), WX (okM E a cd kf jn js jq) wl2 → 16 - q < fu2 → q ≤ 16 → wl2[17]? = some (iA E (a 17) 11 fc) → bL cd (clip fc) p0 (nI hi0) (17 - q) q = bL cd (clip fc) p0 (nI hi0) 17 0 → keeps ws wl2 (fun q => q = 16) → X E p l e (xRm 2 0 0) s m ([.ref (a 0), .int p0, .int (nI hi0)] : List Value).toArray below meth c A 5 0 0 (MQ below (va_Qi (fun r w => WX (okM E a cd kf jn js jq) w ∧ keeps ws w (fun q => q = 16) ∧ (∃ rn : Nat, rn ≤ hi0 ∧ r = nI rn) ∧ (r = bL cd (clip fc) p0 (nI hi0) 17 0)) (xB E A) A) ([.ref (a 0), .int p0, .int (nI hi0)] : List Value).toArray s 0 0 A) wl2 2 [(0, .ref (a 0)), (1, .int p0), (2, .int (nI hi0)), (3, .int (nI q))] [] := by
    intro fu2
    induction fu2 with
    | zero => intro q wl2 _ q; omega
    | succ fu2 ih2 =>
      intro q wl2 hWl2 me2 iv2_0 iv2_1 iv2_2 kq2
      refine x_iload_n C dX12_byLaw_2 rfl 3 rfl rfl ?_
      refine x_aload_n C dX12_byLaw_3 rfl 0 rfl rfl ?_
      obtain ⟨_, k1, n2, n4, n6, v8, v9, v10, n11, n13, n15, n17, v19, v20, v21, v22, n23, n25, bn3, bn5, bn7, bn12, bn14, bn16, bn18, bn24, bn26, rfl⟩ := hWl2 0 _ rfl
      refine x_get C (ci := 11) (k := 13) 0 k1 rfl in_X12 (by decide) w_1131 rfl dX12_byLaw_4 rfl ?_
      refine x_icmp_ge C (tgt := 89) dX12_byLaw_7 (by decide) rfl (fun c27 => ?_) (fun c27 => ?_)
      · skip
        have nf28 := nI_le' (a := (cd.2.2.2.2.2)) (b := q) c27 (by omega) (by omega)
        refine x_iconst C (v := 0) dX12_byLaw_89 (by decide) rfl ?_
        exact x_zret C hr hlk rfl dX12_byLaw_90 ⟨hWl2, kq2, ⟨0, by omega, rfl⟩, (by obtain ⟨F, hF17⟩ : ∃ F0, 17 - q = F0 + 1 := ⟨16 - q, by omega⟩; rw [hF17] at iv2_2; exact (bL_end (by omega)).symm.trans iv2_2)⟩
      · skip
        have nf29 := nI_nle' (a := (cd.2.2.2.2.2)) (b := q) c27 (by omega) (by omega)
        obtain ⟨fr, half, to, e1, e2, e3, s1, s2⟩ := hG.2 q (by omega)
        have l1 := cSeg_lt s1
        have l2 := cSeg_lt s2
        obtain ⟨F, hF17⟩ : ∃ F0, 17 - q = F0 + 1 := ⟨16 - q, by omega⟩
        rw [hF17] at iv2_2
        refine x_aload_n C dX12_byLaw_10 rfl 0 rfl rfl ?_
        refine x_get C (ci := 11) (k := 21) 0 k1 rfl in_X12 (by decide) w_1139 rfl dX12_byLaw_11 rfl ?_
        refine x_iload_n C dX12_byLaw_14 rfl 3 rfl rfl ?_
        obtain ⟨_, k30, rfl⟩ := hWl2 12 _ rfl
        refine x_ialk C (v := (cd.2.1 q)) q (nI_clamp (by omega)) (nI_pos (by omega)) (by omega) 12 k30 rfl dX12_byLaw_15 rfl ?_
        refine x_iload_n C dX12_byLaw_16 rfl 1 rfl rfl ?_
        refine x_icmp_ne C (tgt := 83) dX12_byLaw_17 (by decide) rfl (fun c31 => ?_) (fun c31 => ?_)
        · skip
          refine x_iinc C (v := (nI (q + 1))) (lv' := [(3, .int (nI (q + 1))), (0, .ref (a 0)), (1, .int p0), (2, .int (nI hi0))]) dX12_byLaw_83 3 rfl (nI_add q 1) (by decide) rfl rfl ?_
          refine x_goto C (tgt := 2) dX12_byLaw_86 (by decide) ?_
          refine x_lv (lv1 := [(0, .ref (a 0)), (1, .int p0), (2, .int (nI hi0)), (3, .int (nI (q + 1)))]) [1, 2, 3, 0] rfl ?_
          exact ih2 (q + 1) wl2 hWl2 (by omega) (by omega) iv2_1 (by rw [show 17 - (q + 1) = F from by omega]; exact (bL_skip (by omega) c31).symm.trans iv2_2) kq2
        · skip
          refine x_aload_n C dX12_byLaw_20 rfl 0 rfl rfl ?_
          refine x_aload_n C dX12_byLaw_21 rfl 0 rfl rfl ?_
          refine x_get C (ci := 11) (k := 23) 0 k1 rfl in_X12 (by decide) w_1141 rfl dX12_byLaw_22 rfl ?_
          refine x_iload_n C dX12_byLaw_25 rfl 3 rfl rfl ?_
          obtain ⟨_, k32, rfl⟩ := hWl2 14 _ rfl
          refine x_ialk C (v := (cd.2.2.2.1 q)) q (nI_clamp (by omega)) (nI_pos (by omega)) (by omega) 14 k32 rfl dX12_byLaw_26 rfl ?_
          refine x_top e2 ?_
          refine x_aload_n C dX12_byLaw_27 rfl 0 rfl rfl ?_
          refine x_get C (ci := 11) (k := 24) 0 k1 rfl in_X12 (by decide) w_1142 rfl dX12_byLaw_28 rfl ?_
          refine x_iload_n C dX12_byLaw_31 rfl 3 rfl rfl ?_
          obtain ⟨_, k33, rfl⟩ := hWl2 15 _ rfl
          refine x_ialk C (v := (cd.2.2.2.2.1 q)) q (nI_clamp (by omega)) (nI_pos (by omega)) (by omega) 15 k33 rfl dX12_byLaw_32 rfl ?_
          refine x_top e3 ?_
          refine x_vi C (As := [.int (nI half), .int (nI to)]) (rest := []) (m_comesTo E l a cd hG kf jn js jq wl2 hWl2 half to s2 fc iv2_1) mf_X12_comesTo w_1467 0 k1 rfl rfl rfl (Nat.le_of_ble_eq_true rfl) ⟨(Nat.le_of_ble_eq_true rfl), (Nat.le_of_ble_eq_true rfl)⟩ ⟨(Nat.le_of_ble_eq_true rfl), (Nat.le_of_ble_eq_true rfl)⟩ dX12_byLaw_33 rfl (fun r35 w36 h34 => ?_)
          obtain ⟨hW37, kq38, x39⟩ := h34
          have k40 : w36[17]? = some (iA E (a 17) 11 fc) := keeps_at kq38 iv2_1 (by first | decide | omega | (dsimp only; omega))
          have k41 : w36[0]? = some (ob (a 0) 11 [.ref (a 1), .ref (a 2), .ref (a 3), .ref (a 4), .int (nI n2), .int (nI n4), .int (nI n6), .int v8, .int v9, .int v10, .int (nI n11), .int (nI n13), .int (nI n15), .int (nI (cd.2.2.2.2.2)), .ref (a 5), .ref (a 6), .ref (a 7), .ref (a 8), .ref (a 9), .ref (a 10), .ref (a 11), .ref (a 12), .ref (a 13), .ref (a 14), .ref (a 15), .ref (a 16), .ref (a 17), .int (nI n17), .ref (a 18), .ref (a 19), .ref (a 20), .ref (a 21), .int v19, .int v20, .int v21, .int v22, .int (nI n23), .int (nI n25), .ref (a 22), .ref (a 23), .ref (a 24), .ref (a 25), .ref (a 26), .ref (a 27), .ref (a 28), .ref (a 29), .ref (a 30), .int kf]) := keeps_at kq38 k1 (by first | decide | omega | (dsimp only; omega))
          have k42 : w36[12]? = some (iA E (a 12) 16 cd.2.1) := keeps_at kq38 k30 (by first | decide | omega | (dsimp only; omega))
          have k43 : w36[14]? = some (iA E (a 14) 16 cd.2.2.2.1) := keeps_at kq38 k32 (by first | decide | omega | (dsimp only; omega))
          have k44 : w36[15]? = some (iA E (a 15) 16 cd.2.2.2.2.1) := keeps_at kq38 k33 (by first | decide | omega | (dsimp only; omega))
          have kp45 := keeps_tr kq2 kq38 (fun q hq => by first | omega | (dsimp only at *; omega))
          refine x_iconst C (v := 1) dX12_byLaw_36 (by decide) rfl ?_
          refine x_icmp_eq C (tgt := 43) dX12_byLaw_37 (by decide) rfl (fun c46 => ?_) (fun c46 => ?_)
          · skip
            refine x_aload_n C dX12_byLaw_43 rfl 0 rfl rfl ?_
            refine x_aload_n C dX12_byLaw_44 rfl 0 rfl rfl ?_
            refine x_get C (ci := 11) (k := 22) 0 k41 rfl in_X12 (by decide) w_1140 rfl dX12_byLaw_45 rfl ?_
            refine x_iload_n C dX12_byLaw_48 rfl 3 rfl rfl ?_
            obtain ⟨_, k47, rfl⟩ := hW37 13 _ rfl
            refine x_ialk C (v := (cd.2.2.1 q)) q (nI_clamp (by omega)) (nI_pos (by omega)) (by omega) 13 k47 rfl dX12_byLaw_49 rfl ?_
            refine x_top e1 ?_
            refine x_aload_n C dX12_byLaw_50 rfl 0 rfl rfl ?_
            refine x_get C (ci := 11) (k := 23) 0 k41 rfl in_X12 (by decide) w_1141 rfl dX12_byLaw_51 rfl ?_
            refine x_iload_n C dX12_byLaw_54 rfl 3 rfl rfl ?_
            refine x_ialk C (v := (cd.2.2.2.1 q)) q (nI_clamp (by omega)) (nI_pos (by omega)) (by omega) 14 k43 rfl dX12_byLaw_55 rfl ?_
            refine x_top e2 ?_
            refine x_vi C (As := [.int (nI fr), .int (nI half)]) (rest := []) (m_comesTo E l a cd hG kf jn js jq w36 hW37 fr half s1 fc k40) mf_X12_comesTo w_1467 0 k41 rfl rfl rfl (Nat.le_of_ble_eq_true rfl) ⟨(Nat.le_of_ble_eq_true rfl), (Nat.le_of_ble_eq_true rfl)⟩ ⟨(Nat.le_of_ble_eq_true rfl), (Nat.le_of_ble_eq_true rfl)⟩ dX12_byLaw_56 rfl (fun r49 w50 h48 => ?_)
            obtain ⟨hW51, kq52, x53⟩ := h48
            have k54 : w50[17]? = some (iA E (a 17) 11 fc) := keeps_at kq52 k40 (by first | decide | omega | (dsimp only; omega))
            have k55 : w50[0]? = some (ob (a 0) 11 [.ref (a 1), .ref (a 2), .ref (a 3), .ref (a 4), .int (nI n2), .int (nI n4), .int (nI n6), .int v8, .int v9, .int v10, .int (nI n11), .int (nI n13), .int (nI n15), .int (nI (cd.2.2.2.2.2)), .ref (a 5), .ref (a 6), .ref (a 7), .ref (a 8), .ref (a 9), .ref (a 10), .ref (a 11), .ref (a 12), .ref (a 13), .ref (a 14), .ref (a 15), .ref (a 16), .ref (a 17), .int (nI n17), .ref (a 18), .ref (a 19), .ref (a 20), .ref (a 21), .int v19, .int v20, .int v21, .int v22, .int (nI n23), .int (nI n25), .ref (a 22), .ref (a 23), .ref (a 24), .ref (a 25), .ref (a 26), .ref (a 27), .ref (a 28), .ref (a 29), .ref (a 30), .int kf]) := keeps_at kq52 k41 (by first | decide | omega | (dsimp only; omega))
            have k56 : w50[12]? = some (iA E (a 12) 16 cd.2.1) := keeps_at kq52 k42 (by first | decide | omega | (dsimp only; omega))
            have k57 : w50[14]? = some (iA E (a 14) 16 cd.2.2.2.1) := keeps_at kq52 k43 (by first | decide | omega | (dsimp only; omega))
            have k58 : w50[15]? = some (iA E (a 15) 16 cd.2.2.2.2.1) := keeps_at kq52 k44 (by first | decide | omega | (dsimp only; omega))
            have k59 : w50[13]? = some (iA E (a 13) 16 cd.2.2.1) := keeps_at kq52 k47 (by first | decide | omega | (dsimp only; omega))
            have kp60 := keeps_tr kp45 kq52 (fun q hq => by first | omega | (dsimp only at *; omega))
            refine x_istore C (lv' := [(4, .int r49), (0, .ref (a 0)), (1, .int p0), (2, .int (nI hi0)), (3, .int (nI q))]) dX12_byLaw_59 (by decide) rfl rfl ?_
            refine x_iload C dX12_byLaw_61 0 rfl rfl ?_
            refine x_if_ge C (tgt := 70) dX12_byLaw_63 (by decide) rfl (fun c61 => ?_) (fun c61 => ?_)
            · skip
              obtain ⟨j62, hj63, ej64⟩ := nI_of (Int32.not_lt.mpr c61)
              subst ej64
              refine x_iload C dX12_byLaw_70 0 rfl rfl ?_
              refine x_iload_n C dX12_byLaw_72 rfl 3 rfl rfl ?_
              refine x_icmp_le C (tgt := 80) dX12_byLaw_73 (by decide) rfl (fun c65 => ?_) (fun c65 => ?_)
              · skip
                have nf66 := nI_le' (a := j62) (b := hi0) c65 (by omega) (by omega)
                refine x_iload C dX12_byLaw_80 0 rfl rfl ?_
                exact x_zret C hr hlk rfl dX12_byLaw_82 ⟨hW51, kp60, ⟨j62, by omega, rfl⟩, ((if_neg (Int32.not_lt.mpr c65)).symm.trans ((if_neg (nI_pos (by omega))).symm.trans ((bL_take (by omega) c31 e1 e2 e3 (by omega) (by omega) (by omega) (x39.symm.trans c46) x53).symm.trans iv2_2)))⟩
              · skip
                have nf67 := nI_nle' (a := j62) (b := hi0) c65 (by omega) (by omega)
                refine x_iload_n C dX12_byLaw_76 rfl 3 rfl rfl ?_
                refine x_goto C (tgt := 82) dX12_byLaw_77 (by decide) ?_
                exact x_zret C hr hlk rfl dX12_byLaw_82 ⟨hW51, kp60, ⟨hi0, by omega, rfl⟩, ((if_pos (Int32.not_le.mp c65)).symm.trans ((if_neg (nI_pos (by omega))).symm.trans ((bL_take (by omega) c31 e1 e2 e3 (by omega) (by omega) (by omega) (x39.symm.trans c46) x53).symm.trans iv2_2)))⟩
            · skip
              refine x_iconst C (v := 0) dX12_byLaw_66 (by decide) rfl ?_
              refine x_goto C (tgt := 82) dX12_byLaw_67 (by decide) ?_
              exact x_zret C hr hlk rfl dX12_byLaw_82 ⟨hW51, kp60, ⟨0, by omega, rfl⟩, ((if_pos (Int32.not_le.mp c61)).symm.trans ((bL_take (by omega) c31 e1 e2 e3 (by omega) (by omega) (by omega) (x39.symm.trans c46) x53).symm.trans iv2_2))⟩
          · skip
            refine x_goto C (tgt := 83) dX12_byLaw_40 (by decide) ?_
            refine x_iinc C (v := (nI (q + 1))) (lv' := [(3, .int (nI (q + 1))), (0, .ref (a 0)), (1, .int p0), (2, .int (nI hi0))]) dX12_byLaw_83 3 rfl (nI_add q 1) (by decide) rfl rfl ?_
            refine x_goto C (tgt := 2) dX12_byLaw_86 (by decide) ?_
            refine x_lv (lv1 := [(0, .ref (a 0)), (1, .int p0), (2, .int (nI hi0)), (3, .int (nI (q + 1)))]) [1, 2, 3, 0] rfl ?_
            exact ih2 (q + 1) w36 hW37 (by omega) (by omega) k40 (by rw [show 17 - (q + 1) = F from by omega]; exact (bL_skip2 (by omega) e2 e3 (by omega) (by omega) (fun z => c46 (x39.trans z))).symm.trans iv2_2) kp45
  refine x_lv (lv1 := [(0, .ref (a 0)), (1, .int p0), (2, .int (nI hi0)), (3, .int 0)]) [1, 2, 3, 0] rfl ?_
  exact loop2 _ 0 ws hW (Nat.lt_succ_self _) (by omega) hfc rfl kp0

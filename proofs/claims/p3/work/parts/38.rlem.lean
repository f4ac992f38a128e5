/-! the reference's reader: what waits, and the code so far -/
abbrev WL : Type := List (Nat × Nat)
theorem divW {op v : Nat} (hop : op ≤ 14) (hv : v < 1048576) : nI (1048576 * op + v) / 1048576 = nI op := by
  have := nI_div (x := 1048576 * op + v) (d := 1048576) (by omega) (by omega)
  rw [show (1048576 * op + v) / 1048576 = op by omega] at this
  exact this
theorem remW {op v : Nat} (hop : op ≤ 14) (hv : v < 1048576) : nI (1048576 * op + v) - nI (1048576 * op + v) / 1048576 * 1048576 = nI v := by
  rw [divW hop hv]
  have e : nI op * 1048576 = nI (op * 1048576) := pk_mul op 1048576
  rw [e, pk_sub (by omega)]
  congr 1; omega
/-- waitsAt's first n places are W, the last one first -/
def wR (fw : Nat → Int32) : WL → Nat → Prop
  | [], n => n = 0
  | e :: W, n => 1 ≤ n ∧ fw (n - 1) = nI (1048576 * e.1 + e.2) ∧ e.1 ≤ 14 ∧ e.2 < 1048576 ∧ wR fw W (n - 1)
theorem wR_far {fw : Nat → Int32} {k : Nat} {v : Int32} : ∀ {W : WL} {n : Nat}, wR fw W n → n ≤ k → wR (upd fw k v) W n
  | [], _, h, _ => h
  | _ :: _, _, h, hn => ⟨h.1, by have := h.1; rw [pk_un (by omega)]; exact h.2.1, h.2.2.1, h.2.2.2.1, wR_far h.2.2.2.2 (by omega)⟩
theorem wR_push {fw : Nat → Int32} {W : WL} {n op pay : Nat} (h : wR fw W n) (h1 : op ≤ 14) (h2 : pay < 1048576) : wR (upd fw n (nI (1048576 * op + pay))) ((op, pay) :: W) (n + 1) :=
  ⟨by omega, by rw [Nat.add_sub_cancel, pk_us], h1, h2, by rw [Nat.add_sub_cancel]; exact wR_far h (Nat.le_refl _)⟩
theorem wR_len {fw : Nat → Int32} : ∀ {W : WL} {n : Nat}, wR fw W n → W.length = n
  | [], n, h => (show n = 0 from h).symm
  | _ :: W, n, h => by have := wR_len h.2.2.2.2; have := h.1; rw [List.length_cons]; omega
def wtop : WL → Int32
  | [] => -1
  | e :: _ => nI e.1
def wg1 (op : Nat) : Nat := if (2 ≤ op ∧ op ≤ 6) ∨ op = 10 then 1 else 0
/-- so many of those that wait will still be noted -/
def wgt : WL → Nat
  | [] => 0
  | e :: W => wg1 e.1 + wgt W
theorem wg1_1 {op : Nat} (h : 2 ≤ op ∧ op ≤ 6 ∨ op = 10) : wg1 op = 1 := if_pos h
theorem wg1_0 {op : Nat} (h : ¬ (2 ≤ op ∧ op ≤ 6 ∨ op = 10)) : wg1 op = 0 := if_neg h
def pd1 (op : Nat) : Nat := if 2 ≤ op ∧ op ≤ 6 then 1 else 0
def pend : WL → Nat
  | [] => 0
  | e :: W => pd1 e.1 + pend W
theorem pd1_1 {op : Nat} (h : 2 ≤ op ∧ op ≤ 6) : pd1 op = 1 := if_pos h
theorem pd1_0 {op : Nat} (h : ¬ (2 ≤ op ∧ op ≤ 6)) : pd1 op = 0 := if_neg h
theorem pend_len : ∀ {W : WL}, pend W ≤ W.length
  | [] => Nat.le_refl 0
  | e :: W => by
    have := pend_len (W := W)
    rw [pend, List.length_cons, pd1]; split <;> omega
theorem wgt_app (W1 : WL) : ∀ W2 : WL, wgt (W1 ++ W2) = wgt W1 + wgt W2 := by
  intro W2
  induction W1 with
  | nil => simp [wgt]
  | cons e W ih => rw [List.cons_append, wgt, wgt, ih]; omega
/-- signs of a sum, or [ -/
def sOps (W : WL) : Prop := ∀ e ∈ W, (2 ≤ e.1 ∧ e.1 ≤ 6) ∨ e.1 = 14
/-- no sign of a sum -/
def nOps (W : WL) : Prop := ∀ e ∈ W, 7 ≤ e.1
theorem sOps_nil : sOps [] := fun _ h => absurd h List.not_mem_nil
theorem nOps_nil : nOps [] := fun _ h => absurd h List.not_mem_nil
theorem sOps_cons {e : Nat × Nat} {W : WL} (h : (2 ≤ e.1 ∧ e.1 ≤ 6) ∨ e.1 = 14) (h2 : sOps W) : sOps (e :: W) := by
  intro z hz
  rcases List.mem_cons.mp hz with q | q
  · rw [q]; exact h
  · exact h2 z q
theorem sOps_hd {e : Nat × Nat} {W : WL} (h : sOps (e :: W)) : ((2 ≤ e.1 ∧ e.1 ≤ 6) ∨ e.1 = 14) ∧ sOps W := ⟨h e List.mem_cons_self, fun z hz => h z (List.mem_cons_of_mem _ hz)⟩
theorem nOps_cons {e : Nat × Nat} {W : WL} (h : 7 ≤ e.1) (h2 : nOps W) : nOps (e :: W) := by
  intro z hz
  rcases List.mem_cons.mp hz with q | q
  · rw [q]; exact h
  · exact h2 z q
theorem nOps_hd {e : Nat × Nat} {W : WL} (h : nOps (e :: W)) : 7 ≤ e.1 ∧ nOps W := ⟨h e List.mem_cons_self, fun z hz => h z (List.mem_cons_of_mem _ hz)⟩
/-- a jump stands here -/
def jAt (fs : Nat → Int32) (ht : Nat → Nat) (k : Nat) : Prop := (∃ op v : Nat, (op = 11 ∨ op = 12) ∧ cAt fs k op v) ∧ ht k = 1 ∧ ht (k + 1) = 0
def isJ (e : Nat × Nat) : Prop := e.1 = 11 ∨ e.1 = 12
/-- the code from c0 to c, with h values waiting at c; jumps that have not landed stand in W -/
def CI (fs : Nat → Int32) (c0 c h : Nat) (W : WL) : Prop := c0 ≤ c ∧ ∃ ht : Nat → Nat, ht c0 = 0 ∧ ht c = h ∧ (∀ k, ht k ≤ 259) ∧ (∀ e ∈ W, isJ e → c0 ≤ e.2 ∧ e.2 < c ∧ jAt fs ht e.2) ∧ ∀ k, c0 ≤ k → k < c → cOk fs c ht k ∨ (jAt fs ht k ∧ ∃ e ∈ W, isJ e ∧ e.2 = k)
theorem CI_start (fs : Nat → Int32) (c : Nat) : CI fs c c 0 [] := ⟨Nat.le_refl _, fun _ => 0, rfl, rfl, fun _ => Nat.zero_le _, fun e h => absurd h List.not_mem_nil, fun k h1 h2 => absurd h2 (by omega)⟩
theorem cAt_far {fs : Nat → Int32} {i k op v : Nat} {x : Int32} (h : cAt fs k op v) (hi : i ≠ k) : cAt (upd fs i x) k op v := ⟨h.1, h.2.1, by rw [pk_un (Ne.symm hi)]; exact h.2.2⟩
theorem jAt_far {fs : Nat → Int32} {ht ht' : Nat → Nat} {i k : Nat} {x : Int32} (h : jAt fs ht k) (hi : i ≠ k) (e1 : ht' k = ht k) (e2 : ht' (k + 1) = ht (k + 1)) : jAt (upd fs i x) ht' k := by
  obtain ⟨⟨op, v, ho, hc⟩, h1, h2⟩ := h
  exact ⟨⟨op, v, ho, cAt_far hc hi⟩, by rw [e1]; exact h1, by rw [e2]; exact h2⟩
theorem cOk_far {fs : Nat → Int32} {ht ht' : Nat → Nat} {i k c c' : Nat} {x : Int32} (h : cOk fs c ht k) (hk : k < c) (hi : i ≠ k) (hc : c ≤ c') (e : ∀ j, j ≤ c → ht' j = ht j) : cOk (upd fs i x) c' ht' k := by
  obtain ⟨op, v, hat, hcs⟩ := h
  have e1 := e k (by omega)
  have e2 := e (k + 1) (by omega)
  refine ⟨op, v, cAt_far hat hi, ?_⟩
  rw [e1, e2]
  rcases hcs with q | q | q | ⟨q1, q2, q3, q4, q5, q6⟩ | q
  · exact Or.inl q
  · exact Or.inr (Or.inl q)
  · exact Or.inr (Or.inr (Or.inl q))
  · exact Or.inr (Or.inr (Or.inr (Or.inl ⟨q1, q2, q3, q4, by omega, by rw [e v q5]; exact q6⟩)))
  · exact Or.inr (Or.inr (Or.inr (Or.inr q)))
/-- one more sign of the code -/
theorem CI_note {fs : Nat → Int32} {c0 c h h' op v : Nat} {W : WL} (H : CI fs c0 c h W) (ho : op ≤ 12) (hv : v < 1048576) (hb : h' ≤ 259)
    (hs : (op = 0 ∧ h' = h + 1) ∨ (op = 1 ∧ v ≤ 10 ∧ h' = h + 1) ∨ (op = 10 ∧ 1 ≤ h ∧ h' = h) ∨ (2 ≤ op ∧ op ≤ 9 ∧ 2 ≤ h ∧ h' + 1 = h)) : CI (upd fs c (nI (1048576 * op + v))) c0 (c + 1) h' W := by
  obtain ⟨hc, ht, e0, e1, hm, hj, hk⟩ := H
  have g1 : ∀ j, j ≤ c → updn ht (c + 1) h' j = ht j := fun j hj => by rw [updn, if_neg (by omega)]
  have g2 : updn ht (c + 1) h' (c + 1) = h' := by rw [updn, if_pos rfl]
  refine ⟨by omega, updn ht (c + 1) h', by rw [g1 _ hc]; exact e0, g2, ?_, ?_, ?_⟩
  · intro k; rw [updn]; split
    · exact hb
    · exact hm k
  · intro e he hi
    obtain ⟨q1, q2, q3⟩ := hj e he hi
    exact ⟨q1, by omega, jAt_far q3 (by omega) (g1 _ (by omega)) (g1 _ (by omega))⟩
  · intro k h1 h2
    by_cases q : k = c
    · subst q
      refine Or.inl ⟨op, v, ⟨ho, hv, by rw [pk_us]⟩, ?_⟩
      rw [g2, g1 _ (Nat.le_refl _), e1]
      rcases hs with q | q | q | q
      · exact Or.inl q
      · exact Or.inr (Or.inl q)
      · exact Or.inr (Or.inr (Or.inl q))
      · exact Or.inr (Or.inr (Or.inr (Or.inr q)))
    · rcases hk k h1 (by omega) with q2 | ⟨q2, q3⟩
      · exact Or.inl (cOk_far q2 (by omega) (by omega) (by omega) g1)
      · exact Or.inr ⟨jAt_far q2 (by omega) (g1 _ (by omega)) (g1 _ (by omega)), q3⟩
/-- a jump, which waits -/
theorem CI_jump {fs : Nat → Int32} {c0 c op : Nat} {W : WL} (H : CI fs c0 c 1 W) (ho : op = 11 ∨ op = 12) : CI (upd fs c (nI (1048576 * op + 0))) c0 (c + 1) 0 ((op, c) :: W) := by
  obtain ⟨hc, ht, e0, e1, hm, hj, hk⟩ := H
  have g1 : ∀ j, j ≤ c → updn ht (c + 1) 0 j = ht j := fun j hj => by rw [updn, if_neg (by omega)]
  have g2 : updn ht (c + 1) 0 (c + 1) = 0 := by rw [updn, if_pos rfl]
  have gj : jAt (upd fs c (nI (1048576 * op + 0))) (updn ht (c + 1) 0) c := ⟨⟨op, 0, ho, by omega, by omega, by rw [pk_us]⟩, by rw [g1 _ (Nat.le_refl _)]; exact e1, g2⟩
  refine ⟨by omega, updn ht (c + 1) 0, by rw [g1 _ hc]; exact e0, g2, ?_, ?_, ?_⟩
  · intro k; rw [updn]; split
    · omega
    · exact hm k
  · intro e he hi
    rcases List.mem_cons.mp he with q | q
    · rw [q]; exact ⟨hc, Nat.lt_succ_self _, gj⟩
    · obtain ⟨q1, q2, q3⟩ := hj e q hi
      exact ⟨q1, by omega, jAt_far q3 (by omega) (g1 _ (by omega)) (g1 _ (by omega))⟩
  · intro k h1 h2
    by_cases q : k = c
    · subst q; exact Or.inr ⟨gj, (op, k), List.mem_cons_self, ho, rfl⟩
    · rcases hk k h1 (by omega) with q2 | ⟨q2, e, q3, q4⟩
      · exact Or.inl (cOk_far q2 (by omega) (by omega) (by omega) g1)
      · exact Or.inr ⟨jAt_far q2 (by omega) (g1 _ (by omega)) (g1 _ (by omega)), e, List.mem_cons_of_mem _ q3, q4⟩
/-- what stands at a jump that waits -/
theorem CI_at {fs : Nat → Int32} {c0 c h : Nat} {e : Nat × Nat} {W : WL} (H : CI fs c0 c h (e :: W)) (hi : isJ e) : c0 ≤ e.2 ∧ e.2 < c ∧ ∃ op v : Nat, (op = 11 ∨ op = 12) ∧ cAt fs e.2 op v := by
  obtain ⟨hc, ht, e0, e1, hm, hj, hk⟩ := H
  obtain ⟨q1, q2, q3, -⟩ := hj e List.mem_cons_self hi
  exact ⟨q1, q2, q3⟩
/-- a jump lands here -/
theorem CI_land {fs : Nat → Int32} {c0 c op v : Nat} {e : Nat × Nat} {W : WL} (H : CI fs c0 c 1 (e :: W)) (hi : isJ e) (ho : op = 11 ∨ op = 12) (hat : cAt fs e.2 op v) (hcl : c < 1048576) : CI (upd fs e.2 (nI (1048576 * op + c))) c0 c 1 W := by
  obtain ⟨hc, ht, e0, e1, hm, hj, hk⟩ := H
  obtain ⟨p1, p2, p3⟩ := hj e List.mem_cons_self hi
  have hat' : cAt (upd fs e.2 (nI (1048576 * op + c))) e.2 op c := ⟨hat.1, hcl, by rw [pk_us]⟩
  refine ⟨hc, ht, e0, e1, hm, ?_, ?_⟩
  · intro z hz hi2
    obtain ⟨q1, q2, q3⟩ := hj z (List.mem_cons_of_mem _ hz) hi2
    refine ⟨q1, q2, ?_⟩
    by_cases q : z.2 = e.2
    · rw [q] at q3 ⊢; exact ⟨⟨op, c, ho, hat'⟩, q3.2⟩
    · exact jAt_far q3 (Ne.symm q) rfl rfl
  · intro k h1 h2
    by_cases q : k = e.2
    · subst q
      refine Or.inl ⟨op, c, hat', Or.inr (Or.inr (Or.inr (Or.inl ⟨ho, ?_, ?_, p2, Nat.le_refl _, ?_⟩)))⟩
      · rw [p3.2.1]; exact Nat.le_refl _
      · rw [p3.2.1, p3.2.2]
      · rw [e1, p3.2.1]
    · rcases hk k h1 h2 with q2 | ⟨q2, z, q3, q4, q5⟩
      · exact Or.inl (cOk_far q2 h2 (Ne.symm q) (Nat.le_refl _) (fun _ _ => rfl))
      · rcases List.mem_cons.mp q3 with q6 | q6
        · exact absurd (q5.symm.trans (by rw [q6])) q
        · exact Or.inr ⟨jAt_far q2 (Ne.symm q) rfl rfl, z, q6, q4, q5⟩
theorem CI_pop {fs : Nat → Int32} {c0 c h : Nat} {e : Nat × Nat} {W : WL} (H : CI fs c0 c h (e :: W)) (hi : ¬ isJ e) : CI fs c0 c h W := by
  obtain ⟨hc, ht, e0, e1, hm, hj, hk⟩ := H
  refine ⟨hc, ht, e0, e1, hm, fun z hz => hj z (List.mem_cons_of_mem _ hz), fun k h1 h2 => ?_⟩
  rcases hk k h1 h2 with q2 | ⟨q2, z, q3, q4, q5⟩
  · exact Or.inl q2
  · rcases List.mem_cons.mp q3 with q6 | q6
    · exact absurd (q6 ▸ q4) hi
    · exact Or.inr ⟨q2, z, q6, q4, q5⟩
theorem CI_push {fs : Nat → Int32} {c0 c h : Nat} {e : Nat × Nat} {W : WL} (H : CI fs c0 c h W) (hi : ¬ isJ e) : CI fs c0 c h (e :: W) := by
  obtain ⟨hc, ht, e0, e1, hm, hj, hk⟩ := H
  refine ⟨hc, ht, e0, e1, hm, ?_, fun k h1 h2 => ?_⟩
  · intro z hz hz2
    rcases List.mem_cons.mp hz with q | q
    · exact absurd (q ▸ hz2) hi
    · exact hj z q hz2
  · rcases hk k h1 h2 with q2 | ⟨q2, z, q3, q4⟩
    · exact Or.inl q2
    · exact Or.inr ⟨q2, z, List.mem_cons_of_mem _ q3, q4⟩
theorem CI_le {fs : Nat → Int32} {c0 c h : Nat} {W : WL} (H : CI fs c0 c h W) : c0 ≤ c := H.1
/-- code that is read whole -/
theorem CI_seg {fs : Nat → Int32} {c0 c : Nat} (H : CI fs c0 c 1 []) (hc : c ≤ 260) : cSeg fs c0 c := by
  obtain ⟨h0, ht, e0, e1, hm, hj, hk⟩ := H
  refine ⟨h0, hc, ht, e0, e1, hm, fun k h1 h2 => ?_⟩
  rcases hk k h1 h2 with q | ⟨-, z, q, -⟩
  · exact q
  · exact absurd q List.not_mem_nil
theorem cSeg_congr {f g : Nat → Int32} {fr to : Nat} (H : cSeg f fr to) (h : ∀ k, k < to → g k = f k) : cSeg g fr to := by
  obtain ⟨h1, h2, ht, e0, e1, hm, hk⟩ := H
  refine ⟨h1, h2, ht, e0, e1, hm, fun k k1 k2 => ?_⟩
  obtain ⟨op, v, ⟨a1, a2, a3⟩, hcs⟩ := hk k k1 k2
  exact ⟨op, v, ⟨a1, a2, by rw [h k k2]; exact a3⟩, hcs⟩
theorem CI_congr {f g : Nat → Int32} {c0 c h : Nat} {W : WL} (H : CI f c0 c h W) (e : g = f) : CI g c0 c h W := by rw [e]; exact H
theorem wR_app_nil {W0 : WL} : ([] : WL) ++ W0 = W0 := rfl
/-- the bottom of what waits in a condition -/
def bot (W : WL) : Prop := ∃ W1 : WL, W = W1 ++ [(13, 0)]
theorem bot_ne {W : WL} (h : bot W) : 1 ≤ W.length := by
  obtain ⟨W1, rfl⟩ := h
  rw [List.length_append]; simp
theorem bot_push {e : Nat × Nat} {W : WL} (h : bot W) : bot (e :: W) := by
  obtain ⟨W1, rfl⟩ := h
  exact ⟨e :: W1, rfl⟩
theorem bot_pop {e : Nat × Nat} {W : WL} (h : bot (e :: W)) (hW : 1 ≤ W.length) : bot W := by
  obtain ⟨W1, h⟩ := h
  cases W1 with
  | nil =>
    simp at h
    rw [h.2] at hW
    simp at hW
  | cons z W1 =>
    simp at h
    exact ⟨W1, h.2⟩
theorem bot_hd {e : Nat × Nat} {W : WL} (h : bot (e :: W)) (he : e.1 ≠ 13) : bot W := by
  obtain ⟨W1, h⟩ := h
  cases W1 with
  | nil =>
    simp at h
    exact absurd (by rw [h.1]) he
  | cons z W1 =>
    simp at h
    exact ⟨W1, h.2⟩
/-- signs 10 to 13 -/
def cOps (W : WL) : Prop := ∀ e ∈ W, 10 ≤ e.1 ∧ e.1 ≤ 13
theorem cOps_n {W : WL} (h : cOps W) : nOps W := fun e he => by have := h e he; omega
theorem cOps_cons {e : Nat × Nat} {W : WL} (h : 10 ≤ e.1 ∧ e.1 ≤ 13) (h2 : cOps W) : cOps (e :: W) := by
  intro z hz
  rcases List.mem_cons.mp hz with q | q
  · rw [q]; exact h
  · exact h2 z q
theorem cOps_hd {e : Nat × Nat} {W : WL} (h : cOps (e :: W)) : (10 ≤ e.1 ∧ e.1 ≤ 13) ∧ cOps W := ⟨h e List.mem_cons_self, fun z hz => h z (List.mem_cons_of_mem _ hz)⟩
theorem wR_at {fw : Nat → Int32} {W0 : WL} {base : Nat} (h0 : W0.length = base) : ∀ {Ws : WL} {n : Nat}, wR fw (Ws ++ W0) n → (∀ k, base ≤ k → k < n → ∃ e ∈ Ws, fw k = nI (1048576 * e.1 + e.2) ∧ e.1 ≤ 14 ∧ e.2 < 1048576) ∧ ∀ e ∈ Ws, e.1 ≤ 14 ∧ e.2 < 1048576 ∧ ∃ k, base ≤ k ∧ k < n ∧ fw k = nI (1048576 * e.1 + e.2)
  | [], n, h => by
    have := wR_len h
    rw [List.nil_append] at this
    exact ⟨fun k h1 h2 => absurd h2 (by omega), fun e he => absurd he List.not_mem_nil⟩
  | e :: Ws, n, h => by
    obtain ⟨h1, h2, h3, h4, h5⟩ := h
    have h6 : wR fw (Ws ++ W0) (n - 1) := h5
    have hl := wR_len h6
    rw [List.length_append] at hl
    obtain ⟨i1, i2⟩ := wR_at h0 h6
    refine ⟨fun k k1 k2 => ?_, fun z hz => ?_⟩
    · by_cases q : k = n - 1
      · subst q; exact ⟨e, List.mem_cons_self, h2, h3, h4⟩
      · obtain ⟨z, z1, z2⟩ := i1 k k1 (by omega)
        exact ⟨z, List.mem_cons_of_mem _ z1, z2⟩
    · rcases List.mem_cons.mp hz with q | q
      · subst q; exact ⟨h3, h4, n - 1, by omega, by omega, h2⟩
      · obtain ⟨b1, b2, k, k1, k2, k3⟩ := i2 z q
        exact ⟨b1, b2, k, k1, by omega, k3⟩
theorem wtop_nil {fw : Nat → Int32} {W : WL} {n : Nat} (h : wR fw W n) (h0 : n = 0) : wtop W = -1 := by
  cases W with
  | nil => rfl
  | cons e W => exact absurd h.1 (by omega)
theorem wtop_cons {fw : Nat → Int32} {W : WL} {n : Nat} (h : wR fw W n) (h0 : 1 ≤ n) : ∃ op pay : Nat, fw (n - 1) = nI (1048576 * op + pay) ∧ op ≤ 14 ∧ pay < 1048576 ∧ nI op = wtop W := by
  cases W with
  | nil => exact absurd (show n = 0 from h) (by omega)
  | cons e W => exact ⟨e.1, e.2, h.2.1, h.2.2.1, h.2.2.2.1, rfl⟩
theorem pend14 : ∀ {W : WL}, (∀ e ∈ W, e.1 = 14) → pend W = 0 ∧ wgt W = 0 ∧ sOps W
  | [], _ => ⟨rfl, rfl, sOps_nil⟩
  | e :: W, h => by
    have h1 := h e List.mem_cons_self
    obtain ⟨a1, a2, a3⟩ := pend14 (W := W) (fun z hz => h z (List.mem_cons_of_mem _ hz))
    refine ⟨by rw [pend, a1, pd1_0 (by omega)], by rw [wgt, a2, wg1_0 (by omega)], sOps_cons (Or.inr h1) a3⟩
theorem pend_app (W1 : WL) : ∀ W2 : WL, pend (W1 ++ W2) = pend W1 + pend W2 := by
  intro W2
  induction W1 with
  | nil => simp [pend]
  | cons e W ih => rw [List.cons_append, pend, pend, ih]; omega
theorem sOps_app {W1 W2 : WL} (h1 : sOps W1) (h2 : sOps W2) : sOps (W1 ++ W2) := by
  intro z hz
  rcases List.mem_append.mp hz with q | q
  · exact h1 z q
  · exact h2 z q
theorem ag_upd {f g : Nat → Int32} {c0 i : Nat} {x : Int32} (h : ∀ k, k < c0 → g k = f k) (hi : c0 ≤ i) : ∀ k, k < c0 → upd g i x k = f k := fun k hk => by rw [pk_un (by omega)]; exact h k hk
theorem wtop_n {W : WL} (h : nOps W) : wtop W = -1 ∨ ∃ op : Nat, 7 ≤ op ∧ wtop W = nI op := by
  cases W with
  | nil => exact Or.inl rfl
  | cons e W => exact Or.inr ⟨e.1, (nOps_hd h).1, rfl⟩
theorem app_one {Wd W1 : WL} {e : Nat × Nat} : Wd ++ e :: W1 = (Wd ++ [e]) ++ W1 := by simp
theorem d6_app {Wd : WL} {e : Nat × Nat} (h : ∀ z ∈ Wd, z.1 ≤ 6) (he : e.1 ≤ 6) : ∀ z ∈ Wd ++ [e], z.1 ≤ 6 := by
  intro z hz
  rcases List.mem_append.mp hz with q | q
  · exact h z q
  · rw [List.mem_singleton.mp q]; exact he
theorem hv_nd1 {x : Int32} (h : x < 48) : ∀ d : Nat, d ≤ 9 → ¬ x = nI (48 + d) := by
  intro d hd e
  subst e
  have := nI_lt' (a := 48 + d) (b := 48) h (by omega) (by omega)
  omega
theorem hv_nd2 {x : Int32} (h : 57 < x) : ∀ d : Nat, d ≤ 9 → ¬ x = nI (48 + d) := by
  intro d hd e
  subst e
  have := nI_lt' (a := 57) (b := 48 + d) h (by omega) (by omega)
  omega
def RS (E : xE) (a : Nat → Nat) (cd : Cd) (kf : Int32) (w : va_W) (tp pl le cm wt sm lm : Nat) (fs fw : Nat → Int32) : Prop := (∃ nu : Int32, MO a cd kf w tp pl le cm wt sm lm nu) ∧ w[5]? = some (iA E (a 5) 260 fs) ∧ w[6]? = some (iA E (a 6) 260 fw)
/-- a text that fails: nothing else is known -/
def RF (E : xE) (a : Nat → Nat) (cd : Cd) (kf : Int32) (w : va_W) (tp le sm lm : Nat) : Prop := ∃ (pl cm wt : Nat) (fs fw : Nat → Int32), RS E a cd kf w tp pl le cm wt sm lm fs fw

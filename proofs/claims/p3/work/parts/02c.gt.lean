/-! the good words of the tables -/
def gT : List Cond := lw_tbl.filter goodWord
theorem gT_in {w : Cond} (i : Nat) (h : tables_1[i]? = some w) (hg : goodWord w = true) : w ∈ gT := List.mem_filter.mpr ⟨List.mem_append_right _ (List.mem_of_getElem? h), hg⟩
theorem gT_sel {q : MethodName × Nat} (i : Nat) (h : lw_privs[i]? = some q) : Cond.selects q.1.cls q.1 q.1 ∈ gT := List.mem_filter.mpr ⟨List.mem_append_left _ (List.mem_map.mpr ⟨q, List.mem_of_getElem? h, rfl⟩), rfl⟩
theorem gT_cons {w : Cond} (h : w ∈ gT) : GoodIn gT (w :: gT) := by
  intro v hv
  have h1 : v ∈ gT := by
    rcases List.mem_cons.mp hv with e | e
    · rw [e]; exact h
    · exact e
  exact ⟨h1, good_of_word (List.mem_filter.mp h1).2⟩
theorem gT_app {ws : List Cond} (pre : List Cond) (hp : ∀ w ∈ pre, w ∈ gT) (h : GoodIn gT ws) : GoodIn gT (pre ++ ws) := by
  intro v hv
  rcases List.mem_append.mp hv with e | e
  · exact ⟨hp v e, good_of_word (List.mem_filter.mp (hp v e)).2⟩
  · exact h v e

/-! The tables' words that hold at every state of the run, by their places in the Statement's list. -/
def xj_ws : List Cond := lw_tbl.filter goodWord
theorem xj_ws_good : ∀ w ∈ xj_ws, (w.onTables && w.keeps) = true ∨ ∃ ty, w = .arrayClass ty := fun _ hw => good_of_word (List.mem_filter.mp hw).2
def xj_ne : Cond → Bool
  | .fieldLinkNest .. => true
  | .methodLinkNest .. => true
  | _ => false
def xj_nw : List Cond := tables_1.filter xj_ne
theorem xj_nw_nest : ∀ w ∈ xj_nw, (∃ a i b n d h, w = .fieldLinkNest a i b n d h) ∨ ∃ a i x h, w = .methodLinkNest a i x h := by
  intro w hw
  have h := (List.mem_filter.mp hw).2
  cases w <;> simp [xj_ne] at h
  · exact Or.inr ⟨_, _, _, _, rfl⟩
  · exact Or.inl ⟨_, _, _, _, _, _, rfl⟩
theorem xm_t {w : Cond} (i : Nat) (h : tables_1[i]? = some w) (hg : goodWord w = true) : w ∈ xj_ws := List.mem_filter.mpr ⟨List.mem_append_right _ (List.mem_of_getElem? h), hg⟩
theorem xm_p {q : MethodName × Nat} (i : Nat) (h : lw_privs[i]? = some q) : Cond.selects q.1.cls q.1 q.1 ∈ xj_ws := List.mem_filter.mpr ⟨List.mem_append_left _ (List.mem_map.mpr ⟨q, List.mem_of_getElem? h, rfl⟩), rfl⟩
theorem xm_n {w : Cond} (i : Nat) (h : tables_1[i]? = some w) (hg : xj_ne w = true) : w ∈ xj_nw := List.mem_filter.mpr ⟨List.mem_of_getElem? h, hg⟩

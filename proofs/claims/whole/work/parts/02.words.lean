/-! The tables' words that hold at every state of the run, by their places in the Statement's list. -/
def xj_gd : Cond → Bool
  | .castable .. => true
  | .declares _ => true
  | w => goodWord w
def xj_ws : List Cond := lw_tbl.filter xj_gd
theorem xj_gd_or {w : Cond} (h : xj_gd w = true) : goodWord w = true ∨ (∃ a b, w = .castable a b) ∨ ∃ x, w = .declares x := by
  cases w <;> first | exact Or.inr (Or.inl ⟨_, _, rfl⟩) | exact Or.inr (Or.inr ⟨_, rfl⟩) | exact Or.inl h
theorem xj_ws_good : ∀ w ∈ xj_ws, goodWord w = true ∨ (∃ a b, w = .castable a b) ∨ ∃ x, w = .declares x := fun _ hw => xj_gd_or (List.mem_filter.mp hw).2
theorem xj_cast {a b : String} {args a' : Array Value} {s U : State} (hal : s.vm.Alike U.vm) (h : (Cond.castable a b).before args s = true) : (Cond.castable a b).before a' U = true := by
  obtain ⟨c, t, h1, h2, h3⟩ := Cond.castable_spec h
  have e1 : U.vm.findClass a = some c := by rw [hal.findClass]; exact h1
  have e2 : U.vm.findClass b = some t := by rw [hal.findClass]; exact h2
  have e3 : U.vm.assignable c t = true := by rw [hal.assignable]; exact h3
  simp [Cond.before, Cond.holds, Cond.value, e1, e2, e3]
def xj_ne : Cond → Bool
  | .fieldLinkNest .. => true
  | .methodLinkNest .. => true
  | _ => false
def xj_nw : List Cond := tables_1.filter xj_ne
theorem xj_nw_nest : ∀ w ∈ xj_nw, (∃ a i b n d h, w = .fieldLinkNest a i b n d h) ∨ ∃ a i x h, w = .methodLinkNest a i x h := by
  intro w hw
  have h := (List.mem_filter.mp hw).2
  cases w <;> simp [xj_ne] at h
  · exact Or.inr ⟨_, _, _, _, rfl⟩
  · exact Or.inl ⟨_, _, _, _, _, _, rfl⟩
theorem xm_t {w : Cond} (i : Nat) (h : tables_1[i]? = some w) (hg : xj_gd w = true) : w ∈ xj_ws := List.mem_filter.mpr ⟨List.mem_append_right _ (List.mem_of_getElem? h), hg⟩
theorem xm_p {q : MethodName × Nat} (i : Nat) (h : lw_privs[i]? = some q) : Cond.selects q.1.cls q.1 q.1 ∈ xj_ws := List.mem_filter.mpr ⟨List.mem_append_left _ (List.mem_map.mpr ⟨q, List.mem_of_getElem? h, rfl⟩), rfl⟩
theorem xm_n {w : Cond} (i : Nat) (h : tables_1[i]? = some w) (hg : xj_ne w = true) : w ∈ xj_nw := List.mem_filter.mpr ⟨List.mem_of_getElem? h, hg⟩

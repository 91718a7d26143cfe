/-! Rows of days as lists; a day is left out. -/
def xu_h (d : Nat → Int) (l : List Int) : Prop := ∀ i x, l[i]? = some x → d i = x
theorem xu_hm {d : Nat → Int} {l : List Int} (h : xu_h d l) {i : Nat} (hi : i < l.length) : d i ∈ l := by
  have := h i l[i] (List.getElem?_eq_getElem hi)
  rw [this]; exact List.getElem_mem hi
theorem xu_mh {d : Nat → Int} {l : List Int} (h : xu_h d l) {x : Int} (hx : x ∈ l) : ∃ i, i < l.length ∧ d i = x := by
  obtain ⟨i, i1, i2⟩ := List.mem_iff_getElem.mp hx
  exact ⟨i, i1, h i x (by rw [List.getElem?_eq_getElem i1, i2])⟩
theorem xu_er {y : Int} : ∀ {l : List Int} {i : Nat}, l.Pairwise (· < ·) → l[i]? = some y → l.eraseIdx i = l.filter (fun d => d != y)
  | [], i, _, h => by simp at h
  | a :: r, 0, hp, h => by
    have h1 : a = y := by simpa using h
    subst h1
    have h2 := List.pairwise_cons.mp hp
    rw [List.eraseIdx_cons_zero, List.filter_cons_of_neg (by simp)]
    symm
    rw [List.filter_eq_self]
    intro b hb
    have := h2.1 b hb
    simp only [bne_iff_ne, ne_eq]
    omega
  | a :: r, i + 1, hp, h => by
    have h2 := List.pairwise_cons.mp hp
    have h3 : r[i]? = some y := by simpa using h
    have h4 := h2.1 y (List.mem_of_getElem? h3)
    rw [List.eraseIdx_cons_succ, List.filter_cons_of_pos (by simp only [bne_iff_ne, ne_eq]; omega), xu_er h2.2 h3]
theorem xu_loF {o : Nat} {n x mi le y : Int} {d st : Nat → Int} {A : xj_H} (n1 : n ≤ 200) (y1 : -2147483648 ≤ y) (y2 : y ≤ 2147483647) (hd : ∀ j : Nat, (j : Int) < n → 0 ≤ d j ∧ d j ≤ 36524) (hE : xu_E A o n x mi le d st) :
    ∀ (q : Nat) (i : Int), 0 ≤ i → i ≤ n → (n - i).toNat < q → (∀ j : Nat, (j : Int) < i → d j ≠ y) → ∃ k : Int, fE_leaveOut_2 q (xj_o o) (xI y) (xI i) A = fE_leaveOut_26 (xj_o o) (xI k) A ∧ 0 ≤ k ∧ k ≤ n ∧ (∀ j : Nat, (j : Int) < k → d j ≠ y) ∧ (k < n → d k.toNat = y)
  | 0, i, _, _, h, _ => by omega
  | q + 1, i, i0, i1, hq, hj => by
    rw [fE_leaveOut_2, xe_gi hE.1 rfl, xe_bind, xq_le (by omega) (by omega) (by omega) (by omega)]
    by_cases hc : n ≤ i
    · rw [if_pos hc]
      exact ⟨i, rfl, i0, i1, hj, fun h => by omega⟩
    · have hdi := hd i.toNat (by omega)
      rw [if_neg hc, xe_gr hE.1 rfl, xe_bind, xk_ai hE.2.1 i0 (by omega) (by omega), xe_bind, xq_eq (by omega) (by omega) (by omega) (by omega)]
      by_cases he : d i.toNat = y
      · rw [if_pos he]
        exact ⟨i, rfl, i0, i1, hj, fun _ => he⟩
      · rw [if_neg he, xl_1, xI_add]
        refine xu_loF n1 y1 y2 hd hE q (i + 1) (by omega) (by omega) (by omega) fun j h => ?_
        by_cases e : j = i.toNat
        · rw [e]; exact he
        · exact hj j (by omega)
theorem xu_loS {o : Nat} {n x mi le : Int} {st d0 : Nat → Int} (n1 : n ≤ 200) {k : Int} (k0 : 0 ≤ k) (kn : k < n) :
    ∀ (q : Nat) (i : Int) (A : xj_H) (d : Nat → Int), k ≤ i → i < n → (n - i).toNat < q → xu_E A o n x mi le d st → (∀ j : Nat, (j : Int) < k → d j = d0 j) → (∀ j : Nat, k ≤ j → (j : Int) < i → d j = d0 (j + 1)) → (∀ j : Nat, i ≤ j → d j = d0 j) →
      ∃ (B : xj_H) (e : Nat → Int), fE_leaveOut_47 q (xj_o o) (xI i) A = some (.inl (some (.int 1)), B) ∧ xk_u (fun i => i = o ∨ i = o + 1) A B ∧ xu_E B o (n - 1) (x + 1) mi le e st ∧ (∀ j : Nat, (j : Int) < k → e j = d0 j) ∧ (∀ j : Nat, k ≤ j → (j : Int) < n - 1 → e j = d0 (j + 1))
  | 0, i, _, _, _, _, h, _, _, _, _ => by omega
  | q + 1, i, A, d, i0, i1, hq, hE, h1, h2, h3 => by
    rw [fE_leaveOut_47, xe_gi hE.1 rfl, xe_bind, xl_1, xI_add, xq_le (by omega) (by omega) (by omega) (by omega)]
    by_cases hc : n ≤ i + 1
    · obtain ⟨B, w1, w2, w3⟩ := xk_pw (.int (xI (n - 1))) hE.1 (k := 2) (by simp)
      obtain ⟨C, v1, v2, v3⟩ := xk_pw (.int (xI (x + 1))) w2 (k := 3) (by simp)
      have w2' : B.1[o]? = some (.inr (2, [.ref (o + 1), .ref (o + 2), .int (xI (n - 1)), .int (xI x), .int (xI mi), .int (xI le)])) := w2
      rw [if_pos hc, xe_bind, xI_sub, w1, xe_bind, xe_gi w2' rfl, xe_bind, xI_add, v1, xe_bind]
      refine ⟨C, d, xe_rz1 C, xk_t (xk_w w3 fun i h => Or.inl h) (xk_w v3 fun i h => Or.inl h), ⟨v2, xk_au (xk_au hE.2.1 w3 (by omega)) v3 (by omega), xk_au (xk_au hE.2.2 w3 (by omega)) v3 (by omega)⟩, h1, fun j j1 j2 => h2 j j1 (by omega)⟩
    · obtain ⟨B, w1, w2, w3⟩ := xk_as (d (i + 1).toNat) hE.2.1 (i := i) (by omega) (by omega) (by omega)
      rw [if_neg hc, xe_gr hE.1 rfl, xe_bind, xe_bind, xk_ai hE.2.1 (by omega) (by omega) (by omega), xe_bind, w1, xe_bind]
      obtain ⟨C, e, v1, v2, v3⟩ := xu_loS (d0 := d0) n1 k0 kn q (i + 1) B _ (by omega) (by omega) (by omega) ⟨xk_c hE.1 w3 (by omega), w2, xk_au hE.2.2 w3 (by omega)⟩
        (fun j hj => by rw [xk_p_n _ _ (by omega)]; exact h1 j hj)
        (fun j j1 j2 => by
          by_cases e : j = i.toNat
          · rw [e, xk_p_e, h3 _ (by omega), show (i + 1).toNat = i.toNat + 1 by omega]
          · rw [xk_p_n _ _ e]; exact h2 j j1 (by omega))
        (fun j hj => by rw [xk_p_n _ _ (by omega)]; exact h3 j (by omega))
      exact ⟨C, e, v1, xk_t (xk_w w3 fun i h => Or.inr h) v2, v3⟩
theorem xu_leaveOut {o : Nat} {x mi le y : Int} {d st : Nat → Int} {A : xj_H} {l : List Int} (n1 : l.length ≤ 200) (x0 : 0 ≤ x) (x1 : x ≤ 12) (y1 : -2147483648 ≤ y) (y2 : y ≤ 2147483647) (hd : ∀ a ∈ l, 0 ≤ a ∧ a ≤ 36524) (hp : l.Pairwise (· < ·)) (hl : xu_h d l) (hE : xu_E A o l.length x mi le d st) :
    ((x = 12 ∨ y ∉ l) ∧ fE_leaveOut (xj_o o) (xI y) A = some (.inl (some (.int 0)), A)) ∨
    (x < 12 ∧ y ∈ l ∧ ∃ (B : xj_H) (e : Nat → Int), fE_leaveOut (xj_o o) (xI y) A = some (.inl (some (.int 1)), B) ∧ xk_u (fun i => i = o ∨ i = o + 1) A B ∧ xu_E B o (l.length - 1) (x + 1) mi le e st ∧ xu_h e (l.filter (fun d => d != y)) ∧ (l.filter (fun d => d != y)).length + 1 = l.length) := by
  have hd' : ∀ j : Nat, (j : Int) < l.length → 0 ≤ d j ∧ d j ≤ 36524 := fun j hj => hd _ (xu_hm hl (by omega))
  obtain ⟨k, k1, k2, k3, k4, k5⟩ := xu_loF (by omega) y1 y2 hd' hE xj_fu 0 (by omega) (by omega) (by unfold xj_fu; omega) (fun j hj => by omega)
  have hun : fE_leaveOut (xj_o o) (xI y) A = fE_leaveOut_26 (xj_o o) (xI k) A := k1
  rw [hun]
  unfold fE_leaveOut_26
  rw [xe_gi hE.1 rfl, xe_bind, xq_le (by omega) (by omega) (by omega) (by omega)]
  by_cases hc : (l.length : Int) ≤ k
  · rw [if_pos hc]
    refine Or.inl ⟨Or.inr fun hy => ?_, rfl⟩
    obtain ⟨i, i1, i2⟩ := xu_mh hl hy
    exact k4 i (by omega) i2
  · have hk := k5 (by omega)
    have hy : y ∈ l := hk ▸ xu_hm hl (by omega)
    rw [if_neg hc, xe_gi hE.1 rfl, xe_bind, xl_12, xq_lt (by omega) (by omega) (by omega) (by omega)]
    by_cases hx : x < 12
    · rw [if_pos hx]
      obtain ⟨B, e, v1, v2, v3, v4, v5⟩ := xu_loS (by omega) k2 (by omega) xj_fu k A d (by omega) (by omega) (by unfold xj_fu; omega) hE (fun j _ => rfl) (fun j j1 j2 => by omega) (fun j _ => rfl)
      have hk1 : k.toNat < l.length := by omega
      have hg : l[k.toNat]? = some y := by
        rw [List.getElem?_eq_getElem hk1, ← hl k.toNat _ (List.getElem?_eq_getElem hk1), hk]
      have her := xu_er hp hg
      refine Or.inr ⟨hx, hy, B, e, v1, v2, v3, ?_, ?_⟩
      · rw [← her]
        intro i a ha
        have hlt : i < (l.eraseIdx k.toNat).length := (List.getElem?_eq_some_iff.mp ha).1
        rw [List.length_eraseIdx_of_lt hk1] at hlt
        rw [List.getElem?_eraseIdx] at ha
        by_cases hik : i < k.toNat
        · rw [if_pos hik] at ha
          rw [v4 i (by omega)]; exact hl i a ha
        · rw [if_neg hik] at ha
          rw [v5 i (by omega) (by omega)]; exact hl (i + 1) a ha
      · rw [← her, List.length_eraseIdx_of_lt hk1]; omega
    · rw [if_neg hx]
      exact Or.inl ⟨Or.inl (by omega), rfl⟩

/-! The reference's object and its tables of events. -/
def xm_rf : List (Nat × Nat) := [(1, 35), (5, 36), (6, 37), (8, 38), (9, 39), (10, 40), (11, 41), (12, 42), (13, 43), (20, 44), (21, 45), (23, 46), (24, 47), (34, 48), (35, 49)]
def xm_R (p : Nat → Value) : Prop := ∀ q ∈ xm_rf, p q.1 = .ref q.2
theorem xm_Rp {p : Nat → Value} {k : Nat} {v : Value} (h : xm_R p) (hk : xm_rf.all (fun q => q.1 != k) = true) : xm_R (xk_p p k v) := by
  intro q hq
  have := List.all_eq_true.mp hk q hq
  rw [xk_p_n _ _ (by simpa using this)]
  exact h q hq
theorem xm_gr (b : Nat) {A : xj_H} {p : Nat → Value} {k : Nat} (h : xk_o A 34 7 36 p) (hR : xm_R p) (hq : (k, b) ∈ xm_rf) (hk : k < 36) : xj_gr A (xj_o 34) 7 k = some (xj_o b) := xk_gr h (hR (k, b) hq) hk
/-- the tables of events: minutes, lengths, days, excluded days -/
def xm_T (A : xj_H) (mi le : Nat → Int) (D X : Nat → List Int) : Prop := xk_a A 0 38 8 mi ∧ xk_a A 0 39 8 le ∧ xk_a A 0 41 8 (fun e => (D e).length) ∧ xk_a A 0 43 8 (fun e => (X e).length) ∧ (∃ f, xk_a A 0 40 1600 f ∧ ∀ e, e < 8 → xu_h (fun i => f (200 * e + i)) (D e)) ∧ (∃ f, xk_a A 0 42 96 f ∧ ∀ e, e < 8 → xu_h (fun i => f (12 * e + i)) (X e))
theorem xm_Tu {S : Nat → Prop} {A B : xj_H} {mi le : Nat → Int} {D X : Nat → List Int} (h : xm_T A mi le D X) (u : xk_u S A B) (hs : ∀ i, 38 ≤ i → i ≤ 43 → ¬ S i) : xm_T B mi le D X := by
  obtain ⟨h1, h2, h3, h4, ⟨f, f1, f2⟩, ⟨g, g1, g2⟩⟩ := h
  exact ⟨xk_au h1 u (hs _ (by decide) (by decide)), xk_au h2 u (hs _ (by decide) (by decide)), xk_au h3 u (hs _ (by decide) (by decide)), xk_au h4 u (hs _ (by decide) (by decide)), ⟨f, xk_au f1 u (hs _ (by decide) (by decide)), f2⟩, ⟨g, xk_au g1 u (hs _ (by decide) (by decide)), g2⟩⟩
/-- what is known of an event's days and of those excluded -/
def xp_C (D X : List Int) : List Int := D.filter (fun d => !X.contains d)
def xp_E (D X : List Int) : Prop := D.Pairwise (· < ·) ∧ (∀ d ∈ D, 0 ≤ d ∧ d ≤ 36524) ∧ D.length ≤ 200 ∧ X.length ≤ 12 ∧ (∀ d ∈ X, 0 ≤ d ∧ d ≤ 36524) ∧ (xp_C D X).length + X.length = D.length
def xm_b (X : List Int) (y : Int) : Int32 := if y ∈ X then 1 else 0
theorem xm_b01 (X : List Int) (y : Int) : xm_b X y = 0 ∨ xm_b X y = 1 := by unfold xm_b; split <;> simp
theorem xm_rz (X : List Int) (y : Int) (A : xj_H) : xj_rz (xm_b X y) A = some (.inl (some (.int (xm_b X y))), A) := by
  unfold xm_b; split <;> rfl
theorem xm_bt {X : List Int} {y : Int} {k : Nat} {a : Int} (h : X[k]? = some a) : xm_b (X.take (k + 1)) y = if y ∈ X.take k ∨ a = y then 1 else 0 := by
  unfold xm_b
  rw [List.take_add_one, h]
  congr 1
  simp [eq_comm]
theorem xm_greatest {a b : Int} (a1 : -2147483648 ≤ a) (a2 : a ≤ 2147483647) (b1 : -2147483648 ≤ b) (b2 : b ≤ 2147483647) (A : xj_H) : fM_greatest (xI a) (xI b) A = some (.inl (some (.int (xI (if a ≤ b then b else a)))), A) := by
  unfold fM_greatest
  rw [xq_le a1 a2 b1 b2]
  split <;> rfl
theorem xm_least {a b : Int} (a1 : -2147483648 ≤ a) (a2 : a ≤ 2147483647) (b1 : -2147483648 ≤ b) (b2 : b ≤ 2147483647) (A : xj_H) : fM_least (xI a) (xI b) A = some (.inl (some (.int (xI (if b ≤ a then b else a)))), A) := by
  unfold fM_least
  rw [xq_le b1 b2 a1 a2]
  split <;> rfl
theorem xm_fails {A : xj_H} {p : Nat → Value} {b : Int32} (h : xk_o A 34 7 36 p) (hb : b = 0 ∨ b = 1) : ∃ B, fM_fails (xj_o 34) b A = some (.inl (some (.int b)), B) ∧ xk_o B 34 7 36 (xk_p p 0 (.int b)) ∧ xk_u (fun i => i = 34) A B := by
  obtain ⟨B, w1, w2, w3⟩ := xk_pv (.int b) h (k := 0) (by decide)
  refine ⟨B, ?_, w2, w3⟩
  unfold fM_fails fM_fails_10
  rcases hb with rfl | rfl
  · rw [xk_b0, w1, xe_bind]; rfl
  · rw [xk_b1, w1, xe_bind]; rfl
theorem xm_inside {v a b : Int} (v1 : -2147483648 ≤ v) (v2 : v ≤ 2147483647) (a1 : -2147483648 ≤ a) (a2 : a ≤ 2147483647) (b1 : -2147483648 ≤ b) (b2 : b ≤ 2147483647) (A : xj_H) : fM_inside (xI v) (xI a) (xI b) A = some (.inl (some (.int (if a ≤ v ∧ v ≤ b then 1 else 0))), A) := by
  unfold fM_inside fM_inside_14 fM_inside_15
  rw [xq_lt v1 v2 a1 a2, xq_lt b1 b2 v1 v2]
  by_cases h1 : v < a
  · rw [if_pos h1, if_neg (by omega)]; rfl
  · rw [if_neg h1]
    by_cases h2 : b < v
    · rw [if_pos h2, if_neg (by omega)]; rfl
    · rw [if_neg h2, if_pos (by omega)]; rfl
theorem xm_exL {A : xj_H} {p : Nat → Value} (h : xk_o A 34 7 36 p) (hR : xm_R p) {mi le : Nat → Int} {D X : Nat → List Int} (hT : xm_T A mi le D X) {e : Nat} (he : e < 8) {y : Int} (y1 : -2147483648 ≤ y) (y2 : y ≤ 2147483647) (hl : (X e).length ≤ 12) (hx : ∀ d ∈ X e, 0 ≤ d ∧ d ≤ 36524) :
    ∀ (q k : Nat), k ≤ (X e).length → (X e).length - k < q → fM_isExcluded_5 q (xj_o 34) (xI e) (xI y) (xm_b ((X e).take k) y) (xI k) A = some (.inl (some (.int (xm_b (X e) y))), A)
  | 0, k, _, h => by omega
  | q + 1, k, h1, h2 => by
    have hT' := hT
    obtain ⟨t1, t2, t3, t4, ⟨f, f1, f2⟩, ⟨g, g1, g2⟩⟩ := hT'
    rw [fM_isExcluded_5, xm_gr 43 h hR (by decide) (by decide), xe_bind, xk_ai t4 (by omega) (by omega) (by omega), xe_bind, Int.toNat_natCast, xq_le (by omega) (by omega) (by omega) (by omega)]
    by_cases hc : ((X e).length : Int) ≤ k
    · rw [if_pos hc, show (X e).take k = X e from List.take_of_length_le (by omega)]
      exact xm_rz _ _ _
    · have hk : (X e)[k]? = some (X e)[k] := List.getElem?_eq_getElem (by omega)
      have hb := hx _ (List.mem_of_getElem? hk)
      have ih := xm_exL h hR hT he y1 y2 hl hx q (k + 1) (by omega) (by omega)
      rw [xm_bt hk] at ih
      rw [if_neg hc]
      by_cases hm : y ∈ (X e).take k
      · have hb1 : xm_b ((X e).take k) y = 1 := if_pos hm
        rw [if_pos (Or.inl hm)] at ih
        rw [hb1, xk_n1, fM_isExcluded_36, fM_isExcluded_41, xl_1, xI_add]
        exact ih
      · have hb1 : xm_b ((X e).take k) y = 0 := if_neg hm
        have hg := g2 e he k _ hk
        simp only at hg
        rw [hb1, xk_n0, xm_gr 42 h hR (by decide) (by decide), xe_bind, xl_12, xI_mul, xI_add, xk_ai g1 (by omega) (by omega) (by omega), xe_bind, show (12 * (e : Int) + k).toNat = 12 * e + k by omega, hg, xq_ne (by omega) (by omega) (by omega) (by omega)]
        by_cases hy : (X e)[k] = y
        · rw [if_pos (Or.inr hy)] at ih
          rw [if_pos hy, fM_isExcluded_36, fM_isExcluded_41, xl_1, xI_add]
          exact ih
        · rw [if_neg (fun h => h.elim hm hy)] at ih
          rw [if_neg hy, fM_isExcluded_41, xl_1, xI_add]
          exact ih
theorem xm_isEx {A : xj_H} {p : Nat → Value} (h : xk_o A 34 7 36 p) (hR : xm_R p) {mi le : Nat → Int} {D X : Nat → List Int} (hT : xm_T A mi le D X) {e : Nat} (he : e < 8) {y : Int} (y1 : -2147483648 ≤ y) (y2 : y ≤ 2147483647) (hp : xp_E (D e) (X e)) : fM_isExcluded (xj_o 34) (xI e) (xI y) A = some (.inl (some (.int (xm_b (X e) y))), A) :=
  xm_exL h hR hT he y1 y2 hp.2.2.2.1 hp.2.2.2.2.1 xj_fu 0 (by omega) (by have := hp.2.2.2.1; unfold xj_fu; omega)
/-! Counting the days that are left. -/
def xp_n (D X : List Int) (i : Nat) : Nat := ((D.take i).filter (fun d => !X.contains d)).length
theorem xp_n_s {D X : List Int} {i : Nat} {a : Int} (h : D[i]? = some a) : xp_n D X (i + 1) = xp_n D X i + if a ∈ X then 0 else 1 := by
  unfold xp_n
  rw [List.take_add_one, h, List.filter_append, List.length_append]
  by_cases hc : a ∈ X
  · simp [hc]
  · simp [hc]
theorem xp_n_e {D X : List Int} {i : Nat} (h : D.length ≤ i) : xp_n D X i = (xp_C D X).length := by
  unfold xp_n xp_C
  rw [List.take_of_length_le h]
theorem xp_get {D X : List Int} {i : Nat} {a : Int} (h : D[i]? = some a) (ha : a ∉ X) : (xp_C D X)[xp_n D X i]? = some a := by
  have hi : i < D.length := (List.getElem?_eq_some_iff.mp h).1
  have h1 : D = D.take i ++ a :: D.drop (i + 1) := by
    have h2 : D[i] = a := (List.getElem?_eq_some_iff.mp h).2
    rw [← h2, List.getElem_cons_drop, List.take_append_drop]
  have h3 : xp_C D X = (D.take i).filter (fun d => !X.contains d) ++ a :: (D.drop (i + 1)).filter (fun d => !X.contains d) := by
    unfold xp_C
    conv => lhs; rw [h1]
    rw [List.filter_append, List.filter_cons_of_pos (by simp [ha])]
  rw [h3]
  unfold xp_n
  rw [List.getElem?_append_right (Nat.le_refl _)]
  simp
theorem xp_n_m {D X : List Int} {i : Nat} : xp_n D X i ≤ (xp_C D X).length := by
  unfold xp_n xp_C
  exact (List.Sublist.filter _ (List.take_sublist i D)).length_le

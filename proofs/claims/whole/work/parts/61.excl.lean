/-! The reference excludes a day, and finds a time's day. -/
theorem xp_Cx {D X : List Int} {y : Int} : xp_C D (X ++ [y]) = (xp_C D X).filter (fun d => d != y) := by
  unfold xp_C
  rw [List.filter_filter]
  congr 1
  funext d
  by_cases h1 : d ∈ X <;> by_cases h2 : d = y <;> simp [h1, h2]
theorem xp_Cm {D X : List Int} {y : Int} : y ∈ xp_C D X ↔ y ∈ D ∧ y ∉ X := by
  unfold xp_C
  simp
theorem xp_Cs {D X : List Int} (h : xp_E D X) : (xp_C D X).Pairwise (· < ·) := List.Pairwise.sublist List.filter_sublist h.1
theorem xp_Cl {D X : List Int} (h : xp_E D X) : (xp_C D X).length ≤ 200 := Nat.le_trans (List.length_filter_le _ _) h.2.2.1
theorem xp_Cb {D X : List Int} (h : xp_E D X) : ∀ d ∈ xp_C D X, 0 ≤ d ∧ d ≤ 36524 := fun d hd => h.2.1 d (xp_Cm.mp hd).1
theorem xp_Ex {D X : List Int} {y : Int} (h : xp_E D X) (hy : y ∈ xp_C D X) (hl : X.length < 12) : xp_E D (X ++ [y]) := by
  have h9 := h
  obtain ⟨h1, h2, h3, h4, h5, h6⟩ := h9
  obtain ⟨i, i1, i2⟩ := List.mem_iff_getElem.mp hy
  have he := xu_er (xp_Cs h) (i := i) (y := y) (by rw [List.getElem?_eq_getElem i1, i2])
  refine ⟨h1, h2, h3, by simp; omega, fun d hd => ?_, ?_⟩
  · rcases List.mem_append.mp hd with hd | hd
    · exact h5 d hd
    · rw [List.mem_singleton.mp hd]; exact h2 y (xp_Cm.mp hy).1
  · rw [xp_Cx, ← he, List.length_eraseIdx_of_lt i1]
    simp
    omega
theorem xm_Tx {A B C : xj_H} {mi le : Nat → Int} {D X : Nat → List Int} {e : Nat} {y : Int} {g : Nat → Int} (hT : xm_T A mi le D X) (he : e < 8) (hle : (X e).length < 12) (hl : ∀ e, e < 8 → (X e).length ≤ 12) (hg : xk_a B 0 42 96 (xk_p g (12 * e + (X e).length) y)) (hgx : ∀ e, e < 8 → xu_h (fun i => g (12 * e + i)) (X e)) (u : xk_u (fun i => i = 42) A B) (hc : xk_a C 0 43 8 (xk_p (fun e => ((X e).length : Int)) e ((X e).length + 1))) (v : xk_u (fun i => i = 43) B C) : xm_T C mi le D (xk_p X e (X e ++ [y])) := by
  obtain ⟨t1, t2, t3, t4, ⟨f, f1, f2⟩, _⟩ := hT
  refine ⟨xk_au (xk_au t1 u (by decide)) v (by decide), xk_au (xk_au t2 u (by decide)) v (by decide), xk_au (xk_au t3 u (by decide)) v (by decide), ?_, ⟨f, xk_au (xk_au f1 u (by decide)) v (by decide), f2⟩, ⟨_, xk_au hg v (by decide), ?_⟩⟩
  · refine xk_ac hc fun j hj => ?_
    by_cases hje : j = e
    · subst hje
      rw [xk_p_e, xk_p_e, List.length_append]
      simp
    · rw [xk_p_n _ _ hje, xk_p_n _ _ hje]
  · intro j hj i a ha
    have hlj := hl j hj
    by_cases hje : j = e
    · subst hje
      rw [xk_p_e] at ha
      have hi : i < (X j ++ [y]).length := (List.getElem?_eq_some_iff.mp ha).1
      rw [List.length_append] at hi
      simp only [List.length_singleton] at hi
      by_cases hie : i = (X j).length
      · subst hie
        simp only [xk_p_e]
        simpa using ha
      · simp only
        rw [xk_p_n _ _ (by omega)]
        rw [List.getElem?_append_left (by omega)] at ha
        exact hgx j hj i a ha
    · rw [xk_p_n _ _ hje] at ha
      have hi : i < (X j).length := (List.getElem?_eq_some_iff.mp ha).1
      have := hl e he
      simp only
      rw [xk_p_n _ _ (by omega)]
      exact hgx j hj i a ha
theorem xm_excL {A : xj_H} {p : Nat → Value} (h : xk_o A 34 7 36 p) (hR : xm_R p) {mi le : Nat → Int} {D X : Nat → List Int} (hT : xm_T A mi le D X) (hP : ∀ e, e < 8 → xp_E (D e) (X e)) {e : Nat} (he : e < 8) {y : Int} (y1 : -2147483648 ≤ y) (y2 : y ≤ 2147483647) :
    ∀ (q k : Nat), k ≤ (D e).length → (D e).length - k < q →
      ((y ∉ xp_C (D e) (X e) ∨ (X e).length = 12) ∧ fM_exclude_31 q (xj_o 34) (xI e) (xI y) (xm_b ((D e).take k) y) (xI k) A = some (.inl (some (.int 0)), A)) ∨
      (y ∈ xp_C (D e) (X e) ∧ (X e).length < 12 ∧ ∃ B, fM_exclude_31 q (xj_o 34) (xI e) (xI y) (xm_b ((D e).take k) y) (xI k) A = some (.inl (some (.int 1)), B) ∧ xk_u (fun i => i = 42 ∨ i = 43) A B ∧ xm_T B mi le D (xk_p X e (X e ++ [y])))
  | 0, k, _, h => by omega
  | q + 1, k, h1, h2 => by
    have hT' := hT
    obtain ⟨t1, t2, t3, t4, ⟨f, f1, f2⟩, ⟨g, g1, g2⟩⟩ := hT'
    have hpe := hP e he
    have hD := hpe.2.2.1
    have hX := hpe.2.2.2.1
    rw [fM_exclude_31, xm_gr 41 h hR (by decide) (by decide), xe_bind, xk_ai t3 (by omega) (by omega) (by omega), xe_bind, Int.toNat_natCast, xq_le (by omega) (by omega) (by omega) (by omega)]
    by_cases hc : ((D e).length : Int) ≤ k
    · rw [if_pos hc, show (D e).take k = D e from List.take_of_length_le (by omega)]
      by_cases hm : y ∈ D e
      · have hb1 : xm_b (D e) y = 1 := if_pos hm
        rw [hb1, xk_b1, xm_gr 43 h hR (by decide) (by decide), xe_bind, xk_ai t4 (by omega) (by omega) (by omega), xe_bind, Int.toNat_natCast, xl_12, xq_eq (by omega) (by omega) (by omega) (by omega)]
        by_cases h12 : ((X e).length : Int) = 12
        · rw [if_pos h12]
          exact Or.inl ⟨Or.inr (by omega), rfl⟩
        · rw [if_neg h12, xk_rq h, xm_isEx h hR hT he y1 y2 hpe, xe_bi]
          by_cases hx : y ∈ X e
          · have hb2 : xm_b (X e) y = 1 := if_pos hx
            rw [hb2, xk_b1]
            exact Or.inl ⟨Or.inl fun hc => (xp_Cm.mp hc).2 hx, rfl⟩
          · have hb2 : xm_b (X e) y = 0 := if_neg hx
            obtain ⟨B, w1, w2, w3⟩ := xk_as y g1 (i := 12 * (e : Int) + (X e).length) (by omega) (by omega) (by omega)
            obtain ⟨C, v1, v2, v3⟩ := xk_as (((X e).length : Int) + 1) (xk_au t4 w3 (by decide)) (i := (e : Int)) (by omega) (by omega) (by omega)
            have hB := xk_ou h w3 (by decide)
            rw [hb2, xk_b0, xm_gr 42 h hR (by decide) (by decide), xe_bind, xm_gr 43 h hR (by decide) (by decide), xe_bind, xk_ai t4 (by omega) (by omega) (by omega), xe_bind, Int.toNat_natCast, xI_mul, xI_add, w1, xe_bind, xm_gr 43 hB hR (by decide) (by decide), xe_bind, xk_ai (xk_au t4 w3 (by decide)) (by omega) (by omega) (by omega), xe_bind, Int.toNat_natCast, xl_1, xI_add, v1, xe_bind]
            refine Or.inr ⟨xp_Cm.mpr ⟨hm, hx⟩, by omega, C, rfl, xk_t (xk_w w3 fun i h => Or.inl h) (xk_w v3 fun i h => Or.inr h), ?_⟩
            rw [show (12 * (e : Int) + (X e).length).toNat = 12 * e + (X e).length by omega] at w2
            rw [Int.toNat_natCast] at v2
            exact xm_Tx hT he (by omega) (fun e he => (hP e he).2.2.2.1) w2 g2 w3 v2 v3
      · have hb1 : xm_b (D e) y = 0 := if_neg hm
        rw [hb1, xk_b0]
        exact Or.inl ⟨Or.inl fun hc => hm (xp_Cm.mp hc).1, rfl⟩
    · have hk : (D e)[k]? = some (D e)[k] := List.getElem?_eq_getElem (by omega)
      have hb := hpe.2.1 _ (List.mem_of_getElem? hk)
      have ih := xm_excL h hR hT hP he y1 y2 q (k + 1) (by omega) (by omega)
      rw [xm_bt hk] at ih
      rw [if_neg hc]
      by_cases hm : y ∈ (D e).take k
      · have hb1 : xm_b ((D e).take k) y = 1 := if_pos hm
        rw [if_pos (Or.inl hm)] at ih
        rw [hb1, xk_n1, fM_exclude_63, fM_exclude_68, xl_1, xI_add]
        exact ih
      · have hb1 : xm_b ((D e).take k) y = 0 := if_neg hm
        have hg := f2 e he k _ hk
        simp only at hg
        rw [hb1, xk_n0, xm_gr 40 h hR (by decide) (by decide), xe_bind, xl_200, xI_mul, xI_add, xk_ai f1 (by omega) (by omega) (by omega), xe_bind, show (200 * (e : Int) + k).toNat = 200 * e + k by omega, hg, xq_ne (by omega) (by omega) (by omega) (by omega)]
        by_cases hy : (D e)[k] = y
        · rw [if_pos (Or.inr hy)] at ih
          rw [if_pos hy, fM_exclude_63, fM_exclude_68, xl_1, xI_add]
          exact ih
        · rw [if_neg (fun h => h.elim hm hy)] at ih
          rw [if_neg hy, fM_exclude_68, xl_1, xI_add]
          exact ih
theorem xm_tdW {A : xj_H} {p : Nat → Value} (h : xk_o A 34 7 36 p) (hR : xm_R p) {mi le : Nat → Int} {D X : Nat → List Int} (hT : xm_T A mi le D X) (hP : ∀ e, e < 8 → xp_E (D e) (X e)) {e : Nat} (he : e < 8) {K : xj_Rf → Int32 → Int32 → Int32 → xj_H → Option xj_R} {left : Int} :
    ∀ (q i : Nat), (D e).length - i < q → xp_n (D e) (X e) i < (xp_C (D e) (X e)).length → ∃ j : Nat, fM_timeDay_48 K q (xj_o 34) (xI e) (xI i) (xI left) A = K (xj_o 34) (xI e) (xI j) (xI (left - 1)) A ∧ xp_n (D e) (X e) j = xp_n (D e) (X e) i ∧ ∃ a, (D e)[j]? = some a ∧ a ∉ X e
  | 0, i, h, _ => by omega
  | q + 1, i, h1, h2 => by
    have hT' := hT
    obtain ⟨t1, t2, t3, t4, ⟨f, f1, f2⟩, ⟨g, g1, g2⟩⟩ := hT'
    have hpe := hP e he
    have hD := hpe.2.2.1
    have hi : i < (D e).length := by
      apply Classical.byContradiction
      intro hc
      have := xp_n_e (D := D e) (X := X e) (i := i) (by omega)
      omega
    have hk : (D e)[i]? = some (D e)[i] := List.getElem?_eq_getElem hi
    have hb := hpe.2.1 _ (List.mem_of_getElem? hk)
    have hs := xp_n_s (X := X e) hk
    have hg := f2 e he i _ hk
    simp only at hg
    rw [fM_timeDay_48, xm_gr 40 h hR (by decide) (by decide), xe_bind, xl_200, xI_mul, xI_add, xk_ai f1 (by omega) (by omega) (by omega), xe_bind, show (200 * (e : Int) + i).toNat = 200 * e + i by omega, hg, xk_rq h, xm_isEx h hR hT he (by omega) (by omega) hpe, xe_bi]
    by_cases hx : (D e)[i] ∈ X e
    · have hb2 : xm_b (X e) (D e)[i] = 1 := if_pos hx
      rw [if_pos hx] at hs
      rw [hb2, xk_b1, xl_1, xI_add]
      obtain ⟨j, j1, j2⟩ := xm_tdW h hR hT hP he q (i + 1) (by omega) (by omega)
      exact ⟨j, j1, by omega, j2.2⟩
    · have hb2 : xm_b (X e) (D e)[i] = 0 := if_neg hx
      rw [hb2, xk_b0, xl_1, xI_sub]
      exact ⟨i, rfl, rfl, _, hk, hx⟩
theorem xm_tdL {A : xj_H} {p : Nat → Value} (h : xk_o A 34 7 36 p) (hR : xm_R p) {mi le : Nat → Int} {D X : Nat → List Int} (hT : xm_T A mi le D X) (hP : ∀ e, e < 8 → xp_E (D e) (X e)) {e : Nat} (he : e < 8) {k : Nat} (hk : k < (xp_C (D e) (X e)).length) :
    ∀ (q : Nat) (left i : Int), -1 ≤ left → left ≤ k → -1 ≤ i → (left + 1).toNat < q → (xp_n (D e) (X e) (i + 1).toNat : Int) = k - left → (left < k → ∃ a, (D e)[i.toNat]? = some a ∧ a ∉ X e ∧ 0 ≤ i) → ∃ a, (xp_C (D e) (X e))[k]? = some a ∧ fM_timeDay_40 q (xj_o 34) (xI e) (xI i) (xI left) A = some (.inl (some (.int (xI a))), A)
  | 0, left, i, _, _, _, h, _, _ => by omega
  | q + 1, left, i, l0, l1, i0, h1, h2, h3 => by
    have hT' := hT
    obtain ⟨t1, t2, t3, t4, ⟨f, f1, f2⟩, ⟨g, g1, g2⟩⟩ := hT'
    have hpe := hP e he
    have hD := hpe.2.2.1
    have hC := xp_Cl hpe
    rw [fM_timeDay_40, xl_0, xq_lt (by omega) (by omega) (by omega) (by omega)]
    by_cases hc : left < 0
    · obtain ⟨a, a1, a2, a3⟩ := h3 (by omega)
      have hil : i.toNat < (D e).length := (List.getElem?_eq_some_iff.mp a1).1
      have hs := xp_n_s (X := X e) a1
      rw [if_neg a2, show i.toNat + 1 = (i + 1).toNat by omega] at hs
      have hget := xp_get a1 a2
      rw [show xp_n (D e) (X e) i.toNat = k by omega] at hget
      have hg := f2 e he _ _ a1
      simp only at hg
      refine ⟨a, hget, ?_⟩
      rw [if_pos hc, xm_gr 40 h hR (by decide) (by decide), xe_bind, xl_200, xI_mul, xI_add, xk_ai f1 (by omega) (by omega) (by omega), xe_bind, show (200 * (e : Int) + i).toNat = 200 * e + i.toNat by omega, hg]
    · rw [if_neg hc, xl_1, xI_add]
      obtain ⟨j, j1, j2, a, j3, j4⟩ := xm_tdW h hR hT hP he (K := fM_timeDay_40 q) (left := left) xj_fu (i + 1).toNat (by unfold xj_fu; omega) (by omega)
      rw [Int.toNat_of_nonneg (by omega)] at j1
      rw [j1]
      have hs := xp_n_s (X := X e) j3
      rw [if_neg j4] at hs
      exact xm_tdL h hR hT hP he hk q (left - 1) j (by omega) (by omega) (by omega) (by omega) (by rw [show ((j : Int) + 1).toNat = j + 1 by omega]; omega) (fun _ => ⟨a, by rw [Int.toNat_natCast]; exact j3, j4, by omega⟩)
theorem xm_timeDay {A : xj_H} {p : Nat → Value} {ne : Nat} (h : xk_o A 34 7 36 p) (hR : xm_R p) (p7 : p 7 = .int (xI ne)) (hne : ne ≤ 8) {mi le : Nat → Int} {D X : Nat → List Int} (hT : xm_T A mi le D X) (hP : ∀ e, e < 8 → xp_E (D e) (X e)) {e k : Int} (e1 : -2147483648 ≤ e) (e2 : e ≤ 2147483647) (k1 : -2147483648 ≤ k) (k2 : k ≤ 2147483647) :
    (¬ (0 ≤ e ∧ e < ne ∧ 0 ≤ k ∧ k < (xp_C (D e.toNat) (X e.toNat)).length) ∧ fM_timeDay (xj_o 34) (xI e) (xI k) A = some (.inl (some (.int (xI (-1)))), A)) ∨
    ((0 ≤ e ∧ e < ne ∧ 0 ≤ k ∧ k < (xp_C (D e.toNat) (X e.toNat)).length) ∧ ∃ a, (xp_C (D e.toNat) (X e.toNat))[k.toNat]? = some a ∧ fM_timeDay (xj_o 34) (xI e) (xI k) A = some (.inl (some (.int (xI a))), A)) := by
  have hT' := hT
  obtain ⟨t1, t2, t3, t4, _⟩ := hT'
  unfold fM_timeDay fM_timeDay_33
  rw [xl_0, xq_lt e1 e2 (by omega) (by omega)]
  by_cases c1 : e < 0
  · rw [if_pos c1]; exact Or.inl ⟨by omega, rfl⟩
  rw [if_neg c1, xk_gi h p7 (by decide), xe_bind, xq_le (by omega) (by omega) (by omega) (by omega)]
  by_cases c2 : (ne : Int) ≤ e
  · rw [if_pos c2]; exact Or.inl ⟨by omega, rfl⟩
  rw [if_neg c2, xq_lt (by omega) (by omega) (by omega) (by omega)]
  by_cases c3 : k < 0
  · rw [if_pos c3]; exact Or.inl ⟨by omega, rfl⟩
  have he : e.toNat < 8 := by omega
  have hpe := hP _ he
  have hD := hpe.2.2.1
  have hX := hpe.2.2.2.1
  have hC := hpe.2.2.2.2.2
  rw [if_neg c3, xm_gr 41 h hR (by decide) (by decide), xe_bind, xk_ai t3 (by omega) (by omega) (by omega), xe_bind, xm_gr 43 h hR (by decide) (by decide), xe_bind, xk_ai t4 (by omega) (by omega) (by omega), xe_bind, xI_sub, xq_lt (by omega) (by omega) (by omega) (by omega)]
  by_cases c4 : k < ((D e.toNat).length : Int) - ((X e.toNat).length : Int)
  · rw [if_pos c4]
    refine Or.inr ⟨by omega, ?_⟩
    have hq := xm_tdL h hR hT hP he (k := k.toNat) (by omega) xj_fu k (-1) (by omega) (by omega) (by omega) (by unfold xj_fu; omega) (by simp [xp_n]; omega) (fun _ => by omega)
    rw [show ((e.toNat : Nat) : Int) = e by omega] at hq
    exact hq
  · rw [if_neg c4]; exact Or.inl ⟨by omega, rfl⟩

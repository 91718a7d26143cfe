/-! Spans that lie apart, in order: one union has one such row. -/
def xb_N (b e : Nat → Int) (c : Nat) : Prop := (∀ i, i < c → b i < e i) ∧ (∀ i, i + 1 < c → e i < b (i + 1))
def xb_I (b e : Nat → Int) (c : Nat) (t : Int) : Prop := ∃ i, i < c ∧ b i ≤ t ∧ t < e i
theorem xb_lt {b e : Nat → Int} {c : Nat} (h : xb_N b e c) {i : Nat} : ∀ {j : Nat}, i < j → j < c → e i < b j
  | 0, h1, _ => by omega
  | j + 1, h1, h2 => by
    have h3 := h.2 j h2
    by_cases hij : i = j
    · subst hij; exact h3
    · have h4 := xb_lt h (i := i) (j := j) (by omega) (by omega)
      have h5 := h.1 j (by omega)
      omega
theorem xb_half {b e b' e' : Nat → Int} {c c' : Nat} (h : xb_N b e c) (h' : xb_N b' e' c') (hI : ∀ t, xb_I b e c t → xb_I b' e' c' t) {k : Nat} (hk : k < c) (heq : ∀ i, i < k → e i = e' i) : k < c' ∧ b' k ≤ b k := by
  obtain ⟨j, j1, j2, j3⟩ := hI (b k) ⟨k, hk, by omega, h.1 k hk⟩
  have hj : k ≤ j := by
    apply Classical.byContradiction
    intro hc
    have h1 := xb_lt h (i := j) (j := k) (by omega) hk
    have h2 := heq j (by omega)
    omega
  refine ⟨by omega, ?_⟩
  by_cases e1 : k = j
  · subst e1; omega
  · have h1 := xb_lt h' (i := k) (j := j) (by omega) j1
    have h2 := h'.1 k (by omega)
    omega
theorem xb_half2 {b e b' e' : Nat → Int} {c c' : Nat} (h : xb_N b e c) (h' : xb_N b' e' c') (hI : ∀ t, xb_I b' e' c' t → xb_I b e c t) {k : Nat} (hk : k < c) (hk' : k < c') (hb : b k = b' k) : e' k ≤ e k := by
  apply Classical.byContradiction
  intro hc
  have hbe := h.1 k hk
  obtain ⟨j, j1, j2, j3⟩ := hI (e k) ⟨k, hk', by omega, by omega⟩
  by_cases e1 : j = k
  · subst e1; omega
  · by_cases e2 : j < k
    · have h1 := xb_lt h (i := j) (j := k) e2 hk
      omega
    · have h1 := xb_lt h (i := k) (j := j) (by omega) j1
      omega
theorem xb_uniq {b e b' e' : Nat → Int} {c c' : Nat} (h : xb_N b e c) (h' : xb_N b' e' c') (hI : ∀ t, xb_I b e c t ↔ xb_I b' e' c' t) : c = c' ∧ ∀ i, i < c → b i = b' i ∧ e i = e' i := by
  have key : ∀ n k, k < n → ((k < c ↔ k < c') ∧ (k < c → b k = b' k ∧ e k = e' k)) := by
    intro n
    induction n with
    | zero => intro k hk; omega
    | succ n ih =>
      intro k hk
      have stepA : k < c → k < c' ∧ b' k ≤ b k := fun hkc => xb_half h h' (fun t => (hI t).mp) hkc (fun i hi => ((ih i (by omega)).2 (by omega)).2)
      have stepB : k < c' → k < c ∧ b k ≤ b' k := fun hkc => xb_half h' h (fun t => (hI t).mpr) hkc (fun i hi => ((ih i (by omega)).2 ((ih i (by omega)).1.mpr (by omega))).2.symm)
      refine ⟨⟨fun hh => (stepA hh).1, fun hh => (stepB hh).1⟩, fun hkc => ?_⟩
      have a1 := stepA hkc
      have a2 := stepB a1.1
      have hb : b k = b' k := by omega
      refine ⟨hb, ?_⟩
      have h1 := xb_half2 h h' (fun t => (hI t).mpr) hkc a1.1 hb
      have h2 := xb_half2 h' h (fun t => (hI t).mp) a1.1 hkc hb.symm
      omega
  have hcc : c = c' := by
    apply Classical.byContradiction
    intro hne
    by_cases hlt : c < c'
    · have := ((key (c + 1) c (by omega)).1).mpr hlt
      omega
    · have := ((key (c' + 1) c' (by omega)).1).mp (by omega)
      omega
  exact ⟨hcc, fun i hi => (key (i + 1) i (by omega)).2 hi⟩
/-! A span more, whose begin is behind every begin there is. -/
def xb_mx (a b : Int) : Int := if a ≤ b then b else a
def xb_mn (a b : Int) : Int := if b ≤ a then b else a
theorem xb_add1 {b e : Nat → Int} {c : Nat} (h : xb_N b e c) {x y : Int} (hxy : x < y) (hb : ∀ i, i < c → b i ≤ x) (hc : 0 < c) (hle : x ≤ e (c - 1)) : xb_N b (xk_p e (c - 1) (xb_mx (e (c - 1)) y)) c ∧ ∀ t, xb_I b (xk_p e (c - 1) (xb_mx (e (c - 1)) y)) c t ↔ xb_I b e c t ∨ (x ≤ t ∧ t < y) := by
  have hm : e (c - 1) ≤ xb_mx (e (c - 1)) y ∧ y ≤ xb_mx (e (c - 1)) y ∧ (xb_mx (e (c - 1)) y = e (c - 1) ∨ xb_mx (e (c - 1)) y = y) := by
    unfold xb_mx; split <;> omega
  generalize xb_mx (e (c - 1)) y = z at *
  refine ⟨⟨fun i hi => ?_, fun i hi => ?_⟩, fun t => ⟨?_, ?_⟩⟩
  · have := h.1 i hi
    by_cases e1 : i = c - 1
    · subst e1; rw [xk_p_e]; omega
    · rw [xk_p_n _ _ e1]; omega
  · rw [xk_p_n _ _ (by omega)]; exact h.2 i hi
  · rintro ⟨i, i1, i2, i3⟩
    by_cases e1 : i = c - 1
    · subst e1
      rw [xk_p_e] at i3
      by_cases ht : t < e (c - 1)
      · exact Or.inl ⟨_, i1, i2, ht⟩
      · exact Or.inr ⟨by omega, by omega⟩
    · rw [xk_p_n _ _ e1] at i3
      exact Or.inl ⟨i, i1, i2, i3⟩
  · rintro (⟨i, i1, i2, i3⟩ | ⟨h1, h2⟩)
    · by_cases e1 : i = c - 1
      · subst e1; exact ⟨_, i1, i2, by rw [xk_p_e]; omega⟩
      · exact ⟨i, i1, i2, by rw [xk_p_n _ _ e1]; exact i3⟩
    · have := hb (c - 1) (by omega)
      exact ⟨c - 1, by omega, by omega, by rw [xk_p_e]; omega⟩
theorem xb_add2 {b e : Nat → Int} {c : Nat} (h : xb_N b e c) {x y : Int} (hxy : x < y) (hle : 0 < c → e (c - 1) < x) : xb_N (xk_p b c x) (xk_p e c y) (c + 1) ∧ ∀ t, xb_I (xk_p b c x) (xk_p e c y) (c + 1) t ↔ xb_I b e c t ∨ (x ≤ t ∧ t < y) := by
  refine ⟨⟨fun i hi => ?_, fun i hi => ?_⟩, fun t => ⟨?_, ?_⟩⟩
  · by_cases e1 : i = c
    · subst e1; rw [xk_p_e, xk_p_e]; exact hxy
    · rw [xk_p_n _ _ e1, xk_p_n _ _ e1]; exact h.1 i (by omega)
  · by_cases e1 : i + 1 = c
    · rw [e1, xk_p_e, xk_p_n _ _ (by omega), show i = c - 1 by omega]; exact hle (by omega)
    · rw [xk_p_n _ _ (by omega), xk_p_n _ _ e1]; exact h.2 i (by omega)
  · rintro ⟨i, i1, i2, i3⟩
    by_cases e1 : i = c
    · subst e1
      rw [xk_p_e] at i2 i3
      exact Or.inr ⟨i2, i3⟩
    · rw [xk_p_n _ _ e1] at i2 i3
      exact Or.inl ⟨i, by omega, i2, i3⟩
  · rintro (⟨i, i1, i2, i3⟩ | ⟨h1, h2⟩)
    · exact ⟨i, by omega, by rw [xk_p_n _ _ (by omega)]; exact i2, by rw [xk_p_n _ _ (by omega)]; exact i3⟩
    · exact ⟨c, by omega, by rw [xk_p_e]; exact h1, by rw [xk_p_e]; exact h2⟩
theorem xu_min {a b : Int} (a1 : -2147483648 ≤ a) (a2 : a ≤ 2147483647) (b1 : -2147483648 ≤ b) (b2 : b ≤ 2147483647) (A : xj_H) : fJ_min (xI a) (xI b) A = some (.inl (some (.int (xI (xb_mn a b)))), A) := by
  unfold fJ_min xb_mn
  by_cases h : b < a
  · rw [xq_lt b1 b2 a1 a2, if_pos h, if_pos (by omega)]; rfl
  · rw [xq_lt b1 b2 a1 a2, if_neg h]
    by_cases e : b = a
    · subst e; rw [if_pos (by omega)]; rfl
    · rw [if_neg (by omega)]; rfl
theorem xb_mx_b {a b : Int} : a ≤ xb_mx a b ∧ b ≤ xb_mx a b ∧ (xb_mx a b = a ∨ xb_mx a b = b) := by unfold xb_mx; split <;> omega
theorem xb_mn_b {a b : Int} : xb_mn a b ≤ a ∧ xb_mn a b ≤ b ∧ (xb_mn a b = a ∨ xb_mn a b = b) := by unfold xb_mn; split <;> omega
/-- the class's spans -/
def xb_S (A : xj_H) (c : Nat) (fr to : Int) (b e : Nat → Int) : Prop := A.1[31]? = some (.inr (3, [.ref 32, .ref 33, .int (xI c), .int (xI fr), .int (xI to)])) ∧ xk_a A 0 32 1600 b ∧ xk_a A 0 33 1600 e
theorem xb_add {A : xj_H} {c : Nat} {fr to : Int} {b e : Nat → Int} (hS : xb_S A c fr to b e) (hN : xb_N b e c) (f1 : -2147483648 ≤ fr) (f2 : fr ≤ 2147483647) (t1 : -2147483648 ≤ to) (t2 : to ≤ 2147483647) (hr : ∀ i, i < c → fr ≤ b i ∧ e i ≤ to) (hc : c < 1600) {x y : Int} (x1 : -2147483648 ≤ x) (x2 : x ≤ 2147483647) (y1 : -2147483648 ≤ y) (y2 : y ≤ 2147483647) (ho : ∀ i, i < c → b i ≤ xb_mx x fr) :
    ∃ (B : xj_H) (c' : Nat) (b' e' : Nat → Int), fS_add (xj_o 31) (xI x) (xI y) A = some (.inl none, B) ∧ xk_u (fun i => 31 ≤ i ∧ i ≤ 33) A B ∧ xb_S B c' fr to b' e' ∧ xb_N b' e' c' ∧ c' ≤ c + 1 ∧ (∀ i, i < c' → fr ≤ b' i ∧ e' i ≤ to) ∧ (∀ i, i < c' → b' i ≤ xb_mx x fr) ∧ ∀ t, xb_I b' e' c' t ↔ xb_I b e c t ∨ (xb_mx x fr ≤ t ∧ t < xb_mn y to) := by
  have m1 := xb_mx_b (a := x) (b := fr)
  have m2 := xb_mn_b (a := y) (b := to)
  obtain ⟨h0, h1, h2⟩ := hS
  unfold fS_add
  rw [xe_gi h0 rfl, xe_bind, xu_max x1 x2 f1 f2, xe_bi, xe_gi h0 rfl, xe_bind, xu_min y1 y2 t1 t2, xe_bi]
  rw [show (if x ≤ fr then fr else x) = xb_mx x fr from rfl]
  generalize xb_mx x fr = a at *
  generalize xb_mn y to = z at *
  rw [xq_lt (by omega) (by omega) (by omega) (by omega)]
  by_cases haz : a < z
  · have hnew : (0 < c → e (c - 1) < a) → ∃ (B : xj_H) (c' : Nat) (b' e' : Nat → Int), fS_add_78 (xj_o 31) (xI a) (xI z) A = some (.inl none, B) ∧ xk_u (fun i => 31 ≤ i ∧ i ≤ 33) A B ∧ xb_S B c' fr to b' e' ∧ xb_N b' e' c' ∧ c' ≤ c + 1 ∧ (∀ i, i < c' → fr ≤ b' i ∧ e' i ≤ to) ∧ (∀ i, i < c' → b' i ≤ a) ∧ ∀ t, xb_I b' e' c' t ↔ xb_I b e c t ∨ (a ≤ t ∧ t < z) := by
      intro hle
      obtain ⟨hN', hI'⟩ := xb_add2 hN haz hle
      obtain ⟨B, w1, w2, w3⟩ := xk_as a h1 (i := c) (by omega) (by omega) (by omega)
      obtain ⟨C, v1, v2, v3⟩ := xk_as z (xk_au h2 w3 (by decide)) (i := c) (by omega) (by omega) (by omega)
      have hB := xk_c h0 w3 (by decide)
      have hC := xk_c hB v3 (by decide)
      obtain ⟨E, u1, u2, u3⟩ := xk_pw (.int (xI ((c : Int) + 1))) hC (k := 2) (by simp)
      rw [Int.toNat_natCast] at w2 v2
      refine ⟨E, c + 1, _, _, ?_, xk_t (xk_t (xk_w w3 (fun i hi => by omega)) (xk_w v3 (fun i hi => by omega))) (xk_w u3 (fun i hi => by omega)), ⟨u2, xk_au (xk_au w2 v3 (by decide)) u3 (by decide), xk_au v2 u3 (by decide)⟩, hN', by omega, fun i hi => ?_, fun i hi => ?_, hI'⟩
      · unfold fS_add_78
        rw [xe_gi h0 rfl, xe_bind, xe_gr h0 rfl, xe_bind, xk_len h1, xe_bind, xq_le (by omega) (by omega) (by omega) (by omega), if_neg (by omega), xe_bind, xe_bind, w1, xe_bind, xe_gr hB rfl, xe_bind, xe_gi hB rfl, xe_bind, v1, xe_bind, xe_gi hC rfl, xe_bind, xl_1, xI_add, u1, xe_bind]
        rfl
      · by_cases e1 : i = c
        · subst e1; rw [xk_p_e, xk_p_e]; omega
        · rw [xk_p_n _ _ e1, xk_p_n _ _ e1]; exact hr i (by omega)
      · by_cases e1 : i = c
        · subst e1; rw [xk_p_e]; omega
        · rw [xk_p_n _ _ e1]; exact ho i (by omega)
    rw [if_pos haz, xe_gi h0 rfl, xe_bind, xl_0, xq_le (by omega) (by omega) (by omega) (by omega)]
    by_cases hc0 : (c : Int) ≤ 0
    · rw [if_pos hc0]
      exact hnew (by omega)
    · have hrl := hr (c - 1) (by omega)
      have hbe := hN.1 (c - 1) (by omega)
      rw [if_neg hc0, xe_gr h0 rfl, xe_bind, xe_bind, xl_1, xI_sub, xk_ai h2 (by omega) (by omega) (by omega), xe_bind, show ((c : Int) - 1).toNat = c - 1 by omega, xq_lt (by omega) (by omega) (by omega) (by omega)]
      by_cases hlt : e (c - 1) < a
      · rw [if_pos hlt]
        exact hnew fun _ => hlt
      · obtain ⟨hN', hI'⟩ := xb_add1 hN haz ho (by omega) (by omega)
        have hmb := xb_mx_b (a := e (c - 1)) (b := z)
        obtain ⟨B, w1, w2, w3⟩ := xk_as (xb_mx (e (c - 1)) z) h2 (i := (c : Int) - 1) (by omega) (by omega) (by omega)
        rw [show ((c : Int) - 1).toNat = c - 1 by omega] at w2
        refine ⟨B, c, _, _, ?_, xk_w w3 (fun i hi => by omega), ⟨xk_c h0 w3 (by decide), xk_au h1 w3 (by decide), w2⟩, hN', by omega, fun i hi => ?_, fun i hi => ho i hi, hI'⟩
        · rw [if_neg hlt, xe_bind, xe_bind, xe_bind, xe_bind, xI_sub, xk_ai h2 (by omega) (by omega) (by omega), xe_bind, show ((c : Int) - 1).toNat = c - 1 by omega, xu_max (by omega) (by omega) (by omega) (by omega), xe_bi]
          rw [show (if e (c - 1) ≤ z then z else e (c - 1)) = xb_mx (e (c - 1)) z from rfl, w1]
          rfl
        · by_cases e1 : i = c - 1
          · subst e1; rw [xk_p_e]; omega
          · rw [xk_p_n _ _ e1]; exact hr i hi
  · rw [if_neg haz]
    exact ⟨A, c, b, e, rfl, xk_r _ _, ⟨h0, h1, h2⟩, hN, by omega, hr, ho, fun t => ⟨Or.inl, fun h => h.elim id fun h => by omega⟩⟩

/-! The reference joins a span to its spans. -/
def xb_J (b e : Nat → Int) (c f k : Nat) (B E : Nat → Int) : Prop := (∀ i, i < f → B i = b i ∧ E i = e i) ∧ (∀ j, k ≤ j → j < c → B (j + f + 1 - k) = b j ∧ E (j + f + 1 - k) = e j)
/-- what the first two loops find -/
def xb_L (b e : Nat → Int) (c f k : Nat) (a z fr to : Int) : Prop := f ≤ k ∧ k ≤ c ∧ (∀ i, i < f → e i < a) ∧ (∀ i, f ≤ i → i < k → a ≤ e i ∧ b i ≤ z) ∧ fr ≤ a ∧ (∀ i, f ≤ i → i < k → fr ≤ b i) ∧ (fr = a ∨ ∃ i, f ≤ i ∧ i < k ∧ fr = b i) ∧ z ≤ to ∧ (∀ i, f ≤ i → i < k → e i ≤ to) ∧ (to = z ∨ ∃ i, f ≤ i ∧ i < k ∧ to = e i)
theorem xb_join {b e B E : Nat → Int} {c f k : Nat} {a z fr to : Int} (h : xb_N b e c) (haz : a < z) (hL : xb_L b e c f k a z fr to) (hk : k < c → z < b k) (hJ : xb_J b e c f k B E) : xb_N (xk_p B f fr) (xk_p E f to) (c + f + 1 - k) ∧ ∀ t, xb_I (xk_p B f fr) (xk_p E f to) (c + f + 1 - k) t ↔ xb_I b e c t ∨ (a ≤ t ∧ t < z) := by
  obtain ⟨l1, l2, l3, l4, l5, l6, l7, l8, l9, l10⟩ := hL
  obtain ⟨j1, j2⟩ := hJ
  have hi : ∀ i, f < i → i < c + f + 1 - k → B i = b (i + k - f - 1) ∧ E i = e (i + k - f - 1) := fun i h1 h2 => by
    have := j2 (i + k - f - 1) (by omega) (by omega)
    rwa [show i + k - f - 1 + f + 1 - k = i by omega] at this
  have hfrto : fr < to := by
    rcases l7 with l7 | ⟨i, i1, i2, i3⟩
    · omega
    · have := l4 i i1 i2
      omega
  have hbk : ∀ j, k ≤ j → j < c → to < b j := fun j h1 h2 => by
    have hz : z < b j := by
      have := hk (by omega)
      by_cases e1 : j = k
      · subst e1; exact this
      · have g1 := xb_lt h (i := k) (j := j) (by omega) h2
        have g2 := h.1 k (by omega)
        omega
    rcases l10 with l10 | ⟨i, i1, i2, i3⟩
    · omega
    · have := xb_lt h (i := i) (j := j) (by omega) h2
      omega
  have hbf : ∀ j, j < f → e j < fr := fun j h1 => by
    rcases l7 with l7 | ⟨i, i1, i2, i3⟩
    · have := l3 j h1; omega
    · have := xb_lt h (i := j) (j := i) (by omega) (by omega)
      omega
  refine ⟨⟨fun i hic => ?_, fun i hic => ?_⟩, fun t => ⟨?_, ?_⟩⟩
  · by_cases e1 : i = f
    · subst e1; rw [xk_p_e, xk_p_e]; exact hfrto
    · rw [xk_p_n _ _ e1, xk_p_n _ _ e1]
      by_cases e2 : i < f
      · rw [(j1 i e2).1, (j1 i e2).2]; exact h.1 i (by omega)
      · have g := hi i (by omega) hic
        rw [g.1, g.2]; exact h.1 _ (by omega)
  · by_cases e1 : i = f
    · subst e1
      rw [xk_p_e, xk_p_n _ _ (by omega), (hi (i + 1) (by omega) hic).1]
      exact hbk _ (by omega) (by omega)
    · by_cases e2 : i + 1 = f
      · rw [e2, xk_p_e, xk_p_n _ _ e1, (j1 i (by omega)).2]
        exact hbf i (by omega)
      · rw [xk_p_n _ _ e1, xk_p_n _ _ e2]
        by_cases e3 : i < f
        · rw [(j1 i e3).2, (j1 (i + 1) (by omega)).1]; exact h.2 i (by omega)
        · rw [(hi i (by omega) (by omega)).2, (hi (i + 1) (by omega) hic).1, show i + 1 + k - f - 1 = i + k - f - 1 + 1 by omega]
          exact h.2 _ (by omega)
  · rintro ⟨i, i1, i2, i3⟩
    by_cases e1 : i = f
    · subst e1
      rw [xk_p_e] at i2 i3
      by_cases t1 : t < a
      · rcases l7 with l7 | ⟨j, q1, q2, q3⟩
        · omega
        · have := l4 j q1 q2
          exact Or.inl ⟨j, by omega, by omega, by omega⟩
      · by_cases t2 : t < z
        · exact Or.inr ⟨by omega, t2⟩
        · rcases l10 with l10 | ⟨j, q1, q2, q3⟩
          · omega
          · have := l4 j q1 q2
            exact Or.inl ⟨j, by omega, by omega, by omega⟩
    · rw [xk_p_n _ _ e1] at i2 i3
      by_cases e2 : i < f
      · rw [(j1 i e2).1] at i2
        rw [(j1 i e2).2] at i3
        exact Or.inl ⟨i, by omega, i2, i3⟩
      · have g := hi i (by omega) i1
        rw [g.1] at i2
        rw [g.2] at i3
        exact Or.inl ⟨_, by omega, i2, i3⟩
  · rintro (⟨i, i1, i2, i3⟩ | ⟨g1, g2⟩)
    · by_cases e1 : i < f
      · exact ⟨i, by omega, by rw [xk_p_n _ _ (by omega), (j1 i e1).1]; exact i2, by rw [xk_p_n _ _ (by omega), (j1 i e1).2]; exact i3⟩
      · by_cases e2 : i < k
        · have q1 := l6 i (by omega) e2
          have q2 := l9 i (by omega) e2
          exact ⟨f, by omega, by rw [xk_p_e]; omega, by rw [xk_p_e]; omega⟩
        · have q := j2 i (by omega) i1
          exact ⟨i + f + 1 - k, by omega, by rw [xk_p_n _ _ (by omega), q.1]; exact i2, by rw [xk_p_n _ _ (by omega), q.2]; exact i3⟩
    · exact ⟨f, by omega, by rw [xk_p_e]; omega, by rw [xk_p_e]; omega⟩
/-! The code. -/
def xb_M (A : xj_H) (p : Nat → Value) (c : Nat) (b e : Nat → Int) : Prop := xk_o A 34 7 36 p ∧ xm_R p ∧ p 33 = .int (xI c) ∧ xk_a A 0 48 1600 b ∧ xk_a A 0 49 1600 e
/-- what a join ends with -/
def xb_Z (A : xj_H) (p : Nat → Value) (b e : Nat → Int) (c f k : Nat) (fr to : Int) (R : Option xj_R) : Prop := ∃ (G : xj_H) (B E : Nat → Int), R = some (.inl none, G) ∧ xk_u (fun i => i = 34 ∨ i = 48 ∨ i = 49) A G ∧ xb_J b e c f k B E ∧ xb_M G (xk_p p 33 (.int (xI (c + f + 1 - k : Nat)))) (c + f + 1 - k) (xk_p B f fr) (xk_p E f to)
theorem xb_211 {A : xj_H} {p : Nat → Value} {b e B E : Nat → Int} {c f k : Nat} {fr to : Int} (hM : xb_M A p c B E) (hJ : xb_J b e c f k B E) (hf : f < 1600) (hfk : f ≤ k) (hkc : k ≤ c) (hc : c < 1600) : xb_Z A p b e c f k fr to (fM_join_211 (xj_o 34) (xI f) (xI fr) (xI to) (xI ((f : Int) + 1 - k)) A) := by
  obtain ⟨h1, h2, h3, h4, h5⟩ := hM
  obtain ⟨G, v1, v2, v3⟩ := xk_as fr h4 (i := f) (by omega) (by omega) (by omega)
  have g1 := xk_ou h1 v3 (by decide)
  obtain ⟨H, w1, w2, w3⟩ := xk_as to (xk_au h5 v3 (by decide)) (i := f) (by omega) (by omega) (by omega)
  have g2 := xk_ou g1 w3 (by decide)
  obtain ⟨K, u1, u2, u3⟩ := xk_pv (.int (xI (c + f + 1 - k : Nat))) g2 (k := 33) (by decide)
  rw [Int.toNat_natCast] at v2 w2
  refine ⟨K, B, E, ?_, xk_t (xk_t (xk_w v3 fun i hi => by omega) (xk_w w3 fun i hi => by omega)) (xk_w u3 fun i hi => by omega), hJ, u2, xm_Rp h2 (by decide), xk_p_e _ _ _, xk_au (xk_au v2 w3 (by decide)) u3 (by decide), xk_au w2 u3 (by decide)⟩
  unfold fM_join_211
  rw [xm_gr 48 h1 h2 (by decide) (by decide), xe_bind, v1, xe_bind, xm_gr 49 g1 h2 (by decide) (by decide), xe_bind, w1, xe_bind, xk_gi g2 h3 (by decide), xe_bind, xI_add, show (c : Int) + ((f : Int) + 1 - k) = (c + f + 1 - k : Nat) by omega, u1]
  rfl
theorem xb_157 {p : Nat → Value} {b e : Nat → Int} {c f k : Nat} {fr to : Int} (hfk : f + 1 < k) (hkc : k ≤ c) (hc : c < 1600) :
    ∀ (q y : Nat) (A : xj_H) (B E : Nat → Int), k ≤ y → y ≤ c → c - y < q → xb_M A p c B E → (∀ i, i < f → B i = b i ∧ E i = e i) → (∀ j, k ≤ j → j < y → B (j + f + 1 - k) = b j ∧ E (j + f + 1 - k) = e j) → (∀ j, y ≤ j → B j = b j ∧ E j = e j) → xb_Z A p b e c f k fr to (fM_join_157 q (xj_o 34) (xI f) (xI fr) (xI to) (xI ((f : Int) + 1 - k)) (xI y) A)
  | 0, y, _, _, _, _, _, h, _, _, _, _ => by omega
  | q + 1, y, A, B, E, hy, hyc, hq, hM, i1, i2, i3 => by
    have hM' := hM
    obtain ⟨h1, h2, h3, h4, h5⟩ := hM'
    rw [fM_join_157, xk_gi h1 h3 (by decide), xe_bind, xq_le (by omega) (by omega) (by omega) (by omega)]
    by_cases hcy : (c : Int) ≤ y
    · rw [if_pos hcy]
      exact xb_211 hM ⟨i1, fun j a1 a2 => i2 j a1 (by omega)⟩ (by omega) (by omega) hkc hc
    · rw [if_neg hcy, xl_0, xq_le (by omega) (by omega) (by omega) (by omega), if_neg (by omega)]
      obtain ⟨G, v1, v2, v3⟩ := xk_as (B y) h4 (i := (y : Int) + ((f : Int) + 1 - k)) (by omega) (by omega) (by omega)
      have g1 := xk_ou h1 v3 (by decide)
      have g5 := xk_au h5 v3 (by decide)
      obtain ⟨H, w1, w2, w3⟩ := xk_as (E y) g5 (i := (y : Int) + ((f : Int) + 1 - k)) (by omega) (by omega) (by omega)
      rw [xm_gr 48 h1 h2 (by decide) (by decide), xe_bind, xe_bind, xk_ai h4 (by omega) (by omega) (by omega), xe_bind, xI_add, Int.toNat_natCast, v1, xe_bind, xm_gr 49 g1 h2 (by decide) (by decide), xe_bind, xe_bind, xk_ai g5 (by omega) (by omega) (by omega), xe_bind, Int.toNat_natCast, w1, xe_bind, xl_1, xI_add]
      rw [show ((y : Int) + ((f : Int) + 1 - k)).toNat = y + f + 1 - k by omega] at v2 w2
      obtain ⟨K, B', E', r1, r2, r3⟩ := xb_157 (b := b) (e := e) hfk hkc hc q (y + 1) H _ _ (by omega) (by omega) (by omega) ⟨xk_ou g1 w3 (by decide), h2, h3, xk_au v2 w3 (by decide), w2⟩
        (fun i hi => by rw [xk_p_n _ _ (by omega), xk_p_n _ _ (by omega)]; exact i1 i hi)
        (fun j a1 a2 => by
          by_cases e1 : j = y
          · subst e1; rw [xk_p_e, xk_p_e]; exact i3 j (Nat.le_refl _)
          · rw [xk_p_n _ _ (by omega), xk_p_n _ _ (by omega)]; exact i2 j a1 (by omega))
        (fun j a1 => by rw [xk_p_n _ _ (by omega), xk_p_n _ _ (by omega)]; exact i3 j (by omega))
      exact ⟨K, B', E', r1, xk_t (xk_t (xk_w v3 fun i hi => by omega) (xk_w w3 fun i hi => by omega)) r2, r3⟩
theorem xb_109 {p : Nat → Value} {b e : Nat → Int} {c f : Nat} {fr to : Int} (hkc : f ≤ c) (hc : c < 1600) :
    ∀ (q y : Nat) (A : xj_H) (B E : Nat → Int), f ≤ y → y ≤ c → y - f < q → xb_M A p c B E → (∀ i, i < y → B i = b i ∧ E i = e i) → (∀ j, y ≤ j → j < c → B (j + 1) = b j ∧ E (j + 1) = e j) → xb_Z A p b e c f f fr to (fM_join_109 q (xj_o 34) (xI f) (xI f) (xI fr) (xI to) (xI 1) (xI y) A)
  | 0, y, _, _, _, _, _, h, _, _, _ => by omega
  | q + 1, y, A, B, E, hy, hyc, hq, hM, i1, i2 => by
    have hM' := hM
    obtain ⟨h1, h2, h3, h4, h5⟩ := hM'
    rw [fM_join_109, xq_le (by omega) (by omega) (by omega) (by omega)]
    by_cases hcy : (y : Int) ≤ f
    · rw [if_pos hcy]
      have hz := xb_211 (fr := fr) (to := to) (b := b) (e := e) (f := f) (k := f) hM ⟨fun i hi => i1 i (by omega), fun j a1 a2 => by rw [show j + f + 1 - f = j + 1 by omega]; exact i2 j (by omega) a2⟩ (by omega) (by omega) hkc hc
      rw [show (f : Int) + 1 - f = 1 by omega] at hz
      have hq1 : fM_join_153 (xj_o 34) (xI f) (xI f) (xI fr) (xI to) (xI 1) A = fM_join_211 (xj_o 34) (xI f) (xI fr) (xI to) (xI 1) A := by
        unfold fM_join_153
        rw [show xj_fu = 99999 + 1 from rfl, fM_join_157, xk_gi h1 h3 (by decide), xe_bind, xl_0, xq_le (by omega) (by omega) (by omega) (by omega), xq_le (by omega) (by omega) (by omega) (by omega), if_pos (show (0 : Int) ≤ 1 by omega)]
        split <;> rfl
      rw [hq1]
      exact hz
    · obtain ⟨G, v1, v2, v3⟩ := xk_as (B (y - 1)) h4 (i := (y : Int)) (by omega) (by omega) (by omega)
      have g1 := xk_ou h1 v3 (by decide)
      have g5 := xk_au h5 v3 (by decide)
      obtain ⟨H, w1, w2, w3⟩ := xk_as (E (y - 1)) g5 (i := (y : Int)) (by omega) (by omega) (by omega)
      rw [if_neg hcy, xm_gr 48 h1 h2 (by decide) (by decide), xe_bind, xe_bind, xl_1, xI_sub, xk_ai h4 (by omega) (by omega) (by omega), xe_bind, show ((y : Int) - 1).toNat = y - 1 by omega, v1, xe_bind, xm_gr 49 g1 h2 (by decide) (by decide), xe_bind, xe_bind, xk_ai g5 (by omega) (by omega) (by omega), xe_bind, show ((y : Int) - 1).toNat = y - 1 by omega, w1, xe_bind]
      rw [Int.toNat_natCast] at v2 w2
      obtain ⟨K, B', E', r1, r2, r3⟩ := xb_109 (b := b) (e := e) (fr := fr) (to := to) hkc hc q (y - 1) H _ _ (by omega) (by omega) (by omega) ⟨xk_ou g1 w3 (by decide), h2, h3, xk_au v2 w3 (by decide), w2⟩
        (fun i hi => by rw [xk_p_n _ _ (by omega), xk_p_n _ _ (by omega)]; exact i1 i (by omega))
        (fun j a1 a2 => by
          by_cases e1 : j + 1 = y
          · rw [e1, xk_p_e, xk_p_e, show y - 1 = j by omega]; exact i1 j (by omega)
          · rw [xk_p_n _ _ (by omega), xk_p_n _ _ (by omega)]; exact i2 j (by omega) a2)
      rw [show ((y - 1 : Nat) : Int) = (y : Int) - 1 by omega] at r1
      exact ⟨K, B', E', r1, xk_t (xk_t (xk_w v3 fun i hi => by omega) (xk_w w3 fun i hi => by omega)) r2, r3⟩
theorem xb_89 {A : xj_H} {p : Nat → Value} {b e : Nat → Int} {c f k : Nat} {fr to : Int} (hM : xb_M A p c b e) (hfk : f ≤ k) (hkc : k ≤ c) (hc : c < 1600) : xb_Z A p b e c f k fr to (fM_join_89 (xj_o 34) (xI f) (xI k) (xI fr) (xI to) A) := by
  have hM' := hM
  obtain ⟨h1, h2, h3, h4, h5⟩ := hM'
  unfold fM_join_89
  rw [xl_1, xI_add, xI_sub, xq_ne (by omega) (by omega) (by omega) (by omega)]
  by_cases e1 : (f : Int) + 1 - k = 1
  · have e2 : k = f := by omega
    subst e2
    rw [if_pos e1, xk_gi h1 h3 (by decide), xe_bind, e1]
    exact xb_109 hkc hc xj_fu c A b e hkc (Nat.le_refl _) (by unfold xj_fu; omega) hM (fun i _ => ⟨rfl, rfl⟩) (fun j a1 a2 => by omega)
  · rw [if_neg e1]
    by_cases e2 : f + 1 = k
    · have hq1 : fM_join_153 (xj_o 34) (xI f) (xI k) (xI fr) (xI to) (xI ((f : Int) + 1 - k)) A = fM_join_211 (xj_o 34) (xI f) (xI fr) (xI to) (xI ((f : Int) + 1 - k)) A := by
        unfold fM_join_153
        rw [show xj_fu = 99999 + 1 from rfl, fM_join_157, xk_gi h1 h3 (by decide), xe_bind, xl_0, xq_le (by omega) (by omega) (by omega) (by omega), xq_le (by omega) (by omega) (by omega) (by omega), if_pos (show (0 : Int) ≤ (f : Int) + 1 - k by omega)]
        split <;> rfl
      rw [hq1]
      exact xb_211 hM ⟨fun i _ => ⟨rfl, rfl⟩, fun j a1 a2 => by rw [show j + f + 1 - k = j by omega]; exact ⟨rfl, rfl⟩⟩ (by omega) hfk hkc hc
    · unfold fM_join_153
      exact xb_157 (by omega) hkc hc xj_fu k A b e (Nat.le_refl _) hkc (by unfold xj_fu; omega) hM (fun i _ => ⟨rfl, rfl⟩) (fun j a1 a2 => by omega) (fun j _ => ⟨rfl, rfl⟩)

/-! The reference's join and busy. -/
theorem xb_Lr {b e : Nat → Int} {c f k : Nat} {a z fr to lo hi : Int} (hL : xb_L b e c f k a z fr to) (ha : lo ≤ a) (hz : z ≤ hi) (hr : ∀ i, i < c → lo ≤ b i ∧ e i ≤ hi) : lo ≤ fr ∧ to ≤ hi := by
  obtain ⟨l1, l2, l3, l4, l5, l6, l7, l8, l9, l10⟩ := hL
  constructor
  · rcases l7 with l7 | ⟨i, i1, i2, i3⟩
    · omega
    · have := hr i (by omega); omega
  · rcases l10 with l7 | ⟨i, i1, i2, i3⟩
    · omega
    · have := hr i (by omega); omega
theorem xb_35 {A : xj_H} {p : Nat → Value} {b e : Nat → Int} {c f : Nat} {a z lo hi : Int} (hM : xb_M A p c b e) (hN : xb_N b e c) (hc : c < 1600) (l1 : -2147483648 ≤ lo) (h2 : hi ≤ 2147483647) (haz : a < z) (ha : lo ≤ a) (hz : z ≤ hi) (hr : ∀ i, i < c → lo ≤ b i ∧ e i ≤ hi) (hfa : f < c → a ≤ e f) :
    ∀ (q k : Nat) (fr to : Int), c - k < q → xb_L b e c f k a z fr to → ∃ (k' : Nat) (fr' to' : Int), xb_L b e c f k' a z fr' to' ∧ (k' < c → z < b k') ∧ fM_join_35 q (xj_o 34) (xI z) (xI f) (xI k) (xI fr) (xI to) A = fM_join_89 (xj_o 34) (xI f) (xI k') (xI fr') (xI to') A
  | 0, k, _, _, h, _ => by omega
  | q + 1, k, fr, to, hq, hL => by
    have hL' := hL
    obtain ⟨g1, g2, g3, g4, g5, g6, g7, g8, g9, g10⟩ := hL'
    have hrr := xb_Lr hL ha hz hr
    obtain ⟨m1, m2, m3, m4, m5⟩ := hM
    rw [fM_join_35, xk_gi m1 m3 (by decide), xe_bind, xq_le (by omega) (by omega) (by omega) (by omega)]
    by_cases hck : (c : Int) ≤ k
    · rw [if_pos hck]
      exact ⟨k, fr, to, hL, fun h => by omega, rfl⟩
    have hrk := hr k (by omega)
    have hbe := hN.1 k (by omega)
    rw [if_neg hck, xm_gr 48 m1 m2 (by decide) (by decide), xe_bind, xk_ai m4 (by omega) (by omega) (by omega), xe_bind, Int.toNat_natCast, xq_lt (by omega) (by omega) (by omega) (by omega)]
    by_cases hzb : z < b k
    · rw [if_pos hzb]
      exact ⟨k, fr, to, hL, fun _ => hzb, rfl⟩
    rw [if_neg hzb, xe_bind, xk_ai m4 (by omega) (by omega) (by omega), xe_bind, Int.toNat_natCast, xm_least (by omega) (by omega) (by omega) (by omega), xe_bi, xm_gr 49 m1 m2 (by decide) (by decide), xe_bind, xk_ai m5 (by omega) (by omega) (by omega), xe_bind, Int.toNat_natCast, xm_greatest (by omega) (by omega) (by omega) (by omega), xe_bi, xl_1, xI_add]
    have hak : a ≤ e k := by
      by_cases e1 : f = k
      · subst e1; exact hfa (by omega)
      · have q1 := hfa (by omega)
        have q2 := xb_lt hN (i := f) (j := k) (by omega) (by omega)
        omega
    have n1 := xb_mn_b (a := fr) (b := b k)
    have n2 := xb_mx_b (a := to) (b := e k)
    rw [show (if b k ≤ fr then b k else fr) = xb_mn fr (b k) from rfl, show (if to ≤ e k then e k else to) = xb_mx to (e k) from rfl]
    generalize xb_mn fr (b k) = fr' at *
    generalize xb_mx to (e k) = to' at *
    have o1 : c - (k + 1) < q ∧ f ≤ k + 1 ∧ k + 1 ≤ c ∧ fr' ≤ a ∧ z ≤ to' := by clear g7 g10; omega
    refine xb_35 ⟨m1, m2, m3, m4, m5⟩ hN hc l1 h2 haz ha hz hr hfa q (k + 1) fr' to' o1.1 ⟨o1.2.1, o1.2.2.1, g3, fun i i1 i2 => ?_, o1.2.2.2.1, fun i i1 i2 => ?_, ?_, o1.2.2.2.2, fun i i1 i2 => ?_, ?_⟩
    · by_cases e1 : i = k
      · subst e1; exact ⟨hak, by omega⟩
      · exact g4 i i1 (by omega)
    · by_cases e1 : i = k
      · subst e1; omega
      · have := g6 i i1 (by omega); omega
    · rcases n1.2.2 with q | q
      · rcases g7 with g7 | ⟨i, i1, i2, i3⟩
        · exact Or.inl (by omega)
        · exact Or.inr ⟨i, i1, by omega, by omega⟩
      · exact Or.inr ⟨k, g1, by omega, q⟩
    · by_cases e1 : i = k
      · subst e1; omega
      · have := g9 i i1 (by omega); omega
    · rcases n2.2.2 with q | q
      · rcases g10 with g7 | ⟨i, i1, i2, i3⟩
        · exact Or.inl (by omega)
        · exact Or.inr ⟨i, i1, by omega, by omega⟩
      · exact Or.inr ⟨k, g1, by omega, q⟩
theorem xb_2 {A : xj_H} {p : Nat → Value} {b e : Nat → Int} {c : Nat} {a z lo hi : Int} (hM : xb_M A p c b e) (hN : xb_N b e c) (hc : c < 1600) (l1 : -2147483648 ≤ lo) (h2 : hi ≤ 2147483647) (haz : a < z) (ha : lo ≤ a) (hz : z ≤ hi) (hr : ∀ i, i < c → lo ≤ b i ∧ e i ≤ hi) :
    ∀ (q f : Nat), c - f < q → f ≤ c → (∀ i, i < f → e i < a) → ∃ f' : Nat, f' ≤ c ∧ (∀ i, i < f' → e i < a) ∧ (f' < c → a ≤ e f') ∧ fM_join_2 q (xj_o 34) (xI a) (xI z) (xI f) A = fM_join_26 (xj_o 34) (xI a) (xI z) (xI f') A
  | 0, f, h, _, _ => by omega
  | q + 1, f, hq, hf, hi1 => by
    obtain ⟨m1, m2, m3, m4, m5⟩ := hM
    rw [fM_join_2, xk_gi m1 m3 (by decide), xe_bind, xq_le (by omega) (by omega) (by omega) (by omega)]
    by_cases hck : (c : Int) ≤ f
    · rw [if_pos hck]
      exact ⟨f, hf, hi1, fun h => by omega, rfl⟩
    have hrk := hr f (by omega)
    have hbe := hN.1 f (by omega)
    rw [if_neg hck, xm_gr 49 m1 m2 (by decide) (by decide), xe_bind, xk_ai m5 (by omega) (by omega) (by omega), xe_bind, Int.toNat_natCast, xq_le (by omega) (by omega) (by omega) (by omega)]
    by_cases hae : a ≤ e f
    · rw [if_pos hae]
      exact ⟨f, hf, hi1, fun _ => hae, rfl⟩
    rw [if_neg hae, xl_1, xI_add]
    refine xb_2 ⟨m1, m2, m3, m4, m5⟩ hN hc l1 h2 haz ha hz hr q (f + 1) (by omega) (by omega) fun i hi => ?_
    by_cases e1 : i = f
    · subst e1; omega
    · exact hi1 i (by omega)
theorem xb_jo {A : xj_H} {p : Nat → Value} {b e : Nat → Int} {c : Nat} {a z lo hi : Int} (hM : xb_M A p c b e) (hN : xb_N b e c) (hc : c < 1600) (l1 : -2147483648 ≤ lo) (h2 : hi ≤ 2147483647) (haz : a < z) (ha : lo ≤ a) (hz : z ≤ hi) (hr : ∀ i, i < c → lo ≤ b i ∧ e i ≤ hi) :
    ∃ (G : xj_H) (c' : Nat) (b' e' : Nat → Int), fM_join (xj_o 34) (xI a) (xI z) A = some (.inl none, G) ∧ xk_u (fun i => i = 34 ∨ i = 48 ∨ i = 49) A G ∧ xb_M G (xk_p p 33 (.int (xI c'))) c' b' e' ∧ xb_N b' e' c' ∧ c' ≤ c + 1 ∧ (∀ i, i < c' → lo ≤ b' i ∧ e' i ≤ hi) ∧ ∀ t, xb_I b' e' c' t ↔ xb_I b e c t ∨ (a ≤ t ∧ t < z) := by
  obtain ⟨f, f1, f2, f3, f4⟩ := xb_2 hM hN hc l1 h2 haz ha hz hr xj_fu 0 (by unfold xj_fu; omega) (by omega) (fun i hi => by omega)
  obtain ⟨k, fr, to, k1, k2, k3⟩ := xb_35 hM hN hc l1 h2 haz ha hz hr f3 xj_fu f a z (by unfold xj_fu; omega) ⟨Nat.le_refl _, f1, f2, fun i i1 i2 => by omega, by omega, fun i i1 i2 => by omega, Or.inl rfl, by omega, fun i i1 i2 => by omega, Or.inl rfl⟩
  have hrr := xb_Lr k1 ha hz hr
  obtain ⟨G, B, E, r1, r2, r3, r4⟩ := xb_89 (fr := fr) (to := to) hM k1.1 k1.2.1 hc
  obtain ⟨q1, q2⟩ := xb_join hN haz k1 k2 r3
  have hkb := k1.2.1
  have hfk := k1.1
  refine ⟨G, _, _, _, ?_, r2, r4, q1, by omega, fun i hi => ?_, q2⟩
  · have e1 : fM_join (xj_o 34) (xI a) (xI z) A = fM_join_2 xj_fu (xj_o 34) (xI a) (xI z) (xI 0) A := rfl
    rw [show ((0 : Nat) : Int) = 0 from rfl] at f4
    rw [e1, f4]
    unfold fM_join_26
    rw [k3, r1]
  · obtain ⟨j1, j2⟩ := r3
    by_cases e1 : i = f
    · subst e1; rw [xk_p_e, xk_p_e]; exact hrr
    · rw [xk_p_n _ _ e1, xk_p_n _ _ e1]
      by_cases e2 : i < f
      · rw [(j1 i e2).1, (j1 i e2).2]; exact hr i (by omega)
      · have := j2 (i + k - f - 1) (by omega) (by omega)
        rw [show i + k - f - 1 + f + 1 - k = i by omega] at this
        rw [this.1, this.2]; exact hr _ (by omega)

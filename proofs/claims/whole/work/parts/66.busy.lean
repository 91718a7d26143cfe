/-! The class's busy: the starts of all events, merged. -/
def xb_K (A : xj_H) (tn ne : Int) : Prop := A.1[0]? = some (.inr (0, [.ref 1, .int (xI tn), .ref 2, .ref 5, .int (xI ne), .ref 30, .ref 31]))
def xb_V (A : xj_H) : Prop := ∃ ev : Nat → Option Nat, A.1[5]? = some (.inl (4, 8, .inr (.inr (.inr (.inr ev))))) ∧ ∀ i, i < 8 → ev i = some (6 + 3 * i)
theorem xb_ral {A : xj_H} (h : xb_V A) {i : Int} (h0 : 0 ≤ i) (h1 : i < 8) : xj_ral A (xj_o 5) (xI i) = some (xj_o (6 + 3 * i.toNat)) := by
  obtain ⟨ev, e1, e2⟩ := h
  have hc := xe_in (n := 8) h0 h1 (by decide)
  have h9 : xj_ral A (xj_o 5) (xI i) = if (4 : Nat) = 4 ∧ ¬ (xI i < 0 ∨ 8 ≤ (xI i).toNatClampNeg) then some ((ev (xI i).toNatClampNeg).map .inl) else none := by
    simp only [xj_ral, xj_o, e1]
  rw [h9, if_pos ⟨rfl, hc⟩, xI_nat ⟨by omega, by omega⟩, e2 _ (by omega)]
  rfl
theorem xb_Vu {S : Nat → Prop} {A B : xj_H} (h : xb_V A) (u : xk_u S A B) (hi : ¬ S 5) : xb_V B := by
  obtain ⟨ev, e1, e2⟩ := h
  exact ⟨ev, xk_c e1 u hi, e2⟩
/-- the events' counts, lengths and starts -/
def xb_E (A : xj_H) (ne : Nat) (n le : Nat → Int) (st : Nat → Nat → Int) : Prop := ∀ e, e < ne → ∃ x mi d, xu_E A (6 + 3 * e) (n e) x mi (le e) d (st e)
theorem xb_Eu {S : Nat → Prop} {A B : xj_H} {ne : Nat} {n le : Nat → Int} {st : Nat → Nat → Int} (h : xb_E A ne n le st) (u : xk_u S A B) (hs : ∀ e, e < ne → ¬ S (6 + 3 * e) ∧ ¬ S (6 + 3 * e + 1) ∧ ¬ S (6 + 3 * e + 2)) : xb_E B ne n le st := by
  intro e he
  obtain ⟨x, mi, d, h1, h2, h3⟩ := h e he
  obtain ⟨s1, s2, s3⟩ := hs e he
  exact ⟨x, mi, d, xk_c h1 u s1, xk_au h2 u s2, xk_au h3 u s3⟩
def xb_G (ne : Nat) (n : Nat → Int) (st : Nat → Nat → Int) (h : Nat → Int) (k : Nat) (best bs : Int) : Prop := (best = -1 ∧ ∀ e, e < k → n e ≤ h e) ∨ (0 ≤ best ∧ best < k ∧ h best.toNat < n best.toNat ∧ bs = st best.toNat (h best.toNat).toNat ∧ ∀ e, e < k → h e < n e → bs ≤ st e (h e).toNat)
theorem xb_ehL {A : xj_H} {tn : Int} {ne : Nat} (hne : ne ≤ 8) {n le h : Nat → Int} {st : Nat → Nat → Int} (hK : xb_K A tn ne) (hV : xb_V A) (hE : xb_E A ne n le st) (hH : xk_a A 0 30 8 h) (hh : ∀ e, e < ne → 0 ≤ h e ∧ h e ≤ n e ∧ n e ≤ 200) (hr : ∀ e i : Nat, e < ne → (i : Int) < n e → -2000000000 ≤ st e i ∧ st e i ≤ 2000000000) :
    ∀ (q k : Nat) (best bs : Int), k ≤ ne → ne - k < q → -2000000000 ≤ bs → bs ≤ 2000000000 → xb_G ne n st h k best bs → ∃ r bs', xb_G ne n st h ne r bs' ∧ fB_earliestHead_6 q (xj_o 0) (xI best) (xI bs) (xI k) A = some (.inl (some (.int (xI r))), A)
  | 0, k, _, _, _, h, _, _, _ => by omega
  | q + 1, k, best, bs, hk, hq, b1, b2, hG => by
    have hbest : -1 ≤ best ∧ best < 8 := by
      rcases hG with ⟨g1, _⟩ | ⟨g1, g2, _⟩ <;> omega
    rw [fB_earliestHead_6, xe_gi hK rfl, xe_bind, xq_le (by omega) (by omega) (by omega) (by omega)]
    by_cases hc : (ne : Int) ≤ k
    · rw [if_pos hc]
      rw [show k = ne by omega] at hG
      exact ⟨best, bs, hG, rfl⟩
    have hhk := hh k (by omega)
    obtain ⟨x, mi, d, e1, e2, e3⟩ := hE k (by omega)
    rw [if_neg hc, xe_gr hK rfl, xe_bind, xk_ai hH (by omega) (by omega) (by omega), xe_bind, Int.toNat_natCast, xe_gr hK rfl, xe_bind, xb_ral hV (by omega) (by omega), xe_bind, Int.toNat_natCast, xe_gi e1 rfl, xe_bind, xq_le (by omega) (by omega) (by omega) (by omega)]
    by_cases h1 : n k ≤ h k
    · rw [if_pos h1, fB_earliestHead_65, xl_1, xI_add]
      refine xb_ehL hne hK hV hE hH hh hr q (k + 1) best bs (by omega) (by omega) b1 b2 ?_
      rcases hG with ⟨g1, g2⟩ | ⟨g1, g2, g3, g4, g5⟩
      · refine Or.inl ⟨g1, fun e he => ?_⟩
        by_cases ek : e = k
        · subst ek; exact h1
        · exact g2 e (by omega)
      · refine Or.inr ⟨g1, by omega, g3, g4, fun e he hle => ?_⟩
        by_cases ek : e = k
        · subst ek; omega
        · exact g5 e (by omega) hle
    have hst := hr k (h k).toNat (by omega) (by omega)
    rw [if_neg h1, xe_bind, xb_ral hV (by omega) (by omega), xe_bind, Int.toNat_natCast, xe_gr e1 rfl, xe_bind, xe_bind, xk_ai hH (by omega) (by omega) (by omega), xe_bind, Int.toNat_natCast, xk_ai e3 (by omega) (by omega) (by omega), xe_bind, xl_0, xq_lt (by omega) (by omega) (by omega) (by omega)]
    have take : (∀ e, e < k → h e < n e → st k (h k).toNat ≤ st e (h e).toNat) → ∃ r bs', xb_G ne n st h ne r bs' ∧ fB_earliestHead_60 (fB_earliestHead_6 q) (xj_o 0) (xI k) (xI (st k (h k).toNat)) A = some (.inl (some (.int (xI r))), A) := by
      intro hmin
      rw [fB_earliestHead_60, fB_earliestHead_65, xl_1, xI_add]
      refine xb_ehL hne hK hV hE hH hh hr q (k + 1) k (st k (h k).toNat) (by omega) (by omega) hst.1 hst.2 (Or.inr ⟨by omega, by omega, by rw [Int.toNat_natCast]; omega, by rw [Int.toNat_natCast], fun e he hle => ?_⟩)
      by_cases ek : e = k
      · subst ek; omega
      · exact hmin e (by omega) hle
    by_cases h2 : best < 0
    · rw [if_pos h2]
      refine take fun e he hle => ?_
      rcases hG with ⟨g1, g2⟩ | ⟨g1, g2, g3, g4, g5⟩
      · have := g2 e he; omega
      · omega
    · rw [if_neg h2, xq_le (by omega) (by omega) (by omega) (by omega)]
      rcases hG with ⟨g1, g2⟩ | ⟨g1, g2, g3, g4, g5⟩
      · omega
      by_cases h3 : bs ≤ st k (h k).toNat
      · rw [if_pos h3, fB_earliestHead_65, xl_1, xI_add]
        refine xb_ehL hne hK hV hE hH hh hr q (k + 1) best bs (by omega) (by omega) b1 b2 (Or.inr ⟨g1, by omega, g3, g4, fun e he hle => ?_⟩)
        by_cases ek : e = k
        · subst ek; exact h3
        · exact g5 e (by omega) hle
      · rw [if_neg h3]
        exact take fun e he hle => by have := g5 e he hle; omega
theorem xb_eh {A : xj_H} {tn : Int} {ne : Nat} (hne : ne ≤ 8) {n le h : Nat → Int} {st : Nat → Nat → Int} (hK : xb_K A tn ne) (hV : xb_V A) (hE : xb_E A ne n le st) (hH : xk_a A 0 30 8 h) (hh : ∀ e, e < ne → 0 ≤ h e ∧ h e ≤ n e ∧ n e ≤ 200) (hr : ∀ e i : Nat, e < ne → (i : Int) < n e → -2000000000 ≤ st e i ∧ st e i ≤ 2000000000) : ∃ r bs', xb_G ne n st h ne r bs' ∧ fB_earliestHead (xj_o 0) A = some (.inl (some (.int (xI r))), A) := by
  obtain ⟨r, bs, r1, r2⟩ := xb_ehL hne hK hV hE hH hh hr xj_fu 0 (-1) 0 (by omega) (by unfold xj_fu; omega) (by omega) (by omega) (Or.inl ⟨rfl, fun e he => by omega⟩)
  refine ⟨r, bs, r1, ?_⟩
  unfold fB_earliestHead
  rw [show ((0 : Nat) : Int) = 0 from rfl] at r2
  rw [xl_m1, xl_0]
  exact r2
def xb_s (h : Nat → Int) : Nat → Int
  | 0 => 0
  | n + 1 => xb_s h n + h n
theorem xb_s_u {h : Nat → Int} {e : Nat} {x : Int} : ∀ {n : Nat}, e < n → xb_s (xk_p h e x) n = xb_s h n - h e + x
  | 0, h => by omega
  | n + 1, h1 => by
    unfold xb_s
    by_cases en : e = n
    · subst en
      have : ∀ m, m ≤ e → xb_s (xk_p h e x) m = xb_s h m := by
        intro m
        induction m with
        | zero => intro _; rfl
        | succ m ih => intro hm; unfold xb_s; rw [ih (by omega), xk_p_n _ _ (by omega)]
      rw [this e (Nat.le_refl _), xk_p_e]
      omega
    · rw [xb_s_u (n := n) (by omega), xk_p_n _ _ (fun hh => en hh.symm)]
      omega
theorem xb_s_0 : ∀ {h : Nat → Int} {n : Nat}, (∀ e, e < n → h e = 0) → xb_s h n = 0
  | _, 0, _ => rfl
  | h, n + 1, h1 => by
    unfold xb_s
    rw [xb_s_0 (n := n) (fun e he => h1 e (by omega)), h1 n (by omega)]
    omega
theorem xb_s_b : ∀ {h : Nat → Int} {n : Nat}, (∀ e, e < n → h e ≤ 200) → xb_s h n ≤ 200 * n
  | _, 0, _ => by simp [xb_s]
  | h, n + 1, h1 => by
    unfold xb_s
    have := xb_s_b (n := n) (fun e he => h1 e (by omega))
    have := h1 n (by omega)
    omega
theorem xb_s_f {h : Nat → Int} : ∀ {n : Nat}, (∀ e, e < n → h e ≤ 200) → 200 * n ≤ xb_s h n → ∀ e, e < n → h e = 200
  | 0, _, _, e, he => by omega
  | n + 1, h1, h2, e, he => by
    unfold xb_s at h2
    have g1 := xb_s_b (h := h) (n := n) (fun e he => h1 e (by omega))
    have g2 := h1 n (by omega)
    by_cases en : e = n
    · subst en; omega
    · exact xb_s_f (n := n) (fun e he => h1 e (by omega)) (by omega) e (by omega)

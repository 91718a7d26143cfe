/-! The class takes a word, and a weekday. -/
theorem xr_twL {q tx ru n i s : Nat} {w : List Int} (hS : xr_S s w) {T : Nat → Int} (hn : n ≤ 60) (hw : w.length ≤ 60) {A : xj_H} {l : List Int} (hQ : xr_Q A q tx ru n i) (hT : xk_a A 1 tx 60 T) (hl : xr_at T n i l) (hle : w.length ≤ l.length) (hwc : ∀ c ∈ w, 0 ≤ c ∧ c ≤ 65535) :
    ∀ (z k : Nat), w.length - k < z → k ≤ w.length → (∀ j, j < k → l[j]? = w[j]?) →
      ((∀ j, j < w.length → l[j]? = w[j]?) ∧ ∃ B, fQ_takeWord_20 z (xj_o q) (some (.inr s)) (xI k) A = some (.inl (some (.int 1)), B) ∧ xr_Q B q tx ru n (i + w.length) ∧ xk_u (fun k => k = q) A B) ∨
      ((∃ j, j < w.length ∧ l[j]? ≠ w[j]?) ∧ fQ_takeWord_20 z (xj_o q) (some (.inr s)) (xI k) A = some (.inl (some (.int 0)), A))
  | 0, k, h, _, _ => by omega
  | z + 1, k, hz, hk, hj => by
    have hi := hl.1
    obtain ⟨s1, s2⟩ := hS
    obtain ⟨s3, s4⟩ := s2 A
    rw [fQ_takeWord_20, s1, s3, xe_bi, xq_le (by omega) (by omega) (by omega) (by omega)]
    by_cases hc : (w.length : Int) ≤ k
    · obtain ⟨B, b1, b2, b3⟩ := xr_mv hQ (i + w.length)
      rw [if_pos hc, xe_gi hQ rfl, xe_bind, s1, s3, xe_bi, xI_add]
      rw [show ((i + w.length : Nat) : Int) = (i : Int) + w.length from rfl] at b1
      rw [b1, xe_bind]
      exact Or.inl ⟨fun j h => hj j (by omega), B, rfl, b2, b3⟩
    · have hkl : k < l.length := by omega
      have hkw : k < w.length := by omega
      have e1 : w[k]? = some w[k] := List.getElem?_eq_getElem hkw
      have e2 : l[k]? = some l[k] := List.getElem?_eq_getElem hkl
      have e3 := hl.2.1 k _ e2
      simp only at e3
      have r1 := hwc _ (List.mem_of_getElem? e1)
      have r2 := hl.2.2 _ (List.mem_of_getElem? e2)
      rw [if_neg hc, xe_gr hQ rfl, xe_bind, xe_gi hQ rfl, xe_bind, xI_add, xk_ai hT (by omega) (by omega) (by omega), xe_bind, show ((i : Int) + k).toNat = i + k by omega, e3, s1, s4 k _ e1, xe_bi, xq_eq (by omega) (by omega) (by omega) (by omega)]
      by_cases he : l[k] = w[k]
      · rw [if_pos he, xl_1, xI_add]
        refine xr_twL ⟨s1, s2⟩ hn hw hQ hT hl hle hwc z (k + 1) (by omega) (by omega) fun j h => ?_
        by_cases ejk : j = k
        · subst ejk; rw [e1, e2, he]
        · exact hj j (by omega)
      · rw [if_neg he]
        exact Or.inr ⟨⟨k, hkw, by rw [e1, e2]; intro h; exact he (Option.some.inj h)⟩, rfl⟩
theorem xr_pre {l w : List Int} (hle : w.length ≤ l.length) (h : ∀ j, j < w.length → l[j]? = w[j]?) : l = w ++ l.drop w.length := by
  apply List.ext_getElem?
  intro j
  by_cases hj : j < w.length
  · rw [List.getElem?_append_left hj]; exact h j hj
  · rw [List.getElem?_append_right (by omega), List.getElem?_drop]
    congr 1
    omega
theorem xr_tw {q tx ru n i s : Nat} {w : List Int} (hS : xr_S s w) {T : Nat → Int} (hn : n ≤ 60) (hw : w.length ≤ 60) {A : xj_H} {l : List Int} (hQ : xr_Q A q tx ru n i) (hT : xk_a A 1 tx 60 T) (hl : xr_at T n i l) (hwc : ∀ c ∈ w, 0 ≤ c ∧ c ≤ 65535) :
    (∃ r B, l = w ++ r ∧ fQ_takeWord (xj_o q) (some (.inr s)) A = some (.inl (some (.int 1)), B) ∧ xr_Q B q tx ru n (i + w.length) ∧ xk_u (fun k => k = q) A B ∧ xr_at T n (i + w.length) r) ∨
    ((∀ r, l ≠ w ++ r) ∧ fQ_takeWord (xj_o q) (some (.inr s)) A = some (.inl (some (.int 0)), A)) := by
  have hS' := hS
  obtain ⟨s1, s2⟩ := hS'
  obtain ⟨s3, s4⟩ := s2 A
  have hi := hl.1
  unfold fQ_takeWord
  rw [s1, s3, xe_bi, xe_gi hQ rfl, xe_bind, xe_gi hQ rfl, xe_bind, xI_sub, xq_le (by omega) (by omega) (by omega) (by omega)]
  by_cases hc : (w.length : Int) ≤ (n : Int) - i
  · rw [if_pos hc, xl_0]
    rcases xr_twL hS hn hw hQ hT hl (by omega) hwc xj_fu 0 (by unfold xj_fu; omega) (by omega) (fun j h => by omega) with ⟨h1, B, b1, b2, b3⟩ | ⟨⟨j, j1, j2⟩, h2⟩
    · have hp := xr_pre (by omega) h1
      rw [hp] at hl
      exact Or.inl ⟨_, B, hp, b1, b2, b3, xr_at_a hl⟩
    · refine Or.inr ⟨fun r hr => j2 ?_, h2⟩
      rw [hr, List.getElem?_append_left j1]
  · rw [if_neg hc]
    refine Or.inr ⟨fun r hr => ?_, rfl⟩
    rw [hr, List.length_append] at hi
    omega
def xr_wa (w : Nat) : Int := xr_w114.getD (2 * w) 0
def xr_wb (w : Nat) : Int := xr_w114.getD (2 * w + 1) 0
theorem xr_07 {j : Nat} (h : j < 7) : j = 0 ∨ j = 1 ∨ j = 2 ∨ j = 3 ∨ j = 4 ∨ j = 5 ∨ j = 6 := by omega
theorem xr_wab {j : Nat} (h : j < 7) : xr_w114[2 * j]? = some (xr_wa j) ∧ xr_w114[2 * j + 1]? = some (xr_wb j) ∧ 65 ≤ xr_wa j ∧ xr_wa j ≤ 90 ∧ 65 ≤ xr_wb j ∧ xr_wb j ≤ 90 := by
  rcases xr_07 h with rfl | rfl | rfl | rfl | rfl | rfl | rfl <;> decide
/-- the weekday of two letters, or -1 -/
def xr_wi (a b : Int) : Int := if a = 77 ∧ b = 79 then 0 else if a = 84 ∧ b = 85 then 1 else if a = 87 ∧ b = 69 then 2 else if a = 84 ∧ b = 72 then 3 else if a = 70 ∧ b = 82 then 4 else if a = 83 ∧ b = 65 then 5 else if a = 83 ∧ b = 85 then 6 else -1
theorem xr_wi_y {j : Nat} (h : j < 7) : xr_wi (xr_wa j) (xr_wb j) = j := by
  rcases xr_07 h with rfl | rfl | rfl | rfl | rfl | rfl | rfl <;> decide
theorem xr_wi_n {a b : Int} (h : ∀ j, j < 7 → ¬ (a = xr_wa j ∧ b = xr_wb j)) : xr_wi a b = -1 := by
  have h0 : ¬ (a = 77 ∧ b = 79) := h 0 (by decide)
  have h1 : ¬ (a = 84 ∧ b = 85) := h 1 (by decide)
  have h2 : ¬ (a = 87 ∧ b = 69) := h 2 (by decide)
  have h3 : ¬ (a = 84 ∧ b = 72) := h 3 (by decide)
  have h4 : ¬ (a = 70 ∧ b = 82) := h 4 (by decide)
  have h5 : ¬ (a = 83 ∧ b = 65) := h 5 (by decide)
  have h6 : ¬ (a = 83 ∧ b = 85) := h 6 (by decide)
  unfold xr_wi
  rw [if_neg h0, if_neg h1, if_neg h2, if_neg h3, if_neg h4, if_neg h5, if_neg h6]
theorem xr_wi_b {a b : Int} : -1 ≤ xr_wi a b ∧ xr_wi a b ≤ 6 := by
  unfold xr_wi
  repeat' split
  all_goals omega
theorem xr_wdL {q tx ru n i : Nat} {T : Nat → Int} (hn : n ≤ 60) {A : xj_H} {a b : Int} {r : List Int} (hQ : xr_Q A q tx ru n i) (hT : xk_a A 1 tx 60 T) (hl : xr_at T n i (a :: b :: r)) :
    ∀ (z k : Nat), 7 - k < z → k ≤ 7 → (∀ j, j < k → ¬ (a = xr_wa j ∧ b = xr_wb j)) →
      (∃ B, 0 ≤ xr_wi a b ∧ fQ_takeWeekday_17 z (xj_o q) (xI k) A = some (.inl (some (.int (xI (xr_wi a b)))), B) ∧ xr_Q B q tx ru n (i + 2) ∧ xk_u (fun k => k = q) A B) ∨
      (xr_wi a b = -1 ∧ fQ_takeWeekday_17 z (xj_o q) (xI k) A = some (.inl (some (.int (xI (-1)))), A))
  | 0, k, h, _, _ => by omega
  | z + 1, k, hz, hk, hj => by
    have hi := hl.1
    obtain ⟨g1, g2, g3, g4⟩ := xr_at_h hl
    obtain ⟨f1, f2, f3, f4⟩ := xr_at_h (xr_at_1 hl)
    obtain ⟨s1, s2⟩ := xr_s114
    obtain ⟨s3, s4⟩ := s2 A
    rw [fQ_takeWeekday_17, xl_7, xq_le (by omega) (by omega) (by omega) (by omega)]
    by_cases hc : (7 : Int) ≤ k
    · rw [if_pos hc]
      exact Or.inr ⟨xr_wi_n fun j h => hj j (by omega), rfl⟩
    obtain ⟨w1, w2, w3, w4, w5, w6⟩ := xr_wab (j := k) (by omega)
    have c1 := s4 (2 * k) _ w1
    have c2 := s4 (2 * k + 1) _ w2
    rw [show ((2 * k : Nat) : Int) = 2 * (k : Int) from rfl] at c1
    rw [show ((2 * k + 1 : Nat) : Int) = 2 * (k : Int) + 1 from rfl] at c2
    rw [if_neg hc, xe_gr hQ rfl, xe_bind, xe_gi hQ rfl, xe_bind, xk_ai hT (by omega) (by omega) (by omega), xe_bind, Int.toNat_natCast, g1, xl_2, xI_mul, s1, c1, xe_bi, xq_ne (by omega) (by omega) (by omega) (by omega)]
    have nx : ¬ (a = xr_wa k ∧ b = xr_wb k) → (∃ B, 0 ≤ xr_wi a b ∧ fQ_takeWeekday_89 (fQ_takeWeekday_17 z) (xj_o q) (xI k) A = some (.inl (some (.int (xI (xr_wi a b)))), B) ∧ xr_Q B q tx ru n (i + 2) ∧ xk_u (fun k => k = q) A B) ∨
      (xr_wi a b = -1 ∧ fQ_takeWeekday_89 (fQ_takeWeekday_17 z) (xj_o q) (xI k) A = some (.inl (some (.int (xI (-1)))), A)) := by
      intro hne
      rw [fQ_takeWeekday_89, xl_1, xI_add]
      refine xr_wdL hn hQ hT hl z (k + 1) (by omega) (by omega) fun j h => ?_
      by_cases ejk : j = k
      · subst ejk; exact hne
      · exact hj j (by omega)
    by_cases ea : a = xr_wa k
    · rw [if_pos ea, fQ_takeWeekday_48, xk_b1, xe_gr hQ rfl, xe_bind, xe_gi hQ rfl, xe_bind, xl_1, xI_add, xk_ai hT (by omega) (by omega) (by omega), xe_bind, show ((i : Int) + 1).toNat = i + 1 by omega, f1, xl_2, xI_mul, xI_add, s1, c2, xe_bi, xq_ne (by omega) (by omega) (by omega) (by omega)]
      by_cases eb : b = xr_wb k
      · obtain ⟨B, b1, b2, b3⟩ := xr_mv hQ (i + 2)
        rw [show ((i + 2 : Nat) : Int) = (i : Int) + 2 from rfl] at b1
        rw [if_pos eb, xe_gi hQ rfl, xe_bind, xI_add, b1, xe_bind]
        have hw := xr_wi_y (j := k) (by omega)
        rw [← ea, ← eb] at hw
        rw [hw]
        exact Or.inl ⟨B, by omega, rfl, b2, b3⟩
      · rw [if_neg eb]
        exact nx fun h => eb h.2
    · rw [if_neg ea, fQ_takeWeekday_48, xk_b0]
      exact nx fun h => ea h.1
/-- the weekday that stands there -/
def xr_wday (l : List Int) : Int := match l with
  | a :: b :: _ => xr_wi a b
  | _ => -1
theorem xr_twd {q tx ru n i : Nat} {T : Nat → Int} (hn : n ≤ 60) {A : xj_H} {l : List Int} (hQ : xr_Q A q tx ru n i) (hT : xk_a A 1 tx 60 T) (hl : xr_at T n i l) :
    (∃ B, 0 ≤ xr_wday l ∧ fQ_takeWeekday (xj_o q) A = some (.inl (some (.int (xI (xr_wday l)))), B) ∧ xr_Q B q tx ru n (i + 2) ∧ xk_u (fun k => k = q) A B ∧ xr_at T n (i + 2) (l.drop 2)) ∨
    (xr_wday l = -1 ∧ fQ_takeWeekday (xj_o q) A = some (.inl (some (.int (xI (-1)))), A)) := by
  have hi := hl.1
  unfold fQ_takeWeekday
  rw [xe_gi hQ rfl, xe_bind, xe_gi hQ rfl, xe_bind, xl_1, xI_add, xq_lt (by omega) (by omega) (by omega) (by omega)]
  match l, hl, hi with
  | [], hl, hi => rw [if_neg (by simp at hi; omega)]; exact Or.inr ⟨rfl, rfl⟩
  | [a], hl, hi => rw [if_neg (by simp at hi; omega)]; exact Or.inr ⟨rfl, rfl⟩
  | a :: b :: r, hl, hi =>
    rw [if_pos (by simp at hi; omega), xl_0]
    rcases xr_wdL hn hQ hT hl xj_fu 0 (by unfold xj_fu; omega) (by omega) (fun j h => by omega) with ⟨B, h1, h2, h3, h4⟩ | h
    · exact Or.inl ⟨B, h1, h2, h3, h4, xr_at_1 (xr_at_1 hl)⟩
    · exact Or.inr h

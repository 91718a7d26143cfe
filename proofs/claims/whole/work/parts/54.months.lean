/-! The month of a day. -/
/-- m is the month of the day d -/
def xd_mo (d m : Int) : Prop := 0 ≤ m ∧ xd_ms m ≤ d ∧ d < xd_ms (m + 1)
theorem xd_lt {m : Int} (h : 0 ≤ m) : xd_ms m + 28 ≤ xd_ms (m + 1) ∧ xd_ms (m + 1) ≤ xd_ms m + 31 := by
  have hs := xd_step (y := m / 12) (m := m % 12 + 1) (by omega) (by omega) (by omega)
  have hl := xd_ml_b (m / 12) (m % 12 + 1)
  rw [show 12 * (m / 12) + (m % 12 + 1) = m + 1 by omega, show m + 1 - 1 = m by omega] at hs
  omega
theorem xd_mono {m : Int} (h : 0 ≤ m) : ∀ n : Nat, xd_ms m + 28 * (n : Int) ≤ xd_ms (m + n)
  | 0 => by simp
  | n + 1 => by
    have h1 := xd_mono h n
    have h2 := xd_lt (m := m + n) (by omega)
    rw [show m + ((n + 1 : Nat) : Int) = m + n + 1 by omega]
    have h3 : 28 * ((n + 1 : Nat) : Int) = 28 * (n : Int) + 28 := by omega
    omega
theorem xd_mono' {m n : Int} (h : 0 ≤ m) (hn : m ≤ n) : xd_ms m + 28 * (n - m) ≤ xd_ms n := by
  have h1 := xd_mono h (n - m).toNat
  rw [show ((n - m).toNat : Int) = n - m by omega, show m + (n - m) = n by omega] at h1
  exact h1
theorem xd_mo_u {d m n : Int} (h1 : xd_mo d m) (h2 : xd_mo d n) : m = n := by
  obtain ⟨a1, a2, a3⟩ := h1
  obtain ⟨b1, b2, b3⟩ := h2
  by_cases hmn : m < n
  · have := xd_mono' (m := m + 1) (n := n) (by omega) (by omega)
    omega
  · by_cases hnm : n < m
    · have := xd_mono' (m := n + 1) (n := m) (by omega) (by omega)
      omega
    · omega
theorem xd_year {d : Int} (h0 : 0 ≤ d) (h1 : d ≤ 40000) : xd_ms (12 * (4 * d / 1461)) ≤ d ∧ d < xd_ms (12 * (4 * d / 1461) + 12) ∧ 0 ≤ 4 * d / 1461 ∧ 4 * d / 1461 ≤ 109 := by
  have e1 := xd_ms_k (y := 4 * d / 1461) (k := 0) (by omega) (by omega)
  have e2 := xd_ms_k (y := 4 * d / 1461 + 1) (k := 0) (by omega) (by omega)
  rw [show 12 * (4 * d / 1461) + 0 = 12 * (4 * d / 1461) by omega] at e1
  rw [show 12 * (4 * d / 1461 + 1) + 0 = 12 * (4 * d / 1461) + 12 by omega] at e2
  rw [e1, e2]
  simp [xd_dm]
  omega
theorem xd_guess {y r : Int} (hy : 0 ≤ y) (h0 : 0 ≤ r) (h1 : r < xd_ms (12 * y + 12) - xd_ms (12 * y)) : r / 31 ≤ 11 ∧ xd_ms (12 * y + r / 31) ≤ xd_ms (12 * y) + r ∧ xd_ms (12 * y) + r < xd_ms (12 * y + r / 31 + 2) := by
  have e0 := xd_ms_k (y := y) (k := 0) (by omega) (by omega)
  have e1 := xd_ms_k (y := y + 1) (k := 0) (by omega) (by omega)
  have e2 := xd_ms_k (y := y + 1) (k := 1) (by omega) (by omega)
  rw [show 12 * y + 0 = 12 * y by omega] at e0
  rw [show 12 * (y + 1) + 0 = 12 * y + 12 by omega] at e1
  rw [show 12 * (y + 1) + 1 = 12 * y + 13 by omega] at e2
  have hk : r / 31 ≤ 11 := by
    rw [e0, e1] at h1
    simp [xd_dm] at h1
    omega
  refine ⟨hk, ?_⟩
  have hk0 : 0 ≤ r / 31 := by omega
  generalize hq : r / 31 = k at *
  rw [e0, e1] at h1
  rcases xd_12 hk0 (by omega) with rfl | rfl | rfl | rfl | rfl | rfl | rfl | rfl | rfl | rfl | rfl | rfl
  all_goals
    first
    | (rw [xd_ms_k (y := y) (by omega) (by omega), show ∀ k : Int, 12 * y + k + 2 = 12 * y + (k + 2) from fun k => by omega, xd_ms_k (y := y) (k := _ + 2) (by omega) (by omega), e0]
       simp [xd_dm] at h1 ⊢
       by_cases hy4 : y % 4 = 0 <;> simp [hy4] at h1 ⊢ <;> omega)
    | (rw [xd_ms_k (y := y) (by omega) (by omega), show 12 * y + 10 + 2 = 12 * y + 12 by omega, e1, e0]
       simp [xd_dm] at h1 ⊢
       by_cases hy4 : y % 4 = 0 <;> simp [hy4] at h1 ⊢ <;> omega)
    | (rw [xd_ms_k (y := y) (by omega) (by omega), show 12 * y + 11 + 2 = 12 * y + 13 by omega, e2, e0]
       simp [xd_dm] at h1 ⊢
       by_cases hy4 : y % 4 = 0 <;> simp [hy4] at h1 ⊢ <;> omega)
theorem xv_monthOf {d : Int} (h0 : 0 ≤ d) (h1 : d ≤ 40000) (A : xj_H) : ∃ m, xd_mo d m ∧ m ≤ 1320 ∧ fD_monthOf (xI d) A = some (.inl (some (.int (xI m))), A) := by
  obtain ⟨y1, y2, y3, y4⟩ := xd_year h0 h1
  generalize hyy : 4 * d / 1461 = y at *
  obtain ⟨g1, g2, g3⟩ := xd_guess (y := y) (r := d - xd_ms (12 * y)) y3 (by omega) (by omega)
  rw [show xd_ms (12 * y) + (d - xd_ms (12 * y)) = d by omega] at g2 g3
  have hb : xd_ms (12 * y) ≤ 40000 := by omega
  have hb0 := (xd_mono' (m := 0) (n := 12 * y) (by omega) (by omega))
  have hz : xd_ms 0 = 0 := by decide
  have hb9 := (xd_mono' (m := 0) (n := 12 * y + (d - xd_ms (12 * y)) / 31 + 1) (by omega) (by omega))
  have hb8 := xd_lt (m := 12 * y + (d - xd_ms (12 * y)) / 31) (by omega)
  have hf : fD_monthOf (xI d) A = if d < xd_ms (12 * y + (d - xd_ms (12 * y)) / 31 + 1) then some (.inl (some (.int (xI (12 * y + (d - xd_ms (12 * y)) / 31)))), A) else some (.inl (some (.int (xI (12 * y + (d - xd_ms (12 * y)) / 31 + 1)))), A) := by
    unfold fD_monthOf
    rw [xv_yearOf h0 (by omega), xe_bi, hyy, xl_12, xI_mul, xv_monthStart (by omega) (by omega), xe_bi, xI_sub, xl_31, xt_div (by omega) (by omega) (by omega) (by omega), xI_add, xl_1, xI_add, xv_monthStart (by omega) (by omega), xe_bi, xq_lt (by omega) (by omega) (by omega) (by omega)]
    rfl
  rw [hf]
  by_cases hd : d < xd_ms (12 * y + (d - xd_ms (12 * y)) / 31 + 1)
  · exact ⟨12 * y + (d - xd_ms (12 * y)) / 31, ⟨by omega, g2, hd⟩, by omega, by rw [if_pos hd]⟩
  · refine ⟨12 * y + (d - xd_ms (12 * y)) / 31 + 1, ⟨by omega, by omega, ?_⟩, by omega, by rw [if_neg hd]⟩
    rw [show 12 * y + (d - xd_ms (12 * y)) / 31 + 1 + 1 = 12 * y + (d - xd_ms (12 * y)) / 31 + 2 by omega]
    exact g3
theorem xd_mo_b {d m : Int} (h : xd_mo d m) (h1 : d ≤ 36524) : m ≤ 1199 := by
  obtain ⟨a1, a2, a3⟩ := h
  by_cases hm : m ≤ 1199
  · exact hm
  · have := xd_mono' (m := 1200) (n := m) (by omega) (by omega)
    have hz : xd_ms 1200 = 36525 := by decide
    omega
theorem xd_split {d : Int} (h0 : 0 ≤ d) (h1 : d ≤ 40000) : (if 366 ≤ d % 1461 then d / 1461 * 4 + (d % 1461 - 1) / 365 else d / 1461 * 4 + 0) = 4 * d / 1461 := by
  split <;> omega
/-- the model's scratch: its fields 26, 27, 28 hold year, month, number -/
theorem xv_splitL {a : Nat} {y : Int} (hy0 : 0 ≤ y) (hy1 : y ≤ 200) {d : Int} (hd : d < xd_ms (12 * y + 12)) : ∀ (n : Nat) (m : Int) (A : xj_H) (fs : List Value), A.1[a]? = some (.inr (7, fs)) → fs.length = 36 → fs[26]? = some (.int (xI y)) → fs[27]? = some (.int (xI m)) → 1 ≤ m → m ≤ 12 → xd_ms (12 * y + m - 1) ≤ d → (12 - m).toNat < n →
    ∃ m', 1 ≤ m' ∧ m' ≤ 12 ∧ xd_ms (12 * y + m' - 1) ≤ d ∧ d < xd_ms (12 * y + m') ∧ fM_split_54 n (xj_o a) (xI (d - xd_ms (12 * y + m - 1))) A = some (.inl none, (A.1.set a (.inr (7, (fs.set 27 (.int (xI m'))).set 28 (.int (xI (d - xd_ms (12 * y + m' - 1) + 1))))), A.2))
  | 0, m, A, fs, _, _, _, _, _, _, _, h => by omega
  | n + 1, m, A, fs, hA, hlen, h26, h27, m0, m1, hm, hn => by
    have hs := xd_step (y := y) (m := m) hy0 m0 m1
    have hl := xd_ml_b y m
    have hbig := (xd_mono' (m := 0) (n := 12 * y + m - 1) (by omega) (by omega))
    have hz : xd_ms 0 = 0 := by decide
    have hup := xd_ms_k (y := y + 1) (k := 0) (by omega) (by omega)
    rw [show 12 * (y + 1) + 0 = 12 * y + 12 by omega] at hup
    simp [xd_dm] at hup
    rw [fM_split_54, xe_gi hA h26, xe_bind, xe_gi hA h27, xe_bind, xv_monthLength hy0 (by omega) m0 m1, xe_bi, xq_lt (by omega) (by omega) (by omega) (by omega)]
    by_cases hc : d - xd_ms (12 * y + m - 1) < xd_ml y m
    · refine ⟨m, m0, m1, hm, by omega, ?_⟩
      rw [if_pos hc, xl_1, xI_add, xe_pv hA (by omega), xe_bind]
      have hset : fs.set 27 (.int (xI m)) = fs := by
        apply List.ext_getElem?
        intro j
        by_cases hj : 27 = j
        · subst hj
          rw [List.getElem?_set_self (by omega), h27]
        · rw [List.getElem?_set_ne hj]
      rw [hset]
    · have hm12 : m ≠ 12 := by
        intro h
        subst h
        omega
      rw [if_neg hc, xe_gi hA h26, xe_bind, xe_gi hA h27, xe_bind, xv_monthLength hy0 (by omega) m0 m1, xe_bi, xe_gi hA h27, xe_bind, xl_1, xI_add, xe_pv hA (by omega), xe_bind, xI_sub]
      have hA' : (A.1.set a (.inr (7, fs.set 27 (.int (xI (m + 1))))))[a]? = some (.inr (7, fs.set 27 (.int (xI (m + 1))))) := xe_set_eq hA
      obtain ⟨m', p1, p2, p3, p4, p5⟩ := xv_splitL hy0 hy1 hd n (m + 1) (A.1.set a (.inr (7, fs.set 27 (.int (xI (m + 1))))), A.2) (fs.set 27 (.int (xI (m + 1)))) hA' (by simp [hlen]) (by rw [List.getElem?_set_ne (by decide)]; exact h26) (by rw [List.getElem?_set_self (by omega)]) (by omega) (by omega) (by rw [show 12 * y + (m + 1) - 1 = 12 * y + m by omega]; omega) (by omega)
      refine ⟨m', p1, p2, p3, p4, ?_⟩
      rw [show d - xd_ms (12 * y + m - 1) - xd_ml y m = d - xd_ms (12 * y + (m + 1) - 1) by rw [show 12 * y + (m + 1) - 1 = 12 * y + m by omega]; omega, p5]
      simp only [List.set_set]
theorem xv_split {a : Nat} {d : Int} (h0 : 0 ≤ d) (h1 : d ≤ 40000) {A : xj_H} {fs : List Value} (hA : A.1[a]? = some (.inr (7, fs))) (hlen : fs.length = 36) :
    ∃ m, xd_mo d m ∧ fM_split (xj_o a) (xI d) A = some (.inl none, (A.1.set a (.inr (7, ((fs.set 26 (.int (xI (m / 12)))).set 27 (.int (xI (m % 12 + 1)))).set 28 (.int (xI (d - xd_ms m + 1))))), A.2)) := by
  obtain ⟨y1, y2, y3, y4⟩ := xd_year h0 h1
  have hy := xd_split h0 h1
  have hstep : fM_split (xj_o a) (xI d) A = fM_split_24 (xj_o a) (xI d) (xI (if 366 ≤ d % 1461 then (d % 1461 - 1) / 365 else 0)) A := by
    unfold fM_split
    rw [xl_366, xl_1461, xt_mod h0 (by omega) (by omega) (by omega), xq_le (by omega) (by omega) (by omega) (by omega), xl_1, xI_sub, xl_365, xl_0]
    by_cases hc : 366 ≤ d % 1461
    · rw [if_pos hc, if_pos hc, xt_div (by omega) (by omega) (by omega) (by omega)]
    · rw [if_neg hc, if_neg hc]
  have hyy : d / 1461 * 4 + (if 366 ≤ d % 1461 then (d % 1461 - 1) / 365 else 0) = 4 * d / 1461 := by
    rw [← hy]
    split <;> rfl
  rw [hstep]
  unfold fM_split_24
  rw [xl_1461, xt_div h0 (by omega) (by omega) (by omega), xl_4, xI_mul, xI_add, hyy, xe_pv hA (by omega), xe_bind]
  generalize 4 * d / 1461 = y at *
  have hA1 : (A.1.set a (.inr (7, fs.set 26 (.int (xI y)))))[a]? = some (.inr (7, fs.set 26 (.int (xI y)))) := xe_set_eq hA
  rw [xe_gi (A := (A.1.set a (.inr (7, fs.set 26 (.int (xI y)))), A.2)) hA1 (by rw [List.getElem?_set_self (by omega)]), xe_bind, xv_yearBegin y3 (by omega), xe_bi, xe_pv (A := (A.1.set a (.inr (7, fs.set 26 (.int (xI y)))), A.2)) hA1 (by simp [hlen]), xe_bind, xI_sub]
  simp only [List.set_set]
  have hA2 : (A.1.set a (.inr (7, (fs.set 26 (.int (xI y))).set 27 (.int 1))))[a]? = some (.inr (7, (fs.set 26 (.int (xI y))).set 27 (.int 1))) := xe_set_eq hA
  obtain ⟨m', p1, p2, p3, p4, p5⟩ := xv_splitL (a := a) y3 (by omega) y2 xj_fu 1 (A.1.set a (.inr (7, (fs.set 26 (.int (xI y))).set 27 (.int 1))), A.2) ((fs.set 26 (.int (xI y))).set 27 (.int 1)) hA2 (by simp [hlen]) (by rw [List.getElem?_set_ne (by decide), List.getElem?_set_self (by omega)]) (by rw [List.getElem?_set_self (by simp [hlen])]; rfl) (by omega) (by omega) (by rw [show 12 * y + 1 - 1 = 12 * y by omega]; exact y1) (by unfold xj_fu; omega)
  rw [show 12 * y + 1 - 1 = 12 * y by omega] at p5
  refine ⟨12 * y + m' - 1, ⟨by omega, p3, by rw [show 12 * y + m' - 1 + 1 = 12 * y + m' by omega]; exact p4⟩, ?_⟩
  rw [show (12 * y + m' - 1) / 12 = y by omega, show (12 * y + m' - 1) % 12 + 1 = m' by omega, p5]
  simp only [List.set_set]

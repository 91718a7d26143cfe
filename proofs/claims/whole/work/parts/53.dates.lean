/-! The calendar: class and reference give the same numbers. -/
theorem xd_ms_b {m : Int} (h0 : 0 ≤ m) (h1 : m ≤ 1300) : 0 ≤ xd_ms m ∧ xd_ms m ≤ 40000 := by
  have hb := xd_dm_b (i := m % 12) (by omega) (by omega)
  unfold xd_ms
  split <;> omega
/-- a month's length -/
def xd_ml (y m : Int) : Int := if m = 2 then (if y % 4 = 0 then 29 else 28) else if m = 4 ∨ m = 6 ∨ m = 9 ∨ m = 11 then 30 else 31
theorem xd_13 {i : Int} (h0 : 1 ≤ i) (h1 : i ≤ 12) : i = 1 ∨ i = 2 ∨ i = 3 ∨ i = 4 ∨ i = 5 ∨ i = 6 ∨ i = 7 ∨ i = 8 ∨ i = 9 ∨ i = 10 ∨ i = 11 ∨ i = 12 := by omega
theorem xd_ms_k {y k : Int} (h0 : 0 ≤ k) (h1 : k < 12) : xd_ms (12 * y + k) = 365 * y + (y + 3) / 4 + xd_dm k + (if 2 ≤ k ∧ y % 4 = 0 then 1 else 0) := by
  unfold xd_ms
  rw [show (12 * y + k) % 12 = k by omega, show (12 * y + k) / 12 = y by omega]
theorem xd_step {y m : Int} (h0 : 0 ≤ y) (h1 : 1 ≤ m) (h2 : m ≤ 12) : xd_ms (12 * y + m) = xd_ms (12 * y + m - 1) + xd_ml y m := by
  rw [show 12 * y + m - 1 = 12 * y + (m - 1) by omega, xd_ms_k (k := m - 1) (by omega) (by omega)]
  by_cases hm : m = 12
  · subst hm
    rw [show 12 * y + 12 = 12 * (y + 1) + 0 by omega, xd_ms_k (k := 0) (by omega) (by omega)]
    by_cases hy : y % 4 = 0
    · simp [xd_dm, xd_ml, hy]; omega
    · simp [xd_dm, xd_ml, hy]; omega
  · rw [xd_ms_k (k := m) (by omega) (by omega)]
    by_cases hy : y % 4 = 0
    · rcases xd_13 h1 h2 with rfl | rfl | rfl | rfl | rfl | rfl | rfl | rfl | rfl | rfl | rfl | rfl <;> simp [xd_dm, xd_ml, hy] <;> omega
    · rcases xd_13 h1 h2 with rfl | rfl | rfl | rfl | rfl | rfl | rfl | rfl | rfl | rfl | rfl | rfl <;> simp [xd_dm, xd_ml, hy] <;> omega
theorem xj_ri {a b : Int} {A : xj_H} (h : a = b) : (some (.inl (some (.int (xI a))), A) : Option xj_R) = some (.inl (some (.int (xI b))), A) := by rw [h]
theorem xd_ml_b (y m : Int) : 28 ≤ xd_ml y m ∧ xd_ml y m ≤ 31 := by
  unfold xd_ml
  split
  · split <;> omega
  · split <;> omega
theorem xv_weekdayOf {d : Int} (h0 : 0 ≤ d) (h1 : d ≤ 1000000) (A : xj_H) : fD_weekdayOf (xI d) A = some (.inl (some (.int (xI ((d + 5) % 7)))), A) := by
  unfold fD_weekdayOf
  simp (disch := omega) only [xl_5, xl_7, xI_add, xt_mod]
theorem xv_weekday {d : Int} (h0 : 0 ≤ d) (h1 : d ≤ 1000000) (A : xj_H) : fM_weekday (xI d) A = some (.inl (some (.int (xI ((d + 5) % 7)))), A) := by
  unfold fM_weekday
  simp (disch := omega) only [xl_5, xl_7, xI_add, xt_mod]
theorem xv_yearOf {d : Int} (h0 : 0 ≤ d) (h1 : d ≤ 1000000) (A : xj_H) : fD_yearOf (xI d) A = some (.inl (some (.int (xI (4 * d / 1461)))), A) := by
  unfold fD_yearOf
  simp (disch := omega) only [xl_4, xl_1461, xI_mul, xt_div]
theorem xv_monthLength {y m : Int} (h0 : 0 ≤ y) (h1 : y ≤ 1000) (h2 : 1 ≤ m) (h3 : m ≤ 12) (A : xj_H) : fM_monthLength (xI y) (xI m) A = some (.inl (some (.int (xI (xd_ml y m)))), A) := by
  unfold fM_monthLength
  simp (disch := omega) only [xl_2, xl_4, xl_6, xl_9, xl_11, xl_0, xt_eq, xt_mod, fM_monthLength_42, fM_monthLength_49, fM_monthLength_18, xl_30, xl_31, xl_28, xl_29]
  unfold xd_ml
  rcases xd_13 h2 h3 with rfl | rfl | rfl | rfl | rfl | rfl | rfl | rfl | rfl | rfl | rfl | rfl <;> simp
  split <;> simp_all
theorem xv_yearBegin {y : Int} (h0 : 0 ≤ y) (h1 : y ≤ 1000) (A : xj_H) : fM_yearBegin (xI y) A = some (.inl (some (.int (xI (xd_ms (12 * y))))), A) := by
  unfold fM_yearBegin
  simp (disch := omega) only [xl_4, xl_0, xl_365, xl_1, xl_1461, xt_mod, xt_div, xI_mul, xI_add, xt_eq, fM_yearBegin_26]
  have he : xd_ms (12 * y) = 365 * y + (y + 3) / 4 := by
    unfold xd_ms
    rw [show 12 * y % 12 = 0 by omega, show 12 * y / 12 = y by omega]
    simp [xd_dm]
  rw [he]
  split
  · exact xj_ri (by omega)
  · exact xj_ri (by omega)
theorem xv_sundayOf {m n : Int} (h0 : 0 ≤ m) (h1 : m ≤ 1200) (h2 : 1 ≤ n) (h3 : n ≤ 5) (A : xj_H) :
    fD_sundayOf (xI m) (xI n) A = some (.inl (some (.int (xI (let d := xd_ms m + 6 - (xd_ms m + 5) % 7 + 7 * (n - 1); if xd_ms (m + 1) ≤ d then d - 7 else d)))), A) := by
  have hb := xd_ms_b h0 (by omega : m ≤ 1300)
  have hb2 := xd_ms_b (m := m + 1) (by omega) (by omega)
  unfold fD_sundayOf
  rw [xv_monthStart h0 (by omega), xe_bi, xv_weekdayOf hb.1 (by omega), xe_bi, xl_1, xI_add, xv_monthStart (by omega) (by omega), xe_bi]
  simp (disch := omega) only [xl_6, xl_7, xI_add, xI_sub, xI_mul, xt_le, fD_sundayOf_40]
  split <;> rfl
theorem xv_dayOfL {y m : Int} (h0 : 0 ≤ y) (h1 : y ≤ 1000) (h2 : 1 ≤ m) (h3 : m ≤ 12) (A : xj_H) : ∀ (n : Nat) (k : Int) (d : Int), 1 ≤ k → k ≤ m → (m - k).toNat < n →
    fM_dayOf_12 n (xI y) (xI m) (xI d) (xI k) A = some (.inl (some (.int (xI (d + xd_ms (12 * y + m - 1) - xd_ms (12 * y + k - 1))))), A)
  | 0, k, d, _, _, h => by omega
  | n + 1, k, d, k0, k1, h => by
    rw [fM_dayOf_12, xq_le (by omega) (by omega) (by omega) (by omega)]
    by_cases hk : m ≤ k
    · have : k = m := by omega
      subst this
      rw [if_pos hk]
      exact xj_ri (by omega)
    · have hs := xd_step (y := y) (m := k) h0 k0 (by omega)
      have hl := xd_ml_b y k
      rw [if_neg hk, xv_monthLength h0 h1 k0 (by omega), xe_bi, xI_add, xI_1, xI_add, xv_dayOfL h0 h1 h2 h3 A n (k + 1) _ (by omega) (by omega) (by omega)]
      rw [show 12 * y + (k + 1) - 1 = 12 * y + k by omega]
      exact xj_ri (by omega)
theorem xv_mdayOf {y m d : Int} (h0 : 0 ≤ y) (h1 : y ≤ 100) (h2 : 1 ≤ m) (h3 : m ≤ 12) (d0 : 0 ≤ d) (d1 : d ≤ 100) (A : xj_H) : fM_dayOf (xI y) (xI m) (xI d) A = some (.inl (some (.int (xI (xd_ms (12 * y + m - 1) + d - 1)))), A) := by
  have hb := xd_ms_b (m := 12 * y) (by omega) (by omega)
  unfold fM_dayOf
  rw [xv_yearBegin h0 (by omega), xe_bi, xI_add, xl_1, xI_sub, xv_dayOfL h0 (by omega) h2 h3 A xj_fu 1 _ (by omega) (by omega) (by unfold xj_fu; omega)]
  rw [show 12 * y + 1 - 1 = 12 * y by omega]
  exact xj_ri (by omega)
theorem xv_sunday {y m n : Int} (h0 : 0 ≤ y) (h1 : y ≤ 99) (h2 : 1 ≤ m) (h3 : m ≤ 12) (n0 : 1 ≤ n) (n1 : n ≤ 5) (A : xj_H) :
    fM_sunday (xI y) (xI m) (xI n) A = fD_sundayOf (xI (12 * y + m - 1)) (xI n) A := by
  have hb := xd_ms_b (m := 12 * y + m - 1) (by omega) (by omega)
  have hs := xd_step (y := y) (m := m) h0 h2 h3
  have hl := xd_ml_b y m
  rw [xv_sundayOf (by omega) (by omega) n0 n1]
  unfold fM_sunday
  rw [xl_1, xv_mdayOf h0 (by omega) h2 h3 (by omega) (by omega), xe_bi, xv_weekday (by omega) (by omega), xe_bi, xv_monthLength h0 (by omega) h2 h3]
  simp (disch := omega) only [xl_5, xl_6, xl_7, xI_add, xI_sub, xI_mul, xt_eq, xt_lt, xe_bi, fM_sunday_50, fM_sunday_52]
  rw [show 12 * y + m - 1 + 1 = 12 * y + m by omega, hs]
  split
  · refine xj_ri ?_
    split <;> omega
  · split
    · refine xj_ri ?_
      split <;> omega
    · refine xj_ri ?_
      split <;> omega
theorem xv_isMonth {m : Int} (h1 : -2147483648 ≤ m) (h2 : m ≤ 2147483647) (A : xj_H) : fB_isMonth (xI m) A = some (.inl (some (.int (if 1 ≤ m ∧ m ≤ 12 then 1 else 0))), A) := by
  unfold fB_isMonth
  rw [xl_1, xl_12, xq_lt (by omega) (by omega) (by omega) (by omega), xq_lt (by omega) (by omega) (by omega) (by omega)]
  by_cases h3 : m < 1
  · rw [if_pos h3, if_neg (by omega)]; rfl
  · rw [if_neg h3]
    by_cases h4 : 12 < m
    · rw [if_pos h4, if_neg (by omega)]; rfl
    · rw [if_neg h4, if_pos (by omega)]; rfl
/-- date: both give the same answer at every three ints -/
theorem xv_dayOf (y m n : Int) (y1 : -2147483648 ≤ y) (y2 : y ≤ 2147483647) (m1 : -2147483648 ≤ m) (m2 : m ≤ 2147483647) (n1 : -2147483648 ≤ n) (n2 : n ≤ 2147483647) (A : xj_H) :
    fD_dayOf (xI y) (xI m) (xI n) A = some (.inl (some (.int (xI (if 2000 ≤ y ∧ y ≤ 2099 ∧ 1 ≤ m ∧ m ≤ 12 ∧ 1 ≤ n ∧ n ≤ xd_ml (y - 2000) m then xd_ms (12 * (y - 2000) + m - 1) + n - 1 else -1)))), A) := by
  unfold fD_dayOf
  rw [xl_2000, xl_2100, xq_lt (by omega) (by omega) (by omega) (by omega), xq_le (by omega) (by omega) (by omega) (by omega)]
  by_cases h1 : y < 2000
  · rw [if_pos h1, if_neg (by omega)]; rfl
  rw [if_neg h1]
  by_cases h2 : 2100 ≤ y
  · rw [if_pos h2, if_neg (by omega)]; rfl
  rw [if_neg h2, xv_isMonth m1 m2, xe_bi]
  by_cases h3 : 1 ≤ m ∧ m ≤ 12
  · rw [if_pos h3, if_pos (by decide)]
    have hb := xd_ms_b (m := 12 * (y - 2000) + m - 1) (by omega) (by omega)
    have hs := xd_step (y := y - 2000) (m := m) (by omega) h3.1 h3.2
    have hl := xd_ml_b (y - 2000) m
    rw [xl_12, xI_sub, xI_mul, xI_add, xl_1, xI_sub, xv_monthStart (by omega) (by omega), xe_bi, xI_add, xv_monthStart (by omega) (by omega), xq_lt (by omega) (by omega) (by omega) (by omega), xe_bi]
    by_cases h4 : n < 1
    · rw [if_pos h4, if_neg (by omega)]; rfl
    rw [if_neg h4, show 12 * (y - 2000) + m - 1 + 1 = 12 * (y - 2000) + m by omega, hs, xI_sub, xq_le (by omega) (by omega) (by omega) (by omega)]
    by_cases h5 : n ≤ xd_ml (y - 2000) m
    · rw [if_pos (by omega), if_pos (by omega), xI_add, xI_sub]
    · rw [if_neg (by omega), if_neg (by omega)]; rfl
  · rw [if_neg h3, if_neg (by decide), if_neg (by omega)]; rfl
theorem xv_isDate (y m n : Int) (y1 : -2147483648 ≤ y) (y2 : y ≤ 2147483647) (m1 : -2147483648 ≤ m) (m2 : m ≤ 2147483647) (n1 : -2147483648 ≤ n) (n2 : n ≤ 2147483647) (A : xj_H) :
    fM_isDate (xI y) (xI m) (xI n) A = some (.inl (some (.int (if 0 ≤ y ∧ y < 100 ∧ 1 ≤ m ∧ m ≤ 12 ∧ 1 ≤ n ∧ n ≤ xd_ml y m then 1 else 0))), A) := by
  unfold fM_isDate
  rw [xl_0, xl_100, xl_1, xl_12, xq_lt (by omega) (by omega) (by omega) (by omega), xq_le (by omega) (by omega) (by omega) (by omega), xq_lt (by omega) (by omega) (by omega) (by omega), xq_lt (by omega) (by omega) (by omega) (by omega), xq_lt (by omega) (by omega) (by omega) (by omega)]
  by_cases h1 : y < 0
  · rw [if_pos h1, if_neg (by omega)]; rfl
  rw [if_neg h1]
  by_cases h2 : 100 ≤ y
  · rw [if_pos h2, if_neg (by omega)]; rfl
  rw [if_neg h2]
  by_cases h3 : m < 1
  · rw [if_pos h3, if_neg (by omega)]; rfl
  rw [if_neg h3]
  by_cases h4 : 12 < m
  · rw [if_pos h4, if_neg (by omega)]; rfl
  rw [if_neg h4]
  by_cases h5 : n < 1
  · rw [if_pos h5, if_neg (by omega)]; rfl
  have hl := xd_ml_b y m
  rw [if_neg h5, xv_monthLength (by omega) (by omega) (by omega) (by omega), xe_bi, xq_lt (by omega) (by omega) (by omega) (by omega)]
  by_cases h6 : xd_ml y m < n
  · rw [if_pos h6, if_neg (by omega)]; rfl
  · rw [if_neg h6, if_pos (by omega)]; rfl

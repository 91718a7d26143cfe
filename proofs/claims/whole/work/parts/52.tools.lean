/-! Comparisons and divisions of Int32 in range, as equations for simp with omega. -/
theorem xt_lt {a b : Int} (h1 : -2147483648 ≤ a) (h2 : a ≤ 2147483647) (h3 : -2147483648 ≤ b) (h4 : b ≤ 2147483647) : (xI a < xI b) = (a < b) := propext (xI_lt ⟨h1, h2⟩ ⟨h3, h4⟩)
theorem xt_le {a b : Int} (h1 : -2147483648 ≤ a) (h2 : a ≤ 2147483647) (h3 : -2147483648 ≤ b) (h4 : b ≤ 2147483647) : (xI a ≤ xI b) = (a ≤ b) := propext (xI_le ⟨h1, h2⟩ ⟨h3, h4⟩)
theorem xt_eq {a b : Int} (h1 : -2147483648 ≤ a) (h2 : a ≤ 2147483647) (h3 : -2147483648 ≤ b) (h4 : b ≤ 2147483647) : (xI a = xI b) = (a = b) := propext (xI_eq ⟨h1, h2⟩ ⟨h3, h4⟩)
theorem xq_lt {α : Type} {a b : Int} {P Q : α} (h1 : -2147483648 ≤ a) (h2 : a ≤ 2147483647) (h3 : -2147483648 ≤ b) (h4 : b ≤ 2147483647) : (if xI a < xI b then P else Q) = if a < b then P else Q := by simp only [xt_lt h1 h2 h3 h4]
theorem xq_le {α : Type} {a b : Int} {P Q : α} (h1 : -2147483648 ≤ a) (h2 : a ≤ 2147483647) (h3 : -2147483648 ≤ b) (h4 : b ≤ 2147483647) : (if xI a ≤ xI b then P else Q) = if a ≤ b then P else Q := by simp only [xt_le h1 h2 h3 h4]
theorem xq_eq {α : Type} {a b : Int} {P Q : α} (h1 : -2147483648 ≤ a) (h2 : a ≤ 2147483647) (h3 : -2147483648 ≤ b) (h4 : b ≤ 2147483647) : (if xI a = xI b then P else Q) = if a = b then P else Q := by simp only [xt_eq h1 h2 h3 h4]
theorem xq_ne {α : Type} {a b : Int} {P Q : α} (h1 : -2147483648 ≤ a) (h2 : a ≤ 2147483647) (h3 : -2147483648 ≤ b) (h4 : b ≤ 2147483647) : (if ¬ xI a = xI b then P else Q) = if a = b then Q else P := by
  simp only [xt_eq h1 h2 h3 h4]
  by_cases h : a = b <;> simp [h]
theorem xt_div {a b : Int} (h0 : 0 ≤ a) (h1 : a ≤ 2147483647) (h2 : 0 < b) (h3 : b ≤ 2147483647) : xI a / xI b = xI (a / b) := by
  rw [xI_div ⟨by omega, by omega⟩ ⟨by omega, by omega⟩ (by omega), Int.tdiv_eq_ediv_of_nonneg h0]
theorem xt_mod {a b : Int} (h0 : 0 ≤ a) (h1 : a ≤ 2147483647) (h2 : 0 < b) (h3 : b ≤ 2147483647) : xI a % xI b = xI (a % b) := by
  rw [xI_mod ⟨by omega, by omega⟩ ⟨by omega, by omega⟩, Int.tmod_eq_emod_of_nonneg h0]
def xd_dm (i : Int) : Int := [0, 31, 59, 90, 120, 151, 181, 212, 243, 273, 304, 334].getD i.toNat 0
theorem xd_12 {i : Int} (h0 : 0 ≤ i) (h1 : i < 12) : i = 0 ∨ i = 1 ∨ i = 2 ∨ i = 3 ∨ i = 4 ∨ i = 5 ∨ i = 6 ∨ i = 7 ∨ i = 8 ∨ i = 9 ∨ i = 10 ∨ i = 11 := by omega
theorem xv_tb {i : Int} (h0 : 0 ≤ i) (h1 : i < 12) : xj_tb (xI i) = some (xI (xd_dm i)) := by
  rcases xd_12 h0 h1 with rfl | rfl | rfl | rfl | rfl | rfl | rfl | rfl | rfl | rfl | rfl | rfl <;> decide
/-- the first day of a month, months counted from January 2000 -/
def xd_ms (m : Int) : Int := 365 * (m / 12) + (m / 12 + 3) / 4 + xd_dm (m % 12) + (if 2 ≤ m % 12 ∧ m / 12 % 4 = 0 then 1 else 0)
theorem xv_floorMod {a b : Int} (h0 : 0 ≤ a) (h1 : a ≤ 2147483647) (h2 : 0 < b) (h3 : b ≤ 2147483647) (A : xj_H) : fJ_floorMod (xI a) (xI b) A = some (.inl (some (.int (xI (a % b)))), A) := by
  have hx : 0 ≤ xI a ^^^ xI b := xI_xor (by rw [xI_toInt ⟨by omega, by omega⟩]; omega) (by rw [xI_toInt ⟨by omega, by omega⟩]; omega)
  unfold fJ_floorMod
  rw [xI_0, if_neg (by rw [xt_eq (by omega) (by omega) (by omega) (by omega)]; omega), if_pos (show xI 0 ≤ xI a ^^^ xI b from hx), xt_mod h0 h1 h2 h3]
  rfl
theorem xd_dm_b {i : Int} (h0 : 0 ≤ i) (h1 : i < 12) : 0 ≤ xd_dm i ∧ xd_dm i ≤ 334 := by
  rcases xd_12 h0 h1 with rfl | rfl | rfl | rfl | rfl | rfl | rfl | rfl | rfl | rfl | rfl | rfl <;> decide
theorem xv_monthStart {m : Int} (h0 : 0 ≤ m) (h1 : m ≤ 100000) (A : xj_H) : fD_monthStart (xI m) A = some (.inl (some (.int (xI (xd_ms m)))), A) := by
  have hb := xd_dm_b (i := m % 12) (by omega) (by omega)
  unfold fD_monthStart
  rw [xl_12, xv_floorMod h0 (by omega) (by omega) (by omega), xe_bi, xt_div h0 (by omega) (by omega) (by omega)]
  simp (disch := omega) only [xl_2, xl_4, xl_0, xl_1, xl_3, xl_365, xt_lt, xt_mod, xt_eq, fD_monthStart_27, fD_monthStart_28, xv_tb, xe_bind, xI_add, xI_mul, xt_div]
  unfold xd_ms
  split
  · rw [if_neg (by omega)]
  · split
    · rw [if_neg (by omega)]
    · rw [if_pos (by omega)]

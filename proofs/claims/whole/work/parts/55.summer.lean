/-! Summer: the class looks at two years, the reference at all; they agree. -/
def xz_sun (m n : Int) : Int := if xd_ms (m + 1) ≤ xd_ms m + 6 - (xd_ms m + 5) % 7 + 7 * (n - 1) then xd_ms m + 6 - (xd_ms m + 5) % 7 + 7 * (n - 1) - 7 else xd_ms m + 6 - (xd_ms m + 5) % 7 + 7 * (n - 1)
theorem xz_sun_v {m n : Int} (h0 : 0 ≤ m) (h1 : m ≤ 1200) (h2 : 1 ≤ n) (h3 : n ≤ 5) (A : xj_H) : fD_sundayOf (xI m) (xI n) A = some (.inl (some (.int (xI (xz_sun m n)))), A) := xv_sundayOf h0 h1 h2 h3 A
theorem xz_sun_b {m n : Int} (h0 : 0 ≤ m) (h2 : 1 ≤ n) (h3 : n ≤ 5) : xd_ms m ≤ xz_sun m n ∧ xz_sun m n < xd_ms (m + 1) := by
  have hl := xd_lt h0
  unfold xz_sun
  split <;> omega
/-- it is summer at t -/
def xz_s (f g : Nat → Int) (t : Int) : Prop := ∃ y : Nat, y < 100 ∧ f y ≤ t ∧ t < g y
/-- what is known of a zone's moments -/
def xz_F (std sm : Int) (f g : Nat → Int) : Prop := -840 ≤ std ∧ std ≤ sm ∧ sm ≤ 840 ∧ ∀ y : Nat, y < 100 → ∃ b e : Int, xd_ms (12 * y) ≤ b ∧ b < xd_ms (12 * y + 12) ∧ xd_ms (12 * y) ≤ e ∧ e < xd_ms (12 * y + 12) ∧ f y = 1440 * b + 120 - std ∧ g y = 1440 * e + 180 - sm
theorem xz_1200 : xd_ms 1200 = 36525 := by decide
theorem xz_0 : xd_ms 0 = 0 := by decide
theorem xz_yb {y : Int} (h0 : 0 ≤ y) (h1 : y < 100) : 0 ≤ xd_ms (12 * y) ∧ xd_ms (12 * y + 12) ≤ 36525 := by
  have h2 := xd_mono' (m := 0) (n := 12 * y) (by omega) (by omega)
  have h3 := xd_mono' (m := 12 * y + 12) (n := 1200) (by omega) (by omega)
  have := xz_0
  have := xz_1200
  omega
theorem xz_fb {std sm : Int} {f g : Nat → Int} (hF : xz_F std sm f g) {y : Nat} (hy : y < 100) : -100000 ≤ f y ∧ f y ≤ 60000000 ∧ -100000 ≤ g y ∧ g y ≤ 60000000 := by
  obtain ⟨h1, h2, h3, h4⟩ := hF
  obtain ⟨b, e, b1, b2, e1, e2, hf, hg⟩ := h4 y hy
  have := xz_yb (y := y) (by omega) (by omega)
  omega
theorem xz_in {std sm : Int} {f g : Nat → Int} (hF : xz_F std sm f g) {t : Int} (t1 : -2147483648 ≤ t) (t2 : t ≤ 2147483647) {y : Nat} (hy : y < 100) (h1 : f y ≤ t) (h2 : t < g y) : (4 * t.tdiv 1440).tdiv 1461 ≤ y ∧ (y : Int) ≤ (4 * t.tdiv 1440).tdiv 1461 + 1 := by
  obtain ⟨s1, s2, s3, hz⟩ := hF
  obtain ⟨b, e, b1, b2, e1, e2, hf, hg⟩ := hz y hy
  have hyb := xz_yb (y := y) (by omega) (by omega)
  by_cases ht : 0 ≤ t
  · rw [Int.tdiv_eq_ediv_of_nonneg ht, Int.tdiv_eq_ediv_of_nonneg (by omega)]
    obtain ⟨q1, q2, q3, q4⟩ := xd_year (d := t / 1440) (by omega) (by omega)
    generalize 4 * (t / 1440) / 1461 = Y at *
    constructor
    · by_cases hc : Y ≤ y
      · exact hc
      · have := xd_mono' (m := 12 * (y : Int) + 12) (n := 12 * Y) (by omega) (by omega)
        omega
    · by_cases hc : (y : Int) ≤ Y + 1
      · exact hc
      · have := xd_mono' (m := 12 * Y + 12) (n := 12 * (y : Int)) (by omega) (by omega)
        omega
  · have hy0 : (y : Int) = 0 := by
      by_cases hc : (y : Int) = 0
      · exact hc
      · have := xd_mono' (m := 0) (n := 12 * (y : Int)) (by omega) (by omega)
        have := xz_0
        omega
    have hd : t.tdiv 1440 = 0 := by
      have h9 : t = -(-t) := by omega
      rw [h9, Int.neg_tdiv, Int.tdiv_eq_ediv_of_nonneg (by omega)]
      have := xz_0
      rw [hy0] at hyb b1
      omega
    rw [hd]
    simp
    omega
theorem xz_cL {z zb ze : Nat} {A : xj_H} {std sm : Value} {F G : Nat → Int32} {f g : Nat → Int} (hz : A.1[z]? = some (.inr (1, [std, sm, .ref zb, .ref ze]))) (hb : A.1[zb]? = some (.inl (0, 100, .inl F))) (he : A.1[ze]? = some (.inl (0, 100, .inl G))) (hF : ∀ y, y < 100 → F y = xI (f y)) (hG : ∀ y, y < 100 → G y = xI (g y)) (hfb : ∀ y, y < 100 → -100000 ≤ f y ∧ f y ≤ 60000000 ∧ -100000 ≤ g y ∧ g y ≤ 60000000) {t hi : Int} (t1 : -2147483648 ≤ t) (t2 : t ≤ 2147483647) (h1 : -2147483648 ≤ hi) (h2 : hi ≤ 99) :
    ∀ (n : Nat) (y : Int), 0 ≤ y → y ≤ 2147483000 → (hi + 1 - y).toNat < n → ∃ r : Int32, fZ_isSummer_25 n (xj_o z) (xI t) (xI hi) (xI y) A = some (.inl (some (.int r)), A) ∧ ((r = 1 ∧ ∃ k : Nat, k < 100 ∧ f k ≤ t ∧ t < g k) ∨ (r = 0 ∧ ∀ k : Nat, y ≤ k → (k : Int) ≤ hi → ¬ (f k ≤ t ∧ t < g k)))
  | 0, y, _, _, h => by omega
  | n + 1, y, y0, y1, hn => by
    rw [fZ_isSummer_25, xq_lt (by omega) (by omega) (by omega) (by omega)]
    by_cases hc : hi < y
    · rw [if_pos hc]
      exact ⟨0, rfl, Or.inr ⟨rfl, fun k k1 k2 => by omega⟩⟩
    · have hyn : y.toNat < 100 := by omega
      have hb1 := hfb y.toNat hyn
      have hrec : ¬ (f y.toNat ≤ t ∧ t < g y.toNat) → ∃ r : Int32, fZ_isSummer_25 n (xj_o z) (xI t) (xI hi) (xI (y + 1)) A = some (.inl (some (.int r)), A) ∧ ((r = 1 ∧ ∃ k : Nat, k < 100 ∧ f k ≤ t ∧ t < g k) ∨ (r = 0 ∧ ∀ k : Nat, y ≤ k → (k : Int) ≤ hi → ¬ (f k ≤ t ∧ t < g k))) := by
        intro hno
        obtain ⟨r, r1, r2⟩ := xz_cL hz hb he hF hG hfb t1 t2 h1 h2 n (y + 1) (by omega) (by omega) (by omega)
        refine ⟨r, r1, r2.imp id (fun ⟨a, b⟩ => ⟨a, fun k k1 k2 => ?_⟩)⟩
        by_cases hk : (k : Int) = y
        · have : k = y.toNat := by rw [← hk]; rfl
          rw [this]; exact hno
        · exact b k (by omega) k2
      rw [if_neg hc, xe_gr hz rfl, xe_bind, xe_ai hb y0 (by omega) (by omega), xe_bind, hF _ hyn, xq_lt (by omega) (by omega) (by omega) (by omega)]
      by_cases hc1 : t < f y.toNat
      · rw [if_pos hc1, fZ_isSummer_55, xI_1, xI_add]
        exact hrec (by omega)
      · rw [if_neg hc1, xe_gr hz rfl, xe_bind, xe_ai he y0 (by omega) (by omega), xe_bind, hG _ hyn, xq_le (by omega) (by omega) (by omega) (by omega)]
        by_cases hc2 : g y.toNat ≤ t
        · rw [if_pos hc2, fZ_isSummer_55, xI_1, xI_add]
          exact hrec (by omega)
        · rw [if_neg hc2]
          exact ⟨1, rfl, Or.inl ⟨rfl, y.toNat, hyn, by omega, by omega⟩⟩
theorem xz_tdb {t : Int} (t1 : -2147483648 ≤ t) (t2 : t ≤ 2147483647) : -1491309 ≤ t.tdiv 1440 ∧ t.tdiv 1440 ≤ 1491309 := by
  by_cases ht : 0 ≤ t
  · rw [Int.tdiv_eq_ediv_of_nonneg ht]; omega
  · have h9 : t = -(-t) := by omega
    rw [h9, Int.neg_tdiv, Int.tdiv_eq_ediv_of_nonneg (by omega)]; omega
theorem xz_tdb2 {t : Int} (t1 : -6000000 ≤ t) (t2 : t ≤ 6000000) : -5000 ≤ t.tdiv 1461 ∧ t.tdiv 1461 ≤ 5000 := by
  by_cases ht : 0 ≤ t
  · rw [Int.tdiv_eq_ediv_of_nonneg ht]; omega
  · have h9 : t = -(-t) := by omega
    rw [h9, Int.neg_tdiv, Int.tdiv_eq_ediv_of_nonneg (by omega)]; omega
theorem xz_class {z zb ze : Nat} {A : xj_H} {sv mv : Value} {F G : Nat → Int32} {f g : Nat → Int} {std sm : Int} (hz : A.1[z]? = some (.inr (1, [sv, mv, .ref zb, .ref ze]))) (hb : A.1[zb]? = some (.inl (0, 100, .inl F))) (he : A.1[ze]? = some (.inl (0, 100, .inl G))) (hF : ∀ y, y < 100 → F y = xI (f y)) (hG : ∀ y, y < 100 → G y = xI (g y)) (hzf : xz_F std sm f g) {t : Int} (t1 : -2147483648 ≤ t) (t2 : t ≤ 2147483647) :
    ∃ r : Int32, fZ_isSummer (xj_o z) (xI t) A = some (.inl (some (.int r)), A) ∧ ((r = 1 ∧ xz_s f g t) ∨ (r = 0 ∧ ¬ xz_s f g t)) := by
  have b1 := xz_tdb t1 t2
  have b2 := xz_tdb2 (t := 4 * t.tdiv 1440) (by omega) (by omega)
  have hin := fun y hy h1 h2 => xz_in hzf t1 t2 (y := y) hy h1 h2
  have hfy : fD_yearOf (xI (t.tdiv 1440)) A = some (.inl (some (.int (xI ((4 * t.tdiv 1440).tdiv 1461)))), A) := by
    unfold fD_yearOf
    rw [xl_4, xl_1461, xI_mul, xI_div ⟨by omega, by omega⟩ ⟨by omega, by omega⟩ (by omega)]
  generalize hY : (4 * t.tdiv 1440).tdiv 1461 = Y at *
  have hmin : fJ_min (xI 99) (xI (Y + 1)) A = some (.inl (some (.int (xI (if Y + 1 < 99 then Y + 1 else 99)))), A) := by
    unfold fJ_min
    rw [xq_lt (by omega) (by omega) (by omega) (by omega)]
    split <;> rfl
  have hmax : fJ_max (xI 0) (xI Y) A = some (.inl (some (.int (xI (if 0 < Y then Y else 0)))), A) := by
    unfold fJ_max
    rw [xq_lt (by omega) (by omega) (by omega) (by omega)]
    split <;> rfl
  have hhi : (if Y + 1 < 99 then Y + 1 else 99) ≤ 99 := by split <;> omega
  have hhi2 : -2147483648 ≤ (if Y + 1 < 99 then Y + 1 else 99) := by split <;> omega
  have hhi3 : (if Y + 1 < 99 then Y + 1 else 99) = if Y + 1 < 99 then Y + 1 else 99 := rfl
  have hlo : 0 ≤ (if 0 < Y then Y else 0) ∧ (if 0 < Y then Y else 0) ≤ 5000 := by split <;> omega
  obtain ⟨r, r1, r2⟩ := xz_cL (t := t) hz hb he hF hG (fun y hy => xz_fb hzf hy) t1 t2 hhi2 hhi xj_fu (if 0 < Y then Y else 0) hlo.1 (by omega) (by unfold xj_fu; omega)
  refine ⟨r, ?_, r2.imp id (fun ⟨a, b⟩ => ⟨a, fun ⟨k, k1, k2, k3⟩ => ?_⟩)⟩
  · unfold fZ_isSummer
    rw [xl_1440, xI_div ⟨by omega, by omega⟩ ⟨by omega, by omega⟩ (by omega), hfy, xe_bi, xl_99, xl_1, xI_add, hmin, xe_bi, xl_0, hmax, xe_bi]
    exact r1
  · obtain ⟨c1, c2⟩ := hin k k1 k2 k3
    refine b k ?_ ?_ ⟨k2, k3⟩
    · split <;> omega
    · split <;> omega
theorem xz_mL {o mb me : Nat} {A : xj_H} {fs : List Value} {F G : Nat → Int32} {f g : Nat → Int} (ho : A.1[o]? = some (.inr (7, fs))) (h5 : fs[5]? = some (.ref mb)) (h6 : fs[6]? = some (.ref me)) (hb : A.1[mb]? = some (.inl (0, 100, .inl F))) (he : A.1[me]? = some (.inl (0, 100, .inl G))) (hF : ∀ y, y < 100 → F y = xI (f y)) (hG : ∀ y, y < 100 → G y = xI (g y)) (hfb : ∀ y, y < 100 → -100000 ≤ f y ∧ f y ≤ 60000000 ∧ -100000 ≤ g y ∧ g y ≤ 60000000) {t : Int} (t1 : -2147483648 ≤ t) (t2 : t ≤ 2147483647) :
    ∀ (n : Nat) (y : Int), 0 ≤ y → y ≤ 100 → (100 - y).toNat < n → ∃ r : Int32, fM_inSummer_4 n (xj_o o) (xI t) 0 (xI y) A = some (.inl (some (.int r)), A) ∧ ((r = 1 ∧ ∃ k : Nat, k < 100 ∧ f k ≤ t ∧ t < g k) ∨ (r = 0 ∧ ∀ k : Nat, y ≤ k → k < 100 → ¬ (f k ≤ t ∧ t < g k)))
  | 0, y, _, _, h => by omega
  | n + 1, y, y0, y1, hn => by
    rw [fM_inSummer_4, xl_100, xq_le (by omega) (by omega) (by omega) (by omega)]
    by_cases hc : 100 ≤ y
    · rw [if_pos hc]
      exact ⟨0, rfl, Or.inr ⟨rfl, fun k k1 k2 => by omega⟩⟩
    · have hyn : y.toNat < 100 := by omega
      have hb1 := hfb y.toNat hyn
      have hrec : ¬ (f y.toNat ≤ t ∧ t < g y.toNat) → ∃ r : Int32, fM_inSummer_4 n (xj_o o) (xI t) 0 (xI (y + 1)) A = some (.inl (some (.int r)), A) ∧ ((r = 1 ∧ ∃ k : Nat, k < 100 ∧ f k ≤ t ∧ t < g k) ∨ (r = 0 ∧ ∀ k : Nat, y ≤ k → k < 100 → ¬ (f k ≤ t ∧ t < g k))) := by
        intro hno
        obtain ⟨r, r1, r2⟩ := xz_mL ho h5 h6 hb he hF hG hfb t1 t2 n (y + 1) (by omega) (by omega) (by omega)
        refine ⟨r, r1, r2.imp id (fun ⟨a, b⟩ => ⟨a, fun k k1 k2 => ?_⟩)⟩
        by_cases hk : (k : Int) = y
        · have : k = y.toNat := by rw [← hk]; rfl
          rw [this]; exact hno
        · exact b k (by omega) k2
      rw [if_neg hc, if_neg (by decide), xe_gr ho h5, xe_bind, xe_ai hb y0 (by omega) (by omega), xe_bind, hF _ hyn, xq_lt (by omega) (by omega) (by omega) (by omega)]
      by_cases hc1 : t < f y.toNat
      · rw [if_pos hc1, fM_inSummer_38, fM_inSummer_39, xI_1, xI_add]
        exact hrec (by omega)
      · rw [if_neg hc1, xe_gr ho h6, xe_bind, xe_ai he y0 (by omega) (by omega), xe_bind, hG _ hyn, xq_le (by omega) (by omega) (by omega) (by omega)]
        by_cases hc2 : g y.toNat ≤ t
        · rw [if_pos hc2, fM_inSummer_38, fM_inSummer_39, xI_1, xI_add]
          exact hrec (by omega)
        · rw [if_neg hc2, fM_inSummer_39, xI_1, xI_add]
          refine ⟨1, ?_, Or.inl ⟨rfl, y.toNat, hyn, by omega, by omega⟩⟩
          match n, hn with
          | n + 1, hn =>
            rw [fM_inSummer_4]
            by_cases h9 : (100 : Int32) ≤ xI (y + 1)
            · rw [if_pos h9]; rfl
            · rw [if_neg h9, if_pos (by decide)]; rfl
          | 0, hn => omega
theorem xz_model {o mb me : Nat} {A : xj_H} {fs : List Value} {F G : Nat → Int32} {f g : Nat → Int} {std sm : Int} (ho : A.1[o]? = some (.inr (7, fs))) (h5 : fs[5]? = some (.ref mb)) (h6 : fs[6]? = some (.ref me)) (hb : A.1[mb]? = some (.inl (0, 100, .inl F))) (he : A.1[me]? = some (.inl (0, 100, .inl G))) (hF : ∀ y, y < 100 → F y = xI (f y)) (hG : ∀ y, y < 100 → G y = xI (g y)) (hzf : xz_F std sm f g) {t : Int} (t1 : -2147483648 ≤ t) (t2 : t ≤ 2147483647) :
    ∃ r : Int32, fM_inSummer (xj_o o) (xI t) A = some (.inl (some (.int r)), A) ∧ ((r = 1 ∧ xz_s f g t) ∨ (r = 0 ∧ ¬ xz_s f g t)) := by
  obtain ⟨r, r1, r2⟩ := xz_mL (t := t) ho h5 h6 hb he hF hG (fun y hy => xz_fb hzf hy) t1 t2 xj_fu 0 (by omega) (by omega) (by unfold xj_fu; omega)
  refine ⟨r, r1, r2.imp id (fun ⟨a, b⟩ => ⟨a, fun ⟨k, k1, k2, k3⟩ => b k (by omega) k1 ⟨k2, k3⟩⟩)⟩

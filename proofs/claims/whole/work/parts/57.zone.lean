/-! The zone: changing it, a moment's offset, a local time's moment. -/
def xz_b (s bm n : Int) (y : Nat) : Int := 1440 * xz_sun (12 * y + bm - 1) n + 120 - s
def xz_e (m em k : Int) (y : Nat) : Int := 1440 * xz_sun (12 * y + em - 1) k + 180 - m
theorem xz_mk {s m bm n em k : Int} (h1 : -840 ≤ s) (h2 : s ≤ m) (h3 : m ≤ 840) (b1 : 1 ≤ bm) (b2 : bm ≤ 12) (e1 : 1 ≤ em) (e2 : em ≤ 12) (n1 : 1 ≤ n) (n2 : n ≤ 5) (k1 : 1 ≤ k) (k2 : k ≤ 5) : xz_F s m (xz_b s bm n) (xz_e m em k) := by
  refine ⟨h1, h2, h3, fun y hy => ⟨xz_sun (12 * y + bm - 1) n, xz_sun (12 * y + em - 1) k, ?_, ?_, ?_, ?_, rfl, rfl⟩⟩
  · have := xd_mono' (m := 12 * (y : Int)) (n := 12 * y + bm - 1) (by omega) (by omega)
    have := xz_sun_b (m := 12 * (y : Int) + bm - 1) (n := n) (by omega) n1 n2
    omega
  · have := xd_mono' (m := 12 * (y : Int) + bm - 1 + 1) (n := 12 * y + 12) (by omega) (by omega)
    have := xz_sun_b (m := 12 * (y : Int) + bm - 1) (n := n) (by omega) n1 n2
    omega
  · have := xd_mono' (m := 12 * (y : Int)) (n := 12 * y + em - 1) (by omega) (by omega)
    have := xz_sun_b (m := 12 * (y : Int) + em - 1) (n := k) (by omega) k1 k2
    omega
  · have := xd_mono' (m := 12 * (y : Int) + em - 1 + 1) (n := 12 * y + 12) (by omega) (by omega)
    have := xz_sun_b (m := 12 * (y : Int) + em - 1) (n := k) (by omega) k1 k2
    omega
theorem xz_up {f g : Nat → Int} {y : Int} {x : Int} (h0 : 0 ≤ y) (hf : ∀ k : Nat, (k : Int) < y → f k = g k) (hx : x = g y.toNat) : ∀ k : Nat, (k : Int) < y + 1 → xk_p f y.toNat x k = g k := by
  intro k hk
  by_cases e : k = y.toNat
  · subst e; rw [xk_p_e, hx]
  · rw [xk_p_n _ _ e]; exact hf k (by omega)
theorem xz_chL {z zb ze : Nat} (d1 : z ≠ zb) (d2 : z ≠ ze) (d3 : zb ≠ ze) {s m bm n em k : Int} (b1 : 1 ≤ bm) (b2 : bm ≤ 12) (e1 : 1 ≤ em) (e2 : em ≤ 12) (n1 : 1 ≤ n) (n2 : n ≤ 5) (k1 : 1 ≤ k) (k2 : k ≤ 5) :
    ∀ (q : Nat) (y : Int) (A : xj_H) (f g : Nat → Int), 0 ≤ y → y ≤ 100 → (100 - y).toNat < q → A.1[z]? = some (.inr (1, [.int (xI s), .int (xI m), .ref zb, .ref ze])) → xk_a A 0 zb 100 f → xk_a A 0 ze 100 g → (∀ j : Nat, (j : Int) < y → f j = xz_b s bm n j) → (∀ j : Nat, (j : Int) < y → g j = xz_e m em k j) →
      ∃ B, fZ_change_13 q (xj_o z) (xI bm) (xI n) (xI em) (xI k) (xI y) A = some (.inl none, B) ∧ xk_u (fun i => i = zb ∨ i = ze) A B ∧ xk_a B 0 zb 100 (xz_b s bm n) ∧ xk_a B 0 ze 100 (xz_e m em k)
  | 0, y, _, _, _, _, _, h, _, _, _, _, _ => by omega
  | q + 1, y, A, f, g, y0, y1, hq, hz, hb, he, hf, hg => by
    rw [fZ_change_13, xl_100, xq_le (by omega) (by omega) (by omega) (by omega)]
    by_cases hc : 100 ≤ y
    · rw [if_pos hc]
      exact ⟨A, rfl, xk_r _ _, xk_ac hb fun i hi => hf i (by omega), xk_ac he fun i hi => hg i (by omega)⟩
    · rw [if_neg hc, xl_12, xI_mul, xI_add, xl_1, xI_sub, xz_sun_v (by omega) (by omega) n1 n2, xe_bi, xI_add, xI_sub, xz_sun_v (by omega) (by omega) k1 k2, xe_bi, xe_gr hz rfl, xe_bind, xe_gi hz rfl, xe_bind, xl_1440, xI_mul, xl_120, xI_add, xI_sub]
      obtain ⟨B, w1, w2, w3⟩ := xk_as (1440 * xz_sun (12 * y + bm - 1) n + 120 - s) hb y0 (by omega) (by omega)
      have hz1 := xk_c hz w3 d1
      have he1 := xk_au he w3 (fun h => d3 h.symm)
      rw [w1, xe_bind, xe_gr hz1 rfl, xe_bind, xe_gi hz1 rfl, xe_bind, xI_mul, xl_180, xI_add, xI_sub]
      obtain ⟨C, v1, v2, v3⟩ := xk_as (1440 * xz_sun (12 * y + em - 1) k + 180 - m) he1 y0 (by omega) (by omega)
      rw [v1, xe_bind, xI_add]
      obtain ⟨D, u1, u2, u3, u4⟩ := xz_chL d1 d2 d3 b1 b2 e1 e2 n1 n2 k1 k2 q (y + 1) C _ _ (by omega) (by omega) (by omega) (xk_c hz1 v3 d2) (xk_au w2 v3 d3) v2
        (xz_up y0 hf (by unfold xz_b; rw [Int.toNat_of_nonneg y0])) (xz_up y0 hg (by unfold xz_e; rw [Int.toNat_of_nonneg y0]))
      exact ⟨D, u1, xk_t (xk_t (xk_w w3 fun i h => Or.inl h) (xk_w v3 fun i h => Or.inr h)) u2, u3, u4⟩
/-- the class's zone -/
def xz_C (A : xj_H) (z zb ze : Nat) (s m : Int) (f g : Nat → Int) : Prop := A.1[z]? = some (.inr (1, [.int (xI s), .int (xI m), .ref zb, .ref ze])) ∧ xk_a A 0 zb 100 f ∧ xk_a A 0 ze 100 g
theorem xz_change {z zb ze : Nat} (d1 : z ≠ zb) (d2 : z ≠ ze) (d3 : zb ≠ ze) {s m bm n em k : Int} (b1 : 1 ≤ bm) (b2 : bm ≤ 12) (e1 : 1 ≤ em) (e2 : em ≤ 12) (n1 : 1 ≤ n) (n2 : n ≤ 5) (k1 : 1 ≤ k) (k2 : k ≤ 5) {A : xj_H} {s0 m0 : Value} {f g : Nat → Int} (hz : A.1[z]? = some (.inr (1, [s0, m0, .ref zb, .ref ze]))) (hb : xk_a A 0 zb 100 f) (he : xk_a A 0 ze 100 g) :
    ∃ B, fZ_change (xj_o z) (xI s) (xI m) (xI bm) (xI n) (xI em) (xI k) A = some (.inl none, B) ∧ xk_u (fun i => i = z ∨ i = zb ∨ i = ze) A B ∧ xz_C B z zb ze s m (xz_b s bm n) (xz_e m em k) := by
  obtain ⟨B, w1, w2, w3⟩ := xk_pw (.int (xI s)) hz (k := 0) (by simp)
  obtain ⟨C, v1, v2, v3⟩ := xk_pw (.int (xI m)) w2 (k := 1) (by simp)
  have hb1 := xk_au (xk_au hb w3 (fun h => d1 h.symm)) v3 (fun h => d1 h.symm)
  have he1 := xk_au (xk_au he w3 (fun h => d2 h.symm)) v3 (fun h => d2 h.symm)
  obtain ⟨D, u1, u2, u3, u4⟩ := xz_chL d1 d2 d3 b1 b2 e1 e2 n1 n2 k1 k2 (s := s) (m := m) xj_fu 0 C f g (by omega) (by omega) (by unfold xj_fu; omega) v2 hb1 he1 (fun j hj => by omega) (fun j hj => by omega)
  refine ⟨D, ?_, xk_t (xk_t (xk_w w3 fun i h => Or.inl h) (xk_w v3 fun i h => Or.inl h)) (xk_w u2 fun i h => Or.inr h), xk_c v2 u2 (fun h => h.elim d1 d2), u3, u4⟩
  unfold fZ_change
  rw [w1, xe_bind, v1, xe_bind]
  exact u1
theorem xz_mchL {o zb ze : Nat} (d1 : o ≠ zb) (d2 : o ≠ ze) (d3 : zb ≠ ze) {p : Nat → Value} {s m bm n em k : Int} (p3 : p 3 = .int (xI s)) (p4 : p 4 = .int (xI m)) (p5 : p 5 = .ref zb) (p6 : p 6 = .ref ze) (b1 : 1 ≤ bm) (b2 : bm ≤ 12) (e1 : 1 ≤ em) (e2 : em ≤ 12) (n1 : 1 ≤ n) (n2 : n ≤ 5) (k1 : 1 ≤ k) (k2 : k ≤ 5) :
    ∀ (q : Nat) (y : Int) (A : xj_H) (f g : Nat → Int), 0 ≤ y → y ≤ 100 → (100 - y).toNat < q → xk_o A o 7 36 p → xk_a A 0 zb 100 f → xk_a A 0 ze 100 g → (∀ j : Nat, (j : Int) < y → f j = xz_b s bm n j) → (∀ j : Nat, (j : Int) < y → g j = xz_e m em k j) →
      ∃ B, fM_changes_3 q (xj_o o) (xI bm) (xI n) (xI em) (xI k) (xI y) A = some (.inl none, B) ∧ xk_u (fun i => i = zb ∨ i = ze) A B ∧ xk_a B 0 zb 100 (xz_b s bm n) ∧ xk_a B 0 ze 100 (xz_e m em k)
  | 0, y, _, _, _, _, _, h, _, _, _, _, _ => by omega
  | q + 1, y, A, f, g, y0, y1, hq, hz, hb, he, hf, hg => by
    rw [fM_changes_3, xl_100, xq_le (by omega) (by omega) (by omega) (by omega)]
    by_cases hc : 100 ≤ y
    · rw [if_pos hc]
      exact ⟨A, rfl, xk_r _ _, xk_ac hb fun i hi => hf i (by omega), xk_ac he fun i hi => hg i (by omega)⟩
    · rw [if_neg hc, xk_gr hz p5 (by decide), xe_bind, xv_sunday y0 (by omega) b1 b2 n1 n2, xz_sun_v (by omega) (by omega) n1 n2, xe_bi, xk_gi hz p3 (by decide), xe_bind, xl_1440, xI_mul, xl_120, xI_add, xI_sub]
      obtain ⟨B, w1, w2, w3⟩ := xk_as (1440 * xz_sun (12 * y + bm - 1) n + 120 - s) hb y0 (by omega) (by omega)
      have hz1 := xk_ou hz w3 d1
      have he1 := xk_au he w3 (fun h => d3 h.symm)
      rw [w1, xe_bind, xk_gr hz1 p6 (by decide), xe_bind, xv_sunday y0 (by omega) e1 e2 k1 k2, xz_sun_v (by omega) (by omega) k1 k2, xe_bi, xk_gi hz1 p4 (by decide), xe_bind, xI_mul, xl_180, xI_add, xI_sub]
      obtain ⟨C, v1, v2, v3⟩ := xk_as (1440 * xz_sun (12 * y + em - 1) k + 180 - m) he1 y0 (by omega) (by omega)
      rw [v1, xe_bind, xl_1, xI_add]
      obtain ⟨D, u1, u2, u3, u4⟩ := xz_mchL d1 d2 d3 p3 p4 p5 p6 b1 b2 e1 e2 n1 n2 k1 k2 q (y + 1) C _ _ (by omega) (by omega) (by omega) (xk_ou hz1 v3 d2) (xk_au w2 v3 d3) v2
        (xz_up y0 hf (by unfold xz_b; rw [Int.toNat_of_nonneg y0])) (xz_up y0 hg (by unfold xz_e; rw [Int.toNat_of_nonneg y0]))
      exact ⟨D, u1, xk_t (xk_t (xk_w w3 fun i h => Or.inl h) (xk_w v3 fun i h => Or.inr h)) u2, u3, u4⟩
theorem xz_changes {o zb ze : Nat} (d1 : o ≠ zb) (d2 : o ≠ ze) (d3 : zb ≠ ze) {p : Nat → Value} {s m bm n em k : Int} (p3 : p 3 = .int (xI s)) (p4 : p 4 = .int (xI m)) (p5 : p 5 = .ref zb) (p6 : p 6 = .ref ze) (b1 : 1 ≤ bm) (b2 : bm ≤ 12) (e1 : 1 ≤ em) (e2 : em ≤ 12) (n1 : 1 ≤ n) (n2 : n ≤ 5) (k1 : 1 ≤ k) (k2 : k ≤ 5) {A : xj_H} {f g : Nat → Int} (hz : xk_o A o 7 36 p) (hb : xk_a A 0 zb 100 f) (he : xk_a A 0 ze 100 g) :
    ∃ B, fM_changes (xj_o o) (xI bm) (xI n) (xI em) (xI k) A = some (.inl none, B) ∧ xk_u (fun i => i = zb ∨ i = ze) A B ∧ xk_a B 0 zb 100 (xz_b s bm n) ∧ xk_a B 0 ze 100 (xz_e m em k) :=
  xz_mchL d1 d2 d3 p3 p4 p5 p6 b1 b2 e1 e2 n1 n2 k1 k2 xj_fu 0 A f g (by omega) (by omega) (by unfold xj_fu; omega) hz hb he (fun j hj => by omega) (fun j hj => by omega)
/-- a local time's moment -/
def xz_m (s m : Int) (f g : Nat → Int) (t v : Int) : Prop := (xz_s f g (t - m) ∧ v = t - m) ∨ (¬ xz_s f g (t - m) ∧ v = t - s)
theorem xz_m_u {s m : Int} {f g : Nat → Int} {t v w : Int} (h : xz_m s m f g t v) (k : xz_m s m f g t w) : v = w := by
  rcases h with ⟨a, b⟩ | ⟨a, b⟩ <;> rcases k with ⟨c, d⟩ | ⟨c, d⟩
  · omega
  · exact absurd a c
  · exact absurd c a
  · omega
theorem xz_isS {A : xj_H} {z zb ze : Nat} {s m : Int} {f g : Nat → Int} (h : xz_C A z zb ze s m f g) (hF : xz_F s m f g) {t : Int} (t1 : -2147483648 ≤ t) (t2 : t ≤ 2147483647) : ∃ r : Int32, fZ_isSummer (xj_o z) (xI t) A = some (.inl (some (.int r)), A) ∧ ((r = 1 ∧ xz_s f g t) ∨ (r = 0 ∧ ¬ xz_s f g t)) := by
  obtain ⟨h1, ⟨F, h2, h3⟩, ⟨G, h4, h5⟩⟩ := h
  exact xz_class h1 h2 h4 h3 h5 hF t1 t2
theorem xz_isM {A : xj_H} {o mb me : Nat} {p : Nat → Value} {s m : Int} {f g : Nat → Int} (ho : xk_o A o 7 36 p) (p5 : p 5 = .ref mb) (p6 : p 6 = .ref me) (hb : xk_a A 0 mb 100 f) (he : xk_a A 0 me 100 g) (hF : xz_F s m f g) {t : Int} (t1 : -2147483648 ≤ t) (t2 : t ≤ 2147483647) : ∃ r : Int32, fM_inSummer (xj_o o) (xI t) A = some (.inl (some (.int r)), A) ∧ ((r = 1 ∧ xz_s f g t) ∨ (r = 0 ∧ ¬ xz_s f g t)) := by
  obtain ⟨fs, h1, h2, h3⟩ := ho
  obtain ⟨F, b1, b2⟩ := hb
  obtain ⟨G, e1, e2⟩ := he
  exact xz_model h1 (by rw [h3 5 (by decide), p5]) (by rw [h3 6 (by decide), p6]) b1 e1 b2 e2 hF t1 t2
theorem xz_momentC {A : xj_H} {z zb ze : Nat} {s m : Int} {f g : Nat → Int} (h : xz_C A z zb ze s m f g) (hF : xz_F s m f g) {t : Int} (t1 : -2000000000 ≤ t) (t2 : t ≤ 2000000000) : ∃ v, xz_m s m f g t v ∧ fZ_momentOf (xj_o z) (xI t) A = some (.inl (some (.int (xI v))), A) := by
  have hr := hF
  obtain ⟨r1, r2, r3, _⟩ := hr
  obtain ⟨r, e, hr⟩ := xz_isS h hF (t := t - m) (by omega) (by omega)
  have hz := h.1
  rcases hr with ⟨rfl, hs⟩ | ⟨rfl, hs⟩
  · refine ⟨t - m, Or.inl ⟨hs, rfl⟩, ?_⟩
    unfold fZ_momentOf
    rw [xe_gi hz rfl, xe_bind, xI_sub, xe_rq hz, e, xe_bi, xk_b1, xe_gi hz rfl, xe_bind, xI_sub]; rfl
  · refine ⟨t - s, Or.inr ⟨hs, rfl⟩, ?_⟩
    unfold fZ_momentOf
    rw [xe_gi hz rfl, xe_bind, xI_sub, xe_rq hz, e, xe_bi, xk_b0, xe_gi hz rfl, xe_bind, xI_sub]; rfl
theorem xz_momentM {A : xj_H} {o mb me : Nat} {p : Nat → Value} {s m : Int} {f g : Nat → Int} (ho : xk_o A o 7 36 p) (p3 : p 3 = .int (xI s)) (p4 : p 4 = .int (xI m)) (p5 : p 5 = .ref mb) (p6 : p 6 = .ref me) (hb : xk_a A 0 mb 100 f) (he : xk_a A 0 me 100 g) (hF : xz_F s m f g) {t : Int} (t1 : -2000000000 ≤ t) (t2 : t ≤ 2000000000) : ∃ v, xz_m s m f g t v ∧ fM_momentOf (xj_o o) (xI t) A = some (.inl (some (.int (xI v))), A) := by
  have hr := hF
  obtain ⟨r1, r2, r3, _⟩ := hr
  obtain ⟨r, e, hr⟩ := xz_isM ho p5 p6 hb he hF (t := t - m) (by omega) (by omega)
  rcases hr with ⟨rfl, hs⟩ | ⟨rfl, hs⟩
  · refine ⟨t - m, Or.inl ⟨hs, rfl⟩, ?_⟩
    unfold fM_momentOf
    rw [xk_gi ho p4 (by decide), xe_bind, xI_sub, xk_rq ho, e, xe_bi, xk_b1, xk_gi ho p4 (by decide), xe_bind, xI_sub]; rfl
  · refine ⟨t - s, Or.inr ⟨hs, rfl⟩, ?_⟩
    unfold fM_momentOf
    rw [xk_gi ho p4 (by decide), xe_bind, xI_sub, xk_rq ho, e, xe_bi, xk_b0, xk_gi ho p3 (by decide), xe_bind, xI_sub]; rfl

/-! An event's starts are put in order. -/
def xz_mo (s m : Int) (f g : Nat → Int) (t : Int) : Int := if (List.range 100).any (fun y => decide (f y ≤ t - m) && decide (t - m < g y)) = true then t - m else t - s
theorem xz_mo_m {s m : Int} {f g : Nat → Int} {t v : Int} (h : xz_m s m f g t v) : v = xz_mo s m f g t := by
  refine xz_m_u h ?_
  unfold xz_mo
  by_cases hc : (List.range 100).any (fun y => decide (f y ≤ t - m) && decide (t - m < g y)) = true
  · rw [if_pos hc]
    obtain ⟨y, y1, y2⟩ := List.any_eq_true.mp hc
    rw [Bool.and_eq_true, decide_eq_true_eq, decide_eq_true_eq] at y2
    exact Or.inl ⟨⟨y, List.mem_range.mp y1, y2.1, y2.2⟩, rfl⟩
  · rw [if_neg hc]
    refine Or.inr ⟨fun ⟨y, y1, y2, y3⟩ => hc (List.any_eq_true.mpr ⟨y, List.mem_range.mpr y1, ?_⟩), rfl⟩
    rw [Bool.and_eq_true, decide_eq_true_eq, decide_eq_true_eq]
    exact ⟨y2, y3⟩
theorem xz_mo_b {s m : Int} {f g : Nat → Int} (hF : xz_F s m f g) (t : Int) : t - 840 ≤ xz_mo s m f g t ∧ xz_mo s m f g t ≤ t + 840 := by
  obtain ⟨h1, h2, h3, _⟩ := hF
  unfold xz_mo
  split <;> omega
theorem xz_moC {A : xj_H} {z zb ze : Nat} {s m : Int} {f g : Nat → Int} (h : xz_C A z zb ze s m f g) (hF : xz_F s m f g) {t : Int} (t1 : -2000000000 ≤ t) (t2 : t ≤ 2000000000) : fZ_momentOf (xj_o z) (xI t) A = some (.inl (some (.int (xI (xz_mo s m f g t)))), A) := by
  obtain ⟨v, h1, h2⟩ := xz_momentC h hF t1 t2
  rw [h2, xz_mo_m h1]
theorem xz_moM {A : xj_H} {o mb me : Nat} {p : Nat → Value} {s m : Int} {f g : Nat → Int} (ho : xk_o A o 7 36 p) (p3 : p 3 = .int (xI s)) (p4 : p 4 = .int (xI m)) (p5 : p 5 = .ref mb) (p6 : p 6 = .ref me) (hb : xk_a A 0 mb 100 f) (he : xk_a A 0 me 100 g) (hF : xz_F s m f g) {t : Int} (t1 : -2000000000 ≤ t) (t2 : t ≤ 2000000000) : fM_momentOf (xj_o o) (xI t) A = some (.inl (some (.int (xI (xz_mo s m f g t)))), A) := by
  obtain ⟨v, h1, h2⟩ := xz_momentM ho p3 p4 p5 p6 hb he hF t1 t2
  rw [h2, xz_mo_m h1]
/-- an event of the class -/
def xu_E (A : xj_H) (o : Nat) (n x mi le : Int) (d st : Nat → Int) : Prop := A.1[o]? = some (.inr (2, [.ref (o + 1), .ref (o + 2), .int (xI n), .int (xI x), .int (xI mi), .int (xI le)])) ∧ xk_a A 0 (o + 1) 200 d ∧ xk_a A 0 (o + 2) 200 st
/-- st's first n are v's first n, put in order -/
def xu_S (v : Nat → Int) (n : Nat) (st : Nat → Int) : Prop := (∀ i j, i < j → j < n → st i ≤ st j) ∧ (∀ i, i < n → ∃ j, j < n ∧ st i = v j) ∧ (∀ j, j < n → ∃ i, i < n ∧ st i = v j)
theorem xu_ins {v : Nat → Int} {n : Nat} {st c : Nat → Int} (h : xu_S v n st) {p : Nat} (hp : p ≤ n) (h1 : ∀ j, j < p → c j = st j ∧ st j ≤ v n) (h2 : c p = v n) (h3 : ∀ j, p ≤ j → j < n → c (j + 1) = st j ∧ v n < st j) : xu_S v (n + 1) c := by
  obtain ⟨s1, s2, s3⟩ := h
  have h4 : ∀ j, p < j → j < n + 1 → c j = st (j - 1) ∧ v n < st (j - 1) := fun j a b => by
    have := h3 (j - 1) (by omega) (by omega)
    rwa [show j - 1 + 1 = j by omega] at this
  refine ⟨fun i j hi hj => ?_, fun i hi => ?_, fun j hj => ?_⟩
  · by_cases a : i < p
    · rw [(h1 i a).1]
      by_cases b : j < p
      · rw [(h1 j b).1]; exact s1 i j hi (by omega)
      · by_cases e : j = p
        · rw [e, h2]; exact (h1 i a).2
        · have := h4 j (by omega) hj
          have := (h1 i a).2
          omega
    · by_cases e : i = p
      · have := h4 j (by omega) hj
        rw [e, h2]
        omega
      · rw [(h4 i (by omega) (by omega)).1, (h4 j (by omega) hj).1]
        exact s1 _ _ (by omega) (by omega)
  · by_cases a : i < p
    · obtain ⟨j, j1, j2⟩ := s2 i (by omega)
      exact ⟨j, by omega, by rw [(h1 i a).1, j2]⟩
    · by_cases e : i = p
      · exact ⟨n, by omega, by rw [e, h2]⟩
      · obtain ⟨j, j1, j2⟩ := s2 (i - 1) (by omega)
        exact ⟨j, by omega, by rw [(h4 i (by omega) (by omega)).1, j2]⟩
  · by_cases e : j = n
    · exact ⟨p, by omega, by rw [e, h2]⟩
    · obtain ⟨i, i1, i2⟩ := s3 j (by omega)
      by_cases a : i < p
      · exact ⟨i, by omega, by rw [(h1 i a).1, i2]⟩
      · exact ⟨i + 1, by omega, by rw [(h3 i (by omega) i1).1, i2]⟩
theorem xu_inL {o : Nat} {k2 : xj_Rf → xj_Rf → Int32 → xj_H → Option xj_R} {w : xj_Rf} {fs : List Value} (f1 : fs[1]? = some (.ref (o + 2))) {i start : Int} (i1 : i < 200) (s1 : -2000000000 ≤ start) (s2 : start ≤ 2000000000) {st : Nat → Int} (hr : ∀ j : Nat, (j : Int) < i → -2000000000 ≤ st j ∧ st j ≤ 2000000000) (hs : ∀ a b : Nat, a < b → (b : Int) < i → st a ≤ st b) :
    ∀ (q : Nat) (y : Int) (A : xj_H) (c : Nat → Int), 0 ≤ y → y ≤ i → y.toNat < q → A.1[o]? = some (.inr (2, fs)) → xk_a A 0 (o + 2) 200 c → (∀ j : Nat, (j : Int) < y → c j = st j) → (∀ j : Nat, y ≤ j → (j : Int) < i → c (j + 1) = st j ∧ start < st j) →
      ∃ (B : xj_H) (e : Nat → Int) (p : Nat), fE_settle_33 k2 q (xj_o o) w (xI i) (xI start) (xI y) A = k2 (xj_o o) w (xI (i + 1)) B ∧ xk_u (fun i => i = o + 2) A B ∧ xk_a B 0 (o + 2) 200 e ∧ (p : Int) ≤ i ∧ (∀ j, j < p → e j = st j ∧ st j ≤ start) ∧ e p = start ∧ (∀ j : Nat, p ≤ j → (j : Int) < i → e (j + 1) = st j ∧ start < st j)
  | 0, y, _, _, _, _, h, _, _, _, _ => by omega
  | q + 1, y, A, c, y0, y1, hq, ho, hc, h1, h2 => by
    have stop : (∀ j : Nat, (j : Int) < y → st j ≤ start) → ∃ (B : xj_H) (e : Nat → Int) (p : Nat), fE_settle_73 k2 (xj_o o) w (xI i) (xI start) (xI y) A = k2 (xj_o o) w (xI (i + 1)) B ∧ xk_u (fun i => i = o + 2) A B ∧ xk_a B 0 (o + 2) 200 e ∧ (p : Int) ≤ i ∧ (∀ j, j < p → e j = st j ∧ st j ≤ start) ∧ e p = start ∧ (∀ j : Nat, p ≤ j → (j : Int) < i → e (j + 1) = st j ∧ start < st j) := by
      intro hle
      obtain ⟨B, w1, w2, w3⟩ := xk_as start hc y0 (by omega) (by omega)
      refine ⟨B, _, y.toNat, ?_, w3, w2, by omega, fun j hj => ⟨?_, hle j (by omega)⟩, xk_p_e _ _ _, fun j j1 j2 => ?_⟩
      · unfold fE_settle_73
        rw [xe_gr ho f1, xe_bind, w1, xe_bind, xl_1, xI_add]
      · rw [xk_p_n _ _ (by omega)]; exact h1 j (by omega)
      · rw [xk_p_n _ _ (by omega)]; exact h2 j (by omega) j2
    rw [fE_settle_33, xl_0, xq_le (by omega) (by omega) (by omega) (by omega)]
    by_cases hy : y ≤ 0
    · rw [if_pos hy]
      exact stop fun j hj => by omega
    · have e1 : c (y - 1).toNat = st (y - 1).toNat := h1 _ (by omega)
      have b1 := hr (y - 1).toNat (by omega)
      rw [if_neg hy, xe_gr ho f1, xe_bind, xl_1, xI_sub, xk_ai hc (by omega) (by omega) (by omega), xe_bind, e1, xq_le (by omega) (by omega) (by omega) (by omega)]
      by_cases hv : st (y - 1).toNat ≤ start
      · rw [if_pos hv]
        refine stop fun j hj => ?_
        by_cases e : j = (y - 1).toNat
        · rw [e]; exact hv
        · have := hs j (y - 1).toNat (by omega) (by omega)
          omega
      · rw [if_neg hv]
        obtain ⟨B, w1, w2, w3⟩ := xk_as (st (y - 1).toNat) hc y0 (by omega) (by omega)
        obtain ⟨C, e, p, v1, v2, v3⟩ := xu_inL f1 i1 s1 s2 hr hs q (y - 1) B _ (by omega) (by omega) (by omega) (xk_c ho w3 (by omega)) w2
          (fun j hj => by rw [xk_p_n _ _ (by omega)]; exact h1 j (by omega))
          (fun j j1 j2 => by
            by_cases e : j + 1 = y.toNat
            · rw [e, xk_p_e, show j = (y - 1).toNat by omega]
              exact ⟨rfl, by omega⟩
            · rw [xk_p_n _ _ e]; exact h2 j (by omega) j2)
        refine ⟨C, e, p, ?_, xk_t w3 v2, v3⟩
        rw [xe_bind, xe_bind, xk_ai hc (by omega) (by omega) (by omega), xe_bind, e1, w1, xe_bind]
        exact v1
theorem xu_seL {o z zb ze : Nat} (d1 : z ≠ o + 2) (d2 : zb ≠ o + 2) (d3 : ze ≠ o + 2) {n x mi le s m : Int} {d f g : Nat → Int} (hF : xz_F s m f g) (n1 : n ≤ 200) (m0 : 0 ≤ mi) (m1 : mi ≤ 1439) (hd : ∀ j : Nat, (j : Int) < n → 0 ≤ d j ∧ d j ≤ 36524) :
    ∀ (q : Nat) (i : Nat) (A : xj_H) (st : Nat → Int), (i : Int) ≤ n → (n - i).toNat < q → xu_E A o n x mi le d st → xz_C A z zb ze s m f g → xu_S (fun j => xz_mo s m f g (1440 * d j + mi)) i st →
      ∃ (B : xj_H) (e : Nat → Int), fE_settle_2 q (xj_o o) (xj_o z) (xI i) A = some (.inl none, B) ∧ xk_u (fun i => i = o + 2) A B ∧ xu_E B o n x mi le d e ∧ xu_S (fun j => xz_mo s m f g (1440 * d j + mi)) n.toNat e
  | 0, i, _, _, _, h, _, _, _ => by omega
  | q + 1, i, A, st, hi, hq, hE, hz, hS => by
    obtain ⟨ho, hd1, hst⟩ := hE
    rw [fE_settle_2, xe_gi ho rfl, xe_bind, xq_le (by omega) (by omega) (by omega) (by omega)]
    by_cases hc : n ≤ i
    · rw [if_pos hc]
      exact ⟨A, st, rfl, xk_r _ _, ⟨ho, hd1, hst⟩, by rwa [show n.toNat = i by omega]⟩
    · have hdi := hd i (by omega)
      have hb := xz_mo_b hF (1440 * d i + mi)
      rw [if_neg hc, xe_gr ho rfl, xe_bind, xk_ai hd1 (by omega) (by omega) (by omega), xe_bind, xe_gi ho rfl, xe_bind, xl_1440, xI_mul, xI_add, xe_rq hz.1, Int.toNat_natCast, xz_moC hz hF (by omega) (by omega), xe_bi]
      obtain ⟨B, e, p, u1, u2, u3, u4, u5, u6, u7⟩ := xu_inL (k2 := fE_settle_2 q) (w := xj_o z) (st := st) (start := xz_mo s m f g (1440 * d i + mi)) (i := i) (fs := [.ref (o + 1), .ref (o + 2), .int (xI n), .int (xI x), .int (xI mi), .int (xI le)]) rfl (by omega) (by omega) (by omega)
        (fun j hj => by
          obtain ⟨k, k1, k2⟩ := hS.2.1 j (by omega)
          have := hd k (by omega)
          have := xz_mo_b hF (1440 * d k + mi)
          rw [k2]
          constructor <;> simp only <;> omega)
        (fun a b ab hb => hS.1 a b ab (by omega)) xj_fu i A st (by omega) (by omega) (by unfold xj_fu; omega) ho hst (fun j hj => rfl) (fun j j1 j2 => by omega)
      rw [u1]
      obtain ⟨C, e', v1, v2, v3, v4⟩ := xu_seL d1 d2 d3 hF n1 m0 m1 hd q (i + 1) B e (by omega) (by omega) ⟨xk_c ho u2 (by omega), xk_au hd1 u2 (by omega), u3⟩
        ⟨xk_c hz.1 u2 d1, xk_au hz.2.1 u2 d2, xk_au hz.2.2 u2 d3⟩ (xu_ins hS (p := p) (by omega) u5 u6 (fun j j1 j2 => u7 j j1 (by omega)))
      exact ⟨C, e', v1, xk_t u2 v2, v3, v4⟩
theorem xu_settle {o z zb ze : Nat} (d1 : z ≠ o + 2) (d2 : zb ≠ o + 2) (d3 : ze ≠ o + 2) {n x mi le s m : Int} {d f g : Nat → Int} (hF : xz_F s m f g) (n0 : 0 ≤ n) (n1 : n ≤ 200) (m0 : 0 ≤ mi) (m1 : mi ≤ 1439) (hd : ∀ j : Nat, (j : Int) < n → 0 ≤ d j ∧ d j ≤ 36524) {A : xj_H} {st : Nat → Int} (hE : xu_E A o n x mi le d st) (hz : xz_C A z zb ze s m f g) :
    ∃ (B : xj_H) (e : Nat → Int), fE_settle (xj_o o) (xj_o z) A = some (.inl none, B) ∧ xk_u (fun i => i = o + 2) A B ∧ xu_E B o n x mi le d e ∧ xu_S (fun j => xz_mo s m f g (1440 * d j + mi)) n.toNat e :=
  xu_seL d1 d2 d3 hF n1 m0 m1 hd xj_fu 0 A st (by omega) (by unfold xj_fu; omega) hE hz ⟨fun i j _ h => by omega, fun i h => by omega, fun j h => by omega⟩

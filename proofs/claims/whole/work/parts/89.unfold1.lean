/-! The class: what a rule allows; the unfolding's steps. -/
def xf_bb (b : Int32) (P : Prop) : Prop := (b = 1 ∧ P) ∨ (b = 0 ∧ ¬ P)
theorem xf_aM {A : xj_H} {ru : Nat} {d : xr_D} (hok : xr_ok d) (hR : xr_R A ru d) {m : Int} (h0 : 0 ≤ m) (h1 : m ≤ 2000) : ∃ b, fR_allowsMonth (xj_o ru) (xI m) A = some (.inl (some (.int b)), A) ∧ xf_bb b (xf_M d.2.2.2.2.1 m) := by
  obtain ⟨M, N, E, W, H, G, g1, g2, _⟩ := hR
  have hz := xr_b_z g2
  have hj := xr_b_t g2 (j := (m % 12 + 1).toNat) (by omega)
  rw [show (((m % 12 + 1).toNat : Nat) : Int) = m % 12 + 1 by omega] at hj
  unfold fR_allowsMonth fR_allowsMonth_23 fR_allowsMonth_28
  rw [xe_gi g1 rfl, xe_bind]
  by_cases hM : M = 0
  · rw [if_pos hM]
    refine ⟨1, rfl, Or.inl ⟨rfl, Or.inl ?_⟩⟩
    apply Classical.byContradiction
    intro hne
    obtain ⟨v, hv⟩ := List.exists_mem_of_ne_nil _ hne
    have hb := hok.2.2.2.2.2.2.1 v hv
    unfold xr_okm at hb
    refine hz.mp hM v.toNat (by omega) ?_
    rw [show ((v.toNat : Nat) : Int) = v by omega]; exact hv
  · rw [if_neg hM, xe_bind, xl_12, xt_mod h0 (by omega) (by omega) (by omega), xl_1, xI_add, ← xl_1]
    by_cases hb : (m % 12 + 1) ∈ d.2.2.2.2.1
    · rw [if_neg (fun h => (hj.mp h) hb)]
      exact ⟨1, rfl, Or.inl ⟨rfl, Or.inr hb⟩⟩
    · rw [if_pos (hj.mpr hb)]
      refine ⟨0, rfl, Or.inr ⟨rfl, ?_⟩⟩
      rintro (h | h)
      · exact hM (hz.mpr fun k _ => by rw [h]; simp)
      · exact hb h
theorem xf_aN {A : xj_H} {ru : Nat} {d : xr_D} (hok : xr_ok d) (hR : xr_R A ru d) {n l : Int} (n0 : 1 ≤ n) (n1 : n ≤ l) (l1 : l ≤ 31) : ∃ b, fR_allowsNumber (xj_o ru) (xI n) (xI l) A = some (.inl (some (.int b)), A) ∧ xf_bb b (xf_N d.2.2.2.2.2.1 n l) := by
  have hN := xr_hasNu hok.2.2.2.2.2.2.2.1 hR
  obtain ⟨M, N, E, W, H, G, g1, g2, g3, g4, _⟩ := hR
  have h3 := xr_b_t g3 (j := n.toNat) (by omega)
  have h4 := xr_b_t g4 (j := (l - n + 1).toNat) (by omega)
  rw [show ((n.toNat : Nat) : Int) = n by omega] at h3
  rw [show (((l - n + 1).toNat : Nat) : Int) = l - n + 1 by omega] at h4
  unfold fR_allowsNumber fR_allowsNumber_37 fR_allowsNumber_42
  rw [xe_rq g1, hN, xe_bi]
  by_cases he : d.2.2.2.2.2.1 = []
  · rw [if_pos he, xk_n0]
    exact ⟨1, rfl, Or.inl ⟨rfl, Or.inl he⟩⟩
  · rw [if_neg he, xk_n1, xe_gi g1 rfl, xe_bind, xe_gi g1 rfl, xe_bind, xI_sub, xl_1, xI_add, ← xl_1]
    by_cases hn : n ∈ d.2.2.2.2.2.1
    · rw [if_pos (fun h => (h3.mp h) hn)]
      exact ⟨1, rfl, Or.inl ⟨rfl, Or.inr (Or.inl hn)⟩⟩
    · rw [if_neg (fun h => h (h3.mpr hn))]
      by_cases hl : -(l - n + 1) ∈ d.2.2.2.2.2.1
      · rw [if_neg (fun h => (h4.mp h) hl)]
        exact ⟨1, rfl, Or.inl ⟨rfl, Or.inr (Or.inr hl)⟩⟩
      · rw [if_pos (h4.mpr hl)]
        refine ⟨0, rfl, Or.inr ⟨rfl, ?_⟩⟩
        rintro (h | h | h)
        · exact he h
        · exact hn h
        · exact hl h
theorem xf_aW {A : xj_H} {ru : Nat} {d : xr_D} (hok : xr_ok d) (hR : xr_R A ru d) {w n l : Int} (w0 : 0 ≤ w) (w1 : w ≤ 6) (n0 : 1 ≤ n) (n1 : n ≤ l) (l1 : l ≤ 31) : ∃ b, fR_allowsWeekday (xj_o ru) (xI w) (xI n) (xI l) A = some (.inl (some (.int b)), A) ∧ xf_bb b (xf_W d.2.2.2.2.2.2 w n l) := by
  have hW := xr_hasWd hok.2.2.2.2.2.2.2.2 hR
  obtain ⟨M, N, E, W, H, G, g1, g2, g3, g4, g5, g6, g7⟩ := hR
  have h5 := xr_b_t g5 (j := w.toNat) (by omega)
  have h6 := xr_bl_t g6 (j := (7 * ((n - 1) / 7 + 1) + w).toNat) (by omega)
  have h7 := xr_bl_t g7 (j := (7 * ((l - n) / 7 + 1) + w).toNat) (by omega)
  rw [show ((w.toNat : Nat) : Int) = w by omega] at h5
  rw [show (((7 * ((n - 1) / 7 + 1) + w).toNat : Nat) : Int) = 7 * ((n - 1) / 7 + 1) + w by omega, show (((7 * ((n - 1) / 7 + 1) + w).toNat % 7 : Nat) : Int) = w by omega, show (((7 * ((n - 1) / 7 + 1) + w).toNat / 7 : Nat) : Int) = (n - 1) / 7 + 1 by omega] at h6
  rw [show (((7 * ((l - n) / 7 + 1) + w).toNat : Nat) : Int) = 7 * ((l - n) / 7 + 1) + w by omega, show (((7 * ((l - n) / 7 + 1) + w).toNat % 7 : Nat) : Int) = w by omega, show (((7 * ((l - n) / 7 + 1) + w).toNat / 7 : Nat) : Int) = (l - n) / 7 + 1 by omega] at h7
  unfold fR_allowsWeekday fR_allowsWeekday_18 fR_allowsWeekday_72 fR_allowsWeekday_77 fR_nthBit
  rw [xe_rq g1, hW, xe_bi]
  by_cases he : d.2.2.2.2.2.2 = []
  · rw [if_pos he, xk_b0]
    exact ⟨1, rfl, Or.inl ⟨rfl, Or.inl he⟩⟩
  · rw [if_neg he, xk_b1, xe_gi g1 rfl, xe_bind]
    by_cases c0 : (w, (0 : Int)) ∈ d.2.2.2.2.2.2
    · rw [if_neg (fun h => (h5.mp h) c0)]
      exact ⟨1, rfl, Or.inl ⟨rfl, Or.inr ⟨_, c0, rfl, Or.inl rfl⟩⟩⟩
    · rw [if_pos (h5.mpr c0), xe_gl g1 rfl, xe_bind, xl_1, xI_sub, xl_7, xt_div (by omega) (by omega) (by omega) (by omega), xI_add, xI_mul, xI_add, xe_bl]
      by_cases c1 : (w, (n - 1) / 7 + 1) ∈ d.2.2.2.2.2.2
      · rw [if_pos (fun h => (h6.mp ((xr_cmp _ _).mp h)) ⟨by omega, c1⟩)]
        exact ⟨1, rfl, Or.inl ⟨rfl, Or.inr ⟨_, c1, rfl, Or.inr (Or.inl rfl)⟩⟩⟩
      · rw [if_neg (fun h => h ((xr_cmp _ _).mpr (h6.mpr fun hc => c1 hc.2))), xe_gl g1 rfl, xe_bind, xI_sub, xt_div (by omega) (by omega) (by omega) (by omega), xI_add, xI_mul, xI_add, xe_bl]
        by_cases c2 : (w, -((l - n) / 7 + 1)) ∈ d.2.2.2.2.2.2
        · rw [if_neg (fun h => (h7.mp ((xr_cmp _ _).mp h)) ⟨by omega, c2⟩)]
          exact ⟨1, rfl, Or.inl ⟨rfl, Or.inr ⟨_, c2, rfl, Or.inr (Or.inr rfl)⟩⟩⟩
        · rw [if_pos ((xr_cmp _ _).mpr (h7.mpr fun hc => c2 hc.2))]
          refine ⟨0, rfl, Or.inr ⟨rfl, ?_⟩⟩
          rintro (h | ⟨⟨v1, v2⟩, v3, v4, v5⟩)
          · exact he h
          · simp only at v4 v5
            subst v4
            rcases v5 with rfl | rfl | rfl
            · exact c0 v3
            · exact c1 v3
            · exact c2 v3
/-! The unfolding. -/
def xf_fs (ru rw : Nat) (s m0 v lim c : Int) (x y b : Int32) : List Value := [.ref ru, .int (xI s), .int (xI m0), .int (xI (s - xd_ms m0 + 1)), .int (xI ((s + 5) % 7)), .int (xI v), .int (xI lim), .ref rw, .int (xI c), .int x, .int y, .int b]
def xf_S2 (o rw : Nat) (k : Nat) : Prop := k = o ∨ k = rw
def xf_dis (o ru rw : Nat) : Prop := o ≠ ru ∧ o ≠ rw ∧ ru ≠ rw
/-- the unfolding of d from day s: D found, month m entered -/
def xf_U (A : xj_H) (o ru rw : Nat) (d : xr_D) (s m0 : Int) (D : List Int) (m : Int) : Prop := (∃ b, A.1[o]? = some (.inr (6, xf_fs ru rw s m0 (xf_v d) (xf_c0 d) (D.length : Nat) (xI (xd_ms m)) (xI (xf_ml m)) b)) ∧ xf_bb b (xf_M d.2.2.2.2.1 m)) ∧ xr_R A ru d ∧ (∃ f, xk_a A 0 rw 200 f ∧ xu_h f D) ∧ D.length ≤ 200 ∧ 0 ≤ m ∧ m ≤ 1400
theorem xf_ent {A : xj_H} {o ru rw : Nat} {d : xr_D} {s m0 : Int} {D : List Int} {x y b : Int32} (hd : xf_dis o ru rw) (hok : xr_ok d) (h : A.1[o]? = some (.inr (6, xf_fs ru rw s m0 (xf_v d) (xf_c0 d) (D.length : Nat) x y b))) (hR : xr_R A ru d) (hw : ∃ f, xk_a A 0 rw 200 f ∧ xu_h f D) (hD : D.length ≤ 200) {m : Int} (hm0 : 0 ≤ m) (hm : m ≤ 1400) :
    ∃ B, fU_enterMonth (xj_o o) (xI m) A = some (.inl none, B) ∧ xk_u (fun k => k = o) A B ∧ xf_U B o ru rw d s m0 D m := by
  obtain ⟨B, b1, b2, b3⟩ := xk_pw (.int (xI (xd_ms m))) h (k := 9) (by simp [xf_fs])
  obtain ⟨C, c1, c2, c3⟩ := xk_pw (.int (xI (xf_ml m))) b2 (k := 10) (by simp [xf_fs])
  have hRC : xr_R C ru d := xr_Ru hR (xk_t b3 c3) (fun e => hd.1 e.symm)
  obtain ⟨z, z1, z2⟩ := xf_aM hok hRC hm0 (by omega)
  have hz : z = 0 ∨ z = 1 := by
    rcases z2 with ⟨rfl, _⟩ | ⟨rfl, _⟩
    · exact Or.inr rfl
    · exact Or.inl rfl
  obtain ⟨E, e1, e2, e3⟩ := xk_pz hz c2 (k := 11) (by simp [xf_fs])
  have u : xk_u (fun k => k = o) A E := xk_t (xk_t b3 c3) e3
  obtain ⟨f, f1, f2⟩ := hw
  obtain ⟨_, _, _, _, _, _, g1, _⟩ := hRC
  unfold fU_enterMonth
  rw [xv_monthStart hm0 (by omega), xe_bi, b1, xe_bind, xl_1, xI_add, xv_monthStart (by omega) (by omega), xe_bi, xe_gi b2 rfl, xe_bind, xI_sub, show xd_ms (m + 1) - xd_ms m = xf_ml m from rfl, c1, xe_bind, xe_gr c2 rfl, xe_bind, xe_rq g1, z1, xe_bi, e1, xe_bind]
  exact ⟨E, rfl, u, ⟨z, e2, z2⟩, xr_Ru hR u (fun e => hd.1 e.symm), ⟨f, xk_au f1 u (fun e => hd.2.1 e.symm), f2⟩, hD, hm0, hm⟩
theorem xf_fol {A : xj_H} {o ru rw : Nat} {d : xr_D} {s m0 : Int} {D : List Int} {m : Int} (hd : xf_dis o ru rw) (hok : xr_ok d) (h : xf_U A o ru rw d s m0 D m) (hm : m ≤ 1300) {y : Int} (y0 : -10 ≤ y) (y1 : y ≤ 38000) :
    ∃ B m', fU_followMonth (xj_o o) (xI y) A = some (.inl none, B) ∧ xk_u (fun k => k = o) A B ∧ xf_U B o ru rw d s m0 D m' ∧ ((m' = m ∧ y < xd_ms (m + 1)) ∨ (xd_mo y m' ∧ xd_ms (m + 1) ≤ y)) := by
  obtain ⟨⟨b, h1, h2⟩, h3, h4, h5, h6, h7⟩ := h
  have hb1 := xd_ms_b (m := m) h6 (by omega)
  have hb2 := xd_lt h6
  unfold fU_followMonth fU_followMonth_21
  rw [xe_gi h1 rfl, xe_bind, xe_gi h1 rfl, xe_bind, xI_add, show xd_ms m + xf_ml m = xd_ms (m + 1) by unfold xf_ml; omega, xq_lt (by omega) (by omega) (by omega) (by omega)]
  by_cases hc : y < xd_ms (m + 1)
  · rw [if_pos hc]
    exact ⟨A, m, rfl, xk_r _ _, ⟨⟨b, h1, h2⟩, h3, h4, h5, h6, h7⟩, Or.inl ⟨rfl, hc⟩⟩
  · obtain ⟨n, n1, n2, n3⟩ := xv_monthOf (d := y) (by omega) (by omega) A
    obtain ⟨B, b1, b2, b3⟩ := xf_ent hd hok h1 h3 h4 h5 (m := n) n1.1 (by omega)
    rw [if_neg hc, n3, xe_bi, xe_rq h1, b1, xe_bv]
    exact ⟨B, n, rfl, b2, b3, Or.inr ⟨n1, by omega⟩⟩
theorem xf_meant {A : xj_H} {o ru rw : Nat} {d : xr_D} {s m0 : Int} {D : List Int} {m : Int} (hok : xr_ok d) (h : xf_U A o ru rw d s m0 D m) {y : Int} (hy : xd_mo y m) (y1 : y ≤ 38000) : ∃ b, fU_isMeantInMonth (xj_o o) (xI y) A = some (.inl (some (.int b)), A) ∧ xf_bb b (xf_B d y m) := by
  obtain ⟨⟨b, h1, h2⟩, h3, h4, h5, h6, h7⟩ := h
  obtain ⟨y2, y3, y4⟩ := hy
  have hb2 := xd_lt h6
  have hml : xf_ml m = xd_ms (m + 1) - xd_ms m := rfl
  have hb0 := xd_mono' (m := 0) (n := m) (by omega) h6
  have hz0 := xz_0
  obtain ⟨p, p1, p2⟩ := xf_aN hok h3 (n := y - xd_ms m + 1) (l := xf_ml m) (by omega) (by omega) (by omega)
  obtain ⟨q, q1, q2⟩ := xf_aW hok h3 (w := (y + 5) % 7) (n := y - xd_ms m + 1) (l := xf_ml m) (by omega) (by omega) (by omega) (by omega) (by omega)
  obtain ⟨_, _, _, _, _, _, g1, _⟩ := h3
  unfold fU_isMeantInMonth fU_isMeantInMonth_47 fU_isMeantInMonth_48
  rw [xe_gi h1 rfl, xe_bind, xe_gr h1 rfl, xe_bind, xe_gi h1 rfl, xe_bind, xI_sub, xl_1, xI_add, ← xl_1, xe_rq g1, p1, xe_bi]
  rcases p2 with ⟨rfl, p3⟩ | ⟨rfl, p3⟩
  · rw [xk_b1, xe_gr h1 rfl, xe_bind, xv_weekdayOf (by omega) (by omega), xe_bi, xe_gi h1 rfl, xe_bind, xe_rq g1, q1, xe_bi]
    rcases q2 with ⟨rfl, q3⟩ | ⟨rfl, q3⟩
    · rw [xk_b1]
      exact ⟨1, rfl, Or.inl ⟨rfl, p3, q3⟩⟩
    · rw [xk_b0]
      exact ⟨0, rfl, Or.inr ⟨rfl, fun h => q3 h.2⟩⟩
  · rw [xk_b0]
    exact ⟨0, rfl, Or.inr ⟨rfl, fun h => p3 h.1⟩⟩
theorem xf_u0b {d : xr_D} (hok : xr_ok d) : 0 ≤ xf_u0 d ∧ xf_u0 d ≤ 36524 := by
  unfold xf_u0
  cases h : d.2.2.2.1 with
  | none => simp
  | some u => exact hok.2.2.2.2.2.1 u h
theorem xf_c0b {d : xr_D} (hok : xr_ok d) : 1 ≤ xf_c0 d ∧ xf_c0 d ≤ 200 := by
  have := hok.2.2.2.1
  have := hok.2.2.2.2.1
  unfold xf_c0
  split <;> omega
theorem xf_vb {d : xr_D} (hok : xr_ok d) : 1 ≤ xf_v d ∧ xf_v d ≤ 99 := by
  have := hok.2.1
  have := hok.2.2.1
  unfold xf_v
  split <;> omega
/-- what the unfolding keeps -/
def xf_K (A : xj_H) (o ru rw : Nat) (d : xr_D) (s m0 : Int) (D : List Int) (m x : Int) : Prop := xf_U A o ru rw d s m0 D m ∧ xf_is (xf_P d s m0) s x (xf_c0 d).toNat D
theorem xf_ad {A : xj_H} {o ru rw : Nat} {d : xr_D} {s m0 : Int} {D : List Int} {m x : Int} (hd : xf_dis o ru rw) (hok : xr_ok d) (h : xf_K A o ru rw d s m0 D m x) (s0 : 0 ≤ s) (s1 : s ≤ 36524) {y : Int} (y0 : -10 ≤ y) (y1 : y ≤ 38000) (hxy : x < y) (hn : ∀ t, s ≤ t → x < t → t < y → ¬ xf_P d s m0 t) (hP : s ≤ y → y ≤ xf_u0 d → xf_P d s m0 y) :
    ∃ B D', fU_add (xj_o o) (xI y) A = some (.inl none, B) ∧ xk_u (xf_S2 o rw) A B ∧ xf_K B o ru rw d s m0 D' m y := by
  obtain ⟨⟨⟨b, h1, h2⟩, h3, ⟨f, f1, f2⟩, h5, h6, h7⟩, hi⟩ := h
  have hu := xf_u0b hok
  have hc := xf_c0b hok
  obtain ⟨M, N, E, W, H, G, g1, g2⟩ := h3
  have g4 : xj_gi A (xj_o ru) 4 4 = some (xI (xf_u0 d)) := xe_gi g1 rfl
  have hl := hi.2.1
  unfold fU_add fU_add_50
  rw [xe_gi h1 rfl, xe_bind, xq_lt (by omega) (by omega) (by omega) (by omega)]
  by_cases c1 : y < s
  · rw [if_pos c1]
    exact ⟨A, D, rfl, xk_r _ _, ⟨⟨b, h1, h2⟩, ⟨M, N, E, W, H, G, g1, g2⟩, ⟨f, f1, f2⟩, h5, h6, h7⟩, xf_skip hi (by omega) fun t t1 t2 t3 => by omega⟩
  rw [if_neg c1, xe_gr h1 rfl, xe_bind, g4, xe_bind, xq_lt (by omega) (by omega) (by omega) (by omega)]
  by_cases c2 : xf_u0 d < y
  · rw [if_pos c2]
    refine ⟨A, D, rfl, xk_r _ _, ⟨⟨b, h1, h2⟩, ⟨M, N, E, W, H, G, g1, g2⟩, ⟨f, f1, f2⟩, h5, h6, h7⟩, xf_skip hi (by omega) fun t t1 t2 t3 hp => ?_⟩
    by_cases e : t = y
    · have := hp.1; omega
    · exact hn t t1 t2 (by omega) hp
  rw [if_neg c2, xe_gi h1 rfl, xe_bind, xe_gi h1 rfl, xe_bind, xq_le (by omega) (by omega) (by omega) (by omega)]
  by_cases c3 : xf_c0 d ≤ (D.length : Nat)
  · rw [if_pos c3]
    exact ⟨A, D, rfl, xk_r _ _, ⟨⟨b, h1, h2⟩, ⟨M, N, E, W, H, G, g1, g2⟩, ⟨f, f1, f2⟩, h5, h6, h7⟩, xf_full hi (by omega) (by omega)⟩
  obtain ⟨B, b1, b2, b3⟩ := xk_as y f1 (i := (D.length : Nat)) (by omega) (by omega) (by omega)
  have h1B := xk_c h1 b3 hd.2.1
  obtain ⟨C, k1, k2, k3⟩ := xk_pw (.int (xI ((D.length : Nat) + 1))) h1B (k := 8) (by simp [xf_fs])
  rw [if_neg c3, xe_gr h1 rfl, xe_bind, xe_bind, b1, xe_bind, xe_gi h1B rfl, xe_bind, xl_1, xI_add, k1, xe_bind]
  refine ⟨C, D ++ [y], rfl, xk_t (xk_w b3 fun _ h => Or.inr h) (xk_w k3 fun _ h => Or.inl h), ⟨⟨b, ?_, h2⟩, ⟨M, N, E, W, H, G, xk_c (xk_c g1 b3 hd.2.2) k3 (fun e => hd.1 e.symm), g2⟩, ⟨_, xk_au b2 k3 (fun e => hd.2.1 e.symm), xr_hap f2 y⟩, by simp; omega, h6, h7⟩, xf_add hi hxy (by omega) (hP (by omega) (by omega)) hn (by omega)⟩
  rw [List.length_append]
  exact k2

/-! The class's event: the new objects. -/
theorem xt_mk {A : xj_H} (x : xj_C) {k : Nat} (h1 : 1 ≤ A.2.1) (h2 : k ≤ A.2.2) : ∃ B, xj_mk A x k = some B ∧ B.1[A.1.length]? = some x ∧ B.1.length = A.1.length + 1 ∧ (∀ i, i < A.1.length → B.1[i]? = A.1[i]?) ∧ B.2.1 + 1 = A.2.1 ∧ B.2.2 + k = A.2.2 := by
  refine ⟨_, xe_mk h1 h2, by simp, by simp, fun i hi => ?_, by simp only; omega, by simp only; omega⟩
  simp only
  rw [List.getElem?_append_left hi]
theorem xt_B0 : xr_B xr_d0 0 0 0 0 0 0 := by
  refine ⟨xr_b_c xr_b_0 fun k _ => ?_, xr_b_c xr_b_0 fun k _ => ?_, xr_b_c xr_b_0 fun k _ => ?_, xr_b_c xr_b_0 fun k _ => ?_, xr_bl_c xr_bl_0 fun k _ => ?_, xr_bl_c xr_bl_0 fun k _ => ?_⟩ <;> simp [xr_d0]
theorem xt_isw (a : Nat) {P : Option xj_R} : (if xj_isw (xj_o a) = true then P else none) = P := if_pos rfl
/-- a reader is made -/
theorem xt_mkQ {A : xj_H} {n : Nat} (hq : 51 ≤ A.1.length) (h1 : 2 ≤ A.2.1) (h2 : 15 ≤ A.2.2) :
    ∃ A2 A5, xj_mk A (.inr (5, [.null, .int 0, .int 0, .null])) 4 = some A2 ∧ (∀ i, i < A.1.length → A2.1[i]? = A.1[i]?) ∧ fQ_init (xj_o A.1.length) (xj_o 1) (xI n) A2 = some (.inl none, A5) ∧ xr_Q A5 A.1.length 1 (A.1.length + 1) n 0 ∧ xr_R A5 (A.1.length + 1) xr_d0 ∧ (∀ i, i < A.1.length → A5.1[i]? = A.1[i]?) ∧ A5.1.length = A.1.length + 2 ∧ A5.2.1 + 2 = A.2.1 ∧ A5.2.2 + 15 = A.2.2 := by
  obtain ⟨A2, a1, a2, a3, a4, a5, a6⟩ := xt_mk (A := A) (.inr (5, [.null, .int 0, .int 0, .null])) (k := 4) (by omega) (by omega)
  obtain ⟨B1, b1, b2, b3⟩ := xk_pw (.ref 1) a2 (k := 0) (by simp)
  obtain ⟨B2, c1, c2, c3⟩ := xk_pw (.int (xI n)) b2 (k := 1) (by simp)
  obtain ⟨B3, d1, d2, d3⟩ := xk_pw (.int (0 : Int32)) c2 (k := 2) (by simp)
  have u1 := xk_t b3 (xk_t c3 d3)
  have l3 : B3.1.length = A.1.length + 1 := u1.2.1.trans a3
  obtain ⟨B4, e1, e2, e3, e4, e5, e6⟩ := xt_mk (A := B3) (.inr (4, [.null, .int 0, .int 0, .int 0, .int 0, .int 0, .int 0, .int 0, .int 0, .long 0, .long 0])) (k := 11) (by rw [u1.1]; omega) (by rw [u1.1]; omega)
  rw [l3] at e2 e3
  obtain ⟨B5, f1, f2, f3⟩ := xk_pw .null e2 (k := 0) (by simp)
  obtain ⟨B6, g1, g2, g3⟩ := xk_pw (.int (36524 : Int32)) f2 (k := 4) (by simp)
  have u2 := xk_t f3 g3
  have d4 : B6.1[A.1.length]? = some (.inr (5, [.ref 1, .int (xI n), .int 0, .null])) := (u2.2.2 _ (by omega)).trans ((e4 _ (by omega)).trans d2)
  obtain ⟨B7, k1, k2, k3⟩ := xk_pw (.ref (A.1.length + 1)) d4 (k := 3) (by simp)
  refine ⟨A2, B7, a1, a4, ?_, k2, ⟨0, 0, 0, 0, 0, 0, xk_c g2 k3 (by omega), xt_B0⟩, fun i hi => ?_, ?_, ?_, ?_⟩
  · unfold fQ_init fR_init
    have b1' : xj_pv A2 (xj_o A.1.length) 5 0 (xj_rv (xj_o 1)) = some B1 := b1
    have f1' : xj_pv B4 (xj_o (A.1.length + 1)) 4 0 (xj_rv none) = some B5 := f1
    have k1' : xj_pv B6 (xj_o A.1.length) 5 3 (xj_rv (xj_o (A.1.length + 1))) = some B7 := k1
    rw [xt_isw, b1', xe_bind, c1, xe_bind, d1, xe_bind, e1, xe_bind, l3, xt_isw, f1', xe_bind, g1, xe_bind, xe_bv, k1', xe_bind]
  · rw [k3.2.2 i (by omega), u2.2.2 i (by omega), e4 i (by omega), u1.2.2 i (by omega), a4 i hi]
  · rw [k3.2.1, u2.2.1, e3]
  · rw [k3.1, u2.1]; rw [u1.1] at e5; omega
  · rw [k3.1, u2.1]; rw [u1.1] at e6; omega
/-- an unfolding is made -/
theorem xt_mkU {A : xj_H} {ru rw : Nat} {d : xr_D} {s : Int} {f : Nat → Int} (hok : xr_ok d) (hru : ru < A.1.length) (hrw : rw < A.1.length) (s0 : 0 ≤ s) (s1 : s ≤ 36524) (hR : xr_R A ru d) (hw : xk_a A 0 rw 200 f) (h1 : 1 ≤ A.2.1) (h2 : 12 ≤ A.2.2) :
    ∃ A2 A3 m0, xj_mk A (.inr (6, [.null, .int 0, .int 0, .int 0, .int 0, .int 0, .int 0, .null, .int 0, .int 0, .int 0, .int 0])) 12 = some A2 ∧ (∀ i, i < A.1.length → A2.1[i]? = A.1[i]?) ∧ fU_init (xj_o A.1.length) (xj_o ru) (xI s) (xj_o rw) A2 = some (.inl none, A3) ∧ xd_mo s m0 ∧ A3.1[A.1.length]? = some (.inr (6, xf_fs ru rw s m0 (xf_v d) (xf_c0 d) (0 : Nat) 0 0 0)) ∧ (∀ i, i < A.1.length → A3.1[i]? = A.1[i]?) ∧ A3.1.length = A.1.length + 1 ∧ A3.2.1 + 1 = A.2.1 ∧ A3.2.2 + 12 = A.2.2 := by
  have hcb := xf_c0b hok
  have hiv0 := hok.2.1
  have hiv1 := hok.2.2.1
  have hcn0 := hok.2.2.2.1
  have hcn1 := hok.2.2.2.2.1
  obtain ⟨A2, a1, a2, a3, a4, a5, a6⟩ := xt_mk (A := A) (.inr (6, [.null, .int 0, .int 0, .int 0, .int 0, .int 0, .int 0, .null, .int 0, .int 0, .int 0, .int 0])) (k := 12) (by omega) (by omega)
  obtain ⟨B1, b1, b2, b3⟩ := xk_pw (.ref ru) a2 (k := 0) (by simp)
  obtain ⟨B2, c1, c2, c3⟩ := xk_pw (.int (xI s)) b2 (k := 1) (by simp)
  obtain ⟨B3, d1, d2, d3⟩ := xk_pw (.ref rw) c2 (k := 7) (by simp)
  obtain ⟨m0, n1, n2, n3⟩ := xv_monthOf (d := s) s0 (by omega) B3
  have hmb := xd_mo_b n1 s1
  have hm0 := n1.1
  obtain ⟨B4, e1, e2, e3⟩ := xk_pw (.int (xI m0)) d2 (k := 2) (by simp)
  obtain ⟨B5, f1, f2, f3⟩ := xk_pw (.int (xI (s - xd_ms m0 + 1))) e2 (k := 3) (by simp)
  obtain ⟨B6, g1, g2, g3⟩ := xk_pw (.int (xI ((s + 5) % 7))) f2 (k := 4) (by simp)
  have u1 : xk_u (fun i => i = A.1.length) A2 B6 := xk_t b3 (xk_t c3 (xk_t d3 (xk_t e3 (xk_t f3 g3))))
  obtain ⟨M, N, E, W, H, Gg, r1, r2⟩ := hR
  have rB6 : B6.1[ru]? = some (.inr (4, xr_fs d M N E W H Gg)) := (u1.2.2 ru (by omega)).trans ((a4 ru hru).trans r1)
  have hwB6 : xk_a B6 0 rw 200 f := xi_ac hw ((u1.2.2 rw (by omega)).trans (a4 rw hrw))
  obtain ⟨B7, k1, k2, k3⟩ := xk_pw (.int (xI (xf_v d))) g2 (k := 5) (by simp)
  have rB7 : B7.1[ru]? = some (.inr (4, xr_fs d M N E W H Gg)) := xk_c rB6 k3 (by omega)
  have hwB7 : xk_a B7 0 rw 200 f := xk_au hwB6 k3 (by omega)
  obtain ⟨B8, p1, p2, p3⟩ := xk_pw (.int (xI (xf_c0 d))) k2 (k := 6) (by simp)
  obtain ⟨B9, q1, q2, q3⟩ := xk_pw (.int (0 : Int32)) p2 (k := 8) (by simp)
  have u : xk_u (fun i => i = A.1.length) A2 B9 := xk_t u1 (xk_t k3 (xk_t p3 q3))
  refine ⟨A2, B9, m0, a1, a4, ?_, n1, q2, fun i hi => (u.2.2 i (by omega)).trans (a4 i hi), u.2.1.trans a3, by rw [u.1]; omega, by rw [u.1]; omega⟩
  unfold fU_init fU_init_82
  have b1' : xj_pv A2 (xj_o A.1.length) 6 0 (xj_rv (xj_o ru)) = some B1 := b1
  have d1' : xj_pv B2 (xj_o A.1.length) 6 7 (xj_rv (xj_o rw)) = some B3 := d1
  have hmax : fJ_max (1 : Int32) (xI d.2.1) B6 = some (.inl (some (.int (xI (xf_v d)))), B6) := by
    unfold fJ_max fJ_max_10 xf_v
    rw [xl_1, xq_lt (by omega) (by omega) (by omega) (by omega)]
    by_cases h : 1 < d.2.1
    · rw [if_pos h, if_neg (by omega)]
    · rw [if_neg h]
      by_cases h' : d.2.1 = 0
      · rw [if_pos h']
      · rw [if_neg h']; exact xj_ri (by omega)
  have hmin : ∀ x : Int, 1 ≤ x → x ≤ 200 → fJ_min (xI ((200 : Nat) : Int)) (xI x) B7 = some (.inl (some (.int (xI x))), B7) := by
    intro x x0 x1
    unfold fJ_min fJ_min_10
    rw [xq_lt (by omega) (by omega) (by omega) (by omega)]
    by_cases h : x < ((200 : Nat) : Int)
    · rw [if_pos h]
    · rw [if_neg h]; exact xj_ri (by omega)
  rw [xt_isw, b1', xe_bind, c1, xe_bind, d1', xe_bind, n3, xe_bi, e1, xe_bind, xe_gi e2 rfl, xe_bind, xv_monthStart hm0 (by omega), xe_bi, xI_sub, xl_1, xI_add, f1, xe_bind, xv_weekdayOf s0 (by omega), xe_bi, g1, xe_bind, xe_gi rB6 rfl, xe_bind, ← xl_1, hmax, xe_bi, k1, xe_bind, xk_len hwB7, xe_bind, xe_gi rB7 rfl, xe_bind, xl_0, xq_ne (by omega) (by omega) (by omega) (by omega), ← xl_0]
  by_cases hc : d.2.2.1 = 0
  · have e0 : xf_c0 d = 200 := by unfold xf_c0; rw [if_pos hc]
    rw [e0] at p1
    rw [if_pos hc, xl_200, hmin 200 (by omega) (by omega), xe_bi, p1, xe_bind, q1, xe_bind]
  · have e0 : xf_c0 d = d.2.2.1 := by unfold xf_c0; rw [if_neg hc]
    rw [e0] at p1
    rw [if_neg hc, xe_bind, hmin d.2.2.1 (by omega) (by omega), xe_bi, p1, xe_bind, q1, xe_bind]
/-- the days that a text says from a first day -/
def xt_dl (l : List Int) (s : Int) (Dl : List Int) : Prop := ∃ d m0, xr_says l d ∧ xr_ok d ∧ xd_mo s m0 ∧ xf_is (xf_P d s m0) s 50000 (xf_c0 d).toNat Dl
theorem xt_saysu {l : List Int} {d d' : xr_D} (h : xr_says l d) (h' : xr_says l d') : d = d' := by
  rcases h with ⟨h1, h2⟩ | ⟨h1, h2, _⟩
  · rcases h' with ⟨_, h4⟩ | ⟨h3, _⟩
    · rw [h2, h4]
    · exact absurd h1 h3
  · rcases h' with ⟨h3, _⟩ | ⟨_, h4, _⟩
    · exact absurd h3 h1
    · rw [h2] at h4; exact Option.some.inj h4
theorem xt_dlu {l : List Int} {s : Int} {D D' : List Int} (h : xt_dl l s D) (h' : xt_dl l s D') : D = D' := by
  obtain ⟨d, m0, h1, _, h3, h4⟩ := h
  obtain ⟨d', m0', k1, _, k3, k4⟩ := h'
  have e := xt_saysu h1 k1
  subst e
  have em := xd_mo_u h3 k3
  subst em
  exact xf_u h4 k4
theorem xt_dlb {l : List Int} {s : Int} (s0 : 0 ≤ s) {D : List Int} (h : xt_dl l s D) : xp_E D [] := by
  obtain ⟨d, m0, h1, hok, h3, h4⟩ := h
  have hcb := xf_c0b hok
  have hub := xf_u0b hok
  refine ⟨h4.1, fun t ht => ?_, by have := h4.2.1; omega, by simp, fun t ht => by simp at ht, by simp [xp_C]⟩
  have := h4.2.2.1 t ht
  have := this.2.2.1
  omega
theorem xt_saysal {l : List Int} {d : xr_D} (h : xr_says l d) : d.1.isSome = true ∧ (d.1 = some 1 → ∀ v ∈ d.2.2.2.2.2.2, v.2 = 0) := by
  rcases h with ⟨_, rfl⟩ | ⟨_, _, h⟩
  · exact ⟨rfl, fun h => by cases h⟩
  · refine ⟨h.1, fun h1 => ?_⟩
    rcases h.2.2.2 with h2 | h2 | h2
    · rw [h1] at h2; cases h2
    · rw [h1] at h2; cases h2
    · exact h2
def xt_txt (T : Nat → Int) (n : Nat) : List Int := (List.range n).map T
theorem xt_at {T : Nat → Int} (hT : ∀ i, 0 ≤ T i ∧ T i ≤ 65535) (n : Nat) : xr_at T n 0 (xt_txt T n) := by
  refine ⟨by simp [xt_txt], fun k x hk => ?_, fun c hc => ?_⟩
  · unfold xt_txt at hk
    rw [List.getElem?_map] at hk
    by_cases h : k < n
    · rw [List.getElem?_range h] at hk
      simp at hk
      simpa using hk
    · rw [List.getElem?_eq_none (by simp; omega)] at hk
      cases hk
  · obtain ⟨k, _, rfl⟩ := List.mem_map.mp hc
    exact hT k

/-! Turns: local, date, span, exclude. -/
theorem xt_local {A : xj_H} (hI : xi_I A) {t : Int} (t1 : -2147483648 ≤ t) (t2 : t ≤ 2147483647) : ∃ b B C, xj_rq A (xj_o 0) 0 (fB_local (xj_o 0) (xI t) A) = some (.inl (some (.int b)), B) ∧ xj_rq B (xj_o 34) 7 (fM_local (xj_o 34) (xI t) B) = some (.inl (some (.int b)), C) ∧ xi_I C ∧ xi_r A C := by
  obtain ⟨G, p, hP, hC, hM, hO⟩ := hI
  have hF : xz_F G.2.1.1 G.2.1.2.1 G.2.1.2.2.1 G.2.1.2.2.2 := hP.2.2.1
  obtain ⟨r, q1, q2⟩ := xz_isS hC.2.2.1 hF t1 t2
  obtain ⟨B, b1, b2, b3⟩ := xt_mf hM 0 hM
  obtain ⟨h1, h2, p2, p3, p4, p7, p33, h35, h36, h37, _⟩ := id b3
  obtain ⟨r', q3, q4⟩ := xz_isM h1 (h2 (5, 36) (by decide)) (h2 (6, 37) (by decide)) h36 h37 hF t1 t2
  have hO' : xi_O B := by
    obtain ⟨F0, hF0⟩ := hO
    exact ⟨F0, (b2.2.2 50 (by decide)).trans hF0⟩
  have hr' : xi_r A B := xt_ri (xt_rr A) b2.1
  have hI' : xi_I B := ⟨G, _, hP, xi_Cc hC (xi_gu b2 (fun i i1 i2 => by omega)), b3, hO'⟩
  have hz := hC.2.2.1.1
  rw [xe_rq hC.1]
  unfold fB_local fZ_offsetAt fZ_offsetAt_19 fM_local fM_local_25
  rw [xe_gr hC.1 rfl, xe_bind, xe_rq hz, xe_rq hz, q1, xe_bi]
  rcases q2 with ⟨rfl, z⟩ | ⟨rfl, z⟩
  · rcases q4 with ⟨rfl, _⟩ | ⟨rfl, z'⟩
    · refine ⟨xI t + xI G.2.1.2.1, A, B, ?_, ?_, hI', hr'⟩
      · rw [xk_b1, xe_gi hz rfl, xe_bind, xe_bi]
      · rw [xk_rq hM.1, b1, xe_bind, xk_rq h1, q3, xe_bi, xk_b1, xk_gi h1 p4 (by decide), xe_bind]
    · exact absurd z z'
  · rcases q4 with ⟨rfl, z'⟩ | ⟨rfl, _⟩
    · exact absurd z' z
    · refine ⟨xI t + xI G.2.1.1, A, B, ?_, ?_, hI', hr'⟩
      · rw [xk_b0, xe_gi hz rfl, xe_bind, xe_bi]
      · rw [xk_rq hM.1, b1, xe_bind, xk_rq h1, q3, xe_bi, xk_b0, xk_gi h1 p3 (by decide), xe_bind]
theorem xt_date {A : xj_H} (hI : xi_I A) {y m d : Int} (y1 : -2147483648 ≤ y) (y2 : y ≤ 2147483647) (m1 : -2147483648 ≤ m) (m2 : m ≤ 2147483647) (d1 : -2147483648 ≤ d) (d2 : d ≤ 2147483647) : ∃ b B C, xj_rq A (xj_o 0) 0 (fB_date (xj_o 0) (xI y) (xI m) (xI d) A) = some (.inl (some (.int b)), B) ∧ xj_rq B (xj_o 34) 7 (fM_date (xj_o 34) (xI y) (xI m) (xI d) B) = some (.inl (some (.int b)), C) ∧ xi_I C ∧ xi_r A C := by
  obtain ⟨G, p, hP, hC, hM, hO⟩ := hI
  obtain ⟨B, b1, b2, b3⟩ := xt_mf hM 0 hM
  have hO' : xi_O B := by
    obtain ⟨F0, hF0⟩ := hO
    exact ⟨F0, (b2.2.2 50 (by decide)).trans hF0⟩
  refine ⟨_, A, B, by rw [xe_rq hC.1]; unfold fB_date; rw [xv_dayOf y m d y1 y2 m1 m2 d1 d2, xe_bi], ?_, ⟨G, _, hP, xi_Cc hC (xi_gu b2 (fun i i1 i2 => by omega)), b3, hO'⟩, xt_ri (xt_rr A) b2.1⟩
  rw [xk_rq hM.1]
  unfold fM_date fM_date_45 fM_date_46
  rw [b1, xe_bind, xl_2000, xq_lt (by omega) (by omega) (by omega) (by omega), xl_2099, xq_lt (by omega) (by omega) (by omega) (by omega)]
  by_cases c1 : y < 2000
  · rw [if_pos c1]
    rw [if_neg (by omega)]; rfl
  rw [if_neg c1]
  by_cases c2 : 2099 < y
  · rw [if_pos c2]
    rw [if_neg (by omega)]; rfl
  rw [if_neg c2, xI_sub, xv_isDate (y - 2000) m d (by omega) (by omega) m1 m2 d1 d2, xe_bi]
  by_cases c3 : 0 ≤ y - 2000 ∧ y - 2000 < 100 ∧ 1 ≤ m ∧ m ≤ 12 ∧ 1 ≤ d ∧ d ≤ xd_ml (y - 2000) m
  · have := xd_ml_b (y - 2000) m
    rw [if_pos c3, xk_b1, xv_mdayOf (by omega) (by omega) (by omega) (by omega) (by omega) (by omega), xe_bi, if_pos ⟨by omega, by omega, by omega, by omega, by omega, c3.2.2.2.2.2⟩]
  · rw [if_neg c3, xk_b0]
    rw [if_neg fun h => c3 ⟨by omega, by omega, by omega, by omega, by omega, h.2.2.2.2.2⟩]; rfl
theorem xt_span {A : xj_H} (hI : xi_I A) (r1 : 1 ≤ A.2.1) (r2 : 6 ≤ A.2.2) {v : Int} (v1 : -2147483648 ≤ v) (v2 : v ≤ 2147483647) (q : Int32) : xt_R A (fL_span (xj_o 0) (xI v) q (xj_o 50) A) (fM_span (xj_o 34) (xI v) q) := by
  obtain ⟨⟨⟨n, T⟩, ⟨s, m, f, g⟩, ⟨ne, mi, le, D, X⟩, ⟨c, b, e⟩⟩, p, hP, hC, hM, hO⟩ := hI
  obtain ⟨P1, P2, P3, P4, P5, P6, P7, P8, P9⟩ := id hP
  obtain ⟨k1, k2, k3, k4, kh, fr, to, s1, s2, s3⟩ := id hC
  simp only at P9 k1 s1 s2 s3
  unfold fL_span
  by_cases hin : 0 ≤ v ∧ v < c
  · refine xt_ok (v := if q = 0 then xI (b v.toNat) else xI (e v.toNat)) (B0 := A) ?_ (xt_rq hC) hC (xi_gr _ _ _) (xt_rr A) hM hO hP fun B hB => ?_
    · unfold fB_span fB_span_50
      rw [xl_0, xq_lt (by omega) (by omega) (by omega) (by omega), if_neg (by omega), xe_gr k1 rfl, xe_bind, xe_gi s1 rfl, xe_bind, xq_lt (by omega) (by omega) (by omega) (by omega), if_pos hin.2, ← xl_0]
      by_cases hq : q = 0
      · rw [if_pos hq, if_pos hq, xe_bind, xe_gr s1 rfl, xe_bind, xk_ai s2 (by omega) (by omega) (by omega), xe_bind]
      · rw [if_neg hq, if_neg hq, xe_bind, xe_gr s1 rfl, xe_bind, xk_ai s3 (by omega) (by omega) (by omega), xe_bind]
    · obtain ⟨C, c1, c2, c3⟩ := xt_fails hB (b := 0) (Or.inl rfl)
      refine ⟨C, _, ?_, c2, c3, rfl⟩
      obtain ⟨h1, h2, p2, p3, p4, p7, p33, h35, h36, h37, hT, _, b', e', h48, h49, h50⟩ := id c3
      have g33 : xj_gi B (xj_o 34) 7 33 = some (xI c) := xk_gi hB.1 hB.2.2.2.2.2.2.1 (by decide)
      have hv := h50 v.toNat (by simp only; omega)
      simp only at hv
      unfold fM_span fM_span_18 fM_span_45
      rw [xl_0, xq_lt (by omega) (by omega) (by omega) (by omega), if_neg (by omega), g33, xe_bind, xq_lt (by omega) (by omega) (by omega) (by omega), if_pos hin.2, xk_rq hB.1, ← xl_0, c1, xe_bi, xk_b0]
      by_cases hq : q = 0
      · rw [if_pos hq, if_pos hq, xm_gr 48 h1 h2 (by decide) (by decide), xe_bind, xk_ai h48 (by omega) (by omega) (by omega), xe_bind, hv.1]
      · rw [if_neg hq, if_neg hq, xm_gr 49 h1 h2 (by decide) (by decide), xe_bind, xk_ai h49 (by omega) (by omega) (by omega), xe_bind, hv.2]
  · obtain ⟨y1, y2, y3⟩ := xt_thC r1 r2 hC
    refine xt_no (k := 1) (w := 0) (nm := xt_nse) (by decide) ?_ rfl (xt_rq hC) y1 y2 y3 hM hO hP (xt_mno fun B hB => ?_)
    · unfold fB_span fB_span_15
      rw [xi_th _ r1 r2, xl_0, xq_lt (by omega) (by omega) (by omega) (by omega)]
      by_cases q1 : v < 0
      · rw [if_pos q1]; rfl
      · rw [if_neg q1, xe_gr k1 rfl, xe_bind, xe_gi s1 rfl, xe_bind, xq_lt (by omega) (by omega) (by omega) (by omega), if_neg (by omega)]; rfl
    · obtain ⟨C, c1, c2, c3⟩ := xt_fails hB (b := 1) (Or.inr rfl)
      have g33 : xj_gi B (xj_o 34) 7 33 = some (xI c) := xk_gi hB.1 hB.2.2.2.2.2.2.1 (by decide)
      unfold fM_span fM_span_13 fM_span_18
      rw [xl_0, xq_lt (by omega) (by omega) (by omega) (by omega), xk_rq hB.1, c1, xe_bi, xe_bi, ← xl_0, xk_b1]
      by_cases q1 : v < 0
      · rw [if_pos q1]
      · rw [if_neg q1, g33, xe_bind, xq_lt (by omega) (by omega) (by omega) (by omega), if_neg (by omega)]
/-! Leaving a day out. -/
def xt_Rx (A : xj_H) (F : Option xj_R) (M : xj_H → Option xj_R) : Prop := ∃ k w B C, F = some (.inl (some (.int k)), B) ∧ xj_rq B (xj_o 34) 7 (M B) = some (.inl (some (.int w)), C) ∧ xj_rq C (xj_o 34) 7 (fM_thrown (xj_o 34) C) = some (.inl (some (.int k)), C) ∧ (k = 0 → xj_lai C (xj_o 50) 0 = some (if w = 0 then 0 else 1)) ∧ xi_I C ∧ xi_r A C
theorem xt_okx {A B0 : xj_H} {v : Int32} {p : Nat → Value} {G G' : xi_G} {F0 : Option xj_R} {X : String → xj_H → Option xj_R} {M : xj_H → Option xj_R} (hF : F0 = some (.inl (some (.int v)), B0)) (hK : ∀ F, xj_rq A (xj_o 0) 0 F = F) (hC : xi_Cg B0 G') (hg : xi_g A B0 34 50) (hr : xi_r A B0) (hM : xi_Mg A p G) (hO : xi_O A) (hP : xi_Pg G')
    (hmod : ∀ B, xi_Mg B p G → ∃ C p', M B = some (.inl (some (.int v)), C) ∧ xk_u xt_S B C ∧ xi_Mg C p' G' ∧ p' 0 = .int 0) :
    xt_Rx A (xj_ki (xj_rq A (xj_o 0) 0 F0) (fun x3 A4 => if x3 = 0 then fL_exclude_16 (0 : Int64) (0 : Int32) (xj_o 50) A4 else fL_exclude_16 (1 : Int64) (0 : Int32) (xj_o 50) A4) X) M := by
  obtain ⟨F, hF50⟩ := hO
  obtain ⟨B, b1, b2, b3, b4⟩ := xi_las (A := B0) ⟨F, (hg 50 (by decide) (by decide)).trans hF50⟩ (if v = 0 then 0 else 1)
  have hMB : xi_Mg B p G := xi_Mc hM (xi_gt (xi_gs hg (by decide) (by decide)) (xi_gu b2 (fun i i1 i2 => by omega)))
  obtain ⟨C, p', c1, c2, c3, c4⟩ := hmod B hMB
  have hCC : xi_Cg C G' := xi_Cc hC (xi_gt (xi_gu b2 (fun i i1 i2 => by omega)) (xi_gu c2 (fun i i1 i2 => by unfold xt_S; omega)))
  have h50 : C.1[50]? = B.1[50]? := c2.2.2 50 (by unfold xt_S; omega)
  obtain ⟨F', hF'⟩ := b3
  refine ⟨0, v, B, C, ?_, by rw [xk_rq hMB.1, c1], xt_thr c3 c4, fun _ => b4 C h50, ⟨G', p', hP, hCC, c3, ⟨F', h50.trans hF'⟩⟩, xt_ri hr (c2.1.trans b2.1)⟩
  rw [hK, hF]
  show (if v = 0 then fL_exclude_16 (0 : Int64) (0 : Int32) (xj_o 50) B0 else fL_exclude_16 (1 : Int64) (0 : Int32) (xj_o 50) B0) = _
  unfold fL_exclude_16
  by_cases hv : v = 0
  · rw [if_pos hv] at b1
    rw [if_pos hv, b1, xe_bind]
  · rw [if_neg hv] at b1
    rw [if_neg hv, b1, xe_bind]
theorem xt_nox {A B0 : xj_H} {k w : Int32} {nm : String} {p : Nat → Value} {G G' : xi_G} {F0 : Option xj_R} {Y : Int32 → xj_H → Option xj_R} {X : String → xj_H → Option xj_R} {M : xj_H → Option xj_R} (hk : k ≠ 0) (hF : F0 = some (.inr nm, B0)) (hX : X nm B0 = some (.inl (some (.int k)), B0)) (hK : ∀ F, xj_rq A (xj_o 0) 0 F = F) (hC : xi_Cg B0 G') (hg : xi_g A B0 34 50) (hr : xi_r A B0) (hM : xi_Mg A p G) (hO : xi_O A) (hP : xi_Pg G')
    (hmod : ∀ B, xi_Mg B p G → ∃ C p', M B = some (.inl (some (.int w)), C) ∧ xk_u xt_S B C ∧ xi_Mg C p' G' ∧ p' 0 = .int k) :
    xt_Rx A (xj_ki (xj_rq A (xj_o 0) 0 F0) Y X) M := by
  obtain ⟨k', w', B, C, h1, h2, h3, h4, h5, h6⟩ := xt_no (Y := Y) hk hF hX hK hC hg hr hM hO hP hmod
  have hk' : k' = k := by
    rw [hK, hF] at h1
    have h7 : X nm B0 = some (.inl (some (.int k')), B) := h1
    rw [hX] at h7
    simp at h7
    exact h7.1.symm
  exact ⟨k', w', B, C, h1, h2, h3, fun h => absurd (hk'.symm.trans h) hk, h5, h6⟩
theorem xt_exclude {A : xj_H} (hI : xi_I A) (r1 : 1 ≤ A.2.1) (r2 : 6 ≤ A.2.2) {v y : Int} (v1 : -2147483648 ≤ v) (v2 : v ≤ 2147483647) (y1 : -2147483648 ≤ y) (y2 : y ≤ 2147483647) : xt_Rx A (fL_exclude (xj_o 0) (xI v) (xI y) (xj_o 50) A) (fM_exclude (xj_o 34) (xI v) (xI y)) := by
  obtain ⟨G, p, hP, hC, hM, hO⟩ := hI
  have hF : xz_F G.2.1.1 G.2.1.2.1 G.2.1.2.2.1 G.2.1.2.2.2 := hP.2.2.1
  have hne : G.2.2.1.1 ≤ 8 := hP.2.2.2.1
  unfold fL_exclude
  rcases xt_fe hP hC r1 r2 v1 v2 with ⟨w0, w1, w2⟩ | ⟨w0, w2⟩
  · obtain ⟨d, st, e1, e2, e3, e4, e5, e6, e7, e8⟩ := xt_ev hP hC w0 w1
    have hXl := e4.2.2.2.1
    -- the reference
    have hmodel : ∀ B, xi_Mg B p G → ∃ C0, xk_u xt_S B C0 ∧ xi_Mg C0 (xk_p p 0 (.int 0)) G ∧ fM_exclude (xj_o 34) (xI v) (xI y) B = fM_exclude_31 xj_fu (xj_o 34) (xI ((v.toNat : Nat) : Int)) (xI y) (xm_b ((G.2.2.1.2.2.2.1 v.toNat).take 0) y) (xI ((0 : Nat) : Int)) C0 := by
      intro B hB
      obtain ⟨C, c1, c2, c3⟩ := xt_fails hB (b := 0) (Or.inl rfl)
      refine ⟨C, c2, c3, ?_⟩
      unfold fM_exclude fM_exclude_18
      rw [xl_0, xq_lt (by omega) (by omega) (by omega) (by omega), if_neg (by omega), xk_gi hB.1 hB.2.2.2.2.2.1 (by decide), xe_bind, xq_lt (by omega) (by omega) (by omega) (by omega), if_pos (by omega), xk_rq hB.1, ← xl_0, c1, xe_bi, xk_b0, show ((v.toNat : Nat) : Int) = v by omega]
      rfl
    have hexc : ∀ C0, xi_Mg C0 (xk_p p 0 (.int 0)) G → _ := fun C0 hC0 => xm_excL hC0.1 hC0.2.1 hC0.2.2.2.2.2.2.2.2.2.2.1 hP.2.2.2.2.1 (e := v.toNat) (by omega) y1 y2 xj_fu 0 (by omega) (by have := e4.2.2.1; unfold xj_fu; omega)
    rcases xu_leaveOut (xp_Cl e4) (by omega) (by omega) y1 y2 (xp_Cb e4) (xp_Cs e4) e2 e1 with ⟨l1, l2⟩ | ⟨l1, l2, B1, d', l3, l4, l5, l6, l7⟩
    · refine xt_okx (v := 0) (B0 := A) ?_ (xt_rq hC) hC (xi_gr _ _ _) (xt_rr A) hM hO hP fun B hB => ?_
      · unfold fB_exclude
        rw [xe_rq hC.1, w2, xe_br, xe_rq e1.1, l2, xe_bi, xk_n0]
        rfl
      · obtain ⟨C0, c2, c3, c1⟩ := hmodel B hB
        refine ⟨C0, _, ?_, c2, c3, rfl⟩
        rcases hexc C0 c3 with ⟨_, x2⟩ | ⟨x1, x2, _⟩
        · rw [c1, x2]
        · rcases l1 with l1 | l1
          · omega
          · exact absurd x1 l1
    · -- left out
      have hx1 : ((xp_C (G.2.2.1.2.2.2.1 v.toNat) (G.2.2.1.2.2.2.2 v.toNat)).filter (fun d => d != y)) = xp_C (G.2.2.1.2.2.2.1 v.toNat) (G.2.2.1.2.2.2.2 v.toNat ++ [y]) := xp_Cx.symm
      have hlen : (((xp_C (G.2.2.1.2.2.2.1 v.toNat) (G.2.2.1.2.2.2.2 v.toNat)).length : Nat) : Int) - 1 = ((xp_C (G.2.2.1.2.2.2.1 v.toNat) (G.2.2.1.2.2.2.2 v.toNat ++ [y])).length : Nat) := by rw [← hx1]; omega
      rw [hlen] at l5
      rw [hx1] at l6
      have hE' := xp_Ex e4 l2 (by omega)
      have hzB := hC.2.2.1
      have hzB1 : xz_C B1 2 3 4 G.2.1.1 G.2.1.2.1 G.2.1.2.2.1 G.2.1.2.2.2 := ⟨xk_c hzB.1 l4 (by omega), xk_au hzB.2.1 l4 (by omega), xk_au hzB.2.2 l4 (by omega)⟩
      obtain ⟨B2, st', s1, s2, s3, s4⟩ := xu_settle (z := 2) (zb := 3) (ze := 4) (by omega) (by omega) (by omega) hF (by omega) (by have := xp_Cl hE'; omega) e5 e6 (fun j hj => by
        have := xp_Cb hE' (d' j) (xu_hm l6 (by omega))
        exact this) l5 hzB1
      have u12 : xk_u (fun i => 6 + 3 * v.toNat ≤ i ∧ i ≤ 8 + 3 * v.toNat) A B2 := xk_t (xk_w l4 fun i (hi : i = 6 + 3 * v.toNat ∨ i = 6 + 3 * v.toNat + 1) => by omega) (xk_w s2 fun i (hi : i = 6 + 3 * v.toNat + 2) => by omega)
      have hCB : xi_Cg B2 (G.1, G.2.1, (G.2.2.1.1, G.2.2.1.2.1, G.2.2.1.2.2.1, G.2.2.1.2.2.2.1, xk_p G.2.2.1.2.2.2.2 v.toNat (G.2.2.1.2.2.2.2 v.toNat ++ [y])), G.2.2.2) := by
        obtain ⟨k1, k2, ⟨z1, z2, z3⟩, ⟨⟨ev, q1, q2⟩, h5⟩, ⟨hh, k6⟩, fr, to, x1, x2, x3⟩ := hC
        refine ⟨xk_c k1 u12 (by omega), xk_au k2 u12 (by omega), ⟨xk_c z1 u12 (by omega), xk_au z2 u12 (by omega), xk_au z3 u12 (by omega)⟩, ⟨⟨ev, xk_c q1 u12 (by omega), q2⟩, fun j hj => ?_⟩, ⟨hh, xk_au k6 u12 (by omega)⟩, fr, to, xk_c x1 u12 (by omega), xk_au x2 u12 (by omega), xk_au x3 u12 (by omega)⟩
        by_cases ej : j = v.toNat
        · subst ej
          refine ⟨⟨_, _, _, _, _, _, s3⟩, fun _ => ⟨d', st', ?_, ?_, ?_⟩⟩
          · simp only; rw [xk_p_e, List.length_append, List.length_singleton]
            exact s3
          · simp only; rw [xk_p_e]; exact l6
          · simp only; rw [xk_p_e]; exact s4
        · refine ⟨xi_frc (h5 j hj).1 fun i i1 i2 => u12.2.2 i (by omega), fun hn => ?_⟩
          simp only; rw [xk_p_n _ _ ej]
          exact xi_evc ((h5 j hj).2 hn) fun i i1 i2 => u12.2.2 i (by omega)
      have hPB : xi_Pg (G.1, G.2.1, (G.2.2.1.1, G.2.2.1.2.1, G.2.2.1.2.2.1, G.2.2.1.2.2.2.1, xk_p G.2.2.1.2.2.2.2 v.toNat (G.2.2.1.2.2.2.2 v.toNat ++ [y])), G.2.2.2) := by
        obtain ⟨P1, P2, P3, P4, P5, P6, P7, P8, P9⟩ := id hP
        refine ⟨P1, P2, P3, P4, fun j hj => ?_, P6, P7, fun j hj => ?_, P9⟩
        · by_cases ej : j = v.toNat
          · subst ej; simp only; rw [xk_p_e]; exact hE'
          · simp only; rw [xk_p_n _ _ ej]; exact P5 j hj
        · simp only at hj ⊢
          rw [xk_p_n _ _ (by omega)]; exact P8 j hj
      refine xt_okx (v := 1) (B0 := B2) ?_ (xt_rq hC) hCB (xi_gu u12 (fun i i1 i2 => by omega)) (xt_ri (xt_rr A) u12.1) hM hO hPB fun B hB => ?_
      · have k1B : B1.1[0]? = A.1[0]? := l4.2.2 0 (by omega)
        unfold fB_exclude
        rw [xe_rq hC.1, w2, xe_br, xe_rq e1.1, l3, xe_bi, xk_n1, xe_gr (k1B.trans hC.1) rfl, xe_bind, xe_rq l5.1, s1, xe_bv]
        rfl
      · obtain ⟨C0, c2, c3, c1⟩ := hmodel B hB
        rcases hexc C0 c3 with ⟨x1, _⟩ | ⟨_, _, C1, x3, x4, x5⟩
        · rcases x1 with x1 | x1
          · exact absurd l2 x1
          · omega
        · refine ⟨C1, xk_p p 0 (.int 0), by rw [c1, x3], xk_t c2 (xk_w x4 fun i (hi : i = 42 ∨ i = 43) => by unfold xt_S; omega), ?_, rfl⟩
          obtain ⟨h1, h2, p2, p3, p4, p7, p33, h35, h36, h37, hT, ⟨⟨f4, g4⟩, ⟨f5, g5⟩, ⟨f6, g6⟩, ⟨f7, g7⟩⟩, b', e', h48, h49, h50⟩ := c3
          exact ⟨xk_ou h1 x4 (by decide), h2, p2, p3, p4, p7, p33, xk_au h35 x4 (by decide), xk_au h36 x4 (by decide), xk_au h37 x4 (by decide), x5, ⟨⟨f4, xk_au g4 x4 (by decide)⟩, ⟨f5, xk_au g5 x4 (by decide)⟩, ⟨f6, xk_au g6 x4 (by decide)⟩, ⟨f7, xk_au g7 x4 (by decide)⟩⟩, b', e', xk_au h48 x4 (by decide), xk_au h49 x4 (by decide), h50⟩
  · obtain ⟨z1, z2, z3⟩ := xt_thC r1 r2 hC
    refine xt_nox (k := 1) (w := 0) (nm := xt_nse) (by decide) ?_ rfl (xt_rq hC) z1 z2 z3 hM hO hP (xt_mno fun B hB => ?_)
    · unfold fB_exclude
      rw [xe_rq hC.1, w2, xt_brn]
    · obtain ⟨C, c1, c2, c3⟩ := xt_fails hB (b := 1) (Or.inr rfl)
      unfold fM_exclude fM_exclude_13 fM_exclude_18
      rw [xl_0, xq_lt (by omega) (by omega) (by omega) (by omega), xk_rq hB.1, c1, xe_bi, xe_bi, ← xl_0, xk_b1]
      by_cases q1 : v < 0
      · rw [if_pos q1]; rfl
      · rw [if_neg q1, xk_gi hB.1 hB.2.2.2.2.2.1 (by decide), xe_bind, xq_lt (by omega) (by omega) (by omega) (by omega), if_neg (by omega)]; rfl

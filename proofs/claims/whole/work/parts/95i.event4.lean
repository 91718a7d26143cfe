/-! The turn of event. -/
theorem xt_is1 {s m0 : Int} (s0 : 0 ≤ s) (s1 : s ≤ 36524) (hm0 : xd_mo s m0) : xf_is (xf_P xr_d1 s m0) s 50000 1 [s] := by
  have hP : xf_P xr_d1 s m0 s := by
    refine ⟨s1, m0, hm0, Or.inl ⟨rfl, ?_⟩, Or.inl rfl, Or.inl ⟨rfl, Or.inl rfl, Or.inl rfl⟩⟩
    rw [Int.sub_self]; simp
  refine ⟨by simp, by simp, fun t ht => ?_, fun t t1 t2 _ => ?_⟩
  · rw [List.mem_singleton] at ht
    subst ht
    exact ⟨by omega, by omega, hP⟩
  · by_cases e : t = s
    · exact Or.inl (by simp [e])
    · exact Or.inr ⟨rfl, fun y hy => by rw [List.mem_singleton] at hy; omega⟩
theorem xt_evM {B : xj_H} {p : Nat → Value} {G : xi_G} (hP : xi_Pg G) (hB : xi_Mg B p G) (hne : G.2.2.1.1 < 8) {v1 v2 v3 : Int} (a1 : -2147483648 ≤ v1) (b1 : v1 ≤ 2147483647) (a2 : -2147483648 ≤ v2) (b2 : v2 ≤ 2147483647) (a3 : -2147483648 ≤ v3) (b3 : v3 ≤ 2147483647) :
    ((¬ xt_eg v1 v2 v3 ∨ ∀ d, ¬ xr_says (xt_txt G.1.2 G.1.1) d) → ∃ C p', fM_event (xj_o 34) (xI v1) (xI v2) (xI v3) B = some (.inl (some (.int 0)), C) ∧ xk_u xt_S B C ∧ xi_Mg C p' ((0, G.1.2), G.2) ∧ p' 0 = .int 2) ∧
    (∀ Dl, xt_eg v1 v2 v3 → xt_dl (xt_txt G.1.2 G.1.1) v1 Dl → ∃ C p', fM_event (xj_o 34) (xI v1) (xI v2) (xI v3) B = some (.inl (some (.int (xI G.2.2.1.1))), C) ∧ xk_u xt_S B C ∧ xi_Mg C p' ((0, G.1.2), G.2.1, (G.2.2.1.1 + 1, xk_p G.2.2.1.2.1 G.2.2.1.1 v2, xk_p G.2.2.1.2.2.1 G.2.2.1.1 v3, xk_p G.2.2.1.2.2.2.1 G.2.2.1.1 Dl, G.2.2.1.2.2.2.2), G.2.2.2) ∧ p' 0 = .int 0) := by
  obtain ⟨⟨n, T⟩, ⟨s, m, f, g⟩, ⟨ne, mi, le, D, X⟩, ⟨c, b, e⟩⟩ := G
  obtain ⟨P1, P2, P3, P4, P5, P6, P7, P8, P9⟩ := id hP
  simp only at P1 P2 P3 P4 P5 P6 P7 P8 P9 hne ⊢
  obtain ⟨B1, x1, x2, x3⟩ := xt_mf hB 0 hB
  have u1 : xk_u xt_S B B1 := xk_w x2 fun i (hi : i = 34) => by unfold xt_S; omega
  have g7 : xj_gi B (xj_o 34) 7 7 = some (xI ne) := xk_gi hB.1 hB.2.2.2.2.2.1 (by decide)
  have g0 : xj_gi B1 (xj_o 34) 7 0 = some (xI 0) := xk_gi x3.1 rfl (by decide)
  -- up to the reading
  have hev : (xt_eg v1 v2 v3 → fM_event (xj_o 34) (xI v1) (xI v2) (xI v3) B = (xj_bi (xj_rq B1 (xj_o 34) 7 (fM_readRule (xj_o 34) B1)) fun x9 A10 => if x9 = 0 then fM_event_70 (xj_o 34) (xI v1) (xI v2) (xI v3) A10 else fM_event_71 (xj_o 34) (xI v1) (xI v2) (xI v3) (1 : Int32) A10)) ∧ (¬ xt_eg v1 v2 v3 → fM_event (xj_o 34) (xI v1) (xI v2) (xI v3) B = fM_event_70 (xj_o 34) (xI v1) (xI v2) (xI v3) B1) := by
    unfold fM_event fM_event_15 xt_eg
    rw [g7, xe_bind, xl_8, xq_ne (by omega) (by omega) (by omega) (by omega), if_neg (by omega), x1, xe_bind, g0, xe_bind, xl_0, xq_le (by omega) (by omega) (by omega) (by omega), if_pos (by omega), xl_36524, xm_inside a1 b1 (by omega) (by omega) (by omega) (by omega), xe_bi, ← xl_0]
    by_cases c1 : ¬ (0 ≤ v1 ∧ v1 ≤ 36524)
    · rw [if_neg c1, xk_b0]; exact ⟨fun h => by omega, fun _ => rfl⟩
    rw [if_pos (Classical.not_not.mp c1), xk_b1, xl_0, xl_1439, xm_inside a2 b2 (by omega) (by omega) (by omega) (by omega), xe_bi, ← xl_0]
    by_cases c2 : ¬ (0 ≤ v2 ∧ v2 ≤ 1439)
    · rw [if_neg c2, xk_b0]; exact ⟨fun h => by omega, fun _ => rfl⟩
    rw [if_pos (Classical.not_not.mp c2), xk_b1, xl_1, xl_2880, xm_inside a3 b3 (by omega) (by omega) (by omega) (by omega), xe_bi, ← xl_1]
    by_cases c3 : ¬ (1 ≤ v3 ∧ v3 ≤ 2880)
    · rw [if_neg c3, xk_b0]; exact ⟨fun h => by omega, fun _ => rfl⟩
    rw [if_pos (Classical.not_not.mp c3), xk_b1]
    exact ⟨fun _ => rfl, fun h => absurd (by omega) h⟩
  have x30 := id x3
  obtain ⟨h1, h2, p2, p3, p4, p7, p33, h35, h36, h37, hT, hArr, hRest⟩ := id x3
  have hG : xr_G (xk_p p 0 (.int 0)) B1 := ⟨⟨_, h1, h2, fun _ _ => rfl⟩, hArr⟩
  have hat := xt_at P2 n
  have hread := xr_mrr (p0 := xk_p p 0 (.int 0)) P1 p2 hat h35 hG
  have hU : ∀ {C : xj_H}, xr_MU B1 C → xk_u xt_S B C := fun h => xk_t u1 (xk_w h fun i (hi : i = 34 ∨ 44 ≤ i ∧ i ≤ 47) => by unfold xt_S; omega)
  constructor
  · intro hbad
    by_cases hg : xt_eg v1 v2 v3
    · have hno : ∀ d, ¬ xr_says (xt_txt T n) d := by
        rcases hbad with h | h
        · exact absurd hg h
        · exact h
      rcases hread with ⟨hl, _⟩ | ⟨_, d, C, j, r1, _⟩ | ⟨_, C, r2, r3, r4⟩
      · exact absurd (Or.inl ⟨hl, rfl⟩) (hno xr_d1)
      · exact absurd r1 (hno d)
      · obtain ⟨⟨q, q1, q2⟩, q3⟩ := r4
        have hMC := xt_MG x30 r3 q1 q2 q3
        obtain ⟨Z, p', z1, z2, z3, z4⟩ := xt_ev70 hMC (v1 := xI v1) (v2 := xI v2) (v3 := xI v3)
        refine ⟨Z, p', ?_, xk_t (hU r3) z2, z3, z4⟩
        rw [hev.1 hg, xk_rq h1, r2, xe_bi, xk_b0, z1]
    · obtain ⟨Z, p', z1, z2, z3, z4⟩ := xt_ev70 x30 (v1 := xI v1) (v2 := xI v2) (v3 := xI v3)
      exact ⟨Z, p', by rw [hev.2 hg, z1], xk_t u1 z2, z3, z4⟩
  · intro Dl hg hdl
    have hE := xt_dlb hg.1 hdl
    have fin : ∀ (C : xj_H) (d : xr_D) (j : Nat), fM_readRule (xj_o 34) B1 = some (.inl (some (.int 1)), C) → xr_MU B1 C → xr_M (xk_p p 0 (.int 0)) C n j T d [] → (∀ (E : xj_H) (pE : Nat → Value) (m0 : Int), xk_o E 34 7 36 pE → xf_Q pE d v1 m0 → xd_mo v1 m0 → xr_Ma E d → ∀ f0 g0 : Nat → Int, xk_a E 0 40 1600 f0 → xk_a E 0 41 8 g0 → ∃ Z p', fM_fill (xj_o 34) (xI ne) E = some (.inl none, Z) ∧ xk_u xf_S3 E Z ∧ xk_o Z 34 7 36 p' ∧ (∀ k, k < 26 ∨ 28 < k → p' k = pE k) ∧ xr_Ma Z d ∧ xf_T Z ne f0 Dl ∧ xk_a Z 0 41 8 (xk_p g0 ne (Dl.length : Nat))) →
        ∃ C p', fM_event (xj_o 34) (xI v1) (xI v2) (xI v3) B = some (.inl (some (.int (xI ne))), C) ∧ xk_u xt_S B C ∧ xi_M C p' 0 T s m f g (ne + 1) (xk_p mi ne v2) (xk_p le ne v3) (xk_p D ne Dl) X c b e ∧ p' 0 = .int 0 := by
      intro C d j r1 r2 r3 hfl
      obtain ⟨⟨q, q1, q2, q3⟩, _, _, _, q4, _⟩ := id r3
      have hMC : xi_Mg C q ((n, T), (s, m, f, g), (ne, mi, le, D, X), (c, b, e)) := xt_MG x30 r2 q1 q2 (xt_Mae q4)
      obtain ⟨Z, p', z1, z2, z3, z4⟩ := xt_evF (show xi_P n T s m f g ne mi le D X c b e from hP) hMC hne q4 q3 hg hE.2.2.1 hfl
      refine ⟨Z, p', ?_, xk_t (hU r2) z2, z3, z4⟩
      rw [hev.1 hg, xk_rq h1, r1, xe_bi, xk_b1, z1]
    rcases hread with ⟨hl, C, r1, r2, r3⟩ | ⟨_, d, C, j, r0, r1, r2, r3, r4⟩ | ⟨hno, _⟩
    · refine fin C xr_d0 0 r1 r2 r3 fun E pE m0 w1 w2 w3 w4 f0 g0 w5 w6 => ?_
      obtain ⟨Z, p', Dm, z1, z2, z3, z4, z5, z6, z7, z8⟩ := xf_fill0 hne hg.1 hg.2.1 w3 w1 w2 w4 w5 w6
      have hDm : Dm = [v1] := xf_u z8 ⟨by simp, by simp, fun t ht => by rw [List.mem_singleton] at ht; exact ⟨by omega, by have := hg.2.1; omega, ht⟩, fun t _ _ ht => Or.inl (by simp [ht])⟩
      have hDD : xt_dl (xt_txt T n) v1 [v1] := ⟨xr_d1, m0, Or.inl ⟨hl, rfl⟩, xr_ok1, w3, xt_is1 hg.1 hg.2.1 w3⟩
      have e1 := xt_dlu hdl hDD
      rw [e1, ← hDm]
      exact ⟨Z, p', z1, z2, z3, z4, z5, z6, z7⟩
    · refine fin C d j r1 r2 r3 fun E pE m0 w1 w2 w3 w4 f0 g0 w5 w6 => ?_
      obtain ⟨k, hk⟩ := Option.isSome_iff_exists.mp (xt_saysal r0).1
      obtain ⟨Z, p', Dm, z1, z2, z3, z4, z5, z6, z7, z8⟩ := xf_fill hne r4 hg.1 hg.2.1 w3 hk w1 w2 w4 w5 w6
      have e1 := xt_dlu hdl ⟨d, m0, r0, r4, w3, z8⟩
      rw [e1]
      exact ⟨Z, p', z1, z2, z3, z4, z5, z6, z7⟩
    · obtain ⟨d, _, hd, _⟩ := hdl
      exact absurd hd (hno d)
theorem xt_event {A : xj_H} (hI : xi_I A) (r1 : 4 ≤ A.2.1) (r2 : 40 ≤ A.2.2) {v1 v2 v3 : Int} (a1 : -2147483648 ≤ v1) (b1 : v1 ≤ 2147483647) (a2 : -2147483648 ≤ v2) (b2 : v2 ≤ 2147483647) (a3 : -2147483648 ≤ v3) (b3 : v3 ≤ 2147483647) : xt_R A (fL_event (xj_o 0) (xI v1) (xI v2) (xI v3) (xj_o 50) A) (fM_event (xj_o 34) (xI v1) (xI v2) (xI v3)) := by
  obtain ⟨G, p, hP, hC, hM, hO⟩ := hI
  have hq : 51 ≤ A.1.length := by
    obtain ⟨F, hF⟩ := hO
    have := (List.getElem?_eq_some_iff.mp hF).1
    omega
  have hne : G.2.2.1.1 ≤ 8 := hP.2.2.2.1
  unfold fL_event
  rcases xt_evC hP hC hq r1 r2 a1 b1 a2 b2 a3 b3 with ⟨h8, hF⟩ | ⟨h8, hbad, B, hF, hCB, hg, hr⟩ | ⟨h8, heg, Dl, B, hdl, hF, hCB, hg, hr⟩
  · obtain ⟨y1, y2, y3⟩ := xt_thC (by omega) (by omega) hC
    refine xt_no (k := 1) (w := 0) (nm := xt_ise) (by decide) hF rfl (xt_rq hC) y1 y2 y3 hM hO hP fun B hB => ?_
    obtain ⟨C, c1, c2, c3⟩ := xt_mf hB 1 hB
    refine ⟨C, _, ?_, xk_w c2 fun i (hi : i = 34) => by unfold xt_S; omega, c3, rfl⟩
    have g7 : xj_gi B (xj_o 34) 7 7 = some (xI G.2.2.1.1) := xk_gi hB.1 hB.2.2.2.2.2.1 (by decide)
    have g0 : xj_gi C (xj_o 34) 7 0 = some (xI 1) := xk_gi c3.1 rfl (by decide)
    unfold fM_event fM_event_15
    rw [g7, xe_bind, xl_8, xq_ne (by omega) (by omega) (by omega) (by omega), if_pos (by omega), c1, xe_bind, g0, xe_bind, xl_0, xq_le (by omega) (by omega) (by omega) (by omega), if_neg (by omega)]
  · have hPB : xi_Pg ((0, G.1.2), G.2) := by
      obtain ⟨P1, P2, P3⟩ := hP
      exact ⟨by simp, P2, P3⟩
    exact xt_no (k := 2) (w := 0) (nm := xt_iae) (by decide) hF rfl (xt_rq hC) hCB hg hr hM hO hPB fun B' hB => (xt_evM hP hB h8 a1 b1 a2 b2 a3 b3).1 hbad
  · have hPB : xi_Pg ((0, G.1.2), G.2.1, (G.2.2.1.1 + 1, xk_p G.2.2.1.2.1 G.2.2.1.1 v2, xk_p G.2.2.1.2.2.1 G.2.2.1.1 v3, xk_p G.2.2.1.2.2.2.1 G.2.2.1.1 Dl, G.2.2.1.2.2.2.2), G.2.2.2) := by
      obtain ⟨P1, P2, P3, P4, P5, P6, P7, P8, P9⟩ := hP
      obtain ⟨e1, e2, e3, e4, e5, e6⟩ := heg
      refine ⟨by simp, P2, P3, by simp only; omega, fun i hi => ?_, fun i hi => ?_, fun i hi => ?_, fun i hi => ?_, P9⟩
      · by_cases ei : i = G.2.2.1.1
        · subst ei; simp only; rw [xk_p_e, (P8 _ (Nat.le_refl _)).2]; exact xt_dlb e1 hdl
        · simp only; rw [xk_p_n _ _ ei]; exact P5 i hi
      · simp only at hi ⊢
        by_cases ei : i = G.2.2.1.1
        · subst ei; rw [xk_p_e]; exact ⟨e3, e4⟩
        · rw [xk_p_n _ _ ei]; exact P6 i (by omega)
      · simp only at hi ⊢
        by_cases ei : i = G.2.2.1.1
        · subst ei; rw [xk_p_e]; exact ⟨e5, e6⟩
        · rw [xk_p_n _ _ ei]; exact P7 i (by omega)
      · simp only at hi ⊢
        rw [xk_p_n _ _ (by omega)]
        exact P8 i (by omega)
    exact xt_ok (v := xI G.2.2.1.1) hF (xt_rq hC) hCB hg hr hM hO hPB fun B' hB => (xt_evM hP hB h8 a1 b1 a2 b2 a3 b3).2 Dl heg hdl

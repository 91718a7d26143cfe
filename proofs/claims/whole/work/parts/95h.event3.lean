/-! The reference's event. -/
theorem xt_Qs {p : Nat → Value} {d : xr_D} {s m0 : Int} (hR : xm_R p) {j : Nat} (h : xr_Mf p j d) (h29 : p 29 = .int (xI s)) (h30 : p 30 = .int (xI (m0 / 12))) (h31 : p 31 = .int (xI (m0 % 12 + 1))) (h32 : p 32 = .int (xI (s - xd_ms m0 + 1))) : xf_Q p d s m0 := by
  obtain ⟨q1, q2, q3, q4, q5, q6, q7, q8⟩ := h
  exact ⟨hR, q2, q3, q4, q5, q6, q7, q8, h29, h30, h31, h32⟩
theorem xt_evF {B : xj_H} {p : Nat → Value} {n : Nat} {T : Nat → Int} {s m : Int} {f g : Nat → Int} {ne : Nat} {mi le : Nat → Int} {D X : Nat → List Int} {c : Nat} {b e : Nat → Int} (hP : xi_P n T s m f g ne mi le D X c b e) (hM : xi_M B p n T s m f g ne mi le D X c b e) (hne : ne < 8) {d : xr_D} {j : Nat} (ha : xr_Ma B d) (hf : xr_Mf p j d) {v1 v2 v3 : Int} (hg : xt_eg v1 v2 v3) {Dl : List Int} (hDl : Dl.length ≤ 200)
    (hfill : ∀ (E : xj_H) (pE : Nat → Value) (m0 : Int), xk_o E 34 7 36 pE → xf_Q pE d v1 m0 → xd_mo v1 m0 → xr_Ma E d → ∀ f0 g0 : Nat → Int, xk_a E 0 40 1600 f0 → xk_a E 0 41 8 g0 → ∃ Z p', fM_fill (xj_o 34) (xI ne) E = some (.inl none, Z) ∧ xk_u xf_S3 E Z ∧ xk_o Z 34 7 36 p' ∧ (∀ k, k < 26 ∨ 28 < k → p' k = pE k) ∧ xr_Ma Z d ∧ xf_T Z ne f0 Dl ∧ xk_a Z 0 41 8 (xk_p g0 ne (Dl.length : Nat))) :
    ∃ C p', fM_event_71 (xj_o 34) (xI v1) (xI v2) (xI v3) 1 B = some (.inl (some (.int (xI ne))), C) ∧ xk_u xt_S B C ∧ xi_M C p' 0 T s m f g (ne + 1) (xk_p mi ne v2) (xk_p le ne v3) (xk_p D ne Dl) X c b e ∧ p' 0 = .int 0 := by
  obtain ⟨P1, P2, P3, P4, P5, P6, P7, P8, P9⟩ := hP
  obtain ⟨g1, g2, g3, g4, g5, g6⟩ := hg
  obtain ⟨h1, h2, p2, p3, p4, p7, p33, h35, h36, h37, ⟨t38, t39, t41, t43, ⟨f0, t40, t40'⟩, ⟨x0, t42, t42'⟩⟩, _, b', e', h48, h49, h50⟩ := hM
  obtain ⟨q14, q15, q16, q17, q18, q19, q22, q25⟩ := hf
  obtain ⟨B1, a1, a2, a3⟩ := xk_pv (.int (0 : Int32)) h1 (k := 2) (by decide)
  obtain ⟨B2, b1, b2, b3⟩ := xk_pv (.int (0 : Int32)) a2 (k := 0) (by decide)
  obtain ⟨m0, B3, ps, o1, c1, c2, c3, c4, c5⟩ := xf_split (t := v1) (by omega) (by omega) b2
  obtain ⟨s26, s27, s28⟩ := c5
  obtain ⟨B4, d1, d2, d3⟩ := xk_pv (.int (xI v1)) c3 (k := 29) (by decide)
  obtain ⟨B5, e1, e2, e3⟩ := xk_pv (.int (xI (m0 / 12))) d2 (k := 30) (by decide)
  obtain ⟨B6, f1, f2, f3⟩ := xk_pv (.int (xI (m0 % 12 + 1))) e2 (k := 31) (by decide)
  obtain ⟨B7, i1, i2, i3⟩ := xk_pv (.int (xI (v1 - xd_ms m0 + 1))) f2 (k := 32) (by decide)
  have u7 : xk_u (fun i => i = 34) B B7 := xk_t a3 (xk_t b3 (xk_t c2 (xk_t d3 (xk_t e3 (xk_t f3 i3)))))
  have hps : ∀ k, k ≠ 0 → k ≠ 2 → (k < 26 ∨ 28 < k) → ps k = p k := fun k k0 k2 k3 => by
    rw [c4 k k3, xk_p_n _ _ k0, xk_p_n _ _ k2]
  have hR3 : xm_R ps := fun q hq => by
    have hb : ∀ q ∈ xm_rf, q.1 ≠ 0 ∧ q.1 ≠ 2 ∧ (q.1 < 26 ∨ 28 < q.1) := by decide
    obtain ⟨w1, w2, w3⟩ := hb q hq
    rw [hps q.1 w1 w2 w3]
    exact h2 q hq
  have hR7 := xm_Rp (k := 32) (v := .int (xI (v1 - xd_ms m0 + 1))) (xm_Rp (k := 31) (v := .int (xI (m0 % 12 + 1))) (xm_Rp (k := 30) (v := .int (xI (m0 / 12))) (xm_Rp (k := 29) (v := .int (xI v1)) hR3 (by decide)) (by decide)) (by decide)) (by decide)
  have hp7' : ps 7 = .int (xI ne) := (hps 7 (by decide) (by decide) (by decide)).trans p7
  obtain ⟨C1, k1, k2, k3⟩ := xk_as v2 (xk_au t38 u7 (by decide)) (i := ne) (by omega) (by omega) (by omega)
  have o8 := xk_ou i2 k3 (by decide)
  obtain ⟨C2, l1, l2, l3⟩ := xk_as v3 (xk_au (xk_au t39 u7 (by decide)) k3 (by decide)) (i := ne) (by omega) (by omega) (by omega)
  have o9 := xk_ou o8 l3 (by decide)
  obtain ⟨C3, n1, n2, n3⟩ := xk_as 0 (xk_au (xk_au (xk_au t43 u7 (by decide)) k3 (by decide)) l3 (by decide)) (i := ne) (by omega) (by omega) (by omega)
  have o10 := xk_ou o9 n3 (by decide)
  have uC : xk_u (fun i => i = 34 ∨ i = 38 ∨ i = 39 ∨ i = 43) B C3 := xk_t (xk_w u7 fun i (hi : i = 34) => Or.inl hi) (xk_t (xk_w k3 fun i (hi : i = 38) => Or.inr (Or.inl hi)) (xk_t (xk_w l3 fun i (hi : i = 39) => Or.inr (Or.inr (Or.inl hi))) (xk_w n3 fun i (hi : i = 43) => Or.inr (Or.inr (Or.inr hi)))))
  have hQ : xf_Q (xk_p (xk_p (xk_p (xk_p ps 29 (.int (xI v1))) 30 (.int (xI (m0 / 12)))) 31 (.int (xI (m0 % 12 + 1)))) 32 (.int (xI (v1 - xd_ms m0 + 1)))) d v1 m0 :=
    xt_Qs (j := j) hR7 ⟨(hps 14 (by decide) (by decide) (by decide)).trans q14, (hps 15 (by decide) (by decide) (by decide)).trans q15, (hps 16 (by decide) (by decide) (by decide)).trans q16, (hps 17 (by decide) (by decide) (by decide)).trans q17, (hps 18 (by decide) (by decide) (by decide)).trans q18, (hps 19 (by decide) (by decide) (by decide)).trans q19, (hps 22 (by decide) (by decide) (by decide)).trans q22, (hps 25 (by decide) (by decide) (by decide)).trans q25⟩ rfl rfl rfl rfl
  have haC : xr_Ma C3 d := xr_Mau ha uC (fun k _ _ => by omega)
  obtain ⟨Z, p', z1, z2, z3, z4, z5, ⟨ff, z6, z7, z8⟩, z9⟩ := hfill C3 _ m0 o10 hQ o1 haC f0 _ (xk_au t40 uC (by decide)) (xk_au t41 uC (by decide))
  have hp'7 : p' 7 = .int (xI ne) := (z4 7 (by decide)).trans hp7'
  obtain ⟨Y, y1, y2, y3⟩ := xk_pv (.int (xI ((ne : Int) + 1))) z3 (k := 7) (by decide)
  have hR' : xm_R p' := fun q hq => by
    have hb : ∀ q ∈ xm_rf, q.1 < 26 ∨ 28 < q.1 := by decide
    rw [z4 q.1 (hb q hq)]
    exact hR7 q hq
  have uZ : xk_u (fun i => i = 34 ∨ (38 ≤ i ∧ i ≤ 43)) B Z := xk_t (xk_w uC fun i (hi : i = 34 ∨ i = 38 ∨ i = 39 ∨ i = 43) => by omega) (xk_w z2 fun i (hi : i = 34 ∨ i = 40 ∨ i = 41) => by omega)
  have uY : xk_u (fun i => i = 34 ∨ (38 ≤ i ∧ i ≤ 43)) B Y := xk_t uZ (xk_w y3 fun i (hi : i = 34) => Or.inl hi)
  obtain ⟨z51, ⟨z52, z52', _⟩, ⟨z53, z53', _⟩, ⟨z54, z54', _⟩, _⟩ := z5
  have hxne : (X ne).length = 0 := by rw [(P8 ne (by omega)).2]; rfl
  rw [Int.toNat_natCast] at k2 l2 n2
  have e38 : xk_a Y 0 38 8 (xk_p mi ne v2) := xk_au (xk_au (xk_au (xk_au k2 l3 (by decide)) n3 (by decide)) z2 (by unfold xf_S3; decide)) y3 (by decide)
  have e39 : xk_a Y 0 39 8 (xk_p le ne v3) := xk_au (xk_au (xk_au l2 n3 (by decide)) z2 (by unfold xf_S3; decide)) y3 (by decide)
  have e41 : xk_a Y 0 41 8 (fun i => ((xk_p D ne Dl i).length : Nat)) := by
    refine xk_ac (xk_au z9 y3 (by decide)) fun i hi => ?_
    by_cases ei : i = ne
    · subst ei; rw [xk_p_e, xk_p_e]
    · rw [xk_p_n _ _ ei, xk_p_n _ _ ei]
  have e43 : xk_a Y 0 43 8 (fun i => ((X i).length : Nat)) := by
    refine xk_ac (xk_au (xk_au n2 z2 (by unfold xf_S3; decide)) y3 (by decide)) fun i hi => ?_
    by_cases ei : i = ne
    · subst ei; rw [xk_p_e, hxne]; rfl
    · rw [xk_p_n _ _ ei]
  refine ⟨Y, xk_p p' 7 (.int (xI ((ne : Int) + 1))), ?_, xk_w uY fun i (hi : i = 34 ∨ (38 ≤ i ∧ i ≤ 43)) => by unfold xt_S; omega, ⟨y2, xm_Rp hR' (by decide), ?_, ?_, ?_, rfl, ?_, xk_au h35 uY (by omega), xk_au h36 uY (by omega), xk_au h37 uY (by omega), ⟨e38, e39, e41, e43, ⟨ff, xk_au z6 y3 (by decide), fun i hi => ?_⟩, ⟨x0, xk_au (xk_au (xk_au t42 uC (by decide)) z2 (by unfold xf_S3; decide)) y3 (by decide), t42'⟩⟩, ⟨⟨_, xk_au z51 y3 (by decide)⟩, ⟨z52, xk_au z52' y3 (by decide)⟩, ⟨z53, xk_au z53' y3 (by decide)⟩, ⟨z54, xk_au z54' y3 (by decide)⟩⟩, b', e', xk_au h48 uY (by omega), xk_au h49 uY (by omega), h50⟩, ?_⟩
  · have gB3 : ∀ {k : Nat} {x : Int32}, ps k = .int x → k < 36 → xj_gi B3 (xj_o 34) 7 k = some x := fun h hk => xk_gi c3 h hk
    have hne4 : xj_gi B4 (xj_o 34) 7 26 = some (xI (m0 / 12)) := xk_gi d2 s26 (by decide)
    have hne5 : xj_gi B5 (xj_o 34) 7 27 = some (xI (m0 % 12 + 1)) := xk_gi e2 s27 (by decide)
    have hne6 : xj_gi B6 (xj_o 34) 7 28 = some (xI (v1 - xd_ms m0 + 1)) := xk_gi f2 s28 (by decide)
    have h7a : xj_gi B7 (xj_o 34) 7 7 = some (xI ne) := xk_gi i2 hp7' (by decide)
    have h7b : xj_gi C1 (xj_o 34) 7 7 = some (xI ne) := xk_gi o8 hp7' (by decide)
    have h7c : xj_gi C2 (xj_o 34) 7 7 = some (xI ne) := xk_gi o9 hp7' (by decide)
    have h7d : xj_gi C3 (xj_o 34) 7 7 = some (xI ne) := xk_gi o10 hp7' (by decide)
    have h7e : xj_gi Z (xj_o 34) 7 7 = some (xI ne) := xk_gi z3 hp'7 (by decide)
    have h7f : xj_gi Y (xj_o 34) 7 7 = some (xI ((ne : Int) + 1)) := xk_gi y2 rfl (by decide)
    have n1' : xj_as C2 (xj_o 43) 0 (xI ne) (0 : Int32) = some C3 := n1
    unfold fM_event_71 fM_event_89
    rw [a1, xe_bind, xk_b1, b1, xe_bind, xk_n1, xk_rq b2, c1, xe_bv, d1, xe_bind, hne4, xe_bind, e1, xe_bind, hne5, xe_bind, f1, xe_bind, hne6, xe_bind, i1, xe_bind, xm_gr 38 i2 hR7 (by decide) (by decide), xe_bind, h7a, xe_bind, k1, xe_bind, xm_gr 39 o8 hR7 (by decide) (by decide), xe_bind, h7b, xe_bind, l1, xe_bind, xm_gr 43 o9 hR7 (by decide) (by decide), xe_bind, h7c, xe_bind, n1', xe_bind, h7d, xe_bind, xk_rq o10, z1, xe_bv, h7e, xe_bind, xl_1, xI_add, y1, xe_bind, h7f, xe_bind, xI_sub]
    exact xj_ri (by omega)
  · exact (z4 2 (by decide)).trans (c4 2 (by decide))
  · exact (z4 3 (by decide)).trans ((hps 3 (by decide) (by decide) (by decide)).trans p3)
  · exact (z4 4 (by decide)).trans ((hps 4 (by decide) (by decide) (by decide)).trans p4)
  · exact (z4 33 (by decide)).trans ((hps 33 (by decide) (by decide) (by decide)).trans p33)
  · by_cases ei : i = ne
    · subst ei; rw [xk_p_e]; exact z7
    · rw [xk_p_n _ _ ei]
      intro t x ht
      have hl := (P5 i hi).2.2.1
      have htl : t < (D i).length := (List.getElem?_eq_some_iff.mp ht).1
      have := t40' i hi t x ht
      simp only at this ⊢
      rw [z8 _ (by omega)]
      exact this
  · exact (z4 0 (by decide)).trans (c4 0 (by decide))
/-- the reference refuses the event: code 2, the text is gone -/
theorem xt_ev70 {B : xj_H} {p : Nat → Value} {G : xi_G} (hM : xi_Mg B p G) {v1 v2 v3 : Int32} : ∃ C p', fM_event_70 (xj_o 34) v1 v2 v3 B = some (.inl (some (.int 0)), C) ∧ xk_u xt_S B C ∧ xi_Mg C p' ((0, G.1.2), G.2) ∧ p' 0 = .int 2 := by
  obtain ⟨h1, h2, p2, p3, p4, p7, p33, h35, h36, h37, hT, ⟨⟨f4, g4⟩, ⟨f5, g5⟩, ⟨f6, g6⟩, ⟨f7, g7⟩⟩, b', e', h48, h49, h50⟩ := hM
  obtain ⟨B1, a1, a2, a3⟩ := xk_pv (.int (0 : Int32)) h1 (k := 2) (by decide)
  obtain ⟨B2, b1, b2, b3⟩ := xk_pv (.int (2 : Int32)) a2 (k := 0) (by decide)
  have u := xk_t a3 b3
  refine ⟨B2, xk_p (xk_p p 2 (.int 0)) 0 (.int 2), ?_, xk_w u fun i (hi : i = 34) => by unfold xt_S; omega, ⟨b2, xm_Rp (xm_Rp h2 (by decide)) (by decide), rfl, p3, p4, p7, p33, xk_au h35 u (by decide), xk_au h36 u (by decide), xk_au h37 u (by decide), xm_Tu hT u (fun i i1 i2 => by omega), ⟨⟨f4, xk_au g4 u (by decide)⟩, ⟨f5, xk_au g5 u (by decide)⟩, ⟨f6, xk_au g6 u (by decide)⟩, ⟨f7, xk_au g7 u (by decide)⟩⟩, b', e', xk_au h48 u (by decide), xk_au h49 u (by decide), h50⟩, rfl⟩
  unfold fM_event_70 fM_event_71 fM_event_89
  rw [a1, xe_bind, xk_b0, b1, xe_bind, xk_n0]
/-- behind the reading -/
theorem xt_MG {A B : xj_H} {p p2 : Nat → Value} {G : xi_G} (hM : xi_Mg A p G) (u : xr_MU A B) (h2 : xk_o B 34 7 36 p2) (hMo : xr_Mo p p2) (ha : (∃ f, xk_a B 2 44 13 f) ∧ (∃ f, xk_a B 0 45 8 f) ∧ (∃ f, xk_a B 0 46 7 f) ∧ ∃ f, xk_a B 0 47 7 f) : xi_Mg B p2 G := by
  obtain ⟨h1, _, q2, q3, q4, q7, q33, h35, h36, h37, hT, _, b', e', h48, h49, h50⟩ := hM
  have hs : ∀ i, (34 < i ∧ i < 44) ∨ 47 < i → ¬ xr_S4 i := fun i hi => by unfold xr_S4; omega
  exact ⟨h2, hMo.1, (hMo.2 2 (by decide)).trans q2, (hMo.2 3 (by decide)).trans q3, (hMo.2 4 (by decide)).trans q4, (hMo.2 7 (by decide)).trans q7, (hMo.2 33 (by decide)).trans q33, xk_au h35 u (hs _ (by decide)), xk_au h36 u (hs _ (by decide)), xk_au h37 u (hs _ (by decide)), xm_Tu hT u (fun i i1 i2 => hs i (by omega)), ha, b', e', xk_au h48 u (hs _ (by decide)), xk_au h49 u (hs _ (by decide)), h50⟩
theorem xt_Mae {B : xj_H} {d : xr_D} (h : xr_Ma B d) : (∃ f, xk_a B 2 44 13 f) ∧ (∃ f, xk_a B 0 45 8 f) ∧ (∃ f, xk_a B 0 46 7 f) ∧ ∃ f, xk_a B 0 47 7 f := by
  obtain ⟨a1, ⟨f, f1, _⟩, ⟨g, g1, _⟩, ⟨e, e1, _⟩, _⟩ := h
  exact ⟨⟨_, a1⟩, ⟨f, f1⟩, ⟨g, g1⟩, ⟨e, e1⟩⟩

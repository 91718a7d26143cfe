/-! The class's event. -/
def xt_ise : String := "java/lang/IllegalStateException"
def xt_eg (v1 v2 v3 : Int) : Prop := 0 ≤ v1 ∧ v1 ≤ 36524 ∧ 0 ≤ v2 ∧ v2 ≤ 1439 ∧ 1 ≤ v3 ∧ v3 ≤ 2880
theorem xt_isDay {v : Int} (v1 : -2147483648 ≤ v) (v2 : v ≤ 2147483647) (A : xj_H) : fB_isDay (xI v) A = some (.inl (some (.int (if 0 ≤ v ∧ v ≤ 36524 then 1 else 0))), A) := by
  unfold fB_isDay fB_isDay_14 fB_isDay_15
  rw [xl_0, xq_lt (by omega) (by omega) (by omega) (by omega), xl_36524, xq_lt (by omega) (by omega) (by omega) (by omega), ← xl_0]
  by_cases h1 : v < 0
  · rw [if_pos h1, if_neg (by omega)]; rfl
  · rw [if_neg h1]
    by_cases h2 : 36524 < v
    · rw [if_pos h2, if_neg (by omega)]; rfl
    · rw [if_neg h2, if_pos (by omega)]; rfl
/-- the class's cells but the book's -/
theorem xt_C0 {A B : xj_H} {n n' : Nat} {T : Nat → Int} {s m : Int} {f g : Nat → Int} {ne : Nat} {mi le : Nat → Int} {D X : Nat → List Int} {c : Nat} {b e : Nat → Int} (h : xi_C A n T s m f g ne mi le D X c b e) (hK : xb_K B n' ne) (u : xi_g A B 1 33) : xi_C B n' T s m f g ne mi le D X c b e := by
  obtain ⟨h1, h2, ⟨z1, z2, z3⟩, ⟨⟨ev, v1, v2⟩, h5⟩, ⟨hh, k1⟩, fr, to, s1, s2, s3⟩ := h
  exact ⟨hK, xi_ac h2 (u 1 (by decide) (by decide)), ⟨(u 2 (by decide) (by decide)).trans z1, xi_ac z2 (u 3 (by decide) (by decide)), xi_ac z3 (u 4 (by decide) (by decide))⟩, ⟨⟨ev, (u 5 (by decide) (by decide)).trans v1, v2⟩, fun e he => ⟨xi_frc (h5 e he).1 fun i i1 i2 => u i (by omega) (by omega), fun hn => xi_evc ((h5 e he).2 hn) fun i i1 i2 => u i (by omega) (by omega)⟩⟩, ⟨hh, xi_ac k1 (u 30 (by decide) (by decide))⟩, fr, to, (u 31 (by decide) (by decide)).trans s1, xi_ac s2 (u 32 (by decide) (by decide)), xi_ac s3 (u 33 (by decide) (by decide))⟩
/-- the part behind a good rule -/
theorem xt_evG {B : xj_H} {n : Nat} {T : Nat → Int} {s m : Int} {f g : Nat → Int} {ne : Nat} {mi le : Nat → Int} {D X : Nat → List Int} {c : Nat} {b e : Nat → Int} (hP : xi_P n T s m f g ne mi le D X c b e) (hC : xi_C B 0 T s m f g ne mi le D X c b e) (hne : ne < 8) {q j : Nat} {l : List Int} {d : xr_D} (hq : 51 ≤ q) (hlen : B.1.length = q + 2) (hQ : xr_Q B q 1 (q + 1) n j) (hR : xr_R B (q + 1) d) (hok : xr_ok d) (hs : xr_says l d) (r1 : 1 ≤ B.2.1) (r2 : 12 ≤ B.2.2) {v1 v2 v3 : Int} (hg : xt_eg v1 v2 v3) :
    ∃ Dl Z, xt_dl l v1 Dl ∧ ((xj_gr B (xj_o 0) 0 3).bind fun x11 =>
                (xj_gi B (xj_o 0) 0 4).bind fun x12 =>
                (xj_ral B x11 x12).bind fun x13 =>
                (xj_mk B (.inr (6, [.null, .int 0, .int 0, .int 0, .int 0, .int 0, .int 0, .null, .int 0, .int 0, .int 0, .int 0])) 12).bind fun A14 =>
                (xj_gr A14 (xj_o q) 5 3).bind fun x15 =>
                (xj_gr A14 x13 2 0).bind fun x16 =>
                xj_bv (fU_init (xj_o B.1.length) x15 (xI v1) x16 A14) fun A17 =>
                xj_bi (xj_rq A17 (xj_o B.1.length) 6 (fU_unfold (xj_o B.1.length) A17)) fun x18 A19 =>
                xj_bv (xj_rq A19 x13 2 (fE_begin x13 (xI v2) (xI v3) x18 A19)) fun A20 =>
                (xj_gr A20 (xj_o 0) 0 2).bind fun x21 =>
                xj_bv (xj_rq A20 x13 2 (fE_settle x13 x21 A20)) fun A22 =>
                (xj_gi A22 (xj_o 0) 0 4).bind fun x23 =>
                (xj_pv A22 (xj_o 0) 0 4 (.int (x23 + (1 : Int32)))).bind fun A24 =>
                (xj_gi A24 (xj_o 0) 0 4).bind fun x25 =>
                some (.inl (some (.int (x25 - (1 : Int32)))), A24)) = some (.inl (some (.int (xI ne))), Z) ∧ xi_C Z 0 T s m f g (ne + 1) (xk_p mi ne v2) (xk_p le ne v3) (xk_p D ne Dl) X c b e ∧ (∀ i, 34 ≤ i → i < q → Z.1[i]? = B.1[i]?) ∧ B.2.1 = Z.2.1 + 1 ∧ B.2.2 = Z.2.2 + 12 := by
  obtain ⟨P1, P2, P3, P4, P5, P6, P7, P8, P9⟩ := hP
  obtain ⟨k1, k2, k3, ⟨kV, k4⟩, ⟨hh, kh⟩, fr, to, s1, s2, s3⟩ := hC
  obtain ⟨g1, g2, g3, g4, g5, g6⟩ := hg
  obtain ⟨n0, x0, mi0, le0, d0, st0, e1, e2, e3⟩ := (k4 ne hne).1
  obtain ⟨hsm, hal⟩ := xt_saysal hs
  obtain ⟨A2, A3, m0, a1, a2, a3, a4, a5, a6, a7, a8, a9⟩ := xt_mkU (A := B) (ru := q + 1) (rw := 6 + 3 * ne + 1) hok (by omega) (by omega) g1 g2 hR e2 r1 r2
  have hc3 : ∀ i, i < q + 2 → A3.1[i]? = B.1[i]? := fun i hi => a6 i (by omega)
  have hc2 : ∀ i, i < q + 2 → A2.1[i]? = B.1[i]? := fun i hi => a2 i (by omega)
  have hR3 : xr_R A3 (q + 1) d := by
    obtain ⟨M, N, E, W, H, Gg, w1, w2⟩ := hR
    exact ⟨M, N, E, W, H, Gg, (hc3 _ (by omega)).trans w1, w2⟩
  rw [hlen] at a3 a5
  obtain ⟨A4, Dl, mm, b1, b2, b3⟩ := xf_unf (A := A3) (o := q + 2) (ru := q + 1) (rw := 6 + 3 * ne + 1) ⟨by omega, by omega, by omega⟩ hok hal hsm g1 g2 a4 a5 hR3 (xi_ac e2 (hc3 _ (by omega)))
  obtain ⟨⟨⟨bb, w1, _⟩, _, ⟨ff, w3, w4⟩, w5, _⟩, w6⟩ := b3
  have hdl : xt_dl l v1 Dl := ⟨d, m0, hs, hok, a4, w6⟩
  have hE := xt_dlb g1 hdl
  have hDl : Dl.length ≤ 200 := hE.2.2.1
  have hoth : ∀ i, i < q + 2 → i ≠ 6 + 3 * ne + 1 → A4.1[i]? = B.1[i]? := fun i hi hi2 => (b2.2.2 i (by unfold xf_S2; omega)).trans (hc3 i hi)
  -- begin
  obtain ⟨C1, c1, c2, c3⟩ := xk_pw (.int (xI v2)) ((hoth (6 + 3 * ne) (by omega) (by omega)).trans e1) (k := 4) (by simp)
  obtain ⟨C2, d1, d2, d3⟩ := xk_pw (.int (xI v3)) c2 (k := 5) (by simp)
  obtain ⟨C3, f1, f2, f3⟩ := xk_pw (.int (xI (Dl.length : Nat))) d2 (k := 2) (by simp)
  obtain ⟨C4, h1, h2, h3⟩ := xk_pw (.int (0 : Int32)) f2 (k := 3) (by simp)
  have uC : xk_u (fun i => i = 6 + 3 * ne) A4 C4 := xk_t c3 (xk_t d3 (xk_t f3 h3))
  have hothC : ∀ i, i < q + 2 → i ≠ 6 + 3 * ne + 1 → i ≠ 6 + 3 * ne → C4.1[i]? = B.1[i]? := fun i hi hi2 hi3 => (uC.2.2 i hi3).trans (hoth i hi hi2)
  have hEv : xu_E C4 (6 + 3 * ne) (Dl.length : Nat) 0 v2 v3 ff st0 := ⟨h2, xk_au w3 uC (by omega), xi_ac e3 (hothC _ (by omega) (by omega) (by omega))⟩
  have hzC : xz_C C4 2 3 4 s m f g := ⟨(hothC 2 (by omega) (by omega) (by omega)).trans k3.1, xi_ac k3.2.1 (hothC 3 (by omega) (by omega) (by omega)), xi_ac k3.2.2 (hothC 4 (by omega) (by omega) (by omega))⟩
  obtain ⟨E1, st', p1, p2, p3, p4⟩ := xu_settle (o := 6 + 3 * ne) (z := 2) (zb := 3) (ze := 4) (by omega) (by omega) (by omega) P3 (n := (Dl.length : Nat)) (by omega) (by omega) g3 g4 (fun i hi => hE.2.1 (ff i) (xu_hm w4 (by omega))) hEv hzC
  have hothE : ∀ i, i < q + 2 → (i < 6 + 3 * ne ∨ 8 + 3 * ne < i) → E1.1[i]? = B.1[i]? := fun i hi hi2 => (p2.2.2 i (by omega)).trans (hothC i hi (by omega) (by omega))
  have kE : E1.1[0]? = some (.inr (0, [.ref 1, .int (xI ((0 : Nat) : Int)), .ref 2, .ref 5, .int (xI ne), .ref 30, .ref 31])) := (hothE 0 (by omega) (by omega)).trans k1
  obtain ⟨Z, z1, z2, z3⟩ := xk_pw (.int (xI ((ne : Int) + 1))) kE (k := 4) (by simp)
  have hothZ : ∀ i, i < q + 2 → i ≠ 0 → (i < 6 + 3 * ne ∨ 8 + 3 * ne < i) → Z.1[i]? = B.1[i]? := fun i hi hi0 hi2 => (z3.2.2 i hi0).trans (hothE i hi hi2)
  have hXn : X ne = [] := (P8 ne (by omega)).2
  refine ⟨Dl, Z, hdl, ?_, ⟨z2, xi_ac k2 (hothZ 1 (by omega) (by omega) (by omega)), ⟨(hothZ 2 (by omega) (by omega) (by omega)).trans k3.1, xi_ac k3.2.1 (hothZ 3 (by omega) (by omega) (by omega)), xi_ac k3.2.2 (hothZ 4 (by omega) (by omega) (by omega))⟩, ⟨?_, fun i hi => ?_⟩, ⟨hh, xi_ac kh (hothZ 30 (by omega) (by omega) (by omega))⟩, fr, to, (hothZ 31 (by omega) (by omega) (by omega)).trans s1, xi_ac s2 (hothZ 32 (by omega) (by omega) (by omega)), xi_ac s3 (hothZ 33 (by omega) (by omega) (by omega))⟩, fun i i1 i2 => hothZ i (by omega) (by omega) (by omega), ?_, ?_⟩
  · have kB2 : A2.1[0]? = _ := (hc2 0 (by omega)).trans k1
    have qB2 : A2.1[q]? = _ := (hc2 q (by omega)).trans hQ
    have eB2 : A2.1[6 + 3 * ne]? = _ := (hc2 (6 + 3 * ne) (by omega)).trans e1
    have kC4 : C4.1[0]? = _ := (hothC 0 (by omega) (by omega) (by omega)).trans k1
    have hbeg : fE_begin (xj_o (6 + 3 * ne)) (xI v2) (xI v3) (xI (Dl.length : Nat)) A4 = some (.inl none, C4) := by
      unfold fE_begin
      rw [c1, xe_bind, d1, xe_bind, f1, xe_bind, h1, xe_bind]
    rw [xe_gr k1 rfl, xe_bind, xe_gi k1 rfl, xe_bind, xb_ral kV (by omega) (by omega), xe_bind, Int.toNat_natCast, a1, xe_bind, xe_gr qB2 rfl, xe_bind, xe_gr eB2 rfl, xe_bind, hlen, a3, xe_bv, xe_rq a5, b1, xe_bi, xe_rq ((hoth (6 + 3 * ne) (by omega) (by omega)).trans e1), hbeg, xe_bv, xe_gr kC4 rfl, xe_bind, xe_rq hEv.1, p1, xe_bv, xe_gi kE rfl, xe_bind, xl_1, xI_add, z1, xe_bind, xe_gi z2 rfl, xe_bind, xI_sub]
    exact xj_ri (by omega)
  · obtain ⟨ev, q1, q2⟩ := kV
    exact ⟨ev, (hothZ 5 (by omega) (by omega) (by omega)).trans q1, q2⟩
  · have hEZ : xu_E Z (6 + 3 * ne) (Dl.length : Nat) 0 v2 v3 ff st' := ⟨xk_c p3.1 z3 (by omega), xk_au p3.2.1 z3 (by omega), xk_au p3.2.2 z3 (by omega)⟩
    by_cases ei : i = ne
    · subst ei
      refine ⟨⟨_, _, _, _, _, _, hEZ⟩, fun _ => ⟨ff, st', ?_, ?_, ?_⟩⟩
      · rw [xk_p_e, xk_p_e, xk_p_e, hXn, show xp_C Dl [] = Dl by simp [xp_C]]
        exact hEZ
      · rw [xk_p_e, hXn, show xp_C Dl [] = Dl by simp [xp_C]]
        exact w4
      · rw [xk_p_e, xk_p_e, hXn, show xp_C Dl [] = Dl by simp [xp_C]]
        exact p4
    · refine ⟨xi_frc (k4 i hi).1 fun t t1 t2 => hothZ t (by omega) (by omega) (by omega), fun hn => ?_⟩
      rw [xk_p_n _ _ ei, xk_p_n _ _ ei, xk_p_n _ _ ei]
      exact xi_evc ((k4 i hi).2 (by omega)) fun t t1 t2 => hothZ t (by omega) (by omega) (by omega)
  · have : Z.2 = A3.2 := z3.1.trans (p2.1.trans (uC.1.trans b2.1))
    rw [this]; omega
  · have : Z.2 = A3.2 := z3.1.trans (p2.1.trans (uC.1.trans b2.1))
    rw [this]; omega
theorem xt_evC {A : xj_H} {G : xi_G} (hP : xi_Pg G) (hC : xi_Cg A G) (hq : 51 ≤ A.1.length) (r1 : 4 ≤ A.2.1) (r2 : 40 ≤ A.2.2) {v1 v2 v3 : Int} (a1 : -2147483648 ≤ v1) (b1 : v1 ≤ 2147483647) (a2 : -2147483648 ≤ v2) (b2 : v2 ≤ 2147483647) (a3 : -2147483648 ≤ v3) (b3 : v3 ≤ 2147483647) :
    (G.2.2.1.1 = 8 ∧ fB_event (xj_o 0) (xI v1) (xI v2) (xI v3) A = some (.inr xt_ise, (A.1, A.2.1 - 1, A.2.2 - 6))) ∨
    (G.2.2.1.1 < 8 ∧ (¬ xt_eg v1 v2 v3 ∨ ∀ d, ¬ xr_says (xt_txt G.1.2 G.1.1) d) ∧ ∃ B, fB_event (xj_o 0) (xI v1) (xI v2) (xI v3) A = some (.inr xt_iae, B) ∧ xi_Cg B ((0, G.1.2), G.2) ∧ xi_g A B 34 50 ∧ xi_r A B) ∨
    (G.2.2.1.1 < 8 ∧ xt_eg v1 v2 v3 ∧ ∃ Dl B, xt_dl (xt_txt G.1.2 G.1.1) v1 Dl ∧ fB_event (xj_o 0) (xI v1) (xI v2) (xI v3) A = some (.inl (some (.int (xI G.2.2.1.1))), B) ∧ xi_Cg B ((0, G.1.2), G.2.1, (G.2.2.1.1 + 1, xk_p G.2.2.1.2.1 G.2.2.1.1 v2, xk_p G.2.2.1.2.2.1 G.2.2.1.1 v3, xk_p G.2.2.1.2.2.2.1 G.2.2.1.1 Dl, G.2.2.1.2.2.2.2), G.2.2.2) ∧ xi_g A B 34 50 ∧ xi_r A B) := by
  obtain ⟨⟨n, T⟩, ⟨s, m, f, g⟩, ⟨ne, mi, le, D, X⟩, ⟨c, b, e⟩⟩ := G
  obtain ⟨P1, P2, P3, P4, P5, P6, P7, P8, P9⟩ := id hP
  obtain ⟨k1, k2, k3, k4, k5⟩ := id hC
  simp only at P1 P2 P3 P4 P5 P6 P7 P8 P9 k1 k2 k3 k4 k5 ⊢
  unfold fB_event fB_event_71
  rw [xe_gi k1 rfl, xe_bind, xl_8, xq_lt (by omega) (by omega) (by omega) (by omega)]
  by_cases h8 : ¬ ((ne : Int) < 8)
  · rw [if_neg h8, xi_th _ (by omega) (by omega)]
    exact Or.inl ⟨by omega, rfl⟩
  obtain ⟨A2, A5, q1, q2, q3, q4, q5, q6, q7, q8, q9⟩ := xt_mkQ (A := A) (n := n) hq (by omega) (by omega)
  have kA2 : A2.1[0]? = _ := (q2 0 (by omega)).trans k1
  have kA5 : A5.1[0]? = _ := (q6 0 (by omega)).trans k1
  obtain ⟨A6, w1, w2, w3⟩ := xk_pw (.int (0 : Int32)) kA5 (k := 1) (by simp)
  have hoth : ∀ i, i < A.1.length → i ≠ 0 → A6.1[i]? = A.1[i]? := fun i hi hi0 => (w3.2.2 i hi0).trans (q6 i hi)
  have hC6 : xi_C A6 0 T s m f g ne mi le D X c b e := xt_C0 hC w2 (fun i i1 i2 => hoth i (by omega) (by omega))
  have hQ6 : xr_Q A6 A.1.length 1 (A.1.length + 1) n 0 := xk_c q4 w3 (by omega)
  have hR6 : xr_R A6 (A.1.length + 1) xr_d0 := xr_Ru q5 w3 (by omega)
  have hcond : ∀ (Y : Option xj_R), (if v2 < 0 then xj_th A6 xt_iae else if 1440 ≤ v2 then xj_th A6 xt_iae else if v3 < 1 then xj_th A6 xt_iae else if v3 ≤ 2880 then Y else xj_th A6 xt_iae) = if 0 ≤ v2 ∧ v2 ≤ 1439 ∧ 1 ≤ v3 ∧ v3 ≤ 2880 then Y else xj_th A6 xt_iae := by
    intro Y
    by_cases x1 : v2 < 0
    · rw [if_pos x1, if_neg (by omega)]
    rw [if_neg x1]
    by_cases x2 : 1440 ≤ v2
    · rw [if_pos x2, if_neg (by omega)]
    rw [if_neg x2]
    by_cases x3 : v3 < 1
    · rw [if_pos x3, if_neg (by omega)]
    rw [if_neg x3]
    by_cases x4 : v3 ≤ 2880
    · rw [if_pos x4, if_pos (by omega)]
    · rw [if_neg x4, if_neg (by omega)]
  have bad : ∀ B, (∀ i, i < A.1.length → B.1[i]? = A6.1[i]?) → B.2 = A6.2 → ∃ Z, xj_th B xt_iae = some (.inr xt_iae, Z) ∧ xi_Cg Z ((0, T), (s, m, f, g), (ne, mi, le, D, X), (c, b, e)) ∧ xi_g A Z 34 50 ∧ xi_r A Z := by
    intro B hB hB2
    have e1 : B.2.1 = A5.2.1 := by rw [hB2, w3.1]
    have e2 : B.2.2 = A5.2.2 := by rw [hB2, w3.1]
    refine ⟨_, xi_th _ (by omega) (by omega), xi_Cc hC6 (fun i i1 i2 => hB i (by omega)), fun i i1 i2 => (hB i (by omega)).trans (hoth i (by omega) (by omega)), ?_⟩
    unfold xi_r
    simp only
    omega
  rw [if_pos (Classical.not_not.mp h8), q1, xe_bind, xe_gr kA2 rfl, xe_bind, xe_gi kA2 rfl, xe_bind, q3, xe_bv, w1, xe_bind, xt_isDay a1 b1, xe_bi]
  by_cases hd : ¬ (0 ≤ v1 ∧ v1 ≤ 36524)
  · rw [if_neg hd, xk_b0]
    obtain ⟨Z, z1, z2, z3, z4⟩ := bad A6 (fun _ _ => rfl) rfl
    exact Or.inr (Or.inl ⟨by omega, Or.inl (by unfold xt_eg; omega), Z, z1, z2, z3, z4⟩)
  rw [if_pos (Classical.not_not.mp hd), xk_b1, xl_0, xq_lt (by omega) (by omega) (by omega) (by omega), xl_1440, xq_le (by omega) (by omega) (by omega) (by omega), xl_1, xq_lt (by omega) (by omega) (by omega) (by omega), xl_2880, xq_le (by omega) (by omega) (by omega) (by omega), ← xl_0, ← xl_1]
  have hcd := hcond
  unfold xt_iae at hcd
  rw [hcd]
  by_cases hv : ¬ (0 ≤ v2 ∧ v2 ≤ 1439 ∧ 1 ≤ v3 ∧ v3 ≤ 2880)
  · rw [if_neg hv]
    obtain ⟨Z, z1, z2, z3, z4⟩ := bad A6 (fun _ _ => rfl) rfl
    exact Or.inr (Or.inl ⟨by omega, Or.inl (by unfold xt_eg; omega), Z, z1, z2, z3, z4⟩)
  have hg : xt_eg v1 v2 v3 := by unfold xt_eg; omega
  rw [if_pos (Classical.not_not.mp hv), xe_rq hQ6]
  have hCr : xr_C A6 A.1.length 1 (A.1.length + 1) n 0 T xr_d0 (xt_txt T n) := ⟨hQ6, hC6.2.1, hR6, xt_at P2 n⟩
  rcases xr_rr ⟨by omega, by omega, by omega, P1⟩ hCr with ⟨d, B, y1, y2, y3, y4, y5, j, y6⟩ | ⟨y1, B, y2, y3⟩
  · have hBs : ∀ i, i < A.1.length → B.1[i]? = A6.1[i]? := fun i hi => y3.2.2 i (by omega)
    have e1 : B.2.1 = A5.2.1 := by rw [y3.1, w3.1]
    have e2 : B.2.2 = A5.2.2 := by rw [y3.1, w3.1]
    have hCB : xi_C B 0 T s m f g ne mi le D X c b e := xi_Cc hC6 (fun i i1 i2 => hBs i (by omega))
    obtain ⟨Dl, Z, z1, z2, z3, z4, z5, z6⟩ := xt_evG (show xi_P n T s m f g ne mi le D X c b e from hP) hCB (by omega) hq (by rw [y3.2.1, w3.2.1, q7]) y6 y4 y5 y1 (by omega) (by omega) hg
    rw [y2, xe_bi, xk_n1]
    refine Or.inr (Or.inr ⟨by omega, hg, Dl, Z, z1, z2, z3, fun i i1 i2 => (z4 i i1 (by omega)).trans ((hBs i (by omega)).trans (hoth i (by omega) (by omega))), ?_⟩)
    unfold xi_r
    omega
  · rw [y2, xe_bi, xk_n0]
    obtain ⟨Z, z1, z2, z3, z4⟩ := bad B (fun i hi => y3.2.2 i (by omega)) y3.1
    exact Or.inr (Or.inl ⟨by omega, Or.inr y1, Z, z1, z2, z3, z4⟩)

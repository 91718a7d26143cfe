/-! The turn of busy. -/
def xt_iae : String := "java/lang/IllegalArgumentException"
theorem xt_busyC {A : xj_H} {G : xi_G} (hP : xi_Pg G) (hC : xi_Cg A G) {fr to : Int} (f1 : -2147483648 ≤ fr) (f2 : fr ≤ 2147483647) (t1 : -2147483648 ≤ to) (t2 : to ≤ 2147483647) :
    ∃ (B : xj_H) (c' : Nat) (b' e' : Nat → Int), (xj_bv (xj_rq A (xj_o 31) 3 (fS_open (xj_o 31) (xI fr) (xI to) A)) fun A2 => fB_busy_38 xj_fu (xj_o 0) 0 A2) = some (.inl (some (.int (xI c'))), B) ∧ xk_u (fun i => 30 ≤ i ∧ i ≤ 33) A B ∧ xi_Cg B (G.1, G.2.1, G.2.2.1, (c', b', e')) ∧ xb_N b' e' c' ∧ c' ≤ 1600 ∧ ∀ t, xb_I b' e' c' t ↔ xb_U (xb_Q G.2.1.1 G.2.1.2.1 G.2.1.2.2.1 G.2.1.2.2.2 G.2.2.1.1 G.2.2.1.2.1 G.2.2.1.2.2.1 G.2.2.1.2.2.2.1 G.2.2.1.2.2.2.2) fr to t := by
  obtain ⟨⟨n, T⟩, ⟨s, m, f, g⟩, ⟨ne, mi, le, D, X⟩, ⟨c, b, e⟩⟩ := G
  obtain ⟨P1, P2, P3, P4, P5, P6, P7, P8, P9⟩ := hP
  obtain ⟨k1, k2, k3, ⟨kV, k4⟩, ⟨hh, kh⟩, fr0, to0, kS⟩ := hC
  simp only at P1 P2 P3 P4 P5 P6 P7 P8 P9 k1 k2 k3 kV k4 kh kS ⊢
  have hsk : ∀ j : Nat, ∃ st : Nat → Int, j < ne → ∃ d, xu_E A (6 + 3 * j) (xp_C (D j) (X j)).length (X j).length (mi j) (le j) d st ∧ xu_h d (xp_C (D j) (X j)) ∧ xu_S (fun i => xz_mo s m f g (1440 * d i + mi j)) (xp_C (D j) (X j)).length st := by
    intro j
    by_cases hj : j < ne
    · obtain ⟨d, st, h⟩ := (k4 j (by omega)).2 hj
      exact ⟨st, fun _ => ⟨d, h⟩⟩
    · exact ⟨fun _ => 0, fun h => absurd h hj⟩
  obtain ⟨st, hst⟩ := Classical.skolem.mp hsk
  have hval : ∀ j i : Nat, j < ne → (i : Int) < ((xp_C (D j) (X j)).length : Nat) → xc_P s m f g (mi j) (xp_C (D j) (X j)) (st j i) := by
    intro j i hj hi
    obtain ⟨d, h1, h2, h3⟩ := hst j hj
    exact (xc_PS h2 h3 (st j i)).mp ⟨i, hi, rfl⟩
  obtain ⟨B, c', b', e', q1, q2, q3, q4, q5, q6, q7, q8⟩ := xb_busy (tn := n) (ne := ne) P4 (n := fun j => ((xp_C (D j) (X j)).length : Nat)) (le := le) (st := st) f1 f2 t1 t2 (fun j hj => by
      have := xp_Cl (P5 j (by omega)); omega) P7 (fun j i hj hi => by
      have := xc_Pb P3 (P6 j hj).1 (P6 j hj).2 (xp_Cb (P5 j (by omega))) (hval j i hj hi)
      omega) (fun j hj i k hik hk => by
      obtain ⟨d, h1, h2, h3⟩ := hst j hj
      exact h3.1 i k hik (by omega)) k1 kV (fun j hj => by
      obtain ⟨d, h1, h2, h3⟩ := hst j hj
      exact ⟨_, _, d, h1⟩) kh kS
  refine ⟨B, c', b', e', q1, q2, ?_, q4, q5, fun t => ?_⟩
  · have hrest := xi_gu (lo := 0) (hi := 29) q2 (fun i i1 i2 => by omega)
    obtain ⟨z1, z2, z3⟩ := k3
    obtain ⟨ev, v1, v2⟩ := kV
    exact ⟨(hrest 0 (by decide) (by decide)).trans k1, xi_ac k2 (hrest 1 (by decide) (by decide)), ⟨(hrest 2 (by decide) (by decide)).trans z1, xi_ac z2 (hrest 3 (by decide) (by decide)), xi_ac z3 (hrest 4 (by decide) (by decide))⟩, ⟨⟨ev, (hrest 5 (by decide) (by decide)).trans v1, v2⟩, fun j hj => ⟨xi_frc (k4 j hj).1 fun i i1 i2 => hrest i (by omega) (by omega), fun hn => xi_evc ((k4 j hj).2 hn) fun i i1 i2 => hrest i (by omega) (by omega)⟩⟩, q6, fr, to, q3⟩
  · rw [q8 t]
    have hiff : ∀ x l, xb_P ne (fun j => ((xp_C (D j) (X j)).length : Nat)) le st x l ↔ xb_Q s m f g ne mi le D X x l := by
      intro x l
      constructor
      · rintro ⟨j, i, hj, hi, rfl, rfl⟩
        exact ⟨j, hj, hval j i hj hi, rfl⟩
      · rintro ⟨j, hj, hx, rfl⟩
        obtain ⟨d, h1, h2, h3⟩ := hst j hj
        obtain ⟨i, i1, i2⟩ := (xc_PS h2 h3 x).mpr hx
        exact ⟨j, i, hj, i1, i2.symm, rfl⟩
    constructor
    · rintro ⟨x, l, h1, h2⟩; exact ⟨x, l, (hiff x l).mp h1, h2⟩
    · rintro ⟨x, l, h1, h2⟩; exact ⟨x, l, (hiff x l).mpr h1, h2⟩
theorem xt_busy {A : xj_H} (hI : xi_I A) (r1 : 1 ≤ A.2.1) (r2 : 6 ≤ A.2.2) {fr to : Int} (f1 : -2147483648 ≤ fr) (f2 : fr ≤ 2147483647) (t1 : -2147483648 ≤ to) (t2 : to ≤ 2147483647) : xt_R A (fL_busy (xj_o 0) (xI fr) (xI to) (xj_o 50) A) (fM_busy (xj_o 34) (xI fr) (xI to)) := by
  obtain ⟨G, p, hP, hC, hM, hO⟩ := hI
  have hF : xz_F G.2.1.1 G.2.1.2.1 G.2.1.2.2.1 G.2.1.2.2.2 := hP.2.2.1
  have hne : G.2.2.1.1 ≤ 8 := hP.2.2.2.1
  unfold fL_busy
  by_cases hgood : ¬ (xI to ≤ xI fr) ∧ (lg_cmp ((Int32.toInt64 (xI to)) - (Int32.toInt64 (xI fr))) (200000 : Int64)) ≤ 0
  · obtain ⟨B, c', b', e', q1, q2, q3, q4, q5, q6⟩ := xt_busyC hP hC f1 f2 t1 t2
    have hPB : xi_Pg (G.1, G.2.1, G.2.2.1, (c', b', e')) := by
      obtain ⟨P1, P2, P3, P4, P5, P6, P7, P8, P9⟩ := hP
      exact ⟨P1, P2, P3, P4, P5, P6, P7, P8, q5⟩
    refine xt_ok (v := xI c') (B0 := B) ?_ (xt_rq hC) q3 (xi_gu q2 (fun i i1 i2 => by omega)) (xt_ri (xt_rr A) q2.1) hM hO hPB fun B' hB => ?_
    · unfold fB_busy
      rw [if_neg hgood.1, if_pos hgood.2, xe_gr hC.1 rfl, xe_bind]
      exact q1
    · obtain ⟨C, c1, c2, c3⟩ := xt_fails hB (b := 0) (Or.inl rfl)
      obtain ⟨h1, h2, p2, p3, p4, p7, p33, h35, h36, h37, hT, ⟨⟨f4, g4⟩, ⟨f5, g5⟩, ⟨f6, g6⟩, ⟨f7, g7⟩⟩, b2, e2, h48, h49, h50⟩ := id c3
      obtain ⟨E, w1, w2, w3⟩ := xk_pv (.int (xI ((0 : Nat) : Int))) h1 (k := 33) (by decide)
      obtain ⟨H, p', c'', b'', en'', x1, x2, x3, x4, x5, x6⟩ := xb_mbO hF hne hP.2.2.2.2.1 f1 f2 t1 t2 hP.2.2.2.2.2.1 hP.2.2.2.2.2.2.1 xj_fu 0 E _ 0 b2 e2 (by omega) (by unfold xj_fu; omega) (by omega) ⟨⟨w2, xm_Rp h2 (by decide), rfl, xk_au h48 w3 (by decide), xk_au h49 w3 (by decide)⟩, p3, p4, p7, xk_au h36 w3 (by decide), xk_au h37 w3 (by decide), xm_Tu hT w3 (fun i i1 i2 => by omega), ⟨fun i hi => by omega, fun i hi => by omega⟩, fun i hi => by omega⟩ (fun t => by
        constructor
        · rintro ⟨i, hi, _⟩; omega
        · rintro ⟨x, l, ⟨j, hj, _⟩, _⟩; omega)
      rw [show ((0 : Nat) : Int) = 0 from rfl, ← xl_0] at x1
      obtain ⟨u1, u2⟩ := xb_uniq q4 x5.2.2.2.2.2.2.2.1 (fun t => (q6 t).trans (x6 t).symm)
      subst u1
      obtain ⟨⟨y1, y2, y3, y4, y5⟩, y6, y7, y8, y9, y10, y11, _⟩ := x5
      have uE : xk_u (fun i => i = 34 ∨ i = 48 ∨ i = 49) C H := xk_t (xk_w w3 fun i (hi : i = 34) => Or.inl hi) x2
      refine ⟨H, p', ?_, xk_t c2 (xk_w uE fun i (hi : i = 34 ∨ i = 48 ∨ i = 49) => by unfold xt_S; omega), ⟨y1, y2, (x3 2 (by decide)).trans p2, y6, y7, y8, y3, xk_au h35 uE (by decide), y9, y10, y11, ⟨⟨f4, xk_au g4 uE (by decide)⟩, ⟨f5, xk_au g5 uE (by decide)⟩, ⟨f6, xk_au g6 uE (by decide)⟩, ⟨f7, xk_au g7 uE (by decide)⟩⟩, b'', en'', y4, y5, fun i hi => ⟨(u2 i hi).1.symm, (u2 i hi).2.symm⟩⟩, (x3 0 (by decide)).trans rfl⟩
      unfold fM_busy fM_busy_23
      have w1' : xj_pv C (xj_o 34) 7 33 (.int (0 : Int32)) = some E := w1
      rw [if_neg hgood.1, if_pos hgood.2, xk_rq hB.1, c1, xe_bi, xk_b0, w1', xe_bind]
      exact x1
  · obtain ⟨y1, y2, y3⟩ := xt_thC r1 r2 hC
    refine xt_no (k := 1) (w := 0) (nm := xt_iae) (by decide) ?_ rfl (xt_rq hC) y1 y2 y3 hM hO hP (xt_mno fun B hB => ?_)
    · unfold fB_busy fB_busy_17
      rw [xi_th _ r1 r2]
      by_cases q1 : xI to ≤ xI fr
      · rw [if_pos q1]; rfl
      · rw [if_neg q1, if_neg fun h => hgood ⟨q1, h⟩]; rfl
    · obtain ⟨C, c1, c2, c3⟩ := xt_fails hB (b := 1) (Or.inr rfl)
      unfold fM_busy fM_busy_18 fM_busy_23
      rw [xk_rq hB.1, c1, xe_bi, xe_bi, xk_b1]
      by_cases q1 : xI to ≤ xI fr
      · rw [if_pos q1]
      · rw [if_neg q1, if_neg fun h => hgood ⟨q1, h⟩]
/-! The turn of zone. -/
theorem xt_off {v : Int} (v1 : -2147483648 ≤ v) (v2 : v ≤ 2147483647) (A : xj_H) : fB_isOffset (xI v) A = some (.inl (some (.int (if -840 ≤ v ∧ v ≤ 840 then 1 else 0))), A) := by
  unfold fB_isOffset fB_isOffset_18 fB_isOffset_19
  rw [xl_m840, xq_lt (by omega) (by omega) (by omega) (by omega), xl_840, xq_lt (by omega) (by omega) (by omega) (by omega)]
  by_cases h1 : v < -840
  · rw [if_pos h1, if_neg (by omega)]; rfl
  · rw [if_neg h1]
    by_cases h2 : 840 < v
    · rw [if_pos h2, if_neg (by omega)]; rfl
    · rw [if_neg h2, if_pos (by omega)]; rfl
def xt_zg (v1 v2 v3 v4 v5 v6 : Int) : Prop := -840 ≤ v1 ∧ v1 ≤ v2 ∧ v2 ≤ 840 ∧ 1 ≤ v3 ∧ v3 < v5 ∧ v5 ≤ 12 ∧ 1 ≤ v4 ∧ v4 ≤ 5 ∧ 1 ≤ v6 ∧ v6 ≤ 5
/-- the class puts all events' starts in order anew -/
theorem xt_zL {s m : Int} {f g : Nat → Int} (hF : xz_F s m f g) {tn : Int} {ne : Nat} (hne : ne ≤ 8) {mi le : Nat → Int} {D X : Nat → List Int} (P5 : ∀ e, e < 8 → xp_E (D e) (X e)) (P6 : ∀ e, e < ne → 0 ≤ mi e ∧ mi e ≤ 1439) :
    ∀ (z k : Nat) (A : xj_H), k ≤ ne → ne - k < z → xb_K A tn ne → xz_C A 2 3 4 s m f g → xb_V A → (∀ e, e < 8 → xi_fr A e) → (∀ e, e < k → xi_ev A s m f g e (mi e) (le e) (xp_C (D e) (X e)) (X e).length) → (∀ e, k ≤ e → e < ne → ∃ d st, xu_E A (6 + 3 * e) (xp_C (D e) (X e)).length (X e).length (mi e) (le e) d st ∧ xu_h d (xp_C (D e) (X e))) →
      ∃ B, fB_zone_113 z (xj_o 0) (xI k) A = some (.inl none, B) ∧ xk_u (fun i => 6 ≤ i ∧ i ≤ 29) A B ∧ xi_Ce B s m f g ne mi le D X
  | 0, k, A, _, h, _, _, _, _, _, _ => by omega
  | z + 1, k, A, hk, hz, k1, k3, kV, kf, kd, kt => by
    rw [fB_zone_113, xe_gi k1 rfl, xe_bind, xq_le (by omega) (by omega) (by omega) (by omega)]
    by_cases hc : (ne : Int) ≤ k
    · rw [if_pos hc]
      exact ⟨A, rfl, xk_r _ _, kV, fun e he => ⟨kf e he, fun hn => kd e (by omega)⟩⟩
    · obtain ⟨d, st, e1, e2⟩ := kt k (by omega) (by omega)
      have hpk := P5 k (by omega)
      have hl := xp_Cl hpk
      obtain ⟨B, st', s1, s2, s3, s4⟩ := xu_settle (z := 2) (zb := 3) (ze := 4) (by omega) (by omega) (by omega) hF (by omega) (by omega) (P6 k (by omega)).1 (P6 k (by omega)).2 (fun j hj => xp_Cb hpk (d j) (xu_hm e2 (by omega))) e1 k3
      have hoth : ∀ i, i ≠ 8 + 3 * k → B.1[i]? = A.1[i]? := fun i hi => s2.2.2 i (by omega)
      rw [if_neg hc, xe_gr k1 rfl, xe_bind, xb_ral kV (by omega) (by omega), xe_bind, xe_gr k1 rfl, xe_bind, Int.toNat_natCast, xe_rq e1.1, s1, xe_bv, xl_1, xI_add]
      obtain ⟨C, c1, c2, c3⟩ := xt_zL hF hne P5 P6 z (k + 1) B (by omega) (by omega) ((hoth 0 (by omega)).trans k1) ⟨(hoth 2 (by omega)).trans k3.1, xi_ac k3.2.1 (hoth 3 (by omega)), xi_ac k3.2.2 (hoth 4 (by omega))⟩ (xb_Vu kV s2 (by omega)) (fun e he => by
        by_cases ek : e = k
        · subst ek; exact ⟨_, _, _, _, _, _, s3⟩
        · exact xi_frc (kf e he) fun i i1 i2 => hoth i (by omega)) (fun e he => by
        by_cases ek : e = k
        · subst ek; exact ⟨d, st', s3, e2, s4⟩
        · exact xi_evc (kd e (by omega)) fun i i1 i2 => hoth i (by omega)) (fun e he hn => by
        obtain ⟨d2, st2, w1, w2⟩ := kt e (by omega) hn
        exact ⟨d2, st2, xi_Ec w1 (hoth _ (by omega)) (hoth _ (by omega)) (hoth _ (by omega)), w2⟩)
      exact ⟨C, c1, xk_t (xk_w s2 fun i (hi : i = 6 + 3 * k + 2) => by omega) c2, c3⟩
/-- how a turn of zone ends -/
theorem xt_zone {A : xj_H} (hI : xi_I A) (r1 : 1 ≤ A.2.1) (r2 : 6 ≤ A.2.2) {v1 v2 v3 v4 v5 v6 : Int} (a1 : -2147483648 ≤ v1) (b1 : v1 ≤ 2147483647) (a2 : -2147483648 ≤ v2) (b2 : v2 ≤ 2147483647) (a3 : -2147483648 ≤ v3) (b3 : v3 ≤ 2147483647) (a4 : -2147483648 ≤ v4) (b4 : v4 ≤ 2147483647) (a5 : -2147483648 ≤ v5) (b5 : v5 ≤ 2147483647) (a6 : -2147483648 ≤ v6) (b6 : v6 ≤ 2147483647) :
    ∃ k B C, fL_zone (xj_o 0) (xI v1) (xI v2) (xI v3) (xI v4) (xI v5) (xI v6) A = some (.inl (some (.int k)), B) ∧ xj_rq B (xj_o 34) 7 (fM_zone (xj_o 34) (xI v1) (xI v2) (xI v3) (xI v4) (xI v5) (xI v6) B) = some (.inl none, C) ∧ xj_rq C (xj_o 34) 7 (fM_thrown (xj_o 34) C) = some (.inl (some (.int k)), C) ∧ xi_I C ∧ xi_r A C := by
  obtain ⟨⟨⟨n, T⟩, ⟨s, m, f, g⟩, ⟨ne, mi, le, D, X⟩, ⟨c, b, e⟩⟩, p, hP, hC, hM, hO⟩ := hI
  obtain ⟨P1, P2, P3, P4, P5, P6, P7, P8, P9⟩ := id hP
  obtain ⟨k1, k2, k3, ⟨kV, k4⟩, k5⟩ := id hC
  simp only at P1 P2 P3 P4 P5 P6 P7 P8 P9 k1 k2 k3 kV k4 k5
  -- the reference decides
  have hmz : ∀ B, (xt_zg v1 v2 v3 v4 v5 v6 → fM_zone (xj_o 34) (xI v1) (xI v2) (xI v3) (xI v4) (xI v5) (xI v6) B = fM_zone_85 (xj_o 34) (xI v1) (xI v2) (xI v3) (xI v4) (xI v5) (xI v6) 0 (xj_o 34) B) ∧ (¬ xt_zg v1 v2 v3 v4 v5 v6 → fM_zone (xj_o 34) (xI v1) (xI v2) (xI v3) (xI v4) (xI v5) (xI v6) B = fM_zone_85 (xj_o 34) (xI v1) (xI v2) (xI v3) (xI v4) (xI v5) (xI v6) 1 (xj_o 34) B) := by
    intro B
    have h71 : fM_zone_71 (xj_o 34) (xI v1) (xI v2) (xI v3) (xI v4) (xI v5) (xI v6) B = fM_zone_85 (xj_o 34) (xI v1) (xI v2) (xI v3) (xI v4) (xI v5) (xI v6) 1 (xj_o 34) B := by
      unfold fM_zone_71 fM_zone_72; rw [xk_n0]
    have h72 : fM_zone_72 (xj_o 34) (xI v1) (xI v2) (xI v3) (xI v4) (xI v5) (xI v6) (xI 1) B = fM_zone_85 (xj_o 34) (xI v1) (xI v2) (xI v3) (xI v4) (xI v5) (xI v6) 0 (xj_o 34) B := by
      unfold fM_zone_72; rw [← xl_1, xk_n1]
    unfold fM_zone xt_zg
    rw [xl_m840, xl_840, xl_12, xl_5, xl_1, xm_inside a1 b1 (by omega) (by omega) (by omega) (by omega), xe_bi]
    by_cases c1 : ¬ (-840 ≤ v1 ∧ v1 ≤ 840)
    · rw [if_neg c1, xk_b0, h71]; exact ⟨fun h => by omega, fun _ => rfl⟩
    rw [if_pos (Classical.not_not.mp c1), xk_b1, xm_inside a2 b2 a1 b1 (by omega) (by omega), xe_bi]
    by_cases c2 : ¬ (v1 ≤ v2 ∧ v2 ≤ 840)
    · rw [if_neg c2, xk_b0, h71]; exact ⟨fun h => by omega, fun _ => rfl⟩
    rw [if_pos (Classical.not_not.mp c2), xk_b1, xm_inside a3 b3 (by omega) (by omega) (by omega) (by omega), xe_bi]
    by_cases c3 : ¬ (1 ≤ v3 ∧ v3 ≤ 12)
    · rw [if_neg c3, xk_b0, h71]; exact ⟨fun h => by omega, fun _ => rfl⟩
    rw [if_pos (Classical.not_not.mp c3), xk_b1, xI_add, xm_inside a5 b5 (by omega) (by omega) (by omega) (by omega), xe_bi]
    by_cases c4 : ¬ (v3 + 1 ≤ v5 ∧ v5 ≤ 12)
    · rw [if_neg c4, xk_b0, h71]; exact ⟨fun h => by omega, fun _ => rfl⟩
    rw [if_pos (Classical.not_not.mp c4), xk_b1, xm_inside a4 b4 (by omega) (by omega) (by omega) (by omega), xe_bi]
    by_cases c5 : ¬ (1 ≤ v4 ∧ v4 ≤ 5)
    · rw [if_neg c5, xk_b0, h71]; exact ⟨fun h => by omega, fun _ => rfl⟩
    rw [if_pos (Classical.not_not.mp c5), xk_b1, xm_inside a6 b6 (by omega) (by omega) (by omega) (by omega), xe_bi]
    by_cases c6 : ¬ (1 ≤ v6 ∧ v6 ≤ 5)
    · rw [if_neg c6, xk_b0, h71]; exact ⟨fun h => by omega, fun _ => rfl⟩
    rw [if_pos (Classical.not_not.mp c6), xk_b1, h72]
    exact ⟨fun _ => rfl, fun h => absurd (by omega) h⟩
  have hcz : (xt_zg v1 v2 v3 v4 v5 v6 → fB_zone (xj_o 0) (xI v1) (xI v2) (xI v3) (xI v4) (xI v5) (xI v6) A = xj_bv (xj_rq A (xj_o 2) 1 (fZ_change (xj_o 2) (xI v1) (xI v2) (xI v3) (xI v4) (xI v5) (xI v6) A)) fun A10 => fB_zone_113 xj_fu (xj_o 0) (0 : Int32) A10) ∧ (¬ xt_zg v1 v2 v3 v4 v5 v6 → fB_zone (xj_o 0) (xI v1) (xI v2) (xI v3) (xI v4) (xI v5) (xI v6) A = some (.inr xt_iae, (A.1, A.2.1 - 1, A.2.2 - 6))) := by
    unfold fB_zone xt_zg fB_zone_19 fB_zone_50 fB_zone_84
    rw [xt_off a1 b1, xe_bi]
    by_cases c1 : ¬ (-840 ≤ v1 ∧ v1 ≤ 840)
    · rw [if_neg c1, xk_b0, xi_th _ r1 r2]; exact ⟨fun h => by omega, fun _ => rfl⟩
    rw [if_pos (Classical.not_not.mp c1), xk_b1, xt_off a2 b2, xe_bi]
    by_cases c2 : ¬ (-840 ≤ v2 ∧ v2 ≤ 840)
    · rw [if_neg c2, xk_b0, xi_th _ r1 r2]; exact ⟨fun h => by omega, fun _ => rfl⟩
    rw [if_pos (Classical.not_not.mp c2), xk_b1, xq_le a1 b1 a2 b2]
    by_cases c3 : ¬ (v1 ≤ v2)
    · rw [if_neg c3, xi_th _ r1 r2]; exact ⟨fun h => by omega, fun _ => rfl⟩
    rw [if_pos (Classical.not_not.mp c3), xv_isMonth a3 b3, xe_bi]
    by_cases c4 : ¬ (1 ≤ v3 ∧ v3 ≤ 12)
    · rw [if_neg c4, xk_b0, xi_th _ r1 r2]; exact ⟨fun h => by omega, fun _ => rfl⟩
    rw [if_pos (Classical.not_not.mp c4), xk_b1, xv_isMonth a5 b5, xe_bi]
    by_cases c5 : ¬ (1 ≤ v5 ∧ v5 ≤ 12)
    · rw [if_neg c5, xk_b0, xi_th _ r1 r2]; exact ⟨fun h => by omega, fun _ => rfl⟩
    rw [if_pos (Classical.not_not.mp c5), xk_b1, xq_lt a3 b3 a5 b5]
    by_cases c6 : ¬ (v3 < v5)
    · rw [if_neg c6, xi_th _ r1 r2]; exact ⟨fun h => by omega, fun _ => rfl⟩
    rw [if_pos (Classical.not_not.mp c6), xl_1, xq_lt a4 b4 (by omega) (by omega), xl_5, xq_lt (by omega) (by omega) a4 b4]
    by_cases c7 : v4 < 1
    · rw [if_pos c7, xi_th _ r1 r2]; exact ⟨fun h => by omega, fun _ => rfl⟩
    rw [if_neg c7]
    by_cases c8 : 5 < v4
    · rw [if_pos c8, xi_th _ r1 r2]; exact ⟨fun h => by omega, fun _ => rfl⟩
    rw [if_neg c8, xq_lt a6 b6 (by omega) (by omega), xq_le a6 b6 (by omega) (by omega)]
    by_cases c9 : v6 < 1
    · rw [if_pos c9, xi_th _ r1 r2]; exact ⟨fun h => by omega, fun _ => rfl⟩
    rw [if_neg c9]
    by_cases c10 : ¬ (v6 ≤ 5)
    · rw [if_neg c10, xi_th _ r1 r2]; exact ⟨fun h => by omega, fun _ => rfl⟩
    rw [if_pos (Classical.not_not.mp c10), xe_gr k1 rfl, xe_bind]
    exact ⟨fun _ => rfl, fun h => absurd (by omega) h⟩
  unfold fL_zone
  by_cases hg : xt_zg v1 v2 v3 v4 v5 v6
  · obtain ⟨g1, g2, g3, g4, g5, g6, g7, g8, g9, g10⟩ := id hg
    obtain ⟨z1, z2, z3⟩ := id k3
    obtain ⟨B1, q1, q2, q3⟩ := xz_change (z := 2) (zb := 3) (ze := 4) (by decide) (by decide) (by decide) (s := v1) (m := v2) (bm := v3) (n := v4) (em := v5) (k := v6) (by omega) (by omega) (by omega) (by omega) (by omega) (by omega) (by omega) (by omega) z1 z2 z3
    have hF' := xz_mk (s := v1) (m := v2) (bm := v3) (n := v4) (em := v5) (k := v6) g1 g2 g3 (by omega) (by omega) (by omega) (by omega) (by omega) (by omega) (by omega) (by omega)
    have hoth : ∀ i, i < 2 ∨ 4 < i → B1.1[i]? = A.1[i]? := fun i hi => q2.2.2 i (by omega)
    have kV1 : xb_V B1 := xb_Vu kV q2 (by omega)
    obtain ⟨B2, w1, w2, w3⟩ := xt_zL hF' P4 P5 P6 (le := le) (tn := n) xj_fu 0 B1 (by omega) (by unfold xj_fu; omega) ((hoth 0 (by omega)).trans k1) q3 kV1 (fun j hj => xi_frc (k4 j hj).1 fun i i1 i2 => hoth i (by omega)) (fun j hj => by omega) (fun j _ hj => by
      obtain ⟨d, st, h1, h2, _⟩ := (k4 j (by omega)).2 hj
      exact ⟨d, st, xi_Ec h1 (hoth _ (by omega)) (hoth _ (by omega)) (hoth _ (by omega)), h2⟩)
    rw [show ((0 : Nat) : Int) = 0 from rfl, ← xl_0] at w1
    have u : xk_u (fun i => 2 ≤ i ∧ i ≤ 29) A B2 := xk_t (xk_w q2 fun i (hi : i = 2 ∨ i = 3 ∨ i = 4) => by omega) (xk_w w2 fun i (hi : 6 ≤ i ∧ i ≤ 29) => by omega)
    have hCB : xi_Cg B2 ((n, T), (v1, v2, xz_b v1 v3 v4, xz_e v2 v5 v6), (ne, mi, le, D, X), (c, b, e)) := by
      obtain ⟨⟨hh, kh⟩, fr, to, s1, s2, s3⟩ := k5
      exact ⟨xk_c k1 u (by omega), xk_au k2 u (by omega), ⟨xk_c q3.1 w2 (by omega), xk_au q3.2.1 w2 (by omega), xk_au q3.2.2 w2 (by omega)⟩, w3, ⟨hh, xk_au kh u (by omega)⟩, fr, to, xk_c s1 u (by omega), xk_au s2 u (by omega), xk_au s3 u (by omega)⟩
    have hMB : xi_Mg B2 p ((n, T), (s, m, f, g), (ne, mi, le, D, X), (c, b, e)) := xi_Mc hM (xi_gu u (fun i i1 i2 => by omega))
    obtain ⟨C, c1, c2, c3⟩ := xt_fails hMB (b := 0) (Or.inl rfl)
    obtain ⟨h1, h2, p2, p3, p4, p7, p33, h35, h36, h37, hT, ⟨⟨f4, y4⟩, ⟨f5, y5⟩, ⟨f6, y6⟩, ⟨f7, y7⟩⟩, b', e', h48, h49, h50⟩ := id c3
    obtain ⟨E1, e1, e2, e3⟩ := xk_pv (.int (xI v1)) h1 (k := 3) (by decide)
    obtain ⟨E2, d1, d2, d3⟩ := xk_pv (.int (xI v2)) e2 (k := 4) (by decide)
    have u2 : xk_u (fun i => i = 34) C E2 := xk_t e3 d3
    have hR2 := xm_Rp (k := 4) (v := .int (xI v2)) (xm_Rp (k := 3) (v := .int (xI v1)) h2 (by decide)) (by decide)
    obtain ⟨E3, x1, x2, x3, x4⟩ := xz_changes (o := 34) (zb := 36) (ze := 37) (by decide) (by decide) (by decide) (s := v1) (m := v2) (bm := v3) (n := v4) (em := v5) (k := v6) rfl rfl (hR2 (5, 36) (by decide)) (hR2 (6, 37) (by decide)) (by omega) (by omega) (by omega) (by omega) (by omega) (by omega) (by omega) (by omega) d2 (xk_au h36 u2 (by decide)) (xk_au h37 u2 (by decide))
    have u3 : xk_u (fun i => i = 34 ∨ i = 36 ∨ i = 37) C E3 := xk_t (xk_w u2 fun i (hi : i = 34) => Or.inl hi) (xk_w x2 fun i hi => Or.inr hi)
    have hME : xi_Mg E3 (xk_p (xk_p (xk_p p 0 (.int 0)) 3 (.int (xI v1))) 4 (.int (xI v2))) ((n, T), (v1, v2, xz_b v1 v3 v4, xz_e v2 v5 v6), (ne, mi, le, D, X), (c, b, e)) :=
      ⟨xk_ou d2 x2 (by decide), hR2, p2, rfl, rfl, p7, p33, xk_au h35 u3 (by decide), x3, x4, xm_Tu hT u3 (fun i i1 i2 => by omega), ⟨⟨f4, xk_au y4 u3 (by decide)⟩, ⟨f5, xk_au y5 u3 (by decide)⟩, ⟨f6, xk_au y6 u3 (by decide)⟩, ⟨f7, xk_au y7 u3 (by decide)⟩⟩, b', e', xk_au h48 u3 (by decide), xk_au h49 u3 (by decide), h50⟩
    have uBE : xk_u xt_S B2 E3 := xk_t c2 (xk_w u3 fun i (hi : i = 34 ∨ i = 36 ∨ i = 37) => by unfold xt_S; omega)
    refine ⟨0, B2, E3, ?_, ?_, xt_thr hME rfl, ⟨_, _, ?_, xi_Cc hCB (xi_gu uBE (fun i i1 i2 => by unfold xt_S; omega)), hME, ?_⟩, xt_ri (xt_rr A) (uBE.1.trans u.1)⟩
    · rw [xe_rq k1, hcz.1 hg, xe_rq z1, q1, xe_bv, w1]
      rfl
    · rw [xk_rq hMB.1, (hmz B2).1 hg]
      unfold fM_zone_85
      rw [xk_rq hMB.1, c1, xe_bi, xk_b0, e1, xe_bind, d1, xe_bind, xk_rq d2, x1, xe_bv]
    · exact ⟨P1, P2, hF', P4, P5, P6, P7, P8, P9⟩
    · obtain ⟨F0, hF0⟩ := hO
      exact ⟨F0, (uBE.2.2 50 (by unfold xt_S; omega)).trans ((u.2.2 50 (by omega)).trans hF0)⟩
  · obtain ⟨y1, y2, y3⟩ := xt_thC r1 r2 hC
    have hMB : xi_Mg (A.1, A.2.1 - 1, A.2.2 - 6) p ((n, T), (s, m, f, g), (ne, mi, le, D, X), (c, b, e)) := xi_Mc hM (xi_gs y2 (by decide) (by decide))
    obtain ⟨C, c1, c2, c3⟩ := xt_fails hMB (b := 1) (Or.inr rfl)
    refine ⟨1, (A.1, A.2.1 - 1, A.2.2 - 6), C, ?_, ?_, xt_thr c3 rfl, ⟨_, _, hP, xi_Cc y1 (xi_gu c2 (fun i i1 i2 => by unfold xt_S; omega)), c3, ?_⟩, xt_ri y3 c2.1⟩
    · rw [xe_rq k1, hcz.2 hg]
      rfl
    · rw [xk_rq hMB.1, (hmz _).2 hg]
      unfold fM_zone_85
      rw [xk_rq hMB.1, c1, xe_bi, xk_b1]
    · obtain ⟨F0, hF0⟩ := hO
      exact ⟨F0, (c2.2.2 50 (by unfold xt_S; omega)).trans hF0⟩

def xb_Q (s m : Int) (f g : Nat → Int) (ne : Nat) (mi le : Nat → Int) (D X : Nat → List Int) (x l : Int) : Prop := ∃ e, e < ne ∧ xc_P s m f g (mi e) (xp_C (D e) (X e)) x ∧ l = le e
def xb_Qk (s m : Int) (f g : Nat → Int) (e k : Nat) (mi le : Nat → Int) (D X : Nat → List Int) (x l : Int) : Prop := xb_Q s m f g e mi le D X x l ∨ (xc_P s m f g (mi e) (xp_C ((D e).take k) (X e)) x ∧ l = le e)
/-- the reference at rest in a busy -/
def xb_W (A : xj_H) (p : Nat → Value) (s m : Int) (f g : Nat → Int) (ne : Nat) (mi le : Nat → Int) (D X : Nat → List Int) (c : Nat) (b e : Nat → Int) (lo hi : Int) : Prop := xb_M A p c b e ∧ p 3 = .int (xI s) ∧ p 4 = .int (xI m) ∧ p 7 = .int (xI ne) ∧ xk_a A 0 36 100 f ∧ xk_a A 0 37 100 g ∧ xm_T A mi le D X ∧ xb_N b e c ∧ (∀ i, i < c → lo ≤ b i ∧ e i ≤ hi)
theorem xb_mbI {s m : Int} {f g : Nat → Int} (hF : xz_F s m f g) {ne : Nat} {mi le : Nat → Int} {D X : Nat → List Int} (hP : ∀ e, e < 8 → xp_E (D e) (X e)) {lo hi : Int} (l1 : -2147483648 ≤ lo) (l2 : lo ≤ 2147483647) (h1 : -2147483648 ≤ hi) (h2 : hi ≤ 2147483647) {e : Nat} (he : e < 8) (hmi : 0 ≤ mi e ∧ mi e ≤ 1439) (hle : 1 ≤ le e ∧ le e ≤ 2880) {K : xj_Rf → Int32 → Int32 → Int32 → xj_H → Option xj_R} :
    ∀ (q k : Nat) (A : xj_H) (p : Nat → Value) (c : Nat) (b en : Nat → Int), k ≤ (D e).length → (D e).length - k < q → c ≤ 200 * e + k → xb_W A p s m f g ne mi le D X c b en lo hi → (∀ t, xb_I b en c t ↔ xb_U (xb_Qk s m f g e k mi le D X) lo hi t) →
      ∃ (G : xj_H) (p' : Nat → Value) (c' : Nat) (b' en' : Nat → Int), fM_busy_49 K q (xj_o 34) (xI lo) (xI hi) (xI e) (xI k) A = K (xj_o 34) (xI lo) (xI hi) (xI ((e : Int) + 1)) G ∧ xk_u (fun i => i = 34 ∨ i = 48 ∨ i = 49) A G ∧ (∀ j, j ≠ 33 → p' j = p j) ∧ c' ≤ 200 * (e + 1) ∧ xb_W G p' s m f g ne mi le D X c' b' en' lo hi ∧ (∀ t, xb_I b' en' c' t ↔ xb_U (xb_Q s m f g (e + 1) mi le D X) lo hi t)
  | 0, k, _, _, _, _, _, _, h, _, _, _ => by omega
  | q + 1, k, A, p, c, b, en, hk, hq, hck, hW, hU => by
    have hpe := hP e he
    have hD := hpe.2.2.1
    have hW' := hW
    obtain ⟨hM, p3, p4, p7, a36, a37, hT, hN, hr⟩ := hW'
    have hM' := hM
    obtain ⟨m1, m2, m3, m4, m5⟩ := hM'
    have hT' := hT
    obtain ⟨t1, t2, t3, t4, ⟨fd, f1, f2⟩, ⟨fx, g1, g2⟩⟩ := hT'
    rw [fM_busy_49, xm_gr 41 m1 m2 (by decide) (by decide), xe_bind, xk_ai t3 (by omega) (by omega) (by omega), xe_bind, Int.toNat_natCast, xq_le (by omega) (by omega) (by omega) (by omega)]
    by_cases hc : ((D e).length : Int) ≤ k
    · rw [if_pos hc, xl_1, xI_add]
      refine ⟨A, p, c, b, en, rfl, xk_r _ _, fun _ _ => rfl, by omega, hW, fun t => ?_⟩
      rw [hU t]
      have htk : (D e).take k = D e := List.take_of_length_le (by omega)
      constructor
      · rintro ⟨x, l, hx, hx2⟩
        rcases hx with ⟨e', q1, q2⟩ | q1
        · exact ⟨x, l, ⟨e', by omega, q2⟩, hx2⟩
        · rw [htk] at q1
          exact ⟨x, l, ⟨e, by omega, q1⟩, hx2⟩
      · rintro ⟨x, l, ⟨e', q1, q2⟩, hx2⟩
        by_cases ee : e' = e
        · subst ee
          rw [← htk] at q2
          exact ⟨x, l, Or.inr q2, hx2⟩
        · exact ⟨x, l, Or.inl ⟨e', by omega, q2⟩, hx2⟩
    have hk' : (D e)[k]? = some (D e)[k] := List.getElem?_eq_getElem (by omega)
    have hbk := hpe.2.1 _ (List.mem_of_getElem? hk')
    have hg := f2 e he k _ hk'
    simp only at hg
    generalize (D e)[k] = y at *
    have hb := xz_mo_b hF (1440 * y + mi e)
    rw [if_neg hc, xm_gr 40 m1 m2 (by decide) (by decide), xe_bind, xl_200, xI_mul, xI_add, xk_ai f1 (by omega) (by omega) (by omega), xe_bind, show (200 * (e : Int) + k).toNat = 200 * e + k by omega, hg, xm_gr 38 m1 m2 (by decide) (by decide), xe_bind, xk_ai t1 (by omega) (by omega) (by omega), xe_bind, Int.toNat_natCast, xl_1440, xI_mul, xI_add, xk_rq m1, xz_moM m1 p3 p4 (m2 (5, 36) (by decide)) (m2 (6, 37) (by decide)) a36 a37 hF (by omega) (by omega), xe_bi, xm_greatest (by omega) (by omega) (by omega) (by omega), xe_bi, xm_gr 39 m1 m2 (by decide) (by decide), xe_bind, xk_ai t2 (by omega) (by omega) (by omega), xe_bind, Int.toNat_natCast, xI_add, xm_least (by omega) (by omega) (by omega) (by omega), xe_bi]
    rw [show (if xz_mo s m f g (1440 * y + mi e) ≤ lo then lo else xz_mo s m f g (1440 * y + mi e)) = xb_mx (xz_mo s m f g (1440 * y + mi e)) lo from rfl, show (if hi ≤ xz_mo s m f g (1440 * y + mi e) + le e then hi else xz_mo s m f g (1440 * y + mi e) + le e) = xb_mn (xz_mo s m f g (1440 * y + mi e) + le e) hi from rfl]
    have n1 := xb_mx_b (a := xz_mo s m f g (1440 * y + mi e)) (b := lo)
    have n2 := xb_mn_b (a := xz_mo s m f g (1440 * y + mi e) + le e) (b := hi)
    have hstep : ∀ t, xb_U (xb_Qk s m f g e (k + 1) mi le D X) lo hi t ↔ xb_U (xb_Qk s m f g e k mi le D X) lo hi t ∨ (y ∉ X e ∧ xb_mx (xz_mo s m f g (1440 * y + mi e)) lo ≤ t ∧ t < xb_mn (xz_mo s m f g (1440 * y + mi e) + le e) hi) := by
      intro t
      constructor
      · rintro ⟨x, l, hx, hx2⟩
        rcases hx with q1 | ⟨q1, q2⟩
        · exact Or.inl ⟨x, l, Or.inl q1, hx2⟩
        · rcases (xc_Ps hk' x).mp q1 with q3 | ⟨q3, q4⟩
          · exact Or.inl ⟨x, l, Or.inr ⟨q3, q2⟩, hx2⟩
          · subst q4 q2
            exact Or.inr ⟨q3, hx2⟩
      · rintro (⟨x, l, hx, hx2⟩ | ⟨q3, hx2⟩)
        · rcases hx with q1 | ⟨q1, q2⟩
          · exact ⟨x, l, Or.inl q1, hx2⟩
          · exact ⟨x, l, Or.inr ⟨(xc_Ps hk' x).mpr (Or.inl q1), q2⟩, hx2⟩
        · exact ⟨_, _, Or.inr ⟨(xc_Ps hk' _).mpr (Or.inr ⟨q3, rfl⟩), rfl⟩, hx2⟩
    generalize xb_mx (xz_mo s m f g (1440 * y + mi e)) lo = a at *
    generalize xb_mn (xz_mo s m f g (1440 * y + mi e) + le e) hi = z at *
    have skip : ¬ (y ∉ X e ∧ a < z) → ∃ (G : xj_H) (p' : Nat → Value) (c' : Nat) (b' en' : Nat → Int), fM_busy_142 K (fM_busy_49 K q) (xj_o 34) (xI lo) (xI hi) (xI e) (xI k) A = K (xj_o 34) (xI lo) (xI hi) (xI ((e : Int) + 1)) G ∧ xk_u (fun i => i = 34 ∨ i = 48 ∨ i = 49) A G ∧ (∀ j, j ≠ 33 → p' j = p j) ∧ c' ≤ 200 * (e + 1) ∧ xb_W G p' s m f g ne mi le D X c' b' en' lo hi ∧ (∀ t, xb_I b' en' c' t ↔ xb_U (xb_Q s m f g (e + 1) mi le D X) lo hi t) := by
      intro hn
      rw [fM_busy_142, xl_1, xI_add]
      refine xb_mbI hF hP l1 l2 h1 h2 he hmi hle q (k + 1) A p c b en (by omega) (by omega) (by omega) hW fun t => ?_
      rw [hU t, hstep t]
      exact ⟨Or.inl, fun h => h.elim id fun h => absurd ⟨h.1, by omega⟩ hn⟩
    rw [xq_le (by omega) (by omega) (by omega) (by omega)]
    by_cases hza : z ≤ a
    · rw [if_pos hza]
      exact skip fun h => by omega
    rw [if_neg hza, xk_rq m1, xm_isEx m1 m2 hT he (by omega) (by omega) hpe, xe_bi]
    by_cases hy : y ∈ X e
    · have e2 : xm_b (X e) y = 1 := if_pos hy
      rw [e2, xk_n1]
      exact skip fun h => h.1 hy
    have e2 : xm_b (X e) y = 0 := if_neg hy
    obtain ⟨G, c', b', en', j1, j2, j3, j4, j5, j6, j7⟩ := xb_jo hM hN (by omega) l1 h2 (show a < z by omega) (by omega) (by omega) hr
    rw [e2, xk_n0, xk_rq m1, j1, xe_bv, fM_busy_142, xl_1, xI_add]
    obtain ⟨H, p', c'', b'', en'', r1, r2, r3, r4⟩ := xb_mbI (K := K) hF hP l1 l2 h1 h2 he hmi hle q (k + 1) G _ c' b' en' (by omega) (by omega) (by omega)
      ⟨j3, (xk_p_n _ _ (by decide)).trans p3, (xk_p_n _ _ (by decide)).trans p4, (xk_p_n _ _ (by decide)).trans p7, xk_au a36 j2 (by decide), xk_au a37 j2 (by decide), xm_Tu hT j2 (fun i i1 i2 => by omega), j4, j6⟩
      (fun t => by
        rw [j7 t, hU t, hstep t]
        exact or_congr Iff.rfl ⟨fun h => ⟨hy, h⟩, fun h => h.2⟩)
    exact ⟨H, p', c'', b'', en'', r1, xk_t j2 r2, fun j hj => (r3 j hj).trans (xk_p_n _ _ hj), r4⟩
theorem xb_mbO {s m : Int} {f g : Nat → Int} (hF : xz_F s m f g) {ne : Nat} (hne : ne ≤ 8) {mi le : Nat → Int} {D X : Nat → List Int} (hP : ∀ e, e < 8 → xp_E (D e) (X e)) {lo hi : Int} (l1 : -2147483648 ≤ lo) (l2 : lo ≤ 2147483647) (h1 : -2147483648 ≤ hi) (h2 : hi ≤ 2147483647) (hmi : ∀ e, e < ne → 0 ≤ mi e ∧ mi e ≤ 1439) (hle : ∀ e, e < ne → 1 ≤ le e ∧ le e ≤ 2880) :
    ∀ (q e : Nat) (A : xj_H) (p : Nat → Value) (c : Nat) (b en : Nat → Int), e ≤ ne → ne - e < q → c ≤ 200 * e → xb_W A p s m f g ne mi le D X c b en lo hi → (∀ t, xb_I b en c t ↔ xb_U (xb_Q s m f g e mi le D X) lo hi t) →
      ∃ (G : xj_H) (p' : Nat → Value) (c' : Nat) (b' en' : Nat → Int), fM_busy_38 q (xj_o 34) (xI lo) (xI hi) (xI e) A = some (.inl (some (.int (xI c'))), G) ∧ xk_u (fun i => i = 34 ∨ i = 48 ∨ i = 49) A G ∧ (∀ j, j ≠ 33 → p' j = p j) ∧ c' ≤ 1600 ∧ xb_W G p' s m f g ne mi le D X c' b' en' lo hi ∧ (∀ t, xb_I b' en' c' t ↔ xb_U (xb_Q s m f g ne mi le D X) lo hi t)
  | 0, e, _, _, _, _, _, _, h, _, _, _ => by omega
  | q + 1, e, A, p, c, b, en, he, hq, hc, hW, hU => by
    have hW' := hW
    obtain ⟨⟨m1, m2, m3, m4, m5⟩, p3, p4, p7, a36, a37, hT, hN, hr⟩ := hW'
    rw [fM_busy_38, xk_gi m1 p7 (by decide), xe_bind, xq_le (by omega) (by omega) (by omega) (by omega)]
    by_cases hen : (ne : Int) ≤ e
    · rw [if_pos hen, xk_gi m1 m3 (by decide), xe_bind]
      rw [show e = ne by omega] at hU
      exact ⟨A, p, c, b, en, rfl, xk_r _ _, fun _ _ => rfl, by omega, hW, hU⟩
    have hD := (hP e (by omega)).2.2.1
    rw [if_neg hen, xl_0]
    obtain ⟨G, p', c', b', en', r1, r2, r3, r4, r5, r6⟩ := xb_mbI (K := fM_busy_38 q) hF hP l1 l2 h1 h2 (by omega) (hmi e (by omega)) (hle e (by omega)) xj_fu 0 A p c b en (by omega) (by unfold xj_fu; omega) (by omega) hW (fun t => by
      rw [hU t]
      constructor
      · rintro ⟨x, l, hx, hx2⟩; exact ⟨x, l, Or.inl hx, hx2⟩
      · rintro ⟨x, l, hx, hx2⟩
        rcases hx with q1 | ⟨⟨d, d1, _⟩, _⟩
        · exact ⟨x, l, q1, hx2⟩
        · simp [xp_C] at d1)
    rw [show ((0 : Nat) : Int) = 0 from rfl] at r1
    rw [r1]
    obtain ⟨H, p'', c'', b'', en'', v1, v2, v3, v4⟩ := xb_mbO hF hne hP l1 l2 h1 h2 hmi hle q (e + 1) G p' c' b' en' (by omega) (by omega) r4 r5 r6
    exact ⟨H, p'', c'', b'', en'', v1, xk_t r2 v2, fun j hj => (v3 j hj).trans (r3 j hj), v4⟩

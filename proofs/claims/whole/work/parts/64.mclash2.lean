theorem xm_clO {A : xj_H} {p : Nat → Value} (h : xk_o A 34 7 36 p) (hR : xm_R p) {mi le : Nat → Int} {D X : Nat → List Int} (hT : xm_T A mi le D X) (hP : ∀ e, e < 8 → xp_E (D e) (X e)) {s m : Int} {f g : Nat → Int} (p3 : p 3 = .int (xI s)) (p4 : p 4 = .int (xI m)) (hb : xk_a A 0 36 100 f) (he : xk_a A 0 37 100 g) (hF : xz_F s m f g) {a b : Nat} (ha : a < 8) (hbb : b < 8) (ma : 0 ≤ mi a ∧ mi a ≤ 1439) (mb : 0 ≤ mi b ∧ mi b ≤ 1439) (la : 1 ≤ le a ∧ le a ≤ 2880) (lb : 1 ≤ le b ∧ le b ≤ 2880) :
    ∀ (q k : Nat) (best : Int) (fb : Int32), k ≤ (D a).length → (D a).length - k < q → -2000000000 ≤ best → best ≤ 2000000000 →
      xc_F (xc_W (xc_P s m f g (mi a) (xp_C ((D a).take k) (X a))) (xc_P s m f g (mi b) (xp_C (D b) (X b))) (le a) (le b)) best fb →
      ∃ r, xc_R (xc_W (xc_P s m f g (mi a) (xp_C (D a) (X a))) (xc_P s m f g (mi b) (xp_C (D b) (X b))) (le a) (le b)) r ∧ fM_clash_46 q (xj_o 34) (xI a) (xI b) (xI best) fb (xI k) A = some (.inl (some (.int (xI r))), A)
  | 0, k, _, _, _, h, _, _, _ => by omega
  | q + 1, k, best, fb, hk, hq, hb1, hb2, hW => by
    have hT' := hT
    obtain ⟨t1, t2, t3, t4, ⟨fd, f1, f2⟩, ⟨fx, g1, g2⟩⟩ := hT'
    have hpe := hP a ha
    have hD := hpe.2.2.1
    have hDb := (hP b hbb).2.2.1
    rw [fM_clash_46, xm_gr 41 h hR (by decide) (by decide), xe_bind, xk_ai t3 (by omega) (by omega) (by omega), xe_bind, Int.toNat_natCast, xq_le (by omega) (by omega) (by omega) (by omega)]
    by_cases hc : ((D a).length : Int) ≤ k
    · rw [if_pos hc]
      rw [show (D a).take k = D a from List.take_of_length_le (by omega)] at hW
      rcases hW with ⟨_, w2, w3⟩ | ⟨_, w2⟩
      · exact ⟨best, Or.inl ⟨w2, w3⟩, rfl⟩
      · exact ⟨best, Or.inr w2, rfl⟩
    have hk' : (D a)[k]? = some (D a)[k] := List.getElem?_eq_getElem (by omega)
    have hbk := hpe.2.1 _ (List.mem_of_getElem? hk')
    have hg := f2 a ha k _ hk'
    simp only at hg
    generalize (D a)[k] = y at *
    rw [if_neg hc, xm_gr 40 h hR (by decide) (by decide), xe_bind, xl_200, xI_mul, xI_add, xk_ai f1 (by omega) (by omega) (by omega), xe_bind, show (200 * (a : Int) + k).toNat = 200 * a + k by omega, hg, xm_gr 38 h hR (by decide) (by decide), xe_bind, xk_ai t1 (by omega) (by omega) (by omega), xe_bind, Int.toNat_natCast, xl_1440, xI_mul, xI_add, xk_rq h, xz_moM h p3 p4 (hR (5, 36) (by decide)) (hR (6, 37) (by decide)) hb he hF (by omega) (by omega), xe_bi]
    obtain ⟨best', fb', r1, r2, r3, r4⟩ := xm_clI (K := fM_clash_46 q) (i := k) (W := xc_W (xc_P s m f g (mi a) (xp_C ((D a).take k) (X a))) (xc_P s m f g (mi b) (xp_C (D b) (X b))) (le a) (le b)) h hR hT hP p3 p4 hb he hF ha hbb ma mb la lb hbk.1 hbk.2 xj_fu 0 best fb (by omega) (by unfold xj_fu; omega) hb1 hb2
      (xc_F_c (fun t => ⟨Or.inl, fun h => h.elim id fun ⟨_, y, ⟨d, d1, _⟩, _⟩ => by simp [xp_C] at d1⟩) hW)
    rw [xl_0]
    rw [show ((0 : Nat) : Int) = 0 from rfl] at r1
    rw [r1]
    refine xm_clO h hR hT hP p3 p4 hb he hF ha hbb ma mb la lb q (k + 1) best' fb' (by omega) (by omega) r2 r3 (xc_F_c (fun t => ?_) r4)
    constructor
    · rintro (⟨x, z, h1, h2⟩ | ⟨h1, z, h2, h3⟩)
      · exact ⟨x, z, (xc_Ps hk' x).mpr (Or.inl h1), h2⟩
      · exact ⟨_, z, (xc_Ps hk' _).mpr (Or.inr ⟨h1, rfl⟩), h2, h3⟩
    · rintro ⟨x, z, h1, h2, h3⟩
      rcases (xc_Ps hk' x).mp h1 with h8 | ⟨h9, rfl⟩
      · exact Or.inl ⟨x, z, h8, h2, h3⟩
      · exact Or.inr ⟨h9, z, h2, h3⟩
theorem xm_clash {A : xj_H} {p : Nat → Value} (h : xk_o A 34 7 36 p) (hR : xm_R p) {mi le : Nat → Int} {D X : Nat → List Int} (hT : xm_T A mi le D X) (hP : ∀ e, e < 8 → xp_E (D e) (X e)) {s m : Int} {f g : Nat → Int} (p3 : p 3 = .int (xI s)) (p4 : p 4 = .int (xI m)) (hb : xk_a A 0 36 100 f) (he : xk_a A 0 37 100 g) (hF : xz_F s m f g) {a b : Nat} (ha : a < 8) (hbb : b < 8) (ma : 0 ≤ mi a ∧ mi a ≤ 1439) (mb : 0 ≤ mi b ∧ mi b ≤ 1439) (la : 1 ≤ le a ∧ le a ≤ 2880) (lb : 1 ≤ le b ∧ le b ≤ 2880) :
    ∃ r, xc_R (xc_W (xc_P s m f g (mi a) (xp_C (D a) (X a))) (xc_P s m f g (mi b) (xp_C (D b) (X b))) (le a) (le b)) r ∧ fM_clash_46 xj_fu (xj_o 34) (xI a) (xI b) (-1) 0 0 A = some (.inl (some (.int (xI r))), A) := by
  have hD := (hP a ha).2.2.1
  obtain ⟨r, r1, r2⟩ := xm_clO h hR hT hP p3 p4 hb he hF ha hbb ma mb la lb xj_fu 0 (-1) (xI 0) (by omega) (by unfold xj_fu; omega) (by omega) (by omega) (Or.inl ⟨rfl, rfl, fun t ⟨x, y, ⟨d, d1, _⟩, _⟩ => by simp [xp_C] at d1⟩)
  rw [show ((0 : Nat) : Int) = 0 from rfl] at r2
  refine ⟨r, r1, ?_⟩
  rw [xl_m1, xl_0]
  exact r2

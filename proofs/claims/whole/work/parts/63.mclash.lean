/-! The reference's clash. -/
def xc_F (W : Int → Prop) (best : Int) (fb : Int32) : Prop := (fb = 0 ∧ best = -1 ∧ ∀ t, ¬ W t) ∨ (fb = 1 ∧ W best ∧ ∀ t, W t → best ≤ t)
theorem xc_F_c {W V : Int → Prop} (h : ∀ t, W t ↔ V t) {r : Int} {b : Int32} (k : xc_F W r b) : xc_F V r b := by
  rcases k with ⟨k1, k2, k3⟩ | ⟨k1, k2, k3⟩
  · exact Or.inl ⟨k1, k2, fun t ht => k3 t ((h t).mpr ht)⟩
  · exact Or.inr ⟨k1, (h r).mp k2, fun t ht => k3 t ((h t).mpr ht)⟩
theorem xp_Cs1 {D X : List Int} {k : Nat} {a : Int} (h : D[k]? = some a) (y : Int) : y ∈ xp_C (D.take (k + 1)) X ↔ y ∈ xp_C (D.take k) X ∨ (y = a ∧ a ∉ X) := by
  rw [xp_Cm, xp_Cm, List.take_add_one, h]
  constructor
  · rintro ⟨h1, h2⟩
    rcases List.mem_append.mp h1 with h1 | h1
    · exact Or.inl ⟨h1, h2⟩
    · have : y = a := by simpa using h1
      subst this
      exact Or.inr ⟨rfl, h2⟩
  · rintro (⟨h1, h2⟩ | ⟨rfl, h2⟩)
    · exact ⟨List.mem_append.mpr (Or.inl h1), h2⟩
    · exact ⟨List.mem_append.mpr (Or.inr (by simp)), h2⟩
theorem xc_Ps {s m : Int} {f g : Nat → Int} {mi : Int} {D X : List Int} {k : Nat} {a : Int} (h : D[k]? = some a) (x : Int) : xc_P s m f g mi (xp_C (D.take (k + 1)) X) x ↔ xc_P s m f g mi (xp_C (D.take k) X) x ∨ (a ∉ X ∧ x = xz_mo s m f g (1440 * a + mi)) := by
  unfold xc_P
  constructor
  · rintro ⟨d, d1, d2⟩
    rcases (xp_Cs1 h d).mp d1 with d1 | ⟨rfl, d1⟩
    · exact Or.inl ⟨d, d1, d2⟩
    · exact Or.inr ⟨d1, d2⟩
  · rintro (⟨d, d1, d2⟩ | ⟨d1, d2⟩)
    · exact ⟨d, (xp_Cs1 h d).mpr (Or.inl d1), d2⟩
    · exact ⟨a, (xp_Cs1 h a).mpr (Or.inr ⟨rfl, d1⟩), d2⟩
/-- the pairs of one time with the other event's first times -/
def xc_V (bad : Prop) (x : Int) (Q : Int → Prop) (la lb t : Int) : Prop := ¬ bad ∧ ∃ y, Q y ∧ y < x + la ∧ x < y + lb ∧ t = if x ≤ y then y else x
theorem xm_clI {A : xj_H} {p : Nat → Value} (h : xk_o A 34 7 36 p) (hR : xm_R p) {mi le : Nat → Int} {D X : Nat → List Int} (hT : xm_T A mi le D X) (hP : ∀ e, e < 8 → xp_E (D e) (X e)) {s m : Int} {f g : Nat → Int} (p3 : p 3 = .int (xI s)) (p4 : p 4 = .int (xI m)) (hb : xk_a A 0 36 100 f) (he : xk_a A 0 37 100 g) (hF : xz_F s m f g) {a b : Nat} (ha : a < 8) (hbb : b < 8) (ma : 0 ≤ mi a ∧ mi a ≤ 1439) (mb : 0 ≤ mi b ∧ mi b ≤ 1439) (la : 1 ≤ le a ∧ le a ≤ 2880) (lb : 1 ≤ le b ∧ le b ≤ 2880) {K : xj_Rf → Int32 → Int32 → Int32 → Int32 → Int32 → xj_H → Option xj_R} {day : Int} (d0 : 0 ≤ day) (d1 : day ≤ 36524) {i : Int} {W : Int → Prop} :
    ∀ (q k : Nat) (best : Int) (fb : Int32), k ≤ (D b).length → (D b).length - k < q → -2000000000 ≤ best → best ≤ 2000000000 →
      xc_F (fun t => W t ∨ xc_V (day ∈ X a) (xz_mo s m f g (1440 * day + mi a)) (xc_P s m f g (mi b) (xp_C ((D b).take k) (X b))) (le a) (le b) t) best fb →
      ∃ best' fb', fM_clash_94 K q (xj_o 34) (xI a) (xI b) (xI best) fb (xI i) (xI day) (xI (xz_mo s m f g (1440 * day + mi a))) (xI k) A = K (xj_o 34) (xI a) (xI b) (xI best') fb' (xI (i + 1)) A ∧ -2000000000 ≤ best' ∧ best' ≤ 2000000000 ∧
        xc_F (fun t => W t ∨ xc_V (day ∈ X a) (xz_mo s m f g (1440 * day + mi a)) (xc_P s m f g (mi b) (xp_C (D b) (X b))) (le a) (le b) t) best' fb'
  | 0, k, _, _, _, h, _, _, _ => by omega
  | q + 1, k, best, fb, hk, hq, hb1, hb2, hW => by
    have hT' := hT
    obtain ⟨t1, t2, t3, t4, ⟨fd, f1, f2⟩, ⟨fx, g1, g2⟩⟩ := hT'
    have hpe := hP b hbb
    have hD := hpe.2.2.1
    have bm := xz_mo_b hF (1440 * day + mi a)
    rw [fM_clash_94, xm_gr 41 h hR (by decide) (by decide), xe_bind, xk_ai t3 (by omega) (by omega) (by omega), xe_bind, Int.toNat_natCast, xq_le (by omega) (by omega) (by omega) (by omega)]
    by_cases hc : ((D b).length : Int) ≤ k
    · rw [if_pos hc, fM_clash_268, xl_1, xI_add]
      rw [show (D b).take k = D b from List.take_of_length_le (by omega)] at hW
      exact ⟨best, fb, rfl, hb1, hb2, hW⟩
    rw [if_neg hc, xk_rq h, xm_isEx h hR hT ha (by omega) (by omega) (hP a ha), xe_bi]
    by_cases hx : day ∈ X a
    · have e1 : xm_b (X a) day = 1 := if_pos hx
      rw [e1, xk_n1, fM_clash_268, xl_1, xI_add]
      exact ⟨best, fb, rfl, hb1, hb2, xc_F_c (fun t => or_congr Iff.rfl ⟨fun h => absurd hx h.1, fun h => absurd hx h.1⟩) hW⟩
    have e1 : xm_b (X a) day = 0 := if_neg hx
    have hk' : (D b)[k]? = some (D b)[k] := List.getElem?_eq_getElem (by omega)
    have hbk := hpe.2.1 _ (List.mem_of_getElem? hk')
    have hg := f2 b hbb k _ hk'
    simp only at hg
    generalize (D b)[k] = y at *
    have hstep : ∀ t, (W t ∨ xc_V (day ∈ X a) (xz_mo s m f g (1440 * day + mi a)) (xc_P s m f g (mi b) (xp_C ((D b).take (k + 1)) (X b))) (le a) (le b) t) ↔ (W t ∨ xc_V (day ∈ X a) (xz_mo s m f g (1440 * day + mi a)) (xc_P s m f g (mi b) (xp_C ((D b).take k) (X b))) (le a) (le b) t) ∨ (y ∉ X b ∧ xz_mo s m f g (1440 * y + mi b) < xz_mo s m f g (1440 * day + mi a) + le a ∧ xz_mo s m f g (1440 * day + mi a) < xz_mo s m f g (1440 * y + mi b) + le b ∧ t = if xz_mo s m f g (1440 * day + mi a) ≤ xz_mo s m f g (1440 * y + mi b) then xz_mo s m f g (1440 * y + mi b) else xz_mo s m f g (1440 * day + mi a)) := by
      intro t
      unfold xc_V
      constructor
      · rintro (h1 | ⟨h1, z, h2, h3⟩)
        · exact Or.inl (Or.inl h1)
        · rcases (xc_Ps hk' z).mp h2 with h8 | ⟨h9, rfl⟩
          · exact Or.inl (Or.inr ⟨h1, z, h8, h3⟩)
          · exact Or.inr ⟨h9, h3⟩
      · rintro ((h1 | ⟨h1, z, h2, h3⟩) | ⟨h2, h3⟩)
        · exact Or.inl h1
        · exact Or.inr ⟨h1, z, (xc_Ps hk' z).mpr (Or.inl h2), h3⟩
        · exact Or.inr ⟨hx, _, (xc_Ps hk' _).mpr (Or.inr ⟨h2, rfl⟩), h3⟩
    have by_ := xz_mo_b hF (1440 * y + mi b)
    have skip : ¬ (y ∉ X b ∧ xz_mo s m f g (1440 * y + mi b) < xz_mo s m f g (1440 * day + mi a) + le a ∧ xz_mo s m f g (1440 * day + mi a) < xz_mo s m f g (1440 * y + mi b) + le b) → ∃ best' fb', fM_clash_262 K (fM_clash_94 K q) (xj_o 34) (xI a) (xI b) (xI best) fb (xI i) (xI day) (xI (xz_mo s m f g (1440 * day + mi a))) (xI k) A = K (xj_o 34) (xI a) (xI b) (xI best') fb' (xI (i + 1)) A ∧ -2000000000 ≤ best' ∧ best' ≤ 2000000000 ∧
        xc_F (fun t => W t ∨ xc_V (day ∈ X a) (xz_mo s m f g (1440 * day + mi a)) (xc_P s m f g (mi b) (xp_C (D b) (X b))) (le a) (le b) t) best' fb' := by
      intro hn
      rw [fM_clash_262, xl_1, xI_add]
      refine xm_clI h hR hT hP p3 p4 hb he hF ha hbb ma mb la lb d0 d1 q (k + 1) best fb (by omega) (by omega) hb1 hb2 (xc_F_c (fun t => ?_) hW)
      rw [hstep t]
      exact ⟨Or.inl, fun h => h.elim id fun h => absurd ⟨h.1, h.2.1, h.2.2.1⟩ hn⟩
    rw [e1, xk_n0, xm_gr 40 h hR (by decide) (by decide), xe_bind, xl_200, xI_mul, xI_add, xk_ai f1 (by omega) (by omega) (by omega), xe_bind, show (200 * (b : Int) + k).toNat = 200 * b + k by omega, hg, xl_4, xI_add, xI_sub, xq_lt (by omega) (by omega) (by omega) (by omega), xq_lt (by omega) (by omega) (by omega) (by omega)]
    by_cases c1 : day + 4 < y
    · rw [if_pos c1]
      exact skip fun h => by omega
    rw [if_neg c1]
    by_cases c2 : y < day - 4
    · rw [if_pos c2]
      exact skip fun h => by omega
    rw [if_neg c2, xk_rq h, xm_isEx h hR hT hbb (by omega) (by omega) hpe, xe_bi]
    by_cases hy : y ∈ X b
    · have e2 : xm_b (X b) y = 1 := if_pos hy
      rw [e2, xk_b1]
      exact skip fun h => h.1 hy
    have e2 : xm_b (X b) y = 0 := if_neg hy
    rw [e2, xk_b0, xm_gr 38 h hR (by decide) (by decide), xe_bind, xk_ai t1 (by omega) (by omega) (by omega), xe_bind, Int.toNat_natCast, xl_1440, xI_mul, xI_add, xk_rq h, xz_moM h p3 p4 (hR (5, 36) (by decide)) (hR (6, 37) (by decide)) hb he hF (by omega) (by omega), xe_bi, xm_greatest (by omega) (by omega) (by omega) (by omega), xe_bi, xm_gr 39 h hR (by decide) (by decide), xe_bind, xk_ai t2 (by omega) (by omega) (by omega), xe_bind, xe_bind, xk_ai t2 (by omega) (by omega) (by omega), xe_bind, Int.toNat_natCast, Int.toNat_natCast, xI_add, xI_add, xm_least (by omega) (by omega) (by omega) (by omega), xe_bi]
    have ihq := fun best' g1 g2 => xm_clI (K := K) (i := i) (W := W) h hR hT hP p3 p4 hb he hF ha hbb ma mb la lb d0 d1 q (k + 1) best' 1 (by omega) (by omega) g1 g2
    generalize xz_mo s m f g (1440 * y + mi b) = v at *
    generalize xz_mo s m f g (1440 * day + mi a) = u at *
    by_cases c3 : v < u + le a ∧ u < v + le b
    · have hlt : ¬ ((if v + le b ≤ u + le a then v + le b else u + le a) ≤ if u ≤ v then v else u) := by
        split <;> split <;> omega
      have hmx : -2000000000 ≤ (if u ≤ v then v else u) ∧ (if u ≤ v then v else u) ≤ 2000000000 := by split <;> omega
      have hmn : -2147483648 ≤ (if v + le b ≤ u + le a then v + le b else u + le a) ∧ (if v + le b ≤ u + le a then v + le b else u + le a) ≤ 2147483647 := by split <;> omega
      rw [xq_le hmn.1 hmn.2 (by omega) (by omega), if_neg hlt]
      generalize hx9 : (if u ≤ v then v else u) = x at *
      have fin : ∀ (best' : Int), -2000000000 ≤ best' → best' ≤ 2000000000 → (best' = x ∨ W best' ∨ xc_V (day ∈ X a) u (xc_P s m f g (mi b) (xp_C ((D b).take k) (X b))) (le a) (le b) best') → best' ≤ x → (∀ t, (W t ∨ xc_V (day ∈ X a) u (xc_P s m f g (mi b) (xp_C ((D b).take k) (X b))) (le a) (le b) t) → best' ≤ t) → ∃ best'' fb', fM_clash_255 K (fM_clash_94 K q) (xj_o 34) (xI a) (xI b) (xI best') (xI i) (xI day) (xI u) (xI k) A = K (xj_o 34) (xI a) (xI b) (xI best'') fb' (xI (i + 1)) A ∧ -2000000000 ≤ best'' ∧ best'' ≤ 2000000000 ∧
          xc_F (fun t => W t ∨ xc_V (day ∈ X a) u (xc_P s m f g (mi b) (xp_C (D b) (X b))) (le a) (le b) t) best'' fb' := by
        intro best' g1 g2 g3 g4 g5
        rw [fM_clash_255, fM_clash_260, fM_clash_262, xl_1, xI_add]
        refine ihq best' g1 g2 (Or.inr ⟨rfl, (hstep best').mpr ?_, fun t ht => ?_⟩)
        · rcases g3 with rfl | g3
          · exact Or.inr ⟨hy, c3.1, c3.2, rfl⟩
          · exact Or.inl g3
        · rcases (hstep t).mp ht with h1 | ⟨_, _, _, h1⟩
          · exact g5 t h1
          · rw [h1]; exact g4
      rw [fM_clash_220, xk_b1]
      rcases hW with ⟨rfl, w2, w3⟩ | ⟨rfl, w2, w3⟩
      · rw [xk_b0, fM_clash_238, fM_clash_244, xk_n0, xk_b1]
        exact fin x hmx.1 hmx.2 (Or.inl rfl) (by omega) (fun t ht => absurd ht (w3 t))
      · rw [xk_b1, xq_le (by omega) (by omega) (by omega) (by omega)]
        by_cases c4 : best ≤ x
        · rw [if_pos c4, fM_clash_243, fM_clash_244, xk_n1]
          exact fin best hb1 hb2 (Or.inr w2) c4 w3
        · rw [if_neg c4, fM_clash_238, fM_clash_244, xk_n1]
          exact fin x hmx.1 hmx.2 (Or.inl rfl) (by omega) (fun t ht => by have := w3 t ht; omega)
    · have hle : ((if v + le b ≤ u + le a then v + le b else u + le a) ≤ if u ≤ v then v else u) := by
        split <;> split <;> omega
      have hmx : -2147483648 ≤ (if u ≤ v then v else u) ∧ (if u ≤ v then v else u) ≤ 2147483647 := by split <;> omega
      have hmn : -2147483648 ≤ (if v + le b ≤ u + le a then v + le b else u + le a) ∧ (if v + le b ≤ u + le a then v + le b else u + le a) ≤ 2147483647 := by split <;> omega
      rw [xq_le hmn.1 hmn.2 hmx.1 hmx.2, if_pos hle, fM_clash_220, xk_b0, fM_clash_243, fM_clash_244]
      have hs := skip fun h => c3 h.2
      rcases hW with ⟨rfl, w2, w3⟩ | ⟨rfl, w2, w3⟩
      · rw [xk_n0, xk_b0, fM_clash_260]
        exact hs
      · rw [xk_n1, fM_clash_255, fM_clash_260]
        exact hs

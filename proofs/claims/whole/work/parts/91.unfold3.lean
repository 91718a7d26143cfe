/-! The class unfolds months and years. -/
theorem xf_mI {o ru rw : Nat} {d : xr_D} {s m0 : Int} (hd : xf_dis o ru rw) (hok : xr_ok d) (s0 : 0 ≤ s) (s1 : s ≤ 36524) (hm00 : 0 ≤ m0) (hm01 : m0 ≤ 1200) {m : Int} (hm0 : 0 ≤ m) (hm1 : m ≤ 1199) {like : Int32} (hlk : xf_bb like (d.2.2.2.2.2.1 = [] ∧ d.2.2.2.2.2.2 = []))
    (hP : ∀ t, xd_mo t m → t ≤ xf_u0 d → (xf_P d s m0 t ↔ xf_D d s m0 t m)) :
    ∀ (q z n : Nat) (A : xj_H) (D : List Int), (n : Int) + q = xf_ml m + 1 → 1 ≤ n → q < z → xf_K A o ru rw d s m0 D m (xd_ms m + n - 2) →
      ∃ B D', fU_addMonth_41 z (xj_o o) like (xI n) A = some (.inl none, B) ∧ xk_u (xf_S2 o rw) A B ∧ xf_K B o ru rw d s m0 D' m (xd_ms (m + 1) - 1)
  | _, 0, _, _, _, _, _, h, _ => by omega
  | q, z + 1, n, A, D, hq, hn1, hz, hK => by
    have hml : xf_ml m = xd_ms (m + 1) - xd_ms m := rfl
    have hb2 := xd_lt hm0
    have hb1 := xd_ms_b (m := m) hm0 (by omega)
    have hb3 := xd_ms_b (m := m0) hm00 (by omega)
    have hb4 := xd_mono' (m := m) (n := 1200) hm0 (by omega)
    have hz1 := xz_1200
    have hu := xf_u0b hok
    obtain ⟨hU, hi⟩ := id hK
    obtain ⟨⟨b, h1, h2⟩, _⟩ := id hU
    rw [fU_addMonth_41, xe_gi h1 rfl, xe_bind, xq_lt (by omega) (by omega) (by omega) (by omega)]
    match q, hq, hz with
    | 0, hq, hz =>
      rw [if_pos (by omega)]
      refine ⟨A, D, rfl, xk_r _ _, ?_⟩
      rw [show xd_ms (m + 1) - 1 = xd_ms m + n - 2 by omega]
      exact hK
    | q + 1, hq, hz =>
      have hmo : xd_mo (xd_ms m + n - 1) m := ⟨hm0, by omega, by omega⟩
      have hP' := hP _ hmo
      have go : ∀ (C : xj_H) (D' : List Int), xk_u (xf_S2 o rw) A C → xf_K C o ru rw d s m0 D' m (xd_ms m + n - 1) → ∃ B D', fU_addMonth_89 (fU_addMonth_41 z) (xj_o o) like (xI n) C = some (.inl none, B) ∧ xk_u (xf_S2 o rw) A B ∧ xf_K B o ru rw d s m0 D' m (xd_ms (m + 1) - 1) := by
        intro C D' u hC
        unfold fU_addMonth_89
        rw [xl_1, xI_add]
        obtain ⟨E, D2, e1, e2, e3⟩ := xf_mI hd hok s0 s1 hm00 hm01 hm0 hm1 hlk hP q z (n + 1) C D' (by omega) (by omega) (by omega) (by rw [show xd_ms m + ((n + 1 : Nat) : Int) - 2 = xd_ms m + n - 1 by omega]; exact hC)
        rw [show ((n + 1 : Nat) : Int) = (n : Int) + 1 from rfl] at e1
        exact ⟨E, D2, e1, xk_t u e2, e3⟩
      have skip : ¬ xf_P d s m0 (xd_ms m + n - 1) → xf_K A o ru rw d s m0 D m (xd_ms m + n - 1) := fun hn => ⟨hU, xf_skip hi (by omega) fun t t1 t2 t3 => by rw [show t = xd_ms m + n - 1 by omega]; exact hn⟩
      have addd : (xf_D d s m0 (xd_ms m + n - 1) m) → ∃ B D', fU_addMonth_83 (fU_addMonth_41 z) (xj_o o) like (xI n) (xI (xd_ms m + n - 1)) A = some (.inl none, B) ∧ xk_u (xf_S2 o rw) A B ∧ xf_K B o ru rw d s m0 D' m (xd_ms (m + 1) - 1) := by
        intro hD
        obtain ⟨C, D', w1, w2, w3⟩ := xf_ad hd hok hK s0 s1 (y := xd_ms m + n - 1) (by omega) (by omega) (by omega) (fun t t1 t2 t3 => by omega) (fun _ hyu => (hP' hyu).mpr hD)
        unfold fU_addMonth_83
        rw [xe_rq h1, w1, xe_bv]
        exact go C D' w2 w3
      rw [if_neg (by omega), xe_gi h1 rfl, xe_bind, xI_add, xl_1, xI_sub]
      rcases hlk with ⟨rfl, hl1, hl2⟩ | ⟨rfl, hl⟩
      · rw [xk_b1, xe_gi h1 rfl, xe_bind, xq_ne (by omega) (by omega) (by omega) (by omega)]
        by_cases hn : (n : Int) = s - xd_ms m0 + 1
        · rw [if_pos hn]
          exact addd (Or.inl ⟨hl1, hl2, by omega⟩)
        · rw [if_neg hn]
          refine go A D (xk_r _ _) (skip fun h => ?_)
          rcases (hP' h.1).mp h with ⟨_, _, h⟩ | ⟨h, _⟩
          · omega
          · exact h ⟨hl1, hl2⟩
      · rw [xk_b0]
        obtain ⟨b'', q1, q2⟩ := xf_meant hok hU hmo (by omega)
        rw [xe_rq h1, q1, xe_bi]
        rcases q2 with ⟨rfl, q3⟩ | ⟨rfl, q3⟩
        · rw [xk_b1]
          exact addd (Or.inr ⟨hl, q3⟩)
        · rw [xk_b0]
          refine go A D (xk_r _ _) (skip fun h => ?_)
          rcases (hP' h.1).mp h with ⟨h1, h2, _⟩ | ⟨_, h⟩
          · exact hl ⟨h1, h2⟩
          · exact q3 h
theorem xf_mM {o ru rw : Nat} {d : xr_D} {s m0 : Int} (hd : xf_dis o ru rw) (hok : xr_ok d) (s0 : 0 ≤ s) (s1 : s ≤ 36524) (hm00 : 0 ≤ m0) (hm01 : m0 ≤ 1200) {m : Int} (hm0 : 0 ≤ m) (hm1 : m ≤ 1199)
    (hP : ∀ t, xd_mo t m → t ≤ xf_u0 d → (xf_P d s m0 t ↔ xf_M d.2.2.2.2.1 m ∧ xf_D d s m0 t m)) {A : xj_H} {D : List Int} {m' : Int} (hK : xf_K A o ru rw d s m0 D m' (xd_ms m - 1)) :
    ∃ B D', fU_addMonth (xj_o o) (xI m) A = some (.inl none, B) ∧ xk_u (xf_S2 o rw) A B ∧ xf_K B o ru rw d s m0 D' m (xd_ms (m + 1) - 1) := by
  have hml : xf_ml m = xd_ms (m + 1) - xd_ms m := rfl
  have hb2 := xd_lt hm0
  obtain ⟨⟨⟨b, h1, h2⟩, h3, h4, h5, h6, h7⟩, hi⟩ := hK
  obtain ⟨B, b1, b2, b3⟩ := xf_ent hd hok h1 h3 h4 h5 (m := m) hm0 (by omega)
  obtain ⟨⟨b', k1, k2⟩, k3, _⟩ := id b3
  have hNu := xr_hasNu hok.2.2.2.2.2.2.2.1 k3
  have hWd := xr_hasWd hok.2.2.2.2.2.2.2.2 k3
  obtain ⟨_, _, _, _, _, _, g1, _⟩ := k3
  unfold fU_addMonth
  rw [xe_rq h1, b1, xe_bv, xe_gi k1 rfl, xe_bind]
  rcases k2 with ⟨rfl, kM⟩ | ⟨rfl, kM⟩
  · have hP' : ∀ t, xd_mo t m → t ≤ xf_u0 d → (xf_P d s m0 t ↔ xf_D d s m0 t m) := fun t t1 t2 => (hP t t1 t2).trans ⟨fun h => h.2, fun h => ⟨kM, h⟩⟩
    have run : ∀ like : Int32, xf_bb like (d.2.2.2.2.2.1 = [] ∧ d.2.2.2.2.2.2 = []) → ∃ C D', fU_addMonth_38 (xj_o o) like B = some (.inl none, C) ∧ xk_u (xf_S2 o rw) A C ∧ xf_K C o ru rw d s m0 D' m (xd_ms (m + 1) - 1) := by
      intro like hlk
      obtain ⟨C, D', c1, c2, c3⟩ := xf_mI hd hok s0 s1 hm00 hm01 hm0 hm1 hlk hP' (xf_ml m).toNat xj_fu 1 B D (by omega) (by omega) (by unfold xj_fu; omega) ⟨b3, by rw [show xd_ms m + ((1 : Nat) : Int) - 2 = xd_ms m - 1 by omega]; exact hi⟩
      rw [show ((1 : Nat) : Int) = 1 from rfl, ← xl_1] at c1
      unfold fU_addMonth_38
      exact ⟨C, D', c1, xk_t (xf_So b2) c2, c3⟩
    rw [xk_n1, xe_gr k1 rfl, xe_bind, xe_rq g1, hNu, xe_bi]
    unfold fU_addMonth_37
    by_cases e1 : d.2.2.2.2.2.1 = []
    · rw [if_pos e1, xk_n0, xe_gr k1 rfl, xe_bind, xe_rq g1, hWd, xe_bi]
      by_cases e2 : d.2.2.2.2.2.2 = []
      · rw [if_pos e2, xk_n0]
        exact run 1 (Or.inl ⟨rfl, e1, e2⟩)
      · rw [if_neg e2, xk_n1]
        exact run 0 (Or.inr ⟨rfl, fun h => e2 h.2⟩)
    · rw [if_neg e1, xk_n1]
      exact run 0 (Or.inr ⟨rfl, fun h => e1 h.1⟩)
  · rw [xk_n0]
    refine ⟨B, D, rfl, xf_So b2, b3, xf_skip hi (by omega) fun t t1 t2 t3 hp => kM ?_⟩
    exact ((hP t ⟨hm0, by omega, by omega⟩ hp.1).mp hp).1
theorem xf_oL {o ru rw : Nat} {d : xr_D} {s m0 : Int} (hd : xf_dis o ru rw) (hok : xr_ok d) (s0 : 0 ≤ s) (s1 : s ≤ 36524) (hm00 : 0 ≤ m0) (hm01 : m0 ≤ 1200) (hf : d.1 = some 2) :
    ∀ (z : Nat) (m : Int) (A : xj_H) (D : List Int) (m' : Int), (1400 - m).toNat < z → 0 ≤ m → m ≤ 1300 → (m - m0) % xf_v d = 0 → xf_K A o ru rw d s m0 D m' (xd_ms m - 1) → xf_end A o ru rw d s m0 (fU_addMonths_5 z (xj_o o) (xI m) A)
  | 0, m, A, D, m', h, _, _, _, _ => by omega
  | z + 1, m, A, D, m', hz, hm0, hm1, hper, hK => by
    have hu := xf_u0b hok
    have hc := xf_c0b hok
    have hvb := xf_vb hok
    have hb1 := xd_ms_b (m := m) hm0 (by omega)
    obtain ⟨hU, hi⟩ := id hK
    obtain ⟨⟨b, h1, h2⟩, _, _, h5, _⟩ := id hU
    rw [fU_addMonths_5, xl_1200, xq_le (by omega) (by omega) (by omega) (by omega)]
    by_cases c1 : 1200 ≤ m
    · have := xd_mono' (m := 1200) (n := m) (by omega) c1
      have := xz_1200
      rw [if_pos c1]
      exact ⟨A, D, m', rfl, xk_r _ _, xf_e1 hK (by omega) (by omega)⟩
    rw [if_neg c1, xe_gi h1 rfl, xe_bind, xe_gi h1 rfl, xe_bind, xq_le (by omega) (by omega) (by omega) (by omega)]
    by_cases c2 : xf_c0 d ≤ (D.length : Nat)
    · rw [if_pos c2]
      exact ⟨A, D, m', rfl, xk_r _ _, xf_e2 hK (by omega) c2⟩
    obtain ⟨B, D', b1, b2, b3⟩ := xf_mM hd hok s0 s1 hm00 hm01 (m := m) hm0 (by omega) (fun t ht tu => by rw [xf_P2 hf ht]; simp [tu, hper]) hK
    obtain ⟨⟨⟨b', k1, _⟩, _⟩, ki⟩ := id b3
    have hmn := xd_mono' (m := m + 1) (n := m + xf_v d) (by omega) (by omega)
    rw [if_neg c2, xe_rq h1, b1, xe_bv, xe_gi k1 rfl, xe_bind, xI_add]
    refine xf_eu b2 (xf_oL hd hok s0 s1 hm00 hm01 hf z (m + xf_v d) B D' m (by omega) (by omega) (by omega) (by rw [show m + xf_v d - m0 = (m - m0) + xf_v d by omega]; exact xf_ev hper) ⟨b3.1, xf_skip ki (by omega) fun t t1 t2 t3 hp => ?_⟩)
    obtain ⟨_, n, hn, hI, _⟩ := hp
    have n1 := xf_mo_ge hn (a := m + 1) (by omega) (by omega)
    have n2 := xf_mo_lt hn (b := m + xf_v d) (by omega)
    rcases hI with ⟨hI, _⟩ | ⟨hI, _⟩ | ⟨_, hI⟩ | ⟨hI, _⟩
    · rw [hf] at hI; cases hI
    · rw [hf] at hI; cases hI
    · refine xf_em hper (r := n - m) (by omega) (by omega) ?_
      rw [show m - m0 + (n - m) = n - m0 by omega]; exact hI
    · rw [hf] at hI; cases hI
theorem xf_yI {o ru rw : Nat} {d : xr_D} {s m0 : Int} (hd : xf_dis o ru rw) (hok : xr_ok d) (s0 : 0 ≤ s) (s1 : s ≤ 36524) (hm00 : 0 ≤ m0) (hm01 : m0 ≤ 1200) (hf : d.1 = some 3) {K : xj_Rf → Int32 → Int32 → xj_H → Option xj_R} {j : Int} (hj0 : 0 ≤ j) (hj1 : j ≤ 99) (hper : (j - m0 / 12) % xf_v d = 0) :
    ∀ (q z i : Nat) (A : xj_H) (D : List Int) (m' : Int), i + q = 12 → q < z → xf_K A o ru rw d s m0 D m' (xd_ms (12 * j + i) - 1) →
      ∃ B D' m2, fU_addYears_35 K z (xj_o o) (xI (m0 % 12)) (xI (12 * j)) (xI i) A = K (xj_o o) (xI (m0 % 12)) (xI (12 * j + 12 * xf_v d)) B ∧ xk_u (xf_S2 o rw) A B ∧ xf_K B o ru rw d s m0 D' m2 (xd_ms (12 * j + 12) - 1)
  | _, 0, _, _, _, _, _, h, _ => by omega
  | 0, z + 1, i, A, D, m', hi, hz, hK => by
    obtain ⟨⟨⟨b, h1, h2⟩, _⟩, _⟩ := id hK
    rw [fU_addYears_35, xl_12, xq_le (by omega) (by omega) (by omega) (by omega), if_pos (by omega), xe_gi h1 rfl, xe_bind, xI_mul, xI_add]
    refine ⟨A, D, m', rfl, xk_r _ _, ?_⟩
    rw [show 12 * j + (12 : Int) = 12 * j + (i : Nat) by omega]
    exact hK
  | q + 1, z + 1, i, A, D, m', hi, hz, hK => by
    obtain ⟨hU, hii⟩ := id hK
    obtain ⟨⟨b, h1, h2⟩, ⟨M, N, E, W, H, G, g1, g2⟩, _⟩ := id hU
    have hb := xd_lt (m := 12 * j + i) (by omega)
    have go : ∀ (C : xj_H) (D' : List Int) (m2 : Int), xk_u (xf_S2 o rw) A C → xf_K C o ru rw d s m0 D' m2 (xd_ms (12 * j + i + 1) - 1) →
        ∃ B D' m2, fU_addYears_63 K (fU_addYears_35 K z) (xj_o o) (xI (m0 % 12)) (xI (12 * j)) (xI i) C = K (xj_o o) (xI (m0 % 12)) (xI (12 * j + 12 * xf_v d)) B ∧ xk_u (xf_S2 o rw) A B ∧ xf_K B o ru rw d s m0 D' m2 (xd_ms (12 * j + 12) - 1) := by
      intro C D' m2 u hC
      unfold fU_addYears_63
      rw [xl_1, xI_add]
      obtain ⟨F, D2, m3, e1, e2, e3⟩ := xf_yI hd hok s0 s1 hm00 hm01 hf (K := K) hj0 hj1 hper q z (i + 1) C D' m2 (by omega) (by omega) (by rw [show 12 * j + ((i + 1 : Nat) : Int) = 12 * j + i + 1 by omega]; exact hC)
      rw [show ((i + 1 : Nat) : Int) = (i : Int) + 1 from rfl] at e1
      exact ⟨F, D2, m3, e1, xk_t u e2, e3⟩
    have run : (d.2.2.2.2.1 = [] → (12 * j + i) % 12 = m0 % 12) → ∃ B D' m2, fU_addYears_56 K (fU_addYears_35 K z) (xj_o o) (xI (m0 % 12)) (xI (12 * j)) (xI i) A = K (xj_o o) (xI (m0 % 12)) (xI (12 * j + 12 * xf_v d)) B ∧ xk_u (xf_S2 o rw) A B ∧ xf_K B o ru rw d s m0 D' m2 (xd_ms (12 * j + 12) - 1) := by
      intro hmy
      obtain ⟨B, D', b1, b2, b3⟩ := xf_mM hd hok s0 s1 hm00 hm01 (m := 12 * j + i) (by omega) (by omega) (fun t ht tu => by
        rw [xf_P3 hf ht, show (12 * j + (i : Int)) / 12 = j by omega]
        constructor
        · rintro ⟨_, _, a1, _, a2⟩; exact ⟨a1, a2⟩
        · rintro ⟨a1, a2⟩; exact ⟨tu, hper, a1, hmy, a2⟩) hK
      unfold fU_addYears_56
      rw [xe_rq h1, xI_add, b1, xe_bv]
      exact go B D' _ b2 b3
    rw [fU_addYears_35, xl_12, xq_le (by omega) (by omega) (by omega) (by omega), if_neg (by omega), xe_gr h1 rfl, xe_bind, xe_gi g1 rfl, xe_bind]
    have hz := xr_b_z g2.1
    by_cases hM : M = 0
    · rw [if_neg (fun h => h hM), xq_ne (by omega) (by omega) (by omega) (by omega)]
      by_cases he : (i : Int) = m0 % 12
      · rw [if_pos he]
        exact run fun _ => by omega
      · rw [if_neg he]
        refine go A D m' (xk_r _ _) ⟨hU, xf_skip hii (by omega) fun t t1 t2 t3 hp => ?_⟩
        have ht : xd_mo t (12 * j + i) := ⟨by omega, by omega, by omega⟩
        have hnil : d.2.2.2.2.1 = [] := by
          apply Classical.byContradiction
          intro hne
          obtain ⟨v, hv⟩ := List.exists_mem_of_ne_nil _ hne
          have hb := hok.2.2.2.2.2.2.1 v hv
          unfold xr_okm at hb
          refine hz.mp hM v.toNat (by omega) ?_
          rw [show ((v.toNat : Nat) : Int) = v by omega]; exact hv
        have := ((xf_P3 hf ht).mp hp).2.2.2.1 hnil
        omega
    · rw [if_pos hM]
      refine run fun hnil => absurd (hz.mpr fun k _ => ?_) hM
      rw [hnil]; simp
theorem xf_yL {o ru rw : Nat} {d : xr_D} {s m0 : Int} (hd : xf_dis o ru rw) (hok : xr_ok d) (s0 : 0 ≤ s) (s1 : s ≤ 36524) (hm00 : 0 ≤ m0) (hm01 : m0 ≤ 1200) (hf : d.1 = some 3) :
    ∀ (z : Nat) (j : Int) (A : xj_H) (D : List Int) (m' : Int), (400 - j).toNat < z → 0 ≤ j → j ≤ 200 → (j - m0 / 12) % xf_v d = 0 → (j < 100 → xf_K A o ru rw d s m0 D m' (xd_ms (12 * j) - 1)) → (100 ≤ j → xf_K A o ru rw d s m0 D m' 36524) → xf_end A o ru rw d s m0 (fU_addYears_15 z (xj_o o) (xI (m0 % 12)) (xI (12 * j)) A)
  | 0, j, A, D, m', h, _, _, _, _, _ => by omega
  | z + 1, j, A, D, m', hz, hj0, hj1, hper, hK, hK2 => by
    have hu := xf_u0b hok
    have hc := xf_c0b hok
    have hvb := xf_vb hok
    rw [fU_addYears_15, xl_1200, xq_le (by omega) (by omega) (by omega) (by omega)]
    by_cases c1 : 100 ≤ j
    · rw [if_pos (by omega)]
      exact ⟨A, D, m', rfl, xk_r _ _, xf_e1 (hK2 c1) (by omega) (by omega)⟩
    have hK := hK (by omega)
    have hb1 := xd_ms_b (m := 12 * j) (by omega) (by omega)
    obtain ⟨hU, hi⟩ := id hK
    obtain ⟨⟨b, h1, h2⟩, _, _, h5, _⟩ := id hU
    rw [if_neg (by omega), xe_gi h1 rfl, xe_bind, xe_gi h1 rfl, xe_bind, xq_le (by omega) (by omega) (by omega) (by omega)]
    by_cases c2 : xf_c0 d ≤ (D.length : Nat)
    · rw [if_pos c2]
      exact ⟨A, D, m', rfl, xk_r _ _, xf_e2 hK (by omega) c2⟩
    obtain ⟨B, D', m2, e1, e2, e3⟩ := xf_yI hd hok s0 s1 hm00 hm01 hf (K := fU_addYears_15 z) (j := j) hj0 (by omega) hper 12 xj_fu 0 A D m' (by omega) (by unfold xj_fu; omega) (by rw [show 12 * j + ((0 : Nat) : Int) = 12 * j by omega]; exact hK)
    rw [show ((0 : Nat) : Int) = 0 from rfl, ← xl_0] at e1
    rw [if_neg c2, e1, show 12 * j + 12 * xf_v d = 12 * (j + xf_v d) by omega]
    have nope : ∀ t, s ≤ t → xd_ms (12 * j + 12) - 1 < t → t < xd_ms (12 * (j + xf_v d)) → ¬ xf_P d s m0 t := by
      rintro t t1 t2 t3 ⟨_, n, hn, hI, _⟩
      have n1 := xf_mo_ge hn (a := 12 * j + 12) (by omega) (by omega)
      have n2 := xf_mo_lt hn (b := 12 * (j + xf_v d)) (by omega)
      rcases hI with ⟨hI, _⟩ | ⟨hI, _⟩ | ⟨hI, _⟩ | ⟨_, hI⟩
      · rw [hf] at hI; cases hI
      · rw [hf] at hI; cases hI
      · rw [hf] at hI; cases hI
      · refine xf_em hper (r := n / 12 - j) (by omega) (by omega) ?_
        rw [show j - m0 / 12 + (n / 12 - j) = n / 12 - m0 / 12 by omega]; exact hI
    have hmn := xd_mono' (m := 12 * j + 12) (n := 12 * (j + xf_v d)) (by omega) (by omega)
    refine xf_eu e2 (xf_yL hd hok s0 s1 hm00 hm01 hf z (j + xf_v d) B D' m2 (by omega) (by omega) (by omega) (by rw [show j + xf_v d - m0 / 12 = (j - m0 / 12) + xf_v d by omega]; exact xf_ev hper) (fun _ => ⟨e3.1, xf_skip e3.2 (by omega) fun t t1 t2 t3 => nope t t1 t2 (by omega)⟩) (fun h100 => ?_))
    have hm2 := xd_mono' (m := 1200) (n := 12 * (j + xf_v d)) (by omega) (by omega)
    have hm3 := xd_mono' (m := 12 * j + 12) (n := 1200) (by omega) (by omega)
    have hz1 := xz_1200
    exact ⟨e3.1, xf_skip e3.2 (by omega) fun t t1 t2 t3 => nope t t1 t2 (by omega)⟩
/-- the class unfolds -/
theorem xf_unf {A : xj_H} {o ru rw : Nat} {d : xr_D} {s m0 : Int} {x y b : Int32} {f : Nat → Int} (hd : xf_dis o ru rw) (hok : xr_ok d) (hal : d.1 = some 1 → ∀ v ∈ d.2.2.2.2.2.2, v.2 = 0) (hsm : d.1.isSome = true) (s0 : 0 ≤ s) (s1 : s ≤ 36524) (hmo : xd_mo s m0) (h : A.1[o]? = some (.inr (6, xf_fs ru rw s m0 (xf_v d) (xf_c0 d) (0 : Nat) x y b))) (hR : xr_R A ru d) (hw : xk_a A 0 rw 200 f) :
    ∃ B D m, fU_unfold (xj_o o) A = some (.inl (some (.int (xI (D.length : Nat)))), B) ∧ xk_u (xf_S2 o rw) A B ∧ xf_K B o ru rw d s m0 D m 50000 := by
  have hm0 := xd_mo_b hmo s1
  obtain ⟨q1, q2, q3⟩ := id hmo
  have hvb := xf_vb hok
  obtain ⟨B, b1, b2, b3⟩ := xf_ent (D := []) hd hok h hR ⟨f, hw, fun i x h => by simp at h⟩ (by simp) (m := m0) q1 (by omega)
  obtain ⟨⟨b', k1, k2⟩, k3, _⟩ := id b3
  obtain ⟨k, hk⟩ := Option.isSome_iff_exists.mp hsm
  have hk4 := hok.1 k hk
  obtain ⟨M, N, E, W, H, G, g1, g2⟩ := id k3
  have hfr : xj_gr B (xj_o ru) 4 0 = some (some (.inr k)) := xe_gs g1 (by simp [xr_fs, hk, xr_fv])
  have fin : ∀ (F : Option xj_R), xf_end B o ru rw d s m0 F → ∃ C D m, (xj_bv F fun A9 => fU_unfold_72 (xj_o o) A9) = some (.inl (some (.int (xI (D.length : Nat)))), C) ∧ xk_u (xf_S2 o rw) A C ∧ xf_K C o ru rw d s m0 D m 50000 := by
    rintro F ⟨C, D, m, c1, c2, c3⟩
    obtain ⟨⟨⟨bb, d1, _⟩, _⟩, _⟩ := id c3
    refine ⟨C, D, m, ?_, xk_t (xf_So b2) c2, c3⟩
    rw [c1, xe_bv]
    unfold fU_unfold_72
    rw [xe_gi d1 rfl, xe_bind]
  unfold fU_unfold
  rw [xe_gi h rfl, xe_bind, xe_rq h, b1, xe_bv, xe_gr k1 rfl, xe_bind, hfr, xe_bind, xr_e4 hk4, xr_e4 (by decide), if_pos (by decide)]
  by_cases e0 : k = 0
  · subst e0
    rw [if_neg (by simp), xe_rq k1]
    refine fin _ ?_
    unfold fU_addDays
    rw [xe_gi k1 rfl, xe_bind]
    refine xf_dL hd hok s0 s1 hk xj_fu s B [] m0 (by unfold xj_fu; omega) (by omega) (by omega) (by simp) q2 (by omega) ⟨b3, xf_0 (by omega)⟩
  rw [if_pos (by simpa using e0), xe_bind, hfr, xe_bind, xr_e4 hk4, xr_e4 (by decide), if_pos (by decide)]
  by_cases e1 : k = 1
  · subst e1
    rw [if_neg (by simp), xe_rq k1]
    refine fin _ ?_
    have hall := hal hk
    have start : ∀ mask : Int32, xr_b mask (xf_wk d s) → xf_end B o ru rw d s m0 (fU_addWeeks_26 (xj_o o) mask B) := by
      intro mask hmask
      unfold fU_addWeeks_26
      rw [xe_gi k1 rfl, xe_bind, xe_gi k1 rfl, xe_bind, xI_sub]
      refine xf_wL hd hok s0 s1 hk hall hmask xj_fu (s - (s + 5) % 7) B [] m0 (by unfold xj_fu; omega) (by omega) (by omega) (by omega) ?_ (by omega) (by omega) ⟨b3, xf_0 (by omega)⟩
      rw [show s - (s + 5) % 7 - s + (s + 5) % 7 = 0 by omega]; simp
    unfold fU_addWeeks
    have hz := xr_b_z g2.2.2.2.1
    rw [xe_gr k1 rfl, xe_bind, xe_gi g1 rfl, xe_bind]
    by_cases hW : W = 0
    · have hnil : d.2.2.2.2.2.2 = [] := by
        apply Classical.byContradiction
        intro hne
        obtain ⟨v, hv⟩ := List.exists_mem_of_ne_nil _ hne
        have hb := hok.2.2.2.2.2.2.2.2 v hv
        have hv2 := hall v hv
        unfold xr_okw at hb
        refine hz.mp hW v.1.toNat (by omega) ?_
        rw [show ((v.1.toNat : Nat) : Int) = v.1 by omega, ← hv2]; exact hv
      rw [if_pos hW, xe_gi k1 rfl, xe_bind]
      refine start _ ?_
      have hb1 := xr_b_1 (j := ((s + 5) % 7).toNat) (by omega)
      rw [show ((((s + 5) % 7).toNat : Nat) : Int) = (s + 5) % 7 by omega] at hb1
      refine xr_b_c hb1 fun w _ => ?_
      unfold xf_wk
      simp [hnil]
      omega
    · have hne : d.2.2.2.2.2.2 ≠ [] := fun hn => hW (hz.mpr fun w _ => by rw [hn]; simp)
      rw [if_neg hW, xe_bind, xe_gi g1 rfl, xe_bind]
      refine start _ (xr_b_c g2.2.2.2.1 fun w _ => ?_)
      unfold xf_wk
      simp [hne]
  rw [if_pos (by simpa using e1), xe_bind, hfr, xe_bind, xr_e4 hk4, xr_e4 (by decide), if_pos (by decide)]
  by_cases e2 : k = 2
  · subst e2
    rw [if_neg (by simp), xe_rq k1]
    refine fin _ ?_
    unfold fU_addMonths
    rw [xe_gi k1 rfl, xe_bind]
    exact xf_oL hd hok s0 s1 q1 (by omega) hk xj_fu m0 B [] m0 (by unfold xj_fu; omega) q1 (by omega) (by simp) ⟨b3, xf_0 (by omega)⟩
  · have e3 : k = 3 := by omega
    subst e3
    rw [if_pos (by simp), xe_rq k1]
    refine fin _ ?_
    have hmn := xd_mono' (m := 12 * (m0 / 12)) (n := m0) (by omega) (by omega)
    unfold fU_addYears
    rw [xe_gi k1 rfl, xe_bind, xe_bind, xl_12, xt_mod q1 (by omega) (by omega) (by omega), xI_sub, show m0 - m0 % 12 = 12 * (m0 / 12) by omega]
    exact xf_yL hd hok s0 s1 q1 (by omega) hk xj_fu (m0 / 12) B [] m0 (by unfold xj_fu; omega) (by omega) (by omega) (by simp) (fun _ => ⟨b3, xf_0 (by omega)⟩) (fun h => by omega)

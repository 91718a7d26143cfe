/-! The class unfolds days and weeks. -/
theorem xf_em {a r v : Int} (h : a % v = 0) (r0 : 0 < r) (r1 : r < v) : (a + r) % v ≠ 0 := by
  rw [Int.add_emod, h, Int.zero_add, Int.emod_emod, Int.emod_eq_of_lt (by omega) r1]
  omega
theorem xf_ev {a v : Int} (h : a % v = 0) : (a + v) % v = 0 := by
  rw [Int.add_emod, h, Int.emod_self]; rfl
theorem xf_P0 {d : xr_D} {s m0 t m : Int} (hf : d.1 = some 0) (h : xd_mo t m) : xf_P d s m0 t ↔ t ≤ xf_u0 d ∧ (t - s) % xf_v d = 0 ∧ xf_M d.2.2.2.2.1 m ∧ xf_B d t m := by
  rw [xf_Pm h]
  unfold xf_I xf_Y
  rw [hf]
  simp
theorem xf_P1 {d : xr_D} {s m0 t m : Int} (hf : d.1 = some 1) (h : xd_mo t m) : xf_P d s m0 t ↔ t ≤ xf_u0 d ∧ ((t - (t + 5) % 7 - s + (s + 5) % 7) / 7) % xf_v d = 0 ∧ xf_M d.2.2.2.2.1 m ∧ ((d.2.2.2.2.2.2 = [] ∧ (t + 5) % 7 = (s + 5) % 7) ∨ (d.2.2.2.2.2.2 ≠ [] ∧ xf_W d.2.2.2.2.2.2 ((t + 5) % 7) (t - xd_ms m + 1) (xf_ml m))) := by
  rw [xf_Pm h]
  unfold xf_I xf_Y
  rw [hf]
  simp
theorem xf_P2 {d : xr_D} {s m0 t m : Int} (hf : d.1 = some 2) (h : xd_mo t m) : xf_P d s m0 t ↔ t ≤ xf_u0 d ∧ (m - m0) % xf_v d = 0 ∧ xf_M d.2.2.2.2.1 m ∧ xf_D d s m0 t m := by
  rw [xf_Pm h]
  unfold xf_I xf_Y
  rw [hf]
  simp
theorem xf_P3 {d : xr_D} {s m0 t m : Int} (hf : d.1 = some 3) (h : xd_mo t m) : xf_P d s m0 t ↔ t ≤ xf_u0 d ∧ (m / 12 - m0 / 12) % xf_v d = 0 ∧ xf_M d.2.2.2.2.1 m ∧ (d.2.2.2.2.1 = [] → m % 12 = m0 % 12) ∧ xf_D d s m0 t m := by
  rw [xf_Pm h]
  unfold xf_I xf_Y
  rw [hf]
  simp
theorem xf_mo_ge {t n a : Int} (h : xd_mo t n) (h0 : 0 ≤ a) (h1 : xd_ms a ≤ t) : a ≤ n := by
  obtain ⟨a1, a2, a3⟩ := h
  apply Classical.byContradiction
  intro hc
  have := xd_mono' (m := n + 1) (n := a) (by omega) (by omega)
  omega
theorem xf_mo_lt {t n b : Int} (h : xd_mo t n) (h1 : t < xd_ms b) : n < b := by
  obtain ⟨a1, a2, a3⟩ := h
  apply Classical.byContradiction
  intro hc
  by_cases hb : 0 ≤ b
  · have := xd_mono' (m := b) (n := n) hb (by omega)
    omega
  · have e : ∀ k : Int, k < 0 → xd_ms k ≤ 0 := by
      intro k hk
      have h12 := xd_dm_b (i := k % 12) (by omega) (by omega)
      unfold xd_ms
      split <;> omega
    have := e b (by omega)
    have := xd_mono' (m := 0) (n := n) (by omega) a1
    have := xz_0
    omega
theorem xf_1201 : xd_ms 1201 = 36556 := by decide
theorem xf_mo_b {t n : Int} (h : xd_mo t n) (h1 : t ≤ 36550) : n ≤ 1200 := by
  have := xf_mo_lt (b := 1201) h (by rw [xf_1201]; omega)
  omega
/-- the unfolding's end -/
def xf_end (A : xj_H) (o ru rw : Nat) (d : xr_D) (s m0 : Int) (f : Option xj_R) : Prop := ∃ B D m, f = some (.inl none, B) ∧ xk_u (xf_S2 o rw) A B ∧ xf_K B o ru rw d s m0 D m 50000
theorem xf_eu {A B : xj_H} {o ru rw : Nat} {d : xr_D} {s m0 : Int} {f : Option xj_R} (u : xk_u (xf_S2 o rw) A B) (h : xf_end B o ru rw d s m0 f) : xf_end A o ru rw d s m0 f := by
  obtain ⟨C, D, m, h1, h2, h3⟩ := h
  exact ⟨C, D, m, h1, xk_t u h2, h3⟩
theorem xf_e1 {A : xj_H} {o ru rw : Nat} {d : xr_D} {s m0 : Int} {D : List Int} {m x : Int} (h : xf_K A o ru rw d s m0 D m x) (hx : x ≤ 50000) (hu : xf_u0 d ≤ x) : xf_K A o ru rw d s m0 D m 50000 :=
  ⟨h.1, xf_skip h.2 hx fun t _ t2 _ hp => by have := hp.1; omega⟩
theorem xf_e2 {A : xj_H} {o ru rw : Nat} {d : xr_D} {s m0 : Int} {D : List Int} {m x : Int} (h : xf_K A o ru rw d s m0 D m x) (hx : x ≤ 50000) (hu : xf_c0 d ≤ (D.length : Nat)) : xf_K A o ru rw d s m0 D m 50000 :=
  ⟨h.1, xf_full h.2 hx (by omega)⟩
theorem xf_So {A B : xj_H} {o rw : Nat} (u : xk_u (fun k => k = o) A B) : xk_u (xf_S2 o rw) A B := xk_w u fun _ h => Or.inl h
theorem xf_dL {o ru rw : Nat} {d : xr_D} {s m0 : Int} (hd : xf_dis o ru rw) (hok : xr_ok d) (s0 : 0 ≤ s) (s1 : s ≤ 36524) (hf : d.1 = some 0) : ∀ (z : Nat) (y : Int) (A : xj_H) (D : List Int) (m : Int), (36700 - y).toNat < z → s ≤ y → y ≤ 36690 → (y - s) % xf_v d = 0 → xd_ms m ≤ y → m ≤ 1200 → xf_K A o ru rw d s m0 D m (y - 1) → xf_end A o ru rw d s m0 (fU_addDays_5 z (xj_o o) (xI y) A)
  | 0, y, A, D, m, h, _, _, _, _, _, _ => by omega
  | z + 1, y, A, D, m, hz, hy0, hy1, hv, hm, hm1, hK => by
    have hu := xf_u0b hok
    have hc := xf_c0b hok
    have hvb := xf_vb hok
    have hK' := hK
    obtain ⟨hU, hi⟩ := hK'
    have hU' := hU
    obtain ⟨⟨b, h1, h2⟩, ⟨M, N, E, W, H, G, g1, g2⟩, h4, h5, h6, h7⟩ := hU'
    have g4 : xj_gi A (xj_o ru) 4 4 = some (xI (xf_u0 d)) := xe_gi g1 rfl
    rw [fU_addDays_5, xe_gr h1 rfl, xe_bind, g4, xe_bind, xq_lt (by omega) (by omega) (by omega) (by omega)]
    by_cases c1 : xf_u0 d < y
    · rw [if_pos c1]
      exact ⟨A, D, m, rfl, xk_r _ _, xf_e1 hK (by omega) (by omega)⟩
    rw [if_neg c1, xe_gi h1 rfl, xe_bind, xe_gi h1 rfl, xe_bind, xq_le (by omega) (by omega) (by omega) (by omega)]
    by_cases c2 : xf_c0 d ≤ (D.length : Nat)
    · rw [if_pos c2]
      exact ⟨A, D, m, rfl, xk_r _ _, xf_e2 hK (by omega) c2⟩
    obtain ⟨B, m', b1, b2, b3, b4⟩ := xf_fol hd hok hU (by omega) (y := y) (by omega) (by omega)
    have hmo : xd_mo y m' := by
      rcases b4 with ⟨rfl, b5⟩ | ⟨b5, _⟩
      · exact ⟨h6, hm, b5⟩
      · exact b5
    have hm' := xf_mo_b hmo (by omega)
    have hP := xf_P0 (s := s) (m0 := m0) hf hmo
    -- go on behind the day
    have go : ∀ (C : xj_H) (D' : List Int), xk_u (xf_S2 o rw) A C → xf_K C o ru rw d s m0 D' m' y → xf_end A o ru rw d s m0 (fU_addDays_52 (fU_addDays_5 z) (xj_o o) (xI y) C) := by
      intro C D' u hC
      have hC' := hC
      obtain ⟨⟨⟨b', k1, _⟩, _⟩, ki⟩ := hC'
      unfold fU_addDays_52
      rw [xe_gi k1 rfl, xe_bind, xI_add]
      have e : (y + xf_v d - s) % xf_v d = 0 := by
        rw [show y + xf_v d - s = (y - s) + xf_v d by omega]; exact xf_ev hv
      refine xf_eu u (xf_dL hd hok s0 s1 hf z (y + xf_v d) C D' m' (by omega) (by omega) (by omega) e (by have := hmo.2.1; omega) hm' ⟨hC.1, xf_skip ki (by omega) fun t t1 t2 t3 hp => ?_⟩)
      obtain ⟨_, n, hn, hI, _⟩ := hp
      rcases hI with ⟨_, hI⟩ | ⟨hI, _⟩ | ⟨hI, _⟩ | ⟨hI, _⟩
      · refine xf_em hv (r := t - y) (by omega) (by omega) ?_
        rw [show y - s + (t - y) = t - s by omega]; exact hI
      · rw [hf] at hI; cases hI
      · rw [hf] at hI; cases hI
      · rw [hf] at hI; cases hI
    have skip : ¬ xf_P d s m0 y → xf_K B o ru rw d s m0 D m' y := fun hn => ⟨b3, xf_skip hi (by omega) fun t t1 t2 t3 => by rw [show t = y by omega]; exact hn⟩
    obtain ⟨⟨b', k1, k2⟩, _⟩ := id b3
    rw [if_neg c2, xe_rq h1, b1, xe_bv, xe_gi k1 rfl, xe_bind]
    rcases k2 with ⟨rfl, k3⟩ | ⟨rfl, k3⟩
    · rw [xk_b1]
      obtain ⟨b'', q1, q2⟩ := xf_meant hok b3 hmo (by omega)
      rw [xe_rq k1, q1, xe_bi]
      rcases q2 with ⟨rfl, q3⟩ | ⟨rfl, q3⟩
      · rw [xk_b1, xe_rq k1]
        obtain ⟨C, D', w1, w2, w3⟩ := xf_ad hd hok (x := y - 1) ⟨b3, hi⟩ s0 s1 (y := y) (by omega) (by omega) (by omega) (fun t t1 t2 t3 => by omega) (fun _ hyu => hP.mpr ⟨hyu, hv, k3, q3⟩)
        rw [w1, xe_bv]
        exact go C D' (xk_t (xf_So b2) w2) w3
      · rw [xk_b0]
        exact go B D (xf_So b2) (skip fun h => q3 (hP.mp h).2.2.2)
    · rw [xk_b0]
      exact go B D (xf_So b2) (skip fun h => k3 (hP.mp h).2.2.1)
/-! Weeks. -/
def xf_wk (d : xr_D) (s : Int) (w : Nat) : Prop := (d.2.2.2.2.2.2 = [] ∧ (w : Int) = (s + 5) % 7) ∨ (d.2.2.2.2.2.2 ≠ [] ∧ ((w : Int), (0 : Int)) ∈ d.2.2.2.2.2.2)
theorem xf_W0 {wd : List (Int × Int)} (h0 : ∀ v ∈ wd, v.2 = 0) (hne : wd ≠ []) (w n l : Int) : xf_W wd w n l ↔ (w, (0 : Int)) ∈ wd := by
  constructor
  · rintro (h | ⟨⟨v1, v2⟩, h1, h2, _⟩)
    · exact absurd h hne
    · have := h0 _ h1
      simp only at this h2
      subst this; subst h2
      exact h1
  · intro h
    exact Or.inr ⟨_, h, rfl, Or.inl rfl⟩
theorem xf_wI {o ru rw : Nat} {d : xr_D} {s m0 : Int} (hd : xf_dis o ru rw) (hok : xr_ok d) (s0 : 0 ≤ s) (s1 : s ≤ 36524) (hf : d.1 = some 1) (hal : ∀ v ∈ d.2.2.2.2.2.2, v.2 = 0) {K : xj_Rf → Int32 → Int32 → xj_H → Option xj_R} {mask : Int32} (hmk : xr_b mask (xf_wk d s)) {mon : Int} (hmon : (mon + 5) % 7 = 0) (hm0 : -8 ≤ mon) (hm1 : mon ≤ 36524) (hper : ((mon - s + (s + 5) % 7) / 7) % xf_v d = 0) :
    ∀ (q z w : Nat) (A : xj_H) (D : List Int) (m : Int), w + q = 7 → q < z → xf_K A o ru rw d s m0 D m (mon + w - 1) → (xd_ms m ≤ s ∨ xd_ms m ≤ mon + w) → m ≤ 1200 →
      ∃ B D' m', fU_addWeeks_61 K z (xj_o o) mask (xI mon) (xI w) A = K (xj_o o) mask (xI (mon + 7 * xf_v d)) B ∧ xk_u (xf_S2 o rw) A B ∧ xf_K B o ru rw d s m0 D' m' (mon + 6) ∧ (xd_ms m' ≤ s ∨ xd_ms m' ≤ mon + 7) ∧ m' ≤ 1200
  | _, 0, _, _, _, _, _, h, _, _, _ => by omega
  | 0, z + 1, w, A, D, m, hw, hz, hK, hm, hmb => by
    obtain ⟨⟨⟨b, h1, h2⟩, _⟩, hi⟩ := id hK
    rw [fU_addWeeks_61, xl_7, xq_le (by omega) (by omega) (by omega) (by omega), if_pos (by omega), xe_gi h1 rfl, xe_bind, xI_mul, xI_add]
    refine ⟨A, D, m, rfl, xk_r _ _, ?_, by omega, hmb⟩
    rw [show mon + 6 = mon + w - 1 by omega]
    exact hK
  | q + 1, z + 1, w, A, D, m, hw, hz, hK, hm, hmb => by
    obtain ⟨hU, hi⟩ := id hK
    obtain ⟨⟨b, h1, h2⟩, _⟩ := id hU
    have h6 : 0 ≤ m := hU.2.2.2.2.1
    obtain ⟨B, m', b1, b2, b3, b4⟩ := xf_fol hd hok hU (by omega) (y := mon + w) (by omega) (by omega)
    have hmo : s ≤ mon + w → xd_mo (mon + w) m' := by
      intro hs
      rcases b4 with ⟨rfl, b5⟩ | ⟨b5, _⟩
      · exact ⟨h6, by omega, b5⟩
      · exact b5
    have hmb' : m' ≤ 1200 := by
      rcases b4 with ⟨rfl, _⟩ | ⟨b5, _⟩
      · exact hmb
      · exact xf_mo_b b5 (by omega)
    have hms' : xd_ms m' ≤ s ∨ xd_ms m' ≤ mon + w := by
      rcases b4 with ⟨rfl, _⟩ | ⟨b5, _⟩
      · exact hm
      · exact Or.inr b5.2.1
    have hwd : (mon + w + 5) % 7 = w := by omega
    have hP : s ≤ mon + w → (xf_P d s m0 (mon + w) ↔ mon + w ≤ xf_u0 d ∧ xf_M d.2.2.2.2.1 m' ∧ xf_wk d s w) := by
      intro hs
      rw [xf_P1 hf (hmo hs), hwd, show mon + w - w - s + (s + 5) % 7 = mon - s + (s + 5) % 7 by omega]
      unfold xf_wk
      by_cases hne : d.2.2.2.2.2.2 = []
      · simp [hne, hper]
      · rw [xf_W0 hal hne]
        simp [hne, hper]
    have go : ∀ (C : xj_H) (D' : List Int), xk_u (xf_S2 o rw) A C → xf_K C o ru rw d s m0 D' m' (mon + w) →
        ∃ B D' m', fU_addWeeks_96 K (fU_addWeeks_61 K z) (xj_o o) mask (xI mon) (xI w) C = K (xj_o o) mask (xI (mon + 7 * xf_v d)) B ∧ xk_u (xf_S2 o rw) A B ∧ xf_K B o ru rw d s m0 D' m' (mon + 6) ∧ (xd_ms m' ≤ s ∨ xd_ms m' ≤ mon + 7) ∧ m' ≤ 1200 := by
      intro C D' u hC
      unfold fU_addWeeks_96
      rw [xl_1, xI_add]
      obtain ⟨E, D2, m2, e1, e2, e3, e4, e5⟩ := xf_wI hd hok s0 s1 hf hal hmk hmon hm0 hm1 hper q z (w + 1) C D' m' (by omega) (by omega) (by rw [show mon + ((w + 1 : Nat) : Int) - 1 = mon + w by omega]; exact hC) (by omega) hmb'
      rw [show ((w + 1 : Nat) : Int) = (w : Int) + 1 from rfl] at e1
      exact ⟨E, D2, m2, e1, xk_t u e2, e3, e4, e5⟩
    have skip : (s ≤ mon + w → ¬ xf_P d s m0 (mon + w)) → xf_K B o ru rw d s m0 D m' (mon + w) := fun hn => ⟨b3, xf_skip hi (by omega) fun t t1 t2 t3 => by rw [show t = mon + w by omega] at t1 ⊢; exact hn t1⟩
    obtain ⟨⟨b', k1, k2⟩, _⟩ := id b3
    rw [fU_addWeeks_61, xl_7, xq_le (by omega) (by omega) (by omega) (by omega), if_neg (by omega), xe_rq h1, xI_add, b1, xe_bv, xe_gi k1 rfl, xe_bind]
    have hbt := xr_b_t hmk (j := w) (by omega)
    rcases k2 with ⟨rfl, k3⟩ | ⟨rfl, k3⟩
    · rw [xk_b1]
      by_cases hwk : xf_wk d s w
      · rw [if_neg (fun h => hbt.mp h hwk), xe_rq k1]
        obtain ⟨C, D', w1, w2, w3⟩ := xf_ad hd hok ⟨b3, hi⟩ s0 s1 (y := mon + w) (by omega) (by omega) (by omega) (fun t t1 t2 t3 => by omega) (fun hs hyu => (hP hs).mpr ⟨hyu, k3, hwk⟩)
        rw [w1, xe_bv]
        exact go C D' (xk_t (xf_So b2) w2) w3
      · rw [if_pos (hbt.mpr hwk)]
        exact go B D (xf_So b2) (skip fun hs h => hwk ((hP hs).mp h).2.2)
    · rw [xk_b0]
      exact go B D (xf_So b2) (skip fun hs h => k3 ((hP hs).mp h).2.1)
theorem xf_wL {o ru rw : Nat} {d : xr_D} {s m0 : Int} (hd : xf_dis o ru rw) (hok : xr_ok d) (s0 : 0 ≤ s) (s1 : s ≤ 36524) (hf : d.1 = some 1) (hal : ∀ v ∈ d.2.2.2.2.2.2, v.2 = 0) {mask : Int32} (hmk : xr_b mask (xf_wk d s)) :
    ∀ (z : Nat) (mon : Int) (A : xj_H) (D : List Int) (m : Int), (37300 - mon).toNat < z → (mon + 5) % 7 = 0 → -8 ≤ mon → mon ≤ 37290 → ((mon - s + (s + 5) % 7) / 7) % xf_v d = 0 → (xd_ms m ≤ s ∨ xd_ms m ≤ mon) → m ≤ 1200 → xf_K A o ru rw d s m0 D m (mon - 1) → xf_end A o ru rw d s m0 (fU_addWeeks_37 z (xj_o o) mask (xI mon) A)
  | 0, mon, A, D, m, h, _, _, _, _, _, _, _ => by omega
  | z + 1, mon, A, D, m, hz, hmon, hm0, hm1, hper, hms, hmb, hK => by
    have hu := xf_u0b hok
    have hc := xf_c0b hok
    have hvb := xf_vb hok
    obtain ⟨hU, hi⟩ := id hK
    obtain ⟨⟨b, h1, h2⟩, ⟨M, N, E, W, H, G, g1, g2⟩, h4, h5, h6, h7⟩ := id hU
    have g4 : xj_gi A (xj_o ru) 4 4 = some (xI (xf_u0 d)) := xe_gi g1 rfl
    rw [fU_addWeeks_37, xe_gr h1 rfl, xe_bind, g4, xe_bind, xq_lt (by omega) (by omega) (by omega) (by omega)]
    by_cases c1 : xf_u0 d < mon
    · rw [if_pos c1]
      exact ⟨A, D, m, rfl, xk_r _ _, xf_e1 hK (by omega) (by omega)⟩
    rw [if_neg c1, xe_gi h1 rfl, xe_bind, xe_gi h1 rfl, xe_bind, xq_le (by omega) (by omega) (by omega) (by omega)]
    by_cases c2 : xf_c0 d ≤ (D.length : Nat)
    · rw [if_pos c2]
      exact ⟨A, D, m, rfl, xk_r _ _, xf_e2 hK (by omega) c2⟩
    rw [if_neg c2]
    obtain ⟨B, D', m', e1, e2, e3, e4, e5⟩ := xf_wI hd hok s0 s1 hf hal (K := fU_addWeeks_37 z) hmk hmon hm0 (by omega) hper 7 xj_fu 0 A D m (by omega) (by unfold xj_fu; omega) (by rw [show mon + ((0 : Nat) : Int) - 1 = mon - 1 by omega]; exact hK) (by omega) hmb
    rw [show ((0 : Nat) : Int) = 0 from rfl, ← xl_0] at e1
    rw [e1]
    have ediv : (mon + 7 * xf_v d - s + (s + 5) % 7) / 7 = (mon - s + (s + 5) % 7) / 7 + xf_v d := by omega
    refine xf_eu e2 (xf_wL hd hok s0 s1 hf hal hmk z (mon + 7 * xf_v d) B D' m' (by omega) (by omega) (by omega) (by omega) (by rw [ediv]; exact xf_ev hper) (by omega) e5 ⟨e3.1, xf_skip e3.2 (by omega) fun t t1 t2 t3 hp => ?_⟩)
    obtain ⟨_, n, hn, hI, _⟩ := hp
    rcases hI with ⟨hI, _⟩ | ⟨_, hI⟩ | ⟨hI, _⟩ | ⟨hI, _⟩
    · rw [hf] at hI; cases hI
    · have hq : (t - (t + 5) % 7 - s + (s + 5) % 7) / 7 = (mon - s + (s + 5) % 7) / 7 + (t - mon) / 7 := by omega
      rw [hq] at hI
      exact xf_em hper (r := (t - mon) / 7) (by omega) (by omega) hI
    · rw [hf] at hI; cases hI
    · rw [hf] at hI; cases hI

/-! The reference: means, inPeriod, behindPeriod. -/
theorem xf_bbc {b : Int32} {P Q : Prop} (h : xf_bb b P) (e : P ↔ Q) : xf_bb b Q := by
  rcases h with ⟨h1, h2⟩ | ⟨h1, h2⟩
  · exact Or.inl ⟨h1, e.mp h2⟩
  · exact Or.inr ⟨h1, fun h => h2 (e.mpr h)⟩
theorem xf_rz {b : Int32} {P : Prop} (h : xf_bb b P) (A : xj_H) : xj_rz b A = some (.inl (some (.int b)), A) := by
  rcases h with ⟨rfl, _⟩ | ⟨rfl, _⟩ <;> rfl
theorem xf_means {A : xj_H} {p : Nat → Value} {d : xr_D} {s m0 t m : Int} (h : xf_Z A p d s m0 t m) {k : Nat} (hk : d.1 = some k) : ∃ b, fM_means (xj_o 34) (xI t) A = some (.inl (some (.int b)), A) ∧ xf_bb b (xf_Y d s m0 t m) := by
  obtain ⟨bn, n1, n2⟩ := xf_byN h
  obtain ⟨bw, w1, w2⟩ := xf_byW h
  obtain ⟨h1, ⟨hR, f15, f16, f17, f18, f19, f22, f25, f29, f30, f31, f32⟩, ⟨f26, f27, f28⟩, ⟨a1, _, _, _, l1, l2⟩, hok, hmo, hm0, s0, st, t1⟩ := h
  have hk4 := hok.1 k hk
  have hfq : xr_fq d.1 = (k : Int) + 1 := by rw [hk]; rfl
  rw [hfq] at f15
  have hmb := xd_mo_b hmo t1
  have hmb0 := xd_mo_b hm0 (by omega)
  obtain ⟨o1, o2, o3⟩ := id hmo
  obtain ⟨i1, i2, i3⟩ := id hm0
  have hb2 := xd_lt o1
  have hb3 := xd_lt i1
  -- the day itself
  have h132 : ∃ b, fM_means_132 (xj_o 34) (xI t) A = some (.inl (some (.int b)), A) ∧ xf_bb b (xf_B d t m) := by
    unfold fM_means_132 fM_means_151 fM_means_152
    rw [xk_rq h1, n1, xe_bi]
    rcases n2 with ⟨rfl, n3⟩ | ⟨rfl, n3⟩
    · rw [xk_b1, xk_rq h1, w1, xe_bi]
      rcases w2 with ⟨rfl, w3⟩ | ⟨rfl, w3⟩
      · rw [xk_b1]; exact ⟨1, rfl, Or.inl ⟨rfl, n3, w3⟩⟩
      · rw [xk_b0]; exact ⟨0, rfl, Or.inr ⟨rfl, fun h => w3 h.2⟩⟩
    · rw [xk_b0]; exact ⟨0, rfl, Or.inr ⟨rfl, fun h => n3 h.1⟩⟩
  have hday : ∃ b, fM_means_43 (xj_o 34) (xI t) 1 A = some (.inl (some (.int b)), A) ∧ xf_bb b ((k = 0 ∧ xf_B d t m) ∨ (k = 1 ∧ ((d.2.2.2.2.2.2 = [] ∧ (t + 5) % 7 = (s + 5) % 7) ∨ (d.2.2.2.2.2.2 ≠ [] ∧ xf_W d.2.2.2.2.2.2 ((t + 5) % 7) (t - xd_ms m + 1) (xf_ml m)))) ∨ ((k = 2 ∨ k = 3) ∧ xf_D d s m0 t m)) := by
    unfold fM_means_43
    rw [xk_n1, xk_gi h1 f15 (by decide), xe_bind, xl_2, xq_ne (by omega) (by omega) (by omega) (by omega)]
    by_cases k1 : k = 1
    · subst k1
      rw [if_pos (by omega), xk_gi h1 f25 (by decide), xe_bind, xl_0, xq_ne (by omega) (by omega) (by omega) (by omega)]
      unfold fM_means_92
      by_cases e2 : d.2.2.2.2.2.2 = []
      · rw [if_pos (by rw [e2]; rfl), xv_weekday (by omega) (by omega), xe_bi, xk_gi h1 f29 (by decide), xe_bind, xv_weekday (by omega) (by omega), xe_bi, xq_ne (by omega) (by omega) (by omega) (by omega)]
        by_cases e3 : (t + 5) % 7 = (s + 5) % 7
        · rw [if_pos e3]
          exact ⟨1, rfl, Or.inl ⟨rfl, Or.inr (Or.inl ⟨rfl, Or.inl ⟨e2, e3⟩⟩)⟩⟩
        · rw [if_neg e3]
          refine ⟨0, rfl, Or.inr ⟨rfl, ?_⟩⟩
          rintro (⟨h, _⟩ | ⟨_, ⟨_, h⟩ | ⟨h, _⟩⟩ | ⟨h, _⟩)
          · omega
          · exact e3 h
          · exact h e2
          · omega
      · have hl0 : d.2.2.2.2.2.2.length ≠ 0 := fun h => e2 (List.length_eq_zero_iff.mp h)
        rw [if_neg (by omega), xk_rq h1, w1, xe_bi, xf_rz w2]
        refine ⟨bw, rfl, xf_bbc w2 ?_⟩
        simp [e2]
    · rw [if_neg (by omega), xe_bind, xl_1, xq_eq (by omega) (by omega) (by omega) (by omega)]
      by_cases k0 : k = 0
      · subst k0
        rw [if_pos (by omega)]
        obtain ⟨b, b1, b2⟩ := h132
        exact ⟨b, b1, xf_bbc b2 (by simp)⟩
      · have k23 : k = 2 ∨ k = 3 := by omega
        have hD : ∀ b : Int32, xf_bb b (xf_D d s m0 t m) → xf_bb b ((k = 0 ∧ xf_B d t m) ∨ (k = 1 ∧ ((d.2.2.2.2.2.2 = [] ∧ (t + 5) % 7 = (s + 5) % 7) ∨ (d.2.2.2.2.2.2 ≠ [] ∧ xf_W d.2.2.2.2.2.2 ((t + 5) % 7) (t - xd_ms m + 1) (xf_ml m)))) ∨ ((k = 2 ∨ k = 3) ∧ xf_D d s m0 t m)) := fun b hb => xf_bbc hb ⟨fun h => Or.inr (Or.inr ⟨k23, h⟩), fun h => by
          rcases h with ⟨h, _⟩ | ⟨h, _⟩ | ⟨_, h⟩
          · exact absurd h k0
          · exact absurd h k1
          · exact h⟩
        have hB : ¬ (d.2.2.2.2.2.1 = [] ∧ d.2.2.2.2.2.2 = []) → ∃ b, fM_means_132 (xj_o 34) (xI t) A = some (.inl (some (.int b)), A) ∧ xf_bb b (xf_D d s m0 t m) := by
          intro hne
          obtain ⟨b, b1, b2⟩ := h132
          refine ⟨b, b1, xf_bbc b2 ⟨fun h => Or.inr ⟨hne, h⟩, fun h => ?_⟩⟩
          rcases h with ⟨h2, h3, _⟩ | ⟨_, h⟩
          · exact absurd ⟨h2, h3⟩ hne
          · exact h
        rw [if_neg (by omega), xk_gi h1 f22 (by decide), xe_bind, xl_0, xq_ne (by omega) (by omega) (by omega) (by omega)]
        by_cases e1 : d.2.2.2.2.2.1 = []
        · rw [if_pos (by rw [e1]; rfl), xk_gi h1 f25 (by decide), xe_bind, xq_ne (by omega) (by omega) (by omega) (by omega)]
          by_cases e2 : d.2.2.2.2.2.2 = []
          · rw [if_pos (by rw [e2]; rfl), xk_gi h1 f28 (by decide), xe_bind, xk_gi h1 f32 (by decide), xe_bind, xq_ne (by omega) (by omega) (by omega) (by omega)]
            unfold fM_means_131
            by_cases e3 : t - xd_ms m + 1 = s - xd_ms m0 + 1
            · rw [if_pos e3]
              exact ⟨1, rfl, hD 1 (Or.inl ⟨rfl, Or.inl ⟨e1, e2, by omega⟩⟩)⟩
            · rw [if_neg e3]
              refine ⟨0, rfl, hD 0 (Or.inr ⟨rfl, ?_⟩)⟩
              rintro (⟨_, _, h⟩ | ⟨h, _⟩)
              · omega
              · exact h ⟨e1, e2⟩
          · have hl0 : d.2.2.2.2.2.2.length ≠ 0 := fun h => e2 (List.length_eq_zero_iff.mp h)
            rw [if_neg (by omega)]
            obtain ⟨b, b1, b2⟩ := hB fun h => e2 h.2
            exact ⟨b, b1, hD b b2⟩
        · have hl0 : d.2.2.2.2.2.1.length ≠ 0 := fun h => e1 (List.length_eq_zero_iff.mp h)
          rw [if_neg (by omega)]
          obtain ⟨b, b1, b2⟩ := hB fun h => e1 h.1
          exact ⟨b, b1, hD b b2⟩
  have hno : fM_means_43 (xj_o 34) (xI t) 0 A = some (.inl (some (.int 0)), A) := by
    unfold fM_means_43
    rw [xk_n0]; rfl
  have hYno : ¬ (xf_M d.2.2.2.2.1 m ∧ (k = 3 → d.2.2.2.2.1 = [] → m % 12 = m0 % 12)) → xf_bb 0 (xf_Y d s m0 t m) := by
    intro hn
    refine Or.inr ⟨rfl, ?_⟩
    rintro ⟨hM, h⟩
    refine hn ⟨hM, fun h3 hnil => ?_⟩
    rw [hk, h3] at h
    simp at h
    exact h.1 hnil
  have hYes : (xf_M d.2.2.2.2.1 m ∧ (k = 3 → d.2.2.2.2.1 = [] → m % 12 = m0 % 12)) → ∃ b, fM_means_43 (xj_o 34) (xI t) 1 A = some (.inl (some (.int b)), A) ∧ xf_bb b (xf_Y d s m0 t m) := by
    rintro ⟨hM, h3⟩
    obtain ⟨b, b1, b2⟩ := hday
    refine ⟨b, b1, xf_bbc b2 ?_⟩
    unfold xf_Y
    rw [hk]
    constructor
    · intro h
      refine ⟨hM, ?_⟩
      rcases h with ⟨rfl, h⟩ | ⟨rfl, h⟩ | ⟨rfl | rfl, h⟩
      · exact Or.inl ⟨rfl, h⟩
      · exact Or.inr (Or.inl ⟨rfl, h⟩)
      · exact Or.inr (Or.inr (Or.inl ⟨rfl, h⟩))
      · exact Or.inr (Or.inr (Or.inr ⟨rfl, h3 rfl, h⟩))
    · rintro ⟨_, ⟨h', h⟩ | ⟨h', h⟩ | ⟨h', h⟩ | ⟨h', _, h⟩⟩
      · exact Or.inl ⟨Option.some.inj h', h⟩
      · exact Or.inr (Or.inl ⟨Option.some.inj h', h⟩)
      · exact Or.inr (Or.inr ⟨Or.inl (Option.some.inj h'), h⟩)
      · exact Or.inr (Or.inr ⟨Or.inr (Option.some.inj h'), h⟩)
  unfold fM_means fM_means_38
  rw [xk_gi h1 f19 (by decide), xe_bind]
  by_cases e0 : d.2.2.2.2.1 = []
  · rw [if_pos e0, xk_b0, xk_gi h1 f15 (by decide), xe_bind, xl_4, xq_ne (by omega) (by omega) (by omega) (by omega)]
    by_cases k3 : k = 3
    · rw [if_pos (by omega), xk_gi h1 f27 (by decide), xe_bind, xk_gi h1 f31 (by decide), xe_bind, xq_ne (by omega) (by omega) (by omega) (by omega)]
      by_cases e5 : m % 12 + 1 = m0 % 12 + 1
      · rw [if_pos e5]
        exact hYes ⟨Or.inl e0, fun _ _ => by omega⟩
      · rw [if_neg e5]
        exact ⟨0, hno, hYno fun h => e5 (by have := h.2 k3 e0; omega)⟩
    · rw [if_neg (by omega)]
      exact hYes ⟨Or.inl e0, fun h => absurd h k3⟩
  · rw [if_neg e0, xk_b1, xm_gr 44 h1 hR (by decide) (by decide), xe_bind, xk_gi h1 f27 (by decide), xe_bind, xk_ai a1 (by omega) (by omega) (by omega), xe_bind, show (((m % 12 + 1).toNat : Nat) : Int) = m % 12 + 1 by omega]
    by_cases e5 : (m % 12 + 1) ∈ d.2.2.2.2.1
    · rw [if_pos e5]
      exact hYes ⟨Or.inr e5, fun _ h => absurd h e0⟩
    · rw [if_neg e5]
      exact ⟨0, hno, hYno fun h => h.1.elim e0 e5⟩
theorem xf_per {A : xj_H} {p : Nat → Value} {d : xr_D} {s m0 t m : Int} (h : xf_Z A p d s m0 t m) {k : Nat} (hk : d.1 = some k) : ∃ b, fM_inPeriod (xj_o 34) (xI t) A = some (.inl (some (.int b)), A) ∧ xf_bb b (xf_I d s m0 t m) := by
  obtain ⟨h1, ⟨hR, f15, f16, f17, f18, f19, f22, f25, f29, f30, f31, f32⟩, ⟨f26, f27, f28⟩, ⟨a1, _, _, _, l1, l2⟩, hok, hmo, hm0, s0, st, t1⟩ := h
  have hk4 := hok.1 k hk
  have hvb := xf_vb hok
  have hfq : xr_fq d.1 = (k : Int) + 1 := by rw [hk]; rfl
  rw [hfq] at f15
  have hmb := xd_mo_b hmo t1
  have hmb0 := xd_mo_b hm0 (by omega)
  have hmm : m0 ≤ m := xf_mo_ge hmo hm0.1 (by have := hm0.2.1; omega)
  have o1 := hmo.1
  have i1 := hm0.1
  have h97 : ∀ v : Int, 0 ≤ v → v ≤ 100000 → (v % xf_v d = 0 ↔ xf_I d s m0 t m) → ∃ b, fM_inPeriod_97 (xj_o 34) (xI v) A = some (.inl (some (.int b)), A) ∧ xf_bb b (xf_I d s m0 t m) := by
    intro v v0 v1 hv
    have hmod := Int.emod_nonneg v (show xf_v d ≠ 0 by omega)
    have hmod2 := Int.emod_lt_of_pos v (show 0 < xf_v d by omega)
    unfold fM_inPeriod_97 fM_inPeriod_111
    rw [xk_gi h1 f16 (by decide), xe_bind, xl_0, xq_eq (by omega) (by omega) (by omega) (by omega), if_neg (by omega), xt_mod v0 (by omega) (by omega) (by omega), xq_ne (by omega) (by omega) (by omega) (by omega)]
    by_cases e : v % xf_v d = 0
    · rw [if_pos e]
      exact ⟨1, rfl, Or.inl ⟨rfl, hv.mp e⟩⟩
    · rw [if_neg e]
      exact ⟨0, rfl, Or.inr ⟨rfl, fun h => e (hv.mpr h)⟩⟩
  have g15 : xj_gi A (xj_o 34) 7 15 = some (xI ((k : Int) + 1)) := xk_gi h1 f15 (by decide)
  unfold fM_inPeriod
  rw [g15, xe_bind, xl_1, xq_ne (by omega) (by omega) (by omega) (by omega)]
  rcases (show k = 0 ∨ k = 1 ∨ k = 2 ∨ k = 3 by omega) with rfl | rfl | rfl | rfl
  · rw [if_pos (by omega), xk_gi h1 f29 (by decide), xe_bind, xI_sub]
    unfold fM_inPeriod_17 fM_inPeriod_48 fM_inPeriod_79
    rw [g15, xe_bind, xl_2, xq_ne (by omega) (by omega) (by omega) (by omega), if_neg (by omega), xe_bind, xl_3, xq_ne (by omega) (by omega) (by omega) (by omega), if_neg (by omega), xe_bind, xl_4, xq_ne (by omega) (by omega) (by omega) (by omega), if_neg (by omega)]
    refine h97 (t - s) (by omega) (by omega) ?_
    unfold xf_I
    rw [hk]; simp
  · rw [if_neg (by omega)]
    unfold fM_inPeriod_17 fM_inPeriod_48 fM_inPeriod_79
    rw [g15, xe_bind, xl_2, xq_ne (by omega) (by omega) (by omega) (by omega), if_pos (by omega), xv_weekday (by omega) (by omega), xe_bi, xk_gi h1 f29 (by decide), xe_bind, xe_bind, xv_weekday (by omega) (by omega), xe_bi, xI_sub, xI_sub, xI_add, xl_7, xt_div (by omega) (by omega) (by omega) (by omega), g15, xe_bind, xl_3, xq_ne (by omega) (by omega) (by omega) (by omega), if_neg (by omega), xe_bind, xl_4, xq_ne (by omega) (by omega) (by omega) (by omega), if_neg (by omega)]
    refine h97 ((t - (t + 5) % 7 - s + (s + 5) % 7) / 7) (by omega) (by omega) ?_
    unfold xf_I
    rw [hk]; simp
  · rw [if_neg (by omega)]
    unfold fM_inPeriod_17 fM_inPeriod_48 fM_inPeriod_79
    rw [g15, xe_bind, xl_2, xq_ne (by omega) (by omega) (by omega) (by omega), if_neg (by omega), xe_bind, xl_3, xq_ne (by omega) (by omega) (by omega) (by omega), if_pos (by omega), xk_gi h1 f26 (by decide), xe_bind, xk_gi h1 f30 (by decide), xe_bind, xk_gi h1 f27 (by decide), xe_bind, xk_gi h1 f31 (by decide), xe_bind, xI_sub, xl_12, xI_mul, xI_add, xI_sub, xe_bind, xl_4, xq_ne (by omega) (by omega) (by omega) (by omega), if_neg (by omega), show 12 * (m / 12 - m0 / 12) + (m % 12 + 1) - (m0 % 12 + 1) = m - m0 by omega]
    refine h97 (m - m0) (by omega) (by omega) ?_
    unfold xf_I
    rw [hk]; simp
  · rw [if_neg (by omega)]
    unfold fM_inPeriod_17 fM_inPeriod_48 fM_inPeriod_79
    rw [g15, xe_bind, xl_2, xq_ne (by omega) (by omega) (by omega) (by omega), if_neg (by omega), xe_bind, xl_3, xq_ne (by omega) (by omega) (by omega) (by omega), if_neg (by omega), xe_bind, xl_4, xq_ne (by omega) (by omega) (by omega) (by omega), if_pos (by omega), xk_gi h1 f26 (by decide), xe_bind, xk_gi h1 f30 (by decide), xe_bind, xI_sub]
    refine h97 (m / 12 - m0 / 12) (by omega) (by omega) ?_
    unfold xf_I
    rw [hk]; simp
theorem xf_beh {A : xj_H} {p : Nat → Value} {d : xr_D} {s m0 t m : Int} (h : xf_Z A p d s m0 t m) {k : Nat} (hk : d.1 = some k) (hno : ¬ xf_I d s m0 t m) : ∃ x, fM_behindPeriod (xj_o 34) (xI t) A = some (.inl (some (.int (xI x))), A) ∧ t < x ∧ x ≤ t + 400 ∧ ∀ u n, t ≤ u → u < x → xd_mo u n → ¬ xf_I d s m0 u n := by
  obtain ⟨h1, ⟨hR, f15, f16, f17, f18, f19, f22, f25, f29, f30, f31, f32⟩, ⟨f26, f27, f28⟩, ⟨a1, _, _, _, l1, l2⟩, hok, hmo, hm0, s0, st, t1⟩ := h
  have hk4 := hok.1 k hk
  have hvb := xf_vb hok
  have hfq : xr_fq d.1 = (k : Int) + 1 := by rw [hk]; rfl
  rw [hfq] at f15
  have hmb := xd_mo_b hmo t1
  obtain ⟨o1, o2, o3⟩ := id hmo
  have hb2 := xd_lt o1
  have hml : xf_ml m = xd_ms (m + 1) - xd_ms m := rfl
  have g15 : xj_gi A (xj_o 34) 7 15 = some (xI ((k : Int) + 1)) := xk_gi h1 f15 (by decide)
  unfold fM_behindPeriod
  rw [g15, xe_bind, xl_1, xq_ne (by omega) (by omega) (by omega) (by omega)]
  rcases (show k = 0 ∨ k = 1 ∨ k = 2 ∨ k = 3 by omega) with rfl | rfl | rfl | rfl
  · have hmod := Int.emod_nonneg (t - s) (show xf_v d ≠ 0 by omega)
    have hmod2 := Int.emod_lt_of_pos (t - s) (show 0 < xf_v d by omega)
    have hI : ∀ u n, xf_I d s m0 u n ↔ (u - s) % xf_v d = 0 := fun u n => by unfold xf_I; rw [hk]; simp
    have hne : (t - s) % xf_v d ≠ 0 := fun h => hno ((hI t m).mpr h)
    rw [if_pos (by omega), xk_gi h1 f16 (by decide), xe_bind, xk_gi h1 f29 (by decide), xe_bind, xe_bind, xl_0, xq_eq (by omega) (by omega) (by omega) (by omega), if_neg (by omega), xI_add, xI_sub, xt_mod (by omega) (by omega) (by omega) (by omega), xI_sub]
    refine ⟨t + xf_v d - (t - s) % xf_v d, rfl, by omega, by omega, fun u n u1 u2 _ hc => ?_⟩
    rw [hI] at hc
    have hd1 : (t - s - (t - s) % xf_v d) % xf_v d = 0 := by
      rw [Int.sub_emod, Int.emod_emod, Int.sub_self]; simp
    refine xf_em hd1 (r := u - t + (t - s) % xf_v d) (by omega) (by omega) ?_
    rw [show t - s - (t - s) % xf_v d + (u - t + (t - s) % xf_v d) = u - s by omega]; exact hc
  · have hI : ∀ u n, xf_I d s m0 u n ↔ ((u - (u + 5) % 7 - s + (s + 5) % 7) / 7) % xf_v d = 0 := fun u n => by unfold xf_I; rw [hk]; simp
    rw [if_neg (by omega), xe_bind, xl_2, xq_ne (by omega) (by omega) (by omega) (by omega), if_pos (by omega), xv_weekday (by omega) (by omega), xe_bi, xl_7, xI_add, xI_sub]
    refine ⟨t + 7 - (t + 5) % 7, rfl, by omega, by omega, fun u n u1 u2 _ hc => hno ?_⟩
    rw [hI] at hc ⊢
    rw [show t - (t + 5) % 7 - s + (s + 5) % 7 = u - (u + 5) % 7 - s + (s + 5) % 7 by omega]
    exact hc
  · have hI : ∀ u n, xf_I d s m0 u n ↔ (n - m0) % xf_v d = 0 := fun u n => by unfold xf_I; rw [hk]; simp
    rw [if_neg (by omega), xe_bind, xl_2, xq_ne (by omega) (by omega) (by omega) (by omega), if_neg (by omega), xe_bind, xl_3, xq_ne (by omega) (by omega) (by omega) (by omega), if_pos (by omega), xk_gi h1 f28 (by decide), xe_bind, xk_gi h1 f26 (by decide), xe_bind, xk_gi h1 f27 (by decide), xe_bind, xv_monthLength (by omega) (by omega) (by omega) (by omega), ← xf_mll o1, xe_bi, xI_sub, xI_add, xI_add]
    refine ⟨t - (t - xd_ms m + 1) + 1 + xf_ml m, rfl, by omega, by omega, fun u n u1 u2 hu hc => hno ?_⟩
    have : n = m := xd_mo_u hu ⟨o1, by omega, by omega⟩
    subst this
    rw [hI] at hc ⊢
    exact hc
  · have hI : ∀ u n, xf_I d s m0 u n ↔ (n / 12 - m0 / 12) % xf_v d = 0 := fun u n => by unfold xf_I; rw [hk]; simp
    have hy1 := xd_mono' (m := m + 1) (n := 12 * (m / 12 + 1)) (by omega) (by omega)
    have hy2 := xd_mono' (m := 12 * (m / 12)) (n := m) (by omega) (by omega)
    have hyy := xz_yb (y := m / 12) (by omega) (by omega)
    have hyl : xd_ms (12 * (m / 12 + 1)) ≤ xd_ms (12 * (m / 12)) + 366 := by
      have e1 := xd_ms_k (y := m / 12 + 1) (k := 0) (by omega) (by omega)
      have e2 := xd_ms_k (y := m / 12) (k := 0) (by omega) (by omega)
      rw [show 12 * (m / 12 + 1) + 0 = 12 * (m / 12 + 1) by omega] at e1
      rw [show 12 * (m / 12) + 0 = 12 * (m / 12) by omega] at e2
      rw [e1, e2]
      simp [xd_dm]
      omega
    rw [if_neg (by omega), xe_bind, xl_2, xq_ne (by omega) (by omega) (by omega) (by omega), if_neg (by omega), xe_bind, xl_3, xq_ne (by omega) (by omega) (by omega) (by omega), if_neg (by omega), xk_gi h1 f26 (by decide), xe_bind, xI_add, xv_yearBegin (by omega) (by omega), xe_bi]
    refine ⟨xd_ms (12 * (m / 12 + 1)), rfl, by omega, by omega, fun u n u1 u2 hu hc => hno ?_⟩
    have n1 := xf_mo_ge hu (a := m) o1 (by omega)
    have n2 := xf_mo_lt hu u2
    rw [hI] at hc ⊢
    rw [show m / 12 = n / 12 by omega]
    exact hc

/-! The reference: which days a rule means. -/
def xf_Q (p : Nat → Value) (d : xr_D) (s m0 : Int) : Prop := xm_R p ∧ p 15 = .int (xI (xr_fq d.1)) ∧ p 16 = .int (xI (xf_v d)) ∧ p 17 = .int (xI (xf_c0 d)) ∧ p 18 = .int (xI (xf_u0 d)) ∧ p 19 = .int (if d.2.2.2.2.1 = [] then 0 else 1) ∧ p 22 = .int (xI (d.2.2.2.2.2.1.length : Nat)) ∧ p 25 = .int (xI (d.2.2.2.2.2.2.length : Nat)) ∧ p 29 = .int (xI s) ∧ p 30 = .int (xI (m0 / 12)) ∧ p 31 = .int (xI (m0 % 12 + 1)) ∧ p 32 = .int (xI (s - xd_ms m0 + 1))
def xf_q (p : Nat → Value) (t m : Int) : Prop := p 26 = .int (xI (m / 12)) ∧ p 27 = .int (xI (m % 12 + 1)) ∧ p 28 = .int (xI (t - xd_ms m + 1))
theorem xf_mll {m : Int} (h : 0 ≤ m) : xf_ml m = xd_ml (m / 12) (m % 12 + 1) := by
  have := xd_step (y := m / 12) (m := m % 12 + 1) (by omega) (by omega) (by omega)
  rw [show 12 * (m / 12) + (m % 12 + 1) = m + 1 by omega, show m + 1 - 1 = m by omega] at this
  unfold xf_ml
  omega
/-- the reference at day t of month m -/
def xf_Z (A : xj_H) (p : Nat → Value) (d : xr_D) (s m0 t m : Int) : Prop := xk_o A 34 7 36 p ∧ xf_Q p d s m0 ∧ xf_q p t m ∧ xr_Ma A d ∧ xr_ok d ∧ xd_mo t m ∧ xd_mo s m0 ∧ 0 ≤ s ∧ s ≤ t ∧ t ≤ 36524
theorem xf_bN {A : xj_H} {p : Nat → Value} {d : xr_D} {s m0 t m : Int} (h : xf_Z A p d s m0 t m) : ∀ (z k : Nat) (b : Int32), k ≤ d.2.2.2.2.2.1.length → d.2.2.2.2.2.1.length - k < z → xf_bb b (∃ x ∈ d.2.2.2.2.2.1.take k, x = t - xd_ms m + 1 ∨ x = -(xf_ml m - (t - xd_ms m + 1) + 1)) →
    ∃ b', fM_byMonthDay_27 z (xj_o 34) b (xI (xf_ml m)) (xI k) A = some (.inl (some (.int b')), A) ∧ xf_bb b' (∃ x ∈ d.2.2.2.2.2.1, x = t - xd_ms m + 1 ∨ x = -(xf_ml m - (t - xd_ms m + 1) + 1))
  | 0, k, b, _, h, _ => by omega
  | z + 1, k, b, hk, hz, hb => by
    have ih := xf_bN h z (k + 1)
    obtain ⟨h1, ⟨hR, f15, f16, f17, f18, f19, f22, f25, f29, f30, f31, f32⟩, ⟨f26, f27, f28⟩, ⟨a1, ⟨f, g1, g2⟩, _, _, l1, l2⟩, hok, hmo, hm0, s0, st, t1⟩ := h
    obtain ⟨o1, o2, o3⟩ := id hmo
    have hml : xf_ml m = xd_ms (m + 1) - xd_ms m := rfl
    have hb2 := xd_lt o1
    have hb0 := xd_mono' (m := 0) (n := m) (by omega) o1
    have hz0 := xz_0
    rw [fM_byMonthDay_27, xk_gi h1 f22 (by decide), xe_bind, xq_le (by omega) (by omega) (by omega) (by omega)]
    by_cases hc : ((d.2.2.2.2.2.1.length : Nat) : Int) ≤ k
    · rw [if_pos hc]
      rw [List.take_of_length_le (by omega)] at hb
      refine ⟨b, ?_, hb⟩
      rcases hb with ⟨rfl, _⟩ | ⟨rfl, _⟩ <;> rfl
    · have hkl : k < d.2.2.2.2.2.1.length := by omega
      have hkk : d.2.2.2.2.2.1[k]? = some d.2.2.2.2.2.1[k] := List.getElem?_eq_getElem hkl
      have ht : d.2.2.2.2.2.1.take (k + 1) = d.2.2.2.2.2.1.take k ++ [d.2.2.2.2.2.1[k]] := by
        rw [List.take_add_one, hkk]; rfl
      have hval := g2 k _ hkk
      have hrng := hok.2.2.2.2.2.2.2.1 _ (List.mem_of_getElem? hkk)
      unfold xr_oku at hrng
      rw [if_neg hc]
      rw [show ((k + 1 : Nat) : Int) = (k : Int) + 1 from rfl] at ih
      unfold fM_byMonthDay_81 fM_byMonthDay_85 fM_byMonthDay_86
      rw [xl_1, xI_add, ← xl_1]
      have yes : d.2.2.2.2.2.1[k] = t - xd_ms m + 1 ∨ d.2.2.2.2.2.1[k] = -(xf_ml m - (t - xd_ms m + 1) + 1) → xf_bb 1 (∃ x ∈ d.2.2.2.2.2.1.take (k + 1), x = t - xd_ms m + 1 ∨ x = -(xf_ml m - (t - xd_ms m + 1) + 1)) := fun hx => Or.inl ⟨rfl, _, by rw [ht]; exact List.mem_append_right _ (List.mem_singleton.mpr rfl), hx⟩
      rcases hb with ⟨rfl, x, x1, x2⟩ | ⟨rfl, hn⟩
      · rw [xk_n1]
        exact ih 1 (by omega) (by omega) (Or.inl ⟨rfl, x, by rw [ht]; exact List.mem_append_left _ x1, x2⟩)
      · have no : ¬ (d.2.2.2.2.2.1[k] = t - xd_ms m + 1 ∨ d.2.2.2.2.2.1[k] = -(xf_ml m - (t - xd_ms m + 1) + 1)) → xf_bb 0 (∃ x ∈ d.2.2.2.2.2.1.take (k + 1), x = t - xd_ms m + 1 ∨ x = -(xf_ml m - (t - xd_ms m + 1) + 1)) := by
          intro hx
          refine Or.inr ⟨rfl, ?_⟩
          rintro ⟨x, x1, x2⟩
          rw [ht, List.mem_append, List.mem_singleton] at x1
          rcases x1 with x1 | rfl
          · exact hn ⟨x, x1, x2⟩
          · exact hx x2
        have hai : xj_ai A (xj_o 45) 0 (xI k) = some (xI d.2.2.2.2.2.1[k]) := by
          rw [xk_ai g1 (by omega) (by omega) (by omega), Int.toNat_natCast, hval]
        rw [xk_n0, xm_gr 45 h1 hR (by decide) (by decide), xe_bind, hai, xe_bind, xl_0, xq_le (by omega) (by omega) (by omega) (by omega), ← xl_0]
        by_cases hs : d.2.2.2.2.2.1[k] ≤ 0
        · rw [if_pos hs, xe_bind, hai, xe_bind, xk_gi h1 f28 (by decide), xe_bind, xl_1, xI_add, xI_add, xq_ne (by omega) (by omega) (by omega) (by omega), ← xl_1]
          by_cases he : xf_ml m + 1 + d.2.2.2.2.2.1[k] = t - xd_ms m + 1
          · rw [if_pos he]
            exact ih 1 (by omega) (by omega) (yes (by omega))
          · rw [if_neg he]
            exact ih 0 (by omega) (by omega) (no (by omega))
        · rw [if_neg hs, xe_bind, hai, xe_bind, xk_gi h1 f28 (by decide), xe_bind, xq_ne (by omega) (by omega) (by omega) (by omega)]
          by_cases he : d.2.2.2.2.2.1[k] = t - xd_ms m + 1
          · rw [if_pos he]
            exact ih 1 (by omega) (by omega) (yes (Or.inl he))
          · rw [if_neg he]
            exact ih 0 (by omega) (by omega) (no (by omega))
theorem xf_byN {A : xj_H} {p : Nat → Value} {d : xr_D} {s m0 t m : Int} (h : xf_Z A p d s m0 t m) : ∃ b, fM_byMonthDay (xj_o 34) A = some (.inl (some (.int b)), A) ∧ xf_bb b (xf_N d.2.2.2.2.2.1 (t - xd_ms m + 1) (xf_ml m)) := by
  have hL := xf_bN h
  obtain ⟨h1, ⟨hR, f15, f16, f17, f18, f19, f22, f25, f29, f30, f31, f32⟩, ⟨f26, f27, f28⟩, ⟨a1, ⟨f, g1, g2⟩, _, _, l1, l2⟩, hok, hmo, hm0, s0, st, t1⟩ := h
  have hm1 := xd_mo_b hmo t1
  have o1 := hmo.1
  have h12 : ∀ b, fM_byMonthDay_12 (xj_o 34) b A = fM_byMonthDay_27 xj_fu (xj_o 34) b (xI (xf_ml m)) (0 : Int32) A := by
    intro b
    unfold fM_byMonthDay_12
    rw [xk_gi h1 f26 (by decide), xe_bind, xk_gi h1 f27 (by decide), xe_bind, xv_monthLength (by omega) (by omega) (by omega) (by omega), ← xf_mll o1, xe_bi]
  unfold fM_byMonthDay
  rw [xk_gi h1 f22 (by decide), xe_bind, h12, h12, xl_0, xq_ne (by omega) (by omega) (by omega) (by omega)]
  by_cases hn : d.2.2.2.2.2.1 = []
  · rw [if_pos (by rw [hn]; rfl)]
    obtain ⟨z, hz, hz1⟩ := xj_fus
    rw [hz, fM_byMonthDay_27, xk_gi h1 f22 (by decide), xe_bind, xq_le (by omega) (by omega) (by omega) (by omega), if_pos (by rw [hn]; simp)]
    exact ⟨1, rfl, Or.inl ⟨rfl, Or.inl hn⟩⟩
  · have hl0 : d.2.2.2.2.2.1.length ≠ 0 := fun h => hn (List.length_eq_zero_iff.mp h)
    rw [if_neg (by omega)]
    obtain ⟨b, b1, b2⟩ := hL xj_fu 0 0 (by omega) (by unfold xj_fu; omega) (Or.inr ⟨rfl, by simp⟩)
    rw [show ((0 : Nat) : Int) = 0 from rfl, ← xl_0] at b1
    rw [← xl_0]
    refine ⟨b, b1, ?_⟩
    rcases b2 with ⟨rfl, x, x1, x2⟩ | ⟨rfl, hx⟩
    · refine Or.inl ⟨rfl, Or.inr ?_⟩
      rcases x2 with rfl | rfl
      · exact Or.inl x1
      · exact Or.inr x1
    · refine Or.inr ⟨rfl, ?_⟩
      rintro (h | h | h)
      · exact hn h
      · exact hx ⟨_, h, Or.inl rfl⟩
      · exact hx ⟨_, h, Or.inr rfl⟩
def xf_w1 (w n l : Int) (v : Int × Int) : Prop := v.1 = w ∧ (v.2 = 0 ∨ v.2 = (n - 1) / 7 + 1 ∨ v.2 = -((l - n) / 7 + 1))
theorem xf_bW {A : xj_H} {p : Nat → Value} {d : xr_D} {s m0 t m : Int} (h : xf_Z A p d s m0 t m) : ∀ (z k : Nat) (b : Int32), k ≤ d.2.2.2.2.2.2.length → d.2.2.2.2.2.2.length - k < z → xf_bb b (∃ v ∈ d.2.2.2.2.2.2.take k, xf_w1 ((t + 5) % 7) (t - xd_ms m + 1) (xf_ml m) v) →
    ∃ b', fM_byWeekday_56 z (xj_o 34) b (xI ((t + 5) % 7)) (xI ((t - xd_ms m + 1 + 6) / 7)) (xI ((xf_ml m - (t - xd_ms m + 1)) / 7 + 1)) (xI k) A = some (.inl (some (.int b')), A) ∧ xf_bb b' (∃ v ∈ d.2.2.2.2.2.2, xf_w1 ((t + 5) % 7) (t - xd_ms m + 1) (xf_ml m) v)
  | 0, k, b, _, h, _ => by omega
  | z + 1, k, b, hk, hz, hb => by
    have ih := xf_bW h z (k + 1)
    obtain ⟨h1, ⟨hR, f15, f16, f17, f18, f19, f22, f25, f29, f30, f31, f32⟩, ⟨f26, f27, f28⟩, ⟨a1, _, ⟨f, g1, g2⟩, ⟨e, e1, e2⟩, l1, l2⟩, hok, hmo, hm0, s0, st, t1⟩ := h
    obtain ⟨o1, o2, o3⟩ := id hmo
    have hml : xf_ml m = xd_ms (m + 1) - xd_ms m := rfl
    have hb2 := xd_lt o1
    have hb0 := xd_mono' (m := 0) (n := m) (by omega) o1
    have hz0 := xz_0
    rw [fM_byWeekday_56, xk_gi h1 f25 (by decide), xe_bind, xq_le (by omega) (by omega) (by omega) (by omega)]
    by_cases hc : ((d.2.2.2.2.2.2.length : Nat) : Int) ≤ k
    · rw [if_pos hc]
      rw [List.take_of_length_le (by omega)] at hb
      refine ⟨b, ?_, hb⟩
      rcases hb with ⟨rfl, _⟩ | ⟨rfl, _⟩ <;> rfl
    · have hkl : k < d.2.2.2.2.2.2.length := by omega
      have hkk : d.2.2.2.2.2.2[k]? = some d.2.2.2.2.2.2[k] := List.getElem?_eq_getElem hkl
      have ht : d.2.2.2.2.2.2.take (k + 1) = d.2.2.2.2.2.2.take k ++ [d.2.2.2.2.2.2[k]] := by
        rw [List.take_add_one, hkk]; rfl
      have hm1 : (d.2.2.2.2.2.2.map (fun v => v.1))[k]? = some (d.2.2.2.2.2.2[k]).1 := by
        rw [List.getElem?_map, hkk]; rfl
      have hm2 : (d.2.2.2.2.2.2.map (fun v => v.2))[k]? = some (d.2.2.2.2.2.2[k]).2 := by
        rw [List.getElem?_map, hkk]; rfl
      have hv1 := g2 k _ hm1
      have hv2 := e2 k _ hm2
      have hrng := hok.2.2.2.2.2.2.2.2 _ (List.mem_of_getElem? hkk)
      unfold xr_okw at hrng
      rw [if_neg hc]
      rw [show ((k + 1 : Nat) : Int) = (k : Int) + 1 from rfl] at ih
      unfold fM_byWeekday_115 fM_byWeekday_119 fM_byWeekday_120
      rw [xl_1, xI_add, ← xl_1]
      have yes : xf_w1 ((t + 5) % 7) (t - xd_ms m + 1) (xf_ml m) d.2.2.2.2.2.2[k] → xf_bb 1 (∃ v ∈ d.2.2.2.2.2.2.take (k + 1), xf_w1 ((t + 5) % 7) (t - xd_ms m + 1) (xf_ml m) v) := fun hx => Or.inl ⟨rfl, _, by rw [ht]; exact List.mem_append_right _ (List.mem_singleton.mpr rfl), hx⟩
      rcases hb with ⟨rfl, x, x1, x2⟩ | ⟨rfl, hn⟩
      · rw [xk_n1]
        exact ih 1 (by omega) (by omega) (Or.inl ⟨rfl, x, by rw [ht]; exact List.mem_append_left _ x1, x2⟩)
      · have no : ¬ xf_w1 ((t + 5) % 7) (t - xd_ms m + 1) (xf_ml m) d.2.2.2.2.2.2[k] → xf_bb 0 (∃ v ∈ d.2.2.2.2.2.2.take (k + 1), xf_w1 ((t + 5) % 7) (t - xd_ms m + 1) (xf_ml m) v) := by
          intro hx
          refine Or.inr ⟨rfl, ?_⟩
          rintro ⟨x, x1, x2⟩
          rw [ht, List.mem_append, List.mem_singleton] at x1
          rcases x1 with x1 | rfl
          · exact hn ⟨x, x1, x2⟩
          · exact hx x2
        rw [xk_n0, xm_gr 46 h1 hR (by decide) (by decide), xe_bind, xk_ai g1 (by omega) (by omega) (by omega), xe_bind, Int.toNat_natCast, hv1, xq_ne (by omega) (by omega) (by omega) (by omega)]
        have hai : xj_ai A (xj_o 47) 0 (xI k) = some (xI (d.2.2.2.2.2.2[k]).2) := by
          rw [xk_ai e1 (by omega) (by omega) (by omega), Int.toNat_natCast, hv2]
        by_cases c1 : (d.2.2.2.2.2.2[k]).1 = (t + 5) % 7
        · rw [if_pos c1, xm_gr 47 h1 hR (by decide) (by decide), xe_bind, hai, xe_bind, xl_0, xq_eq (by omega) (by omega) (by omega) (by omega), ← xl_0]
          by_cases c2 : (d.2.2.2.2.2.2[k]).2 = 0
          · rw [if_pos c2]
            exact ih 1 (by omega) (by omega) (yes ⟨c1, Or.inl c2⟩)
          · rw [if_neg c2, xe_bind, hai, xe_bind, xq_eq (by omega) (by omega) (by omega) (by omega)]
            by_cases c3 : (d.2.2.2.2.2.2[k]).2 = (t - xd_ms m + 1 + 6) / 7
            · rw [if_pos c3]
              exact ih 1 (by omega) (by omega) (yes ⟨c1, Or.inr (Or.inl (by omega))⟩)
            · rw [if_neg c3, xe_bind, hai, xe_bind, xI_neg, xq_ne (by omega) (by omega) (by omega) (by omega)]
              by_cases c4 : (d.2.2.2.2.2.2[k]).2 = -((xf_ml m - (t - xd_ms m + 1)) / 7 + 1)
              · rw [if_pos c4]
                exact ih 1 (by omega) (by omega) (yes ⟨c1, Or.inr (Or.inr c4)⟩)
              · rw [if_neg c4]
                refine ih 0 (by omega) (by omega) (no ?_)
                rintro ⟨_, h | h | h⟩ <;> omega
        · rw [if_neg c1]
          exact ih 0 (by omega) (by omega) (no fun h => c1 h.1)
theorem xf_byW {A : xj_H} {p : Nat → Value} {d : xr_D} {s m0 t m : Int} (h : xf_Z A p d s m0 t m) : ∃ b, fM_byWeekday (xj_o 34) (xI t) A = some (.inl (some (.int b)), A) ∧ xf_bb b (xf_W d.2.2.2.2.2.2 ((t + 5) % 7) (t - xd_ms m + 1) (xf_ml m)) := by
  have hL := xf_bW h
  obtain ⟨h1, ⟨hR, f15, f16, f17, f18, f19, f22, f25, f29, f30, f31, f32⟩, ⟨f26, f27, f28⟩, ⟨a1, _, _, _, l1, l2⟩, hok, hmo, hm0, s0, st, t1⟩ := h
  have hm1 := xd_mo_b hmo t1
  obtain ⟨o1, o2, o3⟩ := id hmo
  have hml : xf_ml m = xd_ms (m + 1) - xd_ms m := rfl
  have hb2 := xd_lt o1
  have h12 : ∀ b, fM_byWeekday_12 (xj_o 34) (xI t) b A = fM_byWeekday_56 xj_fu (xj_o 34) b (xI ((t + 5) % 7)) (xI ((t - xd_ms m + 1 + 6) / 7)) (xI ((xf_ml m - (t - xd_ms m + 1)) / 7 + 1)) (0 : Int32) A := by
    intro b
    unfold fM_byWeekday_12
    rw [xv_weekday (by omega) (by omega), xe_bi, xk_gi h1 f28 (by decide), xe_bind, xk_gi h1 f26 (by decide), xe_bind, xk_gi h1 f27 (by decide), xe_bind, xv_monthLength (by omega) (by omega) (by omega) (by omega), ← xf_mll o1, xe_bi, xk_gi h1 f28 (by decide), xe_bind, xl_6, xI_add, xl_7, xt_div (by omega) (by omega) (by omega) (by omega), xI_sub, xt_div (by omega) (by omega) (by omega) (by omega), xl_1, xI_add]
  unfold fM_byWeekday
  rw [xk_gi h1 f25 (by decide), xe_bind, h12, h12, xl_0, xq_ne (by omega) (by omega) (by omega) (by omega)]
  by_cases hn : d.2.2.2.2.2.2 = []
  · rw [if_pos (by rw [hn]; rfl)]
    obtain ⟨z, hz, hz1⟩ := xj_fus
    rw [hz, fM_byWeekday_56, xk_gi h1 f25 (by decide), xe_bind, xq_le (by omega) (by omega) (by omega) (by omega), if_pos (by rw [hn]; simp)]
    exact ⟨1, rfl, Or.inl ⟨rfl, Or.inl hn⟩⟩
  · have hl0 : d.2.2.2.2.2.2.length ≠ 0 := fun h => hn (List.length_eq_zero_iff.mp h)
    rw [if_neg (by omega)]
    obtain ⟨b, b1, b2⟩ := hL xj_fu 0 0 (by omega) (by unfold xj_fu; omega) (Or.inr ⟨rfl, by simp⟩)
    rw [show ((0 : Nat) : Int) = 0 from rfl, ← xl_0] at b1
    rw [← xl_0]
    refine ⟨b, b1, ?_⟩
    rcases b2 with ⟨rfl, x, x1, x2⟩ | ⟨rfl, hx⟩
    · exact Or.inl ⟨rfl, Or.inr ⟨x, x1, x2⟩⟩
    · refine Or.inr ⟨rfl, ?_⟩
      rintro (h | ⟨v, v1, v2⟩)
      · exact hn h
      · exact hx ⟨v, v1, v2⟩

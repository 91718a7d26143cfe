/-! The reference reads lists. -/
theorem xr_mwd {p0 : Nat → Value} {n i : Nat} {T : Nat → Int} {d : xr_D} {A : xj_H} {l : List Int} (hM : xr_M p0 A n i T d l) :
    xr_mout p0 A n T (fM_readWeekday (xj_o 34) A) (if d.2.2.2.2.2.2.length = 7 then none else (xr_wd1 l).map fun v => (xr_aw d [v.1], v.2)) := by
  obtain ⟨B, j, b1, b2, b3⟩ := xr_mt45 hM
  obtain ⟨C, c1, c2, c3, c4, c5⟩ := xr_md (most := 1) (by omega) (by omega) b3
  have hnv := xr_nvb (v := 0) (xr_sp_p (p := xr_dg) 1 (xr_un l)).1 (by omega)
  rw [show ((1 : Nat) : Int) = 1 from rfl] at c1
  have u : xr_MU A C := xk_t (xr_MU34 b2) (xr_MU34 c2)
  unfold fM_readWeekday fM_readWeekday_34
  rw [xr_Mrq hM, xl_45, b1, xe_bi, xr_Mrq b3, xl_1, c1, xe_bi, xl_0, xq_le (by omega) (by omega) (by omega) (by omega), xq_lt (by omega) (by omega) (by omega) (by omega), xl_5, xq_le (by omega) (by omega) (by omega) (by omega), ← xl_0, ← xl_1, xr_sg]
  by_cases h0 : (xr_sp xr_dg 1 (xr_un l)).1 = []
  · have hv : xr_mv' (xr_un l) 1 = -1 := by unfold xr_mv'; rw [if_pos h0]
    rw [hv, if_neg (by omega)]
    cases hs : xr_neg l with
    | true =>
      rw [if_pos rfl]
      refine xr_mo0 u c3 rfl ?_
      split
      · rfl
      · unfold xr_wd1
        rw [if_neg]; rfl
        rintro (⟨_, h⟩ | ⟨h, _⟩)
        · rw [hs] at h; cases h
        · rw [h0] at h; simp [xr_nv] at h
    | false =>
      rw [if_neg (by decide)]
      have := xr_m36 c3 false (v := -1) (by omega) (by omega)
      refine xr_moj u (xr_moc this ?_)
      congr 1
      unfold xr_wd1
      rw [if_pos (Or.inl ⟨h0, hs⟩)]
      split
      · rw [hs, h0]; rfl
      · rfl
  · have hv : xr_mv' (xr_un l) 1 = xr_nv 0 (xr_sp xr_dg 1 (xr_un l)).1 := by unfold xr_mv'; rw [if_neg h0]
    rw [hv] at c4 c5 ⊢
    rw [if_pos hnv]
    by_cases h1 : xr_nv 0 (xr_sp xr_dg 1 (xr_un l)).1 < 1
    · rw [if_pos h1]
      refine xr_mo0 u c3 rfl ?_
      split
      · rfl
      · unfold xr_wd1
        rw [if_neg]; rfl
        rintro (⟨h, _⟩ | ⟨h, _⟩)
        · exact h0 h
        · omega
    rw [if_neg h1]
    by_cases h2 : xr_nv 0 (xr_sp xr_dg 1 (xr_un l)).1 ≤ 5
    · rw [if_pos h2]
      have := xr_m36 c3 (xr_neg l) (v := xr_nv 0 (xr_sp xr_dg 1 (xr_un l)).1) (by omega) (by omega)
      refine xr_moj u (xr_moc this ?_)
      congr 1
      unfold xr_wd1
      rw [if_pos (Or.inr ⟨by omega, h2⟩), if_pos (show 0 ≤ xr_nv 0 (xr_sp xr_dg 1 (xr_un l)).1 from hnv)]
      split <;> rfl
    · rw [if_neg h2]
      refine xr_mo0 u c3 rfl ?_
      split
      · rfl
      · unfold xr_wd1
        rw [if_neg]; rfl
        rintro (⟨h, _⟩ | ⟨_, h⟩)
        · exact h0 h
        · omega
theorem xr_mnu {p0 : Nat → Value} {n i : Nat} {T : Nat → Int} {d : xr_D} {A : xj_H} {l : List Int} (hM : xr_M p0 A n i T d l) :
    xr_mout p0 A n T (fM_readMonthDay (xj_o 34) A) (if d.2.2.2.2.2.1.length = 8 then none else (xr_nu1 l).map fun v => (xr_an d [v.1], v.2)) := by
  obtain ⟨B, j, b1, b2, b3⟩ := xr_mt45 hM
  obtain ⟨C, c1, c2, c3, c4, c5⟩ := xr_md (most := 2) (by omega) (by omega) b3
  have hnv := xr_nvb (v := 0) (xr_sp_p (p := xr_dg) 2 (xr_un l)).1 (by omega)
  rw [show ((2 : Nat) : Int) = 2 from rfl] at c1
  have u : xr_MU A C := xk_t (xr_MU34 b2) (xr_MU34 c2)
  have hz : xr_mv' (xr_un l) 2 < 1 ∨ 31 < xr_mv' (xr_un l) 2 → xr_nu1 l = none := by
    intro h
    unfold xr_nu1
    rw [if_pos]
    unfold xr_mv' at h
    unfold xr_num
    split at h
    · rename_i h0
      rw [h0]; rfl
    · split <;> omega
  unfold fM_readMonthDay fM_readMonthDay_33
  rw [xr_Mrq hM, xl_45, b1, xe_bi, xr_Mrq b3, xl_2, c1, xe_bi, xl_1, xq_lt (by omega) (by omega) (by omega) (by omega), xl_31, xq_lt (by omega) (by omega) (by omega) (by omega), ← xl_1]
  by_cases h1 : xr_mv' (xr_un l) 2 < 1
  · rw [if_pos h1, hz (Or.inl h1)]
    refine xr_mo0 u c3 rfl ?_
    split <;> rfl
  rw [if_neg h1]
  by_cases h2 : 31 < xr_mv' (xr_un l) 2
  · rw [if_pos h2, hz (Or.inr h2)]
    refine xr_mo0 u c3 rfl ?_
    split <;> rfl
  rw [if_neg h2]
  have hv : xr_mv' (xr_un l) 2 = xr_num 2 31 (xr_un l) := by
    unfold xr_mv' at h1 h2 ⊢
    unfold xr_num
    split at h1
    · omega
    · rename_i h0
      rw [if_neg h0] at h2 ⊢
      rw [if_pos (by omega)]
  have hn1 : xr_nu1 l = some (if xr_neg l = true then -xr_num 2 31 (xr_un l) else xr_num 2 31 (xr_un l), (xr_sp xr_dg 2 (xr_un l)).2) := by
    unfold xr_nu1
    rw [if_neg (by omega)]
  rw [hn1]
  obtain ⟨⟨p, h1', h2', h3⟩, h4, h5, h6, ⟨a1, ⟨f, f1, f2⟩, ⟨g, g1, g2⟩, ⟨e, e1, e2⟩, l1, l2⟩, h8⟩ := c3
  have hc := h3.2.2.2.2.2.2.1
  rw [xk_gi h1' hc (by decide), xe_bind, xl_8, xq_ne (by omega) (by omega) (by omega) (by omega)]
  by_cases h7 : d.2.2.2.2.2.1.length = 8
  · rw [if_pos (by omega), if_pos h7]
    exact xr_mo0 u ⟨⟨p, h1', h2', h3⟩, h4, h5, h6, ⟨a1, ⟨f, f1, f2⟩, ⟨g, g1, g2⟩, ⟨e, e1, e2⟩, l1, l2⟩, h8⟩ rfl rfl
  rw [if_neg (by omega), if_neg h7, xm_gr 45 h1' h2'.1 (by decide) (by decide), xe_bind, xe_bind, xr_sg]
  have fin : ∀ x : Int, ∃ D, fM_readMonthDay_53 (xj_o 34) (xI x) (xI (d.2.2.2.2.2.1.length : Nat)) (xj_o 45) C = some (.inl (some (.int 1)), D) ∧ xr_MU A D ∧ xr_M p0 D n (j + (xr_sp xr_dg 2 (xr_un l)).1.length) T (xr_an d [x]) (xr_sp xr_dg 2 (xr_un l)).2 := by
    intro x
    obtain ⟨D, d1, d2, d3⟩ := xk_as x f1 (i := (d.2.2.2.2.2.1.length : Nat)) (by omega) (by omega) (by omega)
    have h1D := xk_ou h1' d3 (by decide)
    obtain ⟨E, k1, k2, k3⟩ := xk_pv (.int (xI ((d.2.2.2.2.2.1.length : Nat) + 1))) h1D (k := 22) (by decide)
    unfold fM_readMonthDay_53
    rw [d1, xe_bind, xk_gi h1D hc (by decide), xe_bind, xl_1, xI_add, k1, xe_bind]
    refine ⟨E, rfl, xk_t u (xk_t (xr_MUa d3 (by decide) (by decide)) (xr_MU34 k3)), ⟨⟨_, k2, xr_Mop h2' (by decide) (by decide) (by decide), ?_⟩, h4, h5, xk_au (xk_au h6 d3 (by decide)) k3 (by decide), ⟨xk_au (xk_au a1 d3 (by decide)) k3 (by decide), ⟨_, xk_au d2 k3 (by decide), ?_⟩, ⟨g, xk_au (xk_au g1 d3 (by decide)) k3 (by decide), g2⟩, ⟨e, xk_au (xk_au e1 d3 (by decide)) k3 (by decide), e2⟩, ?_, l2⟩, h8⟩⟩
    · obtain ⟨q1, q2, q3, q4, q5, q6, q7, q8⟩ := h3
      refine ⟨q1, q2, q3, q4, q5, q6, ?_, q8⟩
      rw [xk_p_e]
      simp [xr_an]
    · have := xr_hap f2 x
      simpa [xr_an] using this
    · simp [xr_an]; omega
  rw [hv]
  cases hs : xr_neg l with
  | false =>
    obtain ⟨D, d1, d2, d3⟩ := fin (xr_num 2 31 (xr_un l))
    rw [if_neg (by decide), if_neg (by decide)]
    exact Or.inr ⟨_, _, D, _, rfl, d1, d2, d3⟩
  | true =>
    obtain ⟨D, d1, d2, d3⟩ := fin (-xr_num 2 31 (xr_un l))
    rw [if_pos rfl, if_pos rfl, xI_neg]
    exact Or.inr ⟨_, _, D, _, rfl, d1, d2, d3⟩
/-- a list goes on, or ends -/
theorem xr_m80 {α : Type} {one : List Int → Option (α × List Int)} {p0 : Nat → Value} {n j : Nat} {T : Nat → Int} {d d1 : xr_D} {A B : xj_H} {l r : List Int} {m z : Nat} {kd k : Int} {ap : xr_D → List α → xr_D} {v : α} (u : xr_MU A B) (hM : xr_M p0 B n j T d1 r) (hw : one l = some (v, r)) (hd1 : d1 = ap d [v]) (hap : ∀ d v w, ap (ap d [v]) w = ap d (v :: w)) (hz : 1 ≤ z)
    (ih : ∀ (C : xj_H) (j : Nat) (r : List Int), xr_M p0 C n j T d1 r → xr_mout p0 C n T (fM_readList_4 z (xj_o 34) (xI kd) (xI (k + 1)) (xI 1) C) ((xr_list one m r).map fun v => (ap d1 v.1, v.2))) :
    xr_mout p0 A n T (fM_readList_80 (fM_readList_4 z) (xj_o 34) (xI kd) (xI k) B) ((xr_list one (m + 1) l).map fun v => (ap d v.1, v.2)) := by
  obtain ⟨C, j', r', c1, c2, c3, c4⟩ := xr_mtk hM (c := 44) (by omega) (by omega)
  unfold fM_readList_80
  rw [xr_Mrq hM, xl_44, c1, xe_bi, xl_1, xI_add]
  rcases c4 with ⟨e1, rfl⟩ | ⟨e1, rfl, e3⟩
  · rw [if_pos e1]
    have e : ((xr_list one (m + 1) l).map fun v => (ap d v.1, v.2)) = ((xr_list one m r').map fun w => (ap d1 w.1, w.2)) := by
      simp only [xr_list, hw, Option.bind_some, if_true, Option.map_map]
      congr 1
      funext w
      simp only [Function.comp]
      rw [hd1, hap]
    rw [e]
    exact xr_moj (xk_t u (xr_MU34 c2)) (ih C j' r' c3)
  · rw [if_neg e1]
    obtain ⟨y, rfl⟩ : ∃ y, z = y + 1 := ⟨z - 1, by omega⟩
    rw [fM_readList_4, xk_b0]
    have e : xr_list one (m + 1) l = some ([v], r') := by
      simp only [xr_list, hw, Option.bind_some]
      split
      · rfl
      · rename_i c r
        rw [if_neg]
        intro hc; exact e3 r (by rw [hc])
    rw [e]
    refine Or.inr ⟨_, _, C, j', rfl, rfl, xk_t u (xr_MU34 c2), ?_⟩
    simp only
    rw [← hd1]
    exact c3
theorem xr_mwL {p0 : Nat → Value} {n : Nat} {T : Nat → Int} : ∀ (m z : Nat) (k : Int) (i : Nat) (A : xj_H) (d : xr_D) (l : List Int), d.2.2.2.2.2.2.length + m = 7 → m + 1 < z → xr_M p0 A n i T d l →
    xr_mout p0 A n T (fM_readList_4 z (xj_o 34) (xI 0) (xI k) (xI 1) A) ((xr_list xr_wd1 m l).map fun v => (xr_aw d v.1, v.2))
  | _, 0, _, _, _, _, _, _, h, _ => by omega
  | m, z + 1, k, i, A, d, l, hk, hz, hM => by
    have hone := xr_mwd hM
    rw [fM_readList_4, ← xl_1, xk_b1, ← xl_0, if_pos (by decide), xk_n0, xr_Mrq hM]
    match m, hk, hz with
    | 0, hk, hz =>
      rw [if_pos (by omega)] at hone
      rcases hone with ⟨h1, B, b1, b2, b3⟩ | ⟨d', r, B, j, h1, b1, b2, b3⟩
      · rw [b1, xe_bi, xk_n0]
        exact Or.inl ⟨rfl, B, rfl, b2, b3⟩
      · cases h1
    | m + 1, hk, hz =>
      rw [if_neg (by omega)] at hone
      cases hw : xr_wd1 l with
      | none =>
        rw [hw] at hone
        rcases hone with ⟨h1, B, b1, b2, b3⟩ | ⟨d', r, B, j, h1, b1, b2, b3⟩
        · rw [b1, xe_bi, xk_n0]
          exact Or.inl ⟨by simp [xr_list, hw], B, rfl, b2, b3⟩
        · cases h1
      | some v =>
        rw [hw] at hone
        rcases hone with ⟨h1, B, b1, b2, b3⟩ | ⟨d', r, B, j, h1, b1, b2, b3⟩
        · cases h1
        · cases h1
          rw [b1, xe_bi, xk_n1]
          exact xr_m80 (ap := xr_aw) (v := v.1) b2 b3 hw rfl (fun d v w => by simp [xr_aw]) (by omega) (fun C j r hC => xr_mwL m z (k + 1) j C _ r (by simp [xr_aw]; omega) (by omega) hC)
theorem xr_mnL {p0 : Nat → Value} {n : Nat} {T : Nat → Int} : ∀ (m z : Nat) (k : Int) (i : Nat) (A : xj_H) (d : xr_D) (l : List Int), d.2.2.2.2.2.1.length + m = 8 → m + 1 < z → xr_M p0 A n i T d l →
    xr_mout p0 A n T (fM_readList_4 z (xj_o 34) (xI 1) (xI k) (xI 1) A) ((xr_list xr_nu1 m l).map fun v => (xr_an d v.1, v.2))
  | _, 0, _, _, _, _, _, _, h, _ => by omega
  | m, z + 1, k, i, A, d, l, hk, hz, hM => by
    have hone := xr_mnu hM
    rw [fM_readList_4, ← xl_1, xk_b1, if_pos (by decide), xk_n1, xr_Mrq hM]
    match m, hk, hz with
    | 0, hk, hz =>
      rw [if_pos (by omega)] at hone
      rcases hone with ⟨h1, B, b1, b2, b3⟩ | ⟨d', r, B, j, h1, b1, b2, b3⟩
      · rw [b1, xe_bi, xk_n0]
        exact Or.inl ⟨rfl, B, rfl, b2, b3⟩
      · cases h1
    | m + 1, hk, hz =>
      rw [if_neg (by omega)] at hone
      cases hw : xr_nu1 l with
      | none =>
        rw [hw] at hone
        rcases hone with ⟨h1, B, b1, b2, b3⟩ | ⟨d', r, B, j, h1, b1, b2, b3⟩
        · rw [b1, xe_bi, xk_n0]
          exact Or.inl ⟨by simp [xr_list, hw], B, rfl, b2, b3⟩
        · cases h1
      | some v =>
        rw [hw] at hone
        rcases hone with ⟨h1, B, b1, b2, b3⟩ | ⟨d', r, B, j, h1, b1, b2, b3⟩
        · cases h1
        · cases h1
          rw [b1, xe_bi, xk_n1]
          exact xr_m80 (ap := xr_an) (v := v.1) b2 b3 hw rfl (fun d v w => by simp [xr_an]) (by omega) (fun C j r hC => xr_mnL m z (k + 1) j C _ r (by simp [xr_an]; omega) (by omega) hC)
theorem xr_mmo {p0 : Nat → Value} {n j : Nat} {T : Nat → Int} {d : xr_D} {A : xj_H} {r : List Int} (hM : xr_M p0 A n j T d r) {v : Int} (v0 : 1 ≤ v) (v1 : v ≤ 12) : ∃ B C, xj_gr A (xj_o 34) 7 20 = some (xj_o 44) ∧ xj_as A (xj_o 44) 2 (xI v) (vp_nar .boolean (1 : Int32)) = some B ∧ xj_pz B (xj_o 34) 7 19 (1 : Int32) = some C ∧ xr_MU A C ∧ xr_M p0 C n j T (xr_am d [v]) r := by
  obtain ⟨⟨p, h1, h2, h3⟩, h4, h5, h6, ⟨a1, ⟨f, f1, f2⟩, ⟨g, g1, g2⟩, ⟨e, e1, e2⟩, l1, l2⟩, h8⟩ := hM
  obtain ⟨B, b1, b2, b3⟩ := xk_as 1 a1 (i := v) (by omega) (by omega) (by omega)
  have h1B := xk_ou h1 b3 (by decide)
  obtain ⟨C, c1, c2, c3⟩ := xk_pv (.int (1 : Int32)) h1B (k := 19) (by decide)
  refine ⟨B, C, xm_gr 44 h1 h2.1 (by decide) (by decide), b1, ?_, xk_t (xr_MUa b3 (by decide) (by decide)) (xr_MU34 c3), ⟨⟨_, c2, xr_Mop h2 (by decide) (by decide) (by decide), ?_⟩, h4, h5, xk_au (xk_au h6 b3 (by decide)) c3 (by decide), ⟨?_, ⟨f, xk_au (xk_au f1 b3 (by decide)) c3 (by decide), f2⟩, ⟨g, xk_au (xk_au g1 b3 (by decide)) c3 (by decide), g2⟩, ⟨e, xk_au (xk_au e1 b3 (by decide)) c3 (by decide), e2⟩, l1, l2⟩, h8⟩⟩
  · unfold xj_pz
    rw [if_pos (Or.inr rfl)]
    exact c1
  · obtain ⟨q1, q2, q3, q4, q5, q6, q7, q8⟩ := h3
    refine ⟨q1, q2, q3, q4, q5, ?_, q7, q8⟩
    rw [xk_p_e, if_neg (by simp [xr_am])]
  · refine xk_ac (xk_au b2 c3 (by decide)) fun k hk => ?_
    by_cases e : k = v.toNat
    · rw [e, xk_p_e, if_pos]
      simp [xr_am]; right; omega
    · rw [xk_p_n _ _ e]
      have hiff : (k : Int) ∈ d.2.2.2.2.1 ↔ (k : Int) ∈ (xr_am d [v]).2.2.2.2.1 := by
        simp [xr_am]; intro h; omega
      by_cases hm : (k : Int) ∈ d.2.2.2.2.1
      · rw [if_pos hm, if_pos (hiff.mp hm)]
      · rw [if_neg hm, if_neg (fun h => hm (hiff.mpr h))]
theorem xr_mmL {p0 : Nat → Value} {n : Nat} {T : Nat → Int} : ∀ (m z k : Nat) (i : Nat) (A : xj_H) (d : xr_D) (l : List Int), k + m = 8 → m + 1 < z → xr_M p0 A n i T d l →
    xr_mout p0 A n T (fM_readList_4 z (xj_o 34) (xI 2) (xI k) (xI 1) A) ((xr_list xr_mo1 m l).map fun v => (xr_am d v.1, v.2))
  | _, 0, _, _, _, _, _, _, h, _ => by omega
  | m, z + 1, k, i, A, d, l, hk, hz, hM => by
    obtain ⟨C, c1, c2, c3, c4, c5⟩ := xr_md (most := 2) (by omega) (by omega) hM
    have hnv := xr_nvb (v := 0) (xr_sp_p (p := xr_dg) 2 l).1 (by omega)
    rw [show ((2 : Nat) : Int) = 2 from rfl] at c1
    have hzz : xr_mv' l 2 < 1 ∨ 12 < xr_mv' l 2 → xr_mo1 l = none := by
      intro h
      unfold xr_mo1
      rw [if_pos]
      unfold xr_mv' at h
      unfold xr_num
      split at h
      · rename_i h0
        rw [h0]; rfl
      · split <;> omega
    have hno : xr_mo1 l = none → (xr_list xr_mo1 m l) = none := by
      intro h
      match m with
      | 0 => rfl
      | m + 1 => simp [xr_list, h]
    rw [fM_readList_4, ← xl_1, xk_b1, if_neg (by decide), xr_Mrq hM, xl_2, c1, xe_bi, xl_1, xq_lt (by omega) (by omega) (by omega) (by omega), xl_12, xq_lt (by omega) (by omega) (by omega) (by omega), ← xl_1]
    by_cases h1 : xr_mv' l 2 < 1
    · rw [if_pos h1, hno (hzz (Or.inl h1))]
      exact xr_mo0 (xr_MU34 c2) c3 rfl rfl
    rw [if_neg h1]
    by_cases h2 : 12 < xr_mv' l 2
    · rw [if_pos h2, hno (hzz (Or.inr h2))]
      exact xr_mo0 (xr_MU34 c2) c3 rfl rfl
    rw [if_neg h2, xl_8, xq_ne (by omega) (by omega) (by omega) (by omega)]
    match m, hk, hz with
    | 0, hk, hz =>
      rw [if_pos (by omega)]
      exact xr_mo0 (xr_MU34 c2) c3 rfl rfl
    | m + 1, hk, hz =>
      rw [if_neg (by omega)]
      have hv : xr_mv' l 2 = xr_num 2 12 l := by
        unfold xr_mv' at h1 h2 ⊢
        unfold xr_num
        split at h1
        · omega
        · rename_i h0
          rw [if_neg h0] at h2 ⊢
          rw [if_pos (by omega)]
      have hn1 : xr_mo1 l = some (xr_num 2 12 l, (xr_sp xr_dg 2 l).2) := by
        unfold xr_mo1
        rw [if_neg (by omega)]
      rw [hv]
      obtain ⟨D, E, d1, d2, d3, d4, d5⟩ := xr_mmo c3 (v := xr_num 2 12 l) (by omega) (by omega)
      rw [d1, xe_bind, d2, xe_bind, d3, xe_bind]
      exact xr_m80 (ap := xr_am) (v := xr_num 2 12 l) (xk_t (xr_MU34 c2) d4) d5 hn1 rfl (fun d v w => by simp [xr_am]) (by omega) (fun C j r hC => xr_mmL m z (k + 1) j C _ r (by omega) (by omega) hC)

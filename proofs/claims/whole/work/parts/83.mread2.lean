/-! The reference reads numbers, weekdays, days of the month. -/
theorem xj_fus : ∃ z, xj_fu = z + 1 ∧ 90000 ≤ z := ⟨99999, by unfold xj_fu; decide, by decide⟩
theorem xr_md {p0 : Nat → Value} {n i : Nat} {T : Nat → Int} {d : xr_D} {A : xj_H} {l : List Int} {most : Nat} (hm0 : 1 ≤ most) (hm : most ≤ 8) (hM : xr_M p0 A n i T d l) :
    ∃ B, fM_digits (xj_o 34) (xI most) A = some (.inl (some (.int (xI (xr_mv' l most)))), B) ∧ xk_u (fun k => k = 34) A B ∧ xr_M p0 B n (i + (xr_sp xr_dg most l).1.length) T d (xr_sp xr_dg most l).2 ∧ -1 ≤ xr_mv' l most ∧ xr_mv' l most < 100000000 := by
  obtain ⟨z, hz, hz1⟩ := xj_fus
  have hb := xr_hd_b hM.2.2.2.2.2
  have ha := hM.2.2.2.2.2
  have hp8 := xr_p8 hm
  unfold fM_digits
  rw [hz, fM_digits_4, xl_0, xq_le (by omega) (by omega) (by omega) (by omega), if_neg (by omega), xr_Mrq hM, xr_look hM, xe_bi, xl_48, xq_lt (by omega) (by omega) (by omega) (by omega)]
  have stop : (∀ c r, l = c :: r → xr_dg c = false) → ∃ B, (some (.inl (some (.int (-1 : Int32))), A) : Option xj_R) = some (.inl (some (.int (xI (xr_mv' l most)))), B) ∧ xk_u (fun k => k = 34) A B ∧ xr_M p0 B n (i + (xr_sp xr_dg most l).1.length) T d (xr_sp xr_dg most l).2 ∧ -1 ≤ xr_mv' l most ∧ xr_mv' l most < 100000000 := by
    intro hs
    unfold xr_mv'
    rw [xr_sp_n hs, if_pos rfl]
    exact ⟨A, rfl, xk_r _ _, hM, by omega, by omega⟩
  by_cases h1 : xr_hd l < 48
  · rw [if_pos h1]
    exact stop fun c r e => by rw [e, xr_hd] at h1; simp [xr_dg]; omega
  rw [if_neg h1, xr_Mrq hM, xr_look hM, xe_bi, xl_57, xq_lt (by omega) (by omega) (by omega) (by omega)]
  by_cases h2 : 57 < xr_hd l
  · rw [if_pos h2]
    exact stop fun c r e => by rw [e, xr_hd] at h2; simp [xr_dg]; omega
  rw [if_neg h2, xl_m1, xq_le (by omega) (by omega) (by omega) (by omega), if_neg (by omega)]
  unfold fM_digits_39
  rw [xr_Mrq hM, xr_look hM, xe_bi, xr_Mat hM, xe_bind, xl_1, xI_add]
  match l, hM, ha, hb, h1, h2 with
  | [], hM, ha, hb, h1, h2 => simp [xr_hd] at h1
  | c :: r, hM, ha, hb, h1, h2 =>
    simp only [xr_hd] at h1 h2 hb ⊢
    obtain ⟨B, b1, b2, b3⟩ := xr_Mmv hM (i + 1)
    rw [show ((i + 1 : Nat) : Int) = (i : Int) + 1 from rfl] at b1
    have hl : xr_dg c = true := by simp [xr_dg]; omega
    rw [b1, xe_bind, xI_add, xl_48, xI_sub, xI_add]
    obtain ⟨C, c1, c2, c3, c4, c5⟩ := xr_mdL hm z 1 (i + 1) (0 + c - 48) B r (by omega) (by omega) (b3 r (xr_at_1 ha)) (by omega) (by simp; omega)
    rw [show ((1 : Nat) : Int) = 0 + 1 from rfl] at c1
    have hsp : xr_sp xr_dg most (c :: r) = (c :: (xr_sp xr_dg (most - 1) r).1, (xr_sp xr_dg (most - 1) r).2) := by
      obtain ⟨m, rfl⟩ : ∃ m, most = m + 1 := ⟨most - 1, by omega⟩
      rw [xr_sp, if_pos hl, Nat.add_sub_cancel]
    unfold xr_mv'
    rw [hsp, if_neg (by simp)]
    simp only [xr_nv, List.length_cons]
    rw [show i + ((xr_sp xr_dg (most - 1) r).1.length + 1) = i + 1 + (xr_sp xr_dg (most - 1) r).1.length by omega, show (10 * 0 + c - 48 : Int) = 0 + c - 48 by omega]
    exact ⟨C, c1, xk_t b2 c2, c3, by omega, by omega⟩
theorem xr_wdw (l : List Int) : xr_wday l = if (xr_sp xr_lt 2 l).1 = [77, 79] then 0 else if (xr_sp xr_lt 2 l).1 = [84, 85] then 1 else if (xr_sp xr_lt 2 l).1 = [87, 69] then 2 else if (xr_sp xr_lt 2 l).1 = [84, 72] then 3 else if (xr_sp xr_lt 2 l).1 = [70, 82] then 4 else if (xr_sp xr_lt 2 l).1 = [83, 65] then 5 else if (xr_sp xr_lt 2 l).1 = [83, 85] then 6 else -1 := by
  match l with
  | [] => simp [xr_sp, xr_wday]
  | [a] =>
    by_cases h : xr_lt a = true
    · simp [xr_sp, xr_wday, h]
    · simp [xr_sp, xr_wday, h]
  | a :: b :: r =>
    by_cases h : xr_lt a = true
    · by_cases g : xr_lt b = true
      · simp [xr_sp, xr_wday, h, g, xr_wi]
      · have g' : ¬ (65 ≤ b ∧ b ≤ 90) := by simpa [xr_lt] using g
        simp only [xr_sp, xr_wday, h, g, xr_wi]
        simp
        repeat rw [if_neg (by omega)]
    · have h' : ¬ (65 ≤ a ∧ a ≤ 90) := by simpa [xr_lt] using h
      simp only [xr_sp, xr_wday, h, xr_wi]
      simp
      repeat rw [if_neg (by omega)]
theorem xr_mwo {l : List Int} (A : xj_H) : fM_weekdayOf (xL (xr_ln 0 (xr_sp xr_lt 2 l).1)) A = some (.inl (some (.int (xI (xr_wday l)))), A) := by
  have hp := xr_sp_p (p := xr_lt) 2 l
  have e0 := xL_eq (K := 431) (v := [77, 79]) (by decide) hp.1 (by omega) (by decide) (by decide)
  have e1 := xL_eq (K := 661) (v := [84, 85]) (by decide) hp.1 (by omega) (by decide) (by decide)
  have e2 := xL_eq (K := 741) (v := [87, 69]) (by decide) hp.1 (by omega) (by decide) (by decide)
  have e3 := xL_eq (K := 648) (v := [84, 72]) (by decide) hp.1 (by omega) (by decide) (by decide)
  have e4 := xL_eq (K := 210) (v := [70, 82]) (by decide) hp.1 (by omega) (by decide) (by decide)
  have e5 := xL_eq (K := 609) (v := [83, 65]) (by decide) hp.1 (by omega) (by decide) (by decide)
  have e6 := xL_eq (K := 629) (v := [83, 85]) (by decide) hp.1 (by omega) (by decide) (by decide)
  unfold fM_weekdayOf fM_weekdayOf_76
  rw [xr_wdw l]
  by_cases h0 : (xr_sp xr_lt 2 l).1 = [77, 79]
  · rw [if_neg (fun h => h (e0.mpr h0)), if_pos h0]; rfl
  rw [if_pos (fun h => h0 (e0.mp h)), if_neg h0]
  by_cases h1 : (xr_sp xr_lt 2 l).1 = [84, 85]
  · rw [if_neg (fun h => h (e1.mpr h1)), if_pos h1]; rfl
  rw [if_pos (fun h => h1 (e1.mp h)), if_neg h1]
  by_cases h2 : (xr_sp xr_lt 2 l).1 = [87, 69]
  · rw [if_neg (fun h => h (e2.mpr h2)), if_pos h2]; rfl
  rw [if_pos (fun h => h2 (e2.mp h)), if_neg h2]
  by_cases h3 : (xr_sp xr_lt 2 l).1 = [84, 72]
  · rw [if_neg (fun h => h (e3.mpr h3)), if_pos h3]; rfl
  rw [if_pos (fun h => h3 (e3.mp h)), if_neg h3]
  by_cases h4 : (xr_sp xr_lt 2 l).1 = [70, 82]
  · rw [if_neg (fun h => h (e4.mpr h4)), if_pos h4]; rfl
  rw [if_pos (fun h => h4 (e4.mp h)), if_neg h4]
  by_cases h5 : (xr_sp xr_lt 2 l).1 = [83, 65]
  · rw [if_neg (fun h => h (e5.mpr h5)), if_pos h5]; rfl
  rw [if_pos (fun h => h5 (e5.mp h)), if_neg h5]
  by_cases h6 : (xr_sp xr_lt 2 l).1 = [83, 85]
  · rw [if_neg (fun h => h (e6.mpr h6)), if_pos h6]; rfl
  rw [if_pos (fun h => h6 (e6.mp h)), if_neg h6]; rfl
theorem xr_wd2 {l : List Int} (h : 0 ≤ xr_wday l) : (xr_sp xr_lt 2 l).2 = l.drop 2 := by
  have hw := xr_wdw l
  have ha := xr_sp_a (p := xr_lt) 2 l
  have h2 : ∀ a b : Int, (xr_sp xr_lt 2 l).1 = [a, b] → (xr_sp xr_lt 2 l).2 = l.drop 2 := by
    intro a b e
    have : l = [a, b] ++ (xr_sp xr_lt 2 l).2 := by rw [← e]; exact ha.symm
    generalize (xr_sp xr_lt 2 l).2 = q at this ⊢
    rw [this]; rfl
  by_cases h0 : (xr_sp xr_lt 2 l).1 = [77, 79]
  · exact h2 _ _ h0
  by_cases h1 : (xr_sp xr_lt 2 l).1 = [84, 85]
  · exact h2 _ _ h1
  by_cases h3 : (xr_sp xr_lt 2 l).1 = [87, 69]
  · exact h2 _ _ h3
  by_cases h4 : (xr_sp xr_lt 2 l).1 = [84, 72]
  · exact h2 _ _ h4
  by_cases h5 : (xr_sp xr_lt 2 l).1 = [70, 82]
  · exact h2 _ _ h5
  by_cases h6 : (xr_sp xr_lt 2 l).1 = [83, 65]
  · exact h2 _ _ h6
  by_cases h7 : (xr_sp xr_lt 2 l).1 = [83, 85]
  · exact h2 _ _ h7
  rw [if_neg h0, if_neg h1, if_neg h3, if_neg h4, if_neg h5, if_neg h6, if_neg h7] at hw
  omega
def xr_mout (p0 : Nat → Value) (A : xj_H) (n : Nat) (T : Nat → Int) (f : Option xj_R) (o : Option (xr_D × List Int)) : Prop :=
  (o = none ∧ ∃ B, f = some (.inl (some (.int 0)), B) ∧ xr_MU A B ∧ xr_G p0 B) ∨ ∃ d' r B j, o = some (d', r) ∧ f = some (.inl (some (.int 1)), B) ∧ xr_MU A B ∧ xr_M p0 B n j T d' r
theorem xr_moj {p0 : Nat → Value} {A B : xj_H} {n : Nat} {T : Nat → Int} {f : Option xj_R} {o : Option (xr_D × List Int)} (u : xr_MU A B) (h : xr_mout p0 B n T f o) : xr_mout p0 A n T f o := by
  rcases h with ⟨h1, C, c1, c2, c3⟩ | ⟨d', r, C, j, h1, c1, c2, c3⟩
  · exact Or.inl ⟨h1, C, c1, xk_t u c2, c3⟩
  · exact Or.inr ⟨d', r, C, j, h1, c1, xk_t u c2, c3⟩
theorem xr_moc {p0 : Nat → Value} {A : xj_H} {n : Nat} {T : Nat → Int} {f : Option xj_R} {o o' : Option (xr_D × List Int)} (h : xr_mout p0 A n T f o) (e : o' = o) : xr_mout p0 A n T f o' := e ▸ h
theorem xr_mo0 {p0 : Nat → Value} {A B : xj_H} {n i : Nat} {T : Nat → Int} {d : xr_D} {l : List Int} {f : Option xj_R} {o : Option (xr_D × List Int)} (u : xr_MU A B) (hM : xr_M p0 B n i T d l) (hf : f = some (.inl (some (.int 0)), B)) (ho : o = none) : xr_mout p0 A n T f o := Or.inl ⟨ho, B, hf, u, xr_MG hM⟩
theorem xr_mt45 {p0 : Nat → Value} {n i : Nat} {T : Nat → Int} {d : xr_D} {A : xj_H} {l : List Int} (hM : xr_M p0 A n i T d l) : ∃ B j, fM_takes (xj_o 34) (xI 45) A = some (.inl (some (.int (if xr_neg l = true then 1 else 0))), B) ∧ xk_u (fun k => k = 34) A B ∧ xr_M p0 B n j T d (xr_un l) := by
  obtain ⟨B, j, r, b1, b2, b3, b4⟩ := xr_mtk hM (c := 45) (by omega) (by omega)
  rcases b4 with ⟨h1, rfl⟩ | ⟨h1, rfl, h3⟩
  · rw [if_pos h1] at b1
    exact ⟨B, j, b1, b2, b3⟩
  · rw [if_neg h1] at b1
    have hn : xr_neg r = false := by
      unfold xr_neg
      split
      · rename_i c r
        rw [beq_eq_false_iff_ne]
        intro h; exact h3 r (by rw [h])
      · rfl
    have hu : xr_un r = r := by
      unfold xr_un
      split
      · rename_i c r
        rw [if_neg]
        intro h; exact h3 r (by rw [h])
      · rfl
    rw [hn, hu]
    exact ⟨B, j, b1, b2, b3⟩
theorem xr_hap {f : Nat → Int} {L : List Int} (h : xu_h f L) (x : Int) : xu_h (xk_p f L.length x) (L ++ [x]) := by
  intro k y hk
  by_cases e : k < L.length
  · rw [List.getElem?_append_left e] at hk
    rw [xk_p_n _ _ (by omega)]
    exact h k y hk
  · rw [List.getElem?_append_right (by omega)] at hk
    have : k = L.length := by
      have := (List.getElem?_eq_some_iff.mp hk).1
      simp at this
      omega
    subst this
    simp at hk
    rw [xk_p_e, hk]
theorem xr_m36 {p0 : Nat → Value} {n i : Nat} {T : Nat → Int} {d : xr_D} {A : xj_H} {l : List Int} (hM : xr_M p0 A n i T d l) (s : Bool) {v : Int} (v0 : -1 ≤ v) (v1 : v ≤ 5) :
    xr_mout p0 A n T (fM_readWeekday_36 (xj_o 34) (if s = true then 1 else 0) (xI v) A) (if d.2.2.2.2.2.2.length = 7 then none else if 0 ≤ xr_wday l then some (xr_aw d [(xr_wday l, if 0 ≤ v then (if s = true then -v else v) else 0)], l.drop 2) else none) := by
  have hb := xr_wday_b l
  obtain ⟨B, b1, b2, b3⟩ := xr_ml (most := 2) (by omega) hM
  rw [show ((2 : Nat) : Int) = 2 from rfl] at b1
  unfold fM_readWeekday_36
  rw [xr_Mrq hM, xl_2, b1, show ∀ (v : Int64) (A : xj_H) (K : Int64 → xj_H → Option xj_R), xj_bl (some (.inl (some (.long v)), A)) K = K v A from fun _ _ _ => rfl, xr_mwo, xe_bi, xl_0, xq_lt (by omega) (by omega) (by omega) (by omega)]
  by_cases hw : xr_wday l < 0
  · rw [if_pos hw]
    refine xr_mo0 (xr_MU34 b2) b3 rfl ?_
    split
    · rfl
    · rw [if_neg (by omega)]
  rw [if_neg hw]
  rw [xr_wd2 (by omega)] at b3
  obtain ⟨⟨p, h1, h2, h3⟩, h4, h5, h6, ⟨a1, ⟨f, f1, f2⟩, ⟨g, g1, g2⟩, ⟨e, e1, e2⟩, l1, l2⟩, h8⟩ := b3
  have hc := h3.2.2.2.2.2.2.2
  rw [xk_gi h1 hc (by decide), xe_bind, xl_7, xq_ne (by omega) (by omega) (by omega) (by omega)]
  by_cases h7 : d.2.2.2.2.2.2.length = 7
  · rw [if_pos (by omega), if_pos h7]
    exact xr_mo0 (xr_MU34 b2) ⟨⟨p, h1, h2, h3⟩, h4, h5, h6, ⟨a1, ⟨f, f1, f2⟩, ⟨g, g1, g2⟩, ⟨e, e1, e2⟩, l1, l2⟩, h8⟩ rfl rfl
  rw [if_neg (by omega), if_neg h7, if_pos (show 0 ≤ xr_wday l by omega)]
  obtain ⟨C, c1, c2, c3⟩ := xk_as (xr_wday l) g1 (i := (d.2.2.2.2.2.2.length : Nat)) (by omega) (by omega) (by omega)
  have h1C := xk_ou h1 c3 (by decide)
  have e1C := xk_au e1 c3 (by decide)
  rw [xm_gr 46 h1 h2.1 (by decide) (by decide), xe_bind, xe_bind, c1, xe_bind, xm_gr 47 h1C h2.1 (by decide) (by decide), xe_bind, xk_gi h1C hc (by decide), xe_bind, xq_le (by omega) (by omega) (by omega) (by omega)]
  have fin : ∀ x : Int, ∃ D, fM_readWeekday_96 (xj_o 34) (xI x) (xI (d.2.2.2.2.2.2.length : Nat)) (xj_o 47) C = some (.inl (some (.int 1)), D) ∧ xr_MU A D ∧ xr_M p0 D n (i + (xr_sp xr_lt 2 l).1.length) T (xr_aw d [(xr_wday l, x)]) (l.drop 2) := by
    intro x
    obtain ⟨D, d1, d2, d3⟩ := xk_as x e1C (i := (d.2.2.2.2.2.2.length : Nat)) (by omega) (by omega) (by omega)
    have h1D := xk_ou h1C d3 (by decide)
    obtain ⟨E, k1, k2, k3⟩ := xk_pv (.int (xI ((d.2.2.2.2.2.2.length : Nat) + 1))) h1D (k := 25) (by decide)
    unfold fM_readWeekday_96
    rw [d1, xe_bind, xk_gi h1D hc (by decide), xe_bind, xl_1, xI_add, k1, xe_bind]
    refine ⟨E, rfl, xk_t (xr_MU34 b2) (xk_t (xr_MUa c3 (by decide) (by decide)) (xk_t (xr_MUa d3 (by decide) (by decide)) (xr_MU34 k3))), ⟨⟨_, k2, xr_Mop h2 (by decide) (by decide) (by decide), ?_⟩, h4, h5, xk_au (xk_au (xk_au h6 c3 (by decide)) d3 (by decide)) k3 (by decide), ⟨xk_au (xk_au (xk_au a1 c3 (by decide)) d3 (by decide)) k3 (by decide), ⟨f, xk_au (xk_au (xk_au f1 c3 (by decide)) d3 (by decide)) k3 (by decide), f2⟩, ⟨_, xk_au (xk_au c2 d3 (by decide)) k3 (by decide), ?_⟩, ⟨_, xk_au d2 k3 (by decide), ?_⟩, l1, ?_⟩, h8⟩⟩
    · obtain ⟨q1, q2, q3, q4, q5, q6, q7, q8⟩ := h3
      refine ⟨q1, q2, q3, q4, q5, q6, q7, ?_⟩
      rw [xk_p_e]
      simp [xr_aw]
    · have := xr_hap g2 (xr_wday l)
      rw [List.length_map] at this
      simpa [xr_aw] using this
    · have := xr_hap e2 x
      rw [List.length_map] at this
      simpa [xr_aw] using this
    · simp [xr_aw]; omega
  by_cases hv : 0 ≤ v
  · rw [if_pos hv, if_pos hv, ← xl_0, xr_sg]
    cases s with
    | false =>
      obtain ⟨D, d1, d2, d3⟩ := fin v
      rw [if_neg (by decide), if_neg (by decide)]
      exact Or.inr ⟨_, _, D, _, rfl, d1, d2, d3⟩
    | true =>
      obtain ⟨D, d1, d2, d3⟩ := fin (-v)
      rw [if_pos rfl, if_pos rfl, xI_neg]
      exact Or.inr ⟨_, _, D, _, rfl, d1, d2, d3⟩
  · rw [if_neg hv, if_neg hv]
    obtain ⟨D, d1, d2, d3⟩ := fin 0
    exact Or.inr ⟨_, _, D, _, rfl, d1, d2, d3⟩

/-! The class reads lists. -/
theorem xr_oj {A B : xj_H} {q tx ru n : Nat} {T : Nat → Int} {f : Option xj_R} {o : Option (xr_D × List Int)} (u : xr_J q ru A B) (h : xr_out B q tx ru n T f o) : xr_out A q tx ru n T f o := by
  rcases h with ⟨h1, C, c1, c2⟩ | ⟨d', r, C, j, h1, c1, c2, c3⟩
  · exact Or.inl ⟨h1, C, c1, xk_t u c2⟩
  · exact Or.inr ⟨d', r, C, j, h1, c1, xk_t u c2, c3⟩
theorem xr_tk45 {A : xj_H} {q tx ru n i : Nat} {T : Nat → Int} {d : xr_D} {l : List Int} (hd : xr_dis q tx ru n) (hC : xr_C A q tx ru n i T d l) :
    ∃ B j, fQ_take (xj_o q) (xI 45) A = some (.inl (some (.int (if xr_neg l = true then 1 else 0))), B) ∧ xr_C B q tx ru n j T d (xr_un l) ∧ xk_u (fun k => k = q) A B := by
  rcases xr_take hC.1 hC.2.1 hd.2.2.2 hC.2.2.2 (c := 45) (by omega) (by omega) with ⟨r, B, rfl, c2, c3, c4, c5⟩ | ⟨c1, c2⟩
  · exact ⟨B, i + 1, c2, xr_Cm hd hC c3 c4 c5, c4⟩
  · have hn : xr_neg l = false := by
      unfold xr_neg
      split
      · rename_i c r
        rw [beq_eq_false_iff_ne]
        intro h; exact c1 r (by rw [h])
      · rfl
    have hu : xr_un l = l := by
      unfold xr_un
      split
      · rename_i c r
        rw [if_neg]
        intro h; exact c1 r (by rw [h])
      · rfl
    refine ⟨A, i, ?_, ?_, xk_r _ _⟩
    · rw [c2, hn]; rfl
    · rw [hu]; exact hC
theorem xr_tnC {A : xj_H} {q tx ru n i : Nat} {T : Nat → Int} {d : xr_D} {l : List Int} (hd : xr_dis q tx ru n) (hC : xr_C A q tx ru n i T d l) {most : Nat} (hm : most ≤ 8) {hi : Int} (hi0 : 0 ≤ hi) (hi1 : hi ≤ 100000000) :
    ∃ B, fQ_takeNumber (xj_o q) (xI most) (xI hi) A = some (.inl (some (.int (xI (xr_num most hi l)))), B) ∧ xr_C B q tx ru n (i + (xr_sp xr_dg most l).1.length) T d (xr_sp xr_dg most l).2 ∧ xk_u (fun k => k = q) A B := by
  obtain ⟨B, b1, b2, b3, b4, b5, b6⟩ := xr_tn hd.2.2.2 hd.1 hm hi0 hi1 hC.1 hC.2.1 hC.2.2.2
  exact ⟨B, b1, xr_Cm hd hC b2 b3 b4, b3⟩
theorem xr_rw33 {A : xj_H} {q tx ru n i : Nat} {T : Nat → Int} {d : xr_D} {l : List Int} (hd : xr_dis q tx ru n) (hC : xr_C A q tx ru n i T d l) {v : Int} (v0 : 0 ≤ v) (v1 : v ≤ 5) (s : Bool) :
    xr_out A q tx ru n T (fQ_readWeekday_33 (xj_o q) (if s = true then 1 else 0) (xI v) A) (if 0 ≤ xr_wday l then some (xr_aw d [(xr_wday l, if s = true then -v else v)], l.drop 2) else none) := by
  have hb := xr_wday_b l
  unfold fQ_readWeekday_33
  rw [xe_rq hC.1]
  rcases xr_twd hd.2.2.2 hC.1 hC.2.1 hC.2.2.2 with ⟨B, h1, h2, h3, h4, h5⟩ | ⟨h1, h2⟩
  · have hB := xr_Cm hd hC h3 h4 h5
    obtain ⟨C, c1, c2, c3⟩ := xr_addW hB.2.2.1 h1 hb.2 v0 v1 s
    obtain ⟨M, N, E, W, H, G, g1, _⟩ := hB.2.2.1
    rw [h2, xe_bi, xl_0, xq_le (by omega) (by omega) (by omega) (by omega), if_pos h1, if_pos h1, xe_gr h3 rfl, xe_bind, xe_rq g1, ← xl_0, c1, xe_bv, xe_rz1]
    exact Or.inr ⟨_, _, C, i + 2, rfl, rfl, xk_t (xr_Jq h4) (xr_Jr c2), xr_Cr hd hB c3 c2⟩
  · rw [h2, xe_bi, xl_0, xq_le (by omega) (by omega) (by omega) (by omega), if_neg (by omega), if_neg (by omega)]
    exact Or.inl ⟨rfl, A, rfl, xk_r _ _⟩
theorem xr_sp1 {l : List Int} : (xr_sp xr_dg 1 l).1 = [] ∨ ∃ c, xr_dg c = true ∧ (xr_sp xr_dg 1 l).1 = [c] := by
  match l with
  | [] => exact Or.inl rfl
  | c :: r =>
    by_cases h : xr_dg c = true
    · refine Or.inr ⟨c, h, ?_⟩
      rw [xr_sp, if_pos h]; rfl
    · refine Or.inl ?_
      rw [xr_sp, if_neg h]
theorem xr_rw20 {A : xj_H} {q tx ru n i : Nat} {T : Nat → Int} {d : xr_D} {l : List Int} (hd : xr_dis q tx ru n) (hC : xr_C A q tx ru n i T d (xr_un l)) (hc : ¬ ((xr_sp xr_dg 1 (xr_un l)).1 = [] ∧ xr_neg l = false)) :
    xr_out A q tx ru n T (fQ_readWeekday_20 (xj_o q) (if xr_neg l = true then 1 else 0) A) ((xr_wd1 l).map fun v => (xr_aw d [v.1], v.2)) := by
  have h0 := xr_nvb (v := 0) (xr_sp_p (p := xr_dg) 1 (xr_un l)).1 (by omega)
  unfold fQ_readWeekday_20
  obtain ⟨B, b1, b2, b3⟩ := xr_tnC hd hC (most := 1) (hi := 5) (by omega) (by omega) (by omega)
  have hb := xr_num_b (k := 1) (hi := 5) (by omega) (xr_un l)
  rw [show ((1 : Nat) : Int) = 1 from rfl] at b1
  rw [xe_rq hC.1, xl_1, xl_5, b1, xe_bi, xl_0, xq_ne (by omega) (by omega) (by omega) (by omega), ← xl_0, ← xl_1]
  by_cases hz : xr_num 1 5 (xr_un l) = 0
  · rw [if_pos hz]
    refine Or.inl ⟨?_, B, rfl, xr_Jq b3⟩
    unfold xr_wd1
    rw [if_neg]; rfl
    rintro (h | h)
    · exact hc h
    · unfold xr_num at hz
      rw [if_pos h.2] at hz
      omega
  · rw [if_neg hz]
    have hv : xr_num 1 5 (xr_un l) = xr_nv 0 (xr_sp xr_dg 1 (xr_un l)).1 := by
      unfold xr_num at hz ⊢
      split
      · rfl
      · rename_i h; rw [if_neg h] at hz; exact absurd rfl hz
    have := xr_rw33 hd b2 hb.1 hb.2 (xr_neg l)
    rw [hv] at this hz hb ⊢
    have e : (xr_wd1 l).map (fun v => (xr_aw d [v.1], v.2)) = if 0 ≤ xr_wday (xr_sp xr_dg 1 (xr_un l)).2 then some (xr_aw d [(xr_wday (xr_sp xr_dg 1 (xr_un l)).2, if xr_neg l = true then -xr_nv 0 (xr_sp xr_dg 1 (xr_un l)).1 else xr_nv 0 (xr_sp xr_dg 1 (xr_un l)).1)], (xr_sp xr_dg 1 (xr_un l)).2.drop 2) else none := by
      unfold xr_wd1
      rw [if_pos (Or.inr ⟨by omega, by omega⟩)]
      split <;> rfl
    rw [e]
    exact xr_oj (xr_Jq b3) this
theorem xr_rwd {A : xj_H} {q tx ru n i : Nat} {T : Nat → Int} {d : xr_D} {l : List Int} (hd : xr_dis q tx ru n) (hC : xr_C A q tx ru n i T d l) :
    xr_out A q tx ru n T (fQ_readWeekday (xj_o q) A) ((xr_wd1 l).map fun v => (xr_aw d [v.1], v.2)) := by
  obtain ⟨B, j, b1, b2, b3⟩ := xr_tk45 hd hC
  unfold fQ_readWeekday
  rw [xe_rq hC.1, xl_45, b1, xe_bi]
  cases hs : xr_neg l with
  | true =>
    have := xr_rw20 hd b2 (by rw [hs]; rintro ⟨_, h⟩; cases h)
    rw [hs] at this
    rw [if_pos (show ¬ (if true = true then (1 : Int32) else 0) = 0 by decide)]
    exact xr_oj (xr_Jq b3) this
  | false =>
    rw [if_neg (show ¬ ¬ (if false = true then (1 : Int32) else 0) = 0 by decide), xe_rq b2.1]
    rcases xr_isDig b2.1 b2.2.1 hd.2.2.2 b2.2.2.2 with ⟨c, r, h1, h2, h3⟩ | ⟨h2, h3⟩
    · rw [h3, xe_bi, xk_b1]
      have := xr_rw20 hd b2 (by
        rw [h1, xr_sp, if_pos h2]
        rintro ⟨h, _⟩; cases h)
      rw [hs] at this
      exact xr_oj (xr_Jq b3) this
    · rw [h3, xe_bi, xk_b0, xl_0]
      have := xr_rw33 hd b2 (v := 0) (by omega) (by omega) false
      have hn := xr_sp_n (p := xr_dg) (k := 1) h2
      have e : (xr_wd1 l).map (fun v => (xr_aw d [v.1], v.2)) = if 0 ≤ xr_wday (xr_un l) then some (xr_aw d [(xr_wday (xr_un l), if false = true then -0 else 0)], (xr_un l).drop 2) else none := by
        unfold xr_wd1
        rw [hn, if_pos (Or.inl ⟨rfl, hs⟩), hs]
        split <;> rfl
      rw [e]
      exact xr_oj (xr_Jq b3) this
theorem xr_rwL {q tx ru n : Nat} {T : Nat → Int} (hd : xr_dis q tx ru n) : ∀ (m z k i : Nat) (A : xj_H) (d : xr_D) (l : List Int), k + m = 7 → m < z → xr_C A q tx ru n i T d l →
    xr_out A q tx ru n T (fQ_readWeekdays_2 z (xj_o q) (xI k) A) ((xr_list xr_wd1 m l).map fun v => (xr_aw d v.1, v.2))
  | _, 0, _, _, _, _, _, _, h, _ => by omega
  | 0, z + 1, k, i, A, d, l, hk, hz, hC => by
    rw [fQ_readWeekdays_2, xl_7, xq_le (by omega) (by omega) (by omega) (by omega), if_pos (by omega)]
    exact Or.inl ⟨rfl, A, rfl, xk_r _ _⟩
  | m + 1, z + 1, k, i, A, d, l, hk, hz, hC => by
    rw [fQ_readWeekdays_2, xl_7, xq_le (by omega) (by omega) (by omega) (by omega), if_neg (by omega), xe_rq hC.1]
    cases hw : xr_wd1 l with
    | none =>
      rcases xr_rwd hd hC with ⟨h1, B, b1, b2⟩ | ⟨d', r, B, j, h1, b1, b2, b3⟩
      · rw [b1, xe_bi, xk_n0]
        exact Or.inl ⟨by simp [xr_list, hw], B, rfl, b2⟩
      · rw [hw] at h1; cases h1
    | some v =>
      rcases xr_rwd hd hC with ⟨h1, B, b1, b2⟩ | ⟨d', r, B, j, h1, b1, b2, b3⟩
      · rw [hw] at h1; cases h1
      · rw [hw] at h1
        cases h1
        rw [b1, xe_bi, xk_n1, xe_rq b3.1, xl_44]
        rcases xr_take b3.1 b3.2.1 hd.2.2.2 b3.2.2.2 (c := 44) (by omega) (by omega) with ⟨r', C, c1, c2, c3, c4, c5⟩ | ⟨c1, c2⟩
        · rw [c2, xe_bi, xk_n1, xl_1, xI_add]
          have h := xr_rwL hd m z (k + 1) (j + 1) C _ r' (by omega) (by omega) (xr_Cm hd b3 c3 c4 c5)
          have e : ((xr_list xr_wd1 (m + 1) l).map fun v => (xr_aw d v.1, v.2)) = ((xr_list xr_wd1 m r').map fun w => (xr_aw (xr_aw d [v.1]) w.1, w.2)) := by
            simp only [xr_list, hw, Option.bind_some, c1, if_true, Option.map_map]
            congr 1
            funext w
            simp [xr_aw]
          rw [e]
          exact xr_oj (xk_t b2 (xr_Jq c4)) h
        · rw [c2, xe_bi, xk_n0]
          refine Or.inr ⟨_, _, B, j, ?_, rfl, b2, b3⟩
          have e : xr_list xr_wd1 (m + 1) l = some ([v.1], v.2) := by
            simp only [xr_list, hw, Option.bind_some]
            split
            · rename_i h; rw [h]
            · rename_i c r h
              rw [if_neg, h]
              intro hc; exact c1 r (by rw [h, hc])
          rw [e]; rfl
theorem xr_rnuL {q tx ru n : Nat} {T : Nat → Int} (hd : xr_dis q tx ru n) : ∀ (m z k i : Nat) (A : xj_H) (d : xr_D) (l : List Int), k + m = 8 → m < z → xr_C A q tx ru n i T d l →
    xr_out A q tx ru n T (fQ_readNumbers_2 z (xj_o q) (xI k) A) ((xr_list xr_nu1 m l).map fun v => (xr_an d v.1, v.2))
  | _, 0, _, _, _, _, _, _, h, _ => by omega
  | 0, z + 1, k, i, A, d, l, hk, hz, hC => by
    rw [fQ_readNumbers_2, xl_8, xq_le (by omega) (by omega) (by omega) (by omega), if_pos (by omega)]
    exact Or.inl ⟨rfl, A, rfl, xk_r _ _⟩
  | m + 1, z + 1, k, i, A, d, l, hk, hz, hC => by
    obtain ⟨A1, i1, a1, a2, a3⟩ := xr_tk45 hd hC
    obtain ⟨A2, b1, b2, b3⟩ := xr_tnC hd a2 (most := 2) (hi := 31) (by omega) (by omega) (by omega)
    have hb := xr_num_b (k := 2) (hi := 31) (by omega) (xr_un l)
    rw [show ((2 : Nat) : Int) = 2 from rfl] at b1
    rw [fQ_readNumbers_2, xl_8, xq_le (by omega) (by omega) (by omega) (by omega), if_neg (by omega), xe_rq hC.1, xl_45, a1, xe_bi, xe_rq a2.1, xl_2, xl_31, b1, xe_bi]
    by_cases hv : xr_num 2 31 (xr_un l) = 0
    · rw [hv, ← xl_0, xk_n0]
      exact Or.inl ⟨by simp [xr_list, xr_nu1, hv], A2, rfl, xk_t (xr_Jq a3) (xr_Jq b3)⟩
    · obtain ⟨A3, d1, d2, d3⟩ := xr_addN b2.2.2.1 (v := xr_num 2 31 (xr_un l)) (by omega) hb.2 (xr_neg l)
      obtain ⟨M, N, E, W, H, G, g1, _⟩ := b2.2.2.1
      have hC3 := xr_Cr hd b2 d3 d2
      have hn : (if ¬ xI (xr_num 2 31 (xr_un l)) = 0 then True else False) = True := by
        rw [xl_0, xq_ne (by omega) (by omega) (by omega) (by omega), if_neg hv]
      have hn' : ¬ xI (xr_num 2 31 (xr_un l)) = 0 := by
        intro h; rw [if_neg (by rw [h]; simp)] at hn; exact absurd hn (by simp)
      have hu : xr_J q ru A A3 := xk_t (xk_t (xr_Jq a3) (xr_Jq b3)) (xr_Jr d2)
      rw [if_pos hn', xe_gr b2.1 rfl, xe_bind, xe_rq g1, d1, xe_bv, xe_rq hC3.1, xl_44]
      have hw : xr_nu1 l = some (if xr_neg l = true then -xr_num 2 31 (xr_un l) else xr_num 2 31 (xr_un l), (xr_sp xr_dg 2 (xr_un l)).2) := by
        unfold xr_nu1; rw [if_neg hv]
      rcases xr_take hC3.1 hC3.2.1 hd.2.2.2 hC3.2.2.2 (c := 44) (by omega) (by omega) with ⟨r', C, c1, c2, c3, c4, c5⟩ | ⟨c1, c2⟩
      · rw [c2, xe_bi, xk_n1, xl_1, xI_add]
        have h := xr_rnuL hd m z (k + 1) _ C _ r' (by omega) (by omega) (xr_Cm hd hC3 c3 c4 c5)
        have e : ((xr_list xr_nu1 (m + 1) l).map fun v => (xr_an d v.1, v.2)) = ((xr_list xr_nu1 m r').map fun w => (xr_an (xr_an d [if xr_neg l = true then -xr_num 2 31 (xr_un l) else xr_num 2 31 (xr_un l)]) w.1, w.2)) := by
          simp only [xr_list, hw, Option.bind_some, c1, if_true, Option.map_map]
          congr 1
          funext w
          simp [xr_an]
        rw [e]
        exact xr_oj (xk_t hu (xr_Jq c4)) h
      · rw [c2, xe_bi, xk_n0]
        refine Or.inr ⟨_, _, A3, _, ?_, rfl, hu, hC3⟩
        have e : xr_list xr_nu1 (m + 1) l = some ([if xr_neg l = true then -xr_num 2 31 (xr_un l) else xr_num 2 31 (xr_un l)], (xr_sp xr_dg 2 (xr_un l)).2) := by
          simp only [xr_list, hw, Option.bind_some]
          split
          · rename_i h; rw [h]
          · rename_i c r h
            rw [if_neg, h]
            intro hc; exact c1 r (by rw [h, hc])
        rw [e]; rfl
theorem xr_rmoL {q tx ru n : Nat} {T : Nat → Int} (hd : xr_dis q tx ru n) : ∀ (m z k i : Nat) (A : xj_H) (d : xr_D) (l : List Int), k + m = 8 → m < z → xr_C A q tx ru n i T d l →
    xr_out A q tx ru n T (fQ_readMonths_2 z (xj_o q) (xI k) A) ((xr_list xr_mo1 m l).map fun v => (xr_am d v.1, v.2))
  | _, 0, _, _, _, _, _, _, h, _ => by omega
  | 0, z + 1, k, i, A, d, l, hk, hz, hC => by
    rw [fQ_readMonths_2, xl_8, xq_le (by omega) (by omega) (by omega) (by omega), if_pos (by omega)]
    exact Or.inl ⟨rfl, A, rfl, xk_r _ _⟩
  | m + 1, z + 1, k, i, A, d, l, hk, hz, hC => by
    obtain ⟨A2, b1, b2, b3⟩ := xr_tnC hd hC (most := 2) (hi := 12) (by omega) (by omega) (by omega)
    have hb := xr_num_b (k := 2) (hi := 12) (by omega) l
    rw [show ((2 : Nat) : Int) = 2 from rfl] at b1
    rw [fQ_readMonths_2, xl_8, xq_le (by omega) (by omega) (by omega) (by omega), if_neg (by omega), xe_rq hC.1, xl_2, xl_12, b1, xe_bi]
    by_cases hv : xr_num 2 12 l = 0
    · rw [hv, ← xl_0, xk_n0]
      exact Or.inl ⟨by simp [xr_list, xr_mo1, hv], A2, rfl, xr_Jq b3⟩
    · obtain ⟨M', A3, d0, d1, d2, d3⟩ := xr_addM b2.2.2.1 (v := xr_num 2 12 l) (by omega) hb.2
      have hC3 := xr_Cr hd b2 d3 d2
      have hn : (if ¬ xI (xr_num 2 12 l) = 0 then True else False) = True := by
        rw [xl_0, xq_ne (by omega) (by omega) (by omega) (by omega), if_neg hv]
      have hn' : ¬ xI (xr_num 2 12 l) = 0 := by
        intro h; rw [if_neg (by rw [h]; simp)] at hn; exact absurd hn (by simp)
      have hu : xr_J q ru A A3 := xk_t (xr_Jq b3) (xr_Jr d2)
      rw [if_pos hn', xe_gr b2.1 rfl, xe_bind, d0, xe_bind, d1, xe_bind, xe_rq hC3.1, xl_44]
      have hw : xr_mo1 l = some (xr_num 2 12 l, (xr_sp xr_dg 2 l).2) := by
        unfold xr_mo1; rw [if_neg hv]
      rcases xr_take hC3.1 hC3.2.1 hd.2.2.2 hC3.2.2.2 (c := 44) (by omega) (by omega) with ⟨r', C, c1, c2, c3, c4, c5⟩ | ⟨c1, c2⟩
      · rw [c2, xe_bi, xk_n1, xl_1, xI_add]
        have h := xr_rmoL hd m z (k + 1) _ C _ r' (by omega) (by omega) (xr_Cm hd hC3 c3 c4 c5)
        have e : ((xr_list xr_mo1 (m + 1) l).map fun v => (xr_am d v.1, v.2)) = ((xr_list xr_mo1 m r').map fun w => (xr_am (xr_am d [xr_num 2 12 l]) w.1, w.2)) := by
          simp only [xr_list, hw, Option.bind_some, c1, if_true, Option.map_map]
          congr 1
          funext w
          simp [xr_am]
        rw [e]
        exact xr_oj (xk_t hu (xr_Jq c4)) h
      · rw [c2, xe_bi, xk_n0]
        refine Or.inr ⟨_, _, A3, _, ?_, rfl, hu, hC3⟩
        have e : xr_list xr_mo1 (m + 1) l = some ([xr_num 2 12 l], (xr_sp xr_dg 2 l).2) := by
          simp only [xr_list, hw, Option.bind_some]
          split
          · rename_i h; rw [h]
          · rename_i c r h
            rw [if_neg, h]
            intro hc; exact c1 r (by rw [h, hc])
        rw [e]; rfl

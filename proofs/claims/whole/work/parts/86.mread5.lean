/-! The reference reads a part, and the rule. -/
theorem xr_hs8 {d d' : xr_D} {k : Nat} (h0 : xr_hs d' 0 = (xr_hs d 0 || 0 == k)) (h1 : xr_hs d' 1 = (xr_hs d 1 || 1 == k)) (h2 : xr_hs d' 2 = (xr_hs d 2 || 2 == k)) (h3 : xr_hs d' 3 = (xr_hs d 3 || 3 == k)) (h4 : xr_hs d' 4 = (xr_hs d 4 || 4 == k)) (h5 : xr_hs d' 5 = (xr_hs d 5 || 5 == k)) (h6 : xr_hs d' 6 = (xr_hs d 6 || 6 == k)) (hk : k < 7) : ∀ j, xr_hs d' j = (xr_hs d j || j == k)
  | 0 => h0
  | 1 => h1
  | 2 => h2
  | 3 => h3
  | 4 => h4
  | 5 => h5
  | 6 => h6
  | j + 7 => by
    have : (j + 7 == k) = false := by simp; omega
    rw [this]; rfl
theorem xr_ob (b : Bool) : b = (b || false) := (Bool.or_false b).symm
theorem xr_mpt {p0 : Nat → Value} {n i : Nat} {T : Nat → Int} {d : xr_D} {A : xj_H} {l : List Int} (hM : xr_M p0 A n i T d l) :
    xr_mp p0 A n T d (fM_readPart (xj_o 34) A) (xr_part d l) := by
  obtain ⟨B, b1, b2, b3⟩ := xr_ml (most := 10) (by omega) hM
  rw [show ((10 : Nat) : Int) = 10 from rfl] at b1
  obtain ⟨C, j, r, c1, c2, c3, c4⟩ := xr_mtk b3 (c := 61) (by omega) (by omega)
  have hu : xr_MU A C := xk_t (xr_MU34 b2) (xr_MU34 c2)
  have hp := xr_sp_p (p := xr_lt) 10 l
  have e0 := xL_eq (K := 215217) (v := [70, 82, 69, 81]) (by decide) hp.1 (by omega) (by decide) (by decide)
  have e1 := xL_eq (K := 324946974764) (v := [73, 78, 84, 69, 82, 86, 65, 76]) (by decide) hp.1 (by omega) (by decide) (by decide)
  have e2 := xL_eq (K := 3659220) (v := [67, 79, 85, 78, 84]) (by decide) hp.1 (by omega) (by decide) (by decide)
  have e3 := xL_eq (K := 22499628) (v := [85, 78, 84, 73, 76]) (by decide) hp.1 (by omega) (by decide) (by decide)
  have e4 := xL_eq (K := 2920505) (v := [66, 89, 68, 65, 89]) (by decide) hp.1 (by omega) (by decide) (by decide)
  have e5 := xL_eq (K := 98319808598073) (v := [66, 89, 77, 79, 78, 84, 72, 68, 65, 89]) (by decide) hp.1 (by omega) (by decide) (by decide)
  have e6 := xL_eq (K := 3000482440) (v := [66, 89, 77, 79, 78, 84, 72]) (by decide) hp.1 (by omega) (by decide) (by decide)
  unfold fM_readPart
  rw [xr_Mrq hM, xl_10, b1, show ∀ (v : Int64) (A : xj_H) (K : Int64 → xj_H → Option xj_R), xj_bl (some (.inl (some (.long v)), A)) K = K v A from fun _ _ _ => rfl, xr_Mrq b3, xl_61, c1, xe_bi]
  rcases c4.symm with ⟨q1, q2, q3⟩ | ⟨q1, q2⟩
  · rw [if_neg q1, xk_n0]
    refine Or.inr ⟨?_, C, 0, rfl, hu, xr_MG c3, Or.inl rfl⟩
    unfold xr_part
    split
    · rfl
    · rename_i c r' h
      rw [if_neg]
      intro hc; exact q3 r' (by rw [h, hc])
  have hpart : xr_part d l = xr_body d (xr_sp xr_lt 10 l).1 r := by
    unfold xr_part
    rw [q2]
    exact if_pos rfl
  rw [hpart, if_pos q1, xk_n1]
  by_cases h0 : (xr_sp xr_lt 10 l).1 = [70, 82, 69, 81]
  · rw [if_neg (fun h => h (e0.mpr h0)), xr_Mrq c3, h0, xr_b105]
    refine xr_mpw hu (xr_mfq c3) (k := 0) (by decide) (fun A' => xk_b0.trans rfl) (fun A' => xk_b1.trans rfl) (fun h => if_pos h) (fun h => ⟨if_neg (by rw [show d.1.isSome = xr_hs d 0 from rfl, h]; decide), fun d' r' ho => ?_⟩)
    cases hq : xr_freq r with
    | none => rw [hq] at ho; cases ho
    | some q =>
      rw [hq] at ho; cases ho
      exact xr_hs8 (by simp [xr_hs]) (by simp [xr_hs]) (by simp [xr_hs]) (by simp [xr_hs]) (by simp [xr_hs]) (by simp [xr_hs]) (by simp [xr_hs]) (by decide)
  rw [if_pos (fun h => h0 (e0.mp h))]
  by_cases h1 : (xr_sp xr_lt 10 l).1 = [73, 78, 84, 69, 82, 86, 65, 76]
  · rw [if_neg (fun h => h (e1.mpr h1)), xr_Mrq c3, h1, xr_b110]
    obtain ⟨D, d1, d2, d3, d4, d5⟩ := xr_md (most := 2) (by omega) (by omega) c3
    rw [show ((2 : Nat) : Int) = 2 from rfl] at d1
    have hnv := xr_nvb (v := 0) (xr_sp_p (p := xr_dg) 2 r).1 (by omega)
    have hn2 := xr_nv2 (xr_sp_p (p := xr_dg) 2 r).1 (xr_sp_p (p := xr_dg) 2 r).2
    obtain ⟨E, g1, g2, g3, g4, g5⟩ := xr_Mset d3 (k := 16) (by decide) (by decide) (xI (xr_mv' r 2))
    have hnum : xr_num 2 99 r = xr_nv 0 (xr_sp xr_dg 2 r).1 := by unfold xr_num; rw [if_pos hn2]
    have hu2 : xr_MU A E := xk_t hu (xk_t (xr_MU34 d2) (xr_MU34 g2))
    unfold fM_readPart_68
    rw [xl_2, d1, xe_bi, g1, xe_bind, g4, xe_bind, xl_0, xq_le (by omega) (by omega) (by omega) (by omega), hnum]
    by_cases hz : xr_mv' r 2 ≤ 0
    · rw [if_pos hz]
      refine Or.inr ⟨?_, E, 0, rfl, hu2, g3, Or.inl rfl⟩
      split
      · rfl
      · rw [if_pos]
        unfold xr_mv' at hz
        split at hz
        · rename_i h; rw [h]; rfl
        · omega
    · have hv : xr_mv' r 2 = xr_nv 0 (xr_sp xr_dg 2 r).1 := by
        unfold xr_mv' at hz ⊢
        split at hz
        · omega
        · rename_i h; rw [if_neg h]
      rw [if_neg hz]
      cases hh : xr_hs d 1 with
      | true => exact Or.inr ⟨if_pos (of_decide_eq_true hh), E, xr_bt 1, rfl, hu2, g3, Or.inr ⟨1, by decide, rfl, hh⟩⟩
      | false =>
        refine Or.inl ⟨_, _, E, _, 1, (by rw [if_neg (of_decide_eq_false hh), if_neg (by omega)]), rfl, hu2, g5 (d.1, xr_nv 0 (xr_sp xr_dg 2 r).1, d.2.2) rfl (fun p hp => ?_), by decide, hh, ?_⟩
        · obtain ⟨q1, q2, q3, q4, q5, q6, q7, q8⟩ := hp
          refine ⟨q1, q2, ?_, q4, q5, q6, q7, q8⟩
          rw [xk_p_e, if_neg (show ¬ xr_nv 0 (xr_sp xr_dg 2 r).1 = 0 by omega), hv]
        · exact xr_hs8 (by simp [xr_hs]) (by simp [xr_hs]; omega) (by simp [xr_hs]) (by simp [xr_hs]) (by simp [xr_hs]) (by simp [xr_hs]) (by simp [xr_hs]) (by decide)
  rw [if_pos (fun h => h1 (e1.mp h))]
  by_cases h2 : (xr_sp xr_lt 10 l).1 = [67, 79, 85, 78, 84]
  · rw [if_neg (fun h => h (e2.mpr h2)), xr_Mrq c3, h2, xr_b111]
    obtain ⟨D, d1, d2, d3, d4, d5⟩ := xr_md (most := 3) (by omega) (by omega) c3
    rw [show ((3 : Nat) : Int) = 3 from rfl] at d1
    have hnv := xr_nvb (v := 0) (xr_sp_p (p := xr_dg) 3 r).1 (by omega)
    obtain ⟨E, g1, g2, g3, g4, g5⟩ := xr_Mset d3 (k := 17) (by decide) (by decide) (xI (xr_mv' r 3))
    have hu2 : xr_MU A E := xk_t hu (xk_t (xr_MU34 d2) (xr_MU34 g2))
    unfold fM_readPart_105
    rw [xl_3, d1, xe_bi, g1, xe_bind, g4, xe_bind, xl_1, xl_200, xm_inside (by omega) (by omega) (by omega) (by omega) (by omega) (by omega), xe_bi]
    by_cases hz : 1 ≤ xr_mv' r 3 ∧ xr_mv' r 3 ≤ 200
    · have hv : xr_mv' r 3 = xr_nv 0 (xr_sp xr_dg 3 r).1 := by
        unfold xr_mv' at hz ⊢
        split at hz
        · omega
        · rename_i h; rw [if_neg h]
      have hnum : xr_num 3 200 r = xr_nv 0 (xr_sp xr_dg 3 r).1 := by unfold xr_num; rw [if_pos (by omega)]
      rw [if_pos hz, xk_b1, hnum]
      cases hh : xr_hs d 2 with
      | true => exact Or.inr ⟨if_pos (of_decide_eq_true hh), E, xr_bt 2, rfl, hu2, g3, Or.inr ⟨2, by decide, rfl, hh⟩⟩
      | false =>
        refine Or.inl ⟨_, _, E, _, 2, (by rw [if_neg (of_decide_eq_false hh), if_neg (by omega)]), rfl, hu2, g5 (d.1, d.2.1, xr_nv 0 (xr_sp xr_dg 3 r).1, d.2.2.2) rfl (fun p hp => ?_), by decide, hh, ?_⟩
        · obtain ⟨q1, q2, q3, q4, q5, q6, q7, q8⟩ := hp
          refine ⟨q1, q2, q3, ?_, q5, q6, q7, q8⟩
          rw [xk_p_e, if_neg (show ¬ xr_nv 0 (xr_sp xr_dg 3 r).1 = 0 by omega), hv]
        · exact xr_hs8 (by simp [xr_hs]) (by simp [xr_hs]) (by simp [xr_hs]; omega) (by simp [xr_hs]) (by simp [xr_hs]) (by simp [xr_hs]) (by simp [xr_hs]) (by decide)
    · rw [if_neg hz, xk_b0]
      refine Or.inr ⟨?_, E, 0, rfl, hu2, g3, Or.inl rfl⟩
      split
      · rfl
      · rw [if_pos]
        unfold xr_num
        unfold xr_mv' at hz
        split at hz
        · rename_i h; rw [h]; rfl
        · split <;> omega
  rw [if_pos (fun h => h2 (e2.mp h))]
  by_cases h3 : (xr_sp xr_lt 10 l).1 = [85, 78, 84, 73, 76]
  · rw [if_neg (fun h => h (e3.mpr h3)), xr_Mrq c3, h3, xr_b112]
    refine xr_mpw hu (xr_mun c3) (k := 3) (by decide) (fun A' => xk_b0.trans rfl) (fun A' => xk_b1.trans rfl) (fun h => if_pos h) (fun h => ⟨if_neg (by rw [show d.2.2.2.1.isSome = xr_hs d 3 from rfl, h]; decide), fun d' r' ho => ?_⟩)
    cases hq : xr_until r with
    | none => rw [hq] at ho; cases ho
    | some q =>
      rw [hq] at ho; cases ho
      exact xr_hs8 (by simp [xr_hs]) (by simp [xr_hs]) (by simp [xr_hs]) (by simp [xr_hs]) (by simp [xr_hs]) (by simp [xr_hs]) (by simp [xr_hs]) (by decide)
  rw [if_pos (fun h => h3 (e3.mp h))]
  by_cases h4 : (xr_sp xr_lt 10 l).1 = [66, 89, 68, 65, 89]
  · have hl7 := c3.2.2.2.2.1.2.2.2.2.2
    rw [if_neg (fun h => h (e4.mpr h4)), xr_Mrq c3, h4, xr_b113]
    refine xr_mpw hu (xr_mwL (7 - d.2.2.2.2.2.2.length) xj_fu 0 _ C d r (by omega) (by unfold xj_fu; omega) c3) (k := 4) (by decide) (fun A' => xk_b0.trans rfl) (fun A' => xk_b1.trans rfl) (fun h => if_pos (of_decide_eq_true h)) (fun h => ?_)
    have hnil : d.2.2.2.2.2.2 = [] := Classical.not_not.mp (of_decide_eq_false h)
    rw [if_neg (of_decide_eq_false h), hnil]
    refine ⟨?_, fun d' r' ho => ?_⟩
    · simp [xr_aw, hnil]
    · cases hq : xr_list xr_wd1 7 r with
      | none => simp [hq] at ho
      | some q =>
        simp only [List.length_nil, Nat.sub_zero, hq, Option.map_some] at ho
        have hne := (xr_list_b (P := fun _ => True) (fun _ _ _ _ => trivial) _ _ _ _ hq).1
        cases ho
        exact xr_hs8 (xr_ob _) (xr_ob _) (xr_ob _) (xr_ob _) (by simp [xr_hs, xr_aw, hne]) (xr_ob _) (xr_ob _) (by decide)
  rw [if_pos (fun h => h4 (e4.mp h))]
  by_cases h5 : (xr_sp xr_lt 10 l).1 = [66, 89, 77, 79, 78, 84, 72, 68, 65, 89]
  · have hl8 := c3.2.2.2.2.1.2.2.2.2.1
    rw [if_neg (fun h => h (e5.mpr h5)), xr_Mrq c3, h5, xr_b115]
    refine xr_mpw hu (xr_mnL (8 - d.2.2.2.2.2.1.length) xj_fu 0 _ C d r (by omega) (by unfold xj_fu; omega) c3) (k := 5) (by decide) (fun A' => xk_b0.trans rfl) (fun A' => xk_b1.trans rfl) (fun h => if_pos (of_decide_eq_true h)) (fun h => ?_)
    have hnil : d.2.2.2.2.2.1 = [] := Classical.not_not.mp (of_decide_eq_false h)
    rw [if_neg (of_decide_eq_false h), hnil]
    refine ⟨?_, fun d' r' ho => ?_⟩
    · simp [xr_an, hnil]
    · cases hq : xr_list xr_nu1 8 r with
      | none => simp [hq] at ho
      | some q =>
        simp only [List.length_nil, Nat.sub_zero, hq, Option.map_some] at ho
        have hne := (xr_list_b (P := fun _ => True) (fun _ _ _ _ => trivial) _ _ _ _ hq).1
        cases ho
        exact xr_hs8 (xr_ob _) (xr_ob _) (xr_ob _) (xr_ob _) (xr_ob _) (by simp [xr_hs, xr_an, hne]) (xr_ob _) (by decide)
  rw [if_pos (fun h => h5 (e5.mp h))]
  by_cases h6 : (xr_sp xr_lt 10 l).1 = [66, 89, 77, 79, 78, 84, 72]
  · rw [if_neg (fun h => h (e6.mpr h6)), xr_Mrq c3, h6, xr_b116]
    refine xr_mpw hu (xr_mmL 8 xj_fu 0 _ C d r (by omega) (by unfold xj_fu; omega) c3) (k := 6) (by decide) (fun A' => xk_b0.trans rfl) (fun A' => xk_b1.trans rfl) (fun h => if_pos (of_decide_eq_true h)) (fun h => ?_)
    have hnil : d.2.2.2.2.1 = [] := Classical.not_not.mp (of_decide_eq_false h)
    rw [if_neg (of_decide_eq_false h)]
    refine ⟨?_, fun d' r' ho => ?_⟩
    · simp [xr_am, hnil]
    · cases hq : xr_list xr_mo1 8 r with
      | none => simp [hq] at ho
      | some q =>
        simp only [hq, Option.map_some] at ho
        have hne := (xr_list_b (P := fun _ => True) (fun _ _ _ _ => trivial) _ _ _ _ hq).1
        cases ho
        exact xr_hs8 (xr_ob _) (xr_ob _) (xr_ob _) (xr_ob _) (xr_ob _) (xr_ob _) (by simp [xr_hs, xr_am, hne]) (by decide)
  rw [if_pos (fun h => h6 (e6.mp h))]
  refine Or.inr ⟨?_, C, 0, rfl, hu, xr_MG c3, Or.inl rfl⟩
  unfold xr_body
  rw [if_neg h0, if_neg h1, if_neg h2, if_neg h3, if_neg h4, if_neg h5, if_neg h6]

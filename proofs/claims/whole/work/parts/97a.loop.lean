/-! The law's loop. -/
theorem xl_sc {xs : Nat → Int32} {L k : Nat} (hk : k < L) (hL : L ≤ 3584) {i : Int32} (hi : i = xI (k : Int)) : xj_sc xs L i = some (xI (xs k).toInt) := by
  subst hi
  have hn : (xI (k : Int)).toNatClampNeg = k := by rw [xI_nat ⟨by omega, by omega⟩]; omega
  have h0 : ¬ (xI (k : Int) < 0) := by
    rw [xl_0, xI_lt ⟨by omega, by omega⟩ ⟨by omega, by omega⟩]; omega
  unfold xj_sc
  rw [if_neg (by rw [hn]; rintro (h | h); exact h0 h; omega), hn, ← xI_of]
theorem xl_loop {xs : Nat → Int32} {L : Nat} (hL : L ≤ 3584) : ∀ (z k : Nat) (A : xj_H), L + 7 - k < z → k ≤ 3590 → xi_I A → (3600 - k) * 4 ≤ A.2.1 → (3600 - k) * 40 ≤ A.2.2 → ∃ A', fL_law_23 xs L z (xj_o 0) (xj_o 34) (xj_o 50) (xI k) A = some (.inl (some (.int 1)), A')
  | 0, k, A, h, _, _, _, _ => by omega
  | z + 1, k, A, hz, hk, hI, hr1, hr2 => by
    rw [fL_law_23, xI_lit, xl_7, xI_sub, xq_lt (by omega) (by omega) (by omega) (by omega)]
    by_cases hend : (L : Int) - 7 < k
    · rw [if_pos hend]
      exact ⟨A, rfl⟩
    rw [if_neg hend, ← xl_7]
    have nxt : ∀ C, xi_I C → xi_r A C → ∃ A', fL_law_870 xs L (fL_law_23 xs L z) (xj_o 0) (xj_o 34) (xj_o 50) (xI k) C = some (.inl (some (.int 1)), A') := by
      intro C hC hr
      unfold xi_r at hr
      unfold fL_law_870
      rw [xl_7, xI_add]
      have := xl_loop (xs := xs) hL z (k + 7) C (by omega) (by omega) hC (by omega) (by omega)
      rw [show ((k + 7 : Nat) : Int) = (k : Int) + 7 from rfl] at this
      exact this
    have q1 : 4 ≤ A.2.1 := by omega
    have q2 : 40 ≤ A.2.2 := by omega
    have s0 := xl_sc (xs := xs) (L := L) (k := k) (by omega) hL rfl
    have s1 := xl_sc (xs := xs) (L := L) (k := k + 1) (by omega) hL (i := xI k + (1 : Int32)) (by rw [xl_1, xI_add]; rfl)
    have s2 := xl_sc (xs := xs) (L := L) (k := k + 2) (by omega) hL (i := xI k + (2 : Int32)) (by rw [xl_2, xI_add]; rfl)
    have s3 := xl_sc (xs := xs) (L := L) (k := k + 3) (by omega) hL (i := xI k + (3 : Int32)) (by rw [xl_3, xI_add]; rfl)
    have s4 := xl_sc (xs := xs) (L := L) (k := k + 4) (by omega) hL (i := xI k + (4 : Int32)) (by rw [xl_4, xI_add]; rfl)
    have s5 := xl_sc (xs := xs) (L := L) (k := k + 5) (by omega) hL (i := xI k + (5 : Int32)) (by rw [xl_5, xI_add]; rfl)
    have s6 := xl_sc (xs := xs) (L := L) (k := k + 6) (by omega) hL (i := xI k + (6 : Int32)) (by rw [xl_6, xI_add]; rfl)
    have b1 : -2147483648 ≤ (xs (k + 1)).toInt ∧ (xs (k + 1)).toInt ≤ 2147483647 := xr_of _
    have b2 : -2147483648 ≤ (xs (k + 2)).toInt ∧ (xs (k + 2)).toInt ≤ 2147483647 := xr_of _
    have b3 : -2147483648 ≤ (xs (k + 3)).toInt ∧ (xs (k + 3)).toInt ≤ 2147483647 := xr_of _
    have b4 : -2147483648 ≤ (xs (k + 4)).toInt ∧ (xs (k + 4)).toInt ≤ 2147483647 := xr_of _
    have b5 : -2147483648 ≤ (xs (k + 5)).toInt ∧ (xs (k + 5)).toInt ≤ 2147483647 := xr_of _
    have b6 : -2147483648 ≤ (xs (k + 6)).toInt ∧ (xs (k + 6)).toInt ≤ 2147483647 := xr_of _
    -- a turn that may be refused
    have fin : ∀ (F : Option xj_R) (M : xj_H → Option xj_R), xt_R A F M → ∀ (K1 K2 : xj_H → Option xj_R), (∀ C, K1 C = fL_law_870 xs L (fL_law_23 xs L z) (xj_o 0) (xj_o 34) (xj_o 50) (xI k) C) → (∃ A', (xj_bi F fun x A2 => xj_bi (xj_rq A2 (xj_o 34) 7 (M A2)) fun y A3 => xj_bi (xj_rq A3 (xj_o 34) 7 (fM_thrown (xj_o 34) A3)) fun u A4 => if u = x then if ¬ x = 0 then K1 A4 else (xj_lai A4 (xj_o 50) (0 : Int32)).bind fun v => if lg_cmp v (Int32.toInt64 y) = 0 then K1 A4 else K2 A4 else K2 A4) = some (.inl (some (.int 1)), A')) := by
      rintro F M ⟨kk, ww, B, C, e1, e2, e3, e4, e5, e6⟩ K1 K2 hK
      rw [e1, xe_bi, e2, xe_bi, e3, xe_bi, if_pos rfl]
      by_cases h : kk = 0
      · rw [if_neg (fun hh => hh h), e4 h, xe_bind, if_pos (xi_lg _), hK]
        exact nxt C e5 e6
      · rw [if_pos h, hK]
        exact nxt C e5 e6
    have fin2 : ∀ (F : Option xj_R) (M : xj_H → Option xj_R), (∃ b B C, F = some (.inl (some (.int b)), B) ∧ xj_rq B (xj_o 34) 7 (M B) = some (.inl (some (.int b)), C) ∧ xi_I C ∧ xi_r A C) → ∀ (K2 : xj_H → Option xj_R), (∃ A', (xj_bi F fun x A2 => xj_bi (xj_rq A2 (xj_o 34) 7 (M A2)) fun y A3 => if x = y then fL_law_870 xs L (fL_law_23 xs L z) (xj_o 0) (xj_o 34) (xj_o 50) (xI k) A3 else K2 A3) = some (.inl (some (.int 1)), A')) := by
      rintro F M ⟨bb, B, C, e1, e2, e5, e6⟩ K2
      rw [e1, xe_bi, e2, xe_bi, if_pos rfl]
      exact nxt C e5 e6
    rw [s0, xe_bind]
    by_cases c0 : (xI (xs k).toInt &&& (15 : Int32)) = 0
    · rw [if_pos c0, s1, xe_bind]
      obtain ⟨ch, d1, d2, d3, d4⟩ := xt_ch (xI (xs (k + 1)).toInt)
      obtain ⟨bb, B, C, e1, e2, e5, e6⟩ := xt_type hI d1 d2 d4
      rw [d3, e1, xe_bi, xe_bind, d3, e2, xe_bi, if_pos rfl]
      exact nxt C e5 e6
    rw [if_neg c0]
    by_cases c1 : (xI (xs k).toInt &&& (15 : Int32)) = 1
    · rw [if_pos c1, s1, xe_bind, s2, xe_bind, s3, xe_bind, s4, xe_bind, s5, xe_bind, s6, xe_bind]
      obtain ⟨kk, B, C, e1, e2, e3, e5, e6⟩ := xt_zone hI (by omega) (by omega) b1.1 b1.2 b2.1 b2.2 b3.1 b3.2 b4.1 b4.2 b5.1 b5.2 b6.1 b6.2
      rw [e1, xe_bi, xe_bind, xe_bind, xe_bind, xe_bind, xe_bind, xe_bind, e2, xe_bv, e3, xe_bi, if_pos rfl]
      exact nxt C e5 e6
    rw [if_neg c1]
    by_cases c2 : (xI (xs k).toInt &&& (15 : Int32)) = 2
    · rw [if_pos c2, s1, xe_bind, s2, xe_bind, s3, xe_bind]
      exact fin _ (fM_event (xj_o 34) (xI (xs (k + 1)).toInt) (xI (xs (k + 2)).toInt) (xI (xs (k + 3)).toInt)) (xt_event hI q1 q2 b1.1 b1.2 b2.1 b2.2 b3.1 b3.2) (fun C => fL_law_870 xs L (fL_law_23 xs L z) (xj_o 0) (xj_o 34) (xj_o 50) (xI k) C) (fun C => xj_rz (0 : Int32) C) (fun C => rfl)
    rw [if_neg c2]
    by_cases c3 : (xI (xs k).toInt &&& (15 : Int32)) = 3
    · rw [if_pos c3, s1, xe_bind, s2, xe_bind]
      obtain ⟨kk, ww, B, C, e1, e2, e3, e4, e5, e6⟩ := xt_exclude hI (by omega) (by omega) b1.1 b1.2 b2.1 b2.2
      rw [e1, xe_bi, xe_bind, xe_bind, e2, xe_bi, e3, xe_bi, if_pos rfl]
      unfold fL_law_381 fL_law_375
      by_cases h : kk = 0
      · rw [if_neg (fun hh => hh h), e4 h, xe_bind]
        by_cases hw : ww = 0
        · rw [if_pos hw, if_pos hw, if_pos (xi_lg _)]
          exact nxt C e5 e6
        · rw [if_neg hw, if_neg hw, if_pos (xi_lg _)]
          exact nxt C e5 e6
      · rw [if_pos h]
        exact nxt C e5 e6
    rw [if_neg c3]
    by_cases c4 : (xI (xs k).toInt &&& (15 : Int32)) = 4
    · rw [if_pos c4, s1, xe_bind]
      exact fin _ (fM_times (xj_o 34) (xI (xs (k + 1)).toInt)) (xt_times hI (by omega) (by omega) b1.1 b1.2) (fun C => fL_law_870 xs L (fL_law_23 xs L z) (xj_o 0) (xj_o 34) (xj_o 50) (xI k) C) (fun C => xj_rz (0 : Int32) C) (fun C => rfl)
    rw [if_neg c4]
    by_cases c5 : (xI (xs k).toInt &&& (15 : Int32)) = 5
    · rw [if_pos c5, s1, xe_bind, s2, xe_bind]
      exact fin _ (fM_day (xj_o 34) (xI (xs (k + 1)).toInt) (xI (xs (k + 2)).toInt)) (xt_day hI (by omega) (by omega) b1.1 b1.2 b2.1 b2.2) (fun C => fL_law_870 xs L (fL_law_23 xs L z) (xj_o 0) (xj_o 34) (xj_o 50) (xI k) C) (fun C => xj_rz (0 : Int32) C) (fun C => rfl)
    rw [if_neg c5]
    by_cases c6 : (xI (xs k).toInt &&& (15 : Int32)) = 6
    · rw [if_pos c6, s1, xe_bind, s2, xe_bind]
      exact fin _ (fM_moment (xj_o 34) (xI (xs (k + 1)).toInt) (xI (xs (k + 2)).toInt)) (xt_moment hI (by omega) (by omega) b1.1 b1.2 b2.1 b2.2) (fun C => fL_law_870 xs L (fL_law_23 xs L z) (xj_o 0) (xj_o 34) (xj_o 50) (xI k) C) (fun C => xj_rz (0 : Int32) C) (fun C => rfl)
    rw [if_neg c6]
    by_cases c7 : (xI (xs k).toInt &&& (15 : Int32)) = 7
    · rw [if_pos c7, s1, xe_bind]
      exact fin2 _ (fM_local (xj_o 34) (xI (xs (k + 1)).toInt)) (xt_local hI b1.1 b1.2) _
    rw [if_neg c7]
    by_cases c8 : (xI (xs k).toInt &&& (15 : Int32)) = 8
    · rw [if_pos c8, s1, xe_bind, s2, xe_bind, s3, xe_bind]
      exact fin2 _ (fM_date (xj_o 34) (xI (xs (k + 1)).toInt) (xI (xs (k + 2)).toInt) (xI (xs (k + 3)).toInt)) (xt_date hI b1.1 b1.2 b2.1 b2.2 b3.1 b3.2) _
    rw [if_neg c8]
    by_cases c9 : (xI (xs k).toInt &&& (15 : Int32)) = 9
    · rw [if_pos c9, s1, xe_bind, s2, xe_bind]
      exact fin _ (fM_busy (xj_o 34) (xI (xs (k + 1)).toInt) (xI (xs (k + 2)).toInt)) (xt_busy hI (by omega) (by omega) b1.1 b1.2 b2.1 b2.2) (fun C => fL_law_870 xs L (fL_law_23 xs L z) (xj_o 0) (xj_o 34) (xj_o 50) (xI k) C) (fun C => xj_rz (0 : Int32) C) (fun C => rfl)
    rw [if_neg c9]
    by_cases c10 : (xI (xs k).toInt &&& (15 : Int32)) = 10
    · rw [if_pos c10, s1, xe_bind, s2, xe_bind]
      unfold fL_law_739 fL_law_766
      rw [s1, s2]
      by_cases h2 : xI (xs (k + 2)).toInt = 0
      · rw [if_pos h2]
        obtain ⟨kk, ww, B, C, e1, e2, e3, e4, e5, e6⟩ := xt_span hI (by omega) (by omega) b1.1 b1.2 0
        rw [e1, xe_bi, xe_bind, xe_bind, if_pos h2, e2, xe_bi, e3, xe_bi, if_pos rfl]
        by_cases h : kk = 0
        · rw [if_neg (fun hh => hh h), e4 h, xe_bind, if_pos (xi_lg _)]
          exact nxt C e5 e6
        · rw [if_pos h]
          exact nxt C e5 e6
      · rw [if_neg h2]
        obtain ⟨kk, ww, B, C, e1, e2, e3, e4, e5, e6⟩ := xt_span hI (by omega) (by omega) b1.1 b1.2 1
        rw [e1, xe_bi, xe_bind, xe_bind, if_neg h2, e2, xe_bi, e3, xe_bi, if_pos rfl]
        by_cases h : kk = 0
        · rw [if_neg (fun hh => hh h), e4 h, xe_bind, if_pos (xi_lg _)]
          exact nxt C e5 e6
        · rw [if_pos h]
          exact nxt C e5 e6
    rw [if_neg c10]
    by_cases c11 : (xI (xs k).toInt &&& (15 : Int32)) = 11
    · rw [if_pos c11, s1, xe_bind, s2, xe_bind]
      exact fin _ (fM_clash (xj_o 34) (xI (xs (k + 1)).toInt) (xI (xs (k + 2)).toInt)) (xt_clash hI (by omega) (by omega) b1.1 b1.2 b2.1 b2.2) (fun C => fL_law_870 xs L (fL_law_23 xs L z) (xj_o 0) (xj_o 34) (xj_o 50) (xI k) C) (fun C => xj_rz (0 : Int32) C) (fun C => rfl)
    rw [if_neg c11]
    exact nxt A hI (xt_rr A)

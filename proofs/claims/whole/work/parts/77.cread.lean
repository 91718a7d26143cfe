/-! The class reads weekdays, numbers, months. -/
def xr_aw (d : xr_D) (v : List (Int × Int)) : xr_D := (d.1, d.2.1, d.2.2.1, d.2.2.2.1, d.2.2.2.2.1, d.2.2.2.2.2.1, d.2.2.2.2.2.2 ++ v)
def xr_an (d : xr_D) (v : List Int) : xr_D := (d.1, d.2.1, d.2.2.1, d.2.2.2.1, d.2.2.2.2.1, d.2.2.2.2.2.1 ++ v, d.2.2.2.2.2.2)
def xr_am (d : xr_D) (v : List Int) : xr_D := (d.1, d.2.1, d.2.2.1, d.2.2.2.1, d.2.2.2.2.1 ++ v, d.2.2.2.2.2)
/-- how the reading of a piece ends -/
def xr_out (A : xj_H) (q tx ru n : Nat) (T : Nat → Int) (f : Option xj_R) (o : Option (xr_D × List Int)) : Prop :=
  (o = none ∧ ∃ B, f = some (.inl (some (.int 0)), B) ∧ xr_J q ru A B) ∨ ∃ d' r B j, o = some (d', r) ∧ f = some (.inl (some (.int 1)), B) ∧ xr_J q ru A B ∧ xr_C B q tx ru n j T d' r
theorem xr_sg {s : Bool} {P Q : Option xj_R} : (if (if s = true then (1 : Int32) else 0) = 0 then P else Q) = if s = true then Q else P := by
  cases s
  · exact xk_b0
  · exact xk_b1
theorem xr_addN {A : xj_H} {ru : Nat} {d : xr_D} (hR : xr_R A ru d) {v : Int} (v0 : 1 ≤ v) (v1 : v ≤ 31) (s : Bool) : ∃ B, fR_addNumber (xj_o ru) (xI v) (if s = true then 1 else 0) A = some (.inl none, B) ∧ xk_u (fun k => k = ru) A B ∧ xr_R B ru (xr_an d [if s = true then -v else v]) := by
  obtain ⟨M, N, E, W, H, G, h1, b1, b2, b3, b4, b5, b6⟩ := hR
  obtain ⟨j, rfl⟩ : ∃ j : Nat, v = (j : Int) := ⟨v.toNat, by omega⟩
  have hj := xr_b_1 (j := j) (by omega)
  unfold fR_addNumber fR_addNumber_31
  rw [xr_sg]
  cases s with
  | false =>
    obtain ⟨B, c1, c2, c3⟩ := xk_pw (.int (N ||| ((1 : Int32) <<< (xI j &&& 31)))) h1 (k := 6) (by simp [xr_fs])
    rw [if_neg (by decide), xe_gi h1 rfl, xe_bind, c1, xe_bind]
    refine ⟨B, rfl, c3, M, N ||| ((1 : Int32) <<< (xI j &&& 31)), E, W, H, G, c2, b1, ?_, ?_, b4, b5, b6⟩
    · refine xr_b_c (xr_b_or b2 hj) fun k _ => ?_
      simp [xr_an]
      exact or_congr_right ⟨by omega, by omega⟩
    · refine xr_b_c b3 fun k _ => ?_
      simp [xr_an]; omega
  | true =>
    obtain ⟨B, c1, c2, c3⟩ := xk_pw (.int (E ||| ((1 : Int32) <<< (xI j &&& 31)))) h1 (k := 7) (by simp [xr_fs])
    rw [if_pos rfl, xe_gi h1 rfl, xe_bind, c1, xe_bind]
    refine ⟨B, rfl, c3, M, N, E ||| ((1 : Int32) <<< (xI j &&& 31)), W, H, G, c2, b1, ?_, ?_, b4, b5, b6⟩
    · refine xr_b_c b2 fun k _ => ?_
      simp [xr_an]; omega
    · refine xr_b_c (xr_b_or b3 hj) fun k _ => ?_
      simp [xr_an]
      exact or_congr_right ⟨by omega, by omega⟩
theorem xr_addM {A : xj_H} {ru : Nat} {d : xr_D} (hR : xr_R A ru d) {v : Int} (v0 : 1 ≤ v) (v1 : v ≤ 12) : ∃ M B, xj_gi A (xj_o ru) 4 5 = some M ∧ xj_pv A (xj_o ru) 4 5 (.int (M ||| ((1 : Int32) <<< (xI v &&& 31)))) = some B ∧ xk_u (fun k => k = ru) A B ∧ xr_R B ru (xr_am d [v]) := by
  obtain ⟨M, N, E, W, H, G, h1, b1, b2, b3, b4, b5, b6⟩ := hR
  obtain ⟨j, rfl⟩ : ∃ j : Nat, v = (j : Int) := ⟨v.toNat, by omega⟩
  have hj := xr_b_1 (j := j) (by omega)
  obtain ⟨B, c1, c2, c3⟩ := xk_pw (.int (M ||| ((1 : Int32) <<< (xI j &&& 31)))) h1 (k := 5) (by simp [xr_fs])
  refine ⟨M, B, xe_gi h1 rfl, c1, c3, M ||| ((1 : Int32) <<< (xI j &&& 31)), N, E, W, H, G, c2, ?_, b2, b3, b4, b5, b6⟩
  refine xr_b_c (xr_b_or b1 hj) fun k _ => ?_
  simp [xr_am]
  exact or_congr_right ⟨by omega, by omega⟩
theorem xr_addW {A : xj_H} {ru : Nat} {d : xr_D} (hR : xr_R A ru d) {w n : Int} (w0 : 0 ≤ w) (w1 : w ≤ 6) (n0 : 0 ≤ n) (n1 : n ≤ 5) (s : Bool) : ∃ B, fR_addWeekday (xj_o ru) (xI w) (xI n) (if s = true then 1 else 0) A = some (.inl none, B) ∧ xk_u (fun k => k = ru) A B ∧ xr_R B ru (xr_aw d [(w, if s = true then -n else n)]) := by
  obtain ⟨M, N, E, W, H, G, h1, b1, b2, b3, b4, b5, b6⟩ := hR
  obtain ⟨j, rfl⟩ : ∃ j : Nat, w = (j : Int) := ⟨w.toNat, by omega⟩
  obtain ⟨m, rfl⟩ : ∃ m : Nat, n = (m : Int) := ⟨n.toNat, by omega⟩
  unfold fR_addWeekday fR_addWeekday_54
  rw [xl_0, xq_ne (by omega) (by omega) (by omega) (by omega), ← xl_0]
  by_cases hm : (m : Int) = 0
  · have hm' : m = 0 := by omega
    subst hm'
    have hj := xr_b_1 (j := j) (by omega)
    obtain ⟨B, c1, c2, c3⟩ := xk_pw (.int (W ||| ((1 : Int32) <<< (xI j &&& 31)))) h1 (k := 8) (by simp [xr_fs])
    rw [if_pos hm, xe_gi h1 rfl, xe_bind, c1, xe_bind]
    refine ⟨B, rfl, c3, M, N, E, W ||| ((1 : Int32) <<< (xI j &&& 31)), H, G, c2, b1, b2, b3, ?_, ?_, ?_⟩
    · refine xr_b_c (xr_b_or b4 hj) fun k _ => ?_
      cases s <;> simp [xr_aw] <;> exact or_congr_right ⟨by omega, by omega⟩
    · refine xr_bl_c b5 fun k _ => ?_
      cases s <;> simp [xr_aw] <;> intro h1 h2 h3 <;> omega
    · refine xr_bl_c b6 fun k _ => ?_
      cases s <;> simp [xr_aw] <;> intro h1 h2 h3 <;> omega
  · rw [if_neg hm, xr_sg]
    have hj := xr_bl_1 (j := 7 * m + j) (by omega)
    rw [show ((7 * m + j : Nat) : Int) = 7 * (m : Int) + j from rfl] at hj
    unfold fR_nthBit
    rw [xl_7, xI_mul, xI_add]
    cases s with
    | false =>
      obtain ⟨B, c1, c2, c3⟩ := xk_pw (.long (H ||| ((1 : Int64) <<< (Int32.toInt64 (xI (7 * (m : Int) + j)) &&& 63)))) h1 (k := 9) (by simp [xr_fs])
      rw [if_neg (by decide), xe_gl h1 rfl, xe_bind, xe_bl, c1, xe_bind]
      refine ⟨B, rfl, c3, M, N, E, W, _, G, c2, b1, b2, b3, ?_, ?_, ?_⟩
      · refine xr_b_c b4 fun k _ => ?_
        simp [xr_aw]; intro h1 h2; omega
      · refine xr_bl_c (xr_bl_or b5 hj) fun k _ => ?_
        simp [xr_aw]
        constructor
        · rintro (⟨g1, g2⟩ | rfl)
          · exact ⟨g1, Or.inl g2⟩
          · exact ⟨by omega, Or.inr ⟨by omega, by omega⟩⟩
        · rintro ⟨g1, g2 | ⟨g2, g3⟩⟩
          · exact Or.inl ⟨g1, g2⟩
          · exact Or.inr (by omega)
      · refine xr_bl_c b6 fun k _ => ?_
        simp [xr_aw]
        intro h1 h2 h3; omega
    | true =>
      obtain ⟨B, c1, c2, c3⟩ := xk_pw (.long (G ||| ((1 : Int64) <<< (Int32.toInt64 (xI (7 * (m : Int) + j)) &&& 63)))) h1 (k := 10) (by simp [xr_fs])
      rw [if_pos rfl, xe_gl h1 rfl, xe_bind, xe_bl, c1, xe_bind]
      refine ⟨B, rfl, c3, M, N, E, W, H, _, c2, b1, b2, b3, ?_, ?_, ?_⟩
      · refine xr_b_c b4 fun k _ => ?_
        simp [xr_aw]; intro h1 h2; omega
      · refine xr_bl_c b5 fun k _ => ?_
        simp [xr_aw]
        intro h1 h2 h3; omega
      · refine xr_bl_c (xr_bl_or b6 hj) fun k _ => ?_
        simp [xr_aw]
        constructor
        · rintro (⟨g1, g2⟩ | rfl)
          · exact ⟨g1, Or.inl g2⟩
          · exact ⟨by omega, Or.inr ⟨by omega, by omega⟩⟩
        · rintro ⟨g1, g2 | ⟨g2, g3⟩⟩
          · exact Or.inl ⟨g1, g2⟩
          · exact Or.inr (by omega)

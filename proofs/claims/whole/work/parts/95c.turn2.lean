/-! Turns that look things up. -/
def xt_nse : String := "java/util/NoSuchElementException"
theorem xt_fe {A : xj_H} {G : xi_G} (hP : xi_Pg G) (hC : xi_Cg A G) (r1 : 1 ≤ A.2.1) (r2 : 6 ≤ A.2.2) {v : Int} (v1 : -2147483648 ≤ v) (v2 : v ≤ 2147483647) :
    (0 ≤ v ∧ v < G.2.2.1.1 ∧ fB_findEvent (xj_o 0) (xI v) A = some (.inl (some (xj_rv (xj_o (6 + 3 * v.toNat)))), A)) ∨ (¬ (0 ≤ v ∧ v < G.2.2.1.1) ∧ fB_findEvent (xj_o 0) (xI v) A = some (.inr xt_nse, (A.1, A.2.1 - 1, A.2.2 - 6))) := by
  obtain ⟨⟨n, T⟩, ⟨s, m, f, g⟩, ⟨ne, mi, le, D, X⟩, ⟨c, b, e⟩⟩ := G
  obtain ⟨P1, P2, P3, P4, _⟩ := hP
  obtain ⟨k1, k2, k3, k4, k5⟩ := hC
  simp only at P4 k1 k4 ⊢
  unfold fB_findEvent fB_findEvent_12
  rw [xi_th _ r1 r2, xl_0, xq_lt (by omega) (by omega) (by omega) (by omega)]
  by_cases c1 : v < 0
  · rw [if_pos c1]
    exact Or.inr ⟨by omega, rfl⟩
  rw [if_neg c1, xe_gi k1 rfl, xe_bind, xq_lt (by omega) (by omega) (by omega) (by omega)]
  by_cases c2 : v < ne
  · rw [if_pos c2, xe_gr k1 rfl, xe_bind, xb_ral k4.1 (by omega) (by omega), xe_bind]
    exact Or.inl ⟨by omega, c2, rfl⟩
  · rw [if_neg c2]
    exact Or.inr ⟨fun h => c2 h.2, rfl⟩
theorem xt_thC {A : xj_H} (r1 : 1 ≤ A.2.1) (r2 : 6 ≤ A.2.2) {G : xi_G} (h : xi_Cg A G) : xi_Cg (A.1, A.2.1 - 1, A.2.2 - 6) G ∧ xi_g A (A.1, A.2.1 - 1, A.2.2 - 6) 34 50 ∧ xi_r A (A.1, A.2.1 - 1, A.2.2 - 6) :=
  xt_th (A := A) (B := (A.1, A.2.1 - 1, A.2.2 - 6)) rfl ⟨by simp only; omega, by simp only; omega⟩ h
theorem xt_rr (A : xj_H) : xi_r A A := by unfold xi_r; omega
theorem xt_brn (x : String) (A : xj_H) (K : xj_Rf → xj_H → Option xj_R) : xj_br (some (.inr x, A)) K = some (.inr x, A) := rfl
theorem xt_bin (x : String) (A : xj_H) (K : Int32 → xj_H → Option xj_R) : xj_bi (some (.inr x, A)) K = some (.inr x, A) := rfl
/-- an event's cell -/
theorem xt_ev {A : xj_H} {G : xi_G} (hP : xi_Pg G) (hC : xi_Cg A G) {v : Int} (v0 : 0 ≤ v) (v1 : v < G.2.2.1.1) : ∃ d st, xu_E A (6 + 3 * v.toNat) (xp_C (G.2.2.1.2.2.2.1 v.toNat) (G.2.2.1.2.2.2.2 v.toNat)).length (G.2.2.1.2.2.2.2 v.toNat).length (G.2.2.1.2.1 v.toNat) (G.2.2.1.2.2.1 v.toNat) d st ∧ xu_h d (xp_C (G.2.2.1.2.2.2.1 v.toNat) (G.2.2.1.2.2.2.2 v.toNat)) ∧ xu_S (fun j => xz_mo G.2.1.1 G.2.1.2.1 G.2.1.2.2.1 G.2.1.2.2.2 (1440 * d j + G.2.2.1.2.1 v.toNat)) (xp_C (G.2.2.1.2.2.2.1 v.toNat) (G.2.2.1.2.2.2.2 v.toNat)).length st ∧ xp_E (G.2.2.1.2.2.2.1 v.toNat) (G.2.2.1.2.2.2.2 v.toNat) ∧ 0 ≤ G.2.2.1.2.1 v.toNat ∧ G.2.2.1.2.1 v.toNat ≤ 1439 ∧ 1 ≤ G.2.2.1.2.2.1 v.toNat ∧ G.2.2.1.2.2.1 v.toNat ≤ 2880 := by
  obtain ⟨P1, P2, P3, P4, P5, P6, P7, _⟩ := hP
  obtain ⟨k1, k2, k3, k4, k5⟩ := hC
  obtain ⟨d, st, h1, h2, h3⟩ := (k4.2 v.toNat (by omega)).2 (by omega)
  exact ⟨d, st, h1, h2, h3, P5 _ (by omega), (P6 _ (by omega)).1, (P6 _ (by omega)).2, (P7 _ (by omega)).1, (P7 _ (by omega)).2⟩
/-- the reference refuses -/
theorem xt_mno {p : Nat → Value} {G : xi_G} {M : xj_H → Option xj_R} (h : ∀ B, xi_Mg B p G → M B = xj_bi (xj_rq B (xj_o 34) 7 (fM_fails (xj_o 34) 1 B)) fun _ A2 => some (.inl (some (.int (0 : Int32))), A2)) : ∀ B, xi_Mg B p G → ∃ C p', M B = some (.inl (some (.int 0)), C) ∧ xk_u xt_S B C ∧ xi_Mg C p' G ∧ p' 0 = .int 1 := by
  intro B hB
  obtain ⟨C, c1, c2, c3⟩ := xt_fails hB (b := 1) (Or.inr rfl)
  refine ⟨C, _, ?_, c2, c3, rfl⟩
  rw [h B hB, xk_rq hB.1, c1, xe_bi]
theorem xt_times {A : xj_H} (hI : xi_I A) (r1 : 1 ≤ A.2.1) (r2 : 6 ≤ A.2.2) {v : Int} (v1 : -2147483648 ≤ v) (v2 : v ≤ 2147483647) : xt_R A (fL_times (xj_o 0) (xI v) (xj_o 50) A) (fM_times (xj_o 34) (xI v)) := by
  obtain ⟨G, p, hP, hC, hM, hO⟩ := hI
  have hne : G.2.2.1.1 ≤ 8 := hP.2.2.2.1
  unfold fL_times
  rcases xt_fe hP hC r1 r2 v1 v2 with ⟨w0, w1, w2⟩ | ⟨w0, w2⟩
  · obtain ⟨d, st, ⟨e1, _⟩, _, _, e5, _⟩ := xt_ev hP hC w0 w1
    have hl := e5.2.2.1
    have hx := e5.2.2.2.1
    have hs := e5.2.2.2.2.2
    refine xt_ok (v := xI (xp_C (G.2.2.1.2.2.2.1 v.toNat) (G.2.2.1.2.2.2.2 v.toNat)).length) (B0 := A) ?_ (xt_rq hC) hC (xi_gr _ _ _) (xt_rr A) hM hO hP fun B hB => ?_
    · unfold fB_times
      rw [xe_rq hC.1, w2, xe_br, xe_gi e1 rfl, xe_bind]
    · obtain ⟨C, c1, c2, c3⟩ := xt_fails hB (b := 0) (Or.inl rfl)
      refine ⟨C, _, ?_, c2, c3, rfl⟩
      obtain ⟨h1, h2, p2, p3, p4, p7, p33, h35, h36, h37, ⟨t1, t2, t3, t4, _⟩, _⟩ := id c3
      unfold fM_times fM_times_18
      rw [xl_0, xq_lt (by omega) (by omega) (by omega) (by omega), if_neg (by omega), xk_gi hB.1 hB.2.2.2.2.2.1 (by decide), xe_bind, xq_lt (by omega) (by omega) (by omega) (by omega), if_pos (by omega), xk_rq hB.1, ← xl_0, c1, xe_bi, xk_b0, xm_gr 41 h1 h2 (by decide) (by decide), xe_bind, xk_ai t3 (by omega) (by omega) (by omega), xe_bind, xm_gr 43 h1 h2 (by decide) (by decide), xe_bind, xk_ai t4 (by omega) (by omega) (by omega), xe_bind, xI_sub]
      unfold fM_times_41
      exact xj_ri (by omega)
  · obtain ⟨y1, y2, y3⟩ := xt_thC r1 r2 hC
    refine xt_no (k := 1) (w := 0) (nm := xt_nse) (by decide) ?_ rfl (xt_rq hC) y1 y2 y3 hM hO hP (xt_mno fun B hB => ?_)
    · unfold fB_times
      rw [xe_rq hC.1, w2, xt_brn]
    · unfold fM_times fM_times_13 fM_times_18 fM_times_41
      have hB7 := hB.2.2.2.2.2.1
      obtain ⟨C, c1, c2, c3⟩ := xt_fails hB (b := 1) (Or.inr rfl)
      rw [xl_0, xq_lt (by omega) (by omega) (by omega) (by omega)]
      by_cases q1 : v < 0
      · rw [if_pos q1, xk_rq hB.1, c1, xe_bi, xe_bi, ← xl_0, xk_b1]
      · rw [if_neg q1, xk_gi hB.1 hB7 (by decide), xe_bind, xq_lt (by omega) (by omega) (by omega) (by omega), if_neg (by omega), xk_rq hB.1, c1, xe_bi, xe_bi, ← xl_0, xk_b1]
/-! A time of an event. -/
theorem xt_ft {A : xj_H} {G : xi_G} (hP : xi_Pg G) (hC : xi_Cg A G) (r1 : 1 ≤ A.2.1) (r2 : 6 ≤ A.2.2) {v k : Int} (v1 : -2147483648 ≤ v) (v2 : v ≤ 2147483647) (k1 : -2147483648 ≤ k) (k2 : k ≤ 2147483647) :
    ((0 ≤ v ∧ v < G.2.2.1.1 ∧ 0 ≤ k ∧ k < (xp_C (G.2.2.1.2.2.2.1 v.toNat) (G.2.2.1.2.2.2.2 v.toNat)).length) ∧ ∃ a, (xp_C (G.2.2.1.2.2.2.1 v.toNat) (G.2.2.1.2.2.2.2 v.toNat))[k.toNat]? = some a ∧ 0 ≤ a ∧ a ≤ 36524 ∧ fB_findTime (xj_o 0) (xI v) (xI k) A = some (.inl (some (.int (xI a))), A)) ∨
    (¬ (0 ≤ v ∧ v < G.2.2.1.1 ∧ 0 ≤ k ∧ k < (xp_C (G.2.2.1.2.2.2.1 v.toNat) (G.2.2.1.2.2.2.2 v.toNat)).length) ∧ fB_findTime (xj_o 0) (xI v) (xI k) A = some (.inr xt_nse, (A.1, A.2.1 - 1, A.2.2 - 6))) := by
  unfold fB_findTime fB_findTime_18
  rw [xe_rq hC.1]
  rcases xt_fe hP hC r1 r2 v1 v2 with ⟨w0, w1, w2⟩ | ⟨w0, w2⟩
  · obtain ⟨d, st, ⟨e1, e2, _⟩, e3, _, e5, _⟩ := xt_ev hP hC w0 w1
    have hl := xp_Cl e5
    have hbd := xp_Cb e5
    rw [w2, xe_br, xi_th _ r1 r2, xl_0, xq_lt (by omega) (by omega) (by omega) (by omega)]
    by_cases c1 : k < 0
    · rw [if_pos c1]
      exact Or.inr ⟨by omega, rfl⟩
    rw [if_neg c1, xe_gi e1 rfl, xe_bind, xq_lt (by omega) (by omega) (by omega) (by omega)]
    by_cases c2 : k < (xp_C (G.2.2.1.2.2.2.1 v.toNat) (G.2.2.1.2.2.2.2 v.toNat)).length
    · have hk : (xp_C (G.2.2.1.2.2.2.1 v.toNat) (G.2.2.1.2.2.2.2 v.toNat))[k.toNat]? = some (xp_C (G.2.2.1.2.2.2.1 v.toNat) (G.2.2.1.2.2.2.2 v.toNat))[k.toNat] := List.getElem?_eq_getElem (by omega)
      have ha := hbd _ (List.mem_of_getElem? hk)
      rw [if_pos c2, xe_gr e1 rfl, xe_bind, xk_ai e2 (by omega) (by omega) (by omega), xe_bind, e3 _ _ hk]
      exact Or.inl ⟨⟨w0, w1, by omega, c2⟩, _, hk, ha.1, ha.2, rfl⟩
    · rw [if_neg c2]
      exact Or.inr ⟨fun h => c2 h.2.2.2, rfl⟩
  · rw [w2, xt_brn]
    exact Or.inr ⟨fun h => w0 ⟨h.1, h.2.1⟩, rfl⟩
theorem xt_td {B : xj_H} {p : Nat → Value} {G : xi_G} (hP : xi_Pg G) (hB : xi_Mg B p G) {v k : Int} (v1 : -2147483648 ≤ v) (v2 : v ≤ 2147483647) (k1 : -2147483648 ≤ k) (k2 : k ≤ 2147483647) :
    (¬ (0 ≤ v ∧ v < G.2.2.1.1 ∧ 0 ≤ k ∧ k < (xp_C (G.2.2.1.2.2.2.1 v.toNat) (G.2.2.1.2.2.2.2 v.toNat)).length) ∧ fM_timeDay (xj_o 34) (xI v) (xI k) B = some (.inl (some (.int (xI (-1)))), B)) ∨
    ((0 ≤ v ∧ v < G.2.2.1.1 ∧ 0 ≤ k ∧ k < (xp_C (G.2.2.1.2.2.2.1 v.toNat) (G.2.2.1.2.2.2.2 v.toNat)).length) ∧ ∃ a, (xp_C (G.2.2.1.2.2.2.1 v.toNat) (G.2.2.1.2.2.2.2 v.toNat))[k.toNat]? = some a ∧ fM_timeDay (xj_o 34) (xI v) (xI k) B = some (.inl (some (.int (xI a))), B)) :=
  xm_timeDay hB.1 hB.2.1 hB.2.2.2.2.2.1 hP.2.2.2.1 hB.2.2.2.2.2.2.2.2.2.2.1 hP.2.2.2.2.1 v1 v2 k1 k2
theorem xt_day {A : xj_H} (hI : xi_I A) (r1 : 1 ≤ A.2.1) (r2 : 6 ≤ A.2.2) {v k : Int} (v1 : -2147483648 ≤ v) (v2 : v ≤ 2147483647) (k1 : -2147483648 ≤ k) (k2 : k ≤ 2147483647) : xt_R A (fL_day (xj_o 0) (xI v) (xI k) (xj_o 50) A) (fM_day (xj_o 34) (xI v) (xI k)) := by
  obtain ⟨G, p, hP, hC, hM, hO⟩ := hI
  unfold fL_day
  rcases xt_ft hP hC r1 r2 v1 v2 k1 k2 with ⟨w0, a, w1, a0, a1, w2⟩ | ⟨w0, w2⟩
  · refine xt_ok (v := xI a) (B0 := A) ?_ (xt_rq hC) hC (xi_gr _ _ _) (xt_rr A) hM hO hP fun B hB => ?_
    · unfold fB_day
      rw [xe_rq hC.1, w2, xe_bi]
    · obtain ⟨C, c1, c2, c3⟩ := xt_fails hB (b := 0) (Or.inl rfl)
      refine ⟨C, _, ?_, c2, c3, rfl⟩
      rcases xt_td hP hB v1 v2 k1 k2 with ⟨t0, _⟩ | ⟨_, a', t1, t2⟩
      · exact absurd w0 t0
      · rw [w1] at t1
        have ea := Option.some.inj t1
        subst ea
        unfold fM_day fM_day_17 fM_day_28
        rw [xk_rq hB.1, t2, xe_bi, xl_0, xq_le (by omega) (by omega) (by omega) (by omega), if_pos a0, xk_rq hB.1, ← xl_0, c1, xe_bi, xk_b0]
  · obtain ⟨y1, y2, y3⟩ := xt_thC r1 r2 hC
    refine xt_no (k := 1) (w := 0) (nm := xt_nse) (by decide) ?_ rfl (xt_rq hC) y1 y2 y3 hM hO hP (xt_mno fun B hB => ?_)
    · unfold fB_day
      rw [xe_rq hC.1, w2, xt_bin]
    · rcases xt_td hP hB v1 v2 k1 k2 with ⟨_, t2⟩ | ⟨t0, _⟩
      · obtain ⟨C, c1, c2, c3⟩ := xt_fails hB (b := 1) (Or.inr rfl)
        unfold fM_day fM_day_17 fM_day_28
        rw [xk_rq hB.1, t2, xe_bi, xl_0, xq_le (by omega) (by omega) (by omega) (by omega), if_neg (by omega), xk_rq hB.1, c1, xe_bi, xe_bi, ← xl_0, xk_b1]
      · exact absurd t0 w0
theorem xt_moment {A : xj_H} (hI : xi_I A) (r1 : 1 ≤ A.2.1) (r2 : 6 ≤ A.2.2) {v k : Int} (v1 : -2147483648 ≤ v) (v2 : v ≤ 2147483647) (k1 : -2147483648 ≤ k) (k2 : k ≤ 2147483647) : xt_R A (fL_moment (xj_o 0) (xI v) (xI k) (xj_o 50) A) (fM_moment (xj_o 34) (xI v) (xI k)) := by
  obtain ⟨G, p, hP, hC, hM, hO⟩ := hI
  have hF : xz_F G.2.1.1 G.2.1.2.1 G.2.1.2.2.1 G.2.1.2.2.2 := hP.2.2.1
  have hne : G.2.2.1.1 ≤ 8 := hP.2.2.2.1
  unfold fL_moment
  rcases xt_ft hP hC r1 r2 v1 v2 k1 k2 with ⟨w0, a, w1, a0, a1, w2⟩ | ⟨w0, w2⟩
  · obtain ⟨d, st, ⟨e1, _⟩, _, _, e5, e6, e7, _⟩ := xt_ev hP hC w0.1 w0.2.1
    refine xt_ok (v := xI (xz_mo G.2.1.1 G.2.1.2.1 G.2.1.2.2.1 G.2.1.2.2.2 (1440 * a + G.2.2.1.2.1 v.toNat))) (B0 := A) ?_ (xt_rq hC) hC (xi_gr _ _ _) (xt_rr A) hM hO hP fun B hB => ?_
    · rcases xt_fe hP hC r1 r2 v1 v2 with ⟨_, _, q2⟩ | ⟨q0, _⟩
      · unfold fB_moment
        rw [xe_rq hC.1, w2, xe_bi, xe_gr hC.1 rfl, xe_bind, xe_rq hC.1, q2, xe_br, xe_gi e1 rfl, xe_bind, xl_1440, xI_mul, xI_add, xe_rq hC.2.2.1.1, xz_moC hC.2.2.1 hF (by omega) (by omega), xe_bi]
      · exact absurd ⟨w0.1, w0.2.1⟩ q0
    · obtain ⟨C, c1, c2, c3⟩ := xt_fails hB (b := 0) (Or.inl rfl)
      refine ⟨C, _, ?_, c2, c3, rfl⟩
      obtain ⟨h1, h2, p2, p3, p4, p7, p33, h35, h36, h37, ⟨t1', _⟩, _⟩ := id c3
      rcases xt_td hP hB v1 v2 k1 k2 with ⟨t0, _⟩ | ⟨_, a', t1, t2⟩
      · exact absurd w0 t0
      · rw [w1] at t1
        have ea := Option.some.inj t1
        subst ea
        unfold fM_moment fM_moment_17 fM_moment_43
        rw [xk_rq hB.1, t2, xe_bi, xl_0, xq_le (by omega) (by omega) (by omega) (by omega), if_pos a0, xk_rq hB.1, ← xl_0, c1, xe_bi, xk_b0, xm_gr 38 h1 h2 (by decide) (by decide), xe_bind, xk_ai t1' (by omega) (by omega) (by omega), xe_bind, xl_1440, xI_mul, xI_add, xk_rq h1, xz_moM h1 p3 p4 (h2 (5, 36) (by decide)) (h2 (6, 37) (by decide)) h36 h37 hF (by omega) (by omega), xe_bi]
  · obtain ⟨y1, y2, y3⟩ := xt_thC r1 r2 hC
    refine xt_no (k := 1) (w := 0) (nm := xt_nse) (by decide) ?_ rfl (xt_rq hC) y1 y2 y3 hM hO hP (xt_mno fun B hB => ?_)
    · unfold fB_moment
      rw [xe_rq hC.1, w2, xt_bin]
    · rcases xt_td hP hB v1 v2 k1 k2 with ⟨_, t2⟩ | ⟨t0, _⟩
      · obtain ⟨C, c1, c2, c3⟩ := xt_fails hB (b := 1) (Or.inr rfl)
        unfold fM_moment fM_moment_17 fM_moment_43
        rw [xk_rq hB.1, t2, xe_bi, xl_0, xq_le (by omega) (by omega) (by omega) (by omega), if_neg (by omega), xk_rq hB.1, c1, xe_bi, xe_bi, ← xl_0, xk_b1]
      · exact absurd t0 w0
theorem xt_clash {A : xj_H} (hI : xi_I A) (r1 : 1 ≤ A.2.1) (r2 : 6 ≤ A.2.2) {v k : Int} (v1 : -2147483648 ≤ v) (v2 : v ≤ 2147483647) (k1 : -2147483648 ≤ k) (k2 : k ≤ 2147483647) : xt_R A (fL_clash (xj_o 0) (xI v) (xI k) (xj_o 50) A) (fM_clash (xj_o 34) (xI v) (xI k)) := by
  obtain ⟨G, p, hP, hC, hM, hO⟩ := hI
  have hF : xz_F G.2.1.1 G.2.1.2.1 G.2.1.2.2.1 G.2.1.2.2.2 := hP.2.2.1
  have hne : G.2.2.1.1 ≤ 8 := hP.2.2.2.1
  have hmodel : ¬ ((0 ≤ v ∧ v < G.2.2.1.1) ∧ (0 ≤ k ∧ k < G.2.2.1.1)) → ∀ B, xi_Mg B p G → fM_clash (xj_o 34) (xI v) (xI k) B = xj_bi (xj_rq B (xj_o 34) 7 (fM_fails (xj_o 34) 1 B)) fun _ A2 => some (.inl (some (.int (0 : Int32))), A2) := by
    intro hno B hB
    obtain ⟨C, c1, c2, c3⟩ := xt_fails hB (b := 1) (Or.inr rfl)
    have h30 : fM_clash_25 (xj_o 34) (xI v) (xI k) (xj_o 34) B = xj_bi (xj_rq B (xj_o 34) 7 (fM_fails (xj_o 34) 1 B)) fun _ A2 => some (.inl (some (.int (0 : Int32))), A2) := by
      unfold fM_clash_25 fM_clash_30
      rw [xk_rq hB.1, c1, xe_bi, xe_bi, xk_b1]
    have g7 := xk_gi hB.1 hB.2.2.2.2.2.1 (by decide)
    unfold fM_clash
    rw [h30, xl_0, xq_lt (by omega) (by omega) (by omega) (by omega)]
    by_cases q1 : v < 0
    · rw [if_pos q1]
    rw [if_neg q1, g7, xe_bind, xq_le (by omega) (by omega) (by omega) (by omega)]
    by_cases q2 : (G.2.2.1.1 : Int) ≤ v
    · rw [if_pos q2]
    rw [if_neg q2, xq_lt (by omega) (by omega) (by omega) (by omega)]
    by_cases q3 : k < 0
    · rw [if_pos q3]
    rw [if_neg q3, xe_bind, xq_lt (by omega) (by omega) (by omega) (by omega), if_neg (by omega)]
  unfold fL_clash
  rcases xt_fe hP hC r1 r2 v1 v2 with ⟨w0, w1, w2⟩ | ⟨w0, w2⟩
  · rcases xt_fe hP hC r1 r2 k1 k2 with ⟨u0, u1, u2⟩ | ⟨u0, u2⟩
    · obtain ⟨da, sa, ea, ha1, ha2, ha3, ha4, ha5, ha6, ha7⟩ := xt_ev hP hC w0 w1
      obtain ⟨db, sb, eb, hb1, hb2, hb3, hb4, hb5, hb6, hb7⟩ := xt_ev hP hC u0 u1
      obtain ⟨r, q1, q2⟩ := xc_first hF ea eb (xp_Cl ha3) (xp_Cl hb3) ha6 ha7 hb6 hb7 ha4 ha5 hb4 hb5 ha1 hb1 (xp_Cb ha3) (xp_Cb hb3) ha2 hb2
      refine xt_ok (v := xI r) (B0 := A) ?_ (xt_rq hC) hC (xi_gr _ _ _) (xt_rr A) hM hO hP fun B hB => ?_
      · unfold fB_clash
        rw [xe_rq hC.1, w2, xe_br, xe_rq hC.1, u2, xe_br, q2, xe_bi]
      · obtain ⟨C, c1, c2, c3⟩ := xt_fails hB (b := 0) (Or.inl rfl)
        refine ⟨C, _, ?_, c2, c3, rfl⟩
        obtain ⟨h1, h2, p2, p3, p4, p7, p33, h35, h36, h37, hT, _⟩ := id c3
        obtain ⟨r', q3, q4⟩ := xm_clash h1 h2 hT hP.2.2.2.2.1 p3 p4 h36 h37 hF (a := v.toNat) (b := k.toNat) (by omega) (by omega) ⟨ha4, ha5⟩ ⟨hb4, hb5⟩ ⟨ha6, ha7⟩ ⟨hb6, hb7⟩
        rw [show ((v.toNat : Nat) : Int) = v by omega, show ((k.toNat : Nat) : Int) = k by omega] at q4
        have hrr := xc_u q1 q3
        subst hrr
        have g7 := xk_gi hB.1 hB.2.2.2.2.2.1 (by decide)
        unfold fM_clash fM_clash_30
        rw [xl_0, xq_lt (by omega) (by omega) (by omega) (by omega), if_neg (by omega), g7, xe_bind, xq_le (by omega) (by omega) (by omega) (by omega), if_neg (by omega), xq_lt (by omega) (by omega) (by omega) (by omega), if_neg (by omega), xe_bind, xq_lt (by omega) (by omega) (by omega) (by omega), if_pos u1, xk_rq hB.1, ← xl_0, c1, xe_bi, xk_b0]
        exact q4
    · obtain ⟨y1, y2, y3⟩ := xt_thC r1 r2 hC
      refine xt_no (k := 1) (w := 0) (nm := xt_nse) (by decide) ?_ rfl (xt_rq hC) y1 y2 y3 hM hO hP (xt_mno (hmodel fun h => u0 h.2))
      unfold fB_clash
      rw [xe_rq hC.1, w2, xe_br, xe_rq hC.1, u2, xt_brn]
  · obtain ⟨y1, y2, y3⟩ := xt_thC r1 r2 hC
    refine xt_no (k := 1) (w := 0) (nm := xt_nse) (by decide) ?_ rfl (xt_rq hC) y1 y2 y3 hM hO hP (xt_mno (hmodel fun h => w0 h.1))
    unfold fB_clash
    rw [xe_rq hC.1, w2, xt_brn]

/-! The objects at the start. -/
theorem xt_st {A : xj_H} {q a ci : Nat} {fs : List Value} (h : A.1[q]? = some (.inr (ci, fs))) (hl : A.1.length = a) (x : xj_C) (sz k : Nat) (hk : k < fs.length) (r1 : 1 ≤ A.2.1) (r2 : sz ≤ A.2.2) :
    ∃ B C, xj_mk A x sz = some B ∧ xj_pv B (xj_o q) ci k (xj_rv (xj_o A.1.length)) = some C ∧ C.1[q]? = some (.inr (ci, fs.set k (.ref a))) ∧ C.1[a]? = some x ∧ C.1.length = a + 1 ∧ (∀ i, i < a → i ≠ q → C.1[i]? = A.1[i]?) ∧ C.2.1 + 1 = A.2.1 ∧ C.2.2 + sz = A.2.2 := by
  have hq : q < A.1.length := (List.getElem?_eq_some_iff.mp h).1
  obtain ⟨B, b1, b2, b3, b4, b5, b6⟩ := xt_mk (A := A) x r1 r2
  obtain ⟨C, c1, c2, c3⟩ := xk_pw (.ref a) ((b4 q hq).trans h) hk
  refine ⟨B, C, b1, ?_, c2, ?_, by rw [c3.2.1, b3, hl], fun i hi hiq => (c3.2.2 i hiq).trans (b4 i (by omega)), by rw [c3.1]; exact b5, by rw [c3.1]; exact b6⟩
  · rw [hl]; exact c1
  · rw [c3.2.2 a (by omega), ← hl, b2]
theorem xt_a0 {A : xj_H} {t a n : Nat} (h : A.1[a]? = some (.inl (t, n, .inl (fun _ => 0)))) : xk_a A t a n (fun _ => 0) := ⟨_, h, fun _ _ => rfl⟩
/-- an event is made, and put into the row of events -/
theorem xt_ie {A : xj_H} {k : Nat} (hk : k < 8) (hl : A.1.length = 6 + 3 * k) (hV : ∃ ev : Nat → Option Nat, A.1[5]? = some (.inl (4, 8, .inr (.inr (.inr (.inr ev))))) ∧ ∀ i, i < k → ev i = some (6 + 3 * i)) (r1 : 3 ≤ A.2.1) (r2 : 406 ≤ A.2.2) :
    ∃ A8 A9 A10, xj_mk A (.inr (2, [.null, .null, .int 0, .int 0, .int 0, .int 0])) 6 = some A8 ∧ fE_init (xj_o A.1.length) A8 = some (.inl none, A9) ∧ xj_ras A9 (xj_o 5) (xI k) 2 (xj_o A.1.length) = some A10 ∧ A10.1.length = 6 + 3 * (k + 1) ∧ (∃ ev : Nat → Option Nat, A10.1[5]? = some (.inl (4, 8, .inr (.inr (.inr (.inr ev))))) ∧ ∀ i, i < k + 1 → ev i = some (6 + 3 * i)) ∧ xi_fr A10 k ∧ (∀ i, i < 6 + 3 * k → i ≠ 5 → A10.1[i]? = A.1[i]?) ∧ A10.2.1 + 3 = A.2.1 ∧ A10.2.2 + 406 = A.2.2 := by
  obtain ⟨A8, a1, a2, a3, a4, a5, a6⟩ := xt_mk (A := A) (.inr (2, [.null, .null, .int 0, .int 0, .int 0, .int 0])) (k := 6) (by omega) (by omega)
  rw [hl] at a2 a3
  obtain ⟨B1, C1, b1, b2, b3, b4, b5, b6, b7, b8⟩ := xt_st a2 a3 (.inl (0, 200, .inl (fun _ => 0))) 200 0 (by simp) (by omega) (by omega)
  obtain ⟨B2, C2, c1, c2, c3, c4, c5, c6, c7, c8⟩ := xt_st b3 b5 (.inl (0, 200, .inl (fun _ => 0))) 200 1 (by simp) (by omega) (by omega)
  obtain ⟨ev, v1, v2⟩ := hV
  have v1' : C2.1[5]? = some (.inl (4, 8, .inr (.inr (.inr (.inr ev))))) := (c6 5 (by omega) (by omega)).trans ((b6 5 (by omega) (by omega)).trans ((a4 5 (by omega)).trans v1))
  have hkk : (xI (k : Int)).toNatClampNeg = k := by rw [xI_nat ⟨by omega, by omega⟩]; omega
  have hin := xe_in (i := (k : Int)) (n := 8) (by omega) (by omega) (by decide)
  have hras : xj_ras C2 (xj_o 5) (xI k) 2 (xj_o A.1.length) = some (C2.1.set 5 (.inl (4, 8, .inr (.inr (.inr (.inr (va_up ev k (some (6 + 3 * k)))))))), C2.2) := by
    rw [hl]
    simp only [xj_ras, xj_o, v1', c3]
    rw [if_pos ⟨trivial, trivial, hin⟩, hkk]
  have u : xk_u (fun i => i = 5) C2 (C2.1.set 5 (.inl (4, 8, .inr (.inr (.inr (.inr (va_up ev k (some (6 + 3 * k)))))))), C2.2) := xk_set v1'
  refine ⟨A8, C2, _, a1, ?_, hras, ?_, ⟨_, xe_set_eq v1', fun i hi => ?_⟩, ⟨0, 0, 0, 0, fun _ => 0, fun _ => 0, ?_, ?_, ?_⟩, fun i hi h5 => ?_, ?_, ?_⟩
  · unfold fE_init
    rw [hl, xt_isw, b1, xe_bind, b2, xe_bind, c1, xe_bind, c2, xe_bind]
  · rw [u.2.1, c5]; omega
  · by_cases ei : i = k
    · subst ei; simp [va_up]
    · simp only [va_up, if_neg ei]; exact v2 i (by omega)
  · exact xk_c c3 u (by omega)
  · exact xk_au (xt_a0 ((c6 _ (by omega) (by omega)).trans b4)) u (by omega)
  · exact xk_au (xt_a0 c4) u (by omega)
  · rw [u.2.2 i h5, c6 i (by omega) (by omega), b6 i (by omega) (by omega), a4 i (by omega)]
  · rw [u.1]; omega
  · rw [u.1]; omega
theorem xt_iL {A0 : xj_H} : ∀ (z k : Nat) (A : xj_H), k ≤ 8 → 8 - k < z → A.1.length = 6 + 3 * k → A.1[0]? = some (.inr (0, [.ref 1, .int 0, .ref 2, .ref 5, .int 0, .null, .null])) → (∃ ev : Nat → Option Nat, A.1[5]? = some (.inl (4, 8, .inr (.inr (.inr (.inr ev))))) ∧ ∀ i, i < k → ev i = some (6 + 3 * i)) → (∀ e, e < k → xi_fr A e) → (∀ i, i < 5 → A.1[i]? = A0.1[i]?) → 601000 ≤ A.2.1 + 3 * k → 7290000 ≤ A.2.2 + 406 * k →
      ∃ B, fB_init_53 z (xj_o 0) (xI k) A = some (.inl none, B) ∧ B.1.length = 34 ∧ B.1[0]? = some (.inr (0, [.ref 1, .int 0, .ref 2, .ref 5, .int 0, .ref 30, .ref 31])) ∧ xb_V B ∧ (∀ e, e < 8 → xi_fr B e) ∧ xk_a B 0 30 8 (fun _ => 0) ∧ xb_S B 0 0 0 (fun _ => 0) (fun _ => 0) ∧ (∀ i, 0 < i → i < 5 → B.1[i]? = A0.1[i]?) ∧ 600000 ≤ B.2.1 ∧ 7280000 ≤ B.2.2
  | 0, k, A, _, h, _, _, _, _, _, _, _ => by omega
  | z + 1, k, A, hk, hz, hl, h0, hV, hf, hs, r1, r2 => by
    rw [fB_init_53, xl_8, xq_le (by omega) (by omega) (by omega) (by omega)]
    by_cases hc : (8 : Int) ≤ k
    · have hk8 : k = 8 := by omega
      subst hk8
      obtain ⟨A1, a1, a2, a3⟩ := xk_pw (.int (0 : Int32)) h0 (k := 4) (by simp)
      have l1 : A1.1.length = 30 := a3.2.1.trans hl
      have r1' : A1.2.1 = A.2.1 := by rw [a3.1]
      have r2' : A1.2.2 = A.2.2 := by rw [a3.1]
      obtain ⟨B2, A3, b1, b2, b3, b4, b5, b6, b7, b8⟩ := xt_st a2 l1 (.inl (0, 8, .inl (fun _ => 0))) 8 5 (by simp) (by omega) (by omega)
      obtain ⟨A4, c1, c2, c3, c4, c5, c6⟩ := xt_mk (A := A3) (.inr (3, [.null, .null, .int 0, .int 0, .int 0])) (k := 5) (by omega) (by omega)
      rw [b5] at c2 c3 c4
      obtain ⟨B5, C5, d1, d2, d3, d4, d5, d6, d7, d8⟩ := xt_st c2 c3 (.inl (0, 1600, .inl (fun _ => 0))) 1600 0 (by simp) (by omega) (by omega)
      obtain ⟨B6, C6, e1, e2, e3, e4, e5, e6, e7, e8⟩ := xt_st d3 d5 (.inl (0, 1600, .inl (fun _ => 0))) 1600 1 (by simp) (by omega) (by omega)
      obtain ⟨C7, f1, f2, f3⟩ := xk_pw (.int (0 : Int32)) e3 (k := 2) (by simp)
      have hoth : ∀ i, i < 30 → i ≠ 0 → C7.1[i]? = A.1[i]? := fun i hi hi0 => by
        rw [f3.2.2 i (by omega), e6 i (by omega) (by omega), d6 i (by omega) (by omega), c4 i (by omega), b6 i (by omega) (by omega), a3.2.2 i hi0]
      have h0C : C7.1[0]? = some (.inr (0, [.ref 1, .int 0, .ref 2, .ref 5, .int 0, .ref 30, .null])) := by
        rw [f3.2.2 0 (by omega), e6 0 (by omega) (by omega), d6 0 (by omega) (by omega), c4 0 (by omega)]
        exact b3
      obtain ⟨C8, g1, g2, g3⟩ := xk_pw (.ref 31) h0C (k := 6) (by simp)
      have hoth8 : ∀ i, i < 30 → i ≠ 0 → C8.1[i]? = A.1[i]? := fun i hi hi0 => (g3.2.2 i hi0).trans (hoth i hi hi0)
      rw [if_pos hc, a1, xe_bind, b1, xe_bind, b2, xe_bind, c1, xe_bind]
      have hS : fS_init (xj_o A3.1.length) A4 = some (.inl none, C7) := by
        unfold fS_init
        rw [b5, xt_isw, d1, xe_bind, d2, xe_bind, e1, xe_bind, e2, xe_bind, f1, xe_bind]
      have g1' : xj_pv C7 (xj_o 0) 0 6 (xj_rv (xj_o A3.1.length)) = some C8 := by rw [b5]; exact g1
      rw [hS, xe_bv, g1', xe_bind]
      obtain ⟨ev, v1, v2⟩ := hV
      refine ⟨C8, rfl, by rw [g3.2.1, f3.2.1, e5], g2, ⟨ev, (hoth8 5 (by omega) (by omega)).trans v1, v2⟩, fun e he => xi_frc (hf e he) fun i i1 i2 => hoth8 i (by omega) (by omega), ?_, ⟨?_, ?_, ?_⟩, fun i i0 i5 => (hoth8 i (by omega) (by omega)).trans (hs i i5), ?_, ?_⟩
      · refine xt_a0 ?_
        rw [g3.2.2 30 (by omega), f3.2.2 30 (by omega), e6 30 (by omega) (by omega), d6 30 (by omega) (by omega), c4 30 (by omega)]
        exact b4
      · rw [g3.2.2 31 (by omega)]
        exact f2
      · refine xt_a0 ?_
        rw [g3.2.2 32 (by omega), f3.2.2 32 (by omega), e6 32 (by omega) (by omega)]
        exact d4
      · refine xt_a0 ?_
        rw [g3.2.2 33 (by omega), f3.2.2 33 (by omega)]
        exact e4
      · have : C8.2 = C6.2 := g3.1.trans f3.1
        rw [this]; omega
      · have : C8.2 = C6.2 := g3.1.trans f3.1
        rw [this]; omega
    · obtain ⟨A8, A9, A10, q1, q2, q3, q4, q5, q6, q7, q8, q9⟩ := xt_ie (A := A) (k := k) (by omega) hl hV (by omega) (by omega)
      rw [if_neg hc, xe_gr h0 rfl, xe_bind, q1, xe_bind, q2, xe_bv, q3, xe_bind, xl_1, xI_add]
      exact xt_iL z (k + 1) A10 (by omega) (by omega) q4 ((q7 0 (by omega) (by omega)).trans h0) q5 (fun e he => by
        by_cases ek : e = k
        · subst ek; exact q6
        · exact xi_frc (hf e (by omega)) fun i i1 i2 => q7 i (by omega) (by omega)) (fun i hi => (q7 i (by omega) (by omega)).trans (hs i hi)) (by omega) (by omega)
/-- the book at the start -/
theorem xt_initB : ∃ A1 A2, xj_mk xs_A0 (.inr (0, [.null, .int 0, .null, .null, .int 0, .null, .null])) 7 = some A1 ∧ fB_init (xj_o xs_A0.1.length) A1 = some (.inl none, A2) ∧ A2.1.length = 34 ∧ xi_C A2 0 (fun _ => 0) 0 0 (xz_b 0 3 5) (xz_e 0 10 5) 0 (fun _ => 0) (fun _ => 0) (fun _ => []) (fun _ => []) 0 (fun _ => 0) (fun _ => 0) ∧ 600000 ≤ A2.2.1 ∧ 7280000 ≤ A2.2.2 := by
  have s1 : xs_A0.2.1 = 601024 := rfl
  have s2 : xs_A0.2.2 = 7293034 := rfl
  obtain ⟨A1, a1, a2, a3, _, a5, a6⟩ := xt_mk (A := xs_A0) (.inr (0, [.null, .int 0, .null, .null, .int 0, .null, .null])) (k := 7) (by omega) (by omega)
  have hl0 : xs_A0.1.length = 0 := rfl
  rw [hl0] at a2 a3
  obtain ⟨B1, C1, b1, b2, b3, b4, b5, b6, b7, b8⟩ := xt_st a2 a3 (.inl (1, 60, .inl (fun _ => 0))) 60 0 (by simp) (by omega) (by omega)
  obtain ⟨C2, c1, c2, c3⟩ := xk_pw (.int (0 : Int32)) b3 (k := 1) (by simp)
  have l2 : C2.1.length = 2 := c3.2.1.trans b5
  have t1 : C2.2.1 = C1.2.1 := by rw [c3.1]
  have t2 : C2.2.2 = C1.2.2 := by rw [c3.1]
  obtain ⟨C3, d1, d2, d3, d4, d5, d6⟩ := xt_mk (A := C2) (.inr (1, [.int 0, .int 0, .null, .null])) (k := 4) (by omega) (by omega)
  rw [l2] at d2 d3 d4
  obtain ⟨B4, C4, e1, e2, e3, e4, e5, e6, e7, e8⟩ := xt_st d2 d3 (.inl (0, 100, .inl (fun _ => 0))) 100 2 (by simp) (by omega) (by omega)
  obtain ⟨B5, C5, f1, f2, f3, f4, f5, f6, f7, f8⟩ := xt_st e3 e5 (.inl (0, 100, .inl (fun _ => 0))) 100 3 (by simp) (by omega) (by omega)
  have h0 : C5.1[0]? = some (.inr (0, [.ref 1, .int 0, .null, .null, .int 0, .null, .null])) := by
    rw [f6 0 (by omega) (by omega), e6 0 (by omega) (by omega), d4 0 (by omega)]; exact c2
  have h1 : C5.1[1]? = some (.inl (1, 60, .inl (fun _ => 0))) := by
    rw [f6 1 (by omega) (by omega), e6 1 (by omega) (by omega), d4 1 (by omega), c3.2.2 1 (by omega)]; exact b4
  obtain ⟨C6, g1, g2, g3⟩ := xk_pw (.ref 2) h0 (k := 2) (by simp)
  have hz2 : C6.1[2]? = some (.inr (1, [.int 0, .int 0, .ref 3, .ref 4])) := (g3.2.2 2 (by omega)).trans f3
  have hz3 : xk_a C6 0 3 100 (fun _ => 0) := xt_a0 ((g3.2.2 3 (by omega)).trans ((f6 3 (by omega) (by omega)).trans e4))
  have hz4 : xk_a C6 0 4 100 (fun _ => 0) := xt_a0 ((g3.2.2 4 (by omega)).trans f4)
  obtain ⟨C7, i1, i2, i3⟩ := xz_change (z := 2) (zb := 3) (ze := 4) (by decide) (by decide) (by decide) (s := 0) (m := 0) (bm := 3) (n := 5) (em := 10) (k := 5) (by decide) (by decide) (by decide) (by decide) (by decide) (by decide) (by decide) (by decide) hz2 hz3 hz4
  have i1' : fZ_change (xj_o 2) (0 : Int32) (0 : Int32) (3 : Int32) (5 : Int32) (10 : Int32) (5 : Int32) C6 = some (.inl none, C7) := i1
  have l7 : C7.1.length = 5 := by rw [i2.2.1, g3.2.1, f5]
  have k0 : C7.1[0]? = some (.inr (0, [.ref 1, .int 0, .ref 2, .null, .int 0, .null, .null])) := (i2.2.2 0 (by omega)).trans g2
  have t3 : C7.2.1 = C5.2.1 := by rw [i2.1, g3.1]
  have t4 : C7.2.2 = C5.2.2 := by rw [i2.1, g3.1]
  obtain ⟨B8, C8, j1, j2, j3, j4, j5, j6, j7, j8⟩ := xt_st k0 l7 (.inl (4, 8, .inr (.inr (.inr (.inr (fun _ => none)))))) 8 3 (by simp) (by omega) (by omega)
  obtain ⟨Z, z1, z2, z3, z4, z5, z6, z7, z8, z9, z10⟩ := xt_iL (A0 := C8) xj_fu 0 C8 (by omega) (by unfold xj_fu; omega) (by omega) j3 ⟨_, j4, fun i hi => by omega⟩ (fun e he => by omega) (fun i hi => rfl) (by omega) (by omega)
  rw [show ((0 : Nat) : Int) = 0 from rfl, ← xl_0] at z1
  have hZ : ∀ i, 0 < i → i < 5 → Z.1[i]? = C7.1[i]? := fun i i0 i5 => (z8 i i0 i5).trans (j6 i i5 (by omega))
  refine ⟨A1, Z, a1, ?_, z2, ⟨z3, ?_, ⟨(hZ 2 (by omega) (by omega)).trans i3.1, xi_ac i3.2.1 (hZ 3 (by omega) (by omega)), xi_ac i3.2.2 (hZ 4 (by omega) (by omega))⟩, ⟨z4, fun e he => ⟨z5 e he, fun hn => by omega⟩⟩, ⟨_, z6⟩, 0, 0, z7⟩, z9, z10⟩
  · have c1' : xj_pv C1 (xj_o 0) 0 1 (.int (0 : Int32)) = some C2 := c1
    have hZi : fZ_init (xj_o C2.1.length) C3 = some (.inl none, C5) := by
      unfold fZ_init
      rw [l2, xt_isw, e1, xe_bind, e2, xe_bind, f1, xe_bind, f2, xe_bind]
    have g1' : xj_pv C5 (xj_o 0) 0 2 (xj_rv (xj_o C2.1.length)) = some C6 := by rw [l2]; exact g1
    unfold fB_init
    rw [hl0, xt_isw, b1, xe_bind, b2, xe_bind, c1', xe_bind, d1, xe_bind, hZi, xe_bv, g1', xe_bind, xe_gr g2 rfl, xe_bind, xe_rq hz2, i1', xe_bv, j1, xe_bind, j2, xe_bind]
    exact z1
  · refine xt_a0 ((hZ 1 (by omega) (by omega)).trans ((i2.2.2 1 (by omega)).trans ((g3.2.2 1 (by omega)).trans h1)))

/-! The class: is the rule allowed; the whole rule. -/
theorem xr_e4 {k : Nat} (h : k < 4) : xj_e4 (some (.inr k)) = true := by simp [xj_e4, h]
theorem xr_isAl {A : xj_H} {ru : Nat} {d : xr_D} (hok : xr_ok d) (hR : xr_R A ru d) : ∃ b : Int32, fR_isAllowed (xj_o ru) A = some (.inl (some (.int b)), A) ∧ ((b = 1 ∧ xr_al d) ∨ (b = 0 ∧ ¬ xr_al d)) := by
  obtain ⟨k1, k2, k3, k4, k5, k6, k7, k8, k9⟩ := hok
  have hNu := xr_hasNu k8 hR
  obtain ⟨x, x1, x2⟩ := xr_hasNth k9 hR
  obtain ⟨M, N, E, W, H, G, g1, g2⟩ := hR
  unfold fR_isAllowed
  cases h0 : d.1 with
  | none =>
    rw [xe_gn g1 (by simp [xr_fs, h0, xr_fv]), xe_bind, if_pos rfl]
    exact ⟨0, rfl, Or.inr ⟨rfl, fun h => by have := h.1; rw [h0] at this; cases this⟩⟩
  | some k =>
    have hk := k1 k h0
    have hf : xj_gr A (xj_o ru) 4 0 = some (some (.inr k)) := xe_gs g1 (by simp [xr_fs, h0, xr_fv])
    rw [hf, xe_bind, if_neg (by simp), xe_gi g1 rfl, xe_bind, xl_0, xq_eq (by omega) (by omega) (by omega) (by omega), ← xl_0]
    have h23 : ¬ (d.2.2.1 ≠ 0 ∧ d.2.2.2.1.isSome = true) → ∃ b : Int32, fR_isAllowed_23 (xj_o ru) A = some (.inl (some (.int b)), A) ∧ ((b = 1 ∧ xr_al d) ∨ (b = 0 ∧ ¬ xr_al d)) := by
      intro hcu
      have h67 : ∀ s : Int32, (s = 1 ∧ (k = 2 ∨ k = 3)) ∨ (s = 0 ∧ k ≠ 2 ∧ k ≠ 3) → ¬ (d.1 = some 1 ∧ d.2.2.2.2.2.1 ≠ []) → ∃ b : Int32, fR_isAllowed_67 (xj_o ru) s A = some (.inl (some (.int b)), A) ∧ ((b = 1 ∧ xr_al d) ∨ (b = 0 ∧ ¬ xr_al d)) := by
        intro s hs hwn
        unfold fR_isAllowed_67 fR_isAllowed_79 fR_isAllowed_84
        rcases hs with ⟨rfl, hk2⟩ | ⟨rfl, hk2, hk3⟩
        · rw [xk_n1]
          refine ⟨1, rfl, Or.inl ⟨rfl, by rw [h0]; rfl, hcu, hwn, ?_⟩⟩
          rcases hk2 with rfl | rfl
          · exact Or.inl h0
          · exact Or.inr (Or.inl h0)
        · rw [xk_n0, xe_rq g1, x1, xe_bi]
          rcases x2 with ⟨rfl, y⟩ | ⟨rfl, y⟩
          · rw [xk_n0]
            exact ⟨1, rfl, Or.inl ⟨rfl, by rw [h0]; rfl, hcu, hwn, Or.inr (Or.inr y)⟩⟩
          · rw [xk_n1]
            refine ⟨0, rfl, Or.inr ⟨rfl, fun h => ?_⟩⟩
            rcases h.2.2.2 with h | h | h
            · rw [h0] at h; exact hk2 (Option.some.inj h)
            · rw [h0] at h; exact hk3 (Option.some.inj h)
            · exact y h
      have h42 : ¬ (d.1 = some 1 ∧ d.2.2.2.2.2.1 ≠ []) → ∃ b : Int32, fR_isAllowed_42 (xj_o ru) A = some (.inl (some (.int b)), A) ∧ ((b = 1 ∧ xr_al d) ∨ (b = 0 ∧ ¬ xr_al d)) := by
        intro hwn
        unfold fR_isAllowed_42 fR_isAllowed_62
        rw [hf, xe_bind, xr_e4 hk, xr_e4 (by decide), if_pos (by decide)]
        by_cases hk2 : k = 2
        · subst hk2
          rw [if_pos rfl]
          exact h67 1 (Or.inl ⟨rfl, Or.inl rfl⟩) hwn
        · rw [if_neg (by simpa using hk2), xe_bind, xr_e4 hk, xr_e4 (by decide), if_pos (by decide)]
          by_cases hk3 : k = 3
          · subst hk3
            rw [if_neg (by simp)]
            exact h67 1 (Or.inl ⟨rfl, Or.inr rfl⟩) hwn
          · rw [if_pos (by simpa using hk3)]
            exact h67 0 (Or.inr ⟨rfl, hk2, hk3⟩) hwn
      unfold fR_isAllowed_23
      rw [hf, xe_bind, xr_e4 hk, xr_e4 (by decide), if_pos (by decide)]
      by_cases hk1 : k = 1
      · subst hk1
        rw [if_neg (by simp), xe_rq g1, hNu, xe_bi]
        by_cases hnu : d.2.2.2.2.2.1 = []
        · rw [if_pos hnu, xk_b0]
          exact h42 fun h => h.2 hnu
        · rw [if_neg hnu, xk_b1]
          exact ⟨0, rfl, Or.inr ⟨rfl, fun h => h.2.2.1 ⟨h0, hnu⟩⟩⟩
      · rw [if_pos (by simpa using hk1)]
        exact h42 fun h => by rw [h0] at h; exact hk1 (Option.some.inj h.1)
    by_cases hc : d.2.2.1 = 0
    · rw [if_pos hc]
      exact h23 fun h => h.1 hc
    · rw [if_neg hc, xe_gi g1 rfl, xe_bind]
      by_cases hu : d.2.2.2.1.isSome = true
      · rw [if_pos hu, xk_b1]
        exact ⟨0, rfl, Or.inr ⟨rfl, fun h => h.2.1 ⟨hc, hu⟩⟩⟩
      · rw [if_neg hu, xk_b0]
        exact h23 fun h => hu h.2
theorem xr_rrL {q tx ru n : Nat} {T : Nat → Int} (hd : xr_dis q tx ru n) : ∀ (m z k i : Nat) (A : xj_H) (d : xr_D) (l : List Int), k + m = 7 → m < z → xr_ok d → xr_C A q tx ru n i T d l →
    (∃ d' B, xr_rule m d l = some d' ∧ xr_al d' ∧ fQ_readRule_29 z (xj_o q) (xI k) A = some (.inl (some (.int 1)), B) ∧ xr_J q ru A B ∧ xr_R B ru d' ∧ xr_ok d' ∧ ∃ j, xr_Q B q tx ru n j) ∨
    ((∀ d', xr_rule m d l = some d' → ¬ xr_al d') ∧ ∃ B, fQ_readRule_29 z (xj_o q) (xI k) A = some (.inl (some (.int 0)), B) ∧ xr_J q ru A B)
  | _, 0, _, _, _, _, _, _, h, _, _ => by omega
  | 0, z + 1, k, i, A, d, l, hk, hz, hok, hC => by
    rw [fQ_readRule_29, xl_7, xq_le (by omega) (by omega) (by omega) (by omega), if_pos (by omega)]
    exact Or.inr ⟨fun d' h => (by cases h), A, rfl, xk_r _ _⟩
  | m + 1, z + 1, k, i, A, d, l, hk, hz, hok, hC => by
    have hn := hd.2.2.2
    rw [fQ_readRule_29, xl_7, xq_le (by omega) (by omega) (by omega) (by omega), if_neg (by omega), xe_rq hC.1, xr_rule]
    rcases xr_rpt hd hok hC with (⟨h1, B, b1, b2⟩ | ⟨d', r, B, j, h1, b1, b2, b3⟩) | ⟨h1, d', c, r, B, j, b1, b2, b3, b4⟩
    · rw [h1, Option.bind_none, b1, xe_bi, xk_n0]
      exact Or.inr ⟨fun d' h => (by cases h), B, rfl, b2⟩
    · have hok' := xr_part_ok hok h1
      have hj := b3.2.2.2.1
      rw [h1, Option.bind_some, b1, xe_bi, xk_n1, xe_gi b3.1 rfl, xe_bind, xe_gi b3.1 rfl, xe_bind, xq_lt (by omega) (by omega) (by omega) (by omega)]
      match r, b3, hj with
      | [], b3, hj =>
        simp at hj
        rw [if_neg (by omega), xe_gr b3.1 rfl, xe_bind]
        obtain ⟨M, N, E, W, H, G, g1, g2⟩ := b3.2.2.1
        obtain ⟨x, x1, ⟨rfl, x2⟩ | ⟨rfl, x2⟩⟩ := xr_isAl hok' b3.2.2.1
        · rw [xe_rq g1, x1, xe_bi]
          exact Or.inl ⟨d', B, rfl, x2, rfl, b2, b3.2.2.1, hok', j, b3.1⟩
        · rw [xe_rq g1, x1, xe_bi]
          refine Or.inr ⟨fun d'' h => ?_, B, rfl, b2⟩
          cases h; exact x2
      | c :: r, b3, hj =>
        simp at hj
        rw [if_pos (by omega), xe_rq b3.1, xl_59]
        rcases xr_take b3.1 b3.2.1 hn b3.2.2.2 (c := 59) (by omega) (by omega) with ⟨r', C, c1, c2, c3, c4, c5⟩ | ⟨c1, c2⟩
        · cases c1
          rw [c2, xe_bi, xk_n1, xl_1, xI_add]
          have := xr_rrL hd m z (k + 1) (j + 1) C d' r (by omega) (by omega) hok' (xr_Cm hd b3 c3 c4 c5)
          simp only [if_true]
          have hu := xk_t b2 (xr_Jq (ru := ru) c4)
          rcases this with ⟨d2, D, e1, e2, e3, e4, e5, e6, e7⟩ | ⟨e1, D, e2, e3⟩
          · exact Or.inl ⟨d2, D, e1, e2, e3, xk_t hu e4, e5, e6, e7⟩
          · exact Or.inr ⟨e1, D, e2, xk_t hu e3⟩
        · rw [c2, xe_bi, xk_n0]
          simp only
          rw [if_neg (fun h => c1 r (by rw [h]))]
          exact Or.inr ⟨fun d'' h => (by cases h), B, rfl, b2⟩
    · have hj := b3.2.2.2.1
      simp at hj
      have hc : 65 ≤ c ∧ c ≤ 90 := by simpa [xr_lt] using b4
      rw [h1, Option.bind_none, b1, xe_bi, xk_n1, xe_gi b3.1 rfl, xe_bind, xe_gi b3.1 rfl, xe_bind, xq_lt (by omega) (by omega) (by omega) (by omega), if_pos (by omega), xe_rq b3.1, xl_59]
      rcases xr_take b3.1 b3.2.1 hn b3.2.2.2 (c := 59) (by omega) (by omega) with ⟨r', C, c1, c2, c3, c4, c5⟩ | ⟨c1, c2⟩
      · cases c1; omega
      · rw [c2, xe_bi, xk_n0]
        exact Or.inr ⟨fun d'' h => (by cases h), B, rfl, b2⟩
def xr_d0 : xr_D := (none, 0, 0, none, [], [], [])
def xr_d1 : xr_D := (some 0, 0, 1, none, [], [], [])
/-- the rule that a text says -/
def xr_says (l : List Int) (d : xr_D) : Prop := (l = [] ∧ d = xr_d1) ∨ (l ≠ [] ∧ xr_rule 7 xr_d0 l = some d ∧ xr_al d)
theorem xr_ok0 : xr_ok xr_d0 := by refine ⟨?_, ?_, ?_, ?_, ?_, ?_, ?_, ?_, ?_⟩ <;> simp [xr_d0]
theorem xr_ok1 : xr_ok xr_d1 := by refine ⟨?_, ?_, ?_, ?_, ?_, ?_, ?_, ?_, ?_⟩ <;> simp [xr_d1]
theorem xr_rr {A : xj_H} {q tx ru n : Nat} {T : Nat → Int} {l : List Int} (hd : xr_dis q tx ru n) (hC : xr_C A q tx ru n 0 T xr_d0 l) :
    (∃ d B, xr_says l d ∧ fQ_readRule (xj_o q) A = some (.inl (some (.int 1)), B) ∧ xr_J q ru A B ∧ xr_R B ru d ∧ xr_ok d ∧ ∃ j, xr_Q B q tx ru n j) ∨
    ((∀ d, ¬ xr_says l d) ∧ ∃ B, fQ_readRule (xj_o q) A = some (.inl (some (.int 0)), B) ∧ xr_J q ru A B) := by
  have hn := hd.2.2.2
  have hj := hC.2.2.2.1
  unfold fQ_readRule
  rw [xe_gi hC.1 rfl, xe_bind, xl_0, xq_ne (by omega) (by omega) (by omega) (by omega)]
  match l, hC, hj with
  | [], hC, hj =>
    simp at hj
    obtain ⟨M, N, E, W, H, G, g1, g2⟩ := hC.2.2.1
    obtain ⟨B, b1, b2, b3⟩ := xk_pw (.retAddr 0) g1 (k := 0) (by simp [xr_fs])
    obtain ⟨C, c1, c2, c3⟩ := xk_pw (.int (1 : Int32)) b2 (k := 2) (by simp [xr_fs])
    have hBQ : xr_Q B q tx ru n 0 := xk_c hC.1 b3 hd.2.1
    have b1' : xj_pv A (xj_o ru) 4 0 (xj_rv (some (.inr 0))) = some B := b1
    rw [if_pos (by omega), xe_gr hC.1 rfl, xe_bind, b1', xe_bind, xe_gr hBQ rfl, xe_bind, c1, xe_bind]
    exact Or.inl ⟨xr_d1, C, Or.inl ⟨rfl, rfl⟩, rfl, xk_t (xr_Jr b3) (xr_Jr c3), ⟨M, N, E, W, H, G, c2, g2⟩, xr_ok1, 0, xk_c hBQ c3 hd.2.1⟩
  | c :: r, hC, hj =>
    simp at hj
    rw [if_neg (by omega)]
    have := xr_rrL hd 7 xj_fu 0 0 A xr_d0 (c :: r) (by omega) (by unfold xj_fu; omega) xr_ok0 hC
    rw [show ((0 : Nat) : Int) = 0 from rfl] at this
    rcases this with ⟨d', B, h1, h2, h3, h4, h5, h6, h7⟩ | ⟨h1, B, h2, h3⟩
    · exact Or.inl ⟨d', B, Or.inr ⟨by simp, h1, h2⟩, h3, h4, h5, h6, h7⟩
    · refine Or.inr ⟨fun d hs => ?_, B, h2, h3⟩
      rcases hs with ⟨hs, _⟩ | ⟨_, hs, ha⟩
      · cases hs
      · exact h1 d hs ha

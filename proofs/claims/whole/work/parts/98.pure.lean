/-! The law holds on every script. -/
theorem pure_law (xs : Nat → Int32) (L : Nat) (hL : L ≤ 3584) : ∃ A', fL_law xs L xs_A0 = some (.inl (some (.int 1)), A') := by
  obtain ⟨A1, A2, a1, a2, a3, a4, a5, a6⟩ := xt_initB
  obtain ⟨A3, A4, b1, b2, b3, b4, b5, b6, b7⟩ := xt_initM a3 a5 a6
  obtain ⟨A5, c1, c2, c3, c4, c5, c6⟩ := xt_mk (A := A4) (.inl (3, 1, .inr (.inl (fun _ => 0)))) (k := 1) (by omega) (by omega)
  rw [b3] at c2 c3 c4
  have hP : xi_Pg ((0, fun _ => 0), (0, 0, xz_b 0 3 5, xz_e 0 10 5), (0, fun _ => 0, fun _ => 0, fun _ => [], fun _ => []), (0, fun _ => 0, fun _ => 0)) :=
    ⟨by simp, fun _ => by simp, xz_mk (by decide) (by decide) (by decide) (by decide) (by decide) (by decide) (by decide) (by decide) (by decide) (by decide) (by decide), by simp, fun _ _ => ⟨List.Pairwise.nil, fun t ht => by simp at ht, by simp, by simp, fun t ht => by simp at ht, by simp [xp_C]⟩, fun e he => by simp at he, fun e he => by simp at he, fun _ _ => ⟨rfl, rfl⟩, by simp⟩
  have hI : xi_I A5 := ⟨_, xt_p, hP, xi_Cc a4 (fun i _ i2 => (c4 i (by omega)).trans (b4 i (by omega))), xi_Mc b5 (fun i _ i2 => c4 i (by omega)), ⟨_, c2⟩⟩
  obtain ⟨A', h⟩ := xl_loop (xs := xs) hL xj_fu 0 A5 (by unfold xj_fu; omega) (by omega) hI (by omega) (by omega)
  rw [show ((0 : Nat) : Int) = 0 from rfl, ← xl_0] at h
  refine ⟨A', ?_⟩
  unfold fL_law
  rw [a1, xe_bind, a2, xe_bv, b1, xe_bind, b2, xe_bv, c1, xe_bind, a3, b3, show xs_A0.1.length = 0 from rfl]
  exact h

/-! A turn: the class's call, then the reference's. -/
def xt_R (A : xj_H) (F : Option xj_R) (M : xj_H → Option xj_R) : Prop := ∃ k w B C, F = some (.inl (some (.int k)), B) ∧ xj_rq B (xj_o 34) 7 (M B) = some (.inl (some (.int w)), C) ∧ xj_rq C (xj_o 34) 7 (fM_thrown (xj_o 34) C) = some (.inl (some (.int k)), C) ∧ (k = 0 → xj_lai C (xj_o 50) 0 = some (Int32.toInt64 w)) ∧ xi_I C ∧ xi_r A C
theorem xt_thr {A : xj_H} {p : Nat → Value} {G : xi_G} {k : Int32} (h : xi_Mg A p G) (hk : p 0 = .int k) : xj_rq A (xj_o 34) 7 (fM_thrown (xj_o 34) A) = some (.inl (some (.int k)), A) := by
  rw [xk_rq h.1]
  unfold fM_thrown
  rw [xk_gi h.1 hk (by decide), xe_bind]
theorem xt_ri {A B C : xj_H} (h : xi_r A B) (e : C.2 = B.2) : xi_r A C := by
  unfold xi_r at *
  rw [e]; exact h
/-- the reference's part: between 34 and 49 -/
def xt_S (i : Nat) : Prop := 34 ≤ i ∧ i ≤ 49
/-- the class answers -/
theorem xt_ok {A B0 : xj_H} {v : Int32} {p : Nat → Value} {G G' : xi_G} {F0 : Option xj_R} {X : String → xj_H → Option xj_R} {M : xj_H → Option xj_R} (hF : F0 = some (.inl (some (.int v)), B0)) (hK : ∀ F, xj_rq A (xj_o 0) 0 F = F) (hC : xi_Cg B0 G') (hg : xi_g A B0 34 50) (hr : xi_r A B0) (hM : xi_Mg A p G) (hO : xi_O A) (hP : xi_Pg G')
    (hmod : ∀ B, xi_Mg B p G → ∃ C p', M B = some (.inl (some (.int v)), C) ∧ xk_u xt_S B C ∧ xi_Mg C p' G' ∧ p' 0 = .int 0) :
    xt_R A (xj_ki (xj_rq A (xj_o 0) 0 F0) (fun x3 A4 => (xj_las A4 (xj_o 50) (0 : Int32) (Int32.toInt64 x3)).bind fun A5 => some (.inl (some (.int (0 : Int32))), A5)) X) M := by
  obtain ⟨F, hF50⟩ := hO
  obtain ⟨B, b1, b2, b3, b4⟩ := xi_las (A := B0) ⟨F, (hg 50 (by decide) (by decide)).trans hF50⟩ (Int32.toInt64 v)
  have hMB : xi_Mg B p G := xi_Mc hM (xi_gt (xi_gs hg (by decide) (by decide)) (xi_gu b2 (fun i i1 i2 => by omega)))
  obtain ⟨C, p', c1, c2, c3, c4⟩ := hmod B hMB
  have hCC : xi_Cg C G' := xi_Cc hC (xi_gt (xi_gu b2 (fun i i1 i2 => by omega)) (xi_gu c2 (fun i i1 i2 => by unfold xt_S; omega)))
  have h50 : C.1[50]? = B.1[50]? := c2.2.2 50 (by unfold xt_S; omega)
  obtain ⟨F', hF'⟩ := b3
  refine ⟨0, v, B, C, ?_, by rw [xk_rq hMB.1, c1], xt_thr c3 c4, fun _ => b4 C h50, ⟨G', p', hP, hCC, c3, ⟨F', h50.trans hF'⟩⟩, xt_ri hr (c2.1.trans b2.1)⟩
  rw [hK, hF]
  show (xj_las B0 (xj_o 50) (0 : Int32) (Int32.toInt64 v)).bind _ = _
  rw [b1, xe_bind]
/-- the class throws -/
theorem xt_no {A B0 : xj_H} {k w : Int32} {nm : String} {p : Nat → Value} {G G' : xi_G} {F0 : Option xj_R} {Y : Int32 → xj_H → Option xj_R} {X : String → xj_H → Option xj_R} {M : xj_H → Option xj_R} (hk : k ≠ 0) (hF : F0 = some (.inr nm, B0)) (hX : X nm B0 = some (.inl (some (.int k)), B0)) (hK : ∀ F, xj_rq A (xj_o 0) 0 F = F) (hC : xi_Cg B0 G') (hg : xi_g A B0 34 50) (hr : xi_r A B0) (hM : xi_Mg A p G) (hO : xi_O A) (hP : xi_Pg G')
    (hmod : ∀ B, xi_Mg B p G → ∃ C p', M B = some (.inl (some (.int w)), C) ∧ xk_u xt_S B C ∧ xi_Mg C p' G' ∧ p' 0 = .int k) :
    xt_R A (xj_ki (xj_rq A (xj_o 0) 0 F0) Y X) M := by
  obtain ⟨F, hF50⟩ := hO
  have hMB : xi_Mg B0 p G := xi_Mc hM (xi_gs hg (by decide) (by decide))
  obtain ⟨C, p', c1, c2, c3, c4⟩ := hmod B0 hMB
  have hCC : xi_Cg C G' := xi_Cc hC (xi_gu c2 (fun i i1 i2 => by unfold xt_S; omega))
  have h50 : C.1[50]? = B0.1[50]? := c2.2.2 50 (by unfold xt_S; omega)
  refine ⟨k, w, B0, C, ?_, by rw [xk_rq hMB.1, c1], xt_thr c3 c4, fun h => absurd h hk, ⟨G', p', hP, hCC, c3, ⟨F, h50.trans ((hg 50 (by decide) (by decide)).trans hF50)⟩⟩, xt_ri hr c2.1⟩
  rw [hK, hF]
  exact hX
theorem xt_rq {A : xj_H} {G : xi_G} (h : xi_Cg A G) : ∀ F, xj_rq A (xj_o 0) 0 F = F := fun F => xe_rq h.1
/-- a thrown name, with the room that it takes -/
theorem xt_th {A B : xj_H} (hB : B.1 = A.1) (hr : A.2.1 = B.2.1 + 1 ∧ A.2.2 = B.2.2 + 6) {G : xi_G} (h : xi_Cg A G) : xi_Cg B G ∧ xi_g A B 34 50 ∧ xi_r A B :=
  ⟨xi_Cc h (fun i _ _ => by rw [hB]), fun i _ _ => by rw [hB], by unfold xi_r; omega⟩
/-- the reference refuses: it only puts its flag down -/
theorem xt_mf {A : xj_H} {p : Nat → Value} {G : xi_G} (h : xi_Mg A p G) (b : Int32) : xi_Mg A p G → ∃ B, xj_pv A (xj_o 34) 7 0 (.int b) = some B ∧ xk_u (fun i => i = 34) A B ∧ xi_Mg B (xk_p p 0 (.int b)) G := by
  intro _
  obtain ⟨h1, h2, p2, p3, p4, p7, p33, h35, h36, h37, hT, ⟨⟨f4, g4⟩, ⟨f5, g5⟩, ⟨f6, g6⟩, ⟨f7, g7⟩⟩, b', e', h48, h49, h50⟩ := h
  obtain ⟨B, b1, b2, b3⟩ := xk_pv (.int b) h1 (k := 0) (by decide)
  exact ⟨B, b1, b3, b2, xm_Rp h2 (by decide), p2, p3, p4, p7, p33, xk_au h35 b3 (by decide), xk_au h36 b3 (by decide), xk_au h37 b3 (by decide), xm_Tu hT b3 (fun i i1 i2 => by omega), ⟨⟨f4, xk_au g4 b3 (by decide)⟩, ⟨f5, xk_au g5 b3 (by decide)⟩, ⟨f6, xk_au g6 b3 (by decide)⟩, ⟨f7, xk_au g7 b3 (by decide)⟩⟩, b', e', xk_au h48 b3 (by decide), xk_au h49 b3 (by decide), h50⟩
theorem xt_fails {A : xj_H} {p : Nat → Value} {G : xi_G} (h : xi_Mg A p G) {b : Int32} (hb : b = 0 ∨ b = 1) : ∃ B, fM_fails (xj_o 34) b A = some (.inl (some (.int b)), B) ∧ xk_u xt_S A B ∧ xi_Mg B (xk_p p 0 (.int b)) G := by
  obtain ⟨B, b1, b2, b3⟩ := xt_mf h b h
  refine ⟨B, ?_, xk_w b2 fun i (hi : i = 34) => by unfold xt_S; omega, b3⟩
  unfold fM_fails fM_fails_10
  rcases hb with rfl | rfl
  · rw [xk_b0, b1, xe_bind]; rfl
  · rw [xk_b1, b1, xe_bind]; rfl
/-! Typing. -/
theorem xt_ch (x : Int32) : ∃ ch : Int, 0 ≤ ch ∧ ch ≤ 65535 ∧ (Int32.toUInt32 x % 65536).toInt32 = xI ch ∧ vp_nar .char (xI ch) = xI ch := by
  have hlt : (Int32.toUInt32 x % 65536).toNat < 65536 := by
    rw [UInt32.toNat_mod]
    exact Nat.mod_lt _ (by decide)
  generalize Int32.toUInt32 x % 65536 = u at *
  have e : u.toInt32 = xI (u.toNat : Int) := by
    apply Int32.toInt_inj.mp
    rw [xI_toInt ⟨by omega, by omega⟩]
    rw [show u.toInt32 = ⟨u⟩ from rfl]
    show (BitVec.toInt u.toBitVec) = _
    rw [BitVec.toInt_eq_toNat_of_lt (by simpa using by omega)]
    rfl
  refine ⟨(u.toNat : Int), by omega, by omega, e, ?_⟩
  rw [← e, vp_nar_char]
  have e2 : u.toInt32.toUInt32 = u := rfl
  have e3 : u.toUInt16.toUInt32 = u := by
    apply UInt32.toNat_inj.mp
    simp
    omega
  rw [e2, e3]
theorem xt_type {A : xj_H} (hI : xi_I A) {ch : Int} (c0 : 0 ≤ ch) (c1 : ch ≤ 65535) (hn : vp_nar .char (xI ch) = xI ch) : ∃ b B C, xj_rq A (xj_o 0) 0 (fB_type (xj_o 0) (xI ch) A) = some (.inl (some (.int b)), B) ∧ xj_rq B (xj_o 34) 7 (fM_type (xj_o 34) (xI ch) B) = some (.inl (some (.int b)), C) ∧ xi_I C ∧ xi_r A C := by
  obtain ⟨⟨⟨n, T⟩, ⟨s, m, f, g⟩, ⟨ne, mi, le, D, X⟩, ⟨c, b, e⟩⟩, p, hP, hC, hM, hO⟩ := hI
  obtain ⟨P1, P2, P3⟩ := id hP
  simp only at P1 P2 P3
  obtain ⟨k1, k2, k3, k4, k5⟩ := id hC
  simp only at k1 k2 k3 k4 k5
  rw [xe_rq k1]
  unfold fB_type
  rw [xe_gi k1 rfl, xe_bind, xl_60, xq_lt (by omega) (by omega) (by omega) (by omega)]
  obtain ⟨M1, m1, m2, m3⟩ := xt_mf hM 0 hM
  by_cases hc : (n : Int) < 60
  · obtain ⟨B, b1, b2, b3⟩ := xk_as ch k2 (i := n) (by omega) (by omega) (by omega)
    have k1B := xk_c k1 b3 (by decide)
    obtain ⟨C, w1, w2, w3⟩ := xk_pw (.int (xI ((n : Int) + 1))) k1B (k := 1) (by simp)
    have u1 : xk_u (fun i => i ≤ 1) A C := xk_t (xk_w b3 fun i (hi : i = 1) => by omega) (xk_w w3 fun i (hi : i = 0) => by omega)
    rw [if_pos hc, xe_gr k1 rfl, xe_bind, xe_bind, hn, b1, xe_bind, xe_gi k1B rfl, xe_bind, xl_1, xI_add, w1, xe_bind]
    have hCC : xi_Cg C ((n + 1, xk_p T n ch), (s, m, f, g), (ne, mi, le, D, X), (c, b, e)) := by
      have hrest := xi_gu (lo := 2) (hi := 33) u1 (fun i i1 i2 => by omega)
      obtain ⟨z1, z2, z3⟩ := k3
      obtain ⟨⟨ev, v1, v2⟩, h5⟩ := k4
      obtain ⟨⟨hh, q1⟩, fr, to, s1, s2, s3⟩ := k5
      rw [Int.toNat_natCast] at b2
      exact ⟨w2, xk_au b2 w3 (by decide), ⟨(hrest 2 (by decide) (by decide)).trans z1, xi_ac z2 (hrest 3 (by decide) (by decide)), xi_ac z3 (hrest 4 (by decide) (by decide))⟩, ⟨⟨ev, (hrest 5 (by decide) (by decide)).trans v1, v2⟩, fun e he => ⟨xi_frc (h5 e he).1 fun i i1 i2 => hrest i (by omega) (by omega), fun hn => xi_evc ((h5 e he).2 hn) fun i i1 i2 => hrest i (by omega) (by omega)⟩⟩, ⟨hh, xi_ac q1 (hrest 30 (by decide) (by decide))⟩, fr, to, (hrest 31 (by decide) (by decide)).trans s1, xi_ac s2 (hrest 32 (by decide) (by decide)), xi_ac s3 (hrest 33 (by decide) (by decide))⟩
    have hMC : xi_Mg C p ((n, T), (s, m, f, g), (ne, mi, le, D, X), (c, b, e)) := xi_Mc hM (xi_gu u1 (fun i i1 i2 => by omega))
    obtain ⟨E, e1, e2, e3⟩ := xt_mf hMC 0 hMC
    obtain ⟨h1, h2, p2, p3, p4, p7, p33, h35, h36, h37, hT, ⟨⟨f4, g4⟩, ⟨f5, g5⟩, ⟨f6, g6⟩, ⟨f7, g7⟩⟩, b', e', h48, h49, h50⟩ := id e3
    obtain ⟨F, y1, y2, y3⟩ := xk_as ch h35 (i := n) (by omega) (by omega) (by omega)
    have h1F := xk_ou h1 y3 (by decide)
    obtain ⟨H, x1, x2, x3⟩ := xk_pv (.int (xI ((n : Int) + 1))) h1F (k := 2) (by decide)
    have u2 : xk_u (fun i => i = 34 ∨ i = 35) C H := xk_t (xk_w e2 fun i (hi : i = 34) => Or.inl hi) (xk_t (xk_w y3 fun i (hi : i = 35) => Or.inr hi) (xk_w x3 fun i (hi : i = 34) => Or.inl hi))
    have u3 := xk_t y3 (xk_r (fun i => i = 35) F)
    refine ⟨1, C, H, rfl, ?_, ⟨((n + 1, xk_p T n ch), (s, m, f, g), (ne, mi, le, D, X), (c, b, e)), _, ?_, xi_Cc hCC (xi_gu u2 (fun i i1 i2 => by omega)), ⟨x2, xm_Rp h2 (by decide), rfl, p3, p4, p7, p33, ?_, xk_au (xk_au h36 y3 (by decide)) x3 (by decide), xk_au (xk_au h37 y3 (by decide)) x3 (by decide), xm_Tu (xm_Tu hT y3 (fun i i1 i2 => by omega)) x3 (fun i i1 i2 => by omega), ⟨⟨f4, xk_au (xk_au g4 y3 (by decide)) x3 (by decide)⟩, ⟨f5, xk_au (xk_au g5 y3 (by decide)) x3 (by decide)⟩, ⟨f6, xk_au (xk_au g6 y3 (by decide)) x3 (by decide)⟩, ⟨f7, xk_au (xk_au g7 y3 (by decide)) x3 (by decide)⟩⟩, b', e', xk_au (xk_au h48 y3 (by decide)) x3 (by decide), xk_au (xk_au h49 y3 (by decide)) x3 (by decide), h50⟩, ?_⟩, ?_⟩
    · rw [xk_rq hMC.1]
      unfold fM_type
      have p2' : (xk_p p 0 (.int 0)) 2 = .int (xI n) := p2
      rw [e1, xe_bind, xk_gi h1 p2' (by decide), xe_bind, xl_60, xq_ne (by omega) (by omega) (by omega) (by omega), if_neg (by omega), xm_gr 35 h1 h2 (by decide) (by decide), xe_bind, xe_bind, y1, xe_bind, xk_gi h1F p2' (by decide), xe_bind, xl_1, xI_add, x1, xe_bind]
      rfl
    · refine ⟨by simp only; omega, fun i => ?_, P3⟩
      by_cases ei : i = n
      · subst ei; simp only; rw [xk_p_e]; omega
      · simp only; rw [xk_p_n _ _ ei]; exact P2 i
    · have := xk_au y2 x3 (by decide)
      rw [Int.toNat_natCast] at this
      exact this
    · obtain ⟨F0, hF0⟩ := hO
      exact ⟨F0, (u2.2.2 50 (by decide)).trans ((u1.2.2 50 (by omega)).trans hF0)⟩
    · have : H.2 = A.2 := u2.1.trans u1.1
      unfold xi_r
      rw [this]; omega
  · rw [if_neg hc]
    refine ⟨0, A, M1, rfl, ?_, ⟨_, _, hP, xi_Cc hC (xi_gu m2 (fun i i1 i2 => by omega)), m3, ?_⟩, ?_⟩
    · rw [xk_rq hM.1]
      unfold fM_type
      rw [m1, xe_bind, xk_gi m3.1 m3.2.2.1 (by decide), xe_bind, xl_60, xq_ne (by simp only; omega) (by simp only; omega) (by omega) (by omega), if_pos (by simp only; omega)]
      rfl
    · obtain ⟨F0, hF0⟩ := hO
      exact ⟨F0, (m2.2.2 50 (by decide)).trans hF0⟩
    · have : M1.2 = A.2 := m2.1
      unfold xi_r
      rw [this]; omega

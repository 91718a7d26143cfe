/-! The reference fills in the days. -/
theorem xf_split {A : xj_H} {p : Nat → Value} {t : Int} (h0 : 0 ≤ t) (h1 : t ≤ 40000) (h : xk_o A 34 7 36 p) : ∃ m B p', xd_mo t m ∧ fM_split (xj_o 34) (xI t) A = some (.inl none, B) ∧ xk_u (fun k => k = 34) A B ∧ xk_o B 34 7 36 p' ∧ (∀ k, k < 26 ∨ 28 < k → p' k = p k) ∧ xf_q p' t m := by
  obtain ⟨fs, f1, f2, f3⟩ := h
  obtain ⟨m, m1, m2⟩ := xv_split h0 h1 f1 f2
  refine ⟨m, _, xk_p (xk_p (xk_p p 26 (.int (xI (m / 12)))) 27 (.int (xI (m % 12 + 1)))) 28 (.int (xI (t - xd_ms m + 1))), m1, m2, xk_set f1, ⟨_, xe_set_eq f1, by simp [f2], fun k hk => ?_⟩, fun k hk => ?_, rfl, rfl, rfl⟩
  · by_cases e3 : k = 28
    · subst e3; rw [xk_p_e, List.getElem?_set_self (by simp [f2])]
    · rw [xk_p_n _ _ e3, List.getElem?_set_ne (fun e => e3 e.symm)]
      by_cases e2 : k = 27
      · subst e2; rw [xk_p_e, List.getElem?_set_self (by simp [f2])]
      · rw [xk_p_n _ _ e2, List.getElem?_set_ne (fun e => e2 e.symm)]
        by_cases e1 : k = 26
        · subst e1; rw [xk_p_e, List.getElem?_set_self (by omega)]
        · rw [xk_p_n _ _ e1, List.getElem?_set_ne (fun e => e1 e.symm)]
          exact f3 k hk
  · rw [xk_p_n _ _ (by omega), xk_p_n _ _ (by omega), xk_p_n _ _ (by omega)]
def xf_S3 (k : Nat) : Prop := k = 34 ∨ k = 40 ∨ k = 41
/-- the table of days while event e's are filled in -/
def xf_T (A : xj_H) (e : Nat) (f0 : Nat → Int) (D : List Int) : Prop := ∃ f, xk_a A 0 40 1600 f ∧ xu_h (fun i => f (200 * e + i)) D ∧ ∀ i, i < 200 * e ∨ 200 * e + 200 ≤ i → f i = f0 i
/-- the fill's end -/
def xf_fe (A : xj_H) (p : Nat → Value) (d : xr_D) (e : Nat) (f0 g0 : Nat → Int) (P : Int → Prop) (s : Int) (c : Nat) (F : Option xj_R) : Prop :=
  ∃ B p' D, F = some (.inl none, B) ∧ xk_u xf_S3 A B ∧ xk_o B 34 7 36 p' ∧ (∀ k, k < 26 ∨ 28 < k → p' k = p k) ∧ xr_Ma B d ∧ xf_T B e f0 D ∧ xk_a B 0 41 8 (xk_p g0 e (D.length : Nat)) ∧ xf_is P s 50000 c D
theorem xf_feu {A B : xj_H} {p p' : Nat → Value} {d : xr_D} {e : Nat} {f0 g0 : Nat → Int} {P : Int → Prop} {s : Int} {c : Nat} {F : Option xj_R} (u : xk_u xf_S3 A B) (hp : ∀ k, k < 26 ∨ 28 < k → p' k = p k) (h : xf_fe B p' d e f0 g0 P s c F) : xf_fe A p d e f0 g0 P s c F := by
  obtain ⟨C, p2, D, h1, h2, h3, h4, h5⟩ := h
  exact ⟨C, p2, D, h1, xk_t u h2, h3, fun k hk => (h4 k hk).trans (hp k hk), h5⟩
theorem xf_128 {A : xj_H} {p : Nat → Value} {d : xr_D} {e : Nat} (he : e < 8) {f0 g0 : Nat → Int} {P : Int → Prop} {s : Int} {c : Nat} {D : List Int} (h : xk_o A 34 7 36 p) (hR : xm_R p) (ha : xr_Ma A d) (hT : xf_T A e f0 D) (hg : xk_a A 0 41 8 g0) (hi : xf_is P s 50000 c D) : xf_fe A p d e f0 g0 P s c (fM_fill_128 (xj_o 34) (xI e) (xI (D.length : Nat)) A) := by
  obtain ⟨B, b1, b2, b3⟩ := xk_as (D.length : Nat) hg (i := e) (by omega) (by omega) (by omega)
  obtain ⟨f, f1, f2, f3⟩ := hT
  unfold fM_fill_128
  rw [xm_gr 41 h hR (by decide) (by decide), xe_bind, b1, xe_bind]
  refine ⟨B, p, D, rfl, xk_w b3 fun k (hk : k = 41) => Or.inr (Or.inr hk), xk_ou h b3 (by decide), fun _ _ => rfl, xr_Mau ha b3 (fun k _ _ => by omega), ⟨f, xk_au f1 b3 (by decide), f2, f3⟩, ?_, hi⟩
  rw [Int.toNat_natCast] at b2
  exact b2
theorem xf_Qc {p p' : Nat → Value} {d : xr_D} {s m0 : Int} (h : xf_Q p d s m0) (hp : ∀ k, k < 26 ∨ 28 < k → p' k = p k) : xf_Q p' d s m0 := by
  obtain ⟨hR, f15, f16, f17, f18, f19, f22, f25, f29, f30, f31, f32⟩ := h
  refine ⟨fun q hq => ?_, by rw [hp _ (by decide)]; exact f15, by rw [hp _ (by decide)]; exact f16, by rw [hp _ (by decide)]; exact f17, by rw [hp _ (by decide)]; exact f18, by rw [hp _ (by decide)]; exact f19, by rw [hp _ (by decide)]; exact f22, by rw [hp _ (by decide)]; exact f25, by rw [hp _ (by decide)]; exact f29, by rw [hp _ (by decide)]; exact f30, by rw [hp _ (by decide)]; exact f31, by rw [hp _ (by decide)]; exact f32⟩
  have : ∀ q ∈ xm_rf, q.1 < 26 ∨ 28 < q.1 := by decide
  rw [hp _ (this q hq)]
  exact hR q hq
theorem xf_fL {d : xr_D} {s m0 : Int} {e : Nat} (he : e < 8) (hok : xr_ok d) (s0 : 0 ≤ s) (s1 : s ≤ 36524) (hm0 : xd_mo s m0) {k : Nat} (hk : d.1 = some k) {f0 g0 : Nat → Int} :
    ∀ (z : Nat) (y : Int) (A : xj_H) (p : Nat → Value) (D : List Int), (37000 - y).toNat < z → s ≤ y → y ≤ 36950 → xk_o A 34 7 36 p → xf_Q p d s m0 → xr_Ma A d → xf_T A e f0 D → xk_a A 0 41 8 g0 → xf_is (xf_P d s m0) s (y - 1) (xf_c0 d).toNat D →
      xf_fe A p d e f0 g0 (xf_P d s m0) s (xf_c0 d).toNat (fM_fill_24 z (xj_o 34) (xI e) (xI (D.length : Nat)) (xI (xf_c0 d)) (xI y) A)
  | 0, y, A, p, D, h, _, _, _, _, _, _, _, _ => by omega
  | z + 1, y, A, p, D, hz, hy0, hy1, h1, hQ, ha, hT, hg, hi => by
    have hu := xf_u0b hok
    have hc := xf_c0b hok
    have hl := hi.2.1
    have hk4 := hok.1 k hk
    have hfq : xr_fq d.1 = (k : Int) + 1 := by rw [hk]; rfl
    obtain ⟨hR, f15, f16, f17, f18, _⟩ := id hQ
    rw [fM_fill_24, xk_gi h1 f18 (by decide), xe_bind, xq_lt (by omega) (by omega) (by omega) (by omega)]
    by_cases c1 : xf_u0 d < y
    · rw [if_pos c1]
      exact xf_128 he h1 hR ha hT hg (xf_skip hi (by omega) fun t _ t2 _ hp => by have := hp.1; omega)
    rw [if_neg c1, xq_le (by omega) (by omega) (by omega) (by omega)]
    by_cases c2 : xf_c0 d ≤ (D.length : Nat)
    · rw [if_pos c2]
      exact xf_128 he h1 hR ha hT hg (xf_full hi (by omega) (by omega))
    obtain ⟨m, B, p', o1, b1, b2, b3, b4, b5⟩ := xf_split (t := y) (by omega) (by omega) h1
    have hQ' := xf_Qc hQ b4
    have ha' := xr_Mau ha b2 (fun k _ _ => by omega)
    have hZ : xf_Z B p' d s m0 y m := ⟨b3, hQ', b5, ha', hok, o1, hm0, s0, hy0, by omega⟩
    obtain ⟨hR', f15', _⟩ := id hQ'
    rw [hfq] at f15'
    have uB : xk_u xf_S3 A B := xk_w b2 fun k (hk : k = 34) => Or.inl hk
    have hTB : xf_T B e f0 D := by
      obtain ⟨f, g1, g2, g3⟩ := hT
      exact ⟨f, xk_au g1 b2 (by decide), g2, g3⟩
    have hgB := xk_au hg b2 (by decide)
    have hP := xf_Pm (d := d) (s := s) (m0 := m0) o1
    obtain ⟨bp, q1, q2⟩ := xf_per hZ hk
    rw [if_neg c2, xk_rq h1, b1, xe_bv, xk_gi b3 f15' (by decide), xe_bind, xl_0, xq_eq (by omega) (by omega) (by omega) (by omega), if_neg (by omega), xk_rq b3, q1, xe_bi]
    have next : ∀ (C : xj_H) (D' : List Int), xk_u xf_S3 A C → xk_o C 34 7 36 p' → xr_Ma C d → xf_T C e f0 D' → xk_a C 0 41 8 g0 → xf_is (xf_P d s m0) s y (xf_c0 d).toNat D' → xf_fe A p d e f0 g0 (xf_P d s m0) s (xf_c0 d).toNat (fM_fill_105 (fM_fill_24 z) (xj_o 34) (xI e) (xI (D'.length : Nat)) (xI (xf_c0 d)) (xI y) 1 C) := by
      intro C D' u k1 k2 k3 k4 k5
      unfold fM_fill_105 fM_fill_123
      rw [xk_b1, xl_1, xI_add]
      exact xf_feu u b4 (xf_fL he hok s0 s1 hm0 hk z (y + 1) C p' D' (by omega) (by omega) (by omega) k1 hQ' k2 k3 k4 (by rw [show y + 1 - 1 = y by omega]; exact k5))
    unfold fM_fill_60 fM_fill_65
    rcases q2 with ⟨rfl, q3⟩ | ⟨rfl, q3⟩
    · obtain ⟨bm, r1, r2⟩ := xf_means hZ hk
      rw [← xl_0, xk_b1, xk_b1, xk_gi b3 f15' (by decide), xe_bind, xl_0, xq_eq (by omega) (by omega) (by omega) (by omega), if_neg (by omega), xk_rq b3, r1, xe_bi, ← xl_0]
      rcases r2 with ⟨rfl, r3⟩ | ⟨rfl, r3⟩
      · obtain ⟨f, g1, g2, g3⟩ := hTB
        obtain ⟨C, w1, w2, w3⟩ := xk_as y g1 (i := 200 * (e : Int) + (D.length : Nat)) (by omega) (by omega) (by omega)
        rw [xk_b1]
        unfold fM_fill_88
        rw [xm_gr 40 b3 hR' (by decide) (by decide), xe_bind, xl_200, xI_mul, xI_add, w1, xe_bind, xl_1, xI_add, ← xl_1]
        have := next C (D ++ [y]) (xk_t uB (xk_w w3 fun k (hk : k = 40) => Or.inr (Or.inl hk))) (xk_ou b3 w3 (by decide)) (xr_Mau ha' w3 (fun k _ _ => by omega)) ⟨_, w2, ?_, fun i hi => ?_⟩ (xk_au hgB w3 (by decide)) (xf_add hi (by omega) hy0 (hP.mpr ⟨by omega, q3, r3⟩) (fun t t1 t2 t3 => by omega) (by omega))
        · rw [List.length_append] at this
          exact this
        · have hap := xr_hap g2 y
          intro i x hx
          have := hap i x hx
          by_cases e1 : i = D.length
          · subst e1
            rw [xk_p_e] at this
            show xk_p f _ y (200 * e + D.length) = x
            rw [show (200 * (e : Int) + (D.length : Nat)).toNat = 200 * e + D.length by omega, xk_p_e]
            exact this
          · rw [xk_p_n _ _ e1] at this
            show xk_p f _ y (200 * e + i) = x
            rw [xk_p_n _ _ (by omega)]
            exact this
        · rw [xk_p_n _ _ (by omega)]
          exact g3 i hi
      · rw [xk_b0]
        exact next B D uB b3 ha' hTB hgB (xf_skip hi (by omega) fun t t1 t2 t3 hp => by rw [show t = y by omega] at hp; exact r3 (hP.mp hp).2.2)
    · obtain ⟨x, x1, x2, x3, x4⟩ := xf_beh hZ hk q3
      rw [← xl_0, xk_b0, xk_b0]
      unfold fM_fill_105 fM_fill_123
      rw [xk_b0, xk_rq b3, x1, xe_bi]
      refine xf_feu uB b4 (xf_fL he hok s0 s1 hm0 hk z x B p' D (by omega) (by omega) (by omega) b3 hQ' ha' hTB hgB (xf_skip hi (by omega) fun t t1 t2 t3 hp => ?_))
      obtain ⟨_, n, hn, hI, _⟩ := hp
      exact x4 t n (by omega) (by omega) hn hI
/-- the reference fills in the days of a rule -/
theorem xf_fill {d : xr_D} {s m0 : Int} {e : Nat} (he : e < 8) (hok : xr_ok d) (s0 : 0 ≤ s) (s1 : s ≤ 36524) (hm0 : xd_mo s m0) {k : Nat} (hk : d.1 = some k) {f0 g0 : Nat → Int} {A : xj_H} {p : Nat → Value} (h1 : xk_o A 34 7 36 p) (hQ : xf_Q p d s m0) (ha : xr_Ma A d) (hf : xk_a A 0 40 1600 f0) (hg : xk_a A 0 41 8 g0) :
    xf_fe A p d e f0 g0 (xf_P d s m0) s (xf_c0 d).toNat (fM_fill (xj_o 34) (xI e) A) := by
  have hk4 := hok.1 k hk
  have hfq : xr_fq d.1 = (k : Int) + 1 := by rw [hk]; rfl
  obtain ⟨hR, f15, f16, f17, f18, f19, f22, f25, f29, _⟩ := id hQ
  rw [hfq] at f15
  unfold fM_fill fM_fill_17
  rw [xk_gi h1 f15 (by decide), xe_bind, xl_0, xq_ne (by omega) (by omega) (by omega) (by omega), if_neg (by omega), xk_gi h1 f17 (by decide), xe_bind, xk_gi h1 f29 (by decide), xe_bind]
  exact xf_fL he hok s0 s1 hm0 hk xj_fu s A p [] (by unfold xj_fu; omega) (by omega) (by omega) h1 hQ ha ⟨f0, hf, fun i x h => by simp at h, fun _ _ => rfl⟩ hg (xf_0 (by omega))
/-- the empty text: the first day alone -/
theorem xf_fill0 {s m0 : Int} {e : Nat} (he : e < 8) (s0 : 0 ≤ s) (s1 : s ≤ 36524) (hm0 : xd_mo s m0) {f0 g0 : Nat → Int} {A : xj_H} {p : Nat → Value} (h1 : xk_o A 34 7 36 p) (hQ : xf_Q p xr_d0 s m0) (ha : xr_Ma A xr_d0) (hf : xk_a A 0 40 1600 f0) (hg : xk_a A 0 41 8 g0) :
    xf_fe A p xr_d0 e f0 g0 (fun t => t = s) s 1 (fM_fill (xj_o 34) (xI e) A) := by
  obtain ⟨hR, f15, f16, f17, f18, f19, f22, f25, f29, _⟩ := id hQ
  have f15' : p 15 = .int (xI 0) := f15
  have f18' : p 18 = .int (xI 36524) := f18
  obtain ⟨z, hz, hz1⟩ := xj_fus
  obtain ⟨z, rfl⟩ : ∃ y, z = y + 1 := ⟨z - 1, by omega⟩
  obtain ⟨m, B, p', o1, b1, b2, b3, b4, b5⟩ := xf_split (t := s) (by omega) (by omega) h1
  have hQ' := xf_Qc hQ b4
  have f15'' : p' 15 = .int (xI 0) := hQ'.2.1
  have f18'' : p' 18 = .int (xI 36524) := hQ'.2.2.2.2.1
  obtain ⟨C, w1, w2, w3⟩ := xk_as s (xk_au hf b2 (by decide)) (i := 200 * (e : Int) + 0) (by omega) (by omega) (by omega)
  have h3C := xk_ou b3 w3 (by decide)
  have uC : xk_u xf_S3 A C := xk_t (xk_w b2 fun k (hk : k = 34) => Or.inl hk) (xk_w w3 fun k (hk : k = 40) => Or.inr (Or.inl hk))
  unfold fM_fill fM_fill_17
  rw [xk_gi h1 f15' (by decide), xe_bind, xl_0, xq_ne (by omega) (by omega) (by omega) (by omega), if_pos (by omega), xk_gi h1 f29 (by decide), xe_bind, hz, fM_fill_24, xk_gi h1 f18' (by decide), xe_bind, xq_lt (by omega) (by omega) (by omega) (by omega), if_neg (by omega), xl_1, xq_le (by omega) (by omega) (by omega) (by omega), if_neg (by omega), xk_rq h1, b1, xe_bv, xk_gi b3 f15'' (by decide), xe_bind, xl_0, xq_eq (by omega) (by omega) (by omega) (by omega), if_pos rfl]
  unfold fM_fill_60 fM_fill_65
  rw [← xl_0, xk_b1, xk_gi b3 f15'' (by decide), xe_bind, xl_0, xq_eq (by omega) (by omega) (by omega) (by omega), if_pos rfl]
  unfold fM_fill_88
  rw [xm_gr 40 b3 hQ'.1 (by decide) (by decide), xe_bind, xl_200, xI_mul, xI_add, w1, xe_bind, xl_1, xI_add]
  unfold fM_fill_105 fM_fill_123
  rw [← xl_1, xk_b1, xl_1, xI_add, fM_fill_24, xk_gi h3C f18'' (by decide), xe_bind, xq_lt (by omega) (by omega) (by omega) (by omega), xq_le (by omega) (by omega) (by omega) (by omega)]
  have hend : xf_fe C p' xr_d0 e f0 g0 (fun t => t = s) s 1 (fM_fill_128 (xj_o 34) (xI e) (xI (([s] : List Int).length : Nat)) C) := by
    refine xf_128 he h3C hQ'.1 (xr_Mau (xr_Mau ha b2 (fun k _ _ => by omega)) w3 (fun k _ _ => by omega)) ⟨_, w2, ?_, fun i hi => ?_⟩ (xk_au (xk_au hg b2 (by decide)) w3 (by decide)) ⟨by simp, by simp, fun t ht => ?_, fun t _ _ ht => Or.inl (by simp [ht])⟩
    · intro i x hx
      match i, hx with
      | 0, hx =>
        simp at hx
        show xk_p f0 _ s (200 * e + 0) = x
        rw [show (200 * (e : Int) + 0).toNat = 200 * e + 0 by omega, xk_p_e, hx]
      | i + 1, hx => simp at hx
    · rw [xk_p_n _ _ (by omega)]
    · simp at ht; exact ⟨by omega, by omega, ht⟩
  have hend' : xf_fe A p xr_d0 e f0 g0 (fun t => t = s) s 1 (fM_fill_128 (xj_o 34) (xI e) (xI (0 + 1)) C) := xf_feu uC b4 hend
  by_cases hc : 36524 < s + 1
  · rw [if_pos hc]; exact hend'
  · rw [if_neg hc, if_pos (by omega)]; exact hend'
theorem xf_one {s m0 : Int} {D : List Int} (s0 : 0 ≤ s) (s1 : s ≤ 36524) (hm0 : xd_mo s m0) (h : xf_is (xf_P xr_d1 s m0) s 50000 1 D) : D = [s] := by
  have hP : xf_P xr_d1 s m0 s := by
    refine ⟨s1, m0, hm0, Or.inl ⟨rfl, ?_⟩, Or.inl rfl, Or.inl ⟨rfl, Or.inl rfl, Or.inl rfl⟩⟩
    rw [Int.sub_self]; simp
  refine xf_u h ⟨by simp, by simp, fun t ht => ?_, fun t t1 t2 _ => ?_⟩
  · rw [List.mem_singleton] at ht
    subst ht
    exact ⟨by omega, by omega, hP⟩
  · by_cases e : t = s
    · exact Or.inl (by simp [e])
    · exact Or.inr ⟨rfl, fun y hy => by rw [List.mem_singleton] at hy; omega⟩

def xb_U (P : Int → Int → Prop) (fr to t : Int) : Prop := ∃ x l, P x l ∧ xb_mx x fr ≤ t ∧ t < xb_mn (x + l) to
def xb_P (ne : Nat) (h le : Nat → Int) (st : Nat → Nat → Int) (x l : Int) : Prop := ∃ e i : Nat, e < ne ∧ (i : Int) < h e ∧ x = st e i ∧ l = le e
theorem xb_mx_m {a b c : Int} (h : a ≤ b) : xb_mx a c ≤ xb_mx b c := by unfold xb_mx; split <;> split <;> omega
theorem xb_buL {tn fr to : Int} {ne : Nat} (hne : ne ≤ 8) {n le : Nat → Int} {st : Nat → Nat → Int} (f1 : -2147483648 ≤ fr) (f2 : fr ≤ 2147483647) (t1 : -2147483648 ≤ to) (t2 : to ≤ 2147483647) (hn : ∀ e, e < ne → n e ≤ 200) (hl : ∀ e, e < ne → 1 ≤ le e ∧ le e ≤ 2880) (hr : ∀ e i : Nat, e < ne → (i : Int) < n e → -2000000000 ≤ st e i ∧ st e i ≤ 2000000000) (hs : ∀ e, e < ne → ∀ i j : Nat, i < j → (j : Int) < n e → st e i ≤ st e j) :
    ∀ (q j : Nat) (A : xj_H) (c : Nat) (h b e : Nat → Int), j ≤ 1600 → 1600 - j < q → xb_K A tn ne → xb_V A → xb_E A ne n le st → xk_a A 0 30 8 h → xb_S A c fr to b e → xb_N b e c → c ≤ j → (∀ i, i < c → fr ≤ b i ∧ e i ≤ to) → (∀ e, e < ne → 0 ≤ h e ∧ h e ≤ n e) → xb_s h ne = j → (∀ t, xb_I b e c t ↔ xb_U (xb_P ne h le st) fr to t) → (∀ k, k < c → ∀ e, e < ne → h e < n e → b k ≤ xb_mx (st e (h e).toNat) fr) →
      ∃ (B : xj_H) (c' : Nat) (b' e' : Nat → Int), fB_busy_61 q (xj_o 0) (xI j) A = some (.inl (some (.int (xI c'))), B) ∧ xk_u (fun i => 30 ≤ i ∧ i ≤ 33) A B ∧ xb_S B c' fr to b' e' ∧ xb_N b' e' c' ∧ c' ≤ 1600 ∧ (∃ h', xk_a B 0 30 8 h') ∧ (∀ i, i < c' → fr ≤ b' i ∧ e' i ≤ to) ∧ ∀ t, xb_I b' e' c' t ↔ xb_U (xb_P ne n le st) fr to t
  | 0, j, _, _, _, _, _, _, h, _, _, _, _, _, _, _, _, _, _, _, _ => by omega
  | q + 1, j, A, c, h, b, e, j1, hq, hK, hV, hE, hH, hS, hN, hcj, hbd, hh, hsum, hU, hord => by
    have stop : (∀ e, e < ne → n e ≤ h e) → ∃ (B : xj_H) (c' : Nat) (b' e' : Nat → Int), fB_busy_141 (xj_o 0) A = some (.inl (some (.int (xI c'))), B) ∧ xk_u (fun i => 30 ≤ i ∧ i ≤ 33) A B ∧ xb_S B c' fr to b' e' ∧ xb_N b' e' c' ∧ c' ≤ 1600 ∧ (∃ h', xk_a B 0 30 8 h') ∧ (∀ i, i < c' → fr ≤ b' i ∧ e' i ≤ to) ∧ ∀ t, xb_I b' e' c' t ↔ xb_U (xb_P ne n le st) fr to t := by
      intro hall
      refine ⟨A, c, b, e, ?_, xk_r _ _, hS, hN, by omega, ⟨h, hH⟩, hbd, fun t => ?_⟩
      · unfold fB_busy_141
        rw [xe_gr hK rfl, xe_bind, xe_gi hS.1 rfl, xe_bind]
      · rw [hU t]
        constructor
        · rintro ⟨x, l, ⟨e, i, p1, p2, p3, p4⟩, g1⟩
          have := hh e p1
          exact ⟨x, l, ⟨e, i, p1, by omega, p3, p4⟩, g1⟩
        · rintro ⟨x, l, ⟨e, i, p1, p2, p3, p4⟩, g1⟩
          have := hall e p1
          exact ⟨x, l, ⟨e, i, p1, by omega, p3, p4⟩, g1⟩
    rw [fB_busy_61, xl_1600, xq_le (by omega) (by omega) (by omega) (by omega)]
    by_cases hc : (1600 : Int) ≤ j
    · rw [if_pos hc]
      refine stop fun e he => ?_
      have hle : ∀ e, e < ne → h e ≤ 200 := fun e he => by have := hh e he; have := hn e he; omega
      have := xb_s_f (h := h) (n := ne) hle (by omega) e he
      have := hn e he
      omega
    obtain ⟨r, bs, hG, r2⟩ := xb_eh hne hK hV hE hH (fun e he => ⟨(hh e he).1, (hh e he).2, hn e he⟩) hr
    rw [if_neg hc, xe_rq hK, r2, xe_bi, xl_0]
    rcases hG with ⟨g1, g2⟩ | ⟨g1, g2, g3, g4, g5⟩
    · rw [g1, xq_le (by omega) (by omega) (by omega) (by omega), if_neg (by omega)]
      exact stop g2
    have hrn : r.toNat < ne := by omega
    have hhr := hh r.toNat hrn
    have hnr := hn r.toNat hrn
    have hlr := hl r.toNat hrn
    have hxr := hr r.toNat (h r.toNat).toNat hrn (by omega)
    obtain ⟨x, mi, d, e1, e2, e3⟩ := hE r.toNat hrn
    rw [xq_le (by omega) (by omega) (by omega) (by omega), if_pos g1, xe_gr hK rfl, xe_bind, xb_ral hV g1 (by omega), xe_bind, xe_gr e1 rfl, xe_bind, xe_gr hK rfl, xe_bind, xk_ai hH g1 (by omega) (by omega), xe_bind, xk_ai e3 (by omega) (by omega) (by omega), xe_bind, xe_gr hK rfl, xe_bind, xe_bind, xb_ral hV g1 (by omega), xe_bind, xe_gi e1 rfl, xe_bind, xI_add, xe_rq hS.1]
    rw [← g4]
    rw [← g4] at hxr
    obtain ⟨B, c', b', e', a1, a2, a3, a4, a5, a6, a7, a8⟩ := xb_add hS hN f1 f2 t1 t2 hbd (by omega) (x := bs) (y := bs + le r.toNat) (by omega) (by omega) (by omega) (by omega) (fun i hi => by have := hord i hi r.toNat hrn g3; rwa [← g4] at this)
    have hK1 : xb_K B tn ne := xk_c hK a2 (by decide)
    have hH1 := xk_au hH a2 (by decide)
    obtain ⟨C, v1, v2, v3⟩ := xk_as (h r.toNat + 1) hH1 (i := r) g1 (by omega) (by omega)
    rw [a1, xe_bv, xe_gr hK1 rfl, xe_bind, xk_ai hH1 g1 (by omega) (by omega), xe_bind, xl_1, xI_add, v1, xe_bind]
    have hE1 : xb_E C ne n le st := xb_Eu (xb_Eu hE a2 (fun e he => ⟨by omega, by omega, by omega⟩)) v3 (fun e he => ⟨by omega, by omega, by omega⟩)
    obtain ⟨E, c2, b2, e2', w1, w2, w3⟩ := xb_buL hne f1 f2 t1 t2 hn hl hr hs q (j + 1) C c' _ b' e' (by omega) (by omega) (xk_c hK1 v3 (by decide)) (xb_Vu (xb_Vu hV a2 (by decide)) v3 (by decide)) hE1 v2 ⟨xk_c a3.1 v3 (by decide), xk_au a3.2.1 v3 (by decide), xk_au a3.2.2 v3 (by decide)⟩ a4 (by omega) a6
      (fun e he => by
        by_cases er : e = r.toNat
        · subst er; rw [xk_p_e]; omega
        · rw [xk_p_n _ _ er]; exact hh e he)
      (by rw [xb_s_u hrn]; omega)
      (fun t => by
        rw [a8 t, hU t]
        constructor
        · rintro (⟨x, l, ⟨e, i, p1, p2, p3, p4⟩, g⟩ | ⟨g6, g7⟩)
          · refine ⟨x, l, ⟨e, i, p1, ?_, p3, p4⟩, g⟩
            by_cases er : e = r.toNat
            · subst er; rw [xk_p_e]; omega
            · rw [xk_p_n _ _ er]; exact p2
          · exact ⟨bs, le r.toNat, ⟨r.toNat, (h r.toNat).toNat, hrn, by rw [xk_p_e]; omega, g4, rfl⟩, g6, g7⟩
        · rintro ⟨x, l, ⟨e, i, p1, p2, p3, p4⟩, g⟩
          by_cases er : e = r.toNat
          · subst er
            rw [xk_p_e] at p2
            by_cases ei : i = (h r.toNat).toNat
            · subst ei
              rw [← g4] at p3
              subst p3 p4
              exact Or.inr g
            · exact Or.inl ⟨x, l, ⟨r.toNat, i, p1, by omega, p3, p4⟩, g⟩
          · rw [xk_p_n _ _ er] at p2
            exact Or.inl ⟨x, l, ⟨e, i, p1, p2, p3, p4⟩, g⟩)
      (fun k hk e he hle => by
        have h1 := a7 k hk
        refine Int.le_trans h1 (xb_mx_m ?_)
        by_cases er : e = r.toNat
        · subst er
          rw [xk_p_e] at hle ⊢
          rw [g4]
          exact hs r.toNat hrn _ _ (by omega) (by omega)
        · rw [xk_p_n _ _ er] at hle ⊢
          exact g5 e he hle)
    rw [xI_add]
    exact ⟨E, c2, b2, e2', w1, xk_t (xk_t (xk_w a2 fun i hi => by omega) (xk_w v3 fun i hi => by omega)) w2, w3⟩
theorem xb_b0L {tn : Int} {ne : Nat} (hne : ne ≤ 8) : ∀ (q k : Nat) (A : xj_H) (h : Nat → Int), k ≤ ne → ne - k < q → xb_K A tn ne → xk_a A 0 30 8 h → (∀ e, e < k → h e = 0) → ∃ (B : xj_H) (h' : Nat → Int), fB_busy_38 q (xj_o 0) (xI k) A = fB_busy_61 xj_fu (xj_o 0) (xI 0) B ∧ xk_u (fun i => i = 30) A B ∧ xk_a B 0 30 8 h' ∧ (∀ e, e < ne → h' e = 0)
  | 0, k, _, _, _, h, _, _, _ => by omega
  | q + 1, k, A, h, hk, hq, hK, hH, hz => by
    rw [fB_busy_38, xe_gi hK rfl, xe_bind, xq_le (by omega) (by omega) (by omega) (by omega)]
    by_cases hc : (ne : Int) ≤ k
    · rw [if_pos hc]
      exact ⟨A, h, rfl, xk_r _ _, hH, fun e he => hz e (by omega)⟩
    obtain ⟨C, v1, v2, v3⟩ := xk_as 0 hH (i := k) (by omega) (by omega) (by omega)
    rw [if_neg hc, xe_gr hK rfl, xe_bind, xl_0, v1, xe_bind, xl_1, xI_add]
    rw [Int.toNat_natCast] at v2
    obtain ⟨E, h', w1, w2, w3⟩ := xb_b0L hne q (k + 1) C _ (by omega) (by omega) (xk_c hK v3 (by decide)) v2 (fun e he => by
      by_cases ek : e = k
      · subst ek; rw [xk_p_e]
      · rw [xk_p_n _ _ ek]; exact hz e (by omega))
    exact ⟨E, h', w1, xk_t v3 w2, w3⟩
theorem xb_busy {A : xj_H} {tn fr to : Int} {ne : Nat} (hne : ne ≤ 8) {n le h : Nat → Int} {st : Nat → Nat → Int} (f1 : -2147483648 ≤ fr) (f2 : fr ≤ 2147483647) (t1 : -2147483648 ≤ to) (t2 : to ≤ 2147483647) (hn : ∀ e, e < ne → 0 ≤ n e ∧ n e ≤ 200) (hl : ∀ e, e < ne → 1 ≤ le e ∧ le e ≤ 2880) (hr : ∀ e i : Nat, e < ne → (i : Int) < n e → -2000000000 ≤ st e i ∧ st e i ≤ 2000000000) (hs : ∀ e, e < ne → ∀ i j : Nat, i < j → (j : Int) < n e → st e i ≤ st e j) {c : Nat} {fr0 to0 : Int} {b e : Nat → Int} (hK : xb_K A tn ne) (hV : xb_V A) (hE : xb_E A ne n le st) (hH : xk_a A 0 30 8 h) (hS : xb_S A c fr0 to0 b e) :
    ∃ (B : xj_H) (c' : Nat) (b' e' : Nat → Int), (xj_bv (xj_rq A (xj_o 31) 3 (fS_open (xj_o 31) (xI fr) (xI to) A)) fun A2 => fB_busy_38 xj_fu (xj_o 0) 0 A2) = some (.inl (some (.int (xI c'))), B) ∧ xk_u (fun i => 30 ≤ i ∧ i ≤ 33) A B ∧ xb_S B c' fr to b' e' ∧ xb_N b' e' c' ∧ c' ≤ 1600 ∧ (∃ h', xk_a B 0 30 8 h') ∧ (∀ i, i < c' → fr ≤ b' i ∧ e' i ≤ to) ∧ ∀ t, xb_I b' e' c' t ↔ xb_U (xb_P ne n le st) fr to t := by
  obtain ⟨h0, h1, h2⟩ := hS
  obtain ⟨B, v1, v2, v3⟩ := xk_pw (.int (xI fr)) h0 (k := 3) (by simp)
  obtain ⟨C, w1, w2, w3⟩ := xk_pw (.int (xI to)) v2 (k := 4) (by simp)
  obtain ⟨E, u1, u2, u3⟩ := xk_pw (.int 0) w2 (k := 2) (by simp)
  have hAE : xk_u (fun i => i = 31) A E := xk_t (xk_t v3 w3) u3
  obtain ⟨G, h', g1, g2, g3, g4⟩ := xb_b0L hne xj_fu 0 E h (by omega) (by unfold xj_fu; omega) (xk_c hK hAE (by decide)) (xk_au hH hAE (by decide)) (fun e he => by omega)
  have hAG : xk_u (fun i => i = 30 ∨ i = 31) A G := xk_t (xk_w hAE fun i hi => Or.inr hi) (xk_w g2 fun i hi => Or.inl hi)
  obtain ⟨H, c', b', e', y1, y2, y3⟩ := xb_buL hne f1 f2 t1 t2 (fun e he => (hn e he).2) hl hr hs (tn := tn) (n := n) (le := le) xj_fu 0 G 0 h' b e (by omega) (by unfold xj_fu; omega) (xk_c hK hAG (by decide)) (xb_Vu hV hAG (by decide)) (xb_Eu hE hAG (fun e he => ⟨by omega, by omega, by omega⟩)) g3
    ⟨xk_c u2 g2 (by decide), xk_au h1 hAG (by decide), xk_au h2 hAG (by decide)⟩ ⟨fun i hi => by omega, fun i hi => by omega⟩ (by omega) (fun i hi => by omega) (fun e he => by rw [g4 e he]; exact ⟨by omega, (hn e he).1⟩) (xb_s_0 g4)
    (fun t => ⟨fun ⟨i, hi, _⟩ => by omega, fun ⟨x, l, ⟨e, i, p1, p2, _⟩, _⟩ => by rw [g4 e p1] at p2; omega⟩) (fun k hk => by omega)
  refine ⟨H, c', b', e', ?_, xk_t (xk_w hAG fun i hi => by omega) y2, y3⟩
  rw [xe_rq h0]
  unfold fS_open
  rw [v1, xe_bind, w1, xe_bind, u1, xe_bind, xe_bv, xl_0]
  rw [show ((0 : Nat) : Int) = 0 from rfl] at g1 y1
  rw [g1]
  exact y1

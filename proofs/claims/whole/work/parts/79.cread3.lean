/-! The class reads a part, and the rule. -/
def xr_out3 (A : xj_H) (q tx ru n : Nat) (T : Nat → Int) (f : Option xj_R) (o : Option (xr_D × List Int)) : Prop :=
  xr_out A q tx ru n T f o ∨ (o = none ∧ ∃ d' c r B j, f = some (.inl (some (.int 1)), B) ∧ xr_J q ru A B ∧ xr_C B q tx ru n j T d' (c :: r) ∧ xr_lt c = true)
theorem xr_oj3 {A B : xj_H} {q tx ru n : Nat} {T : Nat → Int} {f : Option xj_R} {o : Option (xr_D × List Int)} (u : xr_J q ru A B) (h : xr_out3 B q tx ru n T f o) : xr_out3 A q tx ru n T f o := by
  rcases h with h | ⟨h1, d', c, r, C, j, c1, c2, c3, c4⟩
  · exact Or.inl (xr_oj u h)
  · exact Or.inr ⟨h1, d', c, r, C, j, c1, xk_t u c2, c3, c4⟩
theorem xr_wr {A B : xj_H} {q tx ru n : Nat} {T : Nat → Int} {f : Option xj_R} {o : Option (xr_D × List Int)} (u : xr_J q ru A B) (h : xr_out3 B q tx ru n T f o) {K : Int32 → xj_H → Option xj_R} (k0 : ∀ A', K 0 A' = some (.inl (some (.int 0)), A')) (k1 : ∀ A', K 1 A' = some (.inl (some (.int 1)), A')) : xr_out3 A q tx ru n T (xj_bi f K) o := by
  refine xr_oj3 u ?_
  rcases h with (⟨h1, C, c1, c2⟩ | ⟨d', r, C, j, h1, c1, c2, c3⟩) | ⟨h1, d', c, r, C, j, c1, c2, c3, c4⟩
  · exact Or.inl (Or.inl ⟨h1, C, by rw [c1, xe_bi, k0], c2⟩)
  · exact Or.inl (Or.inr ⟨d', r, C, j, h1, by rw [c1, xe_bi, k1], c2, c3⟩)
  · exact Or.inr ⟨h1, d', c, r, C, j, by rw [c1, xe_bi, k1], c2, c3, c4⟩
theorem xr_setF {A : xj_H} {q tx ru n i : Nat} {T : Nat → Int} {d : xr_D} {l : List Int} (hd : xr_dis q tx ru n) (hC : xr_C A q tx ru n i T d l) (k : Nat) :
    ∃ B, xj_gr A (xj_o q) 5 3 = some (xj_o ru) ∧ xj_pv A (xj_o ru) 4 0 (xj_rv (some (.inr k))) = some B ∧ xr_J q ru A B ∧ xr_C B q tx ru n i T (some k, d.2) l ∧ fQ_readFrequency_85 (xj_o q) B = some (.inl (some (.int 1)), B) := by
  obtain ⟨M, N, E, W, H, G, g1, g2⟩ := hC.2.2.1
  obtain ⟨B, b1, b2, b3⟩ := xk_pw (.retAddr k) g1 (k := 0) (by simp [xr_fs])
  have hB : xr_C B q tx ru n i T (some k, d.2) l := xr_Cr hd hC ⟨M, N, E, W, H, G, b2, g2⟩ b3
  refine ⟨B, xe_gr hC.1 rfl, b1, xr_Jr b3, hB, ?_⟩
  unfold fQ_readFrequency_85 fQ_readFrequency_100
  rw [xe_gr hB.1 rfl, xe_bind, xe_gs b2 rfl, xe_bind, if_neg (by simp)]
  rfl
theorem xr_fqW {w l r : List Int} (h : l = w ++ r) (hw : ∀ c ∈ w, xr_lt c = true) (hl : w.length ≤ 7) : (xr_sp xr_lt 7 l = (w, r)) ∨ ∃ c r' s t, r = c :: r' ∧ xr_lt c = true ∧ xr_sp xr_lt 7 l = (w ++ c :: s, t) := by
  rw [h, xr_sp_w hw hl]
  match hk : 7 - w.length, r with
  | 0, r => exact Or.inl (by simp [xr_sp])
  | k + 1, [] => exact Or.inl (by simp [xr_sp])
  | k + 1, c :: r' =>
    by_cases hc : xr_lt c = true
    · refine Or.inr ⟨c, r', (xr_sp xr_lt k r').1, (xr_sp xr_lt k r').2, rfl, hc, ?_⟩
      rw [xr_sp, if_pos hc]
    · refine Or.inl ?_
      rw [xr_sp, if_neg hc]; simp
theorem xr_fq_n {l : List Int} (h1 : ∀ r, l ≠ xr_w106 ++ r) (h2 : ∀ r, l ≠ xr_w107 ++ r) (h3 : ∀ r, l ≠ xr_w108 ++ r) (h4 : ∀ r, l ≠ xr_w109 ++ r) : xr_freq l = none := by
  have := xr_sp_a (p := xr_lt) 7 l
  unfold xr_freq
  rw [if_neg, if_neg, if_neg, if_neg]
  · intro h; rw [h] at this; exact h4 _ this.symm
  · intro h; rw [h] at this; exact h3 _ this.symm
  · intro h; rw [h] at this; exact h2 _ this.symm
  · intro h; rw [h] at this; exact h1 _ this.symm
theorem xr_rfq1 {A B : xj_H} {q tx ru n i : Nat} {T : Nat → Int} {d : xr_D} {l r w : List Int} (hd : xr_dis q tx ru n) (u : xr_J q ru A B) (hB : xr_C B q tx ru n i T d r) {k : Nat} (e : l = w ++ r) (hw : ∀ c ∈ w, xr_lt c = true) (hl : w.length ≤ 7)
    (hy : xr_sp xr_lt 7 l = (w, r) → xr_freq l = some (k, r)) (hn : ∀ c s t, xr_sp xr_lt 7 l = (w ++ c :: s, t) → xr_freq l = none) :
    xr_out3 A q tx ru n T ((xj_gr B (xj_o q) 5 3).bind fun x => (xj_pv B x 4 0 (xj_rv (some (.inr k)))).bind fun B' => fQ_readFrequency_85 (xj_o q) B') ((xr_freq l).map fun q => ((some q.1, d.2), q.2)) := by
  obtain ⟨C, c1, c2, c3, c4, c5⟩ := xr_setF hd hB k
  rw [c1, xe_bind, c2, xe_bind, c5]
  rcases xr_fqW e hw hl with h | ⟨c, r', s, t, h1, h2, h3⟩
  · rw [hy h]
    exact Or.inl (Or.inr ⟨_, _, C, i, rfl, rfl, xk_t u c3, c4⟩)
  · rw [hn c s t h3]
    subst h1
    exact Or.inr ⟨rfl, _, c, r', C, i, rfl, xk_t u c3, c4, h2⟩
theorem xr_rfq {A : xj_H} {q tx ru n i : Nat} {T : Nat → Int} {d : xr_D} {l : List Int} (hd : xr_dis q tx ru n) (hC : xr_C A q tx ru n i T d l) (hn : d.1 = none) :
    xr_out3 A q tx ru n T (fQ_readFrequency (xj_o q) A) ((xr_freq l).map fun q => ((some q.1, d.2), q.2)) := by
  unfold fQ_readFrequency
  rw [xe_rq hC.1]
  rcases xr_tw xr_s106 hd.2.2.2 (by decide) hC.1 hC.2.1 hC.2.2.2 (by decide) with ⟨r, B, e, b1, b2, b3, b4⟩ | ⟨f1, b1⟩
  · rw [b1, xe_bi, xk_b1]
    exact xr_rfq1 hd (xr_Jq b3) (xr_Cm hd hC b2 b3 b4) e (by decide) (by decide) (fun h => by unfold xr_freq; rw [h, if_pos rfl]) (fun c s t h => by unfold xr_freq; rw [h]; simp [xr_w106, xr_w107, xr_w108, xr_w109])
  rw [b1, xe_bi, xk_b0, xe_rq hC.1]
  rcases xr_tw xr_s107 hd.2.2.2 (by decide) hC.1 hC.2.1 hC.2.2.2 (by decide) with ⟨r, B, e, b1, b2, b3, b4⟩ | ⟨f2, b1⟩
  · rw [b1, xe_bi, xk_b1]
    exact xr_rfq1 hd (xr_Jq b3) (xr_Cm hd hC b2 b3 b4) e (by decide) (by decide) (fun h => by unfold xr_freq; rw [h, if_neg (show ¬ xr_w107 = xr_w106 by decide), if_pos rfl]) (fun c s t h => by unfold xr_freq; rw [h]; simp [xr_w106, xr_w107, xr_w108, xr_w109])
  rw [b1, xe_bi, xk_b0, xe_rq hC.1]
  rcases xr_tw xr_s108 hd.2.2.2 (by decide) hC.1 hC.2.1 hC.2.2.2 (by decide) with ⟨r, B, e, b1, b2, b3, b4⟩ | ⟨f3, b1⟩
  · rw [b1, xe_bi, xk_b1]
    exact xr_rfq1 hd (xr_Jq b3) (xr_Cm hd hC b2 b3 b4) e (by decide) (by decide) (fun h => by unfold xr_freq; rw [h, if_neg (show ¬ xr_w108 = xr_w106 by decide), if_neg (show ¬ xr_w108 = xr_w107 by decide), if_pos rfl]) (fun c s t h => by unfold xr_freq; rw [h]; simp [xr_w106, xr_w107, xr_w108, xr_w109])
  rw [b1, xe_bi, xk_b0, xe_rq hC.1]
  rcases xr_tw xr_s109 hd.2.2.2 (by decide) hC.1 hC.2.1 hC.2.2.2 (by decide) with ⟨r, B, e, b1, b2, b3, b4⟩ | ⟨f4, b1⟩
  · rw [b1, xe_bi, xk_b1]
    exact xr_rfq1 hd (xr_Jq b3) (xr_Cm hd hC b2 b3 b4) e (by decide) (by decide) (fun h => by unfold xr_freq; rw [h, if_neg (show ¬ xr_w109 = xr_w106 by decide), if_neg (show ¬ xr_w109 = xr_w107 by decide), if_neg (show ¬ xr_w109 = xr_w108 by decide), if_pos rfl]) (fun c s t h => by unfold xr_freq; rw [h]; simp [xr_w106, xr_w107, xr_w108, xr_w109])
  obtain ⟨M, N, E, W, H, G, g1, g2⟩ := hC.2.2.1
  rw [b1, xe_bi, xk_b0]
  unfold fQ_readFrequency_85 fQ_readFrequency_100
  rw [xe_gr hC.1 rfl, xe_bind, xe_gn g1 (by simp [xr_fs, hn, xr_fv]), xe_bind, if_pos rfl, xr_fq_n f1 f2 f3 f4]
  exact Or.inl (Or.inl ⟨rfl, A, rfl, xk_r _ _⟩)
theorem xr_riv {A : xj_H} {q tx ru n i : Nat} {T : Nat → Int} {d : xr_D} {l : List Int} (hd : xr_dis q tx ru n) (hC : xr_C A q tx ru n i T d l) :
    xr_out A q tx ru n T (fQ_readInterval (xj_o q) A) (if xr_num 2 99 l = 0 then none else some ((d.1, xr_num 2 99 l, d.2.2), (xr_sp xr_dg 2 l).2)) := by
  obtain ⟨B, b1, b2, b3⟩ := xr_tnC hd hC (most := 2) (hi := 99) (by omega) (by omega) (by omega)
  have hb := xr_num_b (k := 2) (hi := 99) (by omega) l
  rw [show ((2 : Nat) : Int) = 2 from rfl] at b1
  obtain ⟨M, N, E, W, H, G, g1, g2⟩ := b2.2.2.1
  obtain ⟨C, c1, c2, c3⟩ := xk_pw (.int (xI (xr_num 2 99 l))) g1 (k := 1) (by simp [xr_fs])
  have hB : xr_C C q tx ru n (i + (xr_sp xr_dg 2 l).1.length) T (d.1, xr_num 2 99 l, d.2.2) (xr_sp xr_dg 2 l).2 := xr_Cr hd b2 ⟨M, N, E, W, H, G, c2, g2⟩ c3
  unfold fQ_readInterval fQ_readInterval_29
  rw [xe_gr hC.1 rfl, xe_bind, xe_rq hC.1, xl_2, xl_99, b1, xe_bi, c1, xe_bind, xe_gr hB.1 rfl, xe_bind, xe_gi c2 rfl, xe_bind, xl_0, xq_eq (by omega) (by omega) (by omega) (by omega)]
  by_cases hz : xr_num 2 99 l = 0
  · rw [if_pos hz, if_pos hz]
    exact Or.inl ⟨rfl, C, rfl, xk_t (xr_Jq b3) (xr_Jr c3)⟩
  · rw [if_neg hz, if_neg hz]
    exact Or.inr ⟨_, _, C, _, rfl, rfl, xk_t (xr_Jq b3) (xr_Jr c3), hB⟩
theorem xr_rcn {A : xj_H} {q tx ru n i : Nat} {T : Nat → Int} {d : xr_D} {l : List Int} (hd : xr_dis q tx ru n) (hC : xr_C A q tx ru n i T d l) :
    xr_out A q tx ru n T (fQ_readCount (xj_o q) A) (if xr_num 3 200 l = 0 then none else some ((d.1, d.2.1, xr_num 3 200 l, d.2.2.2), (xr_sp xr_dg 3 l).2)) := by
  obtain ⟨B, b1, b2, b3⟩ := xr_tnC hd hC (most := 3) (hi := 200) (by omega) (by omega) (by omega)
  have hb := xr_num_b (k := 3) (hi := 200) (by omega) l
  rw [show ((3 : Nat) : Int) = 3 from rfl] at b1
  obtain ⟨M, N, E, W, H, G, g1, g2⟩ := b2.2.2.1
  obtain ⟨C, c1, c2, c3⟩ := xk_pw (.int (xI (xr_num 3 200 l))) g1 (k := 2) (by simp [xr_fs])
  have hB : xr_C C q tx ru n (i + (xr_sp xr_dg 3 l).1.length) T (d.1, d.2.1, xr_num 3 200 l, d.2.2.2) (xr_sp xr_dg 3 l).2 := xr_Cr hd b2 ⟨M, N, E, W, H, G, c2, g2⟩ c3
  unfold fQ_readCount fQ_readCount_30
  rw [xe_gr hC.1 rfl, xe_bind, xe_rq hC.1, xl_3, xl_200, b1, xe_bi, c1, xe_bind, xe_gr hB.1 rfl, xe_bind, xe_gi c2 rfl, xe_bind, xl_0, xq_eq (by omega) (by omega) (by omega) (by omega)]
  by_cases hz : xr_num 3 200 l = 0
  · rw [if_pos hz, if_pos hz]
    exact Or.inl ⟨rfl, C, rfl, xk_t (xr_Jq b3) (xr_Jr c3)⟩
  · rw [if_neg hz, if_neg hz]
    exact Or.inr ⟨_, _, C, _, rfl, rfl, xk_t (xr_Jq b3) (xr_Jr c3), hB⟩
theorem xr_run {A : xj_H} {q tx ru n i : Nat} {T : Nat → Int} {d : xr_D} {l : List Int} (hd : xr_dis q tx ru n) (hC : xr_C A q tx ru n i T d l) :
    xr_out A q tx ru n T (fQ_readUntil (xj_o q) A) ((xr_until l).map fun q => ((d.1, d.2.1, d.2.2.1, some q.1, d.2.2.2.2), q.2)) := by
  obtain ⟨B, b1, b2, b3, b4, b5, b6⟩ := xr_tn hd.2.2.2 hd.1 (most := 8) (hi := 99999999) (by omega) (by omega) (by omega) hC.1 hC.2.1 hC.2.2.2
  have hlen := (xr_sp_p (p := xr_dg) 8 l).2
  have hi := hC.2.2.2.1
  have hn := hd.2.2.2
  have hB := xr_Cm hd hC b2 b3 b4
  have hv : xr_num 8 99999999 l = xr_nv 0 (xr_sp xr_dg 8 l).1 := by unfold xr_num; rw [if_pos (by omega)]
  rw [show ((8 : Nat) : Int) = 8 from rfl, hv] at b1
  have b2' : xj_gi B (xj_o q) 5 2 = some (xI ((i + (xr_sp xr_dg 8 l).1.length : Nat) : Int)) := xe_gi b2 rfl
  rw [show ((i + (xr_sp xr_dg 8 l).1.length : Nat) : Int) = (i : Int) + ((xr_sp xr_dg 8 l).1.length : Nat) from rfl] at b2'
  unfold fQ_readUntil fQ_readUntil_72
  rw [xe_gi hC.1 rfl, xe_bind, xe_rq hC.1, xl_8, xl_99999999, b1, xe_bi, b2', xe_bind, xI_sub, xq_eq (by omega) (by omega) (by omega) (by omega)]
  unfold xr_until
  by_cases h8 : (xr_sp xr_dg 8 l).1.length = 8
  · obtain ⟨M, N, E, W, H, G, g1, g2⟩ := hB.2.2.1
    have hday : (if 2000 ≤ xr_nv 0 (xr_sp xr_dg 8 l).1 / 10000 ∧ xr_nv 0 (xr_sp xr_dg 8 l).1 / 10000 ≤ 2099 ∧ 1 ≤ xr_nv 0 (xr_sp xr_dg 8 l).1 / 100 % 100 ∧ xr_nv 0 (xr_sp xr_dg 8 l).1 / 100 % 100 ≤ 12 ∧ 1 ≤ xr_nv 0 (xr_sp xr_dg 8 l).1 % 100 ∧ xr_nv 0 (xr_sp xr_dg 8 l).1 % 100 ≤ xd_ml (xr_nv 0 (xr_sp xr_dg 8 l).1 / 10000 - 2000) (xr_nv 0 (xr_sp xr_dg 8 l).1 / 100 % 100) then xd_ms (12 * (xr_nv 0 (xr_sp xr_dg 8 l).1 / 10000 - 2000) + xr_nv 0 (xr_sp xr_dg 8 l).1 / 100 % 100 - 1) + xr_nv 0 (xr_sp xr_dg 8 l).1 % 100 - 1 else -1) = xr_day (xr_nv 0 (xr_sp xr_dg 8 l).1) := rfl
    rw [if_pos (by omega), xl_10000, xl_100, xt_div b5 (by omega) (by omega) (by omega), xt_div b5 (by omega) (by omega) (by omega), xt_mod (by omega) (by omega) (by omega) (by omega), xt_mod b5 (by omega) (by omega) (by omega),
      xv_dayOf _ _ _ (by omega) (by omega) (by omega) (by omega) (by omega) (by omega) B, hday, xe_bi, xe_gr hB.1 rfl, xe_bind]
    obtain ⟨C, c1, c2, c3⟩ := xk_pz (v := 1) (Or.inr rfl) g1 (k := 3) (by simp [xr_fs])
    obtain ⟨D, e1, e2, e3⟩ := xk_pw (.int (xI (xr_day (xr_nv 0 (xr_sp xr_dg 8 l).1)))) c2 (k := 4) (by simp [xr_fs])
    have hCQ : xr_Q C q tx ru n (i + (xr_sp xr_dg 8 l).1.length) := xk_c hB.1 c3 hd.2.1
    have hu : xr_J q ru A D := xk_t (xr_Jq b3) (xk_t (xr_Jr c3) (xr_Jr e3))
    rw [c1, xe_bind, xe_gr hCQ rfl, xe_bind, e1, xe_bind]
    by_cases h0 : 0 ≤ xr_day (xr_nv 0 (xr_sp xr_dg 8 l).1)
    · have hbd := xr_day_b h0
      rw [xl_0, xq_lt (by omega) (by omega) (by omega) (by omega), if_neg (by omega), if_pos ⟨h8, h0⟩]
      refine Or.inr ⟨_, _, D, _, rfl, rfl, hu, xr_Cr hd hB ⟨M, N, E, W, H, G, e2, g2⟩ (xk_t c3 e3)⟩
    · have hm : xr_day (xr_nv 0 (xr_sp xr_dg 8 l).1) = -1 := by
        unfold xr_day at h0 ⊢
        split
        · rename_i h1
          rw [if_pos h1] at h0
          have := xd_ms_b (m := 12 * (xr_nv 0 (xr_sp xr_dg 8 l).1 / 10000 - 2000) + xr_nv 0 (xr_sp xr_dg 8 l).1 / 100 % 100 - 1) (by omega) (by omega)
          omega
        · rfl
      rw [hm, xl_0, xq_lt (by omega) (by omega) (by omega) (by omega), if_pos (by omega), if_neg (by omega)]
      exact Or.inl ⟨rfl, D, rfl, hu⟩
  · rw [if_neg (by omega), if_neg (by rintro ⟨h, _⟩; exact h8 h)]
    exact Or.inl ⟨rfl, B, rfl, xr_Jq b3⟩

/-! The reference reads a part. -/
theorem xr_Mset {p0 : Nat → Value} {n i : Nat} {T : Nat → Int} {d : xr_D} {A : xj_H} {l : List Int} (hM : xr_M p0 A n i T d l) {k : Nat} (k0 : 15 ≤ k) (k1 : k ≤ 18) (x : Int32) :
    ∃ B, xj_pv A (xj_o 34) 7 k (.int x) = some B ∧ xk_u (fun k => k = 34) A B ∧ xr_G p0 B ∧ xj_gi B (xj_o 34) 7 k = some x ∧ ∀ d' : xr_D, d'.2.2.2.2 = d.2.2.2.2 → (∀ p, xr_Mf p i d → xr_Mf (xk_p p k (.int x)) i d') → xr_M p0 B n i T d' l := by
  have hG := xr_MG hM
  obtain ⟨⟨p, h1, h2, h3⟩, h4, h5, h6, h7, h8⟩ := hM
  obtain ⟨B, b1, b2, b3⟩ := xk_pv (.int x) h1 (k := k) (by omega)
  have hk : xm_rf.all (fun q => q.1 != k) = true := by
    rcases (show k = 15 ∨ k = 16 ∨ k = 17 ∨ k = 18 by omega) with rfl | rfl | rfl | rfl <;> decide
  have hMo := xr_Mop (v := .int x) h2 (by omega) (by omega) hk
  refine ⟨B, b1, b3, ⟨⟨_, b2, hMo⟩, ?_⟩, xk_gi b2 (xk_p_e _ _ _) (by omega), fun d' hd hf => ⟨⟨_, b2, hMo, hf p h3⟩, h4, h5, xk_au h6 b3 (by decide), ?_, h8⟩⟩
  · obtain ⟨_, ⟨f1, g1⟩, ⟨f2, g2⟩, ⟨f3, g3⟩, ⟨f4, g4⟩⟩ := hG
    exact ⟨⟨f1, xk_au g1 b3 (by decide)⟩, ⟨f2, xk_au g2 b3 (by decide)⟩, ⟨f3, xk_au g3 b3 (by decide)⟩, ⟨f4, xk_au g4 b3 (by decide)⟩⟩
  · have := xr_Mau h7 b3 (fun k _ _ => by omega)
    unfold xr_Ma at this ⊢
    rw [hd]
    exact this
theorem xr_mf57 {p0 : Nat → Value} {n i : Nat} {T : Nat → Int} {d : xr_D} {A B : xj_H} {r : List Int} (u : xr_MU A B) (hM : xr_M p0 B n i T d r) {k : Nat} (hk : k < 4) : xr_mout p0 A n T (fM_readFrequency_57 (xj_o 34) (xI ((k : Int) + 1)) (xj_o 34) B) (some ((some k, d.2), r)) := by
  obtain ⟨C, c1, c2, c3, c4, c5⟩ := xr_Mset hM (k := 15) (by decide) (by decide) (xI ((k : Int) + 1))
  unfold fM_readFrequency_57 fM_readFrequency_72
  rw [c1, xe_bind, c4, xe_bind, xl_0, xq_le (by omega) (by omega) (by omega) (by omega), if_neg (by omega)]
  refine Or.inr ⟨_, _, C, i, rfl, rfl, xk_t u (xr_MU34 c2), c5 (some k, d.2) rfl fun p hp => ?_⟩
  obtain ⟨q1, q2, q3, q4, q5, q6, q7, q8⟩ := hp
  exact ⟨q1, rfl, q3, q4, q5, q6, q7, q8⟩
theorem xr_mfq {p0 : Nat → Value} {n i : Nat} {T : Nat → Int} {d : xr_D} {A : xj_H} {l : List Int} (hM : xr_M p0 A n i T d l) :
    xr_mout p0 A n T (fM_readFrequency (xj_o 34) A) ((xr_freq l).map fun q => ((some q.1, d.2), q.2)) := by
  obtain ⟨B, b1, b2, b3⟩ := xr_ml (most := 7) (by omega) hM
  rw [show ((7 : Nat) : Int) = 7 from rfl] at b1
  have hp := xr_sp_p (p := xr_lt) 7 l
  have e0 := xL_eq (K := 4236697) (v := xr_w106) (by decide) hp.1 (by omega) (by decide) (by decide)
  have e1 := xL_eq (K := 777170329) (v := xr_w107) (by decide) hp.1 (by omega) (by decide) (by decide)
  have e2 := xL_eq (K := 14477304217) (v := xr_w108) (by decide) hp.1 (by omega) (by decide) (by decide)
  have e3 := xL_eq (K := 844155289) (v := xr_w109) (by decide) hp.1 (by omega) (by decide) (by decide)
  unfold fM_readFrequency xr_freq
  rw [xr_Mrq hM, xl_7, b1, show ∀ (v : Int64) (A : xj_H) (K : Int64 → xj_H → Option xj_R), xj_bl (some (.inl (some (.long v)), A)) K = K v A from fun _ _ _ => rfl]
  by_cases h0 : (xr_sp xr_lt 7 l).1 = xr_w106
  · rw [if_neg (fun h => h (e0.mpr h0)), if_pos h0]
    exact xr_mf57 (xr_MU34 b2) b3 (k := 0) (by decide)
  rw [if_pos (fun h => h0 (e0.mp h)), if_neg h0]
  by_cases h1 : (xr_sp xr_lt 7 l).1 = xr_w107
  · rw [if_neg (fun h => h (e1.mpr h1)), if_pos h1]
    exact xr_mf57 (xr_MU34 b2) b3 (k := 1) (by decide)
  rw [if_pos (fun h => h1 (e1.mp h)), if_neg h1]
  by_cases h2 : (xr_sp xr_lt 7 l).1 = xr_w108
  · rw [if_neg (fun h => h (e2.mpr h2)), if_pos h2]
    exact xr_mf57 (xr_MU34 b2) b3 (k := 2) (by decide)
  rw [if_pos (fun h => h2 (e2.mp h)), if_neg h2]
  by_cases h3 : (xr_sp xr_lt 7 l).1 = xr_w109
  · rw [if_neg (fun h => h (e3.mpr h3)), if_pos h3]
    exact xr_mf57 (xr_MU34 b2) b3 (k := 3) (by decide)
  rw [if_pos (fun h => h3 (e3.mp h)), if_neg h3]
  obtain ⟨C, c1, c2, c3, c4, c5⟩ := xr_Mset b3 (k := 15) (by decide) (by decide) 0
  unfold fM_readFrequency_57 fM_readFrequency_72
  rw [c1, xe_bind, c4, xe_bind, if_pos (by decide)]
  exact Or.inl ⟨rfl, C, rfl, xk_t (xr_MU34 b2) (xr_MU34 c2), c3⟩
theorem xr_nv2 {w : List Int} (h : ∀ c ∈ w, xr_dg c = true) (hl : w.length ≤ 2) : xr_nv 0 w ≤ 99 := by
  match w, h, hl with
  | [], _, _ => decide
  | [a], h, _ =>
    have ha : 48 ≤ a ∧ a ≤ 57 := by simpa [xr_dg] using h a (by simp)
    simp only [xr_nv]; omega
  | [a, b], h, _ =>
    have ha : 48 ≤ a ∧ a ≤ 57 := by simpa [xr_dg] using h a (by simp)
    have hb : 48 ≤ b ∧ b ≤ 57 := by simpa [xr_dg] using h b (by simp)
    simp only [xr_nv]; omega
  | a :: b :: c :: r, _, hl => simp at hl
theorem xr_mun {p0 : Nat → Value} {n i : Nat} {T : Nat → Int} {d : xr_D} {A : xj_H} {l : List Int} (hM : xr_M p0 A n i T d l) :
    xr_mout p0 A n T (fM_readUntil (xj_o 34) A) ((xr_until l).map fun q => ((d.1, d.2.1, d.2.2.1, some q.1, d.2.2.2.2), q.2)) := by
  obtain ⟨B, b1, b2, b3, b4, b5⟩ := xr_md (most := 8) (by omega) (by omega) hM
  rw [show ((8 : Nat) : Int) = 8 from rfl] at b1
  have hnv := xr_nvb (v := 0) (xr_sp_p (p := xr_dg) 8 l).1 (by omega)
  have hlen := (xr_sp_p (p := xr_dg) 8 l).2
  have hi := hM.2.2.2.2.2.1
  have hn := hM.2.2.1
  have b3' := xr_Mat b3
  rw [show ((i + (xr_sp xr_dg 8 l).1.length : Nat) : Int) = (i : Int) + ((xr_sp xr_dg 8 l).1.length : Nat) from rfl] at b3'
  unfold fM_readUntil
  rw [xr_Mat hM, xe_bind, xr_Mrq hM, xl_8, b1, xe_bi, b3', xe_bind, xI_sub, xq_eq (by omega) (by omega) (by omega) (by omega)]
  unfold xr_until
  by_cases h8 : (xr_sp xr_dg 8 l).1.length = 8
  · have hv : xr_mv' l 8 = xr_nv 0 (xr_sp xr_dg 8 l).1 := by
      unfold xr_mv'
      rw [if_neg]
      intro h; rw [h] at h8; cases h8
    rw [hv] at b4 b5 ⊢
    rw [if_pos (by omega), xl_10000, xl_100, xl_2000, xt_div hnv (by omega) (by omega) (by omega), xt_div hnv (by omega) (by omega) (by omega), xt_mod (by omega) (by omega) (by omega) (by omega), xt_mod hnv (by omega) (by omega) (by omega), xI_sub,
      xv_isDate _ _ _ (by omega) (by omega) (by omega) (by omega) (by omega) (by omega) B, xe_bi]
    by_cases hc : 0 ≤ xr_nv 0 (xr_sp xr_dg 8 l).1 / 10000 - 2000 ∧ xr_nv 0 (xr_sp xr_dg 8 l).1 / 10000 - 2000 < 100 ∧ 1 ≤ xr_nv 0 (xr_sp xr_dg 8 l).1 / 100 % 100 ∧ xr_nv 0 (xr_sp xr_dg 8 l).1 / 100 % 100 ≤ 12 ∧ 1 ≤ xr_nv 0 (xr_sp xr_dg 8 l).1 % 100 ∧ xr_nv 0 (xr_sp xr_dg 8 l).1 % 100 ≤ xd_ml (xr_nv 0 (xr_sp xr_dg 8 l).1 / 10000 - 2000) (xr_nv 0 (xr_sp xr_dg 8 l).1 / 100 % 100)
    · have hday : xr_day (xr_nv 0 (xr_sp xr_dg 8 l).1) = xd_ms (12 * (xr_nv 0 (xr_sp xr_dg 8 l).1 / 10000 - 2000) + xr_nv 0 (xr_sp xr_dg 8 l).1 / 100 % 100 - 1) + xr_nv 0 (xr_sp xr_dg 8 l).1 % 100 - 1 := by
        unfold xr_day
        rw [if_pos ⟨by omega, by omega, by omega, by omega, by omega, hc.2.2.2.2.2⟩]
      have hms := xd_ms_b (m := 12 * (xr_nv 0 (xr_sp xr_dg 8 l).1 / 10000 - 2000) + xr_nv 0 (xr_sp xr_dg 8 l).1 / 100 % 100 - 1) (by omega) (by omega)
      rw [if_pos hc, xk_n1, xv_mdayOf (by omega) (by omega) (by omega) (by omega) (by omega) (by omega) B, xe_bi, ← hday, if_pos ⟨h8, by omega⟩]
      obtain ⟨C, c1, c2, c3, c4, c5⟩ := xr_Mset b3 (k := 18) (by decide) (by decide) (xI (xr_day (xr_nv 0 (xr_sp xr_dg 8 l).1)))
      rw [c1, xe_bind]
      refine Or.inr ⟨_, _, C, _, rfl, rfl, xk_t (xr_MU34 b2) (xr_MU34 c2), c5 _ rfl fun p hp => ?_⟩
      obtain ⟨q1, q2, q3, q4, q5, q6, q7, q8⟩ := hp
      exact ⟨q1, q2, q3, q4, rfl, q6, q7, q8⟩
    · rw [if_neg hc, xk_n0, if_neg]
      · exact xr_mo0 (xr_MU34 b2) b3 rfl rfl
      · rintro ⟨_, h⟩
        unfold xr_day at h
        split at h
        · rename_i h1
          exact hc ⟨by omega, by omega, by omega, by omega, by omega, h1.2.2.2.2.2⟩
        · omega
  · rw [if_neg (by omega), if_neg (fun h => h8 h.1)]
    exact xr_mo0 (xr_MU34 b2) b3 rfl rfl
/-! Which parts are there. -/
def xr_hs (d : xr_D) (k : Nat) : Bool := match k with
  | 0 => d.1.isSome
  | 1 => decide (d.2.1 ≠ 0)
  | 2 => decide (d.2.2.1 ≠ 0)
  | 3 => d.2.2.2.1.isSome
  | 4 => decide (d.2.2.2.2.2.2 ≠ [])
  | 5 => decide (d.2.2.2.2.2.1 ≠ [])
  | 6 => decide (d.2.2.2.2.1 ≠ [])
  | _ => false
def xr_bt (k : Nat) : Int32 := (1 : Int32) <<< (xI k &&& 31)
/-- how the reference's reading of a part ends -/
def xr_mp (p0 : Nat → Value) (A : xj_H) (n : Nat) (T : Nat → Int) (d : xr_D) (f : Option xj_R) (o : Option (xr_D × List Int)) : Prop :=
  (∃ d' r B j k, o = some (d', r) ∧ f = some (.inl (some (.int (xr_bt k))), B) ∧ xr_MU A B ∧ xr_M p0 B n j T d' r ∧ k < 7 ∧ xr_hs d k = false ∧ ∀ j, xr_hs d' j = (xr_hs d j || j == k)) ∨
  (o = none ∧ ∃ B x, f = some (.inl (some (.int x)), B) ∧ xr_MU A B ∧ xr_G p0 B ∧ (x = 0 ∨ ∃ k, k < 7 ∧ x = xr_bt k ∧ xr_hs d k = true))
theorem xr_mpw {p0 : Nat → Value} {A B : xj_H} {n : Nat} {T : Nat → Int} {d : xr_D} {f : Option xj_R} {o o' : Option (xr_D × List Int)} (u : xr_MU A B) (h : xr_mout p0 B n T f o) {K : Int32 → xj_H → Option xj_R} {k : Nat} (hk : k < 7) (k0 : ∀ A', K 0 A' = some (.inl (some (.int 0)), A')) (k1 : ∀ A', K 1 A' = some (.inl (some (.int (xr_bt k))), A'))
    (ht : xr_hs d k = true → o' = none) (hf : xr_hs d k = false → o' = o ∧ ∀ d' r, o = some (d', r) → ∀ j, xr_hs d' j = (xr_hs d j || j == k)) : xr_mp p0 A n T d (xj_bi f K) o' := by
  cases hh : xr_hs d k with
  | true =>
    refine Or.inr ⟨ht hh, ?_⟩
    rcases h with ⟨h1, C, c1, c2, c3⟩ | ⟨d', r, C, j, h1, c1, c2, c3⟩
    · exact ⟨C, 0, by rw [c1, xe_bi, k0], xk_t u c2, c3, Or.inl rfl⟩
    · exact ⟨C, xr_bt k, by rw [c1, xe_bi, k1], xk_t u c2, xr_MG c3, Or.inr ⟨k, hk, rfl, hh⟩⟩
  | false =>
    obtain ⟨e, hj⟩ := hf hh
    subst e
    rcases h with ⟨h1, C, c1, c2, c3⟩ | ⟨d', r, C, j, h1, c1, c2, c3⟩
    · exact Or.inr ⟨h1, C, 0, by rw [c1, xe_bi, k0], xk_t u c2, c3, Or.inl rfl⟩
    · exact Or.inl ⟨d', r, C, j, k, h1, by rw [c1, xe_bi, k1], xk_t u c2, c3, hk, hh, hj d' r h1⟩

/-! The class reads a part, and the whole rule. -/
theorem xr_pt_y {d : xr_D} {w l r : List Int} (hw : ∀ c ∈ w, xr_lt c = true) (hl : w.length ≤ 10) (h : l = (w ++ [61]) ++ r) : xr_part d l = xr_body d w r := by
  obtain ⟨h1, h2⟩ := (xr_nm hw hl r).mp h
  unfold xr_part
  rw [h2, h1]
  exact if_pos rfl
theorem xr_pt_n {d : xr_D} {l : List Int} (h1 : ∀ r, l ≠ xr_w105 ++ r) (h2 : ∀ r, l ≠ xr_w110 ++ r) (h3 : ∀ r, l ≠ xr_w111 ++ r) (h4 : ∀ r, l ≠ xr_w112 ++ r) (h5 : ∀ r, l ≠ xr_w113 ++ r) (h6 : ∀ r, l ≠ xr_w115 ++ r) (h7 : ∀ r, l ≠ xr_w116 ++ r) : xr_part d l = none := by
  unfold xr_part
  split
  · rfl
  · rename_i c r h
    split
    · rename_i hc
      subst hc
      unfold xr_body
      rw [if_neg, if_neg, if_neg, if_neg, if_neg, if_neg, if_neg]
      · intro hw; exact h7 r ((xr_nm (by decide) (by decide) r).mpr ⟨hw, h⟩)
      · intro hw; exact h6 r ((xr_nm (by decide) (by decide) r).mpr ⟨hw, h⟩)
      · intro hw; exact h5 r ((xr_nm (by decide) (by decide) r).mpr ⟨hw, h⟩)
      · intro hw; exact h4 r ((xr_nm (by decide) (by decide) r).mpr ⟨hw, h⟩)
      · intro hw; exact h3 r ((xr_nm (by decide) (by decide) r).mpr ⟨hw, h⟩)
      · intro hw; exact h2 r ((xr_nm (by decide) (by decide) r).mpr ⟨hw, h⟩)
      · intro hw; exact h1 r ((xr_nm (by decide) (by decide) r).mpr ⟨hw, h⟩)
    · rfl
theorem xr_b105 (d : xr_D) (r : List Int) : xr_body d [70, 82, 69, 81] r = if d.1.isSome = true then none else (xr_freq r).map fun q => ((some q.1, d.2), q.2) := by
  unfold xr_body; rw [if_pos rfl]
theorem xr_b110 (d : xr_D) (r : List Int) : xr_body d [73, 78, 84, 69, 82, 86, 65, 76] r = if d.2.1 ≠ 0 then none else if xr_num 2 99 r = 0 then none else some ((d.1, xr_num 2 99 r, d.2.2), (xr_sp xr_dg 2 r).2) := by
  unfold xr_body; rw [if_neg (by decide), if_pos rfl]
theorem xr_b111 (d : xr_D) (r : List Int) : xr_body d [67, 79, 85, 78, 84] r = if d.2.2.1 ≠ 0 then none else if xr_num 3 200 r = 0 then none else some ((d.1, d.2.1, xr_num 3 200 r, d.2.2.2), (xr_sp xr_dg 3 r).2) := by
  unfold xr_body; rw [if_neg (by decide), if_neg (by decide), if_pos rfl]
theorem xr_b112 (d : xr_D) (r : List Int) : xr_body d [85, 78, 84, 73, 76] r = if d.2.2.2.1.isSome = true then none else (xr_until r).map fun q => ((d.1, d.2.1, d.2.2.1, some q.1, d.2.2.2.2), q.2) := by
  unfold xr_body; rw [if_neg (by decide), if_neg (by decide), if_neg (by decide), if_pos rfl]
theorem xr_b113 (d : xr_D) (r : List Int) : xr_body d [66, 89, 68, 65, 89] r = if d.2.2.2.2.2.2 ≠ [] then none else (xr_list xr_wd1 7 r).map fun q => ((d.1, d.2.1, d.2.2.1, d.2.2.2.1, d.2.2.2.2.1, d.2.2.2.2.2.1, q.1), q.2) := by
  unfold xr_body; rw [if_neg (by decide), if_neg (by decide), if_neg (by decide), if_neg (by decide), if_pos rfl]
theorem xr_b115 (d : xr_D) (r : List Int) : xr_body d [66, 89, 77, 79, 78, 84, 72, 68, 65, 89] r = if d.2.2.2.2.2.1 ≠ [] then none else (xr_list xr_nu1 8 r).map fun q => ((d.1, d.2.1, d.2.2.1, d.2.2.2.1, d.2.2.2.2.1, q.1, d.2.2.2.2.2.2), q.2) := by
  unfold xr_body; rw [if_neg (by decide), if_neg (by decide), if_neg (by decide), if_neg (by decide), if_neg (by decide), if_pos rfl]
theorem xr_b116 (d : xr_D) (r : List Int) : xr_body d [66, 89, 77, 79, 78, 84, 72] r = if d.2.2.2.2.1 ≠ [] then none else (xr_list xr_mo1 8 r).map fun q => ((d.1, d.2.1, d.2.2.1, d.2.2.2.1, q.1, d.2.2.2.2.2), q.2) := by
  unfold xr_body; rw [if_neg (by decide), if_neg (by decide), if_neg (by decide), if_neg (by decide), if_neg (by decide), if_neg (by decide), if_pos rfl]
theorem xr_o0 {A B : xj_H} {q tx ru n : Nat} {T : Nat → Int} {f : Option xj_R} {o : Option (xr_D × List Int)} (u : xr_J q ru A B) (hf : f = some (.inl (some (.int 0)), B)) (ho : o = none) : xr_out3 A q tx ru n T f o := Or.inl (Or.inl ⟨ho, B, hf, u⟩)
theorem xr_cg3 {A : xj_H} {q tx ru n : Nat} {T : Nat → Int} {f : Option xj_R} {o o' : Option (xr_D × List Int)} (h : xr_out3 A q tx ru n T f o) (e : o' = o) : xr_out3 A q tx ru n T f o' := e ▸ h
theorem xr_rpt {A : xj_H} {q tx ru n i : Nat} {T : Nat → Int} {d : xr_D} {l : List Int} (hd : xr_dis q tx ru n) (hok : xr_ok d) (hC : xr_C A q tx ru n i T d l) :
    xr_out3 A q tx ru n T (fQ_readPart (xj_o q) A) (xr_part d l) := by
  obtain ⟨k1, k2, k3, k4, k5, k6, k7, k8, k9⟩ := hok
  unfold fQ_readPart
  rw [xe_rq hC.1]
  rcases xr_tw xr_s105 hd.2.2.2 (by decide) hC.1 hC.2.1 hC.2.2.2 (by decide) with ⟨r, B, e, b1, b2, b3, b4⟩ | ⟨f1, b1⟩
  · have hB := xr_Cm hd hC b2 b3 b4
    obtain ⟨M, N, E, W, H, G, g1, g2⟩ := hB.2.2.1
    rw [b1, xe_bi, xk_b1, xe_gr b2 rfl, xe_bind, xr_pt_y (w := [70, 82, 69, 81]) (by decide) (by decide) e]
    cases h0 : d.1 with
    | none =>
      rw [xe_gn g1 (by simp [xr_fs, h0, xr_fv]), xe_bind, if_neg (by simp), xe_rq b2]
      refine xr_wr (xr_Jq b3) (xr_cg3 (xr_rfq hd hB h0) ?_) (fun A' => xk_b0.trans rfl) (fun A' => xk_b1.trans rfl)
      rw [xr_b105, if_neg (by simp [h0])]
    | some k =>
      rw [xe_gs (i := k) g1 (by simp [xr_fs, h0, xr_fv]), xe_bind, if_pos (by simp)]
      refine xr_o0 (xr_Jq b3) rfl ?_
      rw [xr_b105, if_pos (by simp [h0])]
  rw [b1, xe_bi, xk_b0, xe_rq hC.1]
  rcases xr_tw xr_s110 hd.2.2.2 (by decide) hC.1 hC.2.1 hC.2.2.2 (by decide) with ⟨r, B, e, b1, b2, b3, b4⟩ | ⟨f2, b1⟩
  · have hB := xr_Cm hd hC b2 b3 b4
    obtain ⟨M, N, E, W, H, G, g1, g2⟩ := hB.2.2.1
    rw [b1, xe_bi, xk_b1, xe_gr b2 rfl, xe_bind, xr_pt_y (w := [73, 78, 84, 69, 82, 86, 65, 76]) (by decide) (by decide) e, xe_gi g1 rfl, xe_bind, xl_0, xq_ne (by omega) (by omega) (by omega) (by omega)]
    rw [xr_b110]
    by_cases h0 : d.2.1 = 0
    · rw [if_pos h0, if_neg (fun h => h h0), xe_rq b2]
      exact xr_wr (xr_Jq b3) (Or.inl (xr_riv hd hB)) (fun A' => xk_b0.trans rfl) (fun A' => xk_b1.trans rfl)
    · rw [if_neg h0, if_pos h0]
      exact xr_o0 (xr_Jq b3) rfl rfl
  rw [b1, xe_bi, xk_b0, xe_rq hC.1]
  rcases xr_tw xr_s111 hd.2.2.2 (by decide) hC.1 hC.2.1 hC.2.2.2 (by decide) with ⟨r, B, e, b1, b2, b3, b4⟩ | ⟨f3, b1⟩
  · have hB := xr_Cm hd hC b2 b3 b4
    obtain ⟨M, N, E, W, H, G, g1, g2⟩ := hB.2.2.1
    rw [b1, xe_bi, xk_b1, xe_gr b2 rfl, xe_bind, xr_pt_y (w := [67, 79, 85, 78, 84]) (by decide) (by decide) e, xe_gi g1 rfl, xe_bind, xl_0, xq_ne (by omega) (by omega) (by omega) (by omega)]
    rw [xr_b111]
    by_cases h0 : d.2.2.1 = 0
    · rw [if_pos h0, if_neg (fun h => h h0), xe_rq b2]
      exact xr_wr (xr_Jq b3) (Or.inl (xr_rcn hd hB)) (fun A' => xk_b0.trans rfl) (fun A' => xk_b1.trans rfl)
    · rw [if_neg h0, if_pos h0]
      exact xr_o0 (xr_Jq b3) rfl rfl
  rw [b1, xe_bi, xk_b0, xe_rq hC.1]
  rcases xr_tw xr_s112 hd.2.2.2 (by decide) hC.1 hC.2.1 hC.2.2.2 (by decide) with ⟨r, B, e, b1, b2, b3, b4⟩ | ⟨f4, b1⟩
  · have hB := xr_Cm hd hC b2 b3 b4
    obtain ⟨M, N, E, W, H, G, g1, g2⟩ := hB.2.2.1
    rw [b1, xe_bi, xk_b1, xe_gr b2 rfl, xe_bind, xr_pt_y (w := [85, 78, 84, 73, 76]) (by decide) (by decide) e, xe_gi g1 rfl, xe_bind]
    rw [xr_b112]
    by_cases h0 : d.2.2.2.1.isSome = true
    · rw [if_pos h0, if_pos h0, xk_n1]
      exact xr_o0 (xr_Jq b3) rfl rfl
    · rw [if_neg h0, if_neg h0, xk_n0, xe_rq b2]
      exact xr_wr (xr_Jq b3) (Or.inl (xr_run hd hB)) (fun A' => xk_b0.trans rfl) (fun A' => xk_b1.trans rfl)
  rw [b1, xe_bi, xk_b0, xe_rq hC.1]
  rcases xr_tw xr_s113 hd.2.2.2 (by decide) hC.1 hC.2.1 hC.2.2.2 (by decide) with ⟨r, B, e, b1, b2, b3, b4⟩ | ⟨f5, b1⟩
  · have hB := xr_Cm hd hC b2 b3 b4
    obtain ⟨M, N, E, W, H, G, g1, g2⟩ := hB.2.2.1
    rw [b1, xe_bi, xk_b1, xe_gr b2 rfl, xe_bind, xr_pt_y (w := [66, 89, 68, 65, 89]) (by decide) (by decide) e, xe_rq g1, xr_hasWd k9 hB.2.2.1, xe_bi]
    rw [xr_b113]
    by_cases h0 : d.2.2.2.2.2.2 = []
    · rw [if_pos h0, xk_n0, if_neg (fun h => h h0), xe_rq b2]
      have hw := xr_rwL hd 7 xj_fu 0 _ B d r (by omega) (by unfold xj_fu; omega) hB
      rw [show ((0 : Nat) : Int) = 0 from rfl, ← xl_0] at hw
      refine xr_wr (xr_Jq b3) (xr_cg3 (Or.inl hw) ?_) (fun A' => xk_b0.trans rfl) (fun A' => xk_b1.trans rfl)
      simp [xr_aw, h0]
    · rw [if_neg h0, if_pos h0, xk_n1]
      exact xr_o0 (xr_Jq b3) rfl rfl
  rw [b1, xe_bi, xk_b0, xe_rq hC.1]
  rcases xr_tw xr_s115 hd.2.2.2 (by decide) hC.1 hC.2.1 hC.2.2.2 (by decide) with ⟨r, B, e, b1, b2, b3, b4⟩ | ⟨f6, b1⟩
  · have hB := xr_Cm hd hC b2 b3 b4
    obtain ⟨M, N, E, W, H, G, g1, g2⟩ := hB.2.2.1
    rw [b1, xe_bi, xk_b1, xe_gr b2 rfl, xe_bind, xr_pt_y (w := [66, 89, 77, 79, 78, 84, 72, 68, 65, 89]) (by decide) (by decide) e, xe_rq g1, xr_hasNu k8 hB.2.2.1, xe_bi]
    rw [xr_b115]
    by_cases h0 : d.2.2.2.2.2.1 = []
    · rw [if_pos h0, xk_n0, if_neg (fun h => h h0), xe_rq b2]
      have hw := xr_rnuL hd 8 xj_fu 0 _ B d r (by omega) (by unfold xj_fu; omega) hB
      rw [show ((0 : Nat) : Int) = 0 from rfl, ← xl_0] at hw
      refine xr_wr (xr_Jq b3) (xr_cg3 (Or.inl hw) ?_) (fun A' => xk_b0.trans rfl) (fun A' => xk_b1.trans rfl)
      simp [xr_an, h0]
    · rw [if_neg h0, if_pos h0, xk_n1]
      exact xr_o0 (xr_Jq b3) rfl rfl
  rw [b1, xe_bi, xk_b0, xe_rq hC.1]
  rcases xr_tw xr_s116 hd.2.2.2 (by decide) hC.1 hC.2.1 hC.2.2.2 (by decide) with ⟨r, B, e, b1, b2, b3, b4⟩ | ⟨f7, b1⟩
  · have hB := xr_Cm hd hC b2 b3 b4
    obtain ⟨M, N, E, W, H, G, g1, g2⟩ := hB.2.2.1
    have hz := xr_b_z g2.1
    rw [b1, xe_bi, xk_b1, xe_gr b2 rfl, xe_bind, xr_pt_y (w := [66, 89, 77, 79, 78, 84, 72]) (by decide) (by decide) e, xe_gi g1 rfl, xe_bind]
    rw [xr_b116]
    by_cases h0 : d.2.2.2.2.1 = []
    · rw [if_neg (fun h => h (hz.mpr fun k _ => by rw [h0]; simp)), if_neg (fun h => h h0), xe_rq b2]
      have hw := xr_rmoL hd 8 xj_fu 0 _ B d r (by omega) (by unfold xj_fu; omega) hB
      rw [show ((0 : Nat) : Int) = 0 from rfl, ← xl_0] at hw
      refine xr_wr (xr_Jq b3) (xr_cg3 (Or.inl hw) ?_) (fun A' => xk_b0.trans rfl) (fun A' => xk_b1.trans rfl)
      simp [xr_am, h0]
    · rw [if_pos, if_pos h0]
      exact xr_o0 (xr_Jq b3) rfl rfl
      intro hc
      obtain ⟨v, hv⟩ := List.exists_mem_of_ne_nil _ h0
      have hb := k7 v hv
      unfold xr_okm at hb
      refine hz.mp hc v.toNat (by omega) ?_
      rw [show ((v.toNat : Nat) : Int) = v by omega]; exact hv
  rw [b1, xe_bi, xk_b0]
  exact xr_o0 (xk_r _ _) rfl (xr_pt_n f1 f2 f3 f4 f5 f6 f7)
theorem xr_list_b {α : Type} {one : List Int → Option (α × List Int)} {P : α → Prop} (ho : ∀ l v r, one l = some (v, r) → P v) : ∀ (k : Nat) (l : List Int) (vs : List α) (r : List Int), xr_list one k l = some (vs, r) → vs ≠ [] ∧ ∀ v ∈ vs, P v
  | 0, l, vs, r, h => by simp [xr_list] at h
  | k + 1, l, vs, r, h => by
    rw [xr_list] at h
    cases h1 : one l with
    | none => rw [h1] at h; cases h
    | some v =>
      rw [h1, Option.bind_some] at h
      have hv := ho l v.1 v.2 h1
      split at h
      · cases h; exact ⟨by simp, by simpa using hv⟩
      · rename_i c r' h2
        split at h
        · cases h3 : xr_list one k r' with
          | none => rw [h3] at h; cases h
          | some w =>
            rw [h3] at h
            cases h
            have := xr_list_b ho k r' w.1 w.2 h3
            exact ⟨by simp, by simpa using ⟨hv, this.2⟩⟩
        · cases h; exact ⟨by simp, by simpa using hv⟩
theorem xr_freq_b {l : List Int} {q : Nat × List Int} (h : xr_freq l = some q) : q.1 < 4 := by
  unfold xr_freq at h
  split at h
  · cases h; simp
  split at h
  · cases h; simp
  split at h
  · cases h; simp
  split at h
  · cases h; simp
  · cases h
theorem xr_until_b {l : List Int} {q : Int × List Int} (h : xr_until l = some q) : 0 ≤ q.1 ∧ q.1 ≤ 36524 := by
  unfold xr_until at h
  split at h
  · rename_i h1
    cases h
    exact ⟨h1.2, xr_day_b h1.2⟩
  · cases h
theorem xr_body_ok {d d' : xr_D} {w r r' : List Int} (hok : xr_ok d) (h : xr_body d w r = some (d', r')) : xr_ok d' := by
  obtain ⟨k1, k2, k3, k4, k5, k6, k7, k8, k9⟩ := hok
  unfold xr_body at h
  split at h
  · split at h
    · cases h
    · cases h1 : xr_freq r with
      | none => rw [h1] at h; cases h
      | some v =>
        rw [h1] at h; cases h
        exact ⟨fun k hk => (Option.some.inj hk) ▸ xr_freq_b h1, k2, k3, k4, k5, k6, k7, k8, k9⟩
  split at h
  · split at h
    · cases h
    · split at h
      · cases h
      · cases h
        have := xr_num_b (k := 2) (hi := 99) (by omega) r
        exact ⟨k1, this.1, this.2, k4, k5, k6, k7, k8, k9⟩
  split at h
  · split at h
    · cases h
    · split at h
      · cases h
      · cases h
        have := xr_num_b (k := 3) (hi := 200) (by omega) r
        exact ⟨k1, k2, k3, this.1, this.2, k6, k7, k8, k9⟩
  split at h
  · split at h
    · cases h
    · cases h1 : xr_until r with
      | none => rw [h1] at h; cases h
      | some v =>
        rw [h1] at h; cases h
        exact ⟨k1, k2, k3, k4, k5, fun k hk => (Option.some.inj hk) ▸ xr_until_b h1, k7, k8, k9⟩
  split at h
  · split at h
    · cases h
    · cases h1 : xr_list xr_wd1 7 r with
      | none => rw [h1] at h; cases h
      | some v =>
        rw [h1] at h; cases h
        exact ⟨k1, k2, k3, k4, k5, k6, k7, k8, (xr_list_b (fun l v r h => xr_wd1_b h) _ _ _ _ h1).2⟩
  split at h
  · split at h
    · cases h
    · cases h1 : xr_list xr_nu1 8 r with
      | none => rw [h1] at h; cases h
      | some v =>
        rw [h1] at h; cases h
        exact ⟨k1, k2, k3, k4, k5, k6, k7, (xr_list_b (fun l v r h => xr_nu1_b h) _ _ _ _ h1).2, k9⟩
  split at h
  · split at h
    · cases h
    · cases h1 : xr_list xr_mo1 8 r with
      | none => rw [h1] at h; cases h
      | some v =>
        rw [h1] at h; cases h
        exact ⟨k1, k2, k3, k4, k5, k6, (xr_list_b (fun l v r h => xr_mo1_b h) _ _ _ _ h1).2, k8, k9⟩
  · cases h
theorem xr_part_ok {d d' : xr_D} {l r' : List Int} (hok : xr_ok d) (h : xr_part d l = some (d', r')) : xr_ok d' := by
  unfold xr_part at h
  split at h
  · cases h
  · split at h
    · exact xr_body_ok hok h
    · cases h

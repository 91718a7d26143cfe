/-! RecurrenceBookModel.fill(I)V -/
def fM_fill_128 (v0 : xj_Rf) (v1 : Int32) (v2 : Int32) (A : xj_H) : Option xj_R :=
  (xj_gr A v0 7 11).bind fun x1 =>
  (xj_as A x1 0 v1 v2).bind fun A2 =>
  some (.inl none, A2)
def fM_fill_123 (k24 : xj_Rf → Int32 → Int32 → Int32 → Int32 → xj_H → Option xj_R) (v0 : xj_Rf) (v1 : Int32) (v2 : Int32) (v3 : Int32) (s0 : Int32) (A : xj_H) : Option xj_R :=
  k24 v0 v1 v2 v3 s0 A
def fM_fill_105 (k24 : xj_Rf → Int32 → Int32 → Int32 → Int32 → xj_H → Option xj_R) (v0 : xj_Rf) (v1 : Int32) (v2 : Int32) (v3 : Int32) (v4 : Int32) (v5 : Int32) (A : xj_H) : Option xj_R :=
  if v5 = 0 then
    xj_bi (xj_rq A v0 7 (fM_behindPeriod v0 v4 A)) fun x1 A2 =>
    fM_fill_123 k24 v0 v1 v2 v3 x1 A2
  else
    fM_fill_123 k24 v0 v1 v2 v3 (v4 + (1 : Int32)) A
def fM_fill_88 (k24 : xj_Rf → Int32 → Int32 → Int32 → Int32 → xj_H → Option xj_R) (v0 : xj_Rf) (v1 : Int32) (v2 : Int32) (v3 : Int32) (v4 : Int32) (v5 : Int32) (A : xj_H) : Option xj_R :=
  (xj_gr A v0 7 10).bind fun x1 =>
  (xj_as A x1 0 (((200 : Int32) * v1) + v2) v4).bind fun A2 =>
  fM_fill_105 k24 v0 v1 (v2 + 1) v3 v4 v5 A2
def fM_fill_65 (k24 : xj_Rf → Int32 → Int32 → Int32 → Int32 → xj_H → Option xj_R) (v0 : xj_Rf) (v1 : Int32) (v2 : Int32) (v3 : Int32) (v4 : Int32) (s0 : Int32) (A : xj_H) : Option xj_R :=
  if s0 = 0 then
    fM_fill_105 k24 v0 v1 v2 v3 v4 s0 A
  else
    (xj_gi A v0 7 15).bind fun x1 =>
    if x1 = 0 then
      fM_fill_88 k24 v0 v1 v2 v3 v4 s0 A
    else
      xj_bi (xj_rq A v0 7 (fM_means v0 v4 A)) fun x2 A3 =>
      if x2 = 0 then
        fM_fill_105 k24 v0 v1 v2 v3 v4 s0 A3
      else
        fM_fill_88 k24 v0 v1 v2 v3 v4 s0 A3
def fM_fill_60 (k24 : xj_Rf → Int32 → Int32 → Int32 → Int32 → xj_H → Option xj_R) (v0 : xj_Rf) (v1 : Int32) (v2 : Int32) (v3 : Int32) (v4 : Int32) (A : xj_H) : Option xj_R :=
  fM_fill_65 k24 v0 v1 v2 v3 v4 (1 : Int32) A
def fM_fill_24 : Nat → xj_Rf → Int32 → Int32 → Int32 → Int32 → xj_H → Option xj_R
  | 0, _, _, _, _, _, _ => none
  | n + 1, v0, v1, v2, v3, v4, A =>
    (xj_gi A v0 7 18).bind fun x1 =>
    if x1 < v4 then
      fM_fill_128 v0 v1 v2 A
    else
      if v3 ≤ v2 then
        fM_fill_128 v0 v1 v2 A
      else
        xj_bv (xj_rq A v0 7 (fM_split v0 v4 A)) fun A2 =>
        (xj_gi A2 v0 7 15).bind fun x3 =>
        if x3 = 0 then
          fM_fill_60 (fM_fill_24 n) v0 v1 v2 v3 v4 A2
        else
          xj_bi (xj_rq A2 v0 7 (fM_inPeriod v0 v4 A2)) fun x4 A5 =>
          if x4 = 0 then
            fM_fill_65 (fM_fill_24 n) v0 v1 v2 v3 v4 (0 : Int32) A5
          else
            fM_fill_60 (fM_fill_24 n) v0 v1 v2 v3 v4 A5
def fM_fill_17 (v0 : xj_Rf) (v1 : Int32) (v2 : Int32) (s0 : Int32) (A : xj_H) : Option xj_R :=
  (xj_gi A v0 7 29).bind fun x1 =>
  fM_fill_24 xj_fu v0 v1 v2 s0 x1 A
def fM_fill (v0 : xj_Rf) (v1 : Int32) (A : xj_H) : Option xj_R :=
  (xj_gi A v0 7 15).bind fun x1 =>
  if ¬ x1 = 0 then
    (xj_gi A v0 7 17).bind fun x2 =>
    fM_fill_17 v0 v1 (0 : Int32) x2 A
  else
    fM_fill_17 v0 v1 (0 : Int32) (1 : Int32) A
theorem wM_fill_128 {l : Launch} (hl : l.stackTraces = false) {z : xj_F} (B : xj_B l yM_fill prog_11_method_36_code 6 none [] 4 z) (v0 : xj_Rf) (v1 : Int32) (v2 : Int32) (A : xj_H) (h : fM_fill_128 v0 v1 v2 A = some (xf_r z)) : xj_W l z 128 [(0, xj_rv v0), (1, .int v1), (2, .int v2)] [] A := by
  unfold fM_fill_128 at h
  refine xg_aload_n (pc := 128) (i := 0) (r := v0) B dM_fill_128 rfl rfl ?_
  refine xg_getr (pc := 129) B dM_fill_129 flM_28 h (fun x1 ex1 h => ?_)
  refine xg_iload_n (pc := 132) (i := 1) B dM_fill_132 rfl rfl ?_
  refine xg_iload_n (pc := 133) (i := 2) B dM_fill_133 rfl rfl ?_
  refine xg_iastore (pc := 134) B dM_fill_134 h (fun A2 eA2 h => ?_)
  exact xg_vret B dM_fill_135 h
theorem wM_fill_123 {l : Launch} (hl : l.stackTraces = false) {z : xj_F} (B : xj_B l yM_fill prog_11_method_36_code 6 none [] 4 z) (k24 : xj_Rf → Int32 → Int32 → Int32 → Int32 → xj_H → Option xj_R) (hk24 : ∀ (v0 : xj_Rf) (v1 : Int32) (v2 : Int32) (v3 : Int32) (v4 : Int32) (A : xj_H), k24 v0 v1 v2 v3 v4 A = some (xf_r z) → xj_W l z 24 [(0, xj_rv v0), (1, .int v1), (2, .int v2), (3, .int v3), (4, .int v4)] [] A) (v0 : xj_Rf) (v1 : Int32) (v2 : Int32) (v3 : Int32) (s0 : Int32) (A : xj_H) (h : fM_fill_123 k24 v0 v1 v2 v3 s0 A = some (xf_r z)) : xj_W l z 123 [(0, xj_rv v0), (1, .int v1), (2, .int v2), (3, .int v3)] [.int s0] A := by
  unfold fM_fill_123 at h
  refine xg_istore (pc := 123) (i := 4) (ls' := [(4, .int s0), (0, xj_rv v0), (1, .int v1), (2, .int v2), (3, .int v3)]) B dM_fill_123 (by decide) ⟨xj_nq (a := 0) (i := 4) (by decide), xj_nq (a := 1) (i := 4) (by decide), xj_nq (a := 2) (i := 4) (by decide), fun _ => rfl, trivial⟩ rfl ?_
  refine xg_goto (pc := 125) (tgt := 24) B dM_fill_125 (by decide) ?_
  refine xg_sub (ls' := [(0, xj_rv v0), (1, .int v1), (2, .int v2), (3, .int v3), (4, .int s0)]) [1, 2, 3, 4, 0] rfl ?_
  exact hk24 v0 v1 v2 v3 s0 A h
theorem wM_fill_105 {l : Launch} (hl : l.stackTraces = false) {z : xj_F} (B : xj_B l yM_fill prog_11_method_36_code 6 none [] 4 z) (k24 : xj_Rf → Int32 → Int32 → Int32 → Int32 → xj_H → Option xj_R) (hk24 : ∀ (v0 : xj_Rf) (v1 : Int32) (v2 : Int32) (v3 : Int32) (v4 : Int32) (A : xj_H), k24 v0 v1 v2 v3 v4 A = some (xf_r z) → xj_W l z 24 [(0, xj_rv v0), (1, .int v1), (2, .int v2), (3, .int v3), (4, .int v4)] [] A) (v0 : xj_Rf) (v1 : Int32) (v2 : Int32) (v3 : Int32) (v4 : Int32) (v5 : Int32) (A : xj_H) (h : fM_fill_105 k24 v0 v1 v2 v3 v4 v5 A = some (xf_r z)) : xj_W l z 105 [(0, xj_rv v0), (1, .int v1), (2, .int v2), (3, .int v3), (4, .int v4), (5, .int v5)] [] A := by
  unfold fM_fill_105 at h
  refine xg_iload (pc := 105) (i := 5) B dM_fill_105 rfl ?_
  refine xg_if_eq (pc := 107) (tgt := 117) B dM_fill_107 (by decide) h (fun c107 h => ?_) (fun c107 h => ?_)
  · refine xg_aload_n (pc := 117) (i := 0) (r := v0) B dM_fill_117 rfl rfl ?_
    refine xg_iload (pc := 118) (i := 4) B dM_fill_118 rfl ?_
    obtain ⟨hq120, h⟩ := xj_rq_i h
    refine xg_ci (pc := 120) (av := [xj_rv v0, .int v4]) (st := []) (cy := prog_11_method_35_code) (nLy := 2) (rety := (some .int)) (hsy := []) B dM_fill_120 (xj_go_v B dM_fill_120 vwM_246 rfl hq120) (xj_vw_c vwM_246) (xj_vw_i vwM_246) (by decide) (by decide) (by decide) rfl (fun r9 h9 => cM_behindPeriod hl _ _ _ r9 h9) h (fun x1 A2 eA2 h => ?_)
    refine xg_sub (ls' := [(0, xj_rv v0), (1, .int v1), (2, .int v2), (3, .int v3)]) [0, 1, 2, 3] rfl ?_
    exact wM_fill_123 hl B k24 hk24 v0 v1 v2 v3 x1 A2 h
  · refine xg_iload (pc := 110) (i := 4) B dM_fill_110 rfl ?_
    refine xg_iconst (pc := 112) (v := 1) B dM_fill_112 (by decide) ?_
    refine xg_iadd (pc := 113) B dM_fill_113 ?_
    refine xg_goto (pc := 114) (tgt := 123) B dM_fill_114 (by decide) ?_
    refine xg_sub (ls' := [(0, xj_rv v0), (1, .int v1), (2, .int v2), (3, .int v3)]) [0, 1, 2, 3] rfl ?_
    exact wM_fill_123 hl B k24 hk24 v0 v1 v2 v3 (v4 + (1 : Int32)) A h
theorem wM_fill_88 {l : Launch} (hl : l.stackTraces = false) {z : xj_F} (B : xj_B l yM_fill prog_11_method_36_code 6 none [] 4 z) (k24 : xj_Rf → Int32 → Int32 → Int32 → Int32 → xj_H → Option xj_R) (hk24 : ∀ (v0 : xj_Rf) (v1 : Int32) (v2 : Int32) (v3 : Int32) (v4 : Int32) (A : xj_H), k24 v0 v1 v2 v3 v4 A = some (xf_r z) → xj_W l z 24 [(0, xj_rv v0), (1, .int v1), (2, .int v2), (3, .int v3), (4, .int v4)] [] A) (v0 : xj_Rf) (v1 : Int32) (v2 : Int32) (v3 : Int32) (v4 : Int32) (v5 : Int32) (A : xj_H) (h : fM_fill_88 k24 v0 v1 v2 v3 v4 v5 A = some (xf_r z)) : xj_W l z 88 [(0, xj_rv v0), (1, .int v1), (2, .int v2), (3, .int v3), (4, .int v4), (5, .int v5)] [] A := by
  unfold fM_fill_88 at h
  refine xg_aload_n (pc := 88) (i := 0) (r := v0) B dM_fill_88 rfl rfl ?_
  refine xg_getr (pc := 89) B dM_fill_89 flM_25 h (fun x1 ex1 h => ?_)
  refine xg_sipush (pc := 92) (v := 200) B dM_fill_92 (by decide) ?_
  refine xg_iload_n (pc := 95) (i := 1) B dM_fill_95 rfl rfl ?_
  refine xg_imul (pc := 96) B dM_fill_96 ?_
  refine xg_iload_n (pc := 97) (i := 2) B dM_fill_97 rfl rfl ?_
  refine xg_iadd (pc := 98) B dM_fill_98 ?_
  refine xg_iload (pc := 99) (i := 4) B dM_fill_99 rfl ?_
  refine xg_iastore (pc := 101) B dM_fill_101 h (fun A2 eA2 h => ?_)
  refine xg_iinc (pc := 102) (i := 2) (v := (v2 + 1)) (ls' := [(2, .int (v2 + 1)), (0, xj_rv v0), (1, .int v1), (3, .int v3), (4, .int v4), (5, .int v5)]) B dM_fill_102 rfl (xj_inc_1 _) (by decide) ⟨xj_nq (a := 0) (i := 2) (by decide), fun _ => rfl, xj_nq (a := 2) (i := 2) (by decide), xj_nq (a := 3) (i := 2) (by decide), xj_nq (a := 4) (i := 2) (by decide), xj_nq (a := 5) (i := 2) (by decide), trivial⟩ rfl ?_
  refine xg_sub (ls' := [(0, xj_rv v0), (1, .int v1), (2, .int (v2 + 1)), (3, .int v3), (4, .int v4), (5, .int v5)]) [1, 2, 0, 3, 4, 5] rfl ?_
  exact wM_fill_105 hl B k24 hk24 v0 v1 (v2 + 1) v3 v4 v5 A2 h
theorem wM_fill_65 {l : Launch} (hl : l.stackTraces = false) {z : xj_F} (B : xj_B l yM_fill prog_11_method_36_code 6 none [] 4 z) (k24 : xj_Rf → Int32 → Int32 → Int32 → Int32 → xj_H → Option xj_R) (hk24 : ∀ (v0 : xj_Rf) (v1 : Int32) (v2 : Int32) (v3 : Int32) (v4 : Int32) (A : xj_H), k24 v0 v1 v2 v3 v4 A = some (xf_r z) → xj_W l z 24 [(0, xj_rv v0), (1, .int v1), (2, .int v2), (3, .int v3), (4, .int v4)] [] A) (v0 : xj_Rf) (v1 : Int32) (v2 : Int32) (v3 : Int32) (v4 : Int32) (s0 : Int32) (A : xj_H) (h : fM_fill_65 k24 v0 v1 v2 v3 v4 s0 A = some (xf_r z)) : xj_W l z 65 [(0, xj_rv v0), (1, .int v1), (2, .int v2), (3, .int v3), (4, .int v4)] [.int s0] A := by
  unfold fM_fill_65 at h
  refine xg_istore (pc := 65) (i := 5) (ls' := [(5, .int s0), (0, xj_rv v0), (1, .int v1), (2, .int v2), (3, .int v3), (4, .int v4)]) B dM_fill_65 (by decide) ⟨xj_nq (a := 0) (i := 5) (by decide), xj_nq (a := 1) (i := 5) (by decide), xj_nq (a := 2) (i := 5) (by decide), xj_nq (a := 3) (i := 5) (by decide), fun _ => rfl, trivial⟩ rfl ?_
  refine xg_iload (pc := 67) (i := 5) B dM_fill_67 rfl ?_
  refine xg_if_eq (pc := 69) (tgt := 105) B dM_fill_69 (by decide) h (fun c69 h => ?_) (fun c69 h => ?_)
  · refine xg_sub (ls' := [(0, xj_rv v0), (1, .int v1), (2, .int v2), (3, .int v3), (4, .int v4), (5, .int s0)]) [1, 2, 3, 4, 5, 0] rfl ?_
    exact wM_fill_105 hl B k24 hk24 v0 v1 v2 v3 v4 s0 A h
  · refine xg_aload_n (pc := 72) (i := 0) (r := v0) B dM_fill_72 rfl rfl ?_
    refine xg_geti (pc := 73) B dM_fill_73 flM_138 h (fun x1 ex1 h => ?_)
    refine xg_if_eq (pc := 76) (tgt := 88) B dM_fill_76 (by decide) h (fun c76 h => ?_) (fun c76 h => ?_)
    · refine xg_sub (ls' := [(0, xj_rv v0), (1, .int v1), (2, .int v2), (3, .int v3), (4, .int v4), (5, .int s0)]) [1, 2, 3, 4, 5, 0] rfl ?_
      exact wM_fill_88 hl B k24 hk24 v0 v1 v2 v3 v4 s0 A h
    · refine xg_aload_n (pc := 79) (i := 0) (r := v0) B dM_fill_79 rfl rfl ?_
      refine xg_iload (pc := 80) (i := 4) B dM_fill_80 rfl ?_
      obtain ⟨hq82, h⟩ := xj_rq_i h
      refine xg_ci (pc := 82) (av := [xj_rv v0, .int v4]) (st := []) (cy := prog_11_method_34_code) (nLy := 3) (rety := (some .boolean)) (hsy := []) B dM_fill_82 (xj_go_v B dM_fill_82 vwM_243 rfl hq82) (xj_vw_c vwM_243) (xj_vw_i vwM_243) (by decide) (by decide) (by decide) rfl (fun r9 h9 => cM_means hl _ _ _ r9 h9) h (fun x2 A3 eA3 h => ?_)
      refine xg_if_eq (pc := 85) (tgt := 105) B dM_fill_85 (by decide) h (fun c85 h => ?_) (fun c85 h => ?_)
      · refine xg_sub (ls' := [(0, xj_rv v0), (1, .int v1), (2, .int v2), (3, .int v3), (4, .int v4), (5, .int s0)]) [1, 2, 3, 4, 5, 0] rfl ?_
        exact wM_fill_105 hl B k24 hk24 v0 v1 v2 v3 v4 s0 A3 h
      · refine xg_sub (ls' := [(0, xj_rv v0), (1, .int v1), (2, .int v2), (3, .int v3), (4, .int v4), (5, .int s0)]) [1, 2, 3, 4, 5, 0] rfl ?_
        exact wM_fill_88 hl B k24 hk24 v0 v1 v2 v3 v4 s0 A3 h
theorem wM_fill_60 {l : Launch} (hl : l.stackTraces = false) {z : xj_F} (B : xj_B l yM_fill prog_11_method_36_code 6 none [] 4 z) (k24 : xj_Rf → Int32 → Int32 → Int32 → Int32 → xj_H → Option xj_R) (hk24 : ∀ (v0 : xj_Rf) (v1 : Int32) (v2 : Int32) (v3 : Int32) (v4 : Int32) (A : xj_H), k24 v0 v1 v2 v3 v4 A = some (xf_r z) → xj_W l z 24 [(0, xj_rv v0), (1, .int v1), (2, .int v2), (3, .int v3), (4, .int v4)] [] A) (v0 : xj_Rf) (v1 : Int32) (v2 : Int32) (v3 : Int32) (v4 : Int32) (A : xj_H) (h : fM_fill_60 k24 v0 v1 v2 v3 v4 A = some (xf_r z)) : xj_W l z 60 [(0, xj_rv v0), (1, .int v1), (2, .int v2), (3, .int v3), (4, .int v4)] [] A := by
  unfold fM_fill_60 at h
  refine xg_iconst (pc := 60) (v := 1) B dM_fill_60 (by decide) ?_
  refine xg_goto (pc := 61) (tgt := 65) B dM_fill_61 (by decide) ?_
  exact wM_fill_65 hl B k24 hk24 v0 v1 v2 v3 v4 (1 : Int32) A h
theorem wM_fill_24 {l : Launch} (hl : l.stackTraces = false) {z : xj_F} (B : xj_B l yM_fill prog_11_method_36_code 6 none [] 4 z) : ∀ (n : Nat) (v0 : xj_Rf) (v1 : Int32) (v2 : Int32) (v3 : Int32) (v4 : Int32) (A : xj_H), fM_fill_24 n v0 v1 v2 v3 v4 A = some (xf_r z) → xj_W l z 24 [(0, xj_rv v0), (1, .int v1), (2, .int v2), (3, .int v3), (4, .int v4)] [] A
  | 0, _, _, _, _, _, _, h => by simp [fM_fill_24] at h
  | n + 1, v0, v1, v2, v3, v4, A, h => by
    rw [fM_fill_24] at h
    refine xg_iload (pc := 24) (i := 4) B dM_fill_24 rfl ?_
    refine xg_aload_n (pc := 26) (i := 0) (r := v0) B dM_fill_26 rfl rfl ?_
    refine xg_geti (pc := 27) B dM_fill_27 flM_144 h (fun x1 ex1 h => ?_)
    refine xg_icmp_gt (pc := 30) (tgt := 128) B dM_fill_30 (by decide) h (fun c30 h => ?_) (fun c30 h => ?_)
    · refine xg_sub (ls' := [(0, xj_rv v0), (1, .int v1), (2, .int v2)]) [0, 1, 2] rfl ?_
      exact wM_fill_128 hl B v0 v1 v2 A h
    · refine xg_iload_n (pc := 33) (i := 2) B dM_fill_33 rfl rfl ?_
      refine xg_iload_n (pc := 34) (i := 3) B dM_fill_34 rfl rfl ?_
      refine xg_icmp_ge (pc := 35) (tgt := 128) B dM_fill_35 (by decide) h (fun c35 h => ?_) (fun c35 h => ?_)
      · refine xg_sub (ls' := [(0, xj_rv v0), (1, .int v1), (2, .int v2)]) [0, 1, 2] rfl ?_
        exact wM_fill_128 hl B v0 v1 v2 A h
      · refine xg_aload_n (pc := 38) (i := 0) (r := v0) B dM_fill_38 rfl rfl ?_
        refine xg_iload (pc := 39) (i := 4) B dM_fill_39 rfl ?_
        obtain ⟨hq41, h⟩ := xj_rq_v h
        refine xg_cv (pc := 41) (av := [xj_rv v0, .int v4]) (st := []) (cy := prog_11_method_6_code) (nLy := 5) (rety := none) (hsy := []) B dM_fill_41 (xj_go_v B dM_fill_41 vwM_236 rfl hq41) (xj_vw_c vwM_236) (xj_vw_i vwM_236) (by decide) (by decide) (by decide) rfl (fun r9 h9 => cM_split hl _ _ _ r9 h9) h (fun A2 eA2 h => ?_)
        refine xg_aload_n (pc := 44) (i := 0) (r := v0) B dM_fill_44 rfl rfl ?_
        refine xg_geti (pc := 45) B dM_fill_45 flM_138 h (fun x3 ex3 h => ?_)
        refine xg_if_eq (pc := 48) (tgt := 60) B dM_fill_48 (by decide) h (fun c48 h => ?_) (fun c48 h => ?_)
        · exact wM_fill_60 hl B (fM_fill_24 n) (wM_fill_24 hl B n) v0 v1 v2 v3 v4 A2 h
        · refine xg_aload_n (pc := 51) (i := 0) (r := v0) B dM_fill_51 rfl rfl ?_
          refine xg_iload (pc := 52) (i := 4) B dM_fill_52 rfl ?_
          obtain ⟨hq54, h⟩ := xj_rq_i h
          refine xg_ci (pc := 54) (av := [xj_rv v0, .int v4]) (st := []) (cy := prog_11_method_33_code) (nLy := 3) (rety := (some .boolean)) (hsy := []) B dM_fill_54 (xj_go_v B dM_fill_54 vwM_240 rfl hq54) (xj_vw_c vwM_240) (xj_vw_i vwM_240) (by decide) (by decide) (by decide) rfl (fun r9 h9 => cM_inPeriod hl _ _ _ r9 h9) h (fun x4 A5 eA5 h => ?_)
          refine xg_if_eq (pc := 57) (tgt := 64) B dM_fill_57 (by decide) h (fun c57 h => ?_) (fun c57 h => ?_)
          · refine xg_iconst (pc := 64) (v := 0) B dM_fill_64 (by decide) ?_
            exact wM_fill_65 hl B (fM_fill_24 n) (wM_fill_24 hl B n) v0 v1 v2 v3 v4 (0 : Int32) A5 h
          · exact wM_fill_60 hl B (fM_fill_24 n) (wM_fill_24 hl B n) v0 v1 v2 v3 v4 A5 h
theorem wM_fill_17 {l : Launch} (hl : l.stackTraces = false) {z : xj_F} (B : xj_B l yM_fill prog_11_method_36_code 6 none [] 4 z) (v0 : xj_Rf) (v1 : Int32) (v2 : Int32) (s0 : Int32) (A : xj_H) (h : fM_fill_17 v0 v1 v2 s0 A = some (xf_r z)) : xj_W l z 17 [(0, xj_rv v0), (1, .int v1), (2, .int v2)] [.int s0] A := by
  unfold fM_fill_17 at h
  refine xg_istore_n (pc := 17) (i := 3) (ls' := [(3, .int s0), (0, xj_rv v0), (1, .int v1), (2, .int v2)]) B dM_fill_17 rfl (by decide) ⟨xj_nq (a := 0) (i := 3) (by decide), xj_nq (a := 1) (i := 3) (by decide), fun _ => rfl, trivial⟩ rfl ?_
  refine xg_aload_n (pc := 18) (i := 0) (r := v0) B dM_fill_18 rfl rfl ?_
  refine xg_geti (pc := 19) B dM_fill_19 flM_218 h (fun x1 ex1 h => ?_)
  refine xg_istore (pc := 22) (i := 4) (ls' := [(4, .int x1), (3, .int s0), (0, xj_rv v0), (1, .int v1), (2, .int v2)]) B dM_fill_22 (by decide) ⟨fun _ => rfl, xj_nq (a := 0) (i := 4) (by decide), xj_nq (a := 1) (i := 4) (by decide), xj_nq (a := 2) (i := 4) (by decide), trivial⟩ rfl ?_
  refine xg_sub (ls' := [(0, xj_rv v0), (1, .int v1), (2, .int v2), (3, .int s0), (4, .int x1)]) [2, 3, 4, 1, 0] rfl ?_
  exact wM_fill_24 hl B xj_fu v0 v1 v2 s0 x1 A h
theorem wM_fill {l : Launch} (hl : l.stackTraces = false) {z : xj_F} (B : xj_B l yM_fill prog_11_method_36_code 6 none [] 4 z) (v0 : xj_Rf) (v1 : Int32) (A : xj_H) (h : fM_fill v0 v1 A = some (xf_r z)) : xj_W l z 0 [(0, xj_rv v0), (1, .int v1)] [] A := by
  unfold fM_fill at h
  refine xg_iconst (pc := 0) (v := 0) B dM_fill_0 (by decide) ?_
  refine xg_istore_n (pc := 1) (i := 2) (ls' := [(2, .int (0 : Int32)), (0, xj_rv v0), (1, .int v1)]) B dM_fill_1 rfl (by decide) ⟨xj_nq (a := 0) (i := 2) (by decide), fun _ => rfl, trivial⟩ rfl ?_
  refine xg_aload_n (pc := 2) (i := 0) (r := v0) B dM_fill_2 rfl rfl ?_
  refine xg_geti (pc := 3) B dM_fill_3 flM_138 h (fun x1 ex1 h => ?_)
  refine xg_if_ne (pc := 6) (tgt := 13) B dM_fill_6 (by decide) h (fun c6 h => ?_) (fun c6 h => ?_)
  · refine xg_aload_n (pc := 13) (i := 0) (r := v0) B dM_fill_13 rfl rfl ?_
    refine xg_geti (pc := 14) B dM_fill_14 flM_197 h (fun x2 ex2 h => ?_)
    refine xg_sub (ls' := [(0, xj_rv v0), (1, .int v1), (2, .int (0 : Int32))]) [1, 2, 0] rfl ?_
    exact wM_fill_17 hl B v0 v1 (0 : Int32) x2 A h
  · refine xg_iconst (pc := 9) (v := 1) B dM_fill_9 (by decide) ?_
    refine xg_goto (pc := 10) (tgt := 17) B dM_fill_10 (by decide) ?_
    refine xg_sub (ls' := [(0, xj_rv v0), (1, .int v1), (2, .int (0 : Int32))]) [1, 2, 0] rfl ?_
    exact wM_fill_17 hl B v0 v1 (0 : Int32) (1 : Int32) A h
theorem cM_fill {l : Launch} (hl : l.stackTraces = false) (v0 : xj_Rf) (v1 : Int32) (A : xj_H) (r : xj_R) (h : fM_fill v0 v1 A = some r) : xj_M l yM_fill prog_11_method_36_code 6 none [] 4 [xj_rv v0, .int v1] A r := by
  refine xj_M.of hl (by decide +kernel) (by simp [lg_sl, xj_ic, xj_lc, xj_rv_cat]) (fun z B hA hr => ?_)
  subst hr
  have hw := wM_fill hl B v0 v1 A h
  simpa [lv_args, xj_ic, xj_lc, xj_rv_cat] using hw
/-! RecurrenceBookModel.event(III)I -/
def fM_event_89 (v0 : xj_Rf) (v1 : Int32) (v2 : Int32) (v3 : Int32) (v4 : Int32) (s0 : Int32) (s1 : xj_Rf) (A : xj_H) : Option xj_R :=
  (xj_pv A s1 7 0 (.int s0)).bind fun A1 =>
  if ¬ v4 = 0 then
    xj_bv (xj_rq A1 v0 7 (fM_split v0 v1 A1)) fun A2 =>
    (xj_pv A2 v0 7 29 (.int v1)).bind fun A3 =>
    (xj_gi A3 v0 7 26).bind fun x4 =>
    (xj_pv A3 v0 7 30 (.int x4)).bind fun A5 =>
    (xj_gi A5 v0 7 27).bind fun x6 =>
    (xj_pv A5 v0 7 31 (.int x6)).bind fun A7 =>
    (xj_gi A7 v0 7 28).bind fun x8 =>
    (xj_pv A7 v0 7 32 (.int x8)).bind fun A9 =>
    (xj_gr A9 v0 7 8).bind fun x10 =>
    (xj_gi A9 v0 7 7).bind fun x11 =>
    (xj_as A9 x10 0 x11 v2).bind fun A12 =>
    (xj_gr A12 v0 7 9).bind fun x13 =>
    (xj_gi A12 v0 7 7).bind fun x14 =>
    (xj_as A12 x13 0 x14 v3).bind fun A15 =>
    (xj_gr A15 v0 7 13).bind fun x16 =>
    (xj_gi A15 v0 7 7).bind fun x17 =>
    (xj_as A15 x16 0 x17 (0 : Int32)).bind fun A18 =>
    (xj_gi A18 v0 7 7).bind fun x19 =>
    xj_bv (xj_rq A18 v0 7 (fM_fill v0 x19 A18)) fun A20 =>
    (xj_gi A20 v0 7 7).bind fun x21 =>
    (xj_pv A20 v0 7 7 (.int (x21 + (1 : Int32)))).bind fun A22 =>
    (xj_gi A22 v0 7 7).bind fun x23 =>
    some (.inl (some (.int (x23 - (1 : Int32)))), A22)
  else
    some (.inl (some (.int (0 : Int32))), A1)
def fM_event_71 (v0 : xj_Rf) (v1 : Int32) (v2 : Int32) (v3 : Int32) (s0 : Int32) (A : xj_H) : Option xj_R :=
  (xj_pv A v0 7 2 (.int (0 : Int32))).bind fun A1 =>
  if s0 = 0 then
    fM_event_89 v0 v1 v2 v3 s0 (2 : Int32) v0 A1
  else
    fM_event_89 v0 v1 v2 v3 s0 (0 : Int32) v0 A1
def fM_event_70 (v0 : xj_Rf) (v1 : Int32) (v2 : Int32) (v3 : Int32) (A : xj_H) : Option xj_R :=
  fM_event_71 v0 v1 v2 v3 (0 : Int32) A
def fM_event_15 (v0 : xj_Rf) (v1 : Int32) (v2 : Int32) (v3 : Int32) (s0 : Int32) (s1 : xj_Rf) (A : xj_H) : Option xj_R :=
  (xj_pv A s1 7 0 (.int s0)).bind fun A1 =>
  (xj_gi A1 v0 7 0).bind fun x2 =>
  if x2 ≤ 0 then
    xj_bi (fM_inside v1 (0 : Int32) (36524 : Int32) A1) fun x3 A4 =>
    if x3 = 0 then
      fM_event_70 v0 v1 v2 v3 A4
    else
      xj_bi (fM_inside v2 (0 : Int32) (1439 : Int32) A4) fun x5 A6 =>
      if x5 = 0 then
        fM_event_70 v0 v1 v2 v3 A6
      else
        xj_bi (fM_inside v3 (1 : Int32) (2880 : Int32) A6) fun x7 A8 =>
        if x7 = 0 then
          fM_event_70 v0 v1 v2 v3 A8
        else
          xj_bi (xj_rq A8 v0 7 (fM_readRule v0 A8)) fun x9 A10 =>
          if x9 = 0 then
            fM_event_70 v0 v1 v2 v3 A10
          else
            fM_event_71 v0 v1 v2 v3 (1 : Int32) A10
  else
    some (.inl (some (.int (0 : Int32))), A1)
def fM_event (v0 : xj_Rf) (v1 : Int32) (v2 : Int32) (v3 : Int32) (A : xj_H) : Option xj_R :=
  (xj_gi A v0 7 7).bind fun x1 =>
  if ¬ x1 = (8 : Int32) then
    fM_event_15 v0 v1 v2 v3 (0 : Int32) v0 A
  else
    fM_event_15 v0 v1 v2 v3 (1 : Int32) v0 A
theorem wM_event_89 {l : Launch} (hl : l.stackTraces = false) {z : xj_F} (B : xj_B l yM_event prog_11_method_37_code 5 (some .int) [] 7 z) (v0 : xj_Rf) (v1 : Int32) (v2 : Int32) (v3 : Int32) (v4 : Int32) (s0 : Int32) (s1 : xj_Rf) (A : xj_H) (h : fM_event_89 v0 v1 v2 v3 v4 s0 s1 A = some (xf_r z)) : xj_W l z 89 [(0, xj_rv v0), (1, .int v1), (2, .int v2), (3, .int v3), (4, .int v4)] [.int s0, xj_rv s1] A := by
  unfold fM_event_89 at h
  refine xg_puti (pc := 89) B dM_event_89 (fpM_60 _) h (fun A1 eA1 h => ?_)
  refine xg_iload (pc := 92) (i := 4) B dM_event_92 rfl ?_
  refine xg_if_ne (pc := 94) (tgt := 99) B dM_event_94 (by decide) h (fun c94 h => ?_) (fun c94 h => ?_)
  · refine xg_aload_n (pc := 99) (i := 0) (r := v0) B dM_event_99 rfl rfl ?_
    refine xg_iload_n (pc := 100) (i := 1) B dM_event_100 rfl rfl ?_
    obtain ⟨hq101, h⟩ := xj_rq_v h
    refine xg_cv (pc := 101) (av := [xj_rv v0, .int v1]) (st := []) (cy := prog_11_method_6_code) (nLy := 5) (rety := none) (hsy := []) B dM_event_101 (xj_go_v B dM_event_101 vwM_236 rfl hq101) (xj_vw_c vwM_236) (xj_vw_i vwM_236) (by decide) (by decide) (by decide) rfl (fun r9 h9 => cM_split hl _ _ _ r9 h9) h (fun A2 eA2 h => ?_)
    refine xg_aload_n (pc := 104) (i := 0) (r := v0) B dM_event_104 rfl rfl ?_
    refine xg_iload_n (pc := 105) (i := 1) B dM_event_105 rfl rfl ?_
    refine xg_puti (pc := 106) B dM_event_106 (fpM_218 _) h (fun A3 eA3 h => ?_)
    refine xg_aload_n (pc := 109) (i := 0) (r := v0) B dM_event_109 rfl rfl ?_
    refine xg_aload_n (pc := 110) (i := 0) (r := v0) B dM_event_110 rfl rfl ?_
    refine xg_geti (pc := 111) B dM_event_111 flM_64 h (fun x4 ex4 h => ?_)
    refine xg_puti (pc := 114) B dM_event_114 (fpM_221 _) h (fun A5 eA5 h => ?_)
    refine xg_aload_n (pc := 117) (i := 0) (r := v0) B dM_event_117 rfl rfl ?_
    refine xg_aload_n (pc := 118) (i := 0) (r := v0) B dM_event_118 rfl rfl ?_
    refine xg_geti (pc := 119) B dM_event_119 flM_71 h (fun x6 ex6 h => ?_)
    refine xg_puti (pc := 122) B dM_event_122 (fpM_224 _) h (fun A7 eA7 h => ?_)
    refine xg_aload_n (pc := 125) (i := 0) (r := v0) B dM_event_125 rfl rfl ?_
    refine xg_aload_n (pc := 126) (i := 0) (r := v0) B dM_event_126 rfl rfl ?_
    refine xg_geti (pc := 127) B dM_event_127 flM_78 h (fun x8 ex8 h => ?_)
    refine xg_puti (pc := 130) B dM_event_130 (fpM_230 _) h (fun A9 eA9 h => ?_)
    refine xg_aload_n (pc := 133) (i := 0) (r := v0) B dM_event_133 rfl rfl ?_
    refine xg_getr (pc := 134) B dM_event_134 flM_19 h (fun x10 ex10 h => ?_)
    refine xg_aload_n (pc := 137) (i := 0) (r := v0) B dM_event_137 rfl rfl ?_
    refine xg_geti (pc := 138) B dM_event_138 flM_249 h (fun x11 ex11 h => ?_)
    refine xg_iload_n (pc := 141) (i := 2) B dM_event_141 rfl rfl ?_
    refine xg_iastore (pc := 142) B dM_event_142 h (fun A12 eA12 h => ?_)
    refine xg_aload_n (pc := 143) (i := 0) (r := v0) B dM_event_143 rfl rfl ?_
    refine xg_getr (pc := 144) B dM_event_144 flM_22 h (fun x13 ex13 h => ?_)
    refine xg_aload_n (pc := 147) (i := 0) (r := v0) B dM_event_147 rfl rfl ?_
    refine xg_geti (pc := 148) B dM_event_148 flM_249 h (fun x14 ex14 h => ?_)
    refine xg_iload_n (pc := 151) (i := 3) B dM_event_151 rfl rfl ?_
    refine xg_iastore (pc := 152) B dM_event_152 h (fun A15 eA15 h => ?_)
    refine xg_aload_n (pc := 153) (i := 0) (r := v0) B dM_event_153 rfl rfl ?_
    refine xg_getr (pc := 154) B dM_event_154 flM_34 h (fun x16 ex16 h => ?_)
    refine xg_aload_n (pc := 157) (i := 0) (r := v0) B dM_event_157 rfl rfl ?_
    refine xg_geti (pc := 158) B dM_event_158 flM_249 h (fun x17 ex17 h => ?_)
    refine xg_iconst (pc := 161) (v := 0) B dM_event_161 (by decide) ?_
    refine xg_iastore (pc := 162) B dM_event_162 h (fun A18 eA18 h => ?_)
    refine xg_aload_n (pc := 163) (i := 0) (r := v0) B dM_event_163 rfl rfl ?_
    refine xg_aload_n (pc := 164) (i := 0) (r := v0) B dM_event_164 rfl rfl ?_
    refine xg_geti (pc := 165) B dM_event_165 flM_249 h (fun x19 ex19 h => ?_)
    obtain ⟨hq168, h⟩ := xj_rq_v h
    refine xg_cv (pc := 168) (av := [xj_rv v0, .int x19]) (st := []) (cy := prog_11_method_36_code) (nLy := 6) (rety := none) (hsy := []) B dM_event_168 (xj_go_v B dM_event_168 vwM_255 rfl hq168) (xj_vw_c vwM_255) (xj_vw_i vwM_255) (by decide) (by decide) (by decide) rfl (fun r9 h9 => cM_fill hl _ _ _ r9 h9) h (fun A20 eA20 h => ?_)
    refine xg_aload_n (pc := 171) (i := 0) (r := v0) B dM_event_171 rfl rfl ?_
    refine xg_dup (pc := 172) B dM_event_172 (xj_rv_cat v0) ?_
    refine xg_geti (pc := 173) B dM_event_173 flM_249 h (fun x21 ex21 h => ?_)
    refine xg_iconst (pc := 176) (v := 1) B dM_event_176 (by decide) ?_
    refine xg_iadd (pc := 177) B dM_event_177 ?_
    refine xg_puti (pc := 178) B dM_event_178 (fpM_249 _) h (fun A22 eA22 h => ?_)
    refine xg_aload_n (pc := 181) (i := 0) (r := v0) B dM_event_181 rfl rfl ?_
    refine xg_geti (pc := 182) B dM_event_182 flM_249 h (fun x23 ex23 h => ?_)
    refine xg_iconst (pc := 185) (v := 1) B dM_event_185 (by decide) ?_
    refine xg_isub (pc := 186) B dM_event_186 ?_
    exact xg_iret B dM_event_187 h
  · refine xg_iconst (pc := 97) (v := 0) B dM_event_97 (by decide) ?_
    exact xg_iret B dM_event_98 h
theorem wM_event_71 {l : Launch} (hl : l.stackTraces = false) {z : xj_F} (B : xj_B l yM_event prog_11_method_37_code 5 (some .int) [] 7 z) (v0 : xj_Rf) (v1 : Int32) (v2 : Int32) (v3 : Int32) (s0 : Int32) (A : xj_H) (h : fM_event_71 v0 v1 v2 v3 s0 A = some (xf_r z)) : xj_W l z 71 [(0, xj_rv v0), (1, .int v1), (2, .int v2), (3, .int v3)] [.int s0] A := by
  unfold fM_event_71 at h
  refine xg_istore (pc := 71) (i := 4) (ls' := [(4, .int s0), (0, xj_rv v0), (1, .int v1), (2, .int v2), (3, .int v3)]) B dM_event_71 (by decide) ⟨xj_nq (a := 0) (i := 4) (by decide), xj_nq (a := 1) (i := 4) (by decide), xj_nq (a := 2) (i := 4) (by decide), fun _ => rfl, trivial⟩ rfl ?_
  refine xg_aload_n (pc := 73) (i := 0) (r := v0) B dM_event_73 rfl rfl ?_
  refine xg_iconst (pc := 74) (v := 0) B dM_event_74 (by decide) ?_
  refine xg_puti (pc := 75) B dM_event_75 (fpM_112 _) h (fun A1 eA1 h => ?_)
  refine xg_aload_n (pc := 78) (i := 0) (r := v0) B dM_event_78 rfl rfl ?_
  refine xg_iload (pc := 79) (i := 4) B dM_event_79 rfl ?_
  refine xg_if_eq (pc := 81) (tgt := 88) B dM_event_81 (by decide) h (fun c81 h => ?_) (fun c81 h => ?_)
  · refine xg_iconst (pc := 88) (v := 2) B dM_event_88 (by decide) ?_
    refine xg_sub (ls' := [(0, xj_rv v0), (1, .int v1), (2, .int v2), (3, .int v3), (4, .int s0)]) [1, 2, 3, 4, 0] rfl ?_
    exact wM_event_89 hl B v0 v1 v2 v3 s0 (2 : Int32) v0 A1 h
  · refine xg_iconst (pc := 84) (v := 0) B dM_event_84 (by decide) ?_
    refine xg_goto (pc := 85) (tgt := 89) B dM_event_85 (by decide) ?_
    refine xg_sub (ls' := [(0, xj_rv v0), (1, .int v1), (2, .int v2), (3, .int v3), (4, .int s0)]) [1, 2, 3, 4, 0] rfl ?_
    exact wM_event_89 hl B v0 v1 v2 v3 s0 (0 : Int32) v0 A1 h
theorem wM_event_70 {l : Launch} (hl : l.stackTraces = false) {z : xj_F} (B : xj_B l yM_event prog_11_method_37_code 5 (some .int) [] 7 z) (v0 : xj_Rf) (v1 : Int32) (v2 : Int32) (v3 : Int32) (A : xj_H) (h : fM_event_70 v0 v1 v2 v3 A = some (xf_r z)) : xj_W l z 70 [(0, xj_rv v0), (1, .int v1), (2, .int v2), (3, .int v3)] [] A := by
  unfold fM_event_70 at h
  refine xg_iconst (pc := 70) (v := 0) B dM_event_70 (by decide) ?_
  exact wM_event_71 hl B v0 v1 v2 v3 (0 : Int32) A h
theorem wM_event_15 {l : Launch} (hl : l.stackTraces = false) {z : xj_F} (B : xj_B l yM_event prog_11_method_37_code 5 (some .int) [] 7 z) (v0 : xj_Rf) (v1 : Int32) (v2 : Int32) (v3 : Int32) (s0 : Int32) (s1 : xj_Rf) (A : xj_H) (h : fM_event_15 v0 v1 v2 v3 s0 s1 A = some (xf_r z)) : xj_W l z 15 [(0, xj_rv v0), (1, .int v1), (2, .int v2), (3, .int v3)] [.int s0, xj_rv s1] A := by
  unfold fM_event_15 at h
  refine xg_puti (pc := 15) B dM_event_15 (fpM_60 _) h (fun A1 eA1 h => ?_)
  refine xg_aload_n (pc := 18) (i := 0) (r := v0) B dM_event_18 rfl rfl ?_
  refine xg_geti (pc := 19) B dM_event_19 flM_60 h (fun x2 ex2 h => ?_)
  refine xg_if_le (pc := 22) (tgt := 27) B dM_event_22 (by decide) h (fun c22 h => ?_) (fun c22 h => ?_)
  · refine xg_iload_n (pc := 27) (i := 1) B dM_event_27 rfl rfl ?_
    refine xg_iconst (pc := 28) (v := 0) B dM_event_28 (by decide) ?_
    refine xg_ldc (pc := 29) (v := 36524) B dM_event_29 kM_214 ?_
    refine xg_ci (pc := 31) (av := [.int v1, .int (0 : Int32), .int (36524 : Int32)]) (st := []) (cy := prog_11_method_13_code) (nLy := 3) (rety := (some .boolean)) (hsy := []) B dM_event_31 (xj_go_s B dM_event_31 swM_101 rfl) swM_101.2.2.1 swM_101.2.2.2.1 (by decide) (by decide) (by decide) rfl (fun r9 h9 => cM_inside hl _ _ _ _ r9 h9) h (fun x3 A4 eA4 h => ?_)
    refine xg_if_eq (pc := 34) (tgt := 70) B dM_event_34 (by decide) h (fun c34 h => ?_) (fun c34 h => ?_)
    · exact wM_event_70 hl B v0 v1 v2 v3 A4 h
    · refine xg_iload_n (pc := 37) (i := 2) B dM_event_37 rfl rfl ?_
      refine xg_iconst (pc := 38) (v := 0) B dM_event_38 (by decide) ?_
      refine xg_sipush (pc := 39) (v := 1439) B dM_event_39 (by decide) ?_
      refine xg_ci (pc := 42) (av := [.int v2, .int (0 : Int32), .int (1439 : Int32)]) (st := []) (cy := prog_11_method_13_code) (nLy := 3) (rety := (some .boolean)) (hsy := []) B dM_event_42 (xj_go_s B dM_event_42 swM_101 rfl) swM_101.2.2.1 swM_101.2.2.2.1 (by decide) (by decide) (by decide) rfl (fun r9 h9 => cM_inside hl _ _ _ _ r9 h9) h (fun x5 A6 eA6 h => ?_)
      refine xg_if_eq (pc := 45) (tgt := 70) B dM_event_45 (by decide) h (fun c45 h => ?_) (fun c45 h => ?_)
      · exact wM_event_70 hl B v0 v1 v2 v3 A6 h
      · refine xg_iload_n (pc := 48) (i := 3) B dM_event_48 rfl rfl ?_
        refine xg_iconst (pc := 49) (v := 1) B dM_event_49 (by decide) ?_
        refine xg_sipush (pc := 50) (v := 2880) B dM_event_50 (by decide) ?_
        refine xg_ci (pc := 53) (av := [.int v3, .int (1 : Int32), .int (2880 : Int32)]) (st := []) (cy := prog_11_method_13_code) (nLy := 3) (rety := (some .boolean)) (hsy := []) B dM_event_53 (xj_go_s B dM_event_53 swM_101 rfl) swM_101.2.2.1 swM_101.2.2.2.1 (by decide) (by decide) (by decide) rfl (fun r9 h9 => cM_inside hl _ _ _ _ r9 h9) h (fun x7 A8 eA8 h => ?_)
        refine xg_if_eq (pc := 56) (tgt := 70) B dM_event_56 (by decide) h (fun c56 h => ?_) (fun c56 h => ?_)
        · exact wM_event_70 hl B v0 v1 v2 v3 A8 h
        · refine xg_aload_n (pc := 59) (i := 0) (r := v0) B dM_event_59 rfl rfl ?_
          obtain ⟨hq60, h⟩ := xj_rq_i h
          refine xg_ci (pc := 60) (av := [xj_rv v0]) (st := []) (cy := prog_11_method_30_code) (nLy := 5) (rety := (some .boolean)) (hsy := []) B dM_event_60 (xj_go_v B dM_event_60 vwM_252 rfl hq60) (xj_vw_c vwM_252) (xj_vw_i vwM_252) (by decide) (by decide) (by decide) rfl (fun r9 h9 => cM_readRule hl _ _ r9 h9) h (fun x9 A10 eA10 h => ?_)
          refine xg_if_eq (pc := 63) (tgt := 70) B dM_event_63 (by decide) h (fun c63 h => ?_) (fun c63 h => ?_)
          · exact wM_event_70 hl B v0 v1 v2 v3 A10 h
          · refine xg_iconst (pc := 66) (v := 1) B dM_event_66 (by decide) ?_
            refine xg_goto (pc := 67) (tgt := 71) B dM_event_67 (by decide) ?_
            exact wM_event_71 hl B v0 v1 v2 v3 (1 : Int32) A10 h
  · refine xg_iconst (pc := 25) (v := 0) B dM_event_25 (by decide) ?_
    exact xg_iret B dM_event_26 h
theorem wM_event {l : Launch} (hl : l.stackTraces = false) {z : xj_F} (B : xj_B l yM_event prog_11_method_37_code 5 (some .int) [] 7 z) (v0 : xj_Rf) (v1 : Int32) (v2 : Int32) (v3 : Int32) (A : xj_H) (h : fM_event v0 v1 v2 v3 A = some (xf_r z)) : xj_W l z 0 [(0, xj_rv v0), (1, .int v1), (2, .int v2), (3, .int v3)] [] A := by
  unfold fM_event at h
  refine xg_aload_n (pc := 0) (i := 0) (r := v0) B dM_event_0 rfl rfl ?_
  refine xg_aload_n (pc := 1) (i := 0) (r := v0) B dM_event_1 rfl rfl ?_
  refine xg_geti (pc := 2) B dM_event_2 flM_249 h (fun x1 ex1 h => ?_)
  refine xg_bipush (pc := 5) (v := 8) B dM_event_5 (by decide) ?_
  refine xg_icmp_ne (pc := 7) (tgt := 14) B dM_event_7 (by decide) h (fun c7 h => ?_) (fun c7 h => ?_)
  · refine xg_iconst (pc := 14) (v := 0) B dM_event_14 (by decide) ?_
    exact wM_event_15 hl B v0 v1 v2 v3 (0 : Int32) v0 A h
  · refine xg_iconst (pc := 10) (v := 1) B dM_event_10 (by decide) ?_
    refine xg_goto (pc := 11) (tgt := 15) B dM_event_11 (by decide) ?_
    exact wM_event_15 hl B v0 v1 v2 v3 (1 : Int32) v0 A h
theorem cM_event {l : Launch} (hl : l.stackTraces = false) (v0 : xj_Rf) (v1 : Int32) (v2 : Int32) (v3 : Int32) (A : xj_H) (r : xj_R) (h : fM_event v0 v1 v2 v3 A = some r) : xj_M l yM_event prog_11_method_37_code 5 (some .int) [] 7 [xj_rv v0, .int v1, .int v2, .int v3] A r := by
  refine xj_M.of hl (by decide +kernel) (by simp [lg_sl, xj_ic, xj_lc, xj_rv_cat]) (fun z B hA hr => ?_)
  subst hr
  have hw := wM_event hl B v0 v1 v2 v3 A h
  simpa [lv_args, xj_ic, xj_lc, xj_rv_cat] using hw
/-! RecurrenceBookModel.isExcluded(II)Z -/
def fM_isExcluded_41 (k5 : xj_Rf → Int32 → Int32 → Int32 → Int32 → xj_H → Option xj_R) (v0 : xj_Rf) (v1 : Int32) (v2 : Int32) (v4 : Int32) (s0 : Int32) (A : xj_H) : Option xj_R :=
  k5 v0 v1 v2 s0 (v4 + 1) A
def fM_isExcluded_36 (k5 : xj_Rf → Int32 → Int32 → Int32 → Int32 → xj_H → Option xj_R) (v0 : xj_Rf) (v1 : Int32) (v2 : Int32) (v4 : Int32) (A : xj_H) : Option xj_R :=
  fM_isExcluded_41 k5 v0 v1 v2 v4 (1 : Int32) A
def fM_isExcluded_5 : Nat → xj_Rf → Int32 → Int32 → Int32 → Int32 → xj_H → Option xj_R
  | 0, _, _, _, _, _, _ => none
  | n + 1, v0, v1, v2, v3, v4, A =>
    (xj_gr A v0 7 13).bind fun x1 =>
    (xj_ai A x1 0 v1).bind fun x2 =>
    if x2 ≤ v4 then
      xj_rz v3 A
    else
      if ¬ v3 = 0 then
        fM_isExcluded_36 (fM_isExcluded_5 n) v0 v1 v2 v4 A
      else
        (xj_gr A v0 7 12).bind fun x3 =>
        (xj_ai A x3 0 (((12 : Int32) * v1) + v4)).bind fun x4 =>
        if ¬ x4 = v2 then
          fM_isExcluded_41 (fM_isExcluded_5 n) v0 v1 v2 v4 (0 : Int32) A
        else
          fM_isExcluded_36 (fM_isExcluded_5 n) v0 v1 v2 v4 A
def fM_isExcluded (v0 : xj_Rf) (v1 : Int32) (v2 : Int32) (A : xj_H) : Option xj_R :=
  fM_isExcluded_5 xj_fu v0 v1 v2 (0 : Int32) (0 : Int32) A
theorem wM_isExcluded_41 {l : Launch} (hl : l.stackTraces = false) {z : xj_F} (B : xj_B l yM_isExcluded prog_11_method_38_code 5 (some .boolean) [] 1 z) (k5 : xj_Rf → Int32 → Int32 → Int32 → Int32 → xj_H → Option xj_R) (hk5 : ∀ (v0 : xj_Rf) (v1 : Int32) (v2 : Int32) (v3 : Int32) (v4 : Int32) (A : xj_H), k5 v0 v1 v2 v3 v4 A = some (xf_r z) → xj_W l z 5 [(0, xj_rv v0), (1, .int v1), (2, .int v2), (3, .int v3), (4, .int v4)] [] A) (v0 : xj_Rf) (v1 : Int32) (v2 : Int32) (v4 : Int32) (s0 : Int32) (A : xj_H) (h : fM_isExcluded_41 k5 v0 v1 v2 v4 s0 A = some (xf_r z)) : xj_W l z 41 [(0, xj_rv v0), (1, .int v1), (2, .int v2), (4, .int v4)] [.int s0] A := by
  unfold fM_isExcluded_41 at h
  refine xg_istore_n (pc := 41) (i := 3) (ls' := [(3, .int s0), (0, xj_rv v0), (1, .int v1), (2, .int v2), (4, .int v4)]) B dM_isExcluded_41 rfl (by decide) ⟨xj_nq (a := 0) (i := 3) (by decide), xj_nq (a := 1) (i := 3) (by decide), fun _ => rfl, xj_nq (a := 4) (i := 3) (by decide), trivial⟩ rfl ?_
  refine xg_iinc (pc := 42) (i := 4) (v := (v4 + 1)) (ls' := [(4, .int (v4 + 1)), (3, .int s0), (0, xj_rv v0), (1, .int v1), (2, .int v2)]) B dM_isExcluded_42 rfl (xj_inc_1 _) (by decide) ⟨fun _ => rfl, xj_nq (a := 0) (i := 4) (by decide), xj_nq (a := 1) (i := 4) (by decide), xj_nq (a := 2) (i := 4) (by decide), xj_nq (a := 4) (i := 4) (by decide), trivial⟩ rfl ?_
  refine xg_goto (pc := 45) (tgt := 5) B dM_isExcluded_45 (by decide) ?_
  refine xg_sub (ls' := [(0, xj_rv v0), (1, .int v1), (2, .int v2), (3, .int s0), (4, .int (v4 + 1))]) [2, 3, 4, 1, 0] rfl ?_
  exact hk5 v0 v1 v2 s0 (v4 + 1) A h
theorem wM_isExcluded_36 {l : Launch} (hl : l.stackTraces = false) {z : xj_F} (B : xj_B l yM_isExcluded prog_11_method_38_code 5 (some .boolean) [] 1 z) (k5 : xj_Rf → Int32 → Int32 → Int32 → Int32 → xj_H → Option xj_R) (hk5 : ∀ (v0 : xj_Rf) (v1 : Int32) (v2 : Int32) (v3 : Int32) (v4 : Int32) (A : xj_H), k5 v0 v1 v2 v3 v4 A = some (xf_r z) → xj_W l z 5 [(0, xj_rv v0), (1, .int v1), (2, .int v2), (3, .int v3), (4, .int v4)] [] A) (v0 : xj_Rf) (v1 : Int32) (v2 : Int32) (v4 : Int32) (A : xj_H) (h : fM_isExcluded_36 k5 v0 v1 v2 v4 A = some (xf_r z)) : xj_W l z 36 [(0, xj_rv v0), (1, .int v1), (2, .int v2), (4, .int v4)] [] A := by
  unfold fM_isExcluded_36 at h
  refine xg_iconst (pc := 36) (v := 1) B dM_isExcluded_36 (by decide) ?_
  refine xg_goto (pc := 37) (tgt := 41) B dM_isExcluded_37 (by decide) ?_
  exact wM_isExcluded_41 hl B k5 hk5 v0 v1 v2 v4 (1 : Int32) A h
theorem wM_isExcluded_5 {l : Launch} (hl : l.stackTraces = false) {z : xj_F} (B : xj_B l yM_isExcluded prog_11_method_38_code 5 (some .boolean) [] 1 z) : ∀ (n : Nat) (v0 : xj_Rf) (v1 : Int32) (v2 : Int32) (v3 : Int32) (v4 : Int32) (A : xj_H), fM_isExcluded_5 n v0 v1 v2 v3 v4 A = some (xf_r z) → xj_W l z 5 [(0, xj_rv v0), (1, .int v1), (2, .int v2), (3, .int v3), (4, .int v4)] [] A
  | 0, _, _, _, _, _, _, h => by simp [fM_isExcluded_5] at h
  | n + 1, v0, v1, v2, v3, v4, A, h => by
    rw [fM_isExcluded_5] at h
    refine xg_iload (pc := 5) (i := 4) B dM_isExcluded_5 rfl ?_
    refine xg_aload_n (pc := 7) (i := 0) (r := v0) B dM_isExcluded_7 rfl rfl ?_
    refine xg_getr (pc := 8) B dM_isExcluded_8 flM_34 h (fun x1 ex1 h => ?_)
    refine xg_iload_n (pc := 11) (i := 1) B dM_isExcluded_11 rfl rfl ?_
    refine xg_iaload (pc := 12) B dM_isExcluded_12 h (fun x2 ex2 h => ?_)
    refine xg_icmp_ge (pc := 13) (tgt := 48) B dM_isExcluded_13 (by decide) h (fun c13 h => ?_) (fun c13 h => ?_)
    · refine xg_iload_n (pc := 48) (i := 3) B dM_isExcluded_48 rfl rfl ?_
      exact xg_zret B dM_isExcluded_49 h
    · refine xg_iload_n (pc := 16) (i := 3) B dM_isExcluded_16 rfl rfl ?_
      refine xg_if_ne (pc := 17) (tgt := 36) B dM_isExcluded_17 (by decide) h (fun c17 h => ?_) (fun c17 h => ?_)
      · refine xg_sub (ls' := [(0, xj_rv v0), (1, .int v1), (2, .int v2), (4, .int v4)]) [0, 1, 2, 4] rfl ?_
        exact wM_isExcluded_36 hl B (fM_isExcluded_5 n) (wM_isExcluded_5 hl B n) v0 v1 v2 v4 A h
      · refine xg_aload_n (pc := 20) (i := 0) (r := v0) B dM_isExcluded_20 rfl rfl ?_
        refine xg_getr (pc := 21) B dM_isExcluded_21 flM_31 h (fun x3 ex3 h => ?_)
        refine xg_bipush (pc := 24) (v := 12) B dM_isExcluded_24 (by decide) ?_
        refine xg_iload_n (pc := 26) (i := 1) B dM_isExcluded_26 rfl rfl ?_
        refine xg_imul (pc := 27) B dM_isExcluded_27 ?_
        refine xg_iload (pc := 28) (i := 4) B dM_isExcluded_28 rfl ?_
        refine xg_iadd (pc := 30) B dM_isExcluded_30 ?_
        refine xg_iaload (pc := 31) B dM_isExcluded_31 h (fun x4 ex4 h => ?_)
        refine xg_iload_n (pc := 32) (i := 2) B dM_isExcluded_32 rfl rfl ?_
        refine xg_icmp_ne (pc := 33) (tgt := 40) B dM_isExcluded_33 (by decide) h (fun c33 h => ?_) (fun c33 h => ?_)
        · refine xg_iconst (pc := 40) (v := 0) B dM_isExcluded_40 (by decide) ?_
          refine xg_sub (ls' := [(0, xj_rv v0), (1, .int v1), (2, .int v2), (4, .int v4)]) [0, 1, 2, 4] rfl ?_
          exact wM_isExcluded_41 hl B (fM_isExcluded_5 n) (wM_isExcluded_5 hl B n) v0 v1 v2 v4 (0 : Int32) A h
        · refine xg_sub (ls' := [(0, xj_rv v0), (1, .int v1), (2, .int v2), (4, .int v4)]) [0, 1, 2, 4] rfl ?_
          exact wM_isExcluded_36 hl B (fM_isExcluded_5 n) (wM_isExcluded_5 hl B n) v0 v1 v2 v4 A h
theorem wM_isExcluded {l : Launch} (hl : l.stackTraces = false) {z : xj_F} (B : xj_B l yM_isExcluded prog_11_method_38_code 5 (some .boolean) [] 1 z) (v0 : xj_Rf) (v1 : Int32) (v2 : Int32) (A : xj_H) (h : fM_isExcluded v0 v1 v2 A = some (xf_r z)) : xj_W l z 0 [(0, xj_rv v0), (1, .int v1), (2, .int v2)] [] A := by
  unfold fM_isExcluded at h
  refine xg_iconst (pc := 0) (v := 0) B dM_isExcluded_0 (by decide) ?_
  refine xg_istore_n (pc := 1) (i := 3) (ls' := [(3, .int (0 : Int32)), (0, xj_rv v0), (1, .int v1), (2, .int v2)]) B dM_isExcluded_1 rfl (by decide) ⟨xj_nq (a := 0) (i := 3) (by decide), xj_nq (a := 1) (i := 3) (by decide), fun _ => rfl, trivial⟩ rfl ?_
  refine xg_iconst (pc := 2) (v := 0) B dM_isExcluded_2 (by decide) ?_
  refine xg_istore (pc := 3) (i := 4) (ls' := [(4, .int (0 : Int32)), (3, .int (0 : Int32)), (0, xj_rv v0), (1, .int v1), (2, .int v2)]) B dM_isExcluded_3 (by decide) ⟨fun _ => rfl, xj_nq (a := 0) (i := 4) (by decide), xj_nq (a := 1) (i := 4) (by decide), xj_nq (a := 2) (i := 4) (by decide), trivial⟩ rfl ?_
  refine xg_sub (ls' := [(0, xj_rv v0), (1, .int v1), (2, .int v2), (3, .int (0 : Int32)), (4, .int (0 : Int32))]) [2, 3, 4, 1, 0] rfl ?_
  exact wM_isExcluded_5 hl B xj_fu v0 v1 v2 (0 : Int32) (0 : Int32) A h
theorem cM_isExcluded {l : Launch} (hl : l.stackTraces = false) (v0 : xj_Rf) (v1 : Int32) (v2 : Int32) (A : xj_H) (r : xj_R) (h : fM_isExcluded v0 v1 v2 A = some r) : xj_M l yM_isExcluded prog_11_method_38_code 5 (some .boolean) [] 1 [xj_rv v0, .int v1, .int v2] A r := by
  refine xj_M.of hl (by decide +kernel) (by simp [lg_sl, xj_ic, xj_lc, xj_rv_cat]) (fun z B hA hr => ?_)
  subst hr
  have hw := wM_isExcluded hl B v0 v1 v2 A h
  simpa [lv_args, xj_ic, xj_lc, xj_rv_cat] using hw
/-! RecurrenceBookModel.exclude(II)Z -/
def fM_exclude_99 (A : xj_H) : Option xj_R :=
  xj_rz (0 : Int32) A
def fM_exclude_68 (k31 : xj_Rf → Int32 → Int32 → Int32 → Int32 → xj_H → Option xj_R) (v0 : xj_Rf) (v1 : Int32) (v2 : Int32) (v4 : Int32) (s0 : Int32) (A : xj_H) : Option xj_R :=
  k31 v0 v1 v2 s0 (v4 + 1) A
def fM_exclude_63 (k31 : xj_Rf → Int32 → Int32 → Int32 → Int32 → xj_H → Option xj_R) (v0 : xj_Rf) (v1 : Int32) (v2 : Int32) (v4 : Int32) (A : xj_H) : Option xj_R :=
  fM_exclude_68 k31 v0 v1 v2 v4 (1 : Int32) A
def fM_exclude_31 : Nat → xj_Rf → Int32 → Int32 → Int32 → Int32 → xj_H → Option xj_R
  | 0, _, _, _, _, _, _ => none
  | n + 1, v0, v1, v2, v3, v4, A =>
    (xj_gr A v0 7 11).bind fun x1 =>
    (xj_ai A x1 0 v1).bind fun x2 =>
    if x2 ≤ v4 then
      if v3 = 0 then
        fM_exclude_99  A
      else
        (xj_gr A v0 7 13).bind fun x3 =>
        (xj_ai A x3 0 v1).bind fun x4 =>
        if x4 = (12 : Int32) then
          fM_exclude_99  A
        else
          xj_bi (xj_rq A v0 7 (fM_isExcluded v0 v1 v2 A)) fun x5 A6 =>
          if x5 = 0 then
            (xj_gr A6 v0 7 12).bind fun x7 =>
            (xj_gr A6 v0 7 13).bind fun x8 =>
            (xj_ai A6 x8 0 v1).bind fun x9 =>
            (xj_as A6 x7 0 (((12 : Int32) * v1) + x9) v2).bind fun A10 =>
            (xj_gr A10 v0 7 13).bind fun x11 =>
            (xj_ai A10 x11 0 v1).bind fun x12 =>
            (xj_as A10 x11 0 v1 (x12 + (1 : Int32))).bind fun A13 =>
            xj_rz (1 : Int32) A13
          else
            fM_exclude_99  A6
    else
      if ¬ v3 = 0 then
        fM_exclude_63 (fM_exclude_31 n) v0 v1 v2 v4 A
      else
        (xj_gr A v0 7 10).bind fun x14 =>
        (xj_ai A x14 0 (((200 : Int32) * v1) + v4)).bind fun x15 =>
        if ¬ x15 = v2 then
          fM_exclude_68 (fM_exclude_31 n) v0 v1 v2 v4 (0 : Int32) A
        else
          fM_exclude_63 (fM_exclude_31 n) v0 v1 v2 v4 A
def fM_exclude_18 (v0 : xj_Rf) (v1 : Int32) (v2 : Int32) (s0 : Int32) (s1 : xj_Rf) (A : xj_H) : Option xj_R :=
  xj_bi (xj_rq A s1 7 (fM_fails s1 s0 A)) fun x1 A2 =>
  if x1 = 0 then
    fM_exclude_31 xj_fu v0 v1 v2 (0 : Int32) (0 : Int32) A2
  else
    xj_rz (0 : Int32) A2
def fM_exclude_13 (v0 : xj_Rf) (v1 : Int32) (v2 : Int32) (s0 : xj_Rf) (A : xj_H) : Option xj_R :=
  fM_exclude_18 v0 v1 v2 (1 : Int32) s0 A
def fM_exclude (v0 : xj_Rf) (v1 : Int32) (v2 : Int32) (A : xj_H) : Option xj_R :=
  if v1 < 0 then
    fM_exclude_13 v0 v1 v2 v0 A
  else
    (xj_gi A v0 7 7).bind fun x1 =>
    if v1 < x1 then
      fM_exclude_18 v0 v1 v2 (0 : Int32) v0 A
    else
      fM_exclude_13 v0 v1 v2 v0 A
theorem wM_exclude_99 {l : Launch} (hl : l.stackTraces = false) {z : xj_F} (B : xj_B l yM_exclude prog_11_method_39_code 5 (some .boolean) [] 2 z) (A : xj_H) (h : fM_exclude_99  A = some (xf_r z)) : xj_W l z 99 [] [] A := by
  unfold fM_exclude_99 at h
  refine xg_iconst (pc := 99) (v := 0) B dM_exclude_99 (by decide) ?_
  exact xg_zret B dM_exclude_100 h
theorem wM_exclude_68 {l : Launch} (hl : l.stackTraces = false) {z : xj_F} (B : xj_B l yM_exclude prog_11_method_39_code 5 (some .boolean) [] 2 z) (k31 : xj_Rf → Int32 → Int32 → Int32 → Int32 → xj_H → Option xj_R) (hk31 : ∀ (v0 : xj_Rf) (v1 : Int32) (v2 : Int32) (v3 : Int32) (v4 : Int32) (A : xj_H), k31 v0 v1 v2 v3 v4 A = some (xf_r z) → xj_W l z 31 [(0, xj_rv v0), (1, .int v1), (2, .int v2), (3, .int v3), (4, .int v4)] [] A) (v0 : xj_Rf) (v1 : Int32) (v2 : Int32) (v4 : Int32) (s0 : Int32) (A : xj_H) (h : fM_exclude_68 k31 v0 v1 v2 v4 s0 A = some (xf_r z)) : xj_W l z 68 [(0, xj_rv v0), (1, .int v1), (2, .int v2), (4, .int v4)] [.int s0] A := by
  unfold fM_exclude_68 at h
  refine xg_istore_n (pc := 68) (i := 3) (ls' := [(3, .int s0), (0, xj_rv v0), (1, .int v1), (2, .int v2), (4, .int v4)]) B dM_exclude_68 rfl (by decide) ⟨xj_nq (a := 0) (i := 3) (by decide), xj_nq (a := 1) (i := 3) (by decide), fun _ => rfl, xj_nq (a := 4) (i := 3) (by decide), trivial⟩ rfl ?_
  refine xg_iinc (pc := 69) (i := 4) (v := (v4 + 1)) (ls' := [(4, .int (v4 + 1)), (3, .int s0), (0, xj_rv v0), (1, .int v1), (2, .int v2)]) B dM_exclude_69 rfl (xj_inc_1 _) (by decide) ⟨fun _ => rfl, xj_nq (a := 0) (i := 4) (by decide), xj_nq (a := 1) (i := 4) (by decide), xj_nq (a := 2) (i := 4) (by decide), xj_nq (a := 4) (i := 4) (by decide), trivial⟩ rfl ?_
  refine xg_goto (pc := 72) (tgt := 31) B dM_exclude_72 (by decide) ?_
  refine xg_sub (ls' := [(0, xj_rv v0), (1, .int v1), (2, .int v2), (3, .int s0), (4, .int (v4 + 1))]) [2, 3, 4, 1, 0] rfl ?_
  exact hk31 v0 v1 v2 s0 (v4 + 1) A h
theorem wM_exclude_63 {l : Launch} (hl : l.stackTraces = false) {z : xj_F} (B : xj_B l yM_exclude prog_11_method_39_code 5 (some .boolean) [] 2 z) (k31 : xj_Rf → Int32 → Int32 → Int32 → Int32 → xj_H → Option xj_R) (hk31 : ∀ (v0 : xj_Rf) (v1 : Int32) (v2 : Int32) (v3 : Int32) (v4 : Int32) (A : xj_H), k31 v0 v1 v2 v3 v4 A = some (xf_r z) → xj_W l z 31 [(0, xj_rv v0), (1, .int v1), (2, .int v2), (3, .int v3), (4, .int v4)] [] A) (v0 : xj_Rf) (v1 : Int32) (v2 : Int32) (v4 : Int32) (A : xj_H) (h : fM_exclude_63 k31 v0 v1 v2 v4 A = some (xf_r z)) : xj_W l z 63 [(0, xj_rv v0), (1, .int v1), (2, .int v2), (4, .int v4)] [] A := by
  unfold fM_exclude_63 at h
  refine xg_iconst (pc := 63) (v := 1) B dM_exclude_63 (by decide) ?_
  refine xg_goto (pc := 64) (tgt := 68) B dM_exclude_64 (by decide) ?_
  exact wM_exclude_68 hl B k31 hk31 v0 v1 v2 v4 (1 : Int32) A h
theorem wM_exclude_31 {l : Launch} (hl : l.stackTraces = false) {z : xj_F} (B : xj_B l yM_exclude prog_11_method_39_code 5 (some .boolean) [] 2 z) : ∀ (n : Nat) (v0 : xj_Rf) (v1 : Int32) (v2 : Int32) (v3 : Int32) (v4 : Int32) (A : xj_H), fM_exclude_31 n v0 v1 v2 v3 v4 A = some (xf_r z) → xj_W l z 31 [(0, xj_rv v0), (1, .int v1), (2, .int v2), (3, .int v3), (4, .int v4)] [] A
  | 0, _, _, _, _, _, _, h => by simp [fM_exclude_31] at h
  | n + 1, v0, v1, v2, v3, v4, A, h => by
    rw [fM_exclude_31] at h
    refine xg_iload (pc := 31) (i := 4) B dM_exclude_31 rfl ?_
    refine xg_aload_n (pc := 33) (i := 0) (r := v0) B dM_exclude_33 rfl rfl ?_
    refine xg_getr (pc := 34) B dM_exclude_34 flM_28 h (fun x1 ex1 h => ?_)
    refine xg_iload_n (pc := 37) (i := 1) B dM_exclude_37 rfl rfl ?_
    refine xg_iaload (pc := 38) B dM_exclude_38 h (fun x2 ex2 h => ?_)
    refine xg_icmp_ge (pc := 39) (tgt := 75) B dM_exclude_39 (by decide) h (fun c39 h => ?_) (fun c39 h => ?_)
    · refine xg_iload_n (pc := 75) (i := 3) B dM_exclude_75 rfl rfl ?_
      refine xg_if_eq (pc := 76) (tgt := 99) B dM_exclude_76 (by decide) h (fun c76 h => ?_) (fun c76 h => ?_)
      · refine xg_sub (ls' := []) [] rfl ?_
        exact wM_exclude_99 hl B  A h
      · refine xg_aload_n (pc := 79) (i := 0) (r := v0) B dM_exclude_79 rfl rfl ?_
        refine xg_getr (pc := 80) B dM_exclude_80 flM_34 h (fun x3 ex3 h => ?_)
        refine xg_iload_n (pc := 83) (i := 1) B dM_exclude_83 rfl rfl ?_
        refine xg_iaload (pc := 84) B dM_exclude_84 h (fun x4 ex4 h => ?_)
        refine xg_bipush (pc := 85) (v := 12) B dM_exclude_85 (by decide) ?_
        refine xg_icmp_eq (pc := 87) (tgt := 99) B dM_exclude_87 (by decide) h (fun c87 h => ?_) (fun c87 h => ?_)
        · refine xg_sub (ls' := []) [] rfl ?_
          exact wM_exclude_99 hl B  A h
        · refine xg_aload_n (pc := 90) (i := 0) (r := v0) B dM_exclude_90 rfl rfl ?_
          refine xg_iload_n (pc := 91) (i := 1) B dM_exclude_91 rfl rfl ?_
          refine xg_iload_n (pc := 92) (i := 2) B dM_exclude_92 rfl rfl ?_
          obtain ⟨hq93, h⟩ := xj_rq_i h
          refine xg_ci (pc := 93) (av := [xj_rv v0, .int v1, .int v2]) (st := []) (cy := prog_11_method_38_code) (nLy := 5) (rety := (some .boolean)) (hsy := []) B dM_exclude_93 (xj_go_v B dM_exclude_93 vwM_258 rfl hq93) (xj_vw_c vwM_258) (xj_vw_i vwM_258) (by decide) (by decide) (by decide) rfl (fun r9 h9 => cM_isExcluded hl _ _ _ _ r9 h9) h (fun x5 A6 eA6 h => ?_)
          refine xg_if_eq (pc := 96) (tgt := 101) B dM_exclude_96 (by decide) h (fun c96 h => ?_) (fun c96 h => ?_)
          · refine xg_aload_n (pc := 101) (i := 0) (r := v0) B dM_exclude_101 rfl rfl ?_
            refine xg_getr (pc := 102) B dM_exclude_102 flM_31 h (fun x7 ex7 h => ?_)
            refine xg_bipush (pc := 105) (v := 12) B dM_exclude_105 (by decide) ?_
            refine xg_iload_n (pc := 107) (i := 1) B dM_exclude_107 rfl rfl ?_
            refine xg_imul (pc := 108) B dM_exclude_108 ?_
            refine xg_aload_n (pc := 109) (i := 0) (r := v0) B dM_exclude_109 rfl rfl ?_
            refine xg_getr (pc := 110) B dM_exclude_110 flM_34 h (fun x8 ex8 h => ?_)
            refine xg_iload_n (pc := 113) (i := 1) B dM_exclude_113 rfl rfl ?_
            refine xg_iaload (pc := 114) B dM_exclude_114 h (fun x9 ex9 h => ?_)
            refine xg_iadd (pc := 115) B dM_exclude_115 ?_
            refine xg_iload_n (pc := 116) (i := 2) B dM_exclude_116 rfl rfl ?_
            refine xg_iastore (pc := 117) B dM_exclude_117 h (fun A10 eA10 h => ?_)
            refine xg_aload_n (pc := 118) (i := 0) (r := v0) B dM_exclude_118 rfl rfl ?_
            refine xg_getr (pc := 119) B dM_exclude_119 flM_34 h (fun x11 ex11 h => ?_)
            refine xg_iload_n (pc := 122) (i := 1) B dM_exclude_122 rfl rfl ?_
            refine xg_dup2 (pc := 123) B dM_exclude_123 rfl (xj_rv_cat x11) ?_
            refine xg_iaload (pc := 124) B dM_exclude_124 h (fun x12 ex12 h => ?_)
            refine xg_iconst (pc := 125) (v := 1) B dM_exclude_125 (by decide) ?_
            refine xg_iadd (pc := 126) B dM_exclude_126 ?_
            refine xg_iastore (pc := 127) B dM_exclude_127 h (fun A13 eA13 h => ?_)
            refine xg_iconst (pc := 128) (v := 1) B dM_exclude_128 (by decide) ?_
            exact xg_zret B dM_exclude_129 h
          · refine xg_sub (ls' := []) [] rfl ?_
            exact wM_exclude_99 hl B  A6 h
    · refine xg_iload_n (pc := 42) (i := 3) B dM_exclude_42 rfl rfl ?_
      refine xg_if_ne (pc := 43) (tgt := 63) B dM_exclude_43 (by decide) h (fun c43 h => ?_) (fun c43 h => ?_)
      · refine xg_sub (ls' := [(0, xj_rv v0), (1, .int v1), (2, .int v2), (4, .int v4)]) [0, 1, 2, 4] rfl ?_
        exact wM_exclude_63 hl B (fM_exclude_31 n) (wM_exclude_31 hl B n) v0 v1 v2 v4 A h
      · refine xg_aload_n (pc := 46) (i := 0) (r := v0) B dM_exclude_46 rfl rfl ?_
        refine xg_getr (pc := 47) B dM_exclude_47 flM_25 h (fun x14 ex14 h => ?_)
        refine xg_sipush (pc := 50) (v := 200) B dM_exclude_50 (by decide) ?_
        refine xg_iload_n (pc := 53) (i := 1) B dM_exclude_53 rfl rfl ?_
        refine xg_imul (pc := 54) B dM_exclude_54 ?_
        refine xg_iload (pc := 55) (i := 4) B dM_exclude_55 rfl ?_
        refine xg_iadd (pc := 57) B dM_exclude_57 ?_
        refine xg_iaload (pc := 58) B dM_exclude_58 h (fun x15 ex15 h => ?_)
        refine xg_iload_n (pc := 59) (i := 2) B dM_exclude_59 rfl rfl ?_
        refine xg_icmp_ne (pc := 60) (tgt := 67) B dM_exclude_60 (by decide) h (fun c60 h => ?_) (fun c60 h => ?_)
        · refine xg_iconst (pc := 67) (v := 0) B dM_exclude_67 (by decide) ?_
          refine xg_sub (ls' := [(0, xj_rv v0), (1, .int v1), (2, .int v2), (4, .int v4)]) [0, 1, 2, 4] rfl ?_
          exact wM_exclude_68 hl B (fM_exclude_31 n) (wM_exclude_31 hl B n) v0 v1 v2 v4 (0 : Int32) A h
        · refine xg_sub (ls' := [(0, xj_rv v0), (1, .int v1), (2, .int v2), (4, .int v4)]) [0, 1, 2, 4] rfl ?_
          exact wM_exclude_63 hl B (fM_exclude_31 n) (wM_exclude_31 hl B n) v0 v1 v2 v4 A h
theorem wM_exclude_18 {l : Launch} (hl : l.stackTraces = false) {z : xj_F} (B : xj_B l yM_exclude prog_11_method_39_code 5 (some .boolean) [] 2 z) (v0 : xj_Rf) (v1 : Int32) (v2 : Int32) (s0 : Int32) (s1 : xj_Rf) (A : xj_H) (h : fM_exclude_18 v0 v1 v2 s0 s1 A = some (xf_r z)) : xj_W l z 18 [(0, xj_rv v0), (1, .int v1), (2, .int v2)] [.int s0, xj_rv s1] A := by
  unfold fM_exclude_18 at h
  obtain ⟨hq18, h⟩ := xj_rq_i h
  refine xg_ci (pc := 18) (av := [xj_rv s1, .int s0]) (st := []) (cy := prog_11_method_3_code) (nLy := 2) (rety := (some .boolean)) (hsy := []) B dM_exclude_18 (xj_go_v B dM_exclude_18 vwM_104 rfl hq18) (xj_vw_c vwM_104) (xj_vw_i vwM_104) (by decide) (by decide) (by decide) rfl (fun r9 h9 => cM_fails hl _ _ _ r9 h9) h (fun x1 A2 eA2 h => ?_)
  refine xg_if_eq (pc := 21) (tgt := 26) B dM_exclude_21 (by decide) h (fun c21 h => ?_) (fun c21 h => ?_)
  · refine xg_iconst (pc := 26) (v := 0) B dM_exclude_26 (by decide) ?_
    refine xg_istore_n (pc := 27) (i := 3) (ls' := [(3, .int (0 : Int32)), (0, xj_rv v0), (1, .int v1), (2, .int v2)]) B dM_exclude_27 rfl (by decide) ⟨xj_nq (a := 0) (i := 3) (by decide), xj_nq (a := 1) (i := 3) (by decide), fun _ => rfl, trivial⟩ rfl ?_
    refine xg_iconst (pc := 28) (v := 0) B dM_exclude_28 (by decide) ?_
    refine xg_istore (pc := 29) (i := 4) (ls' := [(4, .int (0 : Int32)), (3, .int (0 : Int32)), (0, xj_rv v0), (1, .int v1), (2, .int v2)]) B dM_exclude_29 (by decide) ⟨fun _ => rfl, xj_nq (a := 0) (i := 4) (by decide), xj_nq (a := 1) (i := 4) (by decide), xj_nq (a := 2) (i := 4) (by decide), trivial⟩ rfl ?_
    refine xg_sub (ls' := [(0, xj_rv v0), (1, .int v1), (2, .int v2), (3, .int (0 : Int32)), (4, .int (0 : Int32))]) [2, 3, 4, 1, 0] rfl ?_
    exact wM_exclude_31 hl B xj_fu v0 v1 v2 (0 : Int32) (0 : Int32) A2 h
  · refine xg_iconst (pc := 24) (v := 0) B dM_exclude_24 (by decide) ?_
    exact xg_zret B dM_exclude_25 h
theorem wM_exclude_13 {l : Launch} (hl : l.stackTraces = false) {z : xj_F} (B : xj_B l yM_exclude prog_11_method_39_code 5 (some .boolean) [] 2 z) (v0 : xj_Rf) (v1 : Int32) (v2 : Int32) (s0 : xj_Rf) (A : xj_H) (h : fM_exclude_13 v0 v1 v2 s0 A = some (xf_r z)) : xj_W l z 13 [(0, xj_rv v0), (1, .int v1), (2, .int v2)] [xj_rv s0] A := by
  unfold fM_exclude_13 at h
  refine xg_iconst (pc := 13) (v := 1) B dM_exclude_13 (by decide) ?_
  refine xg_goto (pc := 14) (tgt := 18) B dM_exclude_14 (by decide) ?_
  exact wM_exclude_18 hl B v0 v1 v2 (1 : Int32) s0 A h
theorem wM_exclude {l : Launch} (hl : l.stackTraces = false) {z : xj_F} (B : xj_B l yM_exclude prog_11_method_39_code 5 (some .boolean) [] 2 z) (v0 : xj_Rf) (v1 : Int32) (v2 : Int32) (A : xj_H) (h : fM_exclude v0 v1 v2 A = some (xf_r z)) : xj_W l z 0 [(0, xj_rv v0), (1, .int v1), (2, .int v2)] [] A := by
  unfold fM_exclude at h
  refine xg_aload_n (pc := 0) (i := 0) (r := v0) B dM_exclude_0 rfl rfl ?_
  refine xg_iload_n (pc := 1) (i := 1) B dM_exclude_1 rfl rfl ?_
  refine xg_if_lt (pc := 2) (tgt := 13) B dM_exclude_2 (by decide) h (fun c2 h => ?_) (fun c2 h => ?_)
  · exact wM_exclude_13 hl B v0 v1 v2 v0 A h
  · refine xg_iload_n (pc := 5) (i := 1) B dM_exclude_5 rfl rfl ?_
    refine xg_aload_n (pc := 6) (i := 0) (r := v0) B dM_exclude_6 rfl rfl ?_
    refine xg_geti (pc := 7) B dM_exclude_7 flM_249 h (fun x1 ex1 h => ?_)
    refine xg_icmp_lt (pc := 10) (tgt := 17) B dM_exclude_10 (by decide) h (fun c10 h => ?_) (fun c10 h => ?_)
    · refine xg_iconst (pc := 17) (v := 0) B dM_exclude_17 (by decide) ?_
      exact wM_exclude_18 hl B v0 v1 v2 (0 : Int32) v0 A h
    · exact wM_exclude_13 hl B v0 v1 v2 v0 A h
theorem cM_exclude {l : Launch} (hl : l.stackTraces = false) (v0 : xj_Rf) (v1 : Int32) (v2 : Int32) (A : xj_H) (r : xj_R) (h : fM_exclude v0 v1 v2 A = some r) : xj_M l yM_exclude prog_11_method_39_code 5 (some .boolean) [] 2 [xj_rv v0, .int v1, .int v2] A r := by
  refine xj_M.of hl (by decide +kernel) (by simp [lg_sl, xj_ic, xj_lc, xj_rv_cat]) (fun z B hA hr => ?_)
  subst hr
  have hw := wM_exclude hl B v0 v1 v2 A h
  simpa [lv_args, xj_ic, xj_lc, xj_rv_cat] using hw
/-! RecurrenceBookModel.times(I)I -/
def fM_times_41 (s0 : Int32) (A : xj_H) : Option xj_R :=
  some (.inl (some (.int s0)), A)
def fM_times_18 (v0 : xj_Rf) (v1 : Int32) (s0 : Int32) (s1 : xj_Rf) (A : xj_H) : Option xj_R :=
  xj_bi (xj_rq A s1 7 (fM_fails s1 s0 A)) fun x1 A2 =>
  if x1 = 0 then
    (xj_gr A2 v0 7 11).bind fun x3 =>
    (xj_ai A2 x3 0 v1).bind fun x4 =>
    (xj_gr A2 v0 7 13).bind fun x5 =>
    (xj_ai A2 x5 0 v1).bind fun x6 =>
    fM_times_41 (x4 - x6) A2
  else
    fM_times_41 (0 : Int32) A2
def fM_times_13 (v0 : xj_Rf) (v1 : Int32) (s0 : xj_Rf) (A : xj_H) : Option xj_R :=
  fM_times_18 v0 v1 (1 : Int32) s0 A
def fM_times (v0 : xj_Rf) (v1 : Int32) (A : xj_H) : Option xj_R :=
  if v1 < 0 then
    fM_times_13 v0 v1 v0 A
  else
    (xj_gi A v0 7 7).bind fun x1 =>
    if v1 < x1 then
      fM_times_18 v0 v1 (0 : Int32) v0 A
    else
      fM_times_13 v0 v1 v0 A
theorem wM_times_41 {l : Launch} (hl : l.stackTraces = false) {z : xj_F} (B : xj_B l yM_times prog_11_method_40_code 2 (some .int) [] 2 z) (s0 : Int32) (A : xj_H) (h : fM_times_41 s0 A = some (xf_r z)) : xj_W l z 41 [] [.int s0] A := by
  unfold fM_times_41 at h
  exact xg_iret B dM_times_41 h
theorem wM_times_18 {l : Launch} (hl : l.stackTraces = false) {z : xj_F} (B : xj_B l yM_times prog_11_method_40_code 2 (some .int) [] 2 z) (v0 : xj_Rf) (v1 : Int32) (s0 : Int32) (s1 : xj_Rf) (A : xj_H) (h : fM_times_18 v0 v1 s0 s1 A = some (xf_r z)) : xj_W l z 18 [(0, xj_rv v0), (1, .int v1)] [.int s0, xj_rv s1] A := by
  unfold fM_times_18 at h
  obtain ⟨hq18, h⟩ := xj_rq_i h
  refine xg_ci (pc := 18) (av := [xj_rv s1, .int s0]) (st := []) (cy := prog_11_method_3_code) (nLy := 2) (rety := (some .boolean)) (hsy := []) B dM_times_18 (xj_go_v B dM_times_18 vwM_104 rfl hq18) (xj_vw_c vwM_104) (xj_vw_i vwM_104) (by decide) (by decide) (by decide) rfl (fun r9 h9 => cM_fails hl _ _ _ r9 h9) h (fun x1 A2 eA2 h => ?_)
  refine xg_if_eq (pc := 21) (tgt := 28) B dM_times_21 (by decide) h (fun c21 h => ?_) (fun c21 h => ?_)
  · refine xg_aload_n (pc := 28) (i := 0) (r := v0) B dM_times_28 rfl rfl ?_
    refine xg_getr (pc := 29) B dM_times_29 flM_28 h (fun x3 ex3 h => ?_)
    refine xg_iload_n (pc := 32) (i := 1) B dM_times_32 rfl rfl ?_
    refine xg_iaload (pc := 33) B dM_times_33 h (fun x4 ex4 h => ?_)
    refine xg_aload_n (pc := 34) (i := 0) (r := v0) B dM_times_34 rfl rfl ?_
    refine xg_getr (pc := 35) B dM_times_35 flM_34 h (fun x5 ex5 h => ?_)
    refine xg_iload_n (pc := 38) (i := 1) B dM_times_38 rfl rfl ?_
    refine xg_iaload (pc := 39) B dM_times_39 h (fun x6 ex6 h => ?_)
    refine xg_isub (pc := 40) B dM_times_40 ?_
    refine xg_sub (ls' := []) [] rfl ?_
    exact wM_times_41 hl B (x4 - x6) A2 h
  · refine xg_iconst (pc := 24) (v := 0) B dM_times_24 (by decide) ?_
    refine xg_goto (pc := 25) (tgt := 41) B dM_times_25 (by decide) ?_
    refine xg_sub (ls' := []) [] rfl ?_
    exact wM_times_41 hl B (0 : Int32) A2 h
theorem wM_times_13 {l : Launch} (hl : l.stackTraces = false) {z : xj_F} (B : xj_B l yM_times prog_11_method_40_code 2 (some .int) [] 2 z) (v0 : xj_Rf) (v1 : Int32) (s0 : xj_Rf) (A : xj_H) (h : fM_times_13 v0 v1 s0 A = some (xf_r z)) : xj_W l z 13 [(0, xj_rv v0), (1, .int v1)] [xj_rv s0] A := by
  unfold fM_times_13 at h
  refine xg_iconst (pc := 13) (v := 1) B dM_times_13 (by decide) ?_
  refine xg_goto (pc := 14) (tgt := 18) B dM_times_14 (by decide) ?_
  exact wM_times_18 hl B v0 v1 (1 : Int32) s0 A h
theorem wM_times {l : Launch} (hl : l.stackTraces = false) {z : xj_F} (B : xj_B l yM_times prog_11_method_40_code 2 (some .int) [] 2 z) (v0 : xj_Rf) (v1 : Int32) (A : xj_H) (h : fM_times v0 v1 A = some (xf_r z)) : xj_W l z 0 [(0, xj_rv v0), (1, .int v1)] [] A := by
  unfold fM_times at h
  refine xg_aload_n (pc := 0) (i := 0) (r := v0) B dM_times_0 rfl rfl ?_
  refine xg_iload_n (pc := 1) (i := 1) B dM_times_1 rfl rfl ?_
  refine xg_if_lt (pc := 2) (tgt := 13) B dM_times_2 (by decide) h (fun c2 h => ?_) (fun c2 h => ?_)
  · exact wM_times_13 hl B v0 v1 v0 A h
  · refine xg_iload_n (pc := 5) (i := 1) B dM_times_5 rfl rfl ?_
    refine xg_aload_n (pc := 6) (i := 0) (r := v0) B dM_times_6 rfl rfl ?_
    refine xg_geti (pc := 7) B dM_times_7 flM_249 h (fun x1 ex1 h => ?_)
    refine xg_icmp_lt (pc := 10) (tgt := 17) B dM_times_10 (by decide) h (fun c10 h => ?_) (fun c10 h => ?_)
    · refine xg_iconst (pc := 17) (v := 0) B dM_times_17 (by decide) ?_
      exact wM_times_18 hl B v0 v1 (0 : Int32) v0 A h
    · exact wM_times_13 hl B v0 v1 v0 A h
theorem cM_times {l : Launch} (hl : l.stackTraces = false) (v0 : xj_Rf) (v1 : Int32) (A : xj_H) (r : xj_R) (h : fM_times v0 v1 A = some r) : xj_M l yM_times prog_11_method_40_code 2 (some .int) [] 2 [xj_rv v0, .int v1] A r := by
  refine xj_M.of hl (by decide +kernel) (by simp [lg_sl, xj_ic, xj_lc, xj_rv_cat]) (fun z B hA hr => ?_)
  subst hr
  have hw := wM_times hl B v0 v1 A h
  simpa [lv_args, xj_ic, xj_lc, xj_rv_cat] using hw
/-! RecurrenceBookModel.timeDay(II)I -/
def fM_timeDay_48 (k40 : xj_Rf → Int32 → Int32 → Int32 → xj_H → Option xj_R) : Nat → xj_Rf → Int32 → Int32 → Int32 → xj_H → Option xj_R
  | 0, _, _, _, _, _ => none
  | n + 1, v0, v1, v3, v4, A =>
    (xj_gr A v0 7 10).bind fun x1 =>
    (xj_ai A x1 0 (((200 : Int32) * v1) + v3)).bind fun x2 =>
    xj_bi (xj_rq A v0 7 (fM_isExcluded v0 v1 x2 A)) fun x3 A4 =>
    if x3 = 0 then
      k40 v0 v1 v3 (v4 - 1) A4
    else
      (fM_timeDay_48 k40 n) v0 v1 (v3 + 1) v4 A4
def fM_timeDay_40 : Nat → xj_Rf → Int32 → Int32 → Int32 → xj_H → Option xj_R
  | 0, _, _, _, _, _ => none
  | n + 1, v0, v1, v3, v4, A =>
    if v4 < 0 then
      (xj_gr A v0 7 10).bind fun x1 =>
      (xj_ai A x1 0 (((200 : Int32) * v1) + v3)).bind fun x2 =>
      some (.inl (some (.int x2)), A)
    else
      fM_timeDay_48 (fM_timeDay_40 n) xj_fu v0 v1 (v3 + 1) v4 A
def fM_timeDay_33 (A : xj_H) : Option xj_R :=
  some (.inl (some (.int (-1 : Int32))), A)
def fM_timeDay (v0 : xj_Rf) (v1 : Int32) (v2 : Int32) (A : xj_H) : Option xj_R :=
  if v1 < 0 then
    fM_timeDay_33  A
  else
    (xj_gi A v0 7 7).bind fun x1 =>
    if x1 ≤ v1 then
      fM_timeDay_33  A
    else
      if v2 < 0 then
        fM_timeDay_33  A
      else
        (xj_gr A v0 7 11).bind fun x2 =>
        (xj_ai A x2 0 v1).bind fun x3 =>
        (xj_gr A v0 7 13).bind fun x4 =>
        (xj_ai A x4 0 v1).bind fun x5 =>
        if v2 < (x3 - x5) then
          fM_timeDay_40 xj_fu v0 v1 (-1 : Int32) v2 A
        else
          fM_timeDay_33  A
theorem wM_timeDay_48 {l : Launch} (hl : l.stackTraces = false) {z : xj_F} (B : xj_B l yM_timeDay prog_11_method_41_code 5 (some .int) [] 2 z) (k40 : xj_Rf → Int32 → Int32 → Int32 → xj_H → Option xj_R) (hk40 : ∀ (v0 : xj_Rf) (v1 : Int32) (v3 : Int32) (v4 : Int32) (A : xj_H), k40 v0 v1 v3 v4 A = some (xf_r z) → xj_W l z 40 [(0, xj_rv v0), (1, .int v1), (3, .int v3), (4, .int v4)] [] A) : ∀ (n : Nat) (v0 : xj_Rf) (v1 : Int32) (v3 : Int32) (v4 : Int32) (A : xj_H), fM_timeDay_48 k40 n v0 v1 v3 v4 A = some (xf_r z) → xj_W l z 48 [(0, xj_rv v0), (1, .int v1), (3, .int v3), (4, .int v4)] [] A
  | 0, _, _, _, _, _, h => by simp [fM_timeDay_48] at h
  | n + 1, v0, v1, v3, v4, A, h => by
    rw [fM_timeDay_48] at h
    refine xg_aload_n (pc := 48) (i := 0) (r := v0) B dM_timeDay_48 rfl rfl ?_
    refine xg_iload_n (pc := 49) (i := 1) B dM_timeDay_49 rfl rfl ?_
    refine xg_aload_n (pc := 50) (i := 0) (r := v0) B dM_timeDay_50 rfl rfl ?_
    refine xg_getr (pc := 51) B dM_timeDay_51 flM_25 h (fun x1 ex1 h => ?_)
    refine xg_sipush (pc := 54) (v := 200) B dM_timeDay_54 (by decide) ?_
    refine xg_iload_n (pc := 57) (i := 1) B dM_timeDay_57 rfl rfl ?_
    refine xg_imul (pc := 58) B dM_timeDay_58 ?_
    refine xg_iload_n (pc := 59) (i := 3) B dM_timeDay_59 rfl rfl ?_
    refine xg_iadd (pc := 60) B dM_timeDay_60 ?_
    refine xg_iaload (pc := 61) B dM_timeDay_61 h (fun x2 ex2 h => ?_)
    obtain ⟨hq62, h⟩ := xj_rq_i h
    refine xg_ci (pc := 62) (av := [xj_rv v0, .int v1, .int x2]) (st := []) (cy := prog_11_method_38_code) (nLy := 5) (rety := (some .boolean)) (hsy := []) B dM_timeDay_62 (xj_go_v B dM_timeDay_62 vwM_258 rfl hq62) (xj_vw_c vwM_258) (xj_vw_i vwM_258) (by decide) (by decide) (by decide) rfl (fun r9 h9 => cM_isExcluded hl _ _ _ _ r9 h9) h (fun x3 A4 eA4 h => ?_)
    refine xg_if_eq (pc := 65) (tgt := 74) B dM_timeDay_65 (by decide) h (fun c65 h => ?_) (fun c65 h => ?_)
    · refine xg_iinc (pc := 74) (i := 4) (v := (v4 - 1)) (ls' := [(4, .int (v4 - 1)), (0, xj_rv v0), (1, .int v1), (3, .int v3)]) B dM_timeDay_74 rfl (xj_inc_m1 _) (by decide) ⟨xj_nq (a := 0) (i := 4) (by decide), xj_nq (a := 1) (i := 4) (by decide), fun _ => rfl, xj_nq (a := 4) (i := 4) (by decide), trivial⟩ rfl ?_
      refine xg_goto (pc := 77) (tgt := 40) B dM_timeDay_77 (by decide) ?_
      refine xg_sub (ls' := [(0, xj_rv v0), (1, .int v1), (3, .int v3), (4, .int (v4 - 1))]) [1, 2, 3, 0] rfl ?_
      exact hk40 v0 v1 v3 (v4 - 1) A4 h
    · refine xg_iinc (pc := 68) (i := 3) (v := (v3 + 1)) (ls' := [(3, .int (v3 + 1)), (0, xj_rv v0), (1, .int v1), (4, .int v4)]) B dM_timeDay_68 rfl (xj_inc_1 _) (by decide) ⟨xj_nq (a := 0) (i := 3) (by decide), xj_nq (a := 1) (i := 3) (by decide), xj_nq (a := 3) (i := 3) (by decide), xj_nq (a := 4) (i := 3) (by decide), trivial⟩ rfl ?_
      refine xg_goto (pc := 71) (tgt := 48) B dM_timeDay_71 (by decide) ?_
      refine xg_sub (ls' := [(0, xj_rv v0), (1, .int v1), (3, .int (v3 + 1)), (4, .int v4)]) [1, 2, 0, 3] rfl ?_
      exact (wM_timeDay_48 hl B k40 hk40 n) v0 v1 (v3 + 1) v4 A4 h
theorem wM_timeDay_40 {l : Launch} (hl : l.stackTraces = false) {z : xj_F} (B : xj_B l yM_timeDay prog_11_method_41_code 5 (some .int) [] 2 z) : ∀ (n : Nat) (v0 : xj_Rf) (v1 : Int32) (v3 : Int32) (v4 : Int32) (A : xj_H), fM_timeDay_40 n v0 v1 v3 v4 A = some (xf_r z) → xj_W l z 40 [(0, xj_rv v0), (1, .int v1), (3, .int v3), (4, .int v4)] [] A
  | 0, _, _, _, _, _, h => by simp [fM_timeDay_40] at h
  | n + 1, v0, v1, v3, v4, A, h => by
    rw [fM_timeDay_40] at h
    refine xg_iload (pc := 40) (i := 4) B dM_timeDay_40 rfl ?_
    refine xg_if_lt (pc := 42) (tgt := 80) B dM_timeDay_42 (by decide) h (fun c42 h => ?_) (fun c42 h => ?_)
    · refine xg_aload_n (pc := 80) (i := 0) (r := v0) B dM_timeDay_80 rfl rfl ?_
      refine xg_getr (pc := 81) B dM_timeDay_81 flM_25 h (fun x1 ex1 h => ?_)
      refine xg_sipush (pc := 84) (v := 200) B dM_timeDay_84 (by decide) ?_
      refine xg_iload_n (pc := 87) (i := 1) B dM_timeDay_87 rfl rfl ?_
      refine xg_imul (pc := 88) B dM_timeDay_88 ?_
      refine xg_iload_n (pc := 89) (i := 3) B dM_timeDay_89 rfl rfl ?_
      refine xg_iadd (pc := 90) B dM_timeDay_90 ?_
      refine xg_iaload (pc := 91) B dM_timeDay_91 h (fun x2 ex2 h => ?_)
      exact xg_iret B dM_timeDay_92 h
    · refine xg_iinc (pc := 45) (i := 3) (v := (v3 + 1)) (ls' := [(3, .int (v3 + 1)), (0, xj_rv v0), (1, .int v1), (4, .int v4)]) B dM_timeDay_45 rfl (xj_inc_1 _) (by decide) ⟨xj_nq (a := 0) (i := 3) (by decide), xj_nq (a := 1) (i := 3) (by decide), xj_nq (a := 3) (i := 3) (by decide), xj_nq (a := 4) (i := 3) (by decide), trivial⟩ rfl ?_
      refine xg_sub (ls' := [(0, xj_rv v0), (1, .int v1), (3, .int (v3 + 1)), (4, .int v4)]) [1, 2, 0, 3] rfl ?_
      exact wM_timeDay_48 hl B (fM_timeDay_40 n) (wM_timeDay_40 hl B n) xj_fu v0 v1 (v3 + 1) v4 A h
theorem wM_timeDay_33 {l : Launch} (hl : l.stackTraces = false) {z : xj_F} (B : xj_B l yM_timeDay prog_11_method_41_code 5 (some .int) [] 2 z) (A : xj_H) (h : fM_timeDay_33  A = some (xf_r z)) : xj_W l z 33 [] [] A := by
  unfold fM_timeDay_33 at h
  refine xg_iconst (pc := 33) (v := -1) B dM_timeDay_33 (by decide) ?_
  exact xg_iret B dM_timeDay_34 h
theorem wM_timeDay {l : Launch} (hl : l.stackTraces = false) {z : xj_F} (B : xj_B l yM_timeDay prog_11_method_41_code 5 (some .int) [] 2 z) (v0 : xj_Rf) (v1 : Int32) (v2 : Int32) (A : xj_H) (h : fM_timeDay v0 v1 v2 A = some (xf_r z)) : xj_W l z 0 [(0, xj_rv v0), (1, .int v1), (2, .int v2)] [] A := by
  unfold fM_timeDay at h
  refine xg_iload_n (pc := 0) (i := 1) B dM_timeDay_0 rfl rfl ?_
  refine xg_if_lt (pc := 1) (tgt := 33) B dM_timeDay_1 (by decide) h (fun c1 h => ?_) (fun c1 h => ?_)
  · refine xg_sub (ls' := []) [] rfl ?_
    exact wM_timeDay_33 hl B  A h
  · refine xg_iload_n (pc := 4) (i := 1) B dM_timeDay_4 rfl rfl ?_
    refine xg_aload_n (pc := 5) (i := 0) (r := v0) B dM_timeDay_5 rfl rfl ?_
    refine xg_geti (pc := 6) B dM_timeDay_6 flM_249 h (fun x1 ex1 h => ?_)
    refine xg_icmp_ge (pc := 9) (tgt := 33) B dM_timeDay_9 (by decide) h (fun c9 h => ?_) (fun c9 h => ?_)
    · refine xg_sub (ls' := []) [] rfl ?_
      exact wM_timeDay_33 hl B  A h
    · refine xg_iload_n (pc := 12) (i := 2) B dM_timeDay_12 rfl rfl ?_
      refine xg_if_lt (pc := 13) (tgt := 33) B dM_timeDay_13 (by decide) h (fun c13 h => ?_) (fun c13 h => ?_)
      · refine xg_sub (ls' := []) [] rfl ?_
        exact wM_timeDay_33 hl B  A h
      · refine xg_iload_n (pc := 16) (i := 2) B dM_timeDay_16 rfl rfl ?_
        refine xg_aload_n (pc := 17) (i := 0) (r := v0) B dM_timeDay_17 rfl rfl ?_
        refine xg_getr (pc := 18) B dM_timeDay_18 flM_28 h (fun x2 ex2 h => ?_)
        refine xg_iload_n (pc := 21) (i := 1) B dM_timeDay_21 rfl rfl ?_
        refine xg_iaload (pc := 22) B dM_timeDay_22 h (fun x3 ex3 h => ?_)
        refine xg_aload_n (pc := 23) (i := 0) (r := v0) B dM_timeDay_23 rfl rfl ?_
        refine xg_getr (pc := 24) B dM_timeDay_24 flM_34 h (fun x4 ex4 h => ?_)
        refine xg_iload_n (pc := 27) (i := 1) B dM_timeDay_27 rfl rfl ?_
        refine xg_iaload (pc := 28) B dM_timeDay_28 h (fun x5 ex5 h => ?_)
        refine xg_isub (pc := 29) B dM_timeDay_29 ?_
        refine xg_icmp_lt (pc := 30) (tgt := 35) B dM_timeDay_30 (by decide) h (fun c30 h => ?_) (fun c30 h => ?_)
        · refine xg_iconst (pc := 35) (v := -1) B dM_timeDay_35 (by decide) ?_
          refine xg_istore_n (pc := 36) (i := 3) (ls' := [(3, .int (-1 : Int32)), (0, xj_rv v0), (1, .int v1), (2, .int v2)]) B dM_timeDay_36 rfl (by decide) ⟨xj_nq (a := 0) (i := 3) (by decide), xj_nq (a := 1) (i := 3) (by decide), fun _ => rfl, trivial⟩ rfl ?_
          refine xg_iload_n (pc := 37) (i := 2) B dM_timeDay_37 rfl rfl ?_
          refine xg_istore (pc := 38) (i := 4) (ls' := [(4, .int v2), (3, .int (-1 : Int32)), (0, xj_rv v0), (1, .int v1), (2, .int v2)]) B dM_timeDay_38 (by decide) ⟨fun _ => rfl, xj_nq (a := 0) (i := 4) (by decide), xj_nq (a := 1) (i := 4) (by decide), xj_nq (a := 2) (i := 4) (by decide), trivial⟩ rfl ?_
          refine xg_sub (ls' := [(0, xj_rv v0), (1, .int v1), (3, .int (-1 : Int32)), (4, .int v2)]) [2, 3, 1, 0] rfl ?_
          exact wM_timeDay_40 hl B xj_fu v0 v1 (-1 : Int32) v2 A h
        · refine xg_sub (ls' := []) [] rfl ?_
          exact wM_timeDay_33 hl B  A h
theorem cM_timeDay {l : Launch} (hl : l.stackTraces = false) (v0 : xj_Rf) (v1 : Int32) (v2 : Int32) (A : xj_H) (r : xj_R) (h : fM_timeDay v0 v1 v2 A = some r) : xj_M l yM_timeDay prog_11_method_41_code 5 (some .int) [] 2 [xj_rv v0, .int v1, .int v2] A r := by
  refine xj_M.of hl (by decide +kernel) (by simp [lg_sl, xj_ic, xj_lc, xj_rv_cat]) (fun z B hA hr => ?_)
  subst hr
  have hw := wM_timeDay hl B v0 v1 v2 A h
  simpa [lv_args, xj_ic, xj_lc, xj_rv_cat] using hw
/-! RecurrenceBookModel.day(II)I -/
def fM_day_28 (s0 : Int32) (A : xj_H) : Option xj_R :=
  some (.inl (some (.int s0)), A)
def fM_day_17 (v3 : Int32) (s0 : Int32) (s1 : xj_Rf) (A : xj_H) : Option xj_R :=
  xj_bi (xj_rq A s1 7 (fM_fails s1 s0 A)) fun x1 A2 =>
  if x1 = 0 then
    fM_day_28 v3 A2
  else
    fM_day_28 (0 : Int32) A2
def fM_day (v0 : xj_Rf) (v1 : Int32) (v2 : Int32) (A : xj_H) : Option xj_R :=
  xj_bi (xj_rq A v0 7 (fM_timeDay v0 v1 v2 A)) fun x1 A2 =>
  if 0 ≤ x1 then
    fM_day_17 x1 (0 : Int32) v0 A2
  else
    fM_day_17 x1 (1 : Int32) v0 A2
theorem wM_day_28 {l : Launch} (hl : l.stackTraces = false) {z : xj_F} (B : xj_B l yM_day prog_11_method_42_code 4 (some .int) [] 3 z) (s0 : Int32) (A : xj_H) (h : fM_day_28 s0 A = some (xf_r z)) : xj_W l z 28 [] [.int s0] A := by
  unfold fM_day_28 at h
  exact xg_iret B dM_day_28 h
theorem wM_day_17 {l : Launch} (hl : l.stackTraces = false) {z : xj_F} (B : xj_B l yM_day prog_11_method_42_code 4 (some .int) [] 3 z) (v3 : Int32) (s0 : Int32) (s1 : xj_Rf) (A : xj_H) (h : fM_day_17 v3 s0 s1 A = some (xf_r z)) : xj_W l z 17 [(3, .int v3)] [.int s0, xj_rv s1] A := by
  unfold fM_day_17 at h
  obtain ⟨hq17, h⟩ := xj_rq_i h
  refine xg_ci (pc := 17) (av := [xj_rv s1, .int s0]) (st := []) (cy := prog_11_method_3_code) (nLy := 2) (rety := (some .boolean)) (hsy := []) B dM_day_17 (xj_go_v B dM_day_17 vwM_104 rfl hq17) (xj_vw_c vwM_104) (xj_vw_i vwM_104) (by decide) (by decide) (by decide) rfl (fun r9 h9 => cM_fails hl _ _ _ r9 h9) h (fun x1 A2 eA2 h => ?_)
  refine xg_if_eq (pc := 20) (tgt := 27) B dM_day_20 (by decide) h (fun c20 h => ?_) (fun c20 h => ?_)
  · refine xg_iload_n (pc := 27) (i := 3) B dM_day_27 rfl rfl ?_
    refine xg_sub (ls' := []) [] rfl ?_
    exact wM_day_28 hl B v3 A2 h
  · refine xg_iconst (pc := 23) (v := 0) B dM_day_23 (by decide) ?_
    refine xg_goto (pc := 24) (tgt := 28) B dM_day_24 (by decide) ?_
    refine xg_sub (ls' := []) [] rfl ?_
    exact wM_day_28 hl B (0 : Int32) A2 h
theorem wM_day {l : Launch} (hl : l.stackTraces = false) {z : xj_F} (B : xj_B l yM_day prog_11_method_42_code 4 (some .int) [] 3 z) (v0 : xj_Rf) (v1 : Int32) (v2 : Int32) (A : xj_H) (h : fM_day v0 v1 v2 A = some (xf_r z)) : xj_W l z 0 [(0, xj_rv v0), (1, .int v1), (2, .int v2)] [] A := by
  unfold fM_day at h
  refine xg_aload_n (pc := 0) (i := 0) (r := v0) B dM_day_0 rfl rfl ?_
  refine xg_iload_n (pc := 1) (i := 1) B dM_day_1 rfl rfl ?_
  refine xg_iload_n (pc := 2) (i := 2) B dM_day_2 rfl rfl ?_
  obtain ⟨hq3, h⟩ := xj_rq_i h
  refine xg_ci (pc := 3) (av := [xj_rv v0, .int v1, .int v2]) (st := []) (cy := prog_11_method_41_code) (nLy := 5) (rety := (some .int)) (hsy := []) B dM_day_3 (xj_go_v B dM_day_3 vwM_262 rfl hq3) (xj_vw_c vwM_262) (xj_vw_i vwM_262) (by decide) (by decide) (by decide) rfl (fun r9 h9 => cM_timeDay hl _ _ _ _ r9 h9) h (fun x1 A2 eA2 h => ?_)
  refine xg_istore_n (pc := 6) (i := 3) (ls' := [(3, .int x1), (0, xj_rv v0), (1, .int v1), (2, .int v2)]) B dM_day_6 rfl (by decide) ⟨xj_nq (a := 0) (i := 3) (by decide), xj_nq (a := 1) (i := 3) (by decide), fun _ => rfl, trivial⟩ rfl ?_
  refine xg_aload_n (pc := 7) (i := 0) (r := v0) B dM_day_7 rfl rfl ?_
  refine xg_iload_n (pc := 8) (i := 3) B dM_day_8 rfl rfl ?_
  refine xg_if_ge (pc := 9) (tgt := 16) B dM_day_9 (by decide) h (fun c9 h => ?_) (fun c9 h => ?_)
  · refine xg_iconst (pc := 16) (v := 0) B dM_day_16 (by decide) ?_
    refine xg_sub (ls' := [(3, .int x1)]) [0] rfl ?_
    exact wM_day_17 hl B x1 (0 : Int32) v0 A2 h
  · refine xg_iconst (pc := 12) (v := 1) B dM_day_12 (by decide) ?_
    refine xg_goto (pc := 13) (tgt := 17) B dM_day_13 (by decide) ?_
    refine xg_sub (ls' := [(3, .int x1)]) [0] rfl ?_
    exact wM_day_17 hl B x1 (1 : Int32) v0 A2 h
theorem cM_day {l : Launch} (hl : l.stackTraces = false) (v0 : xj_Rf) (v1 : Int32) (v2 : Int32) (A : xj_H) (r : xj_R) (h : fM_day v0 v1 v2 A = some r) : xj_M l yM_day prog_11_method_42_code 4 (some .int) [] 3 [xj_rv v0, .int v1, .int v2] A r := by
  refine xj_M.of hl (by decide +kernel) (by simp [lg_sl, xj_ic, xj_lc, xj_rv_cat]) (fun z B hA hr => ?_)
  subst hr
  have hw := wM_day hl B v0 v1 v2 A h
  simpa [lv_args, xj_ic, xj_lc, xj_rv_cat] using hw
/-! RecurrenceBookModel.moment(II)I -/
def fM_moment_43 (s0 : Int32) (A : xj_H) : Option xj_R :=
  some (.inl (some (.int s0)), A)
def fM_moment_17 (v0 : xj_Rf) (v1 : Int32) (v3 : Int32) (s0 : Int32) (s1 : xj_Rf) (A : xj_H) : Option xj_R :=
  xj_bi (xj_rq A s1 7 (fM_fails s1 s0 A)) fun x1 A2 =>
  if x1 = 0 then
    (xj_gr A2 v0 7 8).bind fun x3 =>
    (xj_ai A2 x3 0 v1).bind fun x4 =>
    xj_bi (xj_rq A2 v0 7 (fM_momentOf v0 (((1440 : Int32) * v3) + x4) A2)) fun x5 A6 =>
    fM_moment_43 x5 A6
  else
    fM_moment_43 (0 : Int32) A2
def fM_moment (v0 : xj_Rf) (v1 : Int32) (v2 : Int32) (A : xj_H) : Option xj_R :=
  xj_bi (xj_rq A v0 7 (fM_timeDay v0 v1 v2 A)) fun x1 A2 =>
  if 0 ≤ x1 then
    fM_moment_17 v0 v1 x1 (0 : Int32) v0 A2
  else
    fM_moment_17 v0 v1 x1 (1 : Int32) v0 A2
theorem wM_moment_43 {l : Launch} (hl : l.stackTraces = false) {z : xj_F} (B : xj_B l yM_moment prog_11_method_43_code 4 (some .int) [] 3 z) (s0 : Int32) (A : xj_H) (h : fM_moment_43 s0 A = some (xf_r z)) : xj_W l z 43 [] [.int s0] A := by
  unfold fM_moment_43 at h
  exact xg_iret B dM_moment_43 h
theorem wM_moment_17 {l : Launch} (hl : l.stackTraces = false) {z : xj_F} (B : xj_B l yM_moment prog_11_method_43_code 4 (some .int) [] 3 z) (v0 : xj_Rf) (v1 : Int32) (v3 : Int32) (s0 : Int32) (s1 : xj_Rf) (A : xj_H) (h : fM_moment_17 v0 v1 v3 s0 s1 A = some (xf_r z)) : xj_W l z 17 [(0, xj_rv v0), (1, .int v1), (3, .int v3)] [.int s0, xj_rv s1] A := by
  unfold fM_moment_17 at h
  obtain ⟨hq17, h⟩ := xj_rq_i h
  refine xg_ci (pc := 17) (av := [xj_rv s1, .int s0]) (st := []) (cy := prog_11_method_3_code) (nLy := 2) (rety := (some .boolean)) (hsy := []) B dM_moment_17 (xj_go_v B dM_moment_17 vwM_104 rfl hq17) (xj_vw_c vwM_104) (xj_vw_i vwM_104) (by decide) (by decide) (by decide) rfl (fun r9 h9 => cM_fails hl _ _ _ r9 h9) h (fun x1 A2 eA2 h => ?_)
  refine xg_if_eq (pc := 20) (tgt := 27) B dM_moment_20 (by decide) h (fun c20 h => ?_) (fun c20 h => ?_)
  · refine xg_aload_n (pc := 27) (i := 0) (r := v0) B dM_moment_27 rfl rfl ?_
    refine xg_sipush (pc := 28) (v := 1440) B dM_moment_28 (by decide) ?_
    refine xg_iload_n (pc := 31) (i := 3) B dM_moment_31 rfl rfl ?_
    refine xg_imul (pc := 32) B dM_moment_32 ?_
    refine xg_aload_n (pc := 33) (i := 0) (r := v0) B dM_moment_33 rfl rfl ?_
    refine xg_getr (pc := 34) B dM_moment_34 flM_19 h (fun x3 ex3 h => ?_)
    refine xg_iload_n (pc := 37) (i := 1) B dM_moment_37 rfl rfl ?_
    refine xg_iaload (pc := 38) B dM_moment_38 h (fun x4 ex4 h => ?_)
    refine xg_iadd (pc := 39) B dM_moment_39 ?_
    obtain ⟨hq40, h⟩ := xj_rq_i h
    refine xg_ci (pc := 40) (av := [xj_rv v0, .int (((1440 : Int32) * v3) + x4)]) (st := []) (cy := prog_11_method_16_code) (nLy := 2) (rety := (some .int)) (hsy := []) B dM_moment_40 (xj_go_v B dM_moment_40 vwM_265 rfl hq40) (xj_vw_c vwM_265) (xj_vw_i vwM_265) (by decide) (by decide) (by decide) rfl (fun r9 h9 => cM_momentOf hl _ _ _ r9 h9) h (fun x5 A6 eA6 h => ?_)
    refine xg_sub (ls' := []) [] rfl ?_
    exact wM_moment_43 hl B x5 A6 h
  · refine xg_iconst (pc := 23) (v := 0) B dM_moment_23 (by decide) ?_
    refine xg_goto (pc := 24) (tgt := 43) B dM_moment_24 (by decide) ?_
    refine xg_sub (ls' := []) [] rfl ?_
    exact wM_moment_43 hl B (0 : Int32) A2 h
theorem wM_moment {l : Launch} (hl : l.stackTraces = false) {z : xj_F} (B : xj_B l yM_moment prog_11_method_43_code 4 (some .int) [] 3 z) (v0 : xj_Rf) (v1 : Int32) (v2 : Int32) (A : xj_H) (h : fM_moment v0 v1 v2 A = some (xf_r z)) : xj_W l z 0 [(0, xj_rv v0), (1, .int v1), (2, .int v2)] [] A := by
  unfold fM_moment at h
  refine xg_aload_n (pc := 0) (i := 0) (r := v0) B dM_moment_0 rfl rfl ?_
  refine xg_iload_n (pc := 1) (i := 1) B dM_moment_1 rfl rfl ?_
  refine xg_iload_n (pc := 2) (i := 2) B dM_moment_2 rfl rfl ?_
  obtain ⟨hq3, h⟩ := xj_rq_i h
  refine xg_ci (pc := 3) (av := [xj_rv v0, .int v1, .int v2]) (st := []) (cy := prog_11_method_41_code) (nLy := 5) (rety := (some .int)) (hsy := []) B dM_moment_3 (xj_go_v B dM_moment_3 vwM_262 rfl hq3) (xj_vw_c vwM_262) (xj_vw_i vwM_262) (by decide) (by decide) (by decide) rfl (fun r9 h9 => cM_timeDay hl _ _ _ _ r9 h9) h (fun x1 A2 eA2 h => ?_)
  refine xg_istore_n (pc := 6) (i := 3) (ls' := [(3, .int x1), (0, xj_rv v0), (1, .int v1), (2, .int v2)]) B dM_moment_6 rfl (by decide) ⟨xj_nq (a := 0) (i := 3) (by decide), xj_nq (a := 1) (i := 3) (by decide), fun _ => rfl, trivial⟩ rfl ?_
  refine xg_aload_n (pc := 7) (i := 0) (r := v0) B dM_moment_7 rfl rfl ?_
  refine xg_iload_n (pc := 8) (i := 3) B dM_moment_8 rfl rfl ?_
  refine xg_if_ge (pc := 9) (tgt := 16) B dM_moment_9 (by decide) h (fun c9 h => ?_) (fun c9 h => ?_)
  · refine xg_iconst (pc := 16) (v := 0) B dM_moment_16 (by decide) ?_
    refine xg_sub (ls' := [(0, xj_rv v0), (1, .int v1), (3, .int x1)]) [1, 2, 0] rfl ?_
    exact wM_moment_17 hl B v0 v1 x1 (0 : Int32) v0 A2 h
  · refine xg_iconst (pc := 12) (v := 1) B dM_moment_12 (by decide) ?_
    refine xg_goto (pc := 13) (tgt := 17) B dM_moment_13 (by decide) ?_
    refine xg_sub (ls' := [(0, xj_rv v0), (1, .int v1), (3, .int x1)]) [1, 2, 0] rfl ?_
    exact wM_moment_17 hl B v0 v1 x1 (1 : Int32) v0 A2 h
theorem cM_moment {l : Launch} (hl : l.stackTraces = false) (v0 : xj_Rf) (v1 : Int32) (v2 : Int32) (A : xj_H) (r : xj_R) (h : fM_moment v0 v1 v2 A = some r) : xj_M l yM_moment prog_11_method_43_code 4 (some .int) [] 3 [xj_rv v0, .int v1, .int v2] A r := by
  refine xj_M.of hl (by decide +kernel) (by simp [lg_sl, xj_ic, xj_lc, xj_rv_cat]) (fun z B hA hr => ?_)
  subst hr
  have hw := wM_moment hl B v0 v1 v2 A h
  simpa [lv_args, xj_ic, xj_lc, xj_rv_cat] using hw
/-! RecurrenceBookModel.least(II)I -/
def fM_least_10 (s0 : Int32) (A : xj_H) : Option xj_R :=
  some (.inl (some (.int s0)), A)
def fM_least (v0 : Int32) (v1 : Int32) (A : xj_H) : Option xj_R :=
  if v1 ≤ v0 then
    fM_least_10 v1 A
  else
    fM_least_10 v0 A
theorem wM_least_10 {l : Launch} (hl : l.stackTraces = false) {z : xj_F} (B : xj_B l yM_least prog_11_method_44_code 2 (some .int) [] 1 z) (s0 : Int32) (A : xj_H) (h : fM_least_10 s0 A = some (xf_r z)) : xj_W l z 10 [] [.int s0] A := by
  unfold fM_least_10 at h
  exact xg_iret B dM_least_10 h
theorem wM_least {l : Launch} (hl : l.stackTraces = false) {z : xj_F} (B : xj_B l yM_least prog_11_method_44_code 2 (some .int) [] 1 z) (v0 : Int32) (v1 : Int32) (A : xj_H) (h : fM_least v0 v1 A = some (xf_r z)) : xj_W l z 0 [(0, .int v0), (1, .int v1)] [] A := by
  unfold fM_least at h
  refine xg_iload_n (pc := 0) (i := 0) B dM_least_0 rfl rfl ?_
  refine xg_iload_n (pc := 1) (i := 1) B dM_least_1 rfl rfl ?_
  refine xg_icmp_ge (pc := 2) (tgt := 9) B dM_least_2 (by decide) h (fun c2 h => ?_) (fun c2 h => ?_)
  · refine xg_iload_n (pc := 9) (i := 1) B dM_least_9 rfl rfl ?_
    refine xg_sub (ls' := []) [] rfl ?_
    exact wM_least_10 hl B v1 A h
  · refine xg_iload_n (pc := 5) (i := 0) B dM_least_5 rfl rfl ?_
    refine xg_goto (pc := 6) (tgt := 10) B dM_least_6 (by decide) ?_
    refine xg_sub (ls' := []) [] rfl ?_
    exact wM_least_10 hl B v0 A h
theorem cM_least {l : Launch} (hl : l.stackTraces = false) (v0 : Int32) (v1 : Int32) (A : xj_H) (r : xj_R) (h : fM_least v0 v1 A = some r) : xj_M l yM_least prog_11_method_44_code 2 (some .int) [] 1 [.int v0, .int v1] A r := by
  refine xj_M.of hl (by decide +kernel) (by simp [lg_sl, xj_ic, xj_lc, xj_rv_cat]) (fun z B hA hr => ?_)
  subst hr
  have hw := wM_least hl B v0 v1 A h
  simpa [lv_args, xj_ic, xj_lc, xj_rv_cat] using hw
/-! RecurrenceBookModel.greatest(II)I -/
def fM_greatest_10 (s0 : Int32) (A : xj_H) : Option xj_R :=
  some (.inl (some (.int s0)), A)
def fM_greatest (v0 : Int32) (v1 : Int32) (A : xj_H) : Option xj_R :=
  if v0 ≤ v1 then
    fM_greatest_10 v1 A
  else
    fM_greatest_10 v0 A
theorem wM_greatest_10 {l : Launch} (hl : l.stackTraces = false) {z : xj_F} (B : xj_B l yM_greatest prog_11_method_45_code 2 (some .int) [] 1 z) (s0 : Int32) (A : xj_H) (h : fM_greatest_10 s0 A = some (xf_r z)) : xj_W l z 10 [] [.int s0] A := by
  unfold fM_greatest_10 at h
  exact xg_iret B dM_greatest_10 h
theorem wM_greatest {l : Launch} (hl : l.stackTraces = false) {z : xj_F} (B : xj_B l yM_greatest prog_11_method_45_code 2 (some .int) [] 1 z) (v0 : Int32) (v1 : Int32) (A : xj_H) (h : fM_greatest v0 v1 A = some (xf_r z)) : xj_W l z 0 [(0, .int v0), (1, .int v1)] [] A := by
  unfold fM_greatest at h
  refine xg_iload_n (pc := 0) (i := 0) B dM_greatest_0 rfl rfl ?_
  refine xg_iload_n (pc := 1) (i := 1) B dM_greatest_1 rfl rfl ?_
  refine xg_icmp_le (pc := 2) (tgt := 9) B dM_greatest_2 (by decide) h (fun c2 h => ?_) (fun c2 h => ?_)
  · refine xg_iload_n (pc := 9) (i := 1) B dM_greatest_9 rfl rfl ?_
    refine xg_sub (ls' := []) [] rfl ?_
    exact wM_greatest_10 hl B v1 A h
  · refine xg_iload_n (pc := 5) (i := 0) B dM_greatest_5 rfl rfl ?_
    refine xg_goto (pc := 6) (tgt := 10) B dM_greatest_6 (by decide) ?_
    refine xg_sub (ls' := []) [] rfl ?_
    exact wM_greatest_10 hl B v0 A h
theorem cM_greatest {l : Launch} (hl : l.stackTraces = false) (v0 : Int32) (v1 : Int32) (A : xj_H) (r : xj_R) (h : fM_greatest v0 v1 A = some r) : xj_M l yM_greatest prog_11_method_45_code 2 (some .int) [] 1 [.int v0, .int v1] A r := by
  refine xj_M.of hl (by decide +kernel) (by simp [lg_sl, xj_ic, xj_lc, xj_rv_cat]) (fun z B hA hr => ?_)
  subst hr
  have hw := wM_greatest hl B v0 v1 A h
  simpa [lv_args, xj_ic, xj_lc, xj_rv_cat] using hw
